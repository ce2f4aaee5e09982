/-! all(o): from behind the making of its array -/
theorem d_L_all_0 : decode b_L_all 0 = .ok (.aload_n 0, 1) := by decide +kernel
theorem d_L_all_1 : decode b_L_all 1 = .ok (.invokevirtual 30, 3) := by decide +kernel
theorem d_L_all_4 : decode b_L_all 4 = .ok (.istore_n 1, 1) := by decide +kernel
theorem d_L_all_5 : decode b_L_all 5 = .ok (.aload_n 0, 1) := by decide +kernel
theorem d_L_all_6 : decode b_L_all 6 = .ok (.invokevirtual 33, 3) := by decide +kernel
theorem d_L_all_9 : decode b_L_all 9 = .ok (.istore_n 2, 1) := by decide +kernel
theorem d_L_all_10 : decode b_L_all 10 = .ok (.bipush 19, 2) := by decide +kernel
theorem d_L_all_12 : decode b_L_all 12 = .ok (.aload_n 0, 1) := by decide +kernel
theorem d_L_all_13 : decode b_L_all 13 = .ok (.invokevirtual 36, 3) := by decide +kernel
theorem d_L_all_16 : decode b_L_all 16 = .ok (.iadd, 1) := by decide +kernel
theorem d_L_all_17 : decode b_L_all 17 = .ok (.iconst 3, 1) := by decide +kernel
theorem d_L_all_18 : decode b_L_all 18 = .ok (.iload_n 1, 1) := by decide +kernel
theorem d_L_all_19 : decode b_L_all 19 = .ok (.imul, 1) := by decide +kernel
theorem d_L_all_20 : decode b_L_all 20 = .ok (.iadd, 1) := by decide +kernel
theorem d_L_all_21 : decode b_L_all 21 = .ok (.iconst 3, 1) := by decide +kernel
theorem d_L_all_22 : decode b_L_all 22 = .ok (.iload_n 2, 1) := by decide +kernel
theorem d_L_all_23 : decode b_L_all 23 = .ok (.imul, 1) := by decide +kernel
theorem d_L_all_24 : decode b_L_all 24 = .ok (.iadd, 1) := by decide +kernel
theorem d_L_all_25 : decode b_L_all 25 = .ok (.newarray .int, 2) := by decide +kernel
theorem d_L_all_27 : decode b_L_all 27 = .ok (.astore_n 3, 1) := by decide +kernel
theorem d_L_all_28 : decode b_L_all 28 = .ok (.iconst 0, 1) := by decide +kernel
theorem d_L_all_29 : decode b_L_all 29 = .ok (.istore 4, 2) := by decide +kernel
theorem d_L_all_31 : decode b_L_all 31 = .ok (.aload_n 3, 1) := by decide +kernel
theorem d_L_all_32 : decode b_L_all 32 = .ok (.iload 4, 2) := by decide +kernel
theorem d_L_all_34 : decode b_L_all 34 = .ok (.iinc 4 1, 3) := by decide +kernel
theorem d_L_all_37 : decode b_L_all 37 = .ok (.aload_n 0, 1) := by decide +kernel
theorem d_L_all_38 : decode b_L_all 38 = .ok (.invokevirtual 39, 3) := by decide +kernel
theorem d_L_all_41 : decode b_L_all 41 = .ok (.iastore, 1) := by decide +kernel
theorem d_L_all_42 : decode b_L_all 42 = .ok (.aload_n 3, 1) := by decide +kernel
theorem d_L_all_43 : decode b_L_all 43 = .ok (.iload 4, 2) := by decide +kernel
theorem d_L_all_45 : decode b_L_all 45 = .ok (.iinc 4 1, 3) := by decide +kernel
theorem d_L_all_48 : decode b_L_all 48 = .ok (.aload_n 0, 1) := by decide +kernel
theorem d_L_all_49 : decode b_L_all 49 = .ok (.invokevirtual 42, 3) := by decide +kernel
theorem d_L_all_52 : decode b_L_all 52 = .ok (.ifCond .eq 7, 3) := by decide +kernel
theorem d_L_all_55 : decode b_L_all 55 = .ok (.iconst 0, 1) := by decide +kernel
theorem d_L_all_56 : decode b_L_all 56 = .ok (.goto 15, 3) := by decide +kernel
theorem d_L_all_59 : decode b_L_all 59 = .ok (.aload_n 0, 1) := by decide +kernel
theorem d_L_all_60 : decode b_L_all 60 = .ok (.invokevirtual 46, 3) := by decide +kernel
theorem d_L_all_63 : decode b_L_all 63 = .ok (.ifCond .eq 7, 3) := by decide +kernel
theorem d_L_all_66 : decode b_L_all 66 = .ok (.iconst 1, 1) := by decide +kernel
theorem d_L_all_67 : decode b_L_all 67 = .ok (.goto 4, 3) := by decide +kernel
theorem d_L_all_70 : decode b_L_all 70 = .ok (.iconst 2, 1) := by decide +kernel
theorem d_L_all_71 : decode b_L_all 71 = .ok (.iastore, 1) := by decide +kernel
theorem d_L_all_72 : decode b_L_all 72 = .ok (.aload_n 3, 1) := by decide +kernel
theorem d_L_all_73 : decode b_L_all 73 = .ok (.iload 4, 2) := by decide +kernel
theorem d_L_all_75 : decode b_L_all 75 = .ok (.iinc 4 1, 3) := by decide +kernel
theorem d_L_all_78 : decode b_L_all 78 = .ok (.aload_n 0, 1) := by decide +kernel
theorem d_L_all_79 : decode b_L_all 79 = .ok (.invokevirtual 49, 3) := by decide +kernel
theorem d_L_all_82 : decode b_L_all 82 = .ok (.iastore, 1) := by decide +kernel
theorem d_L_all_83 : decode b_L_all 83 = .ok (.aload_n 3, 1) := by decide +kernel
theorem d_L_all_84 : decode b_L_all 84 = .ok (.iload 4, 2) := by decide +kernel
theorem d_L_all_86 : decode b_L_all 86 = .ok (.iinc 4 1, 3) := by decide +kernel
theorem d_L_all_89 : decode b_L_all 89 = .ok (.aload_n 0, 1) := by decide +kernel
theorem d_L_all_90 : decode b_L_all 90 = .ok (.invokevirtual 52, 3) := by decide +kernel
theorem d_L_all_93 : decode b_L_all 93 = .ok (.iastore, 1) := by decide +kernel
theorem d_L_all_94 : decode b_L_all 94 = .ok (.aload_n 3, 1) := by decide +kernel
theorem d_L_all_95 : decode b_L_all 95 = .ok (.iload 4, 2) := by decide +kernel
theorem d_L_all_97 : decode b_L_all 97 = .ok (.iinc 4 1, 3) := by decide +kernel
theorem d_L_all_100 : decode b_L_all 100 = .ok (.aload_n 0, 1) := by decide +kernel
theorem d_L_all_101 : decode b_L_all 101 = .ok (.invokevirtual 55, 3) := by decide +kernel
theorem d_L_all_104 : decode b_L_all 104 = .ok (.iastore, 1) := by decide +kernel
theorem d_L_all_105 : decode b_L_all 105 = .ok (.aload_n 3, 1) := by decide +kernel
theorem d_L_all_106 : decode b_L_all 106 = .ok (.iload 4, 2) := by decide +kernel
theorem d_L_all_108 : decode b_L_all 108 = .ok (.iinc 4 1, 3) := by decide +kernel
theorem d_L_all_111 : decode b_L_all 111 = .ok (.aload_n 0, 1) := by decide +kernel
theorem d_L_all_112 : decode b_L_all 112 = .ok (.invokevirtual 58, 3) := by decide +kernel
theorem d_L_all_115 : decode b_L_all 115 = .ok (.iastore, 1) := by decide +kernel
theorem d_L_all_116 : decode b_L_all 116 = .ok (.aload_n 3, 1) := by decide +kernel
theorem d_L_all_117 : decode b_L_all 117 = .ok (.iload 4, 2) := by decide +kernel
theorem d_L_all_119 : decode b_L_all 119 = .ok (.iinc 4 1, 3) := by decide +kernel
theorem d_L_all_122 : decode b_L_all 122 = .ok (.aload_n 0, 1) := by decide +kernel
theorem d_L_all_123 : decode b_L_all 123 = .ok (.invokevirtual 61, 3) := by decide +kernel
theorem d_L_all_126 : decode b_L_all 126 = .ok (.iastore, 1) := by decide +kernel
theorem d_L_all_127 : decode b_L_all 127 = .ok (.aload_n 3, 1) := by decide +kernel
theorem d_L_all_128 : decode b_L_all 128 = .ok (.iload 4, 2) := by decide +kernel
theorem d_L_all_130 : decode b_L_all 130 = .ok (.iinc 4 1, 3) := by decide +kernel
theorem d_L_all_133 : decode b_L_all 133 = .ok (.aload_n 0, 1) := by decide +kernel
theorem d_L_all_134 : decode b_L_all 134 = .ok (.invokevirtual 64, 3) := by decide +kernel
theorem d_L_all_137 : decode b_L_all 137 = .ok (.iastore, 1) := by decide +kernel
theorem d_L_all_138 : decode b_L_all 138 = .ok (.aload_n 3, 1) := by decide +kernel
theorem d_L_all_139 : decode b_L_all 139 = .ok (.iload 4, 2) := by decide +kernel
theorem d_L_all_141 : decode b_L_all 141 = .ok (.iinc 4 1, 3) := by decide +kernel
theorem d_L_all_144 : decode b_L_all 144 = .ok (.aload_n 0, 1) := by decide +kernel
theorem d_L_all_145 : decode b_L_all 145 = .ok (.invokevirtual 67, 3) := by decide +kernel
theorem d_L_all_148 : decode b_L_all 148 = .ok (.iastore, 1) := by decide +kernel
theorem d_L_all_149 : decode b_L_all 149 = .ok (.aload_n 3, 1) := by decide +kernel
theorem d_L_all_150 : decode b_L_all 150 = .ok (.iload 4, 2) := by decide +kernel
theorem d_L_all_152 : decode b_L_all 152 = .ok (.iinc 4 1, 3) := by decide +kernel
theorem d_L_all_155 : decode b_L_all 155 = .ok (.aload_n 0, 1) := by decide +kernel
theorem d_L_all_156 : decode b_L_all 156 = .ok (.invokevirtual 70, 3) := by decide +kernel
theorem d_L_all_159 : decode b_L_all 159 = .ok (.iastore, 1) := by decide +kernel
theorem d_L_all_160 : decode b_L_all 160 = .ok (.aload_n 3, 1) := by decide +kernel
theorem d_L_all_161 : decode b_L_all 161 = .ok (.iload 4, 2) := by decide +kernel
theorem d_L_all_163 : decode b_L_all 163 = .ok (.iinc 4 1, 3) := by decide +kernel
theorem d_L_all_166 : decode b_L_all 166 = .ok (.aload_n 0, 1) := by decide +kernel
theorem d_L_all_167 : decode b_L_all 167 = .ok (.invokevirtual 73, 3) := by decide +kernel
theorem d_L_all_170 : decode b_L_all 170 = .ok (.iastore, 1) := by decide +kernel
theorem d_L_all_171 : decode b_L_all 171 = .ok (.aload_n 3, 1) := by decide +kernel
theorem d_L_all_172 : decode b_L_all 172 = .ok (.iload 4, 2) := by decide +kernel
theorem d_L_all_174 : decode b_L_all 174 = .ok (.iinc 4 1, 3) := by decide +kernel
theorem d_L_all_177 : decode b_L_all 177 = .ok (.aload_n 0, 1) := by decide +kernel
theorem d_L_all_178 : decode b_L_all 178 = .ok (.invokevirtual 76, 3) := by decide +kernel
theorem d_L_all_181 : decode b_L_all 181 = .ok (.iastore, 1) := by decide +kernel
theorem d_L_all_182 : decode b_L_all 182 = .ok (.aload_n 3, 1) := by decide +kernel
theorem d_L_all_183 : decode b_L_all 183 = .ok (.iload 4, 2) := by decide +kernel
theorem d_L_all_185 : decode b_L_all 185 = .ok (.iinc 4 1, 3) := by decide +kernel
theorem d_L_all_188 : decode b_L_all 188 = .ok (.aload_n 0, 1) := by decide +kernel
theorem d_L_all_189 : decode b_L_all 189 = .ok (.invokevirtual 79, 3) := by decide +kernel
theorem d_L_all_192 : decode b_L_all 192 = .ok (.iastore, 1) := by decide +kernel
theorem d_L_all_193 : decode b_L_all 193 = .ok (.aload_n 3, 1) := by decide +kernel
theorem d_L_all_194 : decode b_L_all 194 = .ok (.iload 4, 2) := by decide +kernel
theorem d_L_all_196 : decode b_L_all 196 = .ok (.iinc 4 1, 3) := by decide +kernel
theorem d_L_all_199 : decode b_L_all 199 = .ok (.iload_n 1, 1) := by decide +kernel
theorem d_L_all_200 : decode b_L_all 200 = .ok (.iastore, 1) := by decide +kernel
theorem d_L_all_201 : decode b_L_all 201 = .ok (.aload_n 3, 1) := by decide +kernel
theorem d_L_all_202 : decode b_L_all 202 = .ok (.iload 4, 2) := by decide +kernel
theorem d_L_all_204 : decode b_L_all 204 = .ok (.iinc 4 1, 3) := by decide +kernel
theorem d_L_all_207 : decode b_L_all 207 = .ok (.iload_n 2, 1) := by decide +kernel
theorem d_L_all_208 : decode b_L_all 208 = .ok (.iastore, 1) := by decide +kernel
theorem d_L_all_209 : decode b_L_all 209 = .ok (.aload_n 3, 1) := by decide +kernel
theorem d_L_all_210 : decode b_L_all 210 = .ok (.iload 4, 2) := by decide +kernel
theorem d_L_all_212 : decode b_L_all 212 = .ok (.iinc 4 1, 3) := by decide +kernel
theorem d_L_all_215 : decode b_L_all 215 = .ok (.aload_n 0, 1) := by decide +kernel
theorem d_L_all_216 : decode b_L_all 216 = .ok (.invokevirtual 82, 3) := by decide +kernel
theorem d_L_all_219 : decode b_L_all 219 = .ok (.iastore, 1) := by decide +kernel
theorem d_L_all_220 : decode b_L_all 220 = .ok (.aload_n 3, 1) := by decide +kernel
theorem d_L_all_221 : decode b_L_all 221 = .ok (.iload 4, 2) := by decide +kernel
theorem d_L_all_223 : decode b_L_all 223 = .ok (.iinc 4 1, 3) := by decide +kernel
theorem d_L_all_226 : decode b_L_all 226 = .ok (.aload_n 0, 1) := by decide +kernel
theorem d_L_all_227 : decode b_L_all 227 = .ok (.invokevirtual 85, 3) := by decide +kernel
theorem d_L_all_230 : decode b_L_all 230 = .ok (.iastore, 1) := by decide +kernel
theorem d_L_all_231 : decode b_L_all 231 = .ok (.aload_n 3, 1) := by decide +kernel
theorem d_L_all_232 : decode b_L_all 232 = .ok (.iload 4, 2) := by decide +kernel
theorem d_L_all_234 : decode b_L_all 234 = .ok (.iinc 4 1, 3) := by decide +kernel
theorem d_L_all_237 : decode b_L_all 237 = .ok (.aload_n 0, 1) := by decide +kernel
theorem d_L_all_238 : decode b_L_all 238 = .ok (.invokevirtual 88, 3) := by decide +kernel
theorem d_L_all_241 : decode b_L_all 241 = .ok (.iastore, 1) := by decide +kernel
theorem d_L_all_242 : decode b_L_all 242 = .ok (.aload_n 3, 1) := by decide +kernel
theorem d_L_all_243 : decode b_L_all 243 = .ok (.iload 4, 2) := by decide +kernel
theorem d_L_all_245 : decode b_L_all 245 = .ok (.iinc 4 1, 3) := by decide +kernel
theorem d_L_all_248 : decode b_L_all 248 = .ok (.aload_n 0, 1) := by decide +kernel
theorem d_L_all_249 : decode b_L_all 249 = .ok (.invokevirtual 36, 3) := by decide +kernel
theorem d_L_all_252 : decode b_L_all 252 = .ok (.iastore, 1) := by decide +kernel
theorem d_L_all_253 : decode b_L_all 253 = .ok (.iconst 0, 1) := by decide +kernel
theorem d_L_all_254 : decode b_L_all 254 = .ok (.istore 5, 2) := by decide +kernel
theorem d_L_all_256 : decode b_L_all 256 = .ok (.iload 5, 2) := by decide +kernel
theorem d_L_all_258 : decode b_L_all 258 = .ok (.aload_n 0, 1) := by decide +kernel
theorem d_L_all_259 : decode b_L_all 259 = .ok (.invokevirtual 36, 3) := by decide +kernel
theorem d_L_all_262 : decode b_L_all 262 = .ok (.if_icmp .ge 22, 3) := by decide +kernel
theorem d_L_all_265 : decode b_L_all 265 = .ok (.aload_n 3, 1) := by decide +kernel
theorem d_L_all_266 : decode b_L_all 266 = .ok (.iload 4, 2) := by decide +kernel
theorem d_L_all_268 : decode b_L_all 268 = .ok (.iinc 4 1, 3) := by decide +kernel
theorem d_L_all_271 : decode b_L_all 271 = .ok (.aload_n 0, 1) := by decide +kernel
theorem d_L_all_272 : decode b_L_all 272 = .ok (.iload 5, 2) := by decide +kernel
theorem d_L_all_274 : decode b_L_all 274 = .ok (.invokevirtual 91, 3) := by decide +kernel
theorem d_L_all_277 : decode b_L_all 277 = .ok (.iastore, 1) := by decide +kernel
theorem d_L_all_278 : decode b_L_all 278 = .ok (.iinc 5 1, 3) := by decide +kernel
theorem d_L_all_281 : decode b_L_all 281 = .ok (.goto (-25), 3) := by decide +kernel
theorem d_L_all_284 : decode b_L_all 284 = .ok (.iconst 0, 1) := by decide +kernel
theorem d_L_all_285 : decode b_L_all 285 = .ok (.istore 5, 2) := by decide +kernel
theorem d_L_all_287 : decode b_L_all 287 = .ok (.iload 5, 2) := by decide +kernel
theorem d_L_all_289 : decode b_L_all 289 = .ok (.iload_n 1, 1) := by decide +kernel
theorem d_L_all_290 : decode b_L_all 290 = .ok (.if_icmp .ge 48, 3) := by decide +kernel
theorem d_L_all_293 : decode b_L_all 293 = .ok (.aload_n 3, 1) := by decide +kernel
theorem d_L_all_294 : decode b_L_all 294 = .ok (.iload 4, 2) := by decide +kernel
theorem d_L_all_296 : decode b_L_all 296 = .ok (.iinc 4 1, 3) := by decide +kernel
theorem d_L_all_299 : decode b_L_all 299 = .ok (.aload_n 0, 1) := by decide +kernel
theorem d_L_all_300 : decode b_L_all 300 = .ok (.iload 5, 2) := by decide +kernel
theorem d_L_all_302 : decode b_L_all 302 = .ok (.invokevirtual 95, 3) := by decide +kernel
theorem d_L_all_305 : decode b_L_all 305 = .ok (.iastore, 1) := by decide +kernel
theorem d_L_all_306 : decode b_L_all 306 = .ok (.aload_n 3, 1) := by decide +kernel
theorem d_L_all_307 : decode b_L_all 307 = .ok (.iload 4, 2) := by decide +kernel
theorem d_L_all_309 : decode b_L_all 309 = .ok (.iinc 4 1, 3) := by decide +kernel
theorem d_L_all_312 : decode b_L_all 312 = .ok (.aload_n 0, 1) := by decide +kernel
theorem d_L_all_313 : decode b_L_all 313 = .ok (.iload 5, 2) := by decide +kernel
theorem d_L_all_315 : decode b_L_all 315 = .ok (.invokevirtual 98, 3) := by decide +kernel
theorem d_L_all_318 : decode b_L_all 318 = .ok (.iastore, 1) := by decide +kernel
theorem d_L_all_319 : decode b_L_all 319 = .ok (.aload_n 3, 1) := by decide +kernel
theorem d_L_all_320 : decode b_L_all 320 = .ok (.iload 4, 2) := by decide +kernel
theorem d_L_all_322 : decode b_L_all 322 = .ok (.iinc 4 1, 3) := by decide +kernel
theorem d_L_all_325 : decode b_L_all 325 = .ok (.aload_n 0, 1) := by decide +kernel
theorem d_L_all_326 : decode b_L_all 326 = .ok (.iload 5, 2) := by decide +kernel
theorem d_L_all_328 : decode b_L_all 328 = .ok (.invokevirtual 101, 3) := by decide +kernel
theorem d_L_all_331 : decode b_L_all 331 = .ok (.iastore, 1) := by decide +kernel
theorem d_L_all_332 : decode b_L_all 332 = .ok (.iinc 5 1, 3) := by decide +kernel
theorem d_L_all_335 : decode b_L_all 335 = .ok (.goto (-48), 3) := by decide +kernel
theorem d_L_all_338 : decode b_L_all 338 = .ok (.iconst 0, 1) := by decide +kernel
theorem d_L_all_339 : decode b_L_all 339 = .ok (.istore 5, 2) := by decide +kernel
theorem d_L_all_341 : decode b_L_all 341 = .ok (.iload 5, 2) := by decide +kernel
theorem d_L_all_343 : decode b_L_all 343 = .ok (.iload_n 2, 1) := by decide +kernel
theorem d_L_all_344 : decode b_L_all 344 = .ok (.if_icmp .ge 48, 3) := by decide +kernel
theorem d_L_all_347 : decode b_L_all 347 = .ok (.aload_n 3, 1) := by decide +kernel
theorem d_L_all_348 : decode b_L_all 348 = .ok (.iload 4, 2) := by decide +kernel
theorem d_L_all_350 : decode b_L_all 350 = .ok (.iinc 4 1, 3) := by decide +kernel
theorem d_L_all_353 : decode b_L_all 353 = .ok (.aload_n 0, 1) := by decide +kernel
theorem d_L_all_354 : decode b_L_all 354 = .ok (.iload 5, 2) := by decide +kernel
theorem d_L_all_356 : decode b_L_all 356 = .ok (.invokevirtual 104, 3) := by decide +kernel
theorem d_L_all_359 : decode b_L_all 359 = .ok (.iastore, 1) := by decide +kernel
theorem d_L_all_360 : decode b_L_all 360 = .ok (.aload_n 3, 1) := by decide +kernel
theorem d_L_all_361 : decode b_L_all 361 = .ok (.iload 4, 2) := by decide +kernel
theorem d_L_all_363 : decode b_L_all 363 = .ok (.iinc 4 1, 3) := by decide +kernel
theorem d_L_all_366 : decode b_L_all 366 = .ok (.aload_n 0, 1) := by decide +kernel
theorem d_L_all_367 : decode b_L_all 367 = .ok (.iload 5, 2) := by decide +kernel
theorem d_L_all_369 : decode b_L_all 369 = .ok (.invokevirtual 107, 3) := by decide +kernel
theorem d_L_all_372 : decode b_L_all 372 = .ok (.iastore, 1) := by decide +kernel
theorem d_L_all_373 : decode b_L_all 373 = .ok (.aload_n 3, 1) := by decide +kernel
theorem d_L_all_374 : decode b_L_all 374 = .ok (.iload 4, 2) := by decide +kernel
theorem d_L_all_376 : decode b_L_all 376 = .ok (.iinc 4 1, 3) := by decide +kernel
theorem d_L_all_379 : decode b_L_all 379 = .ok (.aload_n 0, 1) := by decide +kernel
theorem d_L_all_380 : decode b_L_all 380 = .ok (.iload 5, 2) := by decide +kernel
theorem d_L_all_382 : decode b_L_all 382 = .ok (.invokevirtual 110, 3) := by decide +kernel
theorem d_L_all_385 : decode b_L_all 385 = .ok (.iastore, 1) := by decide +kernel
theorem d_L_all_386 : decode b_L_all 386 = .ok (.iinc 5 1, 3) := by decide +kernel
theorem d_L_all_389 : decode b_L_all 389 = .ok (.goto (-48), 3) := by decide +kernel
theorem d_L_all_392 : decode b_L_all 392 = .ok (.aload_n 3, 1) := by decide +kernel
theorem d_L_all_393 : decode b_L_all 393 = .ok (.areturn, 1) := by decide +kernel
theorem cc_L_58 : CV "KiteLoggerLaw" 58 y_G_endurance b_G_endurance 1 (some .int) 0 := ⟨TT_in (i := 731) (by decide +kernel) (by decide +kernel), TT_in (i := 732) (by decide +kernel) (by decide +kernel), TT_in (i := 733) (by decide +kernel) (by decide +kernel), TT_in (i := 18) (by decide +kernel) (by decide +kernel), TT_in (i := 734) (by decide +kernel) (by decide +kernel), ⟨by decide +kernel, by decide +kernel, by decide +kernel⟩⟩
theorem cc_L_85 : CV "KiteLoggerLaw" 85 y_G_area b_G_area 1 (some .int) 0 := ⟨TT_in (i := 767) (by decide +kernel) (by decide +kernel), TT_in (i := 768) (by decide +kernel) (by decide +kernel), TT_in (i := 769) (by decide +kernel) (by decide +kernel), TT_in (i := 18) (by decide +kernel) (by decide +kernel), TT_in (i := 770) (by decide +kernel) (by decide +kernel), ⟨by decide +kernel, by decide +kernel, by decide +kernel⟩⟩
theorem cc_L_110 : CV "KiteLoggerLaw" 110 y_G_archivedGust b_G_archivedGust 2 (some .int) 1 := ⟨TT_in (i := 850) (by decide +kernel) (by decide +kernel), TT_in (i := 851) (by decide +kernel) (by decide +kernel), TT_in (i := 852) (by decide +kernel) (by decide +kernel), TT_in (i := 18) (by decide +kernel) (by decide +kernel), TT_in (i := 853) (by decide +kernel) (by decide +kernel), ⟨by decide +kernel, by decide +kernel, by decide +kernel⟩⟩
def lp_L_all_256 (N0 rr : Nat) (q nq : Nat) (c1 : Int32) (c2 : Int32) : Nat → Int32 × Int32 → Mem → (Int32 × Int32 → Mem → Option (Mem)) → Option (Mem)
  | 0, _, _, _ => none
  | N + 1, v256, M, k256 => bnd (f_G_bufferSize M) fun (x76 : Int32) (M77 : Mem) => if v256.2 < x76 then (nm (v256.1 + (1 : Int32)) fun (x78 : Int32) => bnd (f_G_bufferedWind v256.2 M77) fun (x79 : Int32) (M80 : Mem) => grd (inB v256.1 nq) (nm (put M80 q v256.1.toNatClampNeg x79) fun (M81 : Mem) => nm (v256.2 + (1 : Int32)) fun (x82 : Int32) => lp_L_all_256 N0 rr q nq c1 c2 N (x78, x82) M81 k256)) else (k256 (v256.1, v256.2) M77)
def lp_L_all_287 (N0 rr : Nat) (q nq : Nat) (c1 : Int32) (c2 : Int32) : Nat → Int32 × Int32 → Mem → (Int32 × Int32 → Mem → Option (Mem)) → Option (Mem)
  | 0, _, _, _ => none
  | N + 1, v287, M, k287 => if v287.2 < c1 then (nm (v287.1 + (1 : Int32)) fun (x85 : Int32) => bnd (f_G_loggedTick v287.2 M) fun (x86 : Int32) (M87 : Mem) => grd (inB v287.1 nq) (nm (put M87 q v287.1.toNatClampNeg x86) fun (M88 : Mem) => nm (x85 + (1 : Int32)) fun (x89 : Int32) => bnd (f_G_loggedHeight v287.2 M88) fun (x90 : Int32) (M91 : Mem) => grd (inB x85 nq) (nm (put M91 q x85.toNatClampNeg x90) fun (M92 : Mem) => nm (x89 + (1 : Int32)) fun (x93 : Int32) => bnd (f_G_loggedGust v287.2 M92) fun (x94 : Int32) (M95 : Mem) => grd (inB x89 nq) (nm (put M95 q x89.toNatClampNeg x94) fun (M96 : Mem) => nm (v287.2 + (1 : Int32)) fun (x97 : Int32) => lp_L_all_287 N0 rr q nq c1 c2 N (x93, x97) M96 k287)))) else (k287 (v287.1, v287.2) M)
def lp_L_all_341 (N0 rr : Nat) (q nq : Nat) (c1 : Int32) (c2 : Int32) : Nat → Int32 × Int32 → Mem → (Int32 × Int32 → Mem → Option (Mem)) → Option (Mem)
  | 0, _, _, _ => none
  | N + 1, v341, M, k341 => if v341.2 < c2 then (nm (v341.1 + (1 : Int32)) fun (x100 : Int32) => bnd (f_G_archivedTick v341.2 M) fun (x101 : Int32) (M102 : Mem) => grd (inB v341.1 nq) (nm (put M102 q v341.1.toNatClampNeg x101) fun (M103 : Mem) => nm (x100 + (1 : Int32)) fun (x104 : Int32) => bnd (f_G_archivedHeight v341.2 M103) fun (x105 : Int32) (M106 : Mem) => grd (inB x100 nq) (nm (put M106 q x100.toNatClampNeg x105) fun (M107 : Mem) => nm (x104 + (1 : Int32)) fun (x108 : Int32) => bnd (f_G_archivedGust v341.2 M107) fun (x109 : Int32) (M110 : Mem) => grd (inB x104 nq) (nm (put M110 q x104.toNatClampNeg x109) fun (M111 : Mem) => nm (v341.2 + (1 : Int32)) fun (x112 : Int32) => lp_L_all_341 N0 rr q nq c1 c2 N (x108, x112) M111 k341)))) else (k341 (v341.1, v341.2) M)
def f_L_all (N : Nat) (rr : Nat) (q nq : Nat) (v1 v2 : Int32) (M : Mem) : Option Mem :=
  nm ((0 : Int32) + (1 : Int32)) fun (x1 : Int32) => bnd (f_G_tick M) fun (x2 : Int32) (M3 : Mem) => grd (inB (0 : Int32) nq) (nm (put M3 q (0 : Int32).toNatClampNeg x2) fun (M4 : Mem) => nm (x1 + (1 : Int32)) fun (x5 : Int32) => bnd (f_G_isLanded M4) fun (x6 : Bool) (M7 : Mem) => jn (fun (x9 : Int32) (M10 : Mem) => grd (inB x1 nq) (nm (put M10 q x1.toNatClampNeg x9) fun (M11 : Mem) => nm (x5 + (1 : Int32)) fun (x12 : Int32) => bnd (f_G_height M11) fun (x13 : Int32) (M14 : Mem) => grd (inB x5 nq) (nm (put M14 q x5.toNatClampNeg x13) fun (M15 : Mem) => nm (x12 + (1 : Int32)) fun (x16 : Int32) => bnd (f_G_tether M15) fun (x17 : Int32) (M18 : Mem) => grd (inB x12 nq) (nm (put M18 q x12.toNatClampNeg x17) fun (M19 : Mem) => nm (x16 + (1 : Int32)) fun (x20 : Int32) => bnd (f_G_limit M19) fun (x21 : Int32) (M22 : Mem) => grd (inB x16 nq) (nm (put M22 q x16.toNatClampNeg x21) fun (M23 : Mem) => nm (x20 + (1 : Int32)) fun (x24 : Int32) => bnd (f_G_endurance M23) fun (x25 : Int32) (M26 : Mem) => grd (inB x20 nq) (nm (put M26 q x20.toNatClampNeg x25) fun (M27 : Mem) => nm (x24 + (1 : Int32)) fun (x28 : Int32) => bnd (f_G_wear M27) fun (x29 : Int32) (M30 : Mem) => grd (inB x24 nq) (nm (put M30 q x24.toNatClampNeg x29) fun (M31 : Mem) => nm (x28 + (1 : Int32)) fun (x32 : Int32) => bnd (f_G_flightTime M31) fun (x33 : Int32) (M34 : Mem) => grd (inB x28 nq) (nm (put M34 q x28.toNatClampNeg x33) fun (M35 : Mem) => nm (x32 + (1 : Int32)) fun (x36 : Int32) => bnd (f_G_beaconTime M35) fun (x37 : Int32) (M38 : Mem) => grd (inB x32 nq) (nm (put M38 q x32.toNatClampNeg x37) fun (M39 : Mem) => nm (x36 + (1 : Int32)) fun (x40 : Int32) => bnd (f_G_launches M39) fun (x41 : Int32) (M42 : Mem) => grd (inB x36 nq) (nm (put M42 q x36.toNatClampNeg x41) fun (M43 : Mem) => nm (x40 + (1 : Int32)) fun (x44 : Int32) => bnd (f_G_snaps M43) fun (x45 : Int32) (M46 : Mem) => grd (inB x40 nq) (nm (put M46 q x40.toNatClampNeg x45) fun (M47 : Mem) => nm (x44 + (1 : Int32)) fun (x48 : Int32) => bnd (f_G_searches M47) fun (x49 : Int32) (M50 : Mem) => grd (inB x44 nq) (nm (put M50 q x44.toNatClampNeg x49) fun (M51 : Mem) => nm (x48 + (1 : Int32)) fun (x52 : Int32) => bnd (f_G_interval M51) fun (x53 : Int32) (M54 : Mem) => grd (inB x48 nq) (nm (put M54 q x48.toNatClampNeg x53) fun (M55 : Mem) => nm (x52 + (1 : Int32)) fun (x56 : Int32) => grd (inB x52 nq) (nm (put M55 q x52.toNatClampNeg v1) fun (M57 : Mem) => nm (x56 + (1 : Int32)) fun (x58 : Int32) => grd (inB x56 nq) (nm (put M57 q x56.toNatClampNeg v2) fun (M59 : Mem) => nm (x58 + (1 : Int32)) fun (x60 : Int32) => bnd (f_G_droppedCount M59) fun (x61 : Int32) (M62 : Mem) => grd (inB x58 nq) (nm (put M62 q x58.toNatClampNeg x61) fun (M63 : Mem) => nm (x60 + (1 : Int32)) fun (x64 : Int32) => bnd (f_G_area M63) fun (x65 : Int32) (M66 : Mem) => grd (inB x60 nq) (nm (put M66 q x60.toNatClampNeg x65) fun (M67 : Mem) => nm (x64 + (1 : Int32)) fun (x68 : Int32) => bnd (f_G_patternLength M67) fun (x69 : Int32) (M70 : Mem) => grd (inB x64 nq) (nm (put M70 q x64.toNatClampNeg x69) fun (M71 : Mem) => nm (x68 + (1 : Int32)) fun (x72 : Int32) => bnd (f_G_bufferSize M71) fun (x73 : Int32) (M74 : Mem) => grd (inB x68 nq) (nm (put M74 q x68.toNatClampNeg x73) fun (M75 : Mem) => lp_L_all_256 N rr q nq v1 v2 N (x72, (0 : Int32)) M75 (fun (a84 : Int32 × Int32) (M83 : Mem) => lp_L_all_287 N rr q nq v1 v2 N (a84.1, (0 : Int32)) M83 (fun (a99 : Int32 × Int32) (M98 : Mem) => lp_L_all_341 N rr q nq v1 v2 N (a99.1, (0 : Int32)) M98 (fun (a114 : Int32 × Int32) (M113 : Mem) => some M113)))))))))))))))))))))) (fun j8 => if x6 = true then (j8 (0 : Int32) M7) else (bnd (f_G_isFlying M7) fun (x115 : Bool) (M116 : Mem) => if x115 = true then (j8 (1 : Int32) M116) else (j8 (2 : Int32) M116))))
abbrev rmA : Room := { frames := 3, cells := 1, slots := 400, locals := 64 * 3 }
set_option maxHeartbeats 40000000 in
set_option maxRecDepth 100000 in
theorem g_L_all (l : Launch) (N : Nat) {w : Wc} {rr k n : Nat} (hkn : k ≤ rmA.cells ∧ n ≤ rmA.slots) (hw : WK w rr) {p0 : Program} {e : Env} {s : State} {m : MethodId} {args : Array Value} {below : List Frame} {meth : Method} {c : Code} (g : Gd p0 s m args meth c w 6 b_L_all "KiteLoggerLaw") {Qf : Mem → State → Prop} (q nq : Nat) (hmq : q ∈ wL w) (hkq : (wZ w q).1 = 20) (hnq : (wZ w q).2.1 = nq) (hend : ∀ (L : List (Nat × Value)) (M : Mem), Go p0 l e rmA s m args below meth c w 6 k n Qf (some M) 393 L [.ref (wad w q)] M) (v1 v2 : Int32) (M : Mem) : Go p0 l e rmA s m args below meth c w 6 k n Qf (f_L_all N rr q nq v1 v2 M) 28 [(0, .ref (wad w 0)), (1, .int v1), (2, .int v2), (3, .ref (wad w q))] [] M := by
  unfold f_L_all
  refine G_iconst g (pc := 28) (0 : Int32) d_L_all_28 rfl ?_
  refine G_istore g (pc := 29) _ d_L_all_29 (Nat.le_of_ble_eq_true rfl) rfl ?_
  refine G_sub [0, 1, 2, 3, 4] [(4, .int (0 : Int32)), (0, .ref (wad w 0)), (1, .int v1), (2, .int v2), (3, .ref (wad w q))] rfl ?_
  refine G_aload_n g (pc := 31) 4 d_L_all_31 rfl rfl ?_
  refine G_iload g (pc := 32) 0 d_L_all_32 rfl ?_
  refine G_nmX ((0 : Int32) + (1 : Int32)) (fun x1 e_x1 => ?_)
  refine G_iinc g (pc := 34) x1 _ 0 d_L_all_34 rfl e_x1.symm (Nat.le_of_ble_eq_true rfl) rfl ?_
  refine G_sub [0, 1, 2, 3, 4] [(4, .int x1), (0, .ref (wad w 0)), (1, .int v1), (2, .int v2), (3, .ref (wad w q))] rfl ?_
  refine G_aload_n g (pc := 37) 1 d_L_all_37 rfl rfl ?_
  refine G_cVI0 g (pc := 38) (As := []) (st := [.int (0 : Int32), .ref (wad w q)]) cc_L_39 (c_G_tick l hw M) (hw.m 0 (Nat.le_of_ble_eq_true rfl)) (hw.k (Nat.le_of_ble_eq_true rfl) (zk0 rr)) rfl (by decide) rfl ⟨(Nat.le_of_ble_eq_true rfl), (Nat.le_of_ble_eq_true rfl)⟩ hkn (Nat.le_of_ble_eq_true rfl) d_L_all_38 (fun x2 M3 => ?_)
  refine G_iast g (pc := 41) (nn := nq) hmq hkq hnq d_L_all_41 ?_
  refine G_nmM (fun M4 => ?_)
  refine G_aload_n g (pc := 42) 4 d_L_all_42 rfl rfl ?_
  refine G_iload g (pc := 43) 0 d_L_all_43 rfl ?_
  refine G_nmX (x1 + (1 : Int32)) (fun x5 e_x5 => ?_)
  refine G_iinc g (pc := 45) x5 _ 0 d_L_all_45 rfl e_x5.symm (Nat.le_of_ble_eq_true rfl) rfl ?_
  refine G_sub [0, 1, 2, 3, 4] [(4, .int x5), (0, .ref (wad w 0)), (1, .int v1), (2, .int v2), (3, .ref (wad w q))] rfl ?_
  refine G_aload_n g (pc := 48) 1 d_L_all_48 rfl rfl ?_
  refine G_cVZ0 g (pc := 49) (As := []) (st := [.int x1, .ref (wad w q)]) cc_L_42 (c_G_isLanded l hw M4) (hw.m 0 (Nat.le_of_ble_eq_true rfl)) (hw.k (Nat.le_of_ble_eq_true rfl) (zk0 rr)) rfl (by decide) rfl ⟨(Nat.le_of_ble_eq_true rfl), (Nat.le_of_ble_eq_true rfl)⟩ hkn (Nat.le_of_ble_eq_true rfl) d_L_all_49 (fun x6 M7 => ?_)
  refine G_jn 71 (fun _ => [(4, .int x5), (0, .ref (wad w 0)), (1, .int v1), (2, .int v2), (3, .ref (wad w q))]) (fun (x9 : Int32) => [.int x9, .int x1, .ref (wad w q)]) (fun x9 M10 => ?_) (fun j8 hj8 => ?_)
  · refine G_iast g (pc := 71) (nn := nq) hmq hkq hnq d_L_all_71 ?_
    refine G_nmM (fun M11 => ?_)
    refine G_aload_n g (pc := 72) 4 d_L_all_72 rfl rfl ?_
    refine G_iload g (pc := 73) 0 d_L_all_73 rfl ?_
    refine G_nmX (x5 + (1 : Int32)) (fun x12 e_x12 => ?_)
    refine G_iinc g (pc := 75) x12 _ 0 d_L_all_75 rfl e_x12.symm (Nat.le_of_ble_eq_true rfl) rfl ?_
    refine G_sub [0, 1, 2, 3, 4] [(4, .int x12), (0, .ref (wad w 0)), (1, .int v1), (2, .int v2), (3, .ref (wad w q))] rfl ?_
    refine G_aload_n g (pc := 78) 1 d_L_all_78 rfl rfl ?_
    refine G_cVI0 g (pc := 79) (As := []) (st := [.int x5, .ref (wad w q)]) cc_L_49 (c_G_height l hw M11) (hw.m 0 (Nat.le_of_ble_eq_true rfl)) (hw.k (Nat.le_of_ble_eq_true rfl) (zk0 rr)) rfl (by decide) rfl ⟨(Nat.le_of_ble_eq_true rfl), (Nat.le_of_ble_eq_true rfl)⟩ hkn (Nat.le_of_ble_eq_true rfl) d_L_all_79 (fun x13 M14 => ?_)
    refine G_iast g (pc := 82) (nn := nq) hmq hkq hnq d_L_all_82 ?_
    refine G_nmM (fun M15 => ?_)
    refine G_aload_n g (pc := 83) 4 d_L_all_83 rfl rfl ?_
    refine G_iload g (pc := 84) 0 d_L_all_84 rfl ?_
    refine G_nmX (x12 + (1 : Int32)) (fun x16 e_x16 => ?_)
    refine G_iinc g (pc := 86) x16 _ 0 d_L_all_86 rfl e_x16.symm (Nat.le_of_ble_eq_true rfl) rfl ?_
    refine G_sub [0, 1, 2, 3, 4] [(4, .int x16), (0, .ref (wad w 0)), (1, .int v1), (2, .int v2), (3, .ref (wad w q))] rfl ?_
    refine G_aload_n g (pc := 89) 1 d_L_all_89 rfl rfl ?_
    refine G_cVI0 g (pc := 90) (As := []) (st := [.int x12, .ref (wad w q)]) cc_L_52 (c_G_tether l hw M15) (hw.m 0 (Nat.le_of_ble_eq_true rfl)) (hw.k (Nat.le_of_ble_eq_true rfl) (zk0 rr)) rfl (by decide) rfl ⟨(Nat.le_of_ble_eq_true rfl), (Nat.le_of_ble_eq_true rfl)⟩ hkn (Nat.le_of_ble_eq_true rfl) d_L_all_90 (fun x17 M18 => ?_)
    refine G_iast g (pc := 93) (nn := nq) hmq hkq hnq d_L_all_93 ?_
    refine G_nmM (fun M19 => ?_)
    refine G_aload_n g (pc := 94) 4 d_L_all_94 rfl rfl ?_
    refine G_iload g (pc := 95) 0 d_L_all_95 rfl ?_
    refine G_nmX (x16 + (1 : Int32)) (fun x20 e_x20 => ?_)
    refine G_iinc g (pc := 97) x20 _ 0 d_L_all_97 rfl e_x20.symm (Nat.le_of_ble_eq_true rfl) rfl ?_
    refine G_sub [0, 1, 2, 3, 4] [(4, .int x20), (0, .ref (wad w 0)), (1, .int v1), (2, .int v2), (3, .ref (wad w q))] rfl ?_
    refine G_aload_n g (pc := 100) 1 d_L_all_100 rfl rfl ?_
    refine G_cVI0 g (pc := 101) (As := []) (st := [.int x16, .ref (wad w q)]) cc_L_55 (c_G_limit l hw M19) (hw.m 0 (Nat.le_of_ble_eq_true rfl)) (hw.k (Nat.le_of_ble_eq_true rfl) (zk0 rr)) rfl (by decide) rfl ⟨(Nat.le_of_ble_eq_true rfl), (Nat.le_of_ble_eq_true rfl)⟩ hkn (Nat.le_of_ble_eq_true rfl) d_L_all_101 (fun x21 M22 => ?_)
    refine G_iast g (pc := 104) (nn := nq) hmq hkq hnq d_L_all_104 ?_
    refine G_nmM (fun M23 => ?_)
    refine G_aload_n g (pc := 105) 4 d_L_all_105 rfl rfl ?_
    refine G_iload g (pc := 106) 0 d_L_all_106 rfl ?_
    refine G_nmX (x20 + (1 : Int32)) (fun x24 e_x24 => ?_)
    refine G_iinc g (pc := 108) x24 _ 0 d_L_all_108 rfl e_x24.symm (Nat.le_of_ble_eq_true rfl) rfl ?_
    refine G_sub [0, 1, 2, 3, 4] [(4, .int x24), (0, .ref (wad w 0)), (1, .int v1), (2, .int v2), (3, .ref (wad w q))] rfl ?_
    refine G_aload_n g (pc := 111) 1 d_L_all_111 rfl rfl ?_
    refine G_cVI0 g (pc := 112) (As := []) (st := [.int x20, .ref (wad w q)]) cc_L_58 (c_G_endurance l hw M23) (hw.m 0 (Nat.le_of_ble_eq_true rfl)) (hw.k (Nat.le_of_ble_eq_true rfl) (zk0 rr)) rfl (by decide) rfl ⟨(Nat.le_of_ble_eq_true rfl), (Nat.le_of_ble_eq_true rfl)⟩ hkn (Nat.le_of_ble_eq_true rfl) d_L_all_112 (fun x25 M26 => ?_)
    refine G_iast g (pc := 115) (nn := nq) hmq hkq hnq d_L_all_115 ?_
    refine G_nmM (fun M27 => ?_)
    refine G_aload_n g (pc := 116) 4 d_L_all_116 rfl rfl ?_
    refine G_iload g (pc := 117) 0 d_L_all_117 rfl ?_
    refine G_nmX (x24 + (1 : Int32)) (fun x28 e_x28 => ?_)
    refine G_iinc g (pc := 119) x28 _ 0 d_L_all_119 rfl e_x28.symm (Nat.le_of_ble_eq_true rfl) rfl ?_
    refine G_sub [0, 1, 2, 3, 4] [(4, .int x28), (0, .ref (wad w 0)), (1, .int v1), (2, .int v2), (3, .ref (wad w q))] rfl ?_
    refine G_aload_n g (pc := 122) 1 d_L_all_122 rfl rfl ?_
    refine G_cVI0 g (pc := 123) (As := []) (st := [.int x24, .ref (wad w q)]) cc_L_61 (c_G_wear l hw M27) (hw.m 0 (Nat.le_of_ble_eq_true rfl)) (hw.k (Nat.le_of_ble_eq_true rfl) (zk0 rr)) rfl (by decide) rfl ⟨(Nat.le_of_ble_eq_true rfl), (Nat.le_of_ble_eq_true rfl)⟩ hkn (Nat.le_of_ble_eq_true rfl) d_L_all_123 (fun x29 M30 => ?_)
    refine G_iast g (pc := 126) (nn := nq) hmq hkq hnq d_L_all_126 ?_
    refine G_nmM (fun M31 => ?_)
    refine G_aload_n g (pc := 127) 4 d_L_all_127 rfl rfl ?_
    refine G_iload g (pc := 128) 0 d_L_all_128 rfl ?_
    refine G_nmX (x28 + (1 : Int32)) (fun x32 e_x32 => ?_)
    refine G_iinc g (pc := 130) x32 _ 0 d_L_all_130 rfl e_x32.symm (Nat.le_of_ble_eq_true rfl) rfl ?_
    refine G_sub [0, 1, 2, 3, 4] [(4, .int x32), (0, .ref (wad w 0)), (1, .int v1), (2, .int v2), (3, .ref (wad w q))] rfl ?_
    refine G_aload_n g (pc := 133) 1 d_L_all_133 rfl rfl ?_
    refine G_cVI0 g (pc := 134) (As := []) (st := [.int x28, .ref (wad w q)]) cc_L_64 (c_G_flightTime l hw M31) (hw.m 0 (Nat.le_of_ble_eq_true rfl)) (hw.k (Nat.le_of_ble_eq_true rfl) (zk0 rr)) rfl (by decide) rfl ⟨(Nat.le_of_ble_eq_true rfl), (Nat.le_of_ble_eq_true rfl)⟩ hkn (Nat.le_of_ble_eq_true rfl) d_L_all_134 (fun x33 M34 => ?_)
    refine G_iast g (pc := 137) (nn := nq) hmq hkq hnq d_L_all_137 ?_
    refine G_nmM (fun M35 => ?_)
    refine G_aload_n g (pc := 138) 4 d_L_all_138 rfl rfl ?_
    refine G_iload g (pc := 139) 0 d_L_all_139 rfl ?_
    refine G_nmX (x32 + (1 : Int32)) (fun x36 e_x36 => ?_)
    refine G_iinc g (pc := 141) x36 _ 0 d_L_all_141 rfl e_x36.symm (Nat.le_of_ble_eq_true rfl) rfl ?_
    refine G_sub [0, 1, 2, 3, 4] [(4, .int x36), (0, .ref (wad w 0)), (1, .int v1), (2, .int v2), (3, .ref (wad w q))] rfl ?_
    refine G_aload_n g (pc := 144) 1 d_L_all_144 rfl rfl ?_
    refine G_cVI0 g (pc := 145) (As := []) (st := [.int x32, .ref (wad w q)]) cc_L_67 (c_G_beaconTime l hw M35) (hw.m 0 (Nat.le_of_ble_eq_true rfl)) (hw.k (Nat.le_of_ble_eq_true rfl) (zk0 rr)) rfl (by decide) rfl ⟨(Nat.le_of_ble_eq_true rfl), (Nat.le_of_ble_eq_true rfl)⟩ hkn (Nat.le_of_ble_eq_true rfl) d_L_all_145 (fun x37 M38 => ?_)
    refine G_iast g (pc := 148) (nn := nq) hmq hkq hnq d_L_all_148 ?_
    refine G_nmM (fun M39 => ?_)
    refine G_aload_n g (pc := 149) 4 d_L_all_149 rfl rfl ?_
    refine G_iload g (pc := 150) 0 d_L_all_150 rfl ?_
    refine G_nmX (x36 + (1 : Int32)) (fun x40 e_x40 => ?_)
    refine G_iinc g (pc := 152) x40 _ 0 d_L_all_152 rfl e_x40.symm (Nat.le_of_ble_eq_true rfl) rfl ?_
    refine G_sub [0, 1, 2, 3, 4] [(4, .int x40), (0, .ref (wad w 0)), (1, .int v1), (2, .int v2), (3, .ref (wad w q))] rfl ?_
    refine G_aload_n g (pc := 155) 1 d_L_all_155 rfl rfl ?_
    refine G_cVI0 g (pc := 156) (As := []) (st := [.int x36, .ref (wad w q)]) cc_L_70 (c_G_launches l hw M39) (hw.m 0 (Nat.le_of_ble_eq_true rfl)) (hw.k (Nat.le_of_ble_eq_true rfl) (zk0 rr)) rfl (by decide) rfl ⟨(Nat.le_of_ble_eq_true rfl), (Nat.le_of_ble_eq_true rfl)⟩ hkn (Nat.le_of_ble_eq_true rfl) d_L_all_156 (fun x41 M42 => ?_)
    refine G_iast g (pc := 159) (nn := nq) hmq hkq hnq d_L_all_159 ?_
    refine G_nmM (fun M43 => ?_)
    refine G_aload_n g (pc := 160) 4 d_L_all_160 rfl rfl ?_
    refine G_iload g (pc := 161) 0 d_L_all_161 rfl ?_
    refine G_nmX (x40 + (1 : Int32)) (fun x44 e_x44 => ?_)
    refine G_iinc g (pc := 163) x44 _ 0 d_L_all_163 rfl e_x44.symm (Nat.le_of_ble_eq_true rfl) rfl ?_
    refine G_sub [0, 1, 2, 3, 4] [(4, .int x44), (0, .ref (wad w 0)), (1, .int v1), (2, .int v2), (3, .ref (wad w q))] rfl ?_
    refine G_aload_n g (pc := 166) 1 d_L_all_166 rfl rfl ?_
    refine G_cVI0 g (pc := 167) (As := []) (st := [.int x40, .ref (wad w q)]) cc_L_73 (c_G_snaps l hw M43) (hw.m 0 (Nat.le_of_ble_eq_true rfl)) (hw.k (Nat.le_of_ble_eq_true rfl) (zk0 rr)) rfl (by decide) rfl ⟨(Nat.le_of_ble_eq_true rfl), (Nat.le_of_ble_eq_true rfl)⟩ hkn (Nat.le_of_ble_eq_true rfl) d_L_all_167 (fun x45 M46 => ?_)
    refine G_iast g (pc := 170) (nn := nq) hmq hkq hnq d_L_all_170 ?_
    refine G_nmM (fun M47 => ?_)
    refine G_aload_n g (pc := 171) 4 d_L_all_171 rfl rfl ?_
    refine G_iload g (pc := 172) 0 d_L_all_172 rfl ?_
    refine G_nmX (x44 + (1 : Int32)) (fun x48 e_x48 => ?_)
    refine G_iinc g (pc := 174) x48 _ 0 d_L_all_174 rfl e_x48.symm (Nat.le_of_ble_eq_true rfl) rfl ?_
    refine G_sub [0, 1, 2, 3, 4] [(4, .int x48), (0, .ref (wad w 0)), (1, .int v1), (2, .int v2), (3, .ref (wad w q))] rfl ?_
    refine G_aload_n g (pc := 177) 1 d_L_all_177 rfl rfl ?_
    refine G_cVI0 g (pc := 178) (As := []) (st := [.int x44, .ref (wad w q)]) cc_L_76 (c_G_searches l hw M47) (hw.m 0 (Nat.le_of_ble_eq_true rfl)) (hw.k (Nat.le_of_ble_eq_true rfl) (zk0 rr)) rfl (by decide) rfl ⟨(Nat.le_of_ble_eq_true rfl), (Nat.le_of_ble_eq_true rfl)⟩ hkn (Nat.le_of_ble_eq_true rfl) d_L_all_178 (fun x49 M50 => ?_)
    refine G_iast g (pc := 181) (nn := nq) hmq hkq hnq d_L_all_181 ?_
    refine G_nmM (fun M51 => ?_)
    refine G_aload_n g (pc := 182) 4 d_L_all_182 rfl rfl ?_
    refine G_iload g (pc := 183) 0 d_L_all_183 rfl ?_
    refine G_nmX (x48 + (1 : Int32)) (fun x52 e_x52 => ?_)
    refine G_iinc g (pc := 185) x52 _ 0 d_L_all_185 rfl e_x52.symm (Nat.le_of_ble_eq_true rfl) rfl ?_
    refine G_sub [0, 1, 2, 3, 4] [(4, .int x52), (0, .ref (wad w 0)), (1, .int v1), (2, .int v2), (3, .ref (wad w q))] rfl ?_
    refine G_aload_n g (pc := 188) 1 d_L_all_188 rfl rfl ?_
    refine G_cVI0 g (pc := 189) (As := []) (st := [.int x48, .ref (wad w q)]) cc_L_79 (c_G_interval l hw M51) (hw.m 0 (Nat.le_of_ble_eq_true rfl)) (hw.k (Nat.le_of_ble_eq_true rfl) (zk0 rr)) rfl (by decide) rfl ⟨(Nat.le_of_ble_eq_true rfl), (Nat.le_of_ble_eq_true rfl)⟩ hkn (Nat.le_of_ble_eq_true rfl) d_L_all_189 (fun x53 M54 => ?_)
    refine G_iast g (pc := 192) (nn := nq) hmq hkq hnq d_L_all_192 ?_
    refine G_nmM (fun M55 => ?_)
    refine G_aload_n g (pc := 193) 4 d_L_all_193 rfl rfl ?_
    refine G_iload g (pc := 194) 0 d_L_all_194 rfl ?_
    refine G_nmX (x52 + (1 : Int32)) (fun x56 e_x56 => ?_)
    refine G_iinc g (pc := 196) x56 _ 0 d_L_all_196 rfl e_x56.symm (Nat.le_of_ble_eq_true rfl) rfl ?_
    refine G_sub [0, 1, 2, 3, 4] [(4, .int x56), (0, .ref (wad w 0)), (1, .int v1), (2, .int v2), (3, .ref (wad w q))] rfl ?_
    refine G_iload_n g (pc := 199) 2 d_L_all_199 rfl rfl ?_
    refine G_iast g (pc := 200) (nn := nq) hmq hkq hnq d_L_all_200 ?_
    refine G_nmM (fun M57 => ?_)
    refine G_aload_n g (pc := 201) 4 d_L_all_201 rfl rfl ?_
    refine G_iload g (pc := 202) 0 d_L_all_202 rfl ?_
    refine G_nmX (x56 + (1 : Int32)) (fun x58 e_x58 => ?_)
    refine G_iinc g (pc := 204) x58 _ 0 d_L_all_204 rfl e_x58.symm (Nat.le_of_ble_eq_true rfl) rfl ?_
    refine G_sub [0, 1, 2, 3, 4] [(4, .int x58), (0, .ref (wad w 0)), (1, .int v1), (2, .int v2), (3, .ref (wad w q))] rfl ?_
    refine G_iload_n g (pc := 207) 3 d_L_all_207 rfl rfl ?_
    refine G_iast g (pc := 208) (nn := nq) hmq hkq hnq d_L_all_208 ?_
    refine G_nmM (fun M59 => ?_)
    refine G_aload_n g (pc := 209) 4 d_L_all_209 rfl rfl ?_
    refine G_iload g (pc := 210) 0 d_L_all_210 rfl ?_
    refine G_nmX (x58 + (1 : Int32)) (fun x60 e_x60 => ?_)
    refine G_iinc g (pc := 212) x60 _ 0 d_L_all_212 rfl e_x60.symm (Nat.le_of_ble_eq_true rfl) rfl ?_
    refine G_sub [0, 1, 2, 3, 4] [(4, .int x60), (0, .ref (wad w 0)), (1, .int v1), (2, .int v2), (3, .ref (wad w q))] rfl ?_
    refine G_aload_n g (pc := 215) 1 d_L_all_215 rfl rfl ?_
    refine G_cVI0 g (pc := 216) (As := []) (st := [.int x58, .ref (wad w q)]) cc_L_82 (c_G_droppedCount l hw M59) (hw.m 0 (Nat.le_of_ble_eq_true rfl)) (hw.k (Nat.le_of_ble_eq_true rfl) (zk0 rr)) rfl (by decide) rfl ⟨(Nat.le_of_ble_eq_true rfl), (Nat.le_of_ble_eq_true rfl)⟩ hkn (Nat.le_of_ble_eq_true rfl) d_L_all_216 (fun x61 M62 => ?_)
    refine G_iast g (pc := 219) (nn := nq) hmq hkq hnq d_L_all_219 ?_
    refine G_nmM (fun M63 => ?_)
    refine G_aload_n g (pc := 220) 4 d_L_all_220 rfl rfl ?_
    refine G_iload g (pc := 221) 0 d_L_all_221 rfl ?_
    refine G_nmX (x60 + (1 : Int32)) (fun x64 e_x64 => ?_)
    refine G_iinc g (pc := 223) x64 _ 0 d_L_all_223 rfl e_x64.symm (Nat.le_of_ble_eq_true rfl) rfl ?_
    refine G_sub [0, 1, 2, 3, 4] [(4, .int x64), (0, .ref (wad w 0)), (1, .int v1), (2, .int v2), (3, .ref (wad w q))] rfl ?_
    refine G_aload_n g (pc := 226) 1 d_L_all_226 rfl rfl ?_
    refine G_cVI0 g (pc := 227) (As := []) (st := [.int x60, .ref (wad w q)]) cc_L_85 (c_G_area l hw M63) (hw.m 0 (Nat.le_of_ble_eq_true rfl)) (hw.k (Nat.le_of_ble_eq_true rfl) (zk0 rr)) rfl (by decide) rfl ⟨(Nat.le_of_ble_eq_true rfl), (Nat.le_of_ble_eq_true rfl)⟩ hkn (Nat.le_of_ble_eq_true rfl) d_L_all_227 (fun x65 M66 => ?_)
    refine G_iast g (pc := 230) (nn := nq) hmq hkq hnq d_L_all_230 ?_
    refine G_nmM (fun M67 => ?_)
    refine G_aload_n g (pc := 231) 4 d_L_all_231 rfl rfl ?_
    refine G_iload g (pc := 232) 0 d_L_all_232 rfl ?_
    refine G_nmX (x64 + (1 : Int32)) (fun x68 e_x68 => ?_)
    refine G_iinc g (pc := 234) x68 _ 0 d_L_all_234 rfl e_x68.symm (Nat.le_of_ble_eq_true rfl) rfl ?_
    refine G_sub [0, 1, 2, 3, 4] [(4, .int x68), (0, .ref (wad w 0)), (1, .int v1), (2, .int v2), (3, .ref (wad w q))] rfl ?_
    refine G_aload_n g (pc := 237) 1 d_L_all_237 rfl rfl ?_
    refine G_cVI0 g (pc := 238) (As := []) (st := [.int x64, .ref (wad w q)]) cc_L_88 (c_G_patternLength l hw M67) (hw.m 0 (Nat.le_of_ble_eq_true rfl)) (hw.k (Nat.le_of_ble_eq_true rfl) (zk0 rr)) rfl (by decide) rfl ⟨(Nat.le_of_ble_eq_true rfl), (Nat.le_of_ble_eq_true rfl)⟩ hkn (Nat.le_of_ble_eq_true rfl) d_L_all_238 (fun x69 M70 => ?_)
    refine G_iast g (pc := 241) (nn := nq) hmq hkq hnq d_L_all_241 ?_
    refine G_nmM (fun M71 => ?_)
    refine G_aload_n g (pc := 242) 4 d_L_all_242 rfl rfl ?_
    refine G_iload g (pc := 243) 0 d_L_all_243 rfl ?_
    refine G_nmX (x68 + (1 : Int32)) (fun x72 e_x72 => ?_)
    refine G_iinc g (pc := 245) x72 _ 0 d_L_all_245 rfl e_x72.symm (Nat.le_of_ble_eq_true rfl) rfl ?_
    refine G_sub [0, 1, 2, 3, 4] [(4, .int x72), (0, .ref (wad w 0)), (1, .int v1), (2, .int v2), (3, .ref (wad w q))] rfl ?_
    refine G_aload_n g (pc := 248) 1 d_L_all_248 rfl rfl ?_
    refine G_cVI0 g (pc := 249) (As := []) (st := [.int x68, .ref (wad w q)]) cc_L_36 (c_G_bufferSize l hw M71) (hw.m 0 (Nat.le_of_ble_eq_true rfl)) (hw.k (Nat.le_of_ble_eq_true rfl) (zk0 rr)) rfl (by decide) rfl ⟨(Nat.le_of_ble_eq_true rfl), (Nat.le_of_ble_eq_true rfl)⟩ hkn (Nat.le_of_ble_eq_true rfl) d_L_all_249 (fun x73 M74 => ?_)
    refine G_iast g (pc := 252) (nn := nq) hmq hkq hnq d_L_all_252 ?_
    refine G_nmM (fun M75 => ?_)
    refine G_iconst g (pc := 253) (0 : Int32) d_L_all_253 rfl ?_
    refine G_istore g (pc := 254) _ d_L_all_254 (Nat.le_of_ble_eq_true rfl) rfl ?_
    refine G_sub [0, 1, 2, 3, 4, 5] [(5, .int (0 : Int32)), (4, .int x72), (0, .ref (wad w 0)), (1, .int v1), (2, .int v2), (3, .ref (wad w q))] rfl ?_
    refine G_sub [2, 3, 4, 5, 1, 0] _ rfl ?_
    refine G_loop (F := lp_L_all_256 N rr q nq v1 v2) 256 284 (fun (v256 : Int32 × Int32) => [(0, .ref (wad w 0)), (1, .int v1), (2, .int v2), (3, .ref (wad w q)), (4, .int v256.1), (5, .int v256.2)]) (fun (v256 : Int32 × Int32) => [(0, .ref (wad w 0)), (1, .int v1), (2, .int v2), (3, .ref (wad w q)), (4, .int v256.1), (5, .int v256.2)]) (fun _ _ _ => rfl) (fun a84 M83 => ?_) (fun k256 hk256 Nl256 ih256 v256 M => ?_) N (x72, (0 : Int32)) M75
    · refine G_iconst g (pc := 284) (0 : Int32) d_L_all_284 rfl ?_
      refine G_istore g (pc := 285) _ d_L_all_285 (Nat.le_of_ble_eq_true rfl) rfl ?_
      refine G_sub [0, 1, 2, 3, 4, 5] [(5, .int (0 : Int32)), (0, .ref (wad w 0)), (1, .int v1), (2, .int v2), (3, .ref (wad w q)), (4, .int a84.1)] rfl ?_
      refine G_sub [1, 2, 3, 4, 5, 0] _ rfl ?_
      refine G_loop (F := lp_L_all_287 N rr q nq v1 v2) 287 338 (fun (v287 : Int32 × Int32) => [(0, .ref (wad w 0)), (1, .int v1), (2, .int v2), (3, .ref (wad w q)), (4, .int v287.1), (5, .int v287.2)]) (fun (v287 : Int32 × Int32) => [(0, .ref (wad w 0)), (1, .int v1), (2, .int v2), (3, .ref (wad w q)), (4, .int v287.1), (5, .int v287.2)]) (fun _ _ _ => rfl) (fun a99 M98 => ?_) (fun k287 hk287 Nl287 ih287 v287 M => ?_) N (a84.1, (0 : Int32)) M83
      · refine G_iconst g (pc := 338) (0 : Int32) d_L_all_338 rfl ?_
        refine G_istore g (pc := 339) _ d_L_all_339 (Nat.le_of_ble_eq_true rfl) rfl ?_
        refine G_sub [0, 1, 2, 3, 4, 5] [(5, .int (0 : Int32)), (0, .ref (wad w 0)), (1, .int v1), (2, .int v2), (3, .ref (wad w q)), (4, .int a99.1)] rfl ?_
        refine G_sub [1, 2, 3, 4, 5, 0] _ rfl ?_
        refine G_loop (F := lp_L_all_341 N rr q nq v1 v2) 341 392 (fun (v341 : Int32 × Int32) => [(0, .ref (wad w 0)), (1, .int v1), (2, .int v2), (3, .ref (wad w q)), (4, .int v341.1), (5, .int v341.2)]) (fun (v341 : Int32 × Int32) => [(0, .ref (wad w 0)), (1, .int v1), (2, .int v2), (3, .ref (wad w q)), (4, .int v341.1), (5, .int v341.2)]) (fun _ _ _ => rfl) (fun a114 M113 => ?_) (fun k341 hk341 Nl341 ih341 v341 M => ?_) N (a99.1, (0 : Int32)) M98
        · refine G_aload_n g (pc := 392) 3 d_L_all_392 rfl rfl ?_
          exact hend _ M113
        · show Go p0 l e _ s m args below meth c w _ _ _ _ (lp_L_all_341 N rr q nq v1 v2 (Nl341 + 1) v341 M k341) 341 _ _ M
          unfold lp_L_all_341
          refine G_iload g (pc := 341) 5 d_L_all_341 rfl ?_
          refine G_iload_n g (pc := 343) 2 d_L_all_343 rfl rfl ?_
          refine G_icmp_ge g (pc := 344) 392 d_L_all_344 (by decide) ?_ ?_
          · refine G_aload_n g (pc := 347) 3 d_L_all_347 rfl rfl ?_
            refine G_iload g (pc := 348) 4 d_L_all_348 rfl ?_
            refine G_nmX (v341.1 + (1 : Int32)) (fun x100 e_x100 => ?_)
            refine G_iinc g (pc := 350) x100 _ 4 d_L_all_350 rfl e_x100.symm (Nat.le_of_ble_eq_true rfl) rfl ?_
            refine G_sub [0, 1, 2, 3, 4, 5] [(4, .int x100), (0, .ref (wad w 0)), (1, .int v1), (2, .int v2), (3, .ref (wad w q)), (5, .int v341.2)] rfl ?_
            refine G_aload_n g (pc := 353) 1 d_L_all_353 rfl rfl ?_
            refine G_iload g (pc := 354) 5 d_L_all_354 rfl ?_
            refine G_cVI0 g (pc := 356) (As := [.int v341.2]) (st := [.int v341.1, .ref (wad w q)]) cc_L_104 (c_G_archivedTick l hw v341.2 M) (hw.m 0 (Nat.le_of_ble_eq_true rfl)) (hw.k (Nat.le_of_ble_eq_true rfl) (zk0 rr)) rfl (by decide) rfl ⟨(Nat.le_of_ble_eq_true rfl), (Nat.le_of_ble_eq_true rfl)⟩ hkn (Nat.le_of_ble_eq_true rfl) d_L_all_356 (fun x101 M102 => ?_)
            refine G_iast g (pc := 359) (nn := nq) hmq hkq hnq d_L_all_359 ?_
            refine G_nmM (fun M103 => ?_)
            refine G_aload_n g (pc := 360) 4 d_L_all_360 rfl rfl ?_
            refine G_iload g (pc := 361) 0 d_L_all_361 rfl ?_
            refine G_nmX (x100 + (1 : Int32)) (fun x104 e_x104 => ?_)
            refine G_iinc g (pc := 363) x104 _ 0 d_L_all_363 rfl e_x104.symm (Nat.le_of_ble_eq_true rfl) rfl ?_
            refine G_sub [0, 1, 2, 3, 4, 5] [(4, .int x104), (0, .ref (wad w 0)), (1, .int v1), (2, .int v2), (3, .ref (wad w q)), (5, .int v341.2)] rfl ?_
            refine G_aload_n g (pc := 366) 1 d_L_all_366 rfl rfl ?_
            refine G_iload g (pc := 367) 5 d_L_all_367 rfl ?_
            refine G_cVI0 g (pc := 369) (As := [.int v341.2]) (st := [.int x100, .ref (wad w q)]) cc_L_107 (c_G_archivedHeight l hw v341.2 M103) (hw.m 0 (Nat.le_of_ble_eq_true rfl)) (hw.k (Nat.le_of_ble_eq_true rfl) (zk0 rr)) rfl (by decide) rfl ⟨(Nat.le_of_ble_eq_true rfl), (Nat.le_of_ble_eq_true rfl)⟩ hkn (Nat.le_of_ble_eq_true rfl) d_L_all_369 (fun x105 M106 => ?_)
            refine G_iast g (pc := 372) (nn := nq) hmq hkq hnq d_L_all_372 ?_
            refine G_nmM (fun M107 => ?_)
            refine G_aload_n g (pc := 373) 4 d_L_all_373 rfl rfl ?_
            refine G_iload g (pc := 374) 0 d_L_all_374 rfl ?_
            refine G_nmX (x104 + (1 : Int32)) (fun x108 e_x108 => ?_)
            refine G_iinc g (pc := 376) x108 _ 0 d_L_all_376 rfl e_x108.symm (Nat.le_of_ble_eq_true rfl) rfl ?_
            refine G_sub [0, 1, 2, 3, 4, 5] [(4, .int x108), (0, .ref (wad w 0)), (1, .int v1), (2, .int v2), (3, .ref (wad w q)), (5, .int v341.2)] rfl ?_
            refine G_aload_n g (pc := 379) 1 d_L_all_379 rfl rfl ?_
            refine G_iload g (pc := 380) 5 d_L_all_380 rfl ?_
            refine G_cVI0 g (pc := 382) (As := [.int v341.2]) (st := [.int x104, .ref (wad w q)]) cc_L_110 (c_G_archivedGust l hw v341.2 M107) (hw.m 0 (Nat.le_of_ble_eq_true rfl)) (hw.k (Nat.le_of_ble_eq_true rfl) (zk0 rr)) rfl (by decide) rfl ⟨(Nat.le_of_ble_eq_true rfl), (Nat.le_of_ble_eq_true rfl)⟩ hkn (Nat.le_of_ble_eq_true rfl) d_L_all_382 (fun x109 M110 => ?_)
            refine G_iast g (pc := 385) (nn := nq) hmq hkq hnq d_L_all_385 ?_
            refine G_nmM (fun M111 => ?_)
            refine G_nmX (v341.2 + (1 : Int32)) (fun x112 e_x112 => ?_)
            refine G_iinc g (pc := 386) x112 _ 5 d_L_all_386 rfl e_x112.symm (Nat.le_of_ble_eq_true rfl) rfl ?_
            refine G_sub [0, 1, 2, 3, 4, 5] [(5, .int x112), (4, .int x108), (0, .ref (wad w 0)), (1, .int v1), (2, .int v2), (3, .ref (wad w q))] rfl ?_
            refine G_goto g (pc := 389) 341 d_L_all_389 (by decide) ?_
            refine G_sub [2, 3, 4, 5, 1, 0] _ rfl ?_
            exact ih341 (x108, x112) M111
          · refine G_sub [0, 1, 2, 3, 4, 5] _ rfl ?_
            exact hk341 (v341.1, v341.2) M
      · show Go p0 l e _ s m args below meth c w _ _ _ _ (lp_L_all_287 N rr q nq v1 v2 (Nl287 + 1) v287 M k287) 287 _ _ M
        unfold lp_L_all_287
        refine G_iload g (pc := 287) 5 d_L_all_287 rfl ?_
        refine G_iload_n g (pc := 289) 1 d_L_all_289 rfl rfl ?_
        refine G_icmp_ge g (pc := 290) 338 d_L_all_290 (by decide) ?_ ?_
        · refine G_aload_n g (pc := 293) 3 d_L_all_293 rfl rfl ?_
          refine G_iload g (pc := 294) 4 d_L_all_294 rfl ?_
          refine G_nmX (v287.1 + (1 : Int32)) (fun x85 e_x85 => ?_)
          refine G_iinc g (pc := 296) x85 _ 4 d_L_all_296 rfl e_x85.symm (Nat.le_of_ble_eq_true rfl) rfl ?_
          refine G_sub [0, 1, 2, 3, 4, 5] [(4, .int x85), (0, .ref (wad w 0)), (1, .int v1), (2, .int v2), (3, .ref (wad w q)), (5, .int v287.2)] rfl ?_
          refine G_aload_n g (pc := 299) 1 d_L_all_299 rfl rfl ?_
          refine G_iload g (pc := 300) 5 d_L_all_300 rfl ?_
          refine G_cVI0 g (pc := 302) (As := [.int v287.2]) (st := [.int v287.1, .ref (wad w q)]) cc_L_95 (c_G_loggedTick l hw v287.2 M) (hw.m 0 (Nat.le_of_ble_eq_true rfl)) (hw.k (Nat.le_of_ble_eq_true rfl) (zk0 rr)) rfl (by decide) rfl ⟨(Nat.le_of_ble_eq_true rfl), (Nat.le_of_ble_eq_true rfl)⟩ hkn (Nat.le_of_ble_eq_true rfl) d_L_all_302 (fun x86 M87 => ?_)
          refine G_iast g (pc := 305) (nn := nq) hmq hkq hnq d_L_all_305 ?_
          refine G_nmM (fun M88 => ?_)
          refine G_aload_n g (pc := 306) 4 d_L_all_306 rfl rfl ?_
          refine G_iload g (pc := 307) 0 d_L_all_307 rfl ?_
          refine G_nmX (x85 + (1 : Int32)) (fun x89 e_x89 => ?_)
          refine G_iinc g (pc := 309) x89 _ 0 d_L_all_309 rfl e_x89.symm (Nat.le_of_ble_eq_true rfl) rfl ?_
          refine G_sub [0, 1, 2, 3, 4, 5] [(4, .int x89), (0, .ref (wad w 0)), (1, .int v1), (2, .int v2), (3, .ref (wad w q)), (5, .int v287.2)] rfl ?_
          refine G_aload_n g (pc := 312) 1 d_L_all_312 rfl rfl ?_
          refine G_iload g (pc := 313) 5 d_L_all_313 rfl ?_
          refine G_cVI0 g (pc := 315) (As := [.int v287.2]) (st := [.int x85, .ref (wad w q)]) cc_L_98 (c_G_loggedHeight l hw v287.2 M88) (hw.m 0 (Nat.le_of_ble_eq_true rfl)) (hw.k (Nat.le_of_ble_eq_true rfl) (zk0 rr)) rfl (by decide) rfl ⟨(Nat.le_of_ble_eq_true rfl), (Nat.le_of_ble_eq_true rfl)⟩ hkn (Nat.le_of_ble_eq_true rfl) d_L_all_315 (fun x90 M91 => ?_)
          refine G_iast g (pc := 318) (nn := nq) hmq hkq hnq d_L_all_318 ?_
          refine G_nmM (fun M92 => ?_)
          refine G_aload_n g (pc := 319) 4 d_L_all_319 rfl rfl ?_
          refine G_iload g (pc := 320) 0 d_L_all_320 rfl ?_
          refine G_nmX (x89 + (1 : Int32)) (fun x93 e_x93 => ?_)
          refine G_iinc g (pc := 322) x93 _ 0 d_L_all_322 rfl e_x93.symm (Nat.le_of_ble_eq_true rfl) rfl ?_
          refine G_sub [0, 1, 2, 3, 4, 5] [(4, .int x93), (0, .ref (wad w 0)), (1, .int v1), (2, .int v2), (3, .ref (wad w q)), (5, .int v287.2)] rfl ?_
          refine G_aload_n g (pc := 325) 1 d_L_all_325 rfl rfl ?_
          refine G_iload g (pc := 326) 5 d_L_all_326 rfl ?_
          refine G_cVI0 g (pc := 328) (As := [.int v287.2]) (st := [.int x89, .ref (wad w q)]) cc_L_101 (c_G_loggedGust l hw v287.2 M92) (hw.m 0 (Nat.le_of_ble_eq_true rfl)) (hw.k (Nat.le_of_ble_eq_true rfl) (zk0 rr)) rfl (by decide) rfl ⟨(Nat.le_of_ble_eq_true rfl), (Nat.le_of_ble_eq_true rfl)⟩ hkn (Nat.le_of_ble_eq_true rfl) d_L_all_328 (fun x94 M95 => ?_)
          refine G_iast g (pc := 331) (nn := nq) hmq hkq hnq d_L_all_331 ?_
          refine G_nmM (fun M96 => ?_)
          refine G_nmX (v287.2 + (1 : Int32)) (fun x97 e_x97 => ?_)
          refine G_iinc g (pc := 332) x97 _ 5 d_L_all_332 rfl e_x97.symm (Nat.le_of_ble_eq_true rfl) rfl ?_
          refine G_sub [0, 1, 2, 3, 4, 5] [(5, .int x97), (4, .int x93), (0, .ref (wad w 0)), (1, .int v1), (2, .int v2), (3, .ref (wad w q))] rfl ?_
          refine G_goto g (pc := 335) 287 d_L_all_335 (by decide) ?_
          refine G_sub [2, 3, 4, 5, 1, 0] _ rfl ?_
          exact ih287 (x93, x97) M96
        · refine G_sub [0, 1, 2, 3, 4, 5] _ rfl ?_
          exact hk287 (v287.1, v287.2) M
    · show Go p0 l e _ s m args below meth c w _ _ _ _ (lp_L_all_256 N rr q nq v1 v2 (Nl256 + 1) v256 M k256) 256 _ _ M
      unfold lp_L_all_256
      refine G_iload g (pc := 256) 5 d_L_all_256 rfl ?_
      refine G_aload_n g (pc := 258) 0 d_L_all_258 rfl rfl ?_
      refine G_cVI0 g (pc := 259) (As := []) (st := [.int v256.2]) cc_L_36 (c_G_bufferSize l hw M) (hw.m 0 (Nat.le_of_ble_eq_true rfl)) (hw.k (Nat.le_of_ble_eq_true rfl) (zk0 rr)) rfl (by decide) rfl ⟨(Nat.le_of_ble_eq_true rfl), (Nat.le_of_ble_eq_true rfl)⟩ hkn (Nat.le_of_ble_eq_true rfl) d_L_all_259 (fun x76 M77 => ?_)
      refine G_icmp_ge g (pc := 262) 284 d_L_all_262 (by decide) ?_ ?_
      · refine G_aload_n g (pc := 265) 3 d_L_all_265 rfl rfl ?_
        refine G_iload g (pc := 266) 4 d_L_all_266 rfl ?_
        refine G_nmX (v256.1 + (1 : Int32)) (fun x78 e_x78 => ?_)
        refine G_iinc g (pc := 268) x78 _ 4 d_L_all_268 rfl e_x78.symm (Nat.le_of_ble_eq_true rfl) rfl ?_
        refine G_sub [0, 1, 2, 3, 4, 5] [(4, .int x78), (0, .ref (wad w 0)), (1, .int v1), (2, .int v2), (3, .ref (wad w q)), (5, .int v256.2)] rfl ?_
        refine G_aload_n g (pc := 271) 1 d_L_all_271 rfl rfl ?_
        refine G_iload g (pc := 272) 5 d_L_all_272 rfl ?_
        refine G_cVI0 g (pc := 274) (As := [.int v256.2]) (st := [.int v256.1, .ref (wad w q)]) cc_L_91 (c_G_bufferedWind l hw v256.2 M77) (hw.m 0 (Nat.le_of_ble_eq_true rfl)) (hw.k (Nat.le_of_ble_eq_true rfl) (zk0 rr)) rfl (by decide) rfl ⟨(Nat.le_of_ble_eq_true rfl), (Nat.le_of_ble_eq_true rfl)⟩ hkn (Nat.le_of_ble_eq_true rfl) d_L_all_274 (fun x79 M80 => ?_)
        refine G_iast g (pc := 277) (nn := nq) hmq hkq hnq d_L_all_277 ?_
        refine G_nmM (fun M81 => ?_)
        refine G_nmX (v256.2 + (1 : Int32)) (fun x82 e_x82 => ?_)
        refine G_iinc g (pc := 278) x82 _ 5 d_L_all_278 rfl e_x82.symm (Nat.le_of_ble_eq_true rfl) rfl ?_
        refine G_sub [0, 1, 2, 3, 4, 5] [(5, .int x82), (4, .int x78), (0, .ref (wad w 0)), (1, .int v1), (2, .int v2), (3, .ref (wad w q))] rfl ?_
        refine G_goto g (pc := 281) 256 d_L_all_281 (by decide) ?_
        refine G_sub [2, 3, 4, 5, 1, 0] _ rfl ?_
        exact ih256 (x78, x82) M81
      · refine G_sub [0, 1, 2, 3, 4, 5] _ rfl ?_
        exact hk256 (v256.1, v256.2) M77
  · refine G_if_eqB g (pc := 52) 59 d_L_all_52 (by decide) ?_ ?_
    · refine G_iconst g (pc := 55) (0 : Int32) d_L_all_55 rfl ?_
      refine G_goto g (pc := 56) 71 d_L_all_56 (by decide) ?_
      refine G_sub [0, 1, 2, 3, 4] _ rfl ?_
      exact hj8 (0 : Int32) M7
    · refine G_aload_n g (pc := 59) 1 d_L_all_59 rfl rfl ?_
      refine G_cVZ0 g (pc := 60) (As := []) (st := [.int x1, .ref (wad w q)]) cc_L_46 (c_G_isFlying l hw M7) (hw.m 0 (Nat.le_of_ble_eq_true rfl)) (hw.k (Nat.le_of_ble_eq_true rfl) (zk0 rr)) rfl (by decide) rfl ⟨(Nat.le_of_ble_eq_true rfl), (Nat.le_of_ble_eq_true rfl)⟩ hkn (Nat.le_of_ble_eq_true rfl) d_L_all_60 (fun x115 M116 => ?_)
      refine G_if_eqB g (pc := 63) 70 d_L_all_63 (by decide) ?_ ?_
      · refine G_iconst g (pc := 66) (1 : Int32) d_L_all_66 rfl ?_
        refine G_goto g (pc := 67) 71 d_L_all_67 (by decide) ?_
        refine G_sub [0, 1, 2, 3, 4] _ rfl ?_
        exact hj8 (1 : Int32) M116
      · refine G_iconst g (pc := 70) (2 : Int32) d_L_all_70 rfl ?_
        refine G_sub [0, 1, 2, 3, 4] _ rfl ?_
        exact hj8 (2 : Int32) M116
