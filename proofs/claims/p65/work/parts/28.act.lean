theorem d_L_act_0 : decode b_L_act 0 = .ok (.iload_n 1, 1) := by decide +kernel
theorem d_L_act_1 : decode b_L_act 1 = .ok (.bipush 24, 2) := by decide +kernel
theorem d_L_act_3 : decode b_L_act 3 = .ok (.invokestatic 175, 3) := by decide +kernel
theorem d_L_act_6 : decode b_L_act 6 = .ok (.istore_n 2, 1) := by decide +kernel
theorem d_L_act_7 : decode b_L_act 7 = .ok (.iload_n 1, 1) := by decide +kernel
theorem d_L_act_8 : decode b_L_act 8 = .ok (.iconst 4, 1) := by decide +kernel
theorem d_L_act_9 : decode b_L_act 9 = .ok (.ishr, 1) := by decide +kernel
theorem d_L_act_10 : decode b_L_act 10 = .ok (.istore_n 3, 1) := by decide +kernel
theorem d_L_act_11 : decode b_L_act 11 = .ok (.aload_n 0, 1) := by decide +kernel
theorem d_L_act_12 : decode b_L_act 12 = .ok (.invokevirtual 140, 3) := by decide +kernel
theorem d_L_act_15 : decode b_L_act 15 = .ok (.ifCond .eq 137, 3) := by decide +kernel
theorem d_L_act_18 : decode b_L_act 18 = .ok (.iload_n 2, 1) := by decide +kernel
theorem d_L_act_19 : decode b_L_act 19 = .ok (.bipush 8, 2) := by decide +kernel
theorem d_L_act_21 : decode b_L_act 21 = .ok (.if_icmp .ge 131, 3) := by decide +kernel
theorem d_L_act_24 : decode b_L_act 24 = .ok (.aload_n 0, 1) := by decide +kernel
theorem d_L_act_25 : decode b_L_act 25 = .ok (.invokevirtual 76, 3) := by decide +kernel
theorem d_L_act_28 : decode b_L_act 28 = .ok (.istore 4, 2) := by decide +kernel
theorem d_L_act_30 : decode b_L_act 30 = .ok (.aload_n 0, 1) := by decide +kernel
theorem d_L_act_31 : decode b_L_act 31 = .ok (.invokevirtual 67, 3) := by decide +kernel
theorem d_L_act_34 : decode b_L_act 34 = .ok (.ifCond .ne 7, 3) := by decide +kernel
theorem d_L_act_37 : decode b_L_act 37 = .ok (.iconst 1, 1) := by decide +kernel
theorem d_L_act_38 : decode b_L_act 38 = .ok (.goto 4, 3) := by decide +kernel
theorem d_L_act_41 : decode b_L_act 41 = .ok (.iconst 0, 1) := by decide +kernel
theorem d_L_act_42 : decode b_L_act 42 = .ok (.istore 5, 2) := by decide +kernel
theorem d_L_act_44 : decode b_L_act 44 = .ok (.aload_n 0, 1) := by decide +kernel
theorem d_L_act_45 : decode b_L_act 45 = .ok (.invokevirtual 61, 3) := by decide +kernel
theorem d_L_act_48 : decode b_L_act 48 = .ok (.istore 6, 2) := by decide +kernel
theorem d_L_act_50 : decode b_L_act 50 = .ok (.aload_n 0, 1) := by decide +kernel
theorem d_L_act_51 : decode b_L_act 51 = .ok (.iload_n 3, 1) := by decide +kernel
theorem d_L_act_52 : decode b_L_act 52 = .ok (.iload_n 3, 1) := by decide +kernel
theorem d_L_act_53 : decode b_L_act 53 = .ok (.iconst 3, 1) := by decide +kernel
theorem d_L_act_54 : decode b_L_act 54 = .ok (.ishr, 1) := by decide +kernel
theorem d_L_act_55 : decode b_L_act 55 = .ok (.iconst 3, 1) := by decide +kernel
theorem d_L_act_56 : decode b_L_act 56 = .ok (.invokestatic 175, 3) := by decide +kernel
theorem d_L_act_59 : decode b_L_act 59 = .ok (.ifCond .ne 9, 3) := by decide +kernel
theorem d_L_act_62 : decode b_L_act 62 = .ok (.sipush 2201, 3) := by decide +kernel
theorem d_L_act_65 : decode b_L_act 65 = .ok (.goto 5, 3) := by decide +kernel
theorem d_L_act_68 : decode b_L_act 68 = .ok (.bipush 120, 2) := by decide +kernel
theorem d_L_act_70 : decode b_L_act 70 = .ok (.invokestatic 175, 3) := by decide +kernel
theorem d_L_act_73 : decode b_L_act 73 = .ok (.invokevirtual 178, 3) := by decide +kernel
theorem d_L_act_76 : decode b_L_act 76 = .ok (.istore 7, 2) := by decide +kernel
theorem d_L_act_78 : decode b_L_act 78 = .ok (.aload_n 0, 1) := by decide +kernel
theorem d_L_act_79 : decode b_L_act 79 = .ok (.invokevirtual 76, 3) := by decide +kernel
theorem d_L_act_82 : decode b_L_act 82 = .ok (.iload 4, 2) := by decide +kernel
theorem d_L_act_84 : decode b_L_act 84 = .ok (.iconst 1, 1) := by decide +kernel
theorem d_L_act_85 : decode b_L_act 85 = .ok (.iadd, 1) := by decide +kernel
theorem d_L_act_86 : decode b_L_act 86 = .ok (.if_icmp .ne 64, 3) := by decide +kernel
theorem d_L_act_89 : decode b_L_act 89 = .ok (.aload_n 0, 1) := by decide +kernel
theorem d_L_act_90 : decode b_L_act 90 = .ok (.invokevirtual 61, 3) := by decide +kernel
theorem d_L_act_93 : decode b_L_act 93 = .ok (.iload 6, 2) := by decide +kernel
theorem d_L_act_95 : decode b_L_act 95 = .ok (.if_icmp .ne 55, 3) := by decide +kernel
theorem d_L_act_98 : decode b_L_act 98 = .ok (.iload 7, 2) := by decide +kernel
theorem d_L_act_100 : decode b_L_act 100 = .ok (.ifCond .ne 20, 3) := by decide +kernel
theorem d_L_act_103 : decode b_L_act 103 = .ok (.aload_n 0, 1) := by decide +kernel
theorem d_L_act_104 : decode b_L_act 104 = .ok (.invokevirtual 42, 3) := by decide +kernel
theorem d_L_act_107 : decode b_L_act 107 = .ok (.ifCond .eq 43, 3) := by decide +kernel
theorem d_L_act_110 : decode b_L_act 110 = .ok (.aload_n 0, 1) := by decide +kernel
theorem d_L_act_111 : decode b_L_act 111 = .ok (.invokevirtual 67, 3) := by decide +kernel
theorem d_L_act_114 : decode b_L_act 114 = .ok (.ifCond .ne 36, 3) := by decide +kernel
theorem d_L_act_117 : decode b_L_act 117 = .ok (.goto 29, 3) := by decide +kernel
theorem d_L_act_120 : decode b_L_act 120 = .ok (.aload_n 0, 1) := by decide +kernel
theorem d_L_act_121 : decode b_L_act 121 = .ok (.invokevirtual 140, 3) := by decide +kernel
theorem d_L_act_124 : decode b_L_act 124 = .ok (.ifCond .eq 26, 3) := by decide +kernel
theorem d_L_act_127 : decode b_L_act 127 = .ok (.iload 5, 2) := by decide +kernel
theorem d_L_act_129 : decode b_L_act 129 = .ok (.ifCond .eq 12, 3) := by decide +kernel
theorem d_L_act_132 : decode b_L_act 132 = .ok (.iload 7, 2) := by decide +kernel
theorem d_L_act_134 : decode b_L_act 134 = .ok (.iconst (-1), 1) := by decide +kernel
theorem d_L_act_135 : decode b_L_act 135 = .ok (.if_icmp .ne 15, 3) := by decide +kernel
theorem d_L_act_138 : decode b_L_act 138 = .ok (.goto 8, 3) := by decide +kernel
theorem d_L_act_141 : decode b_L_act 141 = .ok (.iload 7, 2) := by decide +kernel
theorem d_L_act_143 : decode b_L_act 143 = .ok (.ifCond .le 7, 3) := by decide +kernel
theorem d_L_act_146 : decode b_L_act 146 = .ok (.iconst 1, 1) := by decide +kernel
theorem d_L_act_147 : decode b_L_act 147 = .ok (.goto 4, 3) := by decide +kernel
theorem d_L_act_150 : decode b_L_act 150 = .ok (.iconst 0, 1) := by decide +kernel
theorem d_L_act_151 : decode b_L_act 151 = .ok (.ireturn, 1) := by decide +kernel
theorem d_L_act_152 : decode b_L_act 152 = .ok (.iload_n 2, 1) := by decide +kernel
theorem d_L_act_153 : decode b_L_act 153 = .ok (.iconst 4, 1) := by decide +kernel
theorem d_L_act_154 : decode b_L_act 154 = .ok (.if_icmp .lt 9, 3) := by decide +kernel
theorem d_L_act_157 : decode b_L_act 157 = .ok (.iload_n 2, 1) := by decide +kernel
theorem d_L_act_158 : decode b_L_act 158 = .ok (.bipush 23, 2) := by decide +kernel
theorem d_L_act_160 : decode b_L_act 160 = .ok (.if_icmp .ne 131, 3) := by decide +kernel
theorem d_L_act_163 : decode b_L_act 163 = .ok (.aload_n 0, 1) := by decide +kernel
theorem d_L_act_164 : decode b_L_act 164 = .ok (.invokevirtual 137, 3) := by decide +kernel
theorem d_L_act_167 : decode b_L_act 167 = .ok (.istore 4, 2) := by decide +kernel
theorem d_L_act_169 : decode b_L_act 169 = .ok (.iload 4, 2) := by decide +kernel
theorem d_L_act_171 : decode b_L_act 171 = .ok (.ifCond .le 67, 3) := by decide +kernel
theorem d_L_act_174 : decode b_L_act 174 = .ok (.iload 4, 2) := by decide +kernel
theorem d_L_act_176 : decode b_L_act 176 = .ok (.iconst 1, 1) := by decide +kernel
theorem d_L_act_177 : decode b_L_act 177 = .ok (.if_icmp .ne 10, 3) := by decide +kernel
theorem d_L_act_180 : decode b_L_act 180 = .ok (.aload_n 0, 1) := by decide +kernel
theorem d_L_act_181 : decode b_L_act 181 = .ok (.invokevirtual 46, 3) := by decide +kernel
theorem d_L_act_184 : decode b_L_act 184 = .ok (.goto 53, 3) := by decide +kernel
theorem d_L_act_187 : decode b_L_act 187 = .ok (.iload 4, 2) := by decide +kernel
theorem d_L_act_189 : decode b_L_act 189 = .ok (.iconst 2, 1) := by decide +kernel
theorem d_L_act_190 : decode b_L_act 190 = .ok (.if_icmp .ne 10, 3) := by decide +kernel
theorem d_L_act_193 : decode b_L_act 193 = .ok (.aload_n 0, 1) := by decide +kernel
theorem d_L_act_194 : decode b_L_act 194 = .ok (.invokevirtual 140, 3) := by decide +kernel
theorem d_L_act_197 : decode b_L_act 197 = .ok (.goto 40, 3) := by decide +kernel
theorem d_L_act_200 : decode b_L_act 200 = .ok (.iload 4, 2) := by decide +kernel
theorem d_L_act_202 : decode b_L_act 202 = .ok (.iconst 3, 1) := by decide +kernel
theorem d_L_act_203 : decode b_L_act 203 = .ok (.if_icmp .ne 20, 3) := by decide +kernel
theorem d_L_act_206 : decode b_L_act 206 = .ok (.aload_n 0, 1) := by decide +kernel
theorem d_L_act_207 : decode b_L_act 207 = .ok (.invokevirtual 52, 3) := by decide +kernel
theorem d_L_act_210 : decode b_L_act 210 = .ok (.bipush 10, 2) := by decide +kernel
theorem d_L_act_212 : decode b_L_act 212 = .ok (.if_icmp .ge 7, 3) := by decide +kernel
theorem d_L_act_215 : decode b_L_act 215 = .ok (.iconst 1, 1) := by decide +kernel
theorem d_L_act_216 : decode b_L_act 216 = .ok (.goto 21, 3) := by decide +kernel
theorem d_L_act_219 : decode b_L_act 219 = .ok (.iconst 0, 1) := by decide +kernel
theorem d_L_act_220 : decode b_L_act 220 = .ok (.goto 17, 3) := by decide +kernel
theorem d_L_act_223 : decode b_L_act 223 = .ok (.aload_n 0, 1) := by decide +kernel
theorem d_L_act_224 : decode b_L_act 224 = .ok (.iconst 0, 1) := by decide +kernel
theorem d_L_act_225 : decode b_L_act 225 = .ok (.invokevirtual 155, 3) := by decide +kernel
theorem d_L_act_228 : decode b_L_act 228 = .ok (.iconst 5, 1) := by decide +kernel
theorem d_L_act_229 : decode b_L_act 229 = .ok (.if_icmp .ge 7, 3) := by decide +kernel
theorem d_L_act_232 : decode b_L_act 232 = .ok (.iconst 1, 1) := by decide +kernel
theorem d_L_act_233 : decode b_L_act 233 = .ok (.goto 4, 3) := by decide +kernel
theorem d_L_act_236 : decode b_L_act 236 = .ok (.iconst 0, 1) := by decide +kernel
theorem d_L_act_237 : decode b_L_act 237 = .ok (.ireturn, 1) := by decide +kernel
theorem d_L_act_238 : decode b_L_act 238 = .ok (.aload_n 0, 1) := by decide +kernel
theorem d_L_act_239 : decode b_L_act 239 = .ok (.invokevirtual 70, 3) := by decide +kernel
theorem d_L_act_242 : decode b_L_act 242 = .ok (.istore 5, 2) := by decide +kernel
theorem d_L_act_244 : decode b_L_act 244 = .ok (.aload_n 0, 1) := by decide +kernel
theorem d_L_act_245 : decode b_L_act 245 = .ok (.invokevirtual 181, 3) := by decide +kernel
theorem d_L_act_248 : decode b_L_act 248 = .ok (.iload 5, 2) := by decide +kernel
theorem d_L_act_250 : decode b_L_act 250 = .ok (.iconst 1, 1) := by decide +kernel
theorem d_L_act_251 : decode b_L_act 251 = .ok (.iadd, 1) := by decide +kernel
theorem d_L_act_252 : decode b_L_act 252 = .ok (.if_icmp .ne 37, 3) := by decide +kernel
theorem d_L_act_255 : decode b_L_act 255 = .ok (.aload_n 0, 1) := by decide +kernel
theorem d_L_act_256 : decode b_L_act 256 = .ok (.invokevirtual 46, 3) := by decide +kernel
theorem d_L_act_259 : decode b_L_act 259 = .ok (.ifCond .eq 30, 3) := by decide +kernel
theorem d_L_act_262 : decode b_L_act 262 = .ok (.aload_n 0, 1) := by decide +kernel
theorem d_L_act_263 : decode b_L_act 263 = .ok (.invokevirtual 49, 3) := by decide +kernel
theorem d_L_act_266 : decode b_L_act 266 = .ok (.bipush 10, 2) := by decide +kernel
theorem d_L_act_268 : decode b_L_act 268 = .ok (.if_icmp .ne 21, 3) := by decide +kernel
theorem d_L_act_271 : decode b_L_act 271 = .ok (.aload_n 0, 1) := by decide +kernel
theorem d_L_act_272 : decode b_L_act 272 = .ok (.invokevirtual 36, 3) := by decide +kernel
theorem d_L_act_275 : decode b_L_act 275 = .ok (.ifCond .ne 14, 3) := by decide +kernel
theorem d_L_act_278 : decode b_L_act 278 = .ok (.aload_n 0, 1) := by decide +kernel
theorem d_L_act_279 : decode b_L_act 279 = .ok (.invokevirtual 64, 3) := by decide +kernel
theorem d_L_act_282 : decode b_L_act 282 = .ok (.ifCond .ne 7, 3) := by decide +kernel
theorem d_L_act_285 : decode b_L_act 285 = .ok (.iconst 1, 1) := by decide +kernel
theorem d_L_act_286 : decode b_L_act 286 = .ok (.goto 4, 3) := by decide +kernel
theorem d_L_act_289 : decode b_L_act 289 = .ok (.iconst 0, 1) := by decide +kernel
theorem d_L_act_290 : decode b_L_act 290 = .ok (.ireturn, 1) := by decide +kernel
theorem d_L_act_291 : decode b_L_act 291 = .ok (.iload_n 2, 1) := by decide +kernel
theorem d_L_act_292 : decode b_L_act 292 = .ok (.bipush 8, 2) := by decide +kernel
theorem d_L_act_294 : decode b_L_act 294 = .ok (.if_icmp .ge 94, 3) := by decide +kernel
theorem d_L_act_297 : decode b_L_act 297 = .ok (.aload_n 0, 1) := by decide +kernel
theorem d_L_act_298 : decode b_L_act 298 = .ok (.invokevirtual 52, 3) := by decide +kernel
theorem d_L_act_301 : decode b_L_act 301 = .ok (.istore 4, 2) := by decide +kernel
theorem d_L_act_303 : decode b_L_act 303 = .ok (.aload_n 0, 1) := by decide +kernel
theorem d_L_act_304 : decode b_L_act 304 = .ok (.invokevirtual 49, 3) := by decide +kernel
theorem d_L_act_307 : decode b_L_act 307 = .ok (.istore 5, 2) := by decide +kernel
theorem d_L_act_309 : decode b_L_act 309 = .ok (.iconst 1, 1) := by decide +kernel
theorem d_L_act_310 : decode b_L_act 310 = .ok (.iload_n 3, 1) := by decide +kernel
theorem d_L_act_311 : decode b_L_act 311 = .ok (.bipush 80, 2) := by decide +kernel
theorem d_L_act_313 : decode b_L_act 313 = .ok (.invokestatic 175, 3) := by decide +kernel
theorem d_L_act_316 : decode b_L_act 316 = .ok (.iadd, 1) := by decide +kernel
theorem d_L_act_317 : decode b_L_act 317 = .ok (.istore 6, 2) := by decide +kernel
theorem d_L_act_319 : decode b_L_act 319 = .ok (.aload_n 0, 1) := by decide +kernel
theorem d_L_act_320 : decode b_L_act 320 = .ok (.invokevirtual 140, 3) := by decide +kernel
theorem d_L_act_323 : decode b_L_act 323 = .ok (.ifCond .ne 14, 3) := by decide +kernel
theorem d_L_act_326 : decode b_L_act 326 = .ok (.iload 4, 2) := by decide +kernel
theorem d_L_act_328 : decode b_L_act 328 = .ok (.iload 6, 2) := by decide +kernel
theorem d_L_act_330 : decode b_L_act 330 = .ok (.iadd, 1) := by decide +kernel
theorem d_L_act_331 : decode b_L_act 331 = .ok (.sipush 600, 3) := by decide +kernel
theorem d_L_act_334 : decode b_L_act 334 = .ok (.if_icmp .le 25, 3) := by decide +kernel
theorem d_L_act_337 : decode b_L_act 337 = .ok (.aload_n 0, 1) := by decide +kernel
theorem d_L_act_338 : decode b_L_act 338 = .ok (.invokevirtual 137, 3) := by decide +kernel
theorem d_L_act_341 : decode b_L_act 341 = .ok (.iconst 2, 1) := by decide +kernel
theorem d_L_act_342 : decode b_L_act 342 = .ok (.if_icmp .eq 11, 3) := by decide +kernel
theorem d_L_act_345 : decode b_L_act 345 = .ok (.iload 4, 2) := by decide +kernel
theorem d_L_act_347 : decode b_L_act 347 = .ok (.sipush 500, 3) := by decide +kernel
theorem d_L_act_350 : decode b_L_act 350 = .ok (.if_icmp .le 7, 3) := by decide +kernel
theorem d_L_act_353 : decode b_L_act 353 = .ok (.iconst 1, 1) := by decide +kernel
theorem d_L_act_354 : decode b_L_act 354 = .ok (.goto 4, 3) := by decide +kernel
theorem d_L_act_357 : decode b_L_act 357 = .ok (.iconst 0, 1) := by decide +kernel
theorem d_L_act_358 : decode b_L_act 358 = .ok (.ireturn, 1) := by decide +kernel
theorem d_L_act_359 : decode b_L_act 359 = .ok (.aload_n 0, 1) := by decide +kernel
theorem d_L_act_360 : decode b_L_act 360 = .ok (.iload 6, 2) := by decide +kernel
theorem d_L_act_362 : decode b_L_act 362 = .ok (.invokevirtual 184, 3) := by decide +kernel
theorem d_L_act_365 : decode b_L_act 365 = .ok (.iload 4, 2) := by decide +kernel
theorem d_L_act_367 : decode b_L_act 367 = .ok (.iload 6, 2) := by decide +kernel
theorem d_L_act_369 : decode b_L_act 369 = .ok (.iadd, 1) := by decide +kernel
theorem d_L_act_370 : decode b_L_act 370 = .ok (.if_icmp .ne 16, 3) := by decide +kernel
theorem d_L_act_373 : decode b_L_act 373 = .ok (.aload_n 0, 1) := by decide +kernel
theorem d_L_act_374 : decode b_L_act 374 = .ok (.invokevirtual 49, 3) := by decide +kernel
theorem d_L_act_377 : decode b_L_act 377 = .ok (.iload 5, 2) := by decide +kernel
theorem d_L_act_379 : decode b_L_act 379 = .ok (.if_icmp .ne 7, 3) := by decide +kernel
theorem d_L_act_382 : decode b_L_act 382 = .ok (.iconst 1, 1) := by decide +kernel
theorem d_L_act_383 : decode b_L_act 383 = .ok (.goto 4, 3) := by decide +kernel
theorem d_L_act_386 : decode b_L_act 386 = .ok (.iconst 0, 1) := by decide +kernel
theorem d_L_act_387 : decode b_L_act 387 = .ok (.ireturn, 1) := by decide +kernel
theorem d_L_act_388 : decode b_L_act 388 = .ok (.iload_n 2, 1) := by decide +kernel
theorem d_L_act_389 : decode b_L_act 389 = .ok (.bipush 10, 2) := by decide +kernel
theorem d_L_act_391 : decode b_L_act 391 = .ok (.if_icmp .ge 72, 3) := by decide +kernel
theorem d_L_act_394 : decode b_L_act 394 = .ok (.aload_n 0, 1) := by decide +kernel
theorem d_L_act_395 : decode b_L_act 395 = .ok (.invokevirtual 52, 3) := by decide +kernel
theorem d_L_act_398 : decode b_L_act 398 = .ok (.istore 4, 2) := by decide +kernel
theorem d_L_act_400 : decode b_L_act 400 = .ok (.aload_n 0, 1) := by decide +kernel
theorem d_L_act_401 : decode b_L_act 401 = .ok (.invokevirtual 49, 3) := by decide +kernel
theorem d_L_act_404 : decode b_L_act 404 = .ok (.istore 5, 2) := by decide +kernel
theorem d_L_act_406 : decode b_L_act 406 = .ok (.iconst 1, 1) := by decide +kernel
theorem d_L_act_407 : decode b_L_act 407 = .ok (.iload_n 3, 1) := by decide +kernel
theorem d_L_act_408 : decode b_L_act 408 = .ok (.bipush 90, 2) := by decide +kernel
theorem d_L_act_410 : decode b_L_act 410 = .ok (.invokestatic 175, 3) := by decide +kernel
theorem d_L_act_413 : decode b_L_act 413 = .ok (.iadd, 1) := by decide +kernel
theorem d_L_act_414 : decode b_L_act 414 = .ok (.istore 6, 2) := by decide +kernel
theorem d_L_act_416 : decode b_L_act 416 = .ok (.aload_n 0, 1) := by decide +kernel
theorem d_L_act_417 : decode b_L_act 417 = .ok (.invokevirtual 140, 3) := by decide +kernel
theorem d_L_act_420 : decode b_L_act 420 = .ok (.ifCond .ne 37, 3) := by decide +kernel
theorem d_L_act_423 : decode b_L_act 423 = .ok (.aload_n 0, 1) := by decide +kernel
theorem d_L_act_424 : decode b_L_act 424 = .ok (.iload 6, 2) := by decide +kernel
theorem d_L_act_426 : decode b_L_act 426 = .ok (.invokevirtual 187, 3) := by decide +kernel
theorem d_L_act_429 : decode b_L_act 429 = .ok (.iconst 0, 1) := by decide +kernel
theorem d_L_act_430 : decode b_L_act 430 = .ok (.iload 4, 2) := by decide +kernel
theorem d_L_act_432 : decode b_L_act 432 = .ok (.iload 6, 2) := by decide +kernel
theorem d_L_act_434 : decode b_L_act 434 = .ok (.isub, 1) := by decide +kernel
theorem d_L_act_435 : decode b_L_act 435 = .ok (.invokestatic 113, 3) := by decide +kernel
theorem d_L_act_438 : decode b_L_act 438 = .ok (.if_icmp .ne 23, 3) := by decide +kernel
theorem d_L_act_441 : decode b_L_act 441 = .ok (.aload_n 0, 1) := by decide +kernel
theorem d_L_act_442 : decode b_L_act 442 = .ok (.invokevirtual 49, 3) := by decide +kernel
theorem d_L_act_445 : decode b_L_act 445 = .ok (.iload 5, 2) := by decide +kernel
theorem d_L_act_447 : decode b_L_act 447 = .ok (.aload_n 0, 1) := by decide +kernel
theorem d_L_act_448 : decode b_L_act 448 = .ok (.invokevirtual 52, 3) := by decide +kernel
theorem d_L_act_451 : decode b_L_act 451 = .ok (.invokestatic 152, 3) := by decide +kernel
theorem d_L_act_454 : decode b_L_act 454 = .ok (.if_icmp .ne 7, 3) := by decide +kernel
theorem d_L_act_457 : decode b_L_act 457 = .ok (.iconst 1, 1) := by decide +kernel
theorem d_L_act_458 : decode b_L_act 458 = .ok (.goto 4, 3) := by decide +kernel
theorem d_L_act_461 : decode b_L_act 461 = .ok (.iconst 0, 1) := by decide +kernel
theorem d_L_act_462 : decode b_L_act 462 = .ok (.ireturn, 1) := by decide +kernel
theorem d_L_act_463 : decode b_L_act 463 = .ok (.iload_n 2, 1) := by decide +kernel
theorem d_L_act_464 : decode b_L_act 464 = .ok (.bipush 10, 2) := by decide +kernel
theorem d_L_act_466 : decode b_L_act 466 = .ok (.if_icmp .ne 72, 3) := by decide +kernel
theorem d_L_act_469 : decode b_L_act 469 = .ok (.aload_n 0, 1) := by decide +kernel
theorem d_L_act_470 : decode b_L_act 470 = .ok (.invokevirtual 61, 3) := by decide +kernel
theorem d_L_act_473 : decode b_L_act 473 = .ok (.istore 4, 2) := by decide +kernel
theorem d_L_act_475 : decode b_L_act 475 = .ok (.aload_n 0, 1) := by decide +kernel
theorem d_L_act_476 : decode b_L_act 476 = .ok (.invokevirtual 42, 3) := by decide +kernel
theorem d_L_act_479 : decode b_L_act 479 = .ok (.ifCond .eq 53, 3) := by decide +kernel
theorem d_L_act_482 : decode b_L_act 482 = .ok (.aload_n 0, 1) := by decide +kernel
theorem d_L_act_483 : decode b_L_act 483 = .ok (.iconst 1, 1) := by decide +kernel
theorem d_L_act_484 : decode b_L_act 484 = .ok (.iload_n 3, 1) := by decide +kernel
theorem d_L_act_485 : decode b_L_act 485 = .ok (.bipush 90, 2) := by decide +kernel
theorem d_L_act_487 : decode b_L_act 487 = .ok (.invokestatic 175, 3) := by decide +kernel
theorem d_L_act_490 : decode b_L_act 490 = .ok (.iadd, 1) := by decide +kernel
theorem d_L_act_491 : decode b_L_act 491 = .ok (.iconst 1, 1) := by decide +kernel
theorem d_L_act_492 : decode b_L_act 492 = .ok (.iload_n 3, 1) := by decide +kernel
theorem d_L_act_493 : decode b_L_act 493 = .ok (.iconst 2, 1) := by decide +kernel
theorem d_L_act_494 : decode b_L_act 494 = .ok (.ishr, 1) := by decide +kernel
theorem d_L_act_495 : decode b_L_act 495 = .ok (.sipush 200, 3) := by decide +kernel
theorem d_L_act_498 : decode b_L_act 498 = .ok (.invokestatic 175, 3) := by decide +kernel
theorem d_L_act_501 : decode b_L_act 501 = .ok (.iadd, 1) := by decide +kernel
theorem d_L_act_502 : decode b_L_act 502 = .ok (.invokevirtual 190, 3) := by decide +kernel
theorem d_L_act_505 : decode b_L_act 505 = .ok (.iload 4, 2) := by decide +kernel
theorem d_L_act_507 : decode b_L_act 507 = .ok (.if_icmp .ne 29, 3) := by decide +kernel
theorem d_L_act_510 : decode b_L_act 510 = .ok (.aload_n 0, 1) := by decide +kernel
theorem d_L_act_511 : decode b_L_act 511 = .ok (.invokevirtual 61, 3) := by decide +kernel
theorem d_L_act_514 : decode b_L_act 514 = .ok (.ifCond .ne 22, 3) := by decide +kernel
theorem d_L_act_517 : decode b_L_act 517 = .ok (.aload_n 0, 1) := by decide +kernel
theorem d_L_act_518 : decode b_L_act 518 = .ok (.invokevirtual 55, 3) := by decide +kernel
theorem d_L_act_521 : decode b_L_act 521 = .ok (.iconst 1, 1) := by decide +kernel
theorem d_L_act_522 : decode b_L_act 522 = .ok (.iload_n 3, 1) := by decide +kernel
theorem d_L_act_523 : decode b_L_act 523 = .ok (.bipush 90, 2) := by decide +kernel
theorem d_L_act_525 : decode b_L_act 525 = .ok (.invokestatic 175, 3) := by decide +kernel
theorem d_L_act_528 : decode b_L_act 528 = .ok (.iadd, 1) := by decide +kernel
theorem d_L_act_529 : decode b_L_act 529 = .ok (.if_icmp .ne 7, 3) := by decide +kernel
theorem d_L_act_532 : decode b_L_act 532 = .ok (.iconst 1, 1) := by decide +kernel
theorem d_L_act_533 : decode b_L_act 533 = .ok (.goto 4, 3) := by decide +kernel
theorem d_L_act_536 : decode b_L_act 536 = .ok (.iconst 0, 1) := by decide +kernel
theorem d_L_act_537 : decode b_L_act 537 = .ok (.ireturn, 1) := by decide +kernel
theorem d_L_act_538 : decode b_L_act 538 = .ok (.iload_n 2, 1) := by decide +kernel
theorem d_L_act_539 : decode b_L_act 539 = .ok (.bipush 11, 2) := by decide +kernel
theorem d_L_act_541 : decode b_L_act 541 = .ok (.if_icmp .ne 45, 3) := by decide +kernel
theorem d_L_act_544 : decode b_L_act 544 = .ok (.aload_n 0, 1) := by decide +kernel
theorem d_L_act_545 : decode b_L_act 545 = .ok (.invokevirtual 79, 3) := by decide +kernel
theorem d_L_act_548 : decode b_L_act 548 = .ok (.istore 4, 2) := by decide +kernel
theorem d_L_act_550 : decode b_L_act 550 = .ok (.aload_n 0, 1) := by decide +kernel
theorem d_L_act_551 : decode b_L_act 551 = .ok (.iconst 1, 1) := by decide +kernel
theorem d_L_act_552 : decode b_L_act 552 = .ok (.iload_n 3, 1) := by decide +kernel
theorem d_L_act_553 : decode b_L_act 553 = .ok (.iconst 5, 1) := by decide +kernel
theorem d_L_act_554 : decode b_L_act 554 = .ok (.invokestatic 175, 3) := by decide +kernel
theorem d_L_act_557 : decode b_L_act 557 = .ok (.iadd, 1) := by decide +kernel
theorem d_L_act_558 : decode b_L_act 558 = .ok (.invokevirtual 193, 3) := by decide +kernel
theorem d_L_act_561 : decode b_L_act 561 = .ok (.iload 4, 2) := by decide +kernel
theorem d_L_act_563 : decode b_L_act 563 = .ok (.if_icmp .ne 21, 3) := by decide +kernel
theorem d_L_act_566 : decode b_L_act 566 = .ok (.aload_n 0, 1) := by decide +kernel
theorem d_L_act_567 : decode b_L_act 567 = .ok (.invokevirtual 79, 3) := by decide +kernel
theorem d_L_act_570 : decode b_L_act 570 = .ok (.iconst 1, 1) := by decide +kernel
theorem d_L_act_571 : decode b_L_act 571 = .ok (.iload_n 3, 1) := by decide +kernel
theorem d_L_act_572 : decode b_L_act 572 = .ok (.iconst 5, 1) := by decide +kernel
theorem d_L_act_573 : decode b_L_act 573 = .ok (.invokestatic 175, 3) := by decide +kernel
theorem d_L_act_576 : decode b_L_act 576 = .ok (.iadd, 1) := by decide +kernel
theorem d_L_act_577 : decode b_L_act 577 = .ok (.if_icmp .ne 7, 3) := by decide +kernel
theorem d_L_act_580 : decode b_L_act 580 = .ok (.iconst 1, 1) := by decide +kernel
theorem d_L_act_581 : decode b_L_act 581 = .ok (.goto 4, 3) := by decide +kernel
theorem d_L_act_584 : decode b_L_act 584 = .ok (.iconst 0, 1) := by decide +kernel
theorem d_L_act_585 : decode b_L_act 585 = .ok (.ireturn, 1) := by decide +kernel
theorem d_L_act_586 : decode b_L_act 586 = .ok (.iload_n 2, 1) := by decide +kernel
theorem d_L_act_587 : decode b_L_act 587 = .ok (.bipush 14, 2) := by decide +kernel
theorem d_L_act_589 : decode b_L_act 589 = .ok (.if_icmp .ge 66, 3) := by decide +kernel
theorem d_L_act_592 : decode b_L_act 592 = .ok (.aload_n 0, 1) := by decide +kernel
theorem d_L_act_593 : decode b_L_act 593 = .ok (.invokevirtual 30, 3) := by decide +kernel
theorem d_L_act_596 : decode b_L_act 596 = .ok (.istore 4, 2) := by decide +kernel
theorem d_L_act_598 : decode b_L_act 598 = .ok (.aload_n 0, 1) := by decide +kernel
theorem d_L_act_599 : decode b_L_act 599 = .ok (.invokevirtual 33, 3) := by decide +kernel
theorem d_L_act_602 : decode b_L_act 602 = .ok (.istore 5, 2) := by decide +kernel
theorem d_L_act_604 : decode b_L_act 604 = .ok (.aload_n 0, 1) := by decide +kernel
theorem d_L_act_605 : decode b_L_act 605 = .ok (.invokevirtual 42, 3) := by decide +kernel
theorem d_L_act_608 : decode b_L_act 608 = .ok (.ifCond .eq 41, 3) := by decide +kernel
theorem d_L_act_611 : decode b_L_act 611 = .ok (.iload 5, 2) := by decide +kernel
theorem d_L_act_613 : decode b_L_act 613 = .ok (.iload 4, 2) := by decide +kernel
theorem d_L_act_615 : decode b_L_act 615 = .ok (.iadd, 1) := by decide +kernel
theorem d_L_act_616 : decode b_L_act 616 = .ok (.bipush 90, 2) := by decide +kernel
theorem d_L_act_618 : decode b_L_act 618 = .ok (.if_icmp .gt 31, 3) := by decide +kernel
theorem d_L_act_621 : decode b_L_act 621 = .ok (.aload_n 0, 1) := by decide +kernel
theorem d_L_act_622 : decode b_L_act 622 = .ok (.invokevirtual 196, 3) := by decide +kernel
theorem d_L_act_625 : decode b_L_act 625 = .ok (.iload 4, 2) := by decide +kernel
theorem d_L_act_627 : decode b_L_act 627 = .ok (.if_icmp .ne 26, 3) := by decide +kernel
theorem d_L_act_630 : decode b_L_act 630 = .ok (.aload_n 0, 1) := by decide +kernel
theorem d_L_act_631 : decode b_L_act 631 = .ok (.invokevirtual 30, 3) := by decide +kernel
theorem d_L_act_634 : decode b_L_act 634 = .ok (.ifCond .ne 19, 3) := by decide +kernel
theorem d_L_act_637 : decode b_L_act 637 = .ok (.aload_n 0, 1) := by decide +kernel
theorem d_L_act_638 : decode b_L_act 638 = .ok (.invokevirtual 33, 3) := by decide +kernel
theorem d_L_act_641 : decode b_L_act 641 = .ok (.iload 5, 2) := by decide +kernel
theorem d_L_act_643 : decode b_L_act 643 = .ok (.iload 4, 2) := by decide +kernel
theorem d_L_act_645 : decode b_L_act 645 = .ok (.iadd, 1) := by decide +kernel
theorem d_L_act_646 : decode b_L_act 646 = .ok (.if_icmp .ne 7, 3) := by decide +kernel
theorem d_L_act_649 : decode b_L_act 649 = .ok (.iconst 1, 1) := by decide +kernel
theorem d_L_act_650 : decode b_L_act 650 = .ok (.goto 4, 3) := by decide +kernel
theorem d_L_act_653 : decode b_L_act 653 = .ok (.iconst 0, 1) := by decide +kernel
theorem d_L_act_654 : decode b_L_act 654 = .ok (.ireturn, 1) := by decide +kernel
theorem d_L_act_655 : decode b_L_act 655 = .ok (.iconst 1, 1) := by decide +kernel
theorem d_L_act_656 : decode b_L_act 656 = .ok (.iload_n 3, 1) := by decide +kernel
theorem d_L_act_657 : decode b_L_act 657 = .ok (.iload_n 3, 1) := by decide +kernel
theorem d_L_act_658 : decode b_L_act 658 = .ok (.iconst 3, 1) := by decide +kernel
theorem d_L_act_659 : decode b_L_act 659 = .ok (.ishr, 1) := by decide +kernel
theorem d_L_act_660 : decode b_L_act 660 = .ok (.iconst 4, 1) := by decide +kernel
theorem d_L_act_661 : decode b_L_act 661 = .ok (.invokestatic 175, 3) := by decide +kernel
theorem d_L_act_664 : decode b_L_act 664 = .ok (.ifCond .ne 8, 3) := by decide +kernel
theorem d_L_act_667 : decode b_L_act 667 = .ok (.bipush 60, 2) := by decide +kernel
theorem d_L_act_669 : decode b_L_act 669 = .ok (.goto 5, 3) := by decide +kernel
theorem d_L_act_672 : decode b_L_act 672 = .ok (.bipush 9, 2) := by decide +kernel
theorem d_L_act_674 : decode b_L_act 674 = .ok (.invokestatic 175, 3) := by decide +kernel
theorem d_L_act_677 : decode b_L_act 677 = .ok (.iadd, 1) := by decide +kernel
theorem d_L_act_678 : decode b_L_act 678 = .ok (.istore 4, 2) := by decide +kernel
theorem d_L_act_680 : decode b_L_act 680 = .ok (.aload_n 0, 1) := by decide +kernel
theorem d_L_act_681 : decode b_L_act 681 = .ok (.iload 4, 2) := by decide +kernel
theorem d_L_act_683 : decode b_L_act 683 = .ok (.invokevirtual 169, 3) := by decide +kernel
theorem d_L_act_686 : decode b_L_act 686 = .ok (.istore 5, 2) := by decide +kernel
theorem d_L_act_688 : decode b_L_act 688 = .ok (.aload_n 0, 1) := by decide +kernel
theorem d_L_act_689 : decode b_L_act 689 = .ok (.invokevirtual 149, 3) := by decide +kernel
theorem d_L_act_692 : decode b_L_act 692 = .ok (.istore 6, 2) := by decide +kernel
theorem d_L_act_694 : decode b_L_act 694 = .ok (.aload_n 0, 1) := by decide +kernel
theorem d_L_act_695 : decode b_L_act 695 = .ok (.invokevirtual 73, 3) := by decide +kernel
theorem d_L_act_698 : decode b_L_act 698 = .ok (.istore 7, 2) := by decide +kernel
theorem d_L_act_700 : decode b_L_act 700 = .ok (.aload_n 0, 1) := by decide +kernel
theorem d_L_act_701 : decode b_L_act 701 = .ok (.invokevirtual 30, 3) := by decide +kernel
theorem d_L_act_704 : decode b_L_act 704 = .ok (.aload_n 0, 1) := by decide +kernel
theorem d_L_act_705 : decode b_L_act 705 = .ok (.invokevirtual 82, 3) := by decide +kernel
theorem d_L_act_708 : decode b_L_act 708 = .ok (.iadd, 1) := by decide +kernel
theorem d_L_act_709 : decode b_L_act 709 = .ok (.istore 8, 2) := by decide +kernel
theorem d_L_act_711 : decode b_L_act 711 = .ok (.aload_n 0, 1) := by decide +kernel
theorem d_L_act_712 : decode b_L_act 712 = .ok (.invokevirtual 67, 3) := by decide +kernel
theorem d_L_act_715 : decode b_L_act 715 = .ok (.istore 9, 2) := by decide +kernel
theorem d_L_act_717 : decode b_L_act 717 = .ok (.aload_n 0, 1) := by decide +kernel
theorem d_L_act_718 : decode b_L_act 718 = .ok (.invokevirtual 39, 3) := by decide +kernel
theorem d_L_act_721 : decode b_L_act 721 = .ok (.istore 10, 2) := by decide +kernel
theorem d_L_act_723 : decode b_L_act 723 = .ok (.aload_n 0, 1) := by decide +kernel
theorem d_L_act_724 : decode b_L_act 724 = .ok (.aload_n 0, 1) := by decide +kernel
theorem d_L_act_725 : decode b_L_act 725 = .ok (.invokevirtual 49, 3) := by decide +kernel
theorem d_L_act_728 : decode b_L_act 728 = .ok (.invokevirtual 155, 3) := by decide +kernel
theorem d_L_act_731 : decode b_L_act 731 = .ok (.istore 11, 2) := by decide +kernel
theorem d_L_act_733 : decode b_L_act 733 = .ok (.aload_n 0, 1) := by decide +kernel
theorem d_L_act_734 : decode b_L_act 734 = .ok (.invokevirtual 61, 3) := by decide +kernel
theorem d_L_act_737 : decode b_L_act 737 = .ok (.istore 12, 2) := by decide +kernel
theorem d_L_act_739 : decode b_L_act 739 = .ok (.aload_n 0, 1) := by decide +kernel
theorem d_L_act_740 : decode b_L_act 740 = .ok (.invokevirtual 46, 3) := by decide +kernel
theorem d_L_act_743 : decode b_L_act 743 = .ok (.istore 13, 2) := by decide +kernel
theorem d_L_act_745 : decode b_L_act 745 = .ok (.aload_n 0, 1) := by decide +kernel
theorem d_L_act_746 : decode b_L_act 746 = .ok (.invokevirtual 55, 3) := by decide +kernel
theorem d_L_act_749 : decode b_L_act 749 = .ok (.istore 14, 2) := by decide +kernel
theorem d_L_act_751 : decode b_L_act 751 = .ok (.aload_n 0, 1) := by decide +kernel
theorem d_L_act_752 : decode b_L_act 752 = .ok (.iload 4, 2) := by decide +kernel
theorem d_L_act_754 : decode b_L_act 754 = .ok (.invokevirtual 199, 3) := by decide +kernel
theorem d_L_act_757 : decode b_L_act 757 = .ok (.istore 15, 2) := by decide +kernel
theorem d_L_act_759 : decode b_L_act 759 = .ok (.iload 4, 2) := by decide +kernel
theorem d_L_act_761 : decode b_L_act 761 = .ok (.iconst 1, 1) := by decide +kernel
theorem d_L_act_762 : decode b_L_act 762 = .ok (.if_icmp .ne 48, 3) := by decide +kernel
theorem d_L_act_765 : decode b_L_act 765 = .ok (.iload 13, 2) := by decide +kernel
theorem d_L_act_767 : decode b_L_act 767 = .ok (.ifCond .eq 43, 3) := by decide +kernel
theorem d_L_act_770 : decode b_L_act 770 = .ok (.aload_n 0, 1) := by decide +kernel
theorem d_L_act_771 : decode b_L_act 771 = .ok (.aload_n 0, 1) := by decide +kernel
theorem d_L_act_772 : decode b_L_act 772 = .ok (.invokevirtual 36, 3) := by decide +kernel
theorem d_L_act_775 : decode b_L_act 775 = .ok (.iconst 1, 1) := by decide +kernel
theorem d_L_act_776 : decode b_L_act 776 = .ok (.isub, 1) := by decide +kernel
theorem d_L_act_777 : decode b_L_act 777 = .ok (.invokevirtual 91, 3) := by decide +kernel
theorem d_L_act_780 : decode b_L_act 780 = .ok (.iload 11, 2) := by decide +kernel
theorem d_L_act_782 : decode b_L_act 782 = .ok (.if_icmp .ne 26, 3) := by decide +kernel
theorem d_L_act_785 : decode b_L_act 785 = .ok (.aload_n 0, 1) := by decide +kernel
theorem d_L_act_786 : decode b_L_act 786 = .ok (.invokevirtual 61, 3) := by decide +kernel
theorem d_L_act_789 : decode b_L_act 789 = .ok (.iload 12, 2) := by decide +kernel
theorem d_L_act_791 : decode b_L_act 791 = .ok (.iconst 0, 1) := by decide +kernel
theorem d_L_act_792 : decode b_L_act 792 = .ok (.aload_n 0, 1) := by decide +kernel
theorem d_L_act_793 : decode b_L_act 793 = .ok (.iload 11, 2) := by decide +kernel
theorem d_L_act_795 : decode b_L_act 795 = .ok (.invokevirtual 146, 3) := by decide +kernel
theorem d_L_act_798 : decode b_L_act 798 = .ok (.iload 14, 2) := by decide +kernel
theorem d_L_act_800 : decode b_L_act 800 = .ok (.isub, 1) := by decide +kernel
theorem d_L_act_801 : decode b_L_act 801 = .ok (.invokestatic 113, 3) := by decide +kernel
theorem d_L_act_804 : decode b_L_act 804 = .ok (.iadd, 1) := by decide +kernel
theorem d_L_act_805 : decode b_L_act 805 = .ok (.if_icmp .eq 5, 3) := by decide +kernel
theorem d_L_act_808 : decode b_L_act 808 = .ok (.iconst 0, 1) := by decide +kernel
theorem d_L_act_809 : decode b_L_act 809 = .ok (.ireturn, 1) := by decide +kernel
theorem d_L_act_810 : decode b_L_act 810 = .ok (.aload_n 0, 1) := by decide +kernel
theorem d_L_act_811 : decode b_L_act 811 = .ok (.invokevirtual 49, 3) := by decide +kernel
theorem d_L_act_814 : decode b_L_act 814 = .ok (.iload 5, 2) := by decide +kernel
theorem d_L_act_816 : decode b_L_act 816 = .ok (.if_icmp .ne 103, 3) := by decide +kernel
theorem d_L_act_819 : decode b_L_act 819 = .ok (.aload_n 0, 1) := by decide +kernel
theorem d_L_act_820 : decode b_L_act 820 = .ok (.invokevirtual 39, 3) := by decide +kernel
theorem d_L_act_823 : decode b_L_act 823 = .ok (.iload 10, 2) := by decide +kernel
theorem d_L_act_825 : decode b_L_act 825 = .ok (.iload 4, 2) := by decide +kernel
theorem d_L_act_827 : decode b_L_act 827 = .ok (.iadd, 1) := by decide +kernel
theorem d_L_act_828 : decode b_L_act 828 = .ok (.if_icmp .ne 91, 3) := by decide +kernel
theorem d_L_act_831 : decode b_L_act 831 = .ok (.aload_n 0, 1) := by decide +kernel
theorem d_L_act_832 : decode b_L_act 832 = .ok (.invokevirtual 30, 3) := by decide +kernel
theorem d_L_act_835 : decode b_L_act 835 = .ok (.aload_n 0, 1) := by decide +kernel
theorem d_L_act_836 : decode b_L_act 836 = .ok (.invokevirtual 82, 3) := by decide +kernel
theorem d_L_act_839 : decode b_L_act 839 = .ok (.iadd, 1) := by decide +kernel
theorem d_L_act_840 : decode b_L_act 840 = .ok (.iload 8, 2) := by decide +kernel
theorem d_L_act_842 : decode b_L_act 842 = .ok (.iload 15, 2) := by decide +kernel
theorem d_L_act_844 : decode b_L_act 844 = .ok (.iadd, 1) := by decide +kernel
theorem d_L_act_845 : decode b_L_act 845 = .ok (.if_icmp .ne 74, 3) := by decide +kernel
theorem d_L_act_848 : decode b_L_act 848 = .ok (.aload_n 0, 1) := by decide +kernel
theorem d_L_act_849 : decode b_L_act 849 = .ok (.invokevirtual 73, 3) := by decide +kernel
theorem d_L_act_852 : decode b_L_act 852 = .ok (.iload 7, 2) := by decide +kernel
theorem d_L_act_854 : decode b_L_act 854 = .ok (.iload 6, 2) := by decide +kernel
theorem d_L_act_856 : decode b_L_act 856 = .ok (.ifCond .le 14, 3) := by decide +kernel
theorem d_L_act_859 : decode b_L_act 859 = .ok (.iload 6, 2) := by decide +kernel
theorem d_L_act_861 : decode b_L_act 861 = .ok (.iload 4, 2) := by decide +kernel
theorem d_L_act_863 : decode b_L_act 863 = .ok (.if_icmp .gt 7, 3) := by decide +kernel
theorem d_L_act_866 : decode b_L_act 866 = .ok (.iconst 1, 1) := by decide +kernel
theorem d_L_act_867 : decode b_L_act 867 = .ok (.goto 4, 3) := by decide +kernel
theorem d_L_act_870 : decode b_L_act 870 = .ok (.iconst 0, 1) := by decide +kernel
theorem d_L_act_871 : decode b_L_act 871 = .ok (.iadd, 1) := by decide +kernel
theorem d_L_act_872 : decode b_L_act 872 = .ok (.if_icmp .ne 47, 3) := by decide +kernel
theorem d_L_act_875 : decode b_L_act 875 = .ok (.iload 9, 2) := by decide +kernel
theorem d_L_act_877 : decode b_L_act 877 = .ok (.ifCond .eq 19, 3) := by decide +kernel
theorem d_L_act_880 : decode b_L_act 880 = .ok (.aload_n 0, 1) := by decide +kernel
theorem d_L_act_881 : decode b_L_act 881 = .ok (.invokevirtual 67, 3) := by decide +kernel
theorem d_L_act_884 : decode b_L_act 884 = .ok (.iconst 0, 1) := by decide +kernel
theorem d_L_act_885 : decode b_L_act 885 = .ok (.iload 9, 2) := by decide +kernel
theorem d_L_act_887 : decode b_L_act 887 = .ok (.iload 4, 2) := by decide +kernel
theorem d_L_act_889 : decode b_L_act 889 = .ok (.isub, 1) := by decide +kernel
theorem d_L_act_890 : decode b_L_act 890 = .ok (.invokestatic 113, 3) := by decide +kernel
theorem d_L_act_893 : decode b_L_act 893 = .ok (.if_icmp .ne 26, 3) := by decide +kernel
theorem d_L_act_896 : decode b_L_act 896 = .ok (.iload 13, 2) := by decide +kernel
theorem d_L_act_898 : decode b_L_act 898 = .ok (.ifCond .ne 17, 3) := by decide +kernel
theorem d_L_act_901 : decode b_L_act 901 = .ok (.aload_n 0, 1) := by decide +kernel
theorem d_L_act_902 : decode b_L_act 902 = .ok (.invokevirtual 61, 3) := by decide +kernel
theorem d_L_act_905 : decode b_L_act 905 = .ok (.iload 12, 2) := by decide +kernel
theorem d_L_act_907 : decode b_L_act 907 = .ok (.if_icmp .ne 12, 3) := by decide +kernel
theorem d_L_act_910 : decode b_L_act 910 = .ok (.iload 15, 2) := by decide +kernel
theorem d_L_act_912 : decode b_L_act 912 = .ok (.ifCond .ne 7, 3) := by decide +kernel
theorem d_L_act_915 : decode b_L_act 915 = .ok (.iconst 1, 1) := by decide +kernel
theorem d_L_act_916 : decode b_L_act 916 = .ok (.goto 4, 3) := by decide +kernel
theorem d_L_act_919 : decode b_L_act 919 = .ok (.iconst 0, 1) := by decide +kernel
theorem d_L_act_920 : decode b_L_act 920 = .ok (.ireturn, 1) := by decide +kernel
theorem cc_L_175 : CS "KiteLoggerLaw" 175 y_L_most b_L_most 2 (some .int) 2 := ⟨TT_in (i := 662) (by decide +kernel) (by decide +kernel), TT_in (i := 663) (by decide +kernel) (by decide +kernel), TT_in (i := 17) (by decide +kernel) (by decide +kernel), TT_in (i := 664) (by decide +kernel) (by decide +kernel), ⟨by decide +kernel, by decide +kernel, by decide +kernel⟩⟩
theorem cc_L_76 : CV "KiteLoggerLaw" 76 y_G_searches b_G_searches 1 (some .int) 0 := ⟨TT_in (i := 755) (by decide +kernel) (by decide +kernel), TT_in (i := 756) (by decide +kernel) (by decide +kernel), TT_in (i := 757) (by decide +kernel) (by decide +kernel), TT_in (i := 18) (by decide +kernel) (by decide +kernel), TT_in (i := 758) (by decide +kernel) (by decide +kernel), ⟨by decide +kernel, by decide +kernel, by decide +kernel⟩⟩
theorem cc_L_61 : CV "KiteLoggerLaw" 61 y_G_wear b_G_wear 1 (some .int) 0 := ⟨TT_in (i := 735) (by decide +kernel) (by decide +kernel), TT_in (i := 736) (by decide +kernel) (by decide +kernel), TT_in (i := 737) (by decide +kernel) (by decide +kernel), TT_in (i := 18) (by decide +kernel) (by decide +kernel), TT_in (i := 738) (by decide +kernel) (by decide +kernel), ⟨by decide +kernel, by decide +kernel, by decide +kernel⟩⟩
theorem cc_L_178 : CV "KiteLoggerLaw" 178 y_G_search b_G_search 2 (some .int) 1 := ⟨TT_in (i := 1018) (by decide +kernel) (by decide +kernel), TT_in (i := 1019) (by decide +kernel) (by decide +kernel), TT_in (i := 1020) (by decide +kernel) (by decide +kernel), TT_in (i := 18) (by decide +kernel) (by decide +kernel), TT_in (i := 1021) (by decide +kernel) (by decide +kernel), ⟨by decide +kernel, by decide +kernel, by decide +kernel⟩⟩
theorem cc_L_181 : CV "KiteLoggerLaw" 181 y_G_launch b_G_launch 1 (some .int) 0 := ⟨TT_in (i := 1103) (by decide +kernel) (by decide +kernel), TT_in (i := 1104) (by decide +kernel) (by decide +kernel), TT_in (i := 1105) (by decide +kernel) (by decide +kernel), TT_in (i := 18) (by decide +kernel) (by decide +kernel), TT_in (i := 1106) (by decide +kernel) (by decide +kernel), ⟨by decide +kernel, by decide +kernel, by decide +kernel⟩⟩
theorem cc_L_184 : CV "KiteLoggerLaw" 184 y_G_payOut b_G_payOut 2 (some .int) 1 := ⟨TT_in (i := 1107) (by decide +kernel) (by decide +kernel), TT_in (i := 1108) (by decide +kernel) (by decide +kernel), TT_in (i := 1109) (by decide +kernel) (by decide +kernel), TT_in (i := 18) (by decide +kernel) (by decide +kernel), TT_in (i := 1110) (by decide +kernel) (by decide +kernel), ⟨by decide +kernel, by decide +kernel, by decide +kernel⟩⟩
theorem cc_L_187 : CV "KiteLoggerLaw" 187 y_G_reelIn b_G_reelIn 2 (some .int) 1 := ⟨TT_in (i := 1111) (by decide +kernel) (by decide +kernel), TT_in (i := 1112) (by decide +kernel) (by decide +kernel), TT_in (i := 1113) (by decide +kernel) (by decide +kernel), TT_in (i := 18) (by decide +kernel) (by decide +kernel), TT_in (i := 1114) (by decide +kernel) (by decide +kernel), ⟨by decide +kernel, by decide +kernel, by decide +kernel⟩⟩
theorem cc_L_190 : CV "KiteLoggerLaw" 190 y_G_replaceBridle b_G_replaceBridle 3 (some .int) 2 := ⟨TT_in (i := 1115) (by decide +kernel) (by decide +kernel), TT_in (i := 1116) (by decide +kernel) (by decide +kernel), TT_in (i := 1117) (by decide +kernel) (by decide +kernel), TT_in (i := 18) (by decide +kernel) (by decide +kernel), TT_in (i := 1118) (by decide +kernel) (by decide +kernel), ⟨by decide +kernel, by decide +kernel, by decide +kernel⟩⟩
theorem cc_L_79 : CV "KiteLoggerLaw" 79 y_G_interval b_G_interval 1 (some .int) 0 := ⟨TT_in (i := 759) (by decide +kernel) (by decide +kernel), TT_in (i := 760) (by decide +kernel) (by decide +kernel), TT_in (i := 761) (by decide +kernel) (by decide +kernel), TT_in (i := 18) (by decide +kernel) (by decide +kernel), TT_in (i := 762) (by decide +kernel) (by decide +kernel), ⟨by decide +kernel, by decide +kernel, by decide +kernel⟩⟩
theorem cc_L_193 : CV "KiteLoggerLaw" 193 y_G_setInterval b_G_setInterval 2 (some .int) 1 := ⟨TT_in (i := 1119) (by decide +kernel) (by decide +kernel), TT_in (i := 1120) (by decide +kernel) (by decide +kernel), TT_in (i := 1121) (by decide +kernel) (by decide +kernel), TT_in (i := 18) (by decide +kernel) (by decide +kernel), TT_in (i := 1122) (by decide +kernel) (by decide +kernel), ⟨by decide +kernel, by decide +kernel, by decide +kernel⟩⟩
theorem cc_L_196 : CV "KiteLoggerLaw" 196 y_G_archive b_G_archive 1 (some .int) 0 := ⟨TT_in (i := 1123) (by decide +kernel) (by decide +kernel), TT_in (i := 1124) (by decide +kernel) (by decide +kernel), TT_in (i := 1125) (by decide +kernel) (by decide +kernel), TT_in (i := 18) (by decide +kernel) (by decide +kernel), TT_in (i := 1126) (by decide +kernel) (by decide +kernel), ⟨by decide +kernel, by decide +kernel, by decide +kernel⟩⟩
theorem cc_L_199 : CV "KiteLoggerLaw" 199 y_G_passTicks b_G_passTicks 2 (some .int) 1 := ⟨TT_in (i := 1127) (by decide +kernel) (by decide +kernel), TT_in (i := 1128) (by decide +kernel) (by decide +kernel), TT_in (i := 1129) (by decide +kernel) (by decide +kernel), TT_in (i := 18) (by decide +kernel) (by decide +kernel), TT_in (i := 1130) (by decide +kernel) (by decide +kernel), ⟨by decide +kernel, by decide +kernel, by decide +kernel⟩⟩
def fk_L_act_810 (N : Nat) (rr : Nat) (v1 : Int32) (v2 : Int32) (v3 : Int32) (v4 : Int32) (v5 : Int32) (v6 : Int32) (v7 : Int32) (v8 : Int32) (v9 : Int32) (v10 : Int32) (v11 : Int32) (v12 : Int32) (v13 : Bool) (v14 : Int32) (v15 : Int32) (M : Mem) : Option (Bool × Mem) :=
  bnd (f_G_height M) fun (x173 : Int32) (M174 : Mem) => if x173 = v5 then (bnd (f_G_tick M174) fun (x175 : Int32) (M176 : Mem) => if x175 = (v10 + v4) then (bnd (f_G_loggedCount M176) fun (x177 : Int32) (M178 : Mem) => bnd (f_G_droppedCount M178) fun (x179 : Int32) (M180 : Mem) => if (x177 + x179) = (v8 + v15) then (bnd (f_G_snaps M180) fun (x181 : Int32) (M182 : Mem) => jn (fun (x184 : Bool) (M185 : Mem) => if x181 = (v7 + (b2i x184)) then (jn (fun (x187 : Unit) (M188 : Mem) => if v13 = true then (some (true, M188)) else (bnd (f_G_wear M188) fun (x189 : Int32) (M190 : Mem) => if x189 = v12 then (if v15 = 0 then (some (true, M190)) else (some (false, M190))) else (some (false, M190)))) (fun j186 => if v9 = 0 then (j186 () M185) else (bnd (f_G_beaconTime M185) fun (x191 : Int32) (M192 : Mem) => if x191 = (imax (0 : Int32) (v9 - v4)) then (j186 () M192) else (some (false, M192))))) else (some (false, M185))) (fun j183 => jn (fun (x194 : Unit) (M195 : Mem) => j183 false M195) (fun j193 => if 0 < v6 then (if v6 ≤ v4 then (j183 true M182) else (j193 () M182)) else (j193 () M182)))) else (some (false, M180))) else (some (false, M176))) else (some (false, M174))
set_option maxHeartbeats 40000000 in
set_option maxRecDepth 100000 in
theorem gk_L_act_810 (l : Launch) (N : Nat) {w : Wc} {rr : Nat} (hw : WK w rr) {p0 : Program} {e : Env} {s : State} {m : MethodId} {args : Array Value} {below : List Frame} {meth : Method} {c : Code} (g : Gd p0 s m args meth c w 16 b_L_act "KiteLoggerLaw") (hret : meth.sig.returnType = (some .boolean)) (v1 : Int32) (v2 : Int32) (v3 : Int32) (v4 : Int32) (v5 : Int32) (v6 : Int32) (v7 : Int32) (v8 : Int32) (v9 : Int32) (v10 : Int32) (v11 : Int32) (v12 : Int32) (v13 : Bool) (v14 : Int32) (v15 : Int32) (M : Mem) : Go p0 l e (rmL 8) s m args below meth c w 16 0 0 (fun r => MQ below (QZ w r) args s (rmL 8).cells (rmL 8).slots (wA w)) (fk_L_act_810 N rr v1 v2 v3 v4 v5 v6 v7 v8 v9 v10 v11 v12 v13 v14 v15 M) 810 [(0, .ref (wad w 0)), (1, .int v1), (2, .int v2), (3, .int v3), (4, .int v4), (5, .int v5), (6, .int v6), (7, .int v7), (8, .int v8), (9, .int v9), (10, .int v10), (11, .int v11), (12, .int v12), (13, .int (b2i v13)), (14, .int v14), (15, .int v15)] [] M := by
  unfold fk_L_act_810
  refine G_aload_n g (pc := 810) 0 d_L_act_810 rfl rfl ?_
  refine G_cVI0 g (pc := 811) (As := []) (st := []) cc_L_49 (c_G_height l hw M) (hw.m 0 (Nat.le_of_ble_eq_true rfl)) (hw.k (Nat.le_of_ble_eq_true rfl) (zk0 rr)) rfl (by decide) rfl ⟨(Nat.le_of_ble_eq_true rfl), (Nat.le_of_ble_eq_true rfl)⟩ ⟨(Nat.le_of_ble_eq_true rfl), (Nat.le_of_ble_eq_true rfl)⟩ (Nat.le_of_ble_eq_true rfl) d_L_act_811 (fun x173 M174 => ?_)
  refine G_iload g (pc := 814) 5 d_L_act_814 rfl ?_
  refine G_icmp_ne g (pc := 816) 919 d_L_act_816 (by decide) ?_ ?_
  · refine G_aload_n g (pc := 819) 0 d_L_act_819 rfl rfl ?_
    refine G_cVI0 g (pc := 820) (As := []) (st := []) cc_L_39 (c_G_tick l hw M174) (hw.m 0 (Nat.le_of_ble_eq_true rfl)) (hw.k (Nat.le_of_ble_eq_true rfl) (zk0 rr)) rfl (by decide) rfl ⟨(Nat.le_of_ble_eq_true rfl), (Nat.le_of_ble_eq_true rfl)⟩ ⟨(Nat.le_of_ble_eq_true rfl), (Nat.le_of_ble_eq_true rfl)⟩ (Nat.le_of_ble_eq_true rfl) d_L_act_820 (fun x175 M176 => ?_)
    refine G_iload g (pc := 823) 10 d_L_act_823 rfl ?_
    refine G_iload g (pc := 825) 4 d_L_act_825 rfl ?_
    refine G_iadd g (pc := 827) d_L_act_827 ?_
    refine G_icmp_ne g (pc := 828) 919 d_L_act_828 (by decide) ?_ ?_
    · refine G_aload_n g (pc := 831) 0 d_L_act_831 rfl rfl ?_
      refine G_cVI0 g (pc := 832) (As := []) (st := []) cc_L_30 (c_G_loggedCount l hw M176) (hw.m 0 (Nat.le_of_ble_eq_true rfl)) (hw.k (Nat.le_of_ble_eq_true rfl) (zk0 rr)) rfl (by decide) rfl ⟨(Nat.le_of_ble_eq_true rfl), (Nat.le_of_ble_eq_true rfl)⟩ ⟨(Nat.le_of_ble_eq_true rfl), (Nat.le_of_ble_eq_true rfl)⟩ (Nat.le_of_ble_eq_true rfl) d_L_act_832 (fun x177 M178 => ?_)
      refine G_aload_n g (pc := 835) 0 d_L_act_835 rfl rfl ?_
      refine G_cVI0 g (pc := 836) (As := []) (st := [.int x177]) cc_L_82 (c_G_droppedCount l hw M178) (hw.m 0 (Nat.le_of_ble_eq_true rfl)) (hw.k (Nat.le_of_ble_eq_true rfl) (zk0 rr)) rfl (by decide) rfl ⟨(Nat.le_of_ble_eq_true rfl), (Nat.le_of_ble_eq_true rfl)⟩ ⟨(Nat.le_of_ble_eq_true rfl), (Nat.le_of_ble_eq_true rfl)⟩ (Nat.le_of_ble_eq_true rfl) d_L_act_836 (fun x179 M180 => ?_)
      refine G_iadd g (pc := 839) d_L_act_839 ?_
      refine G_iload g (pc := 840) 8 d_L_act_840 rfl ?_
      refine G_iload g (pc := 842) 15 d_L_act_842 rfl ?_
      refine G_iadd g (pc := 844) d_L_act_844 ?_
      refine G_icmp_ne g (pc := 845) 919 d_L_act_845 (by decide) ?_ ?_
      · refine G_aload_n g (pc := 848) 0 d_L_act_848 rfl rfl ?_
        refine G_cVI0 g (pc := 849) (As := []) (st := []) cc_L_73 (c_G_snaps l hw M180) (hw.m 0 (Nat.le_of_ble_eq_true rfl)) (hw.k (Nat.le_of_ble_eq_true rfl) (zk0 rr)) rfl (by decide) rfl ⟨(Nat.le_of_ble_eq_true rfl), (Nat.le_of_ble_eq_true rfl)⟩ ⟨(Nat.le_of_ble_eq_true rfl), (Nat.le_of_ble_eq_true rfl)⟩ (Nat.le_of_ble_eq_true rfl) d_L_act_849 (fun x181 M182 => ?_)
        refine G_iload g (pc := 852) 7 d_L_act_852 rfl ?_
        refine G_iload g (pc := 854) 6 d_L_act_854 rfl ?_
        refine G_jn 871 (fun _ => [(0, .ref (wad w 0)), (1, .int v1), (2, .int v2), (3, .int v3), (4, .int v4), (5, .int v5), (6, .int v6), (7, .int v7), (8, .int v8), (9, .int v9), (10, .int v10), (11, .int v11), (12, .int v12), (13, .int (b2i v13)), (14, .int v14), (15, .int v15)]) (fun (x184 : Bool) => [.int (b2i x184), .int v7, .int x181]) (fun x184 M185 => ?_) (fun j183 hj183 => ?_)
        · refine G_iadd g (pc := 871) d_L_act_871 ?_
          refine G_icmp_ne g (pc := 872) 919 d_L_act_872 (by decide) ?_ ?_
          · refine G_iload g (pc := 875) 9 d_L_act_875 rfl ?_
            refine G_jn 896 (fun _ => [(0, .ref (wad w 0)), (1, .int v1), (2, .int v2), (3, .int v3), (4, .int v4), (5, .int v5), (6, .int v6), (7, .int v7), (8, .int v8), (9, .int v9), (10, .int v10), (11, .int v11), (12, .int v12), (13, .int (b2i v13)), (14, .int v14), (15, .int v15)]) (fun (x187 : Unit) => []) (fun x187 M188 => ?_) (fun j186 hj186 => ?_)
            · refine G_iload g (pc := 896) 13 d_L_act_896 rfl ?_
              refine G_if_neB g (pc := 898) 915 d_L_act_898 (by decide) ?_ ?_
              · refine G_iconst g (pc := 915) (1 : Int32) d_L_act_915 rfl ?_
                refine G_goto g (pc := 916) 920 d_L_act_916 (by decide) ?_
                exact G_zreturn g (pc := 920) true rfl hret (Nat.le_of_ble_eq_true rfl) (Nat.le_of_ble_eq_true rfl) d_L_act_920
              · refine G_aload_n g (pc := 901) 0 d_L_act_901 rfl rfl ?_
                refine G_cVI0 g (pc := 902) (As := []) (st := []) cc_L_61 (c_G_wear l hw M188) (hw.m 0 (Nat.le_of_ble_eq_true rfl)) (hw.k (Nat.le_of_ble_eq_true rfl) (zk0 rr)) rfl (by decide) rfl ⟨(Nat.le_of_ble_eq_true rfl), (Nat.le_of_ble_eq_true rfl)⟩ ⟨(Nat.le_of_ble_eq_true rfl), (Nat.le_of_ble_eq_true rfl)⟩ (Nat.le_of_ble_eq_true rfl) d_L_act_902 (fun x189 M190 => ?_)
                refine G_iload g (pc := 905) 12 d_L_act_905 rfl ?_
                refine G_icmp_ne g (pc := 907) 919 d_L_act_907 (by decide) ?_ ?_
                · refine G_iload g (pc := 910) 15 d_L_act_910 rfl ?_
                  refine G_if_ne g (pc := 912) 919 d_L_act_912 (by decide) ?_ ?_
                  · refine G_iconst g (pc := 915) (1 : Int32) d_L_act_915 rfl ?_
                    refine G_goto g (pc := 916) 920 d_L_act_916 (by decide) ?_
                    exact G_zreturn g (pc := 920) true rfl hret (Nat.le_of_ble_eq_true rfl) (Nat.le_of_ble_eq_true rfl) d_L_act_920
                  · refine G_iconst g (pc := 919) (0 : Int32) d_L_act_919 rfl ?_
                    exact G_zreturn g (pc := 920) false rfl hret (Nat.le_of_ble_eq_true rfl) (Nat.le_of_ble_eq_true rfl) d_L_act_920
                · refine G_iconst g (pc := 919) (0 : Int32) d_L_act_919 rfl ?_
                  exact G_zreturn g (pc := 920) false rfl hret (Nat.le_of_ble_eq_true rfl) (Nat.le_of_ble_eq_true rfl) d_L_act_920
            · refine G_if_eq g (pc := 877) 896 d_L_act_877 (by decide) ?_ ?_
              · refine G_sub [0, 1, 2, 3, 4, 5, 6, 7, 8, 9, 10, 11, 12, 13, 14, 15] _ rfl ?_
                exact hj186 () M185
              · refine G_aload_n g (pc := 880) 0 d_L_act_880 rfl rfl ?_
                refine G_cVI0 g (pc := 881) (As := []) (st := []) cc_L_67 (c_G_beaconTime l hw M185) (hw.m 0 (Nat.le_of_ble_eq_true rfl)) (hw.k (Nat.le_of_ble_eq_true rfl) (zk0 rr)) rfl (by decide) rfl ⟨(Nat.le_of_ble_eq_true rfl), (Nat.le_of_ble_eq_true rfl)⟩ ⟨(Nat.le_of_ble_eq_true rfl), (Nat.le_of_ble_eq_true rfl)⟩ (Nat.le_of_ble_eq_true rfl) d_L_act_881 (fun x191 M192 => ?_)
                refine G_iconst g (pc := 884) (0 : Int32) d_L_act_884 rfl ?_
                refine G_iload g (pc := 885) 9 d_L_act_885 rfl ?_
                refine G_iload g (pc := 887) 4 d_L_act_887 rfl ?_
                refine G_isub g (pc := 889) d_L_act_889 ?_
                refine G_mmax g (pc := 890) ma_L_113 ⟨(Nat.le_of_ble_eq_true rfl), (Nat.le_of_ble_eq_true rfl), (Nat.le_of_ble_eq_true rfl), (Nat.le_of_ble_eq_true rfl)⟩ d_L_act_890 ?_
                refine G_icmp_ne g (pc := 893) 919 d_L_act_893 (by decide) ?_ ?_
                · refine G_sub [0, 1, 2, 3, 4, 5, 6, 7, 8, 9, 10, 11, 12, 13, 14, 15] _ rfl ?_
                  exact hj186 () M192
                · refine G_iconst g (pc := 919) (0 : Int32) d_L_act_919 rfl ?_
                  exact G_zreturn g (pc := 920) false rfl hret (Nat.le_of_ble_eq_true rfl) (Nat.le_of_ble_eq_true rfl) d_L_act_920
          · refine G_iconst g (pc := 919) (0 : Int32) d_L_act_919 rfl ?_
            exact G_zreturn g (pc := 920) false rfl hret (Nat.le_of_ble_eq_true rfl) (Nat.le_of_ble_eq_true rfl) d_L_act_920
        · refine G_jn 870 (fun _ => [(0, .ref (wad w 0)), (1, .int v1), (2, .int v2), (3, .int v3), (4, .int v4), (5, .int v5), (6, .int v6), (7, .int v7), (8, .int v8), (9, .int v9), (10, .int v10), (11, .int v11), (12, .int v12), (13, .int (b2i v13)), (14, .int v14), (15, .int v15)]) (fun (x194 : Unit) => [.int v7, .int x181]) (fun x194 M195 => ?_) (fun j193 hj193 => ?_)
          · refine G_iconst g (pc := 870) (0 : Int32) d_L_act_870 rfl ?_
            refine G_sub [0, 1, 2, 3, 4, 5, 6, 7, 8, 9, 10, 11, 12, 13, 14, 15] _ rfl ?_
            exact hj183 false M195
          · refine G_if_le g (pc := 856) 870 d_L_act_856 (by decide) ?_ ?_
            · refine G_iload g (pc := 859) 6 d_L_act_859 rfl ?_
              refine G_iload g (pc := 861) 4 d_L_act_861 rfl ?_
              refine G_icmp_gt g (pc := 863) 870 d_L_act_863 (by decide) ?_ ?_
              · refine G_iconst g (pc := 866) (1 : Int32) d_L_act_866 rfl ?_
                refine G_goto g (pc := 867) 871 d_L_act_867 (by decide) ?_
                refine G_sub [0, 1, 2, 3, 4, 5, 6, 7, 8, 9, 10, 11, 12, 13, 14, 15] _ rfl ?_
                exact hj183 true M182
              · refine G_sub [0, 1, 2, 3, 4, 5, 6, 7, 8, 9, 10, 11, 12, 13, 14, 15] _ rfl ?_
                exact hj193 () M182
            · refine G_sub [0, 1, 2, 3, 4, 5, 6, 7, 8, 9, 10, 11, 12, 13, 14, 15] _ rfl ?_
              exact hj193 () M182
      · refine G_iconst g (pc := 919) (0 : Int32) d_L_act_919 rfl ?_
        exact G_zreturn g (pc := 920) false rfl hret (Nat.le_of_ble_eq_true rfl) (Nat.le_of_ble_eq_true rfl) d_L_act_920
    · refine G_iconst g (pc := 919) (0 : Int32) d_L_act_919 rfl ?_
      exact G_zreturn g (pc := 920) false rfl hret (Nat.le_of_ble_eq_true rfl) (Nat.le_of_ble_eq_true rfl) d_L_act_920
  · refine G_iconst g (pc := 919) (0 : Int32) d_L_act_919 rfl ?_
    exact G_zreturn g (pc := 920) false rfl hret (Nat.le_of_ble_eq_true rfl) (Nat.le_of_ble_eq_true rfl) d_L_act_920
def fk_L_act_655 (N : Nat) (rr : Nat) (v1 : Int32) (v2 : Int32) (v3 : Int32) (M : Mem) : Option (Bool × Mem) :=
  bnd (f_L_most (v3 >>> ((3 : Int32) &&& 31)) (4 : Int32) M) fun (x130 : Int32) (M131 : Mem) => jn (fun (x133 : Int32) (M134 : Mem) => bnd (f_L_most v3 x133 M134) fun (x135 : Int32) (M136 : Mem) => nm ((1 : Int32) + x135) fun (x137 : Int32) => bnd (f_G_heightAfter N rr x137 M136) fun (x138 : Int32) (M139 : Mem) => bnd (f_G_ticksToSnap N rr M139) fun (x140 : Int32) (M141 : Mem) => bnd (f_G_snaps M141) fun (x142 : Int32) (M143 : Mem) => bnd (f_G_loggedCount M143) fun (x144 : Int32) (M145 : Mem) => bnd (f_G_droppedCount M145) fun (x146 : Int32) (M147 : Mem) => nm (x144 + x146) fun (x148 : Int32) => bnd (f_G_beaconTime M147) fun (x149 : Int32) (M150 : Mem) => bnd (f_G_tick M150) fun (x151 : Int32) (M152 : Mem) => bnd (f_G_height M152) fun (x153 : Int32) (M154 : Mem) => bnd (f_G_windAt x153 M154) fun (x155 : Int32) (M156 : Mem) => bnd (f_G_wear M156) fun (x157 : Int32) (M158 : Mem) => bnd (f_G_isFlying M158) fun (x159 : Bool) (M160 : Mem) => bnd (f_G_limit M160) fun (x161 : Int32) (M162 : Mem) => bnd (f_G_passTicks N rr x137 M162) fun (x163 : Int32) (M164 : Mem) => if x137 = (1 : Int32) then (if x159 = true then (bnd (f_G_bufferSize M164) fun (x165 : Int32) (M166 : Mem) => bnd (f_G_bufferedWind (x165 - (1 : Int32)) M166) fun (x167 : Int32) (M168 : Mem) => if x167 = x155 then (bnd (f_G_wear M168) fun (x169 : Int32) (M170 : Mem) => bnd (f_G_loadOf x155 M170) fun (x171 : Int32) (M172 : Mem) => if x169 = (x157 + (imax (0 : Int32) (x171 - x161))) then (fk_L_act_810 N rr v1 v2 v3 x137 x138 x140 x142 x148 x149 x151 x155 x157 x159 x161 x163 M172) else (some (false, M172))) else (some (false, M168))) else (fk_L_act_810 N rr v1 v2 v3 x137 x138 x140 x142 x148 x149 x151 x155 x157 x159 x161 x163 M164)) else (fk_L_act_810 N rr v1 v2 v3 x137 x138 x140 x142 x148 x149 x151 x155 x157 x159 x161 x163 M164)) (fun j132 => if x130 = 0 then (j132 (60 : Int32) M131) else (j132 (9 : Int32) M131))
set_option maxHeartbeats 40000000 in
set_option maxRecDepth 100000 in
theorem gk_L_act_655 (l : Launch) (N : Nat) {w : Wc} {rr : Nat} (hw : WK w rr) {p0 : Program} {e : Env} {s : State} {m : MethodId} {args : Array Value} {below : List Frame} {meth : Method} {c : Code} (g : Gd p0 s m args meth c w 16 b_L_act "KiteLoggerLaw") (hret : meth.sig.returnType = (some .boolean)) (v1 : Int32) (v2 : Int32) (v3 : Int32) (M : Mem) : Go p0 l e (rmL 8) s m args below meth c w 16 0 0 (fun r => MQ below (QZ w r) args s (rmL 8).cells (rmL 8).slots (wA w)) (fk_L_act_655 N rr v1 v2 v3 M) 655 [(0, .ref (wad w 0)), (1, .int v1), (2, .int v2), (3, .int v3)] [] M := by
  unfold fk_L_act_655
  refine G_iconst g (pc := 655) (1 : Int32) d_L_act_655 rfl ?_
  refine G_iload_n g (pc := 656) 3 d_L_act_656 rfl rfl ?_
  refine G_iload_n g (pc := 657) 3 d_L_act_657 rfl rfl ?_
  refine G_iconst g (pc := 658) (3 : Int32) d_L_act_658 rfl ?_
  refine G_ishr g (pc := 659) d_L_act_659 ?_
  refine G_iconst g (pc := 660) (4 : Int32) d_L_act_660 rfl ?_
  refine G_cSI0 g (pc := 661) (As := [.int (v3 >>> ((3 : Int32) &&& 31)), .int (4 : Int32)]) (st := [.int v3, .int (1 : Int32)]) cc_L_175 (c_L_most l hw (v3 >>> ((3 : Int32) &&& 31)) (4 : Int32) M) rfl ⟨(Nat.le_of_ble_eq_true rfl), (Nat.le_of_ble_eq_true rfl)⟩ ⟨(Nat.le_of_ble_eq_true rfl), (Nat.le_of_ble_eq_true rfl)⟩ (Nat.le_of_ble_eq_true rfl) d_L_act_661 (fun x130 M131 => ?_)
  refine G_jn 674 (fun _ => [(0, .ref (wad w 0)), (1, .int v1), (2, .int v2), (3, .int v3)]) (fun (x133 : Int32) => [.int x133, .int v3, .int (1 : Int32)]) (fun x133 M134 => ?_) (fun j132 hj132 => ?_)
  · refine G_cSI0 g (pc := 674) (As := [.int v3, .int x133]) (st := [.int (1 : Int32)]) cc_L_175 (c_L_most l hw v3 x133 M134) rfl ⟨(Nat.le_of_ble_eq_true rfl), (Nat.le_of_ble_eq_true rfl)⟩ ⟨(Nat.le_of_ble_eq_true rfl), (Nat.le_of_ble_eq_true rfl)⟩ (Nat.le_of_ble_eq_true rfl) d_L_act_674 (fun x135 M136 => ?_)
    refine G_iadd g (pc := 677) d_L_act_677 ?_
    refine G_nmI (fun x137 => ?_)
    refine G_istore g (pc := 678) _ d_L_act_678 (Nat.le_of_ble_eq_true rfl) rfl ?_
    refine G_sub [0, 1, 2, 3, 4] [(4, .int x137), (0, .ref (wad w 0)), (1, .int v1), (2, .int v2), (3, .int v3)] rfl ?_
    refine G_aload_n g (pc := 680) 1 d_L_act_680 rfl rfl ?_
    refine G_iload g (pc := 681) 0 d_L_act_681 rfl ?_
    refine G_cVI0 g (pc := 683) (As := [.int x137]) (st := []) cc_L_169 (c_G_heightAfter l N hw x137 M136) (hw.m 0 (Nat.le_of_ble_eq_true rfl)) (hw.k (Nat.le_of_ble_eq_true rfl) (zk0 rr)) rfl (by decide) rfl ⟨(Nat.le_of_ble_eq_true rfl), (Nat.le_of_ble_eq_true rfl)⟩ ⟨(Nat.le_of_ble_eq_true rfl), (Nat.le_of_ble_eq_true rfl)⟩ (Nat.le_of_ble_eq_true rfl) d_L_act_683 (fun x138 M139 => ?_)
    refine G_istore g (pc := 686) _ d_L_act_686 (Nat.le_of_ble_eq_true rfl) rfl ?_
    refine G_sub [0, 1, 2, 3, 4, 5] [(5, .int x138), (4, .int x137), (0, .ref (wad w 0)), (1, .int v1), (2, .int v2), (3, .int v3)] rfl ?_
    refine G_aload_n g (pc := 688) 2 d_L_act_688 rfl rfl ?_
    refine G_cVI0 g (pc := 689) (As := []) (st := []) cc_L_149 (c_G_ticksToSnap l N hw M139) (hw.m 0 (Nat.le_of_ble_eq_true rfl)) (hw.k (Nat.le_of_ble_eq_true rfl) (zk0 rr)) rfl (by decide) rfl ⟨(Nat.le_of_ble_eq_true rfl), (Nat.le_of_ble_eq_true rfl)⟩ ⟨(Nat.le_of_ble_eq_true rfl), (Nat.le_of_ble_eq_true rfl)⟩ (Nat.le_of_ble_eq_true rfl) d_L_act_689 (fun x140 M141 => ?_)
    refine G_istore g (pc := 692) _ d_L_act_692 (Nat.le_of_ble_eq_true rfl) rfl ?_
    refine G_sub [0, 1, 2, 3, 4, 5, 6] [(6, .int x140), (5, .int x138), (4, .int x137), (0, .ref (wad w 0)), (1, .int v1), (2, .int v2), (3, .int v3)] rfl ?_
    refine G_aload_n g (pc := 694) 3 d_L_act_694 rfl rfl ?_
    refine G_cVI0 g (pc := 695) (As := []) (st := []) cc_L_73 (c_G_snaps l hw M141) (hw.m 0 (Nat.le_of_ble_eq_true rfl)) (hw.k (Nat.le_of_ble_eq_true rfl) (zk0 rr)) rfl (by decide) rfl ⟨(Nat.le_of_ble_eq_true rfl), (Nat.le_of_ble_eq_true rfl)⟩ ⟨(Nat.le_of_ble_eq_true rfl), (Nat.le_of_ble_eq_true rfl)⟩ (Nat.le_of_ble_eq_true rfl) d_L_act_695 (fun x142 M143 => ?_)
    refine G_istore g (pc := 698) _ d_L_act_698 (Nat.le_of_ble_eq_true rfl) rfl ?_
    refine G_sub [0, 1, 2, 3, 4, 5, 6, 7] [(7, .int x142), (6, .int x140), (5, .int x138), (4, .int x137), (0, .ref (wad w 0)), (1, .int v1), (2, .int v2), (3, .int v3)] rfl ?_
    refine G_aload_n g (pc := 700) 4 d_L_act_700 rfl rfl ?_
    refine G_cVI0 g (pc := 701) (As := []) (st := []) cc_L_30 (c_G_loggedCount l hw M143) (hw.m 0 (Nat.le_of_ble_eq_true rfl)) (hw.k (Nat.le_of_ble_eq_true rfl) (zk0 rr)) rfl (by decide) rfl ⟨(Nat.le_of_ble_eq_true rfl), (Nat.le_of_ble_eq_true rfl)⟩ ⟨(Nat.le_of_ble_eq_true rfl), (Nat.le_of_ble_eq_true rfl)⟩ (Nat.le_of_ble_eq_true rfl) d_L_act_701 (fun x144 M145 => ?_)
    refine G_aload_n g (pc := 704) 4 d_L_act_704 rfl rfl ?_
    refine G_cVI0 g (pc := 705) (As := []) (st := [.int x144]) cc_L_82 (c_G_droppedCount l hw M145) (hw.m 0 (Nat.le_of_ble_eq_true rfl)) (hw.k (Nat.le_of_ble_eq_true rfl) (zk0 rr)) rfl (by decide) rfl ⟨(Nat.le_of_ble_eq_true rfl), (Nat.le_of_ble_eq_true rfl)⟩ ⟨(Nat.le_of_ble_eq_true rfl), (Nat.le_of_ble_eq_true rfl)⟩ (Nat.le_of_ble_eq_true rfl) d_L_act_705 (fun x146 M147 => ?_)
    refine G_iadd g (pc := 708) d_L_act_708 ?_
    refine G_nmI (fun x148 => ?_)
    refine G_istore g (pc := 709) _ d_L_act_709 (Nat.le_of_ble_eq_true rfl) rfl ?_
    refine G_sub [0, 1, 2, 3, 4, 5, 6, 7, 8] [(8, .int x148), (7, .int x142), (6, .int x140), (5, .int x138), (4, .int x137), (0, .ref (wad w 0)), (1, .int v1), (2, .int v2), (3, .int v3)] rfl ?_
    refine G_aload_n g (pc := 711) 5 d_L_act_711 rfl rfl ?_
    refine G_cVI0 g (pc := 712) (As := []) (st := []) cc_L_67 (c_G_beaconTime l hw M147) (hw.m 0 (Nat.le_of_ble_eq_true rfl)) (hw.k (Nat.le_of_ble_eq_true rfl) (zk0 rr)) rfl (by decide) rfl ⟨(Nat.le_of_ble_eq_true rfl), (Nat.le_of_ble_eq_true rfl)⟩ ⟨(Nat.le_of_ble_eq_true rfl), (Nat.le_of_ble_eq_true rfl)⟩ (Nat.le_of_ble_eq_true rfl) d_L_act_712 (fun x149 M150 => ?_)
    refine G_istore g (pc := 715) _ d_L_act_715 (Nat.le_of_ble_eq_true rfl) rfl ?_
    refine G_sub [0, 1, 2, 3, 4, 5, 6, 7, 8, 9] [(9, .int x149), (8, .int x148), (7, .int x142), (6, .int x140), (5, .int x138), (4, .int x137), (0, .ref (wad w 0)), (1, .int v1), (2, .int v2), (3, .int v3)] rfl ?_
    refine G_aload_n g (pc := 717) 6 d_L_act_717 rfl rfl ?_
    refine G_cVI0 g (pc := 718) (As := []) (st := []) cc_L_39 (c_G_tick l hw M150) (hw.m 0 (Nat.le_of_ble_eq_true rfl)) (hw.k (Nat.le_of_ble_eq_true rfl) (zk0 rr)) rfl (by decide) rfl ⟨(Nat.le_of_ble_eq_true rfl), (Nat.le_of_ble_eq_true rfl)⟩ ⟨(Nat.le_of_ble_eq_true rfl), (Nat.le_of_ble_eq_true rfl)⟩ (Nat.le_of_ble_eq_true rfl) d_L_act_718 (fun x151 M152 => ?_)
    refine G_istore g (pc := 721) _ d_L_act_721 (Nat.le_of_ble_eq_true rfl) rfl ?_
    refine G_sub [0, 1, 2, 3, 4, 5, 6, 7, 8, 9, 10] [(10, .int x151), (9, .int x149), (8, .int x148), (7, .int x142), (6, .int x140), (5, .int x138), (4, .int x137), (0, .ref (wad w 0)), (1, .int v1), (2, .int v2), (3, .int v3)] rfl ?_
    refine G_aload_n g (pc := 723) 7 d_L_act_723 rfl rfl ?_
    refine G_aload_n g (pc := 724) 7 d_L_act_724 rfl rfl ?_
    refine G_cVI0 g (pc := 725) (As := []) (st := [.ref (wad w 0)]) cc_L_49 (c_G_height l hw M152) (hw.m 0 (Nat.le_of_ble_eq_true rfl)) (hw.k (Nat.le_of_ble_eq_true rfl) (zk0 rr)) rfl (by decide) rfl ⟨(Nat.le_of_ble_eq_true rfl), (Nat.le_of_ble_eq_true rfl)⟩ ⟨(Nat.le_of_ble_eq_true rfl), (Nat.le_of_ble_eq_true rfl)⟩ (Nat.le_of_ble_eq_true rfl) d_L_act_725 (fun x153 M154 => ?_)
    refine G_cVI0 g (pc := 728) (As := [.int x153]) (st := []) cc_L_155 (c_G_windAt l hw x153 M154) (hw.m 0 (Nat.le_of_ble_eq_true rfl)) (hw.k (Nat.le_of_ble_eq_true rfl) (zk0 rr)) rfl (by decide) rfl ⟨(Nat.le_of_ble_eq_true rfl), (Nat.le_of_ble_eq_true rfl)⟩ ⟨(Nat.le_of_ble_eq_true rfl), (Nat.le_of_ble_eq_true rfl)⟩ (Nat.le_of_ble_eq_true rfl) d_L_act_728 (fun x155 M156 => ?_)
    refine G_istore g (pc := 731) _ d_L_act_731 (Nat.le_of_ble_eq_true rfl) rfl ?_
    refine G_sub [0, 1, 2, 3, 4, 5, 6, 7, 8, 9, 10, 11] [(11, .int x155), (10, .int x151), (9, .int x149), (8, .int x148), (7, .int x142), (6, .int x140), (5, .int x138), (4, .int x137), (0, .ref (wad w 0)), (1, .int v1), (2, .int v2), (3, .int v3)] rfl ?_
    refine G_aload_n g (pc := 733) 8 d_L_act_733 rfl rfl ?_
    refine G_cVI0 g (pc := 734) (As := []) (st := []) cc_L_61 (c_G_wear l hw M156) (hw.m 0 (Nat.le_of_ble_eq_true rfl)) (hw.k (Nat.le_of_ble_eq_true rfl) (zk0 rr)) rfl (by decide) rfl ⟨(Nat.le_of_ble_eq_true rfl), (Nat.le_of_ble_eq_true rfl)⟩ ⟨(Nat.le_of_ble_eq_true rfl), (Nat.le_of_ble_eq_true rfl)⟩ (Nat.le_of_ble_eq_true rfl) d_L_act_734 (fun x157 M158 => ?_)
    refine G_istore g (pc := 737) _ d_L_act_737 (Nat.le_of_ble_eq_true rfl) rfl ?_
    refine G_sub [0, 1, 2, 3, 4, 5, 6, 7, 8, 9, 10, 11, 12] [(12, .int x157), (11, .int x155), (10, .int x151), (9, .int x149), (8, .int x148), (7, .int x142), (6, .int x140), (5, .int x138), (4, .int x137), (0, .ref (wad w 0)), (1, .int v1), (2, .int v2), (3, .int v3)] rfl ?_
    refine G_aload_n g (pc := 739) 9 d_L_act_739 rfl rfl ?_
    refine G_cVZ0 g (pc := 740) (As := []) (st := []) cc_L_46 (c_G_isFlying l hw M158) (hw.m 0 (Nat.le_of_ble_eq_true rfl)) (hw.k (Nat.le_of_ble_eq_true rfl) (zk0 rr)) rfl (by decide) rfl ⟨(Nat.le_of_ble_eq_true rfl), (Nat.le_of_ble_eq_true rfl)⟩ ⟨(Nat.le_of_ble_eq_true rfl), (Nat.le_of_ble_eq_true rfl)⟩ (Nat.le_of_ble_eq_true rfl) d_L_act_740 (fun x159 M160 => ?_)
    refine G_istore g (pc := 743) _ d_L_act_743 (Nat.le_of_ble_eq_true rfl) rfl ?_
    refine G_sub [0, 1, 2, 3, 4, 5, 6, 7, 8, 9, 10, 11, 12, 13] [(13, .int (b2i x159)), (12, .int x157), (11, .int x155), (10, .int x151), (9, .int x149), (8, .int x148), (7, .int x142), (6, .int x140), (5, .int x138), (4, .int x137), (0, .ref (wad w 0)), (1, .int v1), (2, .int v2), (3, .int v3)] rfl ?_
    refine G_aload_n g (pc := 745) 10 d_L_act_745 rfl rfl ?_
    refine G_cVI0 g (pc := 746) (As := []) (st := []) cc_L_55 (c_G_limit l hw M160) (hw.m 0 (Nat.le_of_ble_eq_true rfl)) (hw.k (Nat.le_of_ble_eq_true rfl) (zk0 rr)) rfl (by decide) rfl ⟨(Nat.le_of_ble_eq_true rfl), (Nat.le_of_ble_eq_true rfl)⟩ ⟨(Nat.le_of_ble_eq_true rfl), (Nat.le_of_ble_eq_true rfl)⟩ (Nat.le_of_ble_eq_true rfl) d_L_act_746 (fun x161 M162 => ?_)
    refine G_istore g (pc := 749) _ d_L_act_749 (Nat.le_of_ble_eq_true rfl) rfl ?_
    refine G_sub [0, 1, 2, 3, 4, 5, 6, 7, 8, 9, 10, 11, 12, 13, 14] [(14, .int x161), (13, .int (b2i x159)), (12, .int x157), (11, .int x155), (10, .int x151), (9, .int x149), (8, .int x148), (7, .int x142), (6, .int x140), (5, .int x138), (4, .int x137), (0, .ref (wad w 0)), (1, .int v1), (2, .int v2), (3, .int v3)] rfl ?_
    refine G_aload_n g (pc := 751) 11 d_L_act_751 rfl rfl ?_
    refine G_iload g (pc := 752) 10 d_L_act_752 rfl ?_
    refine G_cVI0 g (pc := 754) (As := [.int x137]) (st := []) cc_L_199 (c_G_passTicks l N hw x137 M162) (hw.m 0 (Nat.le_of_ble_eq_true rfl)) (hw.k (Nat.le_of_ble_eq_true rfl) (zk0 rr)) rfl (by decide) rfl ⟨(Nat.le_of_ble_eq_true rfl), (Nat.le_of_ble_eq_true rfl)⟩ ⟨(Nat.le_of_ble_eq_true rfl), (Nat.le_of_ble_eq_true rfl)⟩ (Nat.le_of_ble_eq_true rfl) d_L_act_754 (fun x163 M164 => ?_)
    refine G_istore g (pc := 757) _ d_L_act_757 (Nat.le_of_ble_eq_true rfl) rfl ?_
    refine G_sub [0, 1, 2, 3, 4, 5, 6, 7, 8, 9, 10, 11, 12, 13, 14, 15] [(15, .int x163), (14, .int x161), (13, .int (b2i x159)), (12, .int x157), (11, .int x155), (10, .int x151), (9, .int x149), (8, .int x148), (7, .int x142), (6, .int x140), (5, .int x138), (4, .int x137), (0, .ref (wad w 0)), (1, .int v1), (2, .int v2), (3, .int v3)] rfl ?_
    refine G_iload g (pc := 759) 11 d_L_act_759 rfl ?_
    refine G_iconst g (pc := 761) (1 : Int32) d_L_act_761 rfl ?_
    refine G_icmp_ne g (pc := 762) 810 d_L_act_762 (by decide) ?_ ?_
    · refine G_iload g (pc := 765) 2 d_L_act_765 rfl ?_
      refine G_if_eqB g (pc := 767) 810 d_L_act_767 (by decide) ?_ ?_
      · refine G_aload_n g (pc := 770) 12 d_L_act_770 rfl rfl ?_
        refine G_aload_n g (pc := 771) 12 d_L_act_771 rfl rfl ?_
        refine G_cVI0 g (pc := 772) (As := []) (st := [.ref (wad w 0)]) cc_L_36 (c_G_bufferSize l hw M164) (hw.m 0 (Nat.le_of_ble_eq_true rfl)) (hw.k (Nat.le_of_ble_eq_true rfl) (zk0 rr)) rfl (by decide) rfl ⟨(Nat.le_of_ble_eq_true rfl), (Nat.le_of_ble_eq_true rfl)⟩ ⟨(Nat.le_of_ble_eq_true rfl), (Nat.le_of_ble_eq_true rfl)⟩ (Nat.le_of_ble_eq_true rfl) d_L_act_772 (fun x165 M166 => ?_)
        refine G_iconst g (pc := 775) (1 : Int32) d_L_act_775 rfl ?_
        refine G_isub g (pc := 776) d_L_act_776 ?_
        refine G_cVI0 g (pc := 777) (As := [.int (x165 - (1 : Int32))]) (st := []) cc_L_91 (c_G_bufferedWind l hw (x165 - (1 : Int32)) M166) (hw.m 0 (Nat.le_of_ble_eq_true rfl)) (hw.k (Nat.le_of_ble_eq_true rfl) (zk0 rr)) rfl (by decide) rfl ⟨(Nat.le_of_ble_eq_true rfl), (Nat.le_of_ble_eq_true rfl)⟩ ⟨(Nat.le_of_ble_eq_true rfl), (Nat.le_of_ble_eq_true rfl)⟩ (Nat.le_of_ble_eq_true rfl) d_L_act_777 (fun x167 M168 => ?_)
        refine G_iload g (pc := 780) 4 d_L_act_780 rfl ?_
        refine G_icmp_ne g (pc := 782) 808 d_L_act_782 (by decide) ?_ ?_
        · refine G_aload_n g (pc := 785) 12 d_L_act_785 rfl rfl ?_
          refine G_cVI0 g (pc := 786) (As := []) (st := []) cc_L_61 (c_G_wear l hw M168) (hw.m 0 (Nat.le_of_ble_eq_true rfl)) (hw.k (Nat.le_of_ble_eq_true rfl) (zk0 rr)) rfl (by decide) rfl ⟨(Nat.le_of_ble_eq_true rfl), (Nat.le_of_ble_eq_true rfl)⟩ ⟨(Nat.le_of_ble_eq_true rfl), (Nat.le_of_ble_eq_true rfl)⟩ (Nat.le_of_ble_eq_true rfl) d_L_act_786 (fun x169 M170 => ?_)
          refine G_iload g (pc := 789) 3 d_L_act_789 rfl ?_
          refine G_iconst g (pc := 791) (0 : Int32) d_L_act_791 rfl ?_
          refine G_aload_n g (pc := 792) 12 d_L_act_792 rfl rfl ?_
          refine G_iload g (pc := 793) 4 d_L_act_793 rfl ?_
          refine G_cVI0 g (pc := 795) (As := [.int x155]) (st := [.int (0 : Int32), .int x157, .int x169]) cc_L_146 (c_G_loadOf l hw x155 M170) (hw.m 0 (Nat.le_of_ble_eq_true rfl)) (hw.k (Nat.le_of_ble_eq_true rfl) (zk0 rr)) rfl (by decide) rfl ⟨(Nat.le_of_ble_eq_true rfl), (Nat.le_of_ble_eq_true rfl)⟩ ⟨(Nat.le_of_ble_eq_true rfl), (Nat.le_of_ble_eq_true rfl)⟩ (Nat.le_of_ble_eq_true rfl) d_L_act_795 (fun x171 M172 => ?_)
          refine G_iload g (pc := 798) 1 d_L_act_798 rfl ?_
          refine G_isub g (pc := 800) d_L_act_800 ?_
          refine G_mmax g (pc := 801) ma_L_113 ⟨(Nat.le_of_ble_eq_true rfl), (Nat.le_of_ble_eq_true rfl), (Nat.le_of_ble_eq_true rfl), (Nat.le_of_ble_eq_true rfl)⟩ d_L_act_801 ?_
          refine G_iadd g (pc := 804) d_L_act_804 ?_
          refine G_icmp_eq g (pc := 805) 810 d_L_act_805 (by decide) ?_ ?_
          · refine G_sub [12, 13, 14, 15, 11, 10, 9, 8, 7, 6, 5, 4, 3, 2, 1, 0] _ rfl ?_
            exact gk_L_act_810 l N hw g hret v1 v2 v3 x137 x138 x140 x142 x148 x149 x151 x155 x157 x159 x161 x163 M172
          · refine G_iconst g (pc := 808) (0 : Int32) d_L_act_808 rfl ?_
            exact G_zreturn g (pc := 809) false rfl hret (Nat.le_of_ble_eq_true rfl) (Nat.le_of_ble_eq_true rfl) d_L_act_809
        · refine G_iconst g (pc := 808) (0 : Int32) d_L_act_808 rfl ?_
          exact G_zreturn g (pc := 809) false rfl hret (Nat.le_of_ble_eq_true rfl) (Nat.le_of_ble_eq_true rfl) d_L_act_809
      · refine G_sub [12, 13, 14, 15, 11, 10, 9, 8, 7, 6, 5, 4, 3, 2, 1, 0] _ rfl ?_
        exact gk_L_act_810 l N hw g hret v1 v2 v3 x137 x138 x140 x142 x148 x149 x151 x155 x157 x159 x161 x163 M164
    · refine G_sub [12, 13, 14, 15, 11, 10, 9, 8, 7, 6, 5, 4, 3, 2, 1, 0] _ rfl ?_
      exact gk_L_act_810 l N hw g hret v1 v2 v3 x137 x138 x140 x142 x148 x149 x151 x155 x157 x159 x161 x163 M164
  · refine G_if_ne g (pc := 664) 672 d_L_act_664 (by decide) ?_ ?_
    · refine G_bipush g (pc := 667) (60 : Int32) d_L_act_667 rfl ?_
      refine G_goto g (pc := 669) 674 d_L_act_669 (by decide) ?_
      refine G_sub [0, 1, 2, 3] _ rfl ?_
      exact hj132 (60 : Int32) M131
    · refine G_bipush g (pc := 672) (9 : Int32) d_L_act_672 rfl ?_
      refine G_sub [0, 1, 2, 3] _ rfl ?_
      exact hj132 (9 : Int32) M131
def fk_L_act_586 (N : Nat) (rr : Nat) (v1 : Int32) (v2 : Int32) (v3 : Int32) (M : Mem) : Option (Bool × Mem) :=
  if v2 < (14 : Int32) then (bnd (f_G_loggedCount M) fun (x118 : Int32) (M119 : Mem) => bnd (f_G_archivedCount M119) fun (x120 : Int32) (M121 : Mem) => bnd (f_G_isLanded M121) fun (x122 : Bool) (M123 : Mem) => if x122 = true then (if (x120 + x118) ≤ (90 : Int32) then (bnd (f_G_archive N rr M123) fun (x124 : Int32) (M125 : Mem) => if x124 = x118 then (bnd (f_G_loggedCount M125) fun (x126 : Int32) (M127 : Mem) => if x126 = 0 then (bnd (f_G_archivedCount M127) fun (x128 : Int32) (M129 : Mem) => if x128 = (x120 + x118) then (some (true, M129)) else (some (false, M129))) else (some (false, M127))) else (some (false, M125))) else (some (true, M123))) else (some (true, M123))) else (fk_L_act_655 N rr v1 v2 v3 M)
set_option maxHeartbeats 40000000 in
set_option maxRecDepth 100000 in
theorem gk_L_act_586 (l : Launch) (N : Nat) {w : Wc} {rr : Nat} (hw : WK w rr) {p0 : Program} {e : Env} {s : State} {m : MethodId} {args : Array Value} {below : List Frame} {meth : Method} {c : Code} (g : Gd p0 s m args meth c w 16 b_L_act "KiteLoggerLaw") (hret : meth.sig.returnType = (some .boolean)) (v1 : Int32) (v2 : Int32) (v3 : Int32) (M : Mem) : Go p0 l e (rmL 8) s m args below meth c w 16 0 0 (fun r => MQ below (QZ w r) args s (rmL 8).cells (rmL 8).slots (wA w)) (fk_L_act_586 N rr v1 v2 v3 M) 586 [(0, .ref (wad w 0)), (1, .int v1), (2, .int v2), (3, .int v3)] [] M := by
  unfold fk_L_act_586
  refine G_iload_n g (pc := 586) 2 d_L_act_586 rfl rfl ?_
  refine G_bipush g (pc := 587) (14 : Int32) d_L_act_587 rfl ?_
  refine G_icmp_ge g (pc := 589) 655 d_L_act_589 (by decide) ?_ ?_
  · refine G_aload_n g (pc := 592) 0 d_L_act_592 rfl rfl ?_
    refine G_cVI0 g (pc := 593) (As := []) (st := []) cc_L_30 (c_G_loggedCount l hw M) (hw.m 0 (Nat.le_of_ble_eq_true rfl)) (hw.k (Nat.le_of_ble_eq_true rfl) (zk0 rr)) rfl (by decide) rfl ⟨(Nat.le_of_ble_eq_true rfl), (Nat.le_of_ble_eq_true rfl)⟩ ⟨(Nat.le_of_ble_eq_true rfl), (Nat.le_of_ble_eq_true rfl)⟩ (Nat.le_of_ble_eq_true rfl) d_L_act_593 (fun x118 M119 => ?_)
    refine G_istore g (pc := 596) _ d_L_act_596 (Nat.le_of_ble_eq_true rfl) rfl ?_
    refine G_sub [0, 1, 2, 3, 4] [(4, .int x118), (0, .ref (wad w 0)), (1, .int v1), (2, .int v2), (3, .int v3)] rfl ?_
    refine G_aload_n g (pc := 598) 1 d_L_act_598 rfl rfl ?_
    refine G_cVI0 g (pc := 599) (As := []) (st := []) cc_L_33 (c_G_archivedCount l hw M119) (hw.m 0 (Nat.le_of_ble_eq_true rfl)) (hw.k (Nat.le_of_ble_eq_true rfl) (zk0 rr)) rfl (by decide) rfl ⟨(Nat.le_of_ble_eq_true rfl), (Nat.le_of_ble_eq_true rfl)⟩ ⟨(Nat.le_of_ble_eq_true rfl), (Nat.le_of_ble_eq_true rfl)⟩ (Nat.le_of_ble_eq_true rfl) d_L_act_599 (fun x120 M121 => ?_)
    refine G_istore g (pc := 602) _ d_L_act_602 (Nat.le_of_ble_eq_true rfl) rfl ?_
    refine G_sub [0, 1, 2, 3, 4, 5] [(5, .int x120), (4, .int x118), (0, .ref (wad w 0)), (1, .int v1), (2, .int v2), (3, .int v3)] rfl ?_
    refine G_aload_n g (pc := 604) 2 d_L_act_604 rfl rfl ?_
    refine G_cVZ0 g (pc := 605) (As := []) (st := []) cc_L_42 (c_G_isLanded l hw M121) (hw.m 0 (Nat.le_of_ble_eq_true rfl)) (hw.k (Nat.le_of_ble_eq_true rfl) (zk0 rr)) rfl (by decide) rfl ⟨(Nat.le_of_ble_eq_true rfl), (Nat.le_of_ble_eq_true rfl)⟩ ⟨(Nat.le_of_ble_eq_true rfl), (Nat.le_of_ble_eq_true rfl)⟩ (Nat.le_of_ble_eq_true rfl) d_L_act_605 (fun x122 M123 => ?_)
    refine G_if_eqB g (pc := 608) 649 d_L_act_608 (by decide) ?_ ?_
    · refine G_iload g (pc := 611) 0 d_L_act_611 rfl ?_
      refine G_iload g (pc := 613) 1 d_L_act_613 rfl ?_
      refine G_iadd g (pc := 615) d_L_act_615 ?_
      refine G_bipush g (pc := 616) (90 : Int32) d_L_act_616 rfl ?_
      refine G_icmp_gt g (pc := 618) 649 d_L_act_618 (by decide) ?_ ?_
      · refine G_aload_n g (pc := 621) 2 d_L_act_621 rfl rfl ?_
        refine G_cVI0 g (pc := 622) (As := []) (st := []) cc_L_196 (c_G_archive l N hw M123) (hw.m 0 (Nat.le_of_ble_eq_true rfl)) (hw.k (Nat.le_of_ble_eq_true rfl) (zk0 rr)) rfl (by decide) rfl ⟨(Nat.le_of_ble_eq_true rfl), (Nat.le_of_ble_eq_true rfl)⟩ ⟨(Nat.le_of_ble_eq_true rfl), (Nat.le_of_ble_eq_true rfl)⟩ (Nat.le_of_ble_eq_true rfl) d_L_act_622 (fun x124 M125 => ?_)
        refine G_iload g (pc := 625) 1 d_L_act_625 rfl ?_
        refine G_icmp_ne g (pc := 627) 653 d_L_act_627 (by decide) ?_ ?_
        · refine G_aload_n g (pc := 630) 2 d_L_act_630 rfl rfl ?_
          refine G_cVI0 g (pc := 631) (As := []) (st := []) cc_L_30 (c_G_loggedCount l hw M125) (hw.m 0 (Nat.le_of_ble_eq_true rfl)) (hw.k (Nat.le_of_ble_eq_true rfl) (zk0 rr)) rfl (by decide) rfl ⟨(Nat.le_of_ble_eq_true rfl), (Nat.le_of_ble_eq_true rfl)⟩ ⟨(Nat.le_of_ble_eq_true rfl), (Nat.le_of_ble_eq_true rfl)⟩ (Nat.le_of_ble_eq_true rfl) d_L_act_631 (fun x126 M127 => ?_)
          refine G_if_ne g (pc := 634) 653 d_L_act_634 (by decide) ?_ ?_
          · refine G_aload_n g (pc := 637) 2 d_L_act_637 rfl rfl ?_
            refine G_cVI0 g (pc := 638) (As := []) (st := []) cc_L_33 (c_G_archivedCount l hw M127) (hw.m 0 (Nat.le_of_ble_eq_true rfl)) (hw.k (Nat.le_of_ble_eq_true rfl) (zk0 rr)) rfl (by decide) rfl ⟨(Nat.le_of_ble_eq_true rfl), (Nat.le_of_ble_eq_true rfl)⟩ ⟨(Nat.le_of_ble_eq_true rfl), (Nat.le_of_ble_eq_true rfl)⟩ (Nat.le_of_ble_eq_true rfl) d_L_act_638 (fun x128 M129 => ?_)
            refine G_iload g (pc := 641) 0 d_L_act_641 rfl ?_
            refine G_iload g (pc := 643) 1 d_L_act_643 rfl ?_
            refine G_iadd g (pc := 645) d_L_act_645 ?_
            refine G_icmp_ne g (pc := 646) 653 d_L_act_646 (by decide) ?_ ?_
            · refine G_iconst g (pc := 649) (1 : Int32) d_L_act_649 rfl ?_
              refine G_goto g (pc := 650) 654 d_L_act_650 (by decide) ?_
              exact G_zreturn g (pc := 654) true rfl hret (Nat.le_of_ble_eq_true rfl) (Nat.le_of_ble_eq_true rfl) d_L_act_654
            · refine G_iconst g (pc := 653) (0 : Int32) d_L_act_653 rfl ?_
              exact G_zreturn g (pc := 654) false rfl hret (Nat.le_of_ble_eq_true rfl) (Nat.le_of_ble_eq_true rfl) d_L_act_654
          · refine G_iconst g (pc := 653) (0 : Int32) d_L_act_653 rfl ?_
            exact G_zreturn g (pc := 654) false rfl hret (Nat.le_of_ble_eq_true rfl) (Nat.le_of_ble_eq_true rfl) d_L_act_654
        · refine G_iconst g (pc := 653) (0 : Int32) d_L_act_653 rfl ?_
          exact G_zreturn g (pc := 654) false rfl hret (Nat.le_of_ble_eq_true rfl) (Nat.le_of_ble_eq_true rfl) d_L_act_654
      · refine G_iconst g (pc := 649) (1 : Int32) d_L_act_649 rfl ?_
        refine G_goto g (pc := 650) 654 d_L_act_650 (by decide) ?_
        exact G_zreturn g (pc := 654) true rfl hret (Nat.le_of_ble_eq_true rfl) (Nat.le_of_ble_eq_true rfl) d_L_act_654
    · refine G_iconst g (pc := 649) (1 : Int32) d_L_act_649 rfl ?_
      refine G_goto g (pc := 650) 654 d_L_act_650 (by decide) ?_
      exact G_zreturn g (pc := 654) true rfl hret (Nat.le_of_ble_eq_true rfl) (Nat.le_of_ble_eq_true rfl) d_L_act_654
  · refine G_sub [0, 1, 2, 3] _ rfl ?_
    exact gk_L_act_655 l N hw g hret v1 v2 v3 M
def fk_L_act_538 (N : Nat) (rr : Nat) (v1 : Int32) (v2 : Int32) (v3 : Int32) (M : Mem) : Option (Bool × Mem) :=
  if v2 = (11 : Int32) then (bnd (f_G_interval M) fun (x108 : Int32) (M109 : Mem) => bnd (f_L_most v3 (5 : Int32) M109) fun (x110 : Int32) (M111 : Mem) => bnd (f_G_setInterval N rr ((1 : Int32) + x110) M111) fun (x112 : Int32) (M113 : Mem) => if x112 = x108 then (bnd (f_G_interval M113) fun (x114 : Int32) (M115 : Mem) => bnd (f_L_most v3 (5 : Int32) M115) fun (x116 : Int32) (M117 : Mem) => if x114 = ((1 : Int32) + x116) then (some (true, M117)) else (some (false, M117))) else (some (false, M113))) else (fk_L_act_586 N rr v1 v2 v3 M)
set_option maxHeartbeats 40000000 in
set_option maxRecDepth 100000 in
theorem gk_L_act_538 (l : Launch) (N : Nat) {w : Wc} {rr : Nat} (hw : WK w rr) {p0 : Program} {e : Env} {s : State} {m : MethodId} {args : Array Value} {below : List Frame} {meth : Method} {c : Code} (g : Gd p0 s m args meth c w 16 b_L_act "KiteLoggerLaw") (hret : meth.sig.returnType = (some .boolean)) (v1 : Int32) (v2 : Int32) (v3 : Int32) (M : Mem) : Go p0 l e (rmL 8) s m args below meth c w 16 0 0 (fun r => MQ below (QZ w r) args s (rmL 8).cells (rmL 8).slots (wA w)) (fk_L_act_538 N rr v1 v2 v3 M) 538 [(0, .ref (wad w 0)), (1, .int v1), (2, .int v2), (3, .int v3)] [] M := by
  unfold fk_L_act_538
  refine G_iload_n g (pc := 538) 2 d_L_act_538 rfl rfl ?_
  refine G_bipush g (pc := 539) (11 : Int32) d_L_act_539 rfl ?_
  refine G_icmp_ne g (pc := 541) 586 d_L_act_541 (by decide) ?_ ?_
  · refine G_aload_n g (pc := 544) 0 d_L_act_544 rfl rfl ?_
    refine G_cVI0 g (pc := 545) (As := []) (st := []) cc_L_79 (c_G_interval l hw M) (hw.m 0 (Nat.le_of_ble_eq_true rfl)) (hw.k (Nat.le_of_ble_eq_true rfl) (zk0 rr)) rfl (by decide) rfl ⟨(Nat.le_of_ble_eq_true rfl), (Nat.le_of_ble_eq_true rfl)⟩ ⟨(Nat.le_of_ble_eq_true rfl), (Nat.le_of_ble_eq_true rfl)⟩ (Nat.le_of_ble_eq_true rfl) d_L_act_545 (fun x108 M109 => ?_)
    refine G_istore g (pc := 548) _ d_L_act_548 (Nat.le_of_ble_eq_true rfl) rfl ?_
    refine G_sub [0, 1, 2, 3, 4] [(4, .int x108), (0, .ref (wad w 0)), (1, .int v1), (2, .int v2), (3, .int v3)] rfl ?_
    refine G_aload_n g (pc := 550) 1 d_L_act_550 rfl rfl ?_
    refine G_iconst g (pc := 551) (1 : Int32) d_L_act_551 rfl ?_
    refine G_iload_n g (pc := 552) 4 d_L_act_552 rfl rfl ?_
    refine G_iconst g (pc := 553) (5 : Int32) d_L_act_553 rfl ?_
    refine G_cSI0 g (pc := 554) (As := [.int v3, .int (5 : Int32)]) (st := [.int (1 : Int32), .ref (wad w 0)]) cc_L_175 (c_L_most l hw v3 (5 : Int32) M109) rfl ⟨(Nat.le_of_ble_eq_true rfl), (Nat.le_of_ble_eq_true rfl)⟩ ⟨(Nat.le_of_ble_eq_true rfl), (Nat.le_of_ble_eq_true rfl)⟩ (Nat.le_of_ble_eq_true rfl) d_L_act_554 (fun x110 M111 => ?_)
    refine G_iadd g (pc := 557) d_L_act_557 ?_
    refine G_cVI0 g (pc := 558) (As := [.int ((1 : Int32) + x110)]) (st := []) cc_L_193 (c_G_setInterval l N hw ((1 : Int32) + x110) M111) (hw.m 0 (Nat.le_of_ble_eq_true rfl)) (hw.k (Nat.le_of_ble_eq_true rfl) (zk0 rr)) rfl (by decide) rfl ⟨(Nat.le_of_ble_eq_true rfl), (Nat.le_of_ble_eq_true rfl)⟩ ⟨(Nat.le_of_ble_eq_true rfl), (Nat.le_of_ble_eq_true rfl)⟩ (Nat.le_of_ble_eq_true rfl) d_L_act_558 (fun x112 M113 => ?_)
    refine G_iload g (pc := 561) 0 d_L_act_561 rfl ?_
    refine G_icmp_ne g (pc := 563) 584 d_L_act_563 (by decide) ?_ ?_
    · refine G_aload_n g (pc := 566) 1 d_L_act_566 rfl rfl ?_
      refine G_cVI0 g (pc := 567) (As := []) (st := []) cc_L_79 (c_G_interval l hw M113) (hw.m 0 (Nat.le_of_ble_eq_true rfl)) (hw.k (Nat.le_of_ble_eq_true rfl) (zk0 rr)) rfl (by decide) rfl ⟨(Nat.le_of_ble_eq_true rfl), (Nat.le_of_ble_eq_true rfl)⟩ ⟨(Nat.le_of_ble_eq_true rfl), (Nat.le_of_ble_eq_true rfl)⟩ (Nat.le_of_ble_eq_true rfl) d_L_act_567 (fun x114 M115 => ?_)
      refine G_iconst g (pc := 570) (1 : Int32) d_L_act_570 rfl ?_
      refine G_iload_n g (pc := 571) 4 d_L_act_571 rfl rfl ?_
      refine G_iconst g (pc := 572) (5 : Int32) d_L_act_572 rfl ?_
      refine G_cSI0 g (pc := 573) (As := [.int v3, .int (5 : Int32)]) (st := [.int (1 : Int32), .int x114]) cc_L_175 (c_L_most l hw v3 (5 : Int32) M115) rfl ⟨(Nat.le_of_ble_eq_true rfl), (Nat.le_of_ble_eq_true rfl)⟩ ⟨(Nat.le_of_ble_eq_true rfl), (Nat.le_of_ble_eq_true rfl)⟩ (Nat.le_of_ble_eq_true rfl) d_L_act_573 (fun x116 M117 => ?_)
      refine G_iadd g (pc := 576) d_L_act_576 ?_
      refine G_icmp_ne g (pc := 577) 584 d_L_act_577 (by decide) ?_ ?_
      · refine G_iconst g (pc := 580) (1 : Int32) d_L_act_580 rfl ?_
        refine G_goto g (pc := 581) 585 d_L_act_581 (by decide) ?_
        exact G_zreturn g (pc := 585) true rfl hret (Nat.le_of_ble_eq_true rfl) (Nat.le_of_ble_eq_true rfl) d_L_act_585
      · refine G_iconst g (pc := 584) (0 : Int32) d_L_act_584 rfl ?_
        exact G_zreturn g (pc := 585) false rfl hret (Nat.le_of_ble_eq_true rfl) (Nat.le_of_ble_eq_true rfl) d_L_act_585
    · refine G_iconst g (pc := 584) (0 : Int32) d_L_act_584 rfl ?_
      exact G_zreturn g (pc := 585) false rfl hret (Nat.le_of_ble_eq_true rfl) (Nat.le_of_ble_eq_true rfl) d_L_act_585
  · refine G_sub [0, 1, 2, 3] _ rfl ?_
    exact gk_L_act_586 l N hw g hret v1 v2 v3 M
def fk_L_act_463 (N : Nat) (rr : Nat) (v1 : Int32) (v2 : Int32) (v3 : Int32) (M : Mem) : Option (Bool × Mem) :=
  if v2 = (10 : Int32) then (bnd (f_G_wear M) fun (x92 : Int32) (M93 : Mem) => bnd (f_G_isLanded M93) fun (x94 : Bool) (M95 : Mem) => if x94 = true then (bnd (f_L_most v3 (90 : Int32) M95) fun (x96 : Int32) (M97 : Mem) => bnd (f_L_most (v3 >>> ((2 : Int32) &&& 31)) (200 : Int32) M97) fun (x98 : Int32) (M99 : Mem) => bnd (f_G_replaceBridle N rr ((1 : Int32) + x96) ((1 : Int32) + x98) M99) fun (x100 : Int32) (M101 : Mem) => if x100 = x92 then (bnd (f_G_wear M101) fun (x102 : Int32) (M103 : Mem) => if x102 = 0 then (bnd (f_G_limit M103) fun (x104 : Int32) (M105 : Mem) => bnd (f_L_most v3 (90 : Int32) M105) fun (x106 : Int32) (M107 : Mem) => if x104 = ((1 : Int32) + x106) then (some (true, M107)) else (some (false, M107))) else (some (false, M103))) else (some (false, M101))) else (some (true, M95))) else (fk_L_act_538 N rr v1 v2 v3 M)
set_option maxHeartbeats 40000000 in
set_option maxRecDepth 100000 in
theorem gk_L_act_463 (l : Launch) (N : Nat) {w : Wc} {rr : Nat} (hw : WK w rr) {p0 : Program} {e : Env} {s : State} {m : MethodId} {args : Array Value} {below : List Frame} {meth : Method} {c : Code} (g : Gd p0 s m args meth c w 16 b_L_act "KiteLoggerLaw") (hret : meth.sig.returnType = (some .boolean)) (v1 : Int32) (v2 : Int32) (v3 : Int32) (M : Mem) : Go p0 l e (rmL 8) s m args below meth c w 16 0 0 (fun r => MQ below (QZ w r) args s (rmL 8).cells (rmL 8).slots (wA w)) (fk_L_act_463 N rr v1 v2 v3 M) 463 [(0, .ref (wad w 0)), (1, .int v1), (2, .int v2), (3, .int v3)] [] M := by
  unfold fk_L_act_463
  refine G_iload_n g (pc := 463) 2 d_L_act_463 rfl rfl ?_
  refine G_bipush g (pc := 464) (10 : Int32) d_L_act_464 rfl ?_
  refine G_icmp_ne g (pc := 466) 538 d_L_act_466 (by decide) ?_ ?_
  · refine G_aload_n g (pc := 469) 0 d_L_act_469 rfl rfl ?_
    refine G_cVI0 g (pc := 470) (As := []) (st := []) cc_L_61 (c_G_wear l hw M) (hw.m 0 (Nat.le_of_ble_eq_true rfl)) (hw.k (Nat.le_of_ble_eq_true rfl) (zk0 rr)) rfl (by decide) rfl ⟨(Nat.le_of_ble_eq_true rfl), (Nat.le_of_ble_eq_true rfl)⟩ ⟨(Nat.le_of_ble_eq_true rfl), (Nat.le_of_ble_eq_true rfl)⟩ (Nat.le_of_ble_eq_true rfl) d_L_act_470 (fun x92 M93 => ?_)
    refine G_istore g (pc := 473) _ d_L_act_473 (Nat.le_of_ble_eq_true rfl) rfl ?_
    refine G_sub [0, 1, 2, 3, 4] [(4, .int x92), (0, .ref (wad w 0)), (1, .int v1), (2, .int v2), (3, .int v3)] rfl ?_
    refine G_aload_n g (pc := 475) 1 d_L_act_475 rfl rfl ?_
    refine G_cVZ0 g (pc := 476) (As := []) (st := []) cc_L_42 (c_G_isLanded l hw M93) (hw.m 0 (Nat.le_of_ble_eq_true rfl)) (hw.k (Nat.le_of_ble_eq_true rfl) (zk0 rr)) rfl (by decide) rfl ⟨(Nat.le_of_ble_eq_true rfl), (Nat.le_of_ble_eq_true rfl)⟩ ⟨(Nat.le_of_ble_eq_true rfl), (Nat.le_of_ble_eq_true rfl)⟩ (Nat.le_of_ble_eq_true rfl) d_L_act_476 (fun x94 M95 => ?_)
    refine G_if_eqB g (pc := 479) 532 d_L_act_479 (by decide) ?_ ?_
    · refine G_aload_n g (pc := 482) 1 d_L_act_482 rfl rfl ?_
      refine G_iconst g (pc := 483) (1 : Int32) d_L_act_483 rfl ?_
      refine G_iload_n g (pc := 484) 4 d_L_act_484 rfl rfl ?_
      refine G_bipush g (pc := 485) (90 : Int32) d_L_act_485 rfl ?_
      refine G_cSI0 g (pc := 487) (As := [.int v3, .int (90 : Int32)]) (st := [.int (1 : Int32), .ref (wad w 0)]) cc_L_175 (c_L_most l hw v3 (90 : Int32) M95) rfl ⟨(Nat.le_of_ble_eq_true rfl), (Nat.le_of_ble_eq_true rfl)⟩ ⟨(Nat.le_of_ble_eq_true rfl), (Nat.le_of_ble_eq_true rfl)⟩ (Nat.le_of_ble_eq_true rfl) d_L_act_487 (fun x96 M97 => ?_)
      refine G_iadd g (pc := 490) d_L_act_490 ?_
      refine G_iconst g (pc := 491) (1 : Int32) d_L_act_491 rfl ?_
      refine G_iload_n g (pc := 492) 4 d_L_act_492 rfl rfl ?_
      refine G_iconst g (pc := 493) (2 : Int32) d_L_act_493 rfl ?_
      refine G_ishr g (pc := 494) d_L_act_494 ?_
      refine G_sipush g (pc := 495) (200 : Int32) d_L_act_495 rfl ?_
      refine G_cSI0 g (pc := 498) (As := [.int (v3 >>> ((2 : Int32) &&& 31)), .int (200 : Int32)]) (st := [.int (1 : Int32), .int ((1 : Int32) + x96), .ref (wad w 0)]) cc_L_175 (c_L_most l hw (v3 >>> ((2 : Int32) &&& 31)) (200 : Int32) M97) rfl ⟨(Nat.le_of_ble_eq_true rfl), (Nat.le_of_ble_eq_true rfl)⟩ ⟨(Nat.le_of_ble_eq_true rfl), (Nat.le_of_ble_eq_true rfl)⟩ (Nat.le_of_ble_eq_true rfl) d_L_act_498 (fun x98 M99 => ?_)
      refine G_iadd g (pc := 501) d_L_act_501 ?_
      refine G_cVI0 g (pc := 502) (As := [.int ((1 : Int32) + x96), .int ((1 : Int32) + x98)]) (st := []) cc_L_190 (c_G_replaceBridle l N hw ((1 : Int32) + x96) ((1 : Int32) + x98) M99) (hw.m 0 (Nat.le_of_ble_eq_true rfl)) (hw.k (Nat.le_of_ble_eq_true rfl) (zk0 rr)) rfl (by decide) rfl ⟨(Nat.le_of_ble_eq_true rfl), (Nat.le_of_ble_eq_true rfl)⟩ ⟨(Nat.le_of_ble_eq_true rfl), (Nat.le_of_ble_eq_true rfl)⟩ (Nat.le_of_ble_eq_true rfl) d_L_act_502 (fun x100 M101 => ?_)
      refine G_iload g (pc := 505) 0 d_L_act_505 rfl ?_
      refine G_icmp_ne g (pc := 507) 536 d_L_act_507 (by decide) ?_ ?_
      · refine G_aload_n g (pc := 510) 1 d_L_act_510 rfl rfl ?_
        refine G_cVI0 g (pc := 511) (As := []) (st := []) cc_L_61 (c_G_wear l hw M101) (hw.m 0 (Nat.le_of_ble_eq_true rfl)) (hw.k (Nat.le_of_ble_eq_true rfl) (zk0 rr)) rfl (by decide) rfl ⟨(Nat.le_of_ble_eq_true rfl), (Nat.le_of_ble_eq_true rfl)⟩ ⟨(Nat.le_of_ble_eq_true rfl), (Nat.le_of_ble_eq_true rfl)⟩ (Nat.le_of_ble_eq_true rfl) d_L_act_511 (fun x102 M103 => ?_)
        refine G_if_ne g (pc := 514) 536 d_L_act_514 (by decide) ?_ ?_
        · refine G_aload_n g (pc := 517) 1 d_L_act_517 rfl rfl ?_
          refine G_cVI0 g (pc := 518) (As := []) (st := []) cc_L_55 (c_G_limit l hw M103) (hw.m 0 (Nat.le_of_ble_eq_true rfl)) (hw.k (Nat.le_of_ble_eq_true rfl) (zk0 rr)) rfl (by decide) rfl ⟨(Nat.le_of_ble_eq_true rfl), (Nat.le_of_ble_eq_true rfl)⟩ ⟨(Nat.le_of_ble_eq_true rfl), (Nat.le_of_ble_eq_true rfl)⟩ (Nat.le_of_ble_eq_true rfl) d_L_act_518 (fun x104 M105 => ?_)
          refine G_iconst g (pc := 521) (1 : Int32) d_L_act_521 rfl ?_
          refine G_iload_n g (pc := 522) 4 d_L_act_522 rfl rfl ?_
          refine G_bipush g (pc := 523) (90 : Int32) d_L_act_523 rfl ?_
          refine G_cSI0 g (pc := 525) (As := [.int v3, .int (90 : Int32)]) (st := [.int (1 : Int32), .int x104]) cc_L_175 (c_L_most l hw v3 (90 : Int32) M105) rfl ⟨(Nat.le_of_ble_eq_true rfl), (Nat.le_of_ble_eq_true rfl)⟩ ⟨(Nat.le_of_ble_eq_true rfl), (Nat.le_of_ble_eq_true rfl)⟩ (Nat.le_of_ble_eq_true rfl) d_L_act_525 (fun x106 M107 => ?_)
          refine G_iadd g (pc := 528) d_L_act_528 ?_
          refine G_icmp_ne g (pc := 529) 536 d_L_act_529 (by decide) ?_ ?_
          · refine G_iconst g (pc := 532) (1 : Int32) d_L_act_532 rfl ?_
            refine G_goto g (pc := 533) 537 d_L_act_533 (by decide) ?_
            exact G_zreturn g (pc := 537) true rfl hret (Nat.le_of_ble_eq_true rfl) (Nat.le_of_ble_eq_true rfl) d_L_act_537
          · refine G_iconst g (pc := 536) (0 : Int32) d_L_act_536 rfl ?_
            exact G_zreturn g (pc := 537) false rfl hret (Nat.le_of_ble_eq_true rfl) (Nat.le_of_ble_eq_true rfl) d_L_act_537
        · refine G_iconst g (pc := 536) (0 : Int32) d_L_act_536 rfl ?_
          exact G_zreturn g (pc := 537) false rfl hret (Nat.le_of_ble_eq_true rfl) (Nat.le_of_ble_eq_true rfl) d_L_act_537
      · refine G_iconst g (pc := 536) (0 : Int32) d_L_act_536 rfl ?_
        exact G_zreturn g (pc := 537) false rfl hret (Nat.le_of_ble_eq_true rfl) (Nat.le_of_ble_eq_true rfl) d_L_act_537
    · refine G_iconst g (pc := 532) (1 : Int32) d_L_act_532 rfl ?_
      refine G_goto g (pc := 533) 537 d_L_act_533 (by decide) ?_
      exact G_zreturn g (pc := 537) true rfl hret (Nat.le_of_ble_eq_true rfl) (Nat.le_of_ble_eq_true rfl) d_L_act_537
  · refine G_sub [0, 1, 2, 3] _ rfl ?_
    exact gk_L_act_538 l N hw g hret v1 v2 v3 M
def fk_L_act_388 (N : Nat) (rr : Nat) (v1 : Int32) (v2 : Int32) (v3 : Int32) (M : Mem) : Option (Bool × Mem) :=
  if v2 < (10 : Int32) then (bnd (f_G_tether M) fun (x77 : Int32) (M78 : Mem) => bnd (f_G_height M78) fun (x79 : Int32) (M80 : Mem) => bnd (f_L_most v3 (90 : Int32) M80) fun (x81 : Int32) (M82 : Mem) => nm ((1 : Int32) + x81) fun (x83 : Int32) => bnd (f_G_isFallen M82) fun (x84 : Bool) (M85 : Mem) => if x84 = true then (some (true, M85)) else (bnd (f_G_reelIn N rr x83 M85) fun (x86 : Int32) (M87 : Mem) => if x86 = (imax (0 : Int32) (x77 - x83)) then (bnd (f_G_height M87) fun (x88 : Int32) (M89 : Mem) => bnd (f_G_tether M89) fun (x90 : Int32) (M91 : Mem) => if x88 = (imin x79 x90) then (some (true, M91)) else (some (false, M91))) else (some (false, M87)))) else (fk_L_act_463 N rr v1 v2 v3 M)
set_option maxHeartbeats 40000000 in
set_option maxRecDepth 100000 in
theorem gk_L_act_388 (l : Launch) (N : Nat) {w : Wc} {rr : Nat} (hw : WK w rr) {p0 : Program} {e : Env} {s : State} {m : MethodId} {args : Array Value} {below : List Frame} {meth : Method} {c : Code} (g : Gd p0 s m args meth c w 16 b_L_act "KiteLoggerLaw") (hret : meth.sig.returnType = (some .boolean)) (v1 : Int32) (v2 : Int32) (v3 : Int32) (M : Mem) : Go p0 l e (rmL 8) s m args below meth c w 16 0 0 (fun r => MQ below (QZ w r) args s (rmL 8).cells (rmL 8).slots (wA w)) (fk_L_act_388 N rr v1 v2 v3 M) 388 [(0, .ref (wad w 0)), (1, .int v1), (2, .int v2), (3, .int v3)] [] M := by
  unfold fk_L_act_388
  refine G_iload_n g (pc := 388) 2 d_L_act_388 rfl rfl ?_
  refine G_bipush g (pc := 389) (10 : Int32) d_L_act_389 rfl ?_
  refine G_icmp_ge g (pc := 391) 463 d_L_act_391 (by decide) ?_ ?_
  · refine G_aload_n g (pc := 394) 0 d_L_act_394 rfl rfl ?_
    refine G_cVI0 g (pc := 395) (As := []) (st := []) cc_L_52 (c_G_tether l hw M) (hw.m 0 (Nat.le_of_ble_eq_true rfl)) (hw.k (Nat.le_of_ble_eq_true rfl) (zk0 rr)) rfl (by decide) rfl ⟨(Nat.le_of_ble_eq_true rfl), (Nat.le_of_ble_eq_true rfl)⟩ ⟨(Nat.le_of_ble_eq_true rfl), (Nat.le_of_ble_eq_true rfl)⟩ (Nat.le_of_ble_eq_true rfl) d_L_act_395 (fun x77 M78 => ?_)
    refine G_istore g (pc := 398) _ d_L_act_398 (Nat.le_of_ble_eq_true rfl) rfl ?_
    refine G_sub [0, 1, 2, 3, 4] [(4, .int x77), (0, .ref (wad w 0)), (1, .int v1), (2, .int v2), (3, .int v3)] rfl ?_
    refine G_aload_n g (pc := 400) 1 d_L_act_400 rfl rfl ?_
    refine G_cVI0 g (pc := 401) (As := []) (st := []) cc_L_49 (c_G_height l hw M78) (hw.m 0 (Nat.le_of_ble_eq_true rfl)) (hw.k (Nat.le_of_ble_eq_true rfl) (zk0 rr)) rfl (by decide) rfl ⟨(Nat.le_of_ble_eq_true rfl), (Nat.le_of_ble_eq_true rfl)⟩ ⟨(Nat.le_of_ble_eq_true rfl), (Nat.le_of_ble_eq_true rfl)⟩ (Nat.le_of_ble_eq_true rfl) d_L_act_401 (fun x79 M80 => ?_)
    refine G_istore g (pc := 404) _ d_L_act_404 (Nat.le_of_ble_eq_true rfl) rfl ?_
    refine G_sub [0, 1, 2, 3, 4, 5] [(5, .int x79), (4, .int x77), (0, .ref (wad w 0)), (1, .int v1), (2, .int v2), (3, .int v3)] rfl ?_
    refine G_iconst g (pc := 406) (1 : Int32) d_L_act_406 rfl ?_
    refine G_iload_n g (pc := 407) 5 d_L_act_407 rfl rfl ?_
    refine G_bipush g (pc := 408) (90 : Int32) d_L_act_408 rfl ?_
    refine G_cSI0 g (pc := 410) (As := [.int v3, .int (90 : Int32)]) (st := [.int (1 : Int32)]) cc_L_175 (c_L_most l hw v3 (90 : Int32) M80) rfl ⟨(Nat.le_of_ble_eq_true rfl), (Nat.le_of_ble_eq_true rfl)⟩ ⟨(Nat.le_of_ble_eq_true rfl), (Nat.le_of_ble_eq_true rfl)⟩ (Nat.le_of_ble_eq_true rfl) d_L_act_410 (fun x81 M82 => ?_)
    refine G_iadd g (pc := 413) d_L_act_413 ?_
    refine G_nmI (fun x83 => ?_)
    refine G_istore g (pc := 414) _ d_L_act_414 (Nat.le_of_ble_eq_true rfl) rfl ?_
    refine G_sub [0, 1, 2, 3, 4, 5, 6] [(6, .int x83), (5, .int x79), (4, .int x77), (0, .ref (wad w 0)), (1, .int v1), (2, .int v2), (3, .int v3)] rfl ?_
    refine G_aload_n g (pc := 416) 3 d_L_act_416 rfl rfl ?_
    refine G_cVZ0 g (pc := 417) (As := []) (st := []) cc_L_140 (c_G_isFallen l hw M82) (hw.m 0 (Nat.le_of_ble_eq_true rfl)) (hw.k (Nat.le_of_ble_eq_true rfl) (zk0 rr)) rfl (by decide) rfl ⟨(Nat.le_of_ble_eq_true rfl), (Nat.le_of_ble_eq_true rfl)⟩ ⟨(Nat.le_of_ble_eq_true rfl), (Nat.le_of_ble_eq_true rfl)⟩ (Nat.le_of_ble_eq_true rfl) d_L_act_417 (fun x84 M85 => ?_)
    refine G_if_neB g (pc := 420) 457 d_L_act_420 (by decide) ?_ ?_
    · refine G_iconst g (pc := 457) (1 : Int32) d_L_act_457 rfl ?_
      refine G_goto g (pc := 458) 462 d_L_act_458 (by decide) ?_
      exact G_zreturn g (pc := 462) true rfl hret (Nat.le_of_ble_eq_true rfl) (Nat.le_of_ble_eq_true rfl) d_L_act_462
    · refine G_aload_n g (pc := 423) 3 d_L_act_423 rfl rfl ?_
      refine G_iload g (pc := 424) 0 d_L_act_424 rfl ?_
      refine G_cVI0 g (pc := 426) (As := [.int x83]) (st := []) cc_L_187 (c_G_reelIn l N hw x83 M85) (hw.m 0 (Nat.le_of_ble_eq_true rfl)) (hw.k (Nat.le_of_ble_eq_true rfl) (zk0 rr)) rfl (by decide) rfl ⟨(Nat.le_of_ble_eq_true rfl), (Nat.le_of_ble_eq_true rfl)⟩ ⟨(Nat.le_of_ble_eq_true rfl), (Nat.le_of_ble_eq_true rfl)⟩ (Nat.le_of_ble_eq_true rfl) d_L_act_426 (fun x86 M87 => ?_)
      refine G_iconst g (pc := 429) (0 : Int32) d_L_act_429 rfl ?_
      refine G_iload g (pc := 430) 2 d_L_act_430 rfl ?_
      refine G_iload g (pc := 432) 0 d_L_act_432 rfl ?_
      refine G_isub g (pc := 434) d_L_act_434 ?_
      refine G_mmax g (pc := 435) ma_L_113 ⟨(Nat.le_of_ble_eq_true rfl), (Nat.le_of_ble_eq_true rfl), (Nat.le_of_ble_eq_true rfl), (Nat.le_of_ble_eq_true rfl)⟩ d_L_act_435 ?_
      refine G_icmp_ne g (pc := 438) 461 d_L_act_438 (by decide) ?_ ?_
      · refine G_aload_n g (pc := 441) 3 d_L_act_441 rfl rfl ?_
        refine G_cVI0 g (pc := 442) (As := []) (st := []) cc_L_49 (c_G_height l hw M87) (hw.m 0 (Nat.le_of_ble_eq_true rfl)) (hw.k (Nat.le_of_ble_eq_true rfl) (zk0 rr)) rfl (by decide) rfl ⟨(Nat.le_of_ble_eq_true rfl), (Nat.le_of_ble_eq_true rfl)⟩ ⟨(Nat.le_of_ble_eq_true rfl), (Nat.le_of_ble_eq_true rfl)⟩ (Nat.le_of_ble_eq_true rfl) d_L_act_442 (fun x88 M89 => ?_)
        refine G_iload g (pc := 445) 1 d_L_act_445 rfl ?_
        refine G_aload_n g (pc := 447) 3 d_L_act_447 rfl rfl ?_
        refine G_cVI0 g (pc := 448) (As := []) (st := [.int x79, .int x88]) cc_L_52 (c_G_tether l hw M89) (hw.m 0 (Nat.le_of_ble_eq_true rfl)) (hw.k (Nat.le_of_ble_eq_true rfl) (zk0 rr)) rfl (by decide) rfl ⟨(Nat.le_of_ble_eq_true rfl), (Nat.le_of_ble_eq_true rfl)⟩ ⟨(Nat.le_of_ble_eq_true rfl), (Nat.le_of_ble_eq_true rfl)⟩ (Nat.le_of_ble_eq_true rfl) d_L_act_448 (fun x90 M91 => ?_)
        refine G_mmin g (pc := 451) ma_L_152 ⟨(Nat.le_of_ble_eq_true rfl), (Nat.le_of_ble_eq_true rfl), (Nat.le_of_ble_eq_true rfl), (Nat.le_of_ble_eq_true rfl)⟩ d_L_act_451 ?_
        refine G_icmp_ne g (pc := 454) 461 d_L_act_454 (by decide) ?_ ?_
        · refine G_iconst g (pc := 457) (1 : Int32) d_L_act_457 rfl ?_
          refine G_goto g (pc := 458) 462 d_L_act_458 (by decide) ?_
          exact G_zreturn g (pc := 462) true rfl hret (Nat.le_of_ble_eq_true rfl) (Nat.le_of_ble_eq_true rfl) d_L_act_462
        · refine G_iconst g (pc := 461) (0 : Int32) d_L_act_461 rfl ?_
          exact G_zreturn g (pc := 462) false rfl hret (Nat.le_of_ble_eq_true rfl) (Nat.le_of_ble_eq_true rfl) d_L_act_462
      · refine G_iconst g (pc := 461) (0 : Int32) d_L_act_461 rfl ?_
        exact G_zreturn g (pc := 462) false rfl hret (Nat.le_of_ble_eq_true rfl) (Nat.le_of_ble_eq_true rfl) d_L_act_462
  · refine G_sub [0, 1, 2, 3] _ rfl ?_
    exact gk_L_act_463 l N hw g hret v1 v2 v3 M
def fk_L_act_291 (N : Nat) (rr : Nat) (v1 : Int32) (v2 : Int32) (v3 : Int32) (M : Mem) : Option (Bool × Mem) :=
  if v2 < (8 : Int32) then (bnd (f_G_tether M) fun (x59 : Int32) (M60 : Mem) => bnd (f_G_height M60) fun (x61 : Int32) (M62 : Mem) => bnd (f_L_most v3 (80 : Int32) M62) fun (x63 : Int32) (M64 : Mem) => nm ((1 : Int32) + x63) fun (x65 : Int32) => bnd (f_G_isFallen M64) fun (x66 : Bool) (M67 : Mem) => jn (fun (x69 : Unit) (M70 : Mem) => bnd (f_G_launchObstacle M70) fun (x71 : Int32) (M72 : Mem) => if x71 = (2 : Int32) then (some (true, M72)) else (if (500 : Int32) < x59 then (some (true, M72)) else (some (false, M72)))) (fun j68 => if x66 = true then (j68 () M67) else (if (600 : Int32) < (x59 + x65) then (j68 () M67) else (bnd (f_G_payOut N rr x65 M67) fun (x73 : Int32) (M74 : Mem) => if x73 = (x59 + x65) then (bnd (f_G_height M74) fun (x75 : Int32) (M76 : Mem) => if x75 = x61 then (some (true, M76)) else (some (false, M76))) else (some (false, M74)))))) else (fk_L_act_388 N rr v1 v2 v3 M)
set_option maxHeartbeats 40000000 in
set_option maxRecDepth 100000 in
theorem gk_L_act_291 (l : Launch) (N : Nat) {w : Wc} {rr : Nat} (hw : WK w rr) {p0 : Program} {e : Env} {s : State} {m : MethodId} {args : Array Value} {below : List Frame} {meth : Method} {c : Code} (g : Gd p0 s m args meth c w 16 b_L_act "KiteLoggerLaw") (hret : meth.sig.returnType = (some .boolean)) (v1 : Int32) (v2 : Int32) (v3 : Int32) (M : Mem) : Go p0 l e (rmL 8) s m args below meth c w 16 0 0 (fun r => MQ below (QZ w r) args s (rmL 8).cells (rmL 8).slots (wA w)) (fk_L_act_291 N rr v1 v2 v3 M) 291 [(0, .ref (wad w 0)), (1, .int v1), (2, .int v2), (3, .int v3)] [] M := by
  unfold fk_L_act_291
  refine G_iload_n g (pc := 291) 2 d_L_act_291 rfl rfl ?_
  refine G_bipush g (pc := 292) (8 : Int32) d_L_act_292 rfl ?_
  refine G_icmp_ge g (pc := 294) 388 d_L_act_294 (by decide) ?_ ?_
  · refine G_aload_n g (pc := 297) 0 d_L_act_297 rfl rfl ?_
    refine G_cVI0 g (pc := 298) (As := []) (st := []) cc_L_52 (c_G_tether l hw M) (hw.m 0 (Nat.le_of_ble_eq_true rfl)) (hw.k (Nat.le_of_ble_eq_true rfl) (zk0 rr)) rfl (by decide) rfl ⟨(Nat.le_of_ble_eq_true rfl), (Nat.le_of_ble_eq_true rfl)⟩ ⟨(Nat.le_of_ble_eq_true rfl), (Nat.le_of_ble_eq_true rfl)⟩ (Nat.le_of_ble_eq_true rfl) d_L_act_298 (fun x59 M60 => ?_)
    refine G_istore g (pc := 301) _ d_L_act_301 (Nat.le_of_ble_eq_true rfl) rfl ?_
    refine G_sub [0, 1, 2, 3, 4] [(4, .int x59), (0, .ref (wad w 0)), (1, .int v1), (2, .int v2), (3, .int v3)] rfl ?_
    refine G_aload_n g (pc := 303) 1 d_L_act_303 rfl rfl ?_
    refine G_cVI0 g (pc := 304) (As := []) (st := []) cc_L_49 (c_G_height l hw M60) (hw.m 0 (Nat.le_of_ble_eq_true rfl)) (hw.k (Nat.le_of_ble_eq_true rfl) (zk0 rr)) rfl (by decide) rfl ⟨(Nat.le_of_ble_eq_true rfl), (Nat.le_of_ble_eq_true rfl)⟩ ⟨(Nat.le_of_ble_eq_true rfl), (Nat.le_of_ble_eq_true rfl)⟩ (Nat.le_of_ble_eq_true rfl) d_L_act_304 (fun x61 M62 => ?_)
    refine G_istore g (pc := 307) _ d_L_act_307 (Nat.le_of_ble_eq_true rfl) rfl ?_
    refine G_sub [0, 1, 2, 3, 4, 5] [(5, .int x61), (4, .int x59), (0, .ref (wad w 0)), (1, .int v1), (2, .int v2), (3, .int v3)] rfl ?_
    refine G_iconst g (pc := 309) (1 : Int32) d_L_act_309 rfl ?_
    refine G_iload_n g (pc := 310) 5 d_L_act_310 rfl rfl ?_
    refine G_bipush g (pc := 311) (80 : Int32) d_L_act_311 rfl ?_
    refine G_cSI0 g (pc := 313) (As := [.int v3, .int (80 : Int32)]) (st := [.int (1 : Int32)]) cc_L_175 (c_L_most l hw v3 (80 : Int32) M62) rfl ⟨(Nat.le_of_ble_eq_true rfl), (Nat.le_of_ble_eq_true rfl)⟩ ⟨(Nat.le_of_ble_eq_true rfl), (Nat.le_of_ble_eq_true rfl)⟩ (Nat.le_of_ble_eq_true rfl) d_L_act_313 (fun x63 M64 => ?_)
    refine G_iadd g (pc := 316) d_L_act_316 ?_
    refine G_nmI (fun x65 => ?_)
    refine G_istore g (pc := 317) _ d_L_act_317 (Nat.le_of_ble_eq_true rfl) rfl ?_
    refine G_sub [0, 1, 2, 3, 4, 5, 6] [(6, .int x65), (5, .int x61), (4, .int x59), (0, .ref (wad w 0)), (1, .int v1), (2, .int v2), (3, .int v3)] rfl ?_
    refine G_aload_n g (pc := 319) 3 d_L_act_319 rfl rfl ?_
    refine G_cVZ0 g (pc := 320) (As := []) (st := []) cc_L_140 (c_G_isFallen l hw M64) (hw.m 0 (Nat.le_of_ble_eq_true rfl)) (hw.k (Nat.le_of_ble_eq_true rfl) (zk0 rr)) rfl (by decide) rfl ⟨(Nat.le_of_ble_eq_true rfl), (Nat.le_of_ble_eq_true rfl)⟩ ⟨(Nat.le_of_ble_eq_true rfl), (Nat.le_of_ble_eq_true rfl)⟩ (Nat.le_of_ble_eq_true rfl) d_L_act_320 (fun x66 M67 => ?_)
    refine G_jn 337 (fun _ => [(6, .int x65), (5, .int x61), (4, .int x59), (0, .ref (wad w 0)), (1, .int v1), (2, .int v2), (3, .int v3)]) (fun (x69 : Unit) => []) (fun x69 M70 => ?_) (fun j68 hj68 => ?_)
    · refine G_aload_n g (pc := 337) 3 d_L_act_337 rfl rfl ?_
      refine G_cVI0 g (pc := 338) (As := []) (st := []) cc_L_137 (c_G_launchObstacle l hw M70) (hw.m 0 (Nat.le_of_ble_eq_true rfl)) (hw.k (Nat.le_of_ble_eq_true rfl) (zk0 rr)) rfl (by decide) rfl ⟨(Nat.le_of_ble_eq_true rfl), (Nat.le_of_ble_eq_true rfl)⟩ ⟨(Nat.le_of_ble_eq_true rfl), (Nat.le_of_ble_eq_true rfl)⟩ (Nat.le_of_ble_eq_true rfl) d_L_act_338 (fun x71 M72 => ?_)
      refine G_iconst g (pc := 341) (2 : Int32) d_L_act_341 rfl ?_
      refine G_icmp_eq g (pc := 342) 353 d_L_act_342 (by decide) ?_ ?_
      · refine G_iconst g (pc := 353) (1 : Int32) d_L_act_353 rfl ?_
        refine G_goto g (pc := 354) 358 d_L_act_354 (by decide) ?_
        exact G_zreturn g (pc := 358) true rfl hret (Nat.le_of_ble_eq_true rfl) (Nat.le_of_ble_eq_true rfl) d_L_act_358
      · refine G_iload g (pc := 345) 2 d_L_act_345 rfl ?_
        refine G_sipush g (pc := 347) (500 : Int32) d_L_act_347 rfl ?_
        refine G_icmp_le g (pc := 350) 357 d_L_act_350 (by decide) ?_ ?_
        · refine G_iconst g (pc := 353) (1 : Int32) d_L_act_353 rfl ?_
          refine G_goto g (pc := 354) 358 d_L_act_354 (by decide) ?_
          exact G_zreturn g (pc := 358) true rfl hret (Nat.le_of_ble_eq_true rfl) (Nat.le_of_ble_eq_true rfl) d_L_act_358
        · refine G_iconst g (pc := 357) (0 : Int32) d_L_act_357 rfl ?_
          exact G_zreturn g (pc := 358) false rfl hret (Nat.le_of_ble_eq_true rfl) (Nat.le_of_ble_eq_true rfl) d_L_act_358
    · refine G_if_neB g (pc := 323) 337 d_L_act_323 (by decide) ?_ ?_
      · refine G_sub [0, 1, 2, 3, 4, 5, 6] _ rfl ?_
        exact hj68 () M67
      · refine G_iload g (pc := 326) 2 d_L_act_326 rfl ?_
        refine G_iload g (pc := 328) 0 d_L_act_328 rfl ?_
        refine G_iadd g (pc := 330) d_L_act_330 ?_
        refine G_sipush g (pc := 331) (600 : Int32) d_L_act_331 rfl ?_
        refine G_icmp_le g (pc := 334) 359 d_L_act_334 (by decide) ?_ ?_
        · refine G_sub [0, 1, 2, 3, 4, 5, 6] _ rfl ?_
          exact hj68 () M67
        · refine G_aload_n g (pc := 359) 3 d_L_act_359 rfl rfl ?_
          refine G_iload g (pc := 360) 0 d_L_act_360 rfl ?_
          refine G_cVI0 g (pc := 362) (As := [.int x65]) (st := []) cc_L_184 (c_G_payOut l N hw x65 M67) (hw.m 0 (Nat.le_of_ble_eq_true rfl)) (hw.k (Nat.le_of_ble_eq_true rfl) (zk0 rr)) rfl (by decide) rfl ⟨(Nat.le_of_ble_eq_true rfl), (Nat.le_of_ble_eq_true rfl)⟩ ⟨(Nat.le_of_ble_eq_true rfl), (Nat.le_of_ble_eq_true rfl)⟩ (Nat.le_of_ble_eq_true rfl) d_L_act_362 (fun x73 M74 => ?_)
          refine G_iload g (pc := 365) 2 d_L_act_365 rfl ?_
          refine G_iload g (pc := 367) 0 d_L_act_367 rfl ?_
          refine G_iadd g (pc := 369) d_L_act_369 ?_
          refine G_icmp_ne g (pc := 370) 386 d_L_act_370 (by decide) ?_ ?_
          · refine G_aload_n g (pc := 373) 3 d_L_act_373 rfl rfl ?_
            refine G_cVI0 g (pc := 374) (As := []) (st := []) cc_L_49 (c_G_height l hw M74) (hw.m 0 (Nat.le_of_ble_eq_true rfl)) (hw.k (Nat.le_of_ble_eq_true rfl) (zk0 rr)) rfl (by decide) rfl ⟨(Nat.le_of_ble_eq_true rfl), (Nat.le_of_ble_eq_true rfl)⟩ ⟨(Nat.le_of_ble_eq_true rfl), (Nat.le_of_ble_eq_true rfl)⟩ (Nat.le_of_ble_eq_true rfl) d_L_act_374 (fun x75 M76 => ?_)
            refine G_iload g (pc := 377) 1 d_L_act_377 rfl ?_
            refine G_icmp_ne g (pc := 379) 386 d_L_act_379 (by decide) ?_ ?_
            · refine G_iconst g (pc := 382) (1 : Int32) d_L_act_382 rfl ?_
              refine G_goto g (pc := 383) 387 d_L_act_383 (by decide) ?_
              exact G_zreturn g (pc := 387) true rfl hret (Nat.le_of_ble_eq_true rfl) (Nat.le_of_ble_eq_true rfl) d_L_act_387
            · refine G_iconst g (pc := 386) (0 : Int32) d_L_act_386 rfl ?_
              exact G_zreturn g (pc := 387) false rfl hret (Nat.le_of_ble_eq_true rfl) (Nat.le_of_ble_eq_true rfl) d_L_act_387
          · refine G_iconst g (pc := 386) (0 : Int32) d_L_act_386 rfl ?_
            exact G_zreturn g (pc := 387) false rfl hret (Nat.le_of_ble_eq_true rfl) (Nat.le_of_ble_eq_true rfl) d_L_act_387
  · refine G_sub [0, 1, 2, 3] _ rfl ?_
    exact gk_L_act_388 l N hw g hret v1 v2 v3 M
def fk_L_act_152 (N : Nat) (rr : Nat) (v1 : Int32) (v2 : Int32) (v3 : Int32) (M : Mem) : Option (Bool × Mem) :=
  jn (fun (x35 : Unit) (M36 : Mem) => bnd (f_G_launchObstacle M36) fun (x37 : Int32) (M38 : Mem) => if 0 < x37 then (if x37 = (1 : Int32) then (bnd (f_G_isFlying M38) fun (x39 : Bool) (M40 : Mem) => some (x39, M40)) else (if x37 = (2 : Int32) then (bnd (f_G_isFallen M38) fun (x41 : Bool) (M42 : Mem) => some (x41, M42)) else (if x37 = (3 : Int32) then (bnd (f_G_tether M38) fun (x43 : Int32) (M44 : Mem) => if x43 < (10 : Int32) then (some (true, M44)) else (some (false, M44))) else (bnd (f_G_windAt (0 : Int32) M38) fun (x45 : Int32) (M46 : Mem) => if x45 < (5 : Int32) then (some (true, M46)) else (some (false, M46)))))) else (bnd (f_G_launches M38) fun (x47 : Int32) (M48 : Mem) => bnd (f_G_launch N rr M48) fun (x49 : Int32) (M50 : Mem) => if x49 = (x47 + (1 : Int32)) then (bnd (f_G_isFlying M50) fun (x51 : Bool) (M52 : Mem) => if x51 = true then (bnd (f_G_height M52) fun (x53 : Int32) (M54 : Mem) => if x53 = (10 : Int32) then (bnd (f_G_bufferSize M54) fun (x55 : Int32) (M56 : Mem) => if x55 = 0 then (bnd (f_G_flightTime M56) fun (x57 : Int32) (M58 : Mem) => if x57 = 0 then (some (true, M58)) else (some (false, M58))) else (some (false, M56))) else (some (false, M54))) else (some (false, M52))) else (some (false, M50)))) (fun j34 => if v2 < (4 : Int32) then (j34 () M) else (if v2 = (23 : Int32) then (j34 () M) else (fk_L_act_291 N rr v1 v2 v3 M)))
set_option maxHeartbeats 40000000 in
set_option maxRecDepth 100000 in
theorem gk_L_act_152 (l : Launch) (N : Nat) {w : Wc} {rr : Nat} (hw : WK w rr) {p0 : Program} {e : Env} {s : State} {m : MethodId} {args : Array Value} {below : List Frame} {meth : Method} {c : Code} (g : Gd p0 s m args meth c w 16 b_L_act "KiteLoggerLaw") (hret : meth.sig.returnType = (some .boolean)) (v1 : Int32) (v2 : Int32) (v3 : Int32) (M : Mem) : Go p0 l e (rmL 8) s m args below meth c w 16 0 0 (fun r => MQ below (QZ w r) args s (rmL 8).cells (rmL 8).slots (wA w)) (fk_L_act_152 N rr v1 v2 v3 M) 152 [(0, .ref (wad w 0)), (1, .int v1), (2, .int v2), (3, .int v3)] [] M := by
  unfold fk_L_act_152
  refine G_iload_n g (pc := 152) 2 d_L_act_152 rfl rfl ?_
  refine G_iconst g (pc := 153) (4 : Int32) d_L_act_153 rfl ?_
  refine G_jn 163 (fun _ => [(0, .ref (wad w 0)), (1, .int v1), (2, .int v2), (3, .int v3)]) (fun (x35 : Unit) => []) (fun x35 M36 => ?_) (fun j34 hj34 => ?_)
  · refine G_aload_n g (pc := 163) 0 d_L_act_163 rfl rfl ?_
    refine G_cVI0 g (pc := 164) (As := []) (st := []) cc_L_137 (c_G_launchObstacle l hw M36) (hw.m 0 (Nat.le_of_ble_eq_true rfl)) (hw.k (Nat.le_of_ble_eq_true rfl) (zk0 rr)) rfl (by decide) rfl ⟨(Nat.le_of_ble_eq_true rfl), (Nat.le_of_ble_eq_true rfl)⟩ ⟨(Nat.le_of_ble_eq_true rfl), (Nat.le_of_ble_eq_true rfl)⟩ (Nat.le_of_ble_eq_true rfl) d_L_act_164 (fun x37 M38 => ?_)
    refine G_istore g (pc := 167) _ d_L_act_167 (Nat.le_of_ble_eq_true rfl) rfl ?_
    refine G_sub [0, 1, 2, 3, 4] [(4, .int x37), (0, .ref (wad w 0)), (1, .int v1), (2, .int v2), (3, .int v3)] rfl ?_
    refine G_iload g (pc := 169) 0 d_L_act_169 rfl ?_
    refine G_if_le g (pc := 171) 238 d_L_act_171 (by decide) ?_ ?_
    · refine G_iload g (pc := 174) 0 d_L_act_174 rfl ?_
      refine G_iconst g (pc := 176) (1 : Int32) d_L_act_176 rfl ?_
      refine G_icmp_ne g (pc := 177) 187 d_L_act_177 (by decide) ?_ ?_
      · refine G_aload_n g (pc := 180) 1 d_L_act_180 rfl rfl ?_
        refine G_cVZ0 g (pc := 181) (As := []) (st := []) cc_L_46 (c_G_isFlying l hw M38) (hw.m 0 (Nat.le_of_ble_eq_true rfl)) (hw.k (Nat.le_of_ble_eq_true rfl) (zk0 rr)) rfl (by decide) rfl ⟨(Nat.le_of_ble_eq_true rfl), (Nat.le_of_ble_eq_true rfl)⟩ ⟨(Nat.le_of_ble_eq_true rfl), (Nat.le_of_ble_eq_true rfl)⟩ (Nat.le_of_ble_eq_true rfl) d_L_act_181 (fun x39 M40 => ?_)
        refine G_goto g (pc := 184) 237 d_L_act_184 (by decide) ?_
        exact G_zreturn g (pc := 237) x39 rfl hret (Nat.le_of_ble_eq_true rfl) (Nat.le_of_ble_eq_true rfl) d_L_act_237
      · refine G_iload g (pc := 187) 0 d_L_act_187 rfl ?_
        refine G_iconst g (pc := 189) (2 : Int32) d_L_act_189 rfl ?_
        refine G_icmp_ne g (pc := 190) 200 d_L_act_190 (by decide) ?_ ?_
        · refine G_aload_n g (pc := 193) 1 d_L_act_193 rfl rfl ?_
          refine G_cVZ0 g (pc := 194) (As := []) (st := []) cc_L_140 (c_G_isFallen l hw M38) (hw.m 0 (Nat.le_of_ble_eq_true rfl)) (hw.k (Nat.le_of_ble_eq_true rfl) (zk0 rr)) rfl (by decide) rfl ⟨(Nat.le_of_ble_eq_true rfl), (Nat.le_of_ble_eq_true rfl)⟩ ⟨(Nat.le_of_ble_eq_true rfl), (Nat.le_of_ble_eq_true rfl)⟩ (Nat.le_of_ble_eq_true rfl) d_L_act_194 (fun x41 M42 => ?_)
          refine G_goto g (pc := 197) 237 d_L_act_197 (by decide) ?_
          exact G_zreturn g (pc := 237) x41 rfl hret (Nat.le_of_ble_eq_true rfl) (Nat.le_of_ble_eq_true rfl) d_L_act_237
        · refine G_iload g (pc := 200) 0 d_L_act_200 rfl ?_
          refine G_iconst g (pc := 202) (3 : Int32) d_L_act_202 rfl ?_
          refine G_icmp_ne g (pc := 203) 223 d_L_act_203 (by decide) ?_ ?_
          · refine G_aload_n g (pc := 206) 1 d_L_act_206 rfl rfl ?_
            refine G_cVI0 g (pc := 207) (As := []) (st := []) cc_L_52 (c_G_tether l hw M38) (hw.m 0 (Nat.le_of_ble_eq_true rfl)) (hw.k (Nat.le_of_ble_eq_true rfl) (zk0 rr)) rfl (by decide) rfl ⟨(Nat.le_of_ble_eq_true rfl), (Nat.le_of_ble_eq_true rfl)⟩ ⟨(Nat.le_of_ble_eq_true rfl), (Nat.le_of_ble_eq_true rfl)⟩ (Nat.le_of_ble_eq_true rfl) d_L_act_207 (fun x43 M44 => ?_)
            refine G_bipush g (pc := 210) (10 : Int32) d_L_act_210 rfl ?_
            refine G_icmp_ge g (pc := 212) 219 d_L_act_212 (by decide) ?_ ?_
            · refine G_iconst g (pc := 215) (1 : Int32) d_L_act_215 rfl ?_
              refine G_goto g (pc := 216) 237 d_L_act_216 (by decide) ?_
              exact G_zreturn g (pc := 237) true rfl hret (Nat.le_of_ble_eq_true rfl) (Nat.le_of_ble_eq_true rfl) d_L_act_237
            · refine G_iconst g (pc := 219) (0 : Int32) d_L_act_219 rfl ?_
              refine G_goto g (pc := 220) 237 d_L_act_220 (by decide) ?_
              exact G_zreturn g (pc := 237) false rfl hret (Nat.le_of_ble_eq_true rfl) (Nat.le_of_ble_eq_true rfl) d_L_act_237
          · refine G_aload_n g (pc := 223) 1 d_L_act_223 rfl rfl ?_
            refine G_iconst g (pc := 224) (0 : Int32) d_L_act_224 rfl ?_
            refine G_cVI0 g (pc := 225) (As := [.int (0 : Int32)]) (st := []) cc_L_155 (c_G_windAt l hw (0 : Int32) M38) (hw.m 0 (Nat.le_of_ble_eq_true rfl)) (hw.k (Nat.le_of_ble_eq_true rfl) (zk0 rr)) rfl (by decide) rfl ⟨(Nat.le_of_ble_eq_true rfl), (Nat.le_of_ble_eq_true rfl)⟩ ⟨(Nat.le_of_ble_eq_true rfl), (Nat.le_of_ble_eq_true rfl)⟩ (Nat.le_of_ble_eq_true rfl) d_L_act_225 (fun x45 M46 => ?_)
            refine G_iconst g (pc := 228) (5 : Int32) d_L_act_228 rfl ?_
            refine G_icmp_ge g (pc := 229) 236 d_L_act_229 (by decide) ?_ ?_
            · refine G_iconst g (pc := 232) (1 : Int32) d_L_act_232 rfl ?_
              refine G_goto g (pc := 233) 237 d_L_act_233 (by decide) ?_
              exact G_zreturn g (pc := 237) true rfl hret (Nat.le_of_ble_eq_true rfl) (Nat.le_of_ble_eq_true rfl) d_L_act_237
            · refine G_iconst g (pc := 236) (0 : Int32) d_L_act_236 rfl ?_
              exact G_zreturn g (pc := 237) false rfl hret (Nat.le_of_ble_eq_true rfl) (Nat.le_of_ble_eq_true rfl) d_L_act_237
    · refine G_aload_n g (pc := 238) 1 d_L_act_238 rfl rfl ?_
      refine G_cVI0 g (pc := 239) (As := []) (st := []) cc_L_70 (c_G_launches l hw M38) (hw.m 0 (Nat.le_of_ble_eq_true rfl)) (hw.k (Nat.le_of_ble_eq_true rfl) (zk0 rr)) rfl (by decide) rfl ⟨(Nat.le_of_ble_eq_true rfl), (Nat.le_of_ble_eq_true rfl)⟩ ⟨(Nat.le_of_ble_eq_true rfl), (Nat.le_of_ble_eq_true rfl)⟩ (Nat.le_of_ble_eq_true rfl) d_L_act_239 (fun x47 M48 => ?_)
      refine G_istore g (pc := 242) _ d_L_act_242 (Nat.le_of_ble_eq_true rfl) rfl ?_
      refine G_sub [0, 1, 2, 3, 4, 5] [(5, .int x47), (4, .int x37), (0, .ref (wad w 0)), (1, .int v1), (2, .int v2), (3, .int v3)] rfl ?_
      refine G_aload_n g (pc := 244) 2 d_L_act_244 rfl rfl ?_
      refine G_cVI0 g (pc := 245) (As := []) (st := []) cc_L_181 (c_G_launch l N hw M48) (hw.m 0 (Nat.le_of_ble_eq_true rfl)) (hw.k (Nat.le_of_ble_eq_true rfl) (zk0 rr)) rfl (by decide) rfl ⟨(Nat.le_of_ble_eq_true rfl), (Nat.le_of_ble_eq_true rfl)⟩ ⟨(Nat.le_of_ble_eq_true rfl), (Nat.le_of_ble_eq_true rfl)⟩ (Nat.le_of_ble_eq_true rfl) d_L_act_245 (fun x49 M50 => ?_)
      refine G_iload g (pc := 248) 0 d_L_act_248 rfl ?_
      refine G_iconst g (pc := 250) (1 : Int32) d_L_act_250 rfl ?_
      refine G_iadd g (pc := 251) d_L_act_251 ?_
      refine G_icmp_ne g (pc := 252) 289 d_L_act_252 (by decide) ?_ ?_
      · refine G_aload_n g (pc := 255) 2 d_L_act_255 rfl rfl ?_
        refine G_cVZ0 g (pc := 256) (As := []) (st := []) cc_L_46 (c_G_isFlying l hw M50) (hw.m 0 (Nat.le_of_ble_eq_true rfl)) (hw.k (Nat.le_of_ble_eq_true rfl) (zk0 rr)) rfl (by decide) rfl ⟨(Nat.le_of_ble_eq_true rfl), (Nat.le_of_ble_eq_true rfl)⟩ ⟨(Nat.le_of_ble_eq_true rfl), (Nat.le_of_ble_eq_true rfl)⟩ (Nat.le_of_ble_eq_true rfl) d_L_act_256 (fun x51 M52 => ?_)
        refine G_if_eqB g (pc := 259) 289 d_L_act_259 (by decide) ?_ ?_
        · refine G_aload_n g (pc := 262) 2 d_L_act_262 rfl rfl ?_
          refine G_cVI0 g (pc := 263) (As := []) (st := []) cc_L_49 (c_G_height l hw M52) (hw.m 0 (Nat.le_of_ble_eq_true rfl)) (hw.k (Nat.le_of_ble_eq_true rfl) (zk0 rr)) rfl (by decide) rfl ⟨(Nat.le_of_ble_eq_true rfl), (Nat.le_of_ble_eq_true rfl)⟩ ⟨(Nat.le_of_ble_eq_true rfl), (Nat.le_of_ble_eq_true rfl)⟩ (Nat.le_of_ble_eq_true rfl) d_L_act_263 (fun x53 M54 => ?_)
          refine G_bipush g (pc := 266) (10 : Int32) d_L_act_266 rfl ?_
          refine G_icmp_ne g (pc := 268) 289 d_L_act_268 (by decide) ?_ ?_
          · refine G_aload_n g (pc := 271) 2 d_L_act_271 rfl rfl ?_
            refine G_cVI0 g (pc := 272) (As := []) (st := []) cc_L_36 (c_G_bufferSize l hw M54) (hw.m 0 (Nat.le_of_ble_eq_true rfl)) (hw.k (Nat.le_of_ble_eq_true rfl) (zk0 rr)) rfl (by decide) rfl ⟨(Nat.le_of_ble_eq_true rfl), (Nat.le_of_ble_eq_true rfl)⟩ ⟨(Nat.le_of_ble_eq_true rfl), (Nat.le_of_ble_eq_true rfl)⟩ (Nat.le_of_ble_eq_true rfl) d_L_act_272 (fun x55 M56 => ?_)
            refine G_if_ne g (pc := 275) 289 d_L_act_275 (by decide) ?_ ?_
            · refine G_aload_n g (pc := 278) 2 d_L_act_278 rfl rfl ?_
              refine G_cVI0 g (pc := 279) (As := []) (st := []) cc_L_64 (c_G_flightTime l hw M56) (hw.m 0 (Nat.le_of_ble_eq_true rfl)) (hw.k (Nat.le_of_ble_eq_true rfl) (zk0 rr)) rfl (by decide) rfl ⟨(Nat.le_of_ble_eq_true rfl), (Nat.le_of_ble_eq_true rfl)⟩ ⟨(Nat.le_of_ble_eq_true rfl), (Nat.le_of_ble_eq_true rfl)⟩ (Nat.le_of_ble_eq_true rfl) d_L_act_279 (fun x57 M58 => ?_)
              refine G_if_ne g (pc := 282) 289 d_L_act_282 (by decide) ?_ ?_
              · refine G_iconst g (pc := 285) (1 : Int32) d_L_act_285 rfl ?_
                refine G_goto g (pc := 286) 290 d_L_act_286 (by decide) ?_
                exact G_zreturn g (pc := 290) true rfl hret (Nat.le_of_ble_eq_true rfl) (Nat.le_of_ble_eq_true rfl) d_L_act_290
              · refine G_iconst g (pc := 289) (0 : Int32) d_L_act_289 rfl ?_
                exact G_zreturn g (pc := 290) false rfl hret (Nat.le_of_ble_eq_true rfl) (Nat.le_of_ble_eq_true rfl) d_L_act_290
            · refine G_iconst g (pc := 289) (0 : Int32) d_L_act_289 rfl ?_
              exact G_zreturn g (pc := 290) false rfl hret (Nat.le_of_ble_eq_true rfl) (Nat.le_of_ble_eq_true rfl) d_L_act_290
          · refine G_iconst g (pc := 289) (0 : Int32) d_L_act_289 rfl ?_
            exact G_zreturn g (pc := 290) false rfl hret (Nat.le_of_ble_eq_true rfl) (Nat.le_of_ble_eq_true rfl) d_L_act_290
        · refine G_iconst g (pc := 289) (0 : Int32) d_L_act_289 rfl ?_
          exact G_zreturn g (pc := 290) false rfl hret (Nat.le_of_ble_eq_true rfl) (Nat.le_of_ble_eq_true rfl) d_L_act_290
      · refine G_iconst g (pc := 289) (0 : Int32) d_L_act_289 rfl ?_
        exact G_zreturn g (pc := 290) false rfl hret (Nat.le_of_ble_eq_true rfl) (Nat.le_of_ble_eq_true rfl) d_L_act_290
  · refine G_icmp_lt g (pc := 154) 163 d_L_act_154 (by decide) ?_ ?_
    · refine G_sub [0, 1, 2, 3] _ rfl ?_
      exact hj34 () M
    · refine G_iload_n g (pc := 157) 2 d_L_act_157 rfl rfl ?_
      refine G_bipush g (pc := 158) (23 : Int32) d_L_act_158 rfl ?_
      refine G_icmp_ne g (pc := 160) 291 d_L_act_160 (by decide) ?_ ?_
      · refine G_sub [0, 1, 2, 3] _ rfl ?_
        exact hj34 () M
      · refine G_sub [0, 1, 2, 3] _ rfl ?_
        exact gk_L_act_291 l N hw g hret v1 v2 v3 M
def f_L_act (N : Nat) (rr : Nat) (a2 : Int32) (M : Mem) : Option (Bool × Mem) :=
  bnd (f_L_most a2 (24 : Int32) M) fun (x1 : Int32) (M2 : Mem) => nm (a2 >>> ((4 : Int32) &&& 31)) fun (x3 : Int32) => bnd (f_G_isFallen M2) fun (x4 : Bool) (M5 : Mem) => if x4 = true then (if x1 < (8 : Int32) then (bnd (f_G_searches M5) fun (x6 : Int32) (M7 : Mem) => bnd (f_G_beaconTime M7) fun (x8 : Int32) (M9 : Mem) => jn (fun (x11 : Bool) (M12 : Mem) => bnd (f_G_wear M12) fun (x13 : Int32) (M14 : Mem) => bnd (f_L_most (x3 >>> ((3 : Int32) &&& 31)) (3 : Int32) M14) fun (x15 : Int32) (M16 : Mem) => jn (fun (x18 : Int32) (M19 : Mem) => bnd (f_L_most x3 x18 M19) fun (x20 : Int32) (M21 : Mem) => bnd (f_G_search N rr x20 M21) fun (x22 : Int32) (M23 : Mem) => bnd (f_G_searches M23) fun (x24 : Int32) (M25 : Mem) => if x24 = (x6 + (1 : Int32)) then (bnd (f_G_wear M25) fun (x26 : Int32) (M27 : Mem) => if x26 = x13 then (if x22 = 0 then (bnd (f_G_isLanded M27) fun (x28 : Bool) (M29 : Mem) => if x28 = true then (bnd (f_G_beaconTime M29) fun (x30 : Int32) (M31 : Mem) => if x30 = 0 then (some (true, M31)) else (some (false, M31))) else (some (false, M29))) else (bnd (f_G_isFallen M27) fun (x32 : Bool) (M33 : Mem) => if x32 = true then (if x11 = true then (if x22 = (-1 : Int32) then (some (true, M33)) else (some (false, M33))) else (if 0 < x22 then (some (true, M33)) else (some (false, M33)))) else (some (false, M33)))) else (some (false, M27))) else (some (false, M25))) (fun j17 => if x15 = 0 then (j17 (2201 : Int32) M16) else (j17 (120 : Int32) M16))) (fun j10 => if x8 = 0 then (j10 true M9) else (j10 false M9))) else (fk_L_act_152 N rr a2 x1 x3 M5)) else (fk_L_act_152 N rr a2 x1 x3 M5)
set_option maxHeartbeats 4000000 in
set_option maxRecDepth 100000 in
theorem c_L_act (l : Launch) (N : Nat) {w : Wc} {rr : Nat} (hw : WK w rr) (a2 : Int32) (M : Mem) : Ct QZ l y_L_act b_L_act 16 (some .boolean) (rmL 8) w [.ref (wad w 0), .int a2] M (f_L_act N rr a2 M) := by
  refine Ct.go (by decide) (L := [(0, .ref (wad w 0)), (1, .int a2)]) rfl (Nat.le_of_ble_eq_true rfl) (fun p0 e s m args below meth c g hret => ?_)
  unfold f_L_act
  refine G_iload_n g (pc := 0) 1 d_L_act_0 rfl rfl ?_
  refine G_bipush g (pc := 1) (24 : Int32) d_L_act_1 rfl ?_
  refine G_cSI0 g (pc := 3) (As := [.int a2, .int (24 : Int32)]) (st := []) cc_L_175 (c_L_most l hw a2 (24 : Int32) M) rfl ⟨(Nat.le_of_ble_eq_true rfl), (Nat.le_of_ble_eq_true rfl)⟩ ⟨(Nat.le_of_ble_eq_true rfl), (Nat.le_of_ble_eq_true rfl)⟩ (Nat.le_of_ble_eq_true rfl) d_L_act_3 (fun x1 M2 => ?_)
  refine G_istore_n g (pc := 6) _ d_L_act_6 rfl (Nat.le_of_ble_eq_true rfl) rfl ?_
  refine G_sub [0, 1, 2] [(2, .int x1), (0, .ref (wad w 0)), (1, .int a2)] rfl ?_
  refine G_iload_n g (pc := 7) 2 d_L_act_7 rfl rfl ?_
  refine G_iconst g (pc := 8) (4 : Int32) d_L_act_8 rfl ?_
  refine G_ishr g (pc := 9) d_L_act_9 ?_
  refine G_nmI (fun x3 => ?_)
  refine G_istore_n g (pc := 10) _ d_L_act_10 rfl (Nat.le_of_ble_eq_true rfl) rfl ?_
  refine G_sub [0, 1, 2, 3] [(3, .int x3), (2, .int x1), (0, .ref (wad w 0)), (1, .int a2)] rfl ?_
  refine G_aload_n g (pc := 11) 2 d_L_act_11 rfl rfl ?_
  refine G_cVZ0 g (pc := 12) (As := []) (st := []) cc_L_140 (c_G_isFallen l hw M2) (hw.m 0 (Nat.le_of_ble_eq_true rfl)) (hw.k (Nat.le_of_ble_eq_true rfl) (zk0 rr)) rfl (by decide) rfl ⟨(Nat.le_of_ble_eq_true rfl), (Nat.le_of_ble_eq_true rfl)⟩ ⟨(Nat.le_of_ble_eq_true rfl), (Nat.le_of_ble_eq_true rfl)⟩ (Nat.le_of_ble_eq_true rfl) d_L_act_12 (fun x4 M5 => ?_)
  refine G_if_eqB g (pc := 15) 152 d_L_act_15 (by decide) ?_ ?_
  · refine G_iload_n g (pc := 18) 1 d_L_act_18 rfl rfl ?_
    refine G_bipush g (pc := 19) (8 : Int32) d_L_act_19 rfl ?_
    refine G_icmp_ge g (pc := 21) 152 d_L_act_21 (by decide) ?_ ?_
    · refine G_aload_n g (pc := 24) 2 d_L_act_24 rfl rfl ?_
      refine G_cVI0 g (pc := 25) (As := []) (st := []) cc_L_76 (c_G_searches l hw M5) (hw.m 0 (Nat.le_of_ble_eq_true rfl)) (hw.k (Nat.le_of_ble_eq_true rfl) (zk0 rr)) rfl (by decide) rfl ⟨(Nat.le_of_ble_eq_true rfl), (Nat.le_of_ble_eq_true rfl)⟩ ⟨(Nat.le_of_ble_eq_true rfl), (Nat.le_of_ble_eq_true rfl)⟩ (Nat.le_of_ble_eq_true rfl) d_L_act_25 (fun x6 M7 => ?_)
      refine G_istore g (pc := 28) _ d_L_act_28 (Nat.le_of_ble_eq_true rfl) rfl ?_
      refine G_sub [0, 1, 2, 3, 4] [(4, .int x6), (3, .int x3), (2, .int x1), (0, .ref (wad w 0)), (1, .int a2)] rfl ?_
      refine G_aload_n g (pc := 30) 3 d_L_act_30 rfl rfl ?_
      refine G_cVI0 g (pc := 31) (As := []) (st := []) cc_L_67 (c_G_beaconTime l hw M7) (hw.m 0 (Nat.le_of_ble_eq_true rfl)) (hw.k (Nat.le_of_ble_eq_true rfl) (zk0 rr)) rfl (by decide) rfl ⟨(Nat.le_of_ble_eq_true rfl), (Nat.le_of_ble_eq_true rfl)⟩ ⟨(Nat.le_of_ble_eq_true rfl), (Nat.le_of_ble_eq_true rfl)⟩ (Nat.le_of_ble_eq_true rfl) d_L_act_31 (fun x8 M9 => ?_)
      refine G_jn 42 (fun _ => [(4, .int x6), (3, .int x3), (2, .int x1), (0, .ref (wad w 0)), (1, .int a2)]) (fun (x11 : Bool) => [.int (b2i x11)]) (fun x11 M12 => ?_) (fun j10 hj10 => ?_)
      · refine G_istore g (pc := 42) _ d_L_act_42 (Nat.le_of_ble_eq_true rfl) rfl ?_
        refine G_sub [0, 1, 2, 3, 4, 5] [(5, .int (b2i x11)), (4, .int x6), (3, .int x3), (2, .int x1), (0, .ref (wad w 0)), (1, .int a2)] rfl ?_
        refine G_aload_n g (pc := 44) 4 d_L_act_44 rfl rfl ?_
        refine G_cVI0 g (pc := 45) (As := []) (st := []) cc_L_61 (c_G_wear l hw M12) (hw.m 0 (Nat.le_of_ble_eq_true rfl)) (hw.k (Nat.le_of_ble_eq_true rfl) (zk0 rr)) rfl (by decide) rfl ⟨(Nat.le_of_ble_eq_true rfl), (Nat.le_of_ble_eq_true rfl)⟩ ⟨(Nat.le_of_ble_eq_true rfl), (Nat.le_of_ble_eq_true rfl)⟩ (Nat.le_of_ble_eq_true rfl) d_L_act_45 (fun x13 M14 => ?_)
        refine G_istore g (pc := 48) _ d_L_act_48 (Nat.le_of_ble_eq_true rfl) rfl ?_
        refine G_sub [0, 1, 2, 3, 4, 5, 6] [(6, .int x13), (5, .int (b2i x11)), (4, .int x6), (3, .int x3), (2, .int x1), (0, .ref (wad w 0)), (1, .int a2)] rfl ?_
        refine G_aload_n g (pc := 50) 5 d_L_act_50 rfl rfl ?_
        refine G_iload_n g (pc := 51) 3 d_L_act_51 rfl rfl ?_
        refine G_iload_n g (pc := 52) 3 d_L_act_52 rfl rfl ?_
        refine G_iconst g (pc := 53) (3 : Int32) d_L_act_53 rfl ?_
        refine G_ishr g (pc := 54) d_L_act_54 ?_
        refine G_iconst g (pc := 55) (3 : Int32) d_L_act_55 rfl ?_
        refine G_cSI0 g (pc := 56) (As := [.int (x3 >>> ((3 : Int32) &&& 31)), .int (3 : Int32)]) (st := [.int x3, .ref (wad w 0)]) cc_L_175 (c_L_most l hw (x3 >>> ((3 : Int32) &&& 31)) (3 : Int32) M14) rfl ⟨(Nat.le_of_ble_eq_true rfl), (Nat.le_of_ble_eq_true rfl)⟩ ⟨(Nat.le_of_ble_eq_true rfl), (Nat.le_of_ble_eq_true rfl)⟩ (Nat.le_of_ble_eq_true rfl) d_L_act_56 (fun x15 M16 => ?_)
        refine G_jn 70 (fun _ => [(6, .int x13), (5, .int (b2i x11)), (4, .int x6), (3, .int x3), (2, .int x1), (0, .ref (wad w 0)), (1, .int a2)]) (fun (x18 : Int32) => [.int x18, .int x3, .ref (wad w 0)]) (fun x18 M19 => ?_) (fun j17 hj17 => ?_)
        · refine G_cSI0 g (pc := 70) (As := [.int x3, .int x18]) (st := [.ref (wad w 0)]) cc_L_175 (c_L_most l hw x3 x18 M19) rfl ⟨(Nat.le_of_ble_eq_true rfl), (Nat.le_of_ble_eq_true rfl)⟩ ⟨(Nat.le_of_ble_eq_true rfl), (Nat.le_of_ble_eq_true rfl)⟩ (Nat.le_of_ble_eq_true rfl) d_L_act_70 (fun x20 M21 => ?_)
          refine G_cVI0 g (pc := 73) (As := [.int x20]) (st := []) cc_L_178 (c_G_search l N hw x20 M21) (hw.m 0 (Nat.le_of_ble_eq_true rfl)) (hw.k (Nat.le_of_ble_eq_true rfl) (zk0 rr)) rfl (by decide) rfl ⟨(Nat.le_of_ble_eq_true rfl), (Nat.le_of_ble_eq_true rfl)⟩ ⟨(Nat.le_of_ble_eq_true rfl), (Nat.le_of_ble_eq_true rfl)⟩ (Nat.le_of_ble_eq_true rfl) d_L_act_73 (fun x22 M23 => ?_)
          refine G_istore g (pc := 76) _ d_L_act_76 (Nat.le_of_ble_eq_true rfl) rfl ?_
          refine G_sub [0, 1, 2, 3, 4, 5, 6, 7] [(7, .int x22), (6, .int x13), (5, .int (b2i x11)), (4, .int x6), (3, .int x3), (2, .int x1), (0, .ref (wad w 0)), (1, .int a2)] rfl ?_
          refine G_aload_n g (pc := 78) 6 d_L_act_78 rfl rfl ?_
          refine G_cVI0 g (pc := 79) (As := []) (st := []) cc_L_76 (c_G_searches l hw M23) (hw.m 0 (Nat.le_of_ble_eq_true rfl)) (hw.k (Nat.le_of_ble_eq_true rfl) (zk0 rr)) rfl (by decide) rfl ⟨(Nat.le_of_ble_eq_true rfl), (Nat.le_of_ble_eq_true rfl)⟩ ⟨(Nat.le_of_ble_eq_true rfl), (Nat.le_of_ble_eq_true rfl)⟩ (Nat.le_of_ble_eq_true rfl) d_L_act_79 (fun x24 M25 => ?_)
          refine G_iload g (pc := 82) 3 d_L_act_82 rfl ?_
          refine G_iconst g (pc := 84) (1 : Int32) d_L_act_84 rfl ?_
          refine G_iadd g (pc := 85) d_L_act_85 ?_
          refine G_icmp_ne g (pc := 86) 150 d_L_act_86 (by decide) ?_ ?_
          · refine G_aload_n g (pc := 89) 6 d_L_act_89 rfl rfl ?_
            refine G_cVI0 g (pc := 90) (As := []) (st := []) cc_L_61 (c_G_wear l hw M25) (hw.m 0 (Nat.le_of_ble_eq_true rfl)) (hw.k (Nat.le_of_ble_eq_true rfl) (zk0 rr)) rfl (by decide) rfl ⟨(Nat.le_of_ble_eq_true rfl), (Nat.le_of_ble_eq_true rfl)⟩ ⟨(Nat.le_of_ble_eq_true rfl), (Nat.le_of_ble_eq_true rfl)⟩ (Nat.le_of_ble_eq_true rfl) d_L_act_90 (fun x26 M27 => ?_)
            refine G_iload g (pc := 93) 1 d_L_act_93 rfl ?_
            refine G_icmp_ne g (pc := 95) 150 d_L_act_95 (by decide) ?_ ?_
            · refine G_iload g (pc := 98) 0 d_L_act_98 rfl ?_
              refine G_if_ne g (pc := 100) 120 d_L_act_100 (by decide) ?_ ?_
              · refine G_aload_n g (pc := 103) 6 d_L_act_103 rfl rfl ?_
                refine G_cVZ0 g (pc := 104) (As := []) (st := []) cc_L_42 (c_G_isLanded l hw M27) (hw.m 0 (Nat.le_of_ble_eq_true rfl)) (hw.k (Nat.le_of_ble_eq_true rfl) (zk0 rr)) rfl (by decide) rfl ⟨(Nat.le_of_ble_eq_true rfl), (Nat.le_of_ble_eq_true rfl)⟩ ⟨(Nat.le_of_ble_eq_true rfl), (Nat.le_of_ble_eq_true rfl)⟩ (Nat.le_of_ble_eq_true rfl) d_L_act_104 (fun x28 M29 => ?_)
                refine G_if_eqB g (pc := 107) 150 d_L_act_107 (by decide) ?_ ?_
                · refine G_aload_n g (pc := 110) 6 d_L_act_110 rfl rfl ?_
                  refine G_cVI0 g (pc := 111) (As := []) (st := []) cc_L_67 (c_G_beaconTime l hw M29) (hw.m 0 (Nat.le_of_ble_eq_true rfl)) (hw.k (Nat.le_of_ble_eq_true rfl) (zk0 rr)) rfl (by decide) rfl ⟨(Nat.le_of_ble_eq_true rfl), (Nat.le_of_ble_eq_true rfl)⟩ ⟨(Nat.le_of_ble_eq_true rfl), (Nat.le_of_ble_eq_true rfl)⟩ (Nat.le_of_ble_eq_true rfl) d_L_act_111 (fun x30 M31 => ?_)
                  refine G_if_ne g (pc := 114) 150 d_L_act_114 (by decide) ?_ ?_
                  · refine G_goto g (pc := 117) 146 d_L_act_117 (by decide) ?_
                    refine G_iconst g (pc := 146) (1 : Int32) d_L_act_146 rfl ?_
                    refine G_goto g (pc := 147) 151 d_L_act_147 (by decide) ?_
                    exact G_zreturn g (pc := 151) true rfl hret (Nat.le_of_ble_eq_true rfl) (Nat.le_of_ble_eq_true rfl) d_L_act_151
                  · refine G_iconst g (pc := 150) (0 : Int32) d_L_act_150 rfl ?_
                    exact G_zreturn g (pc := 151) false rfl hret (Nat.le_of_ble_eq_true rfl) (Nat.le_of_ble_eq_true rfl) d_L_act_151
                · refine G_iconst g (pc := 150) (0 : Int32) d_L_act_150 rfl ?_
                  exact G_zreturn g (pc := 151) false rfl hret (Nat.le_of_ble_eq_true rfl) (Nat.le_of_ble_eq_true rfl) d_L_act_151
              · refine G_aload_n g (pc := 120) 6 d_L_act_120 rfl rfl ?_
                refine G_cVZ0 g (pc := 121) (As := []) (st := []) cc_L_140 (c_G_isFallen l hw M27) (hw.m 0 (Nat.le_of_ble_eq_true rfl)) (hw.k (Nat.le_of_ble_eq_true rfl) (zk0 rr)) rfl (by decide) rfl ⟨(Nat.le_of_ble_eq_true rfl), (Nat.le_of_ble_eq_true rfl)⟩ ⟨(Nat.le_of_ble_eq_true rfl), (Nat.le_of_ble_eq_true rfl)⟩ (Nat.le_of_ble_eq_true rfl) d_L_act_121 (fun x32 M33 => ?_)
                refine G_if_eqB g (pc := 124) 150 d_L_act_124 (by decide) ?_ ?_
                · refine G_iload g (pc := 127) 2 d_L_act_127 rfl ?_
                  refine G_if_eqB g (pc := 129) 141 d_L_act_129 (by decide) ?_ ?_
                  · refine G_iload g (pc := 132) 0 d_L_act_132 rfl ?_
                    refine G_iconst g (pc := 134) (-1 : Int32) d_L_act_134 rfl ?_
                    refine G_icmp_ne g (pc := 135) 150 d_L_act_135 (by decide) ?_ ?_
                    · refine G_goto g (pc := 138) 146 d_L_act_138 (by decide) ?_
                      refine G_iconst g (pc := 146) (1 : Int32) d_L_act_146 rfl ?_
                      refine G_goto g (pc := 147) 151 d_L_act_147 (by decide) ?_
                      exact G_zreturn g (pc := 151) true rfl hret (Nat.le_of_ble_eq_true rfl) (Nat.le_of_ble_eq_true rfl) d_L_act_151
                    · refine G_iconst g (pc := 150) (0 : Int32) d_L_act_150 rfl ?_
                      exact G_zreturn g (pc := 151) false rfl hret (Nat.le_of_ble_eq_true rfl) (Nat.le_of_ble_eq_true rfl) d_L_act_151
                  · refine G_iload g (pc := 141) 0 d_L_act_141 rfl ?_
                    refine G_if_le g (pc := 143) 150 d_L_act_143 (by decide) ?_ ?_
                    · refine G_iconst g (pc := 146) (1 : Int32) d_L_act_146 rfl ?_
                      refine G_goto g (pc := 147) 151 d_L_act_147 (by decide) ?_
                      exact G_zreturn g (pc := 151) true rfl hret (Nat.le_of_ble_eq_true rfl) (Nat.le_of_ble_eq_true rfl) d_L_act_151
                    · refine G_iconst g (pc := 150) (0 : Int32) d_L_act_150 rfl ?_
                      exact G_zreturn g (pc := 151) false rfl hret (Nat.le_of_ble_eq_true rfl) (Nat.le_of_ble_eq_true rfl) d_L_act_151
                · refine G_iconst g (pc := 150) (0 : Int32) d_L_act_150 rfl ?_
                  exact G_zreturn g (pc := 151) false rfl hret (Nat.le_of_ble_eq_true rfl) (Nat.le_of_ble_eq_true rfl) d_L_act_151
            · refine G_iconst g (pc := 150) (0 : Int32) d_L_act_150 rfl ?_
              exact G_zreturn g (pc := 151) false rfl hret (Nat.le_of_ble_eq_true rfl) (Nat.le_of_ble_eq_true rfl) d_L_act_151
          · refine G_iconst g (pc := 150) (0 : Int32) d_L_act_150 rfl ?_
            exact G_zreturn g (pc := 151) false rfl hret (Nat.le_of_ble_eq_true rfl) (Nat.le_of_ble_eq_true rfl) d_L_act_151
        · refine G_if_ne g (pc := 59) 68 d_L_act_59 (by decide) ?_ ?_
          · refine G_sipush g (pc := 62) (2201 : Int32) d_L_act_62 rfl ?_
            refine G_goto g (pc := 65) 70 d_L_act_65 (by decide) ?_
            refine G_sub [0, 1, 2, 3, 4, 5, 6] _ rfl ?_
            exact hj17 (2201 : Int32) M16
          · refine G_bipush g (pc := 68) (120 : Int32) d_L_act_68 rfl ?_
            refine G_sub [0, 1, 2, 3, 4, 5, 6] _ rfl ?_
            exact hj17 (120 : Int32) M16
      · refine G_if_ne g (pc := 34) 41 d_L_act_34 (by decide) ?_ ?_
        · refine G_iconst g (pc := 37) (1 : Int32) d_L_act_37 rfl ?_
          refine G_goto g (pc := 38) 42 d_L_act_38 (by decide) ?_
          refine G_sub [0, 1, 2, 3, 4] _ rfl ?_
          exact hj10 true M9
        · refine G_iconst g (pc := 41) (0 : Int32) d_L_act_41 rfl ?_
          refine G_sub [0, 1, 2, 3, 4] _ rfl ?_
          exact hj10 false M9
    · refine G_sub [2, 3, 1, 0] _ rfl ?_
      exact gk_L_act_152 l N hw g hret a2 x1 x3 M5
  · refine G_sub [2, 3, 1, 0] _ rfl ?_
    exact gk_L_act_152 l N hw g hret a2 x1 x3 M5
