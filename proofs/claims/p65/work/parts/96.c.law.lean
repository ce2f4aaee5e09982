/-! the law: its two loops and its end -/
abbrev b_L_law : ByteArray := code
theorem d_L_law_0 : decode b_L_law 0 = .ok (.new 9, 3) := by decide +kernel
theorem d_L_law_3 : decode b_L_law 3 = .ok (.dup, 1) := by decide +kernel
theorem d_L_law_4 : decode b_L_law 4 = .ok (.invokespecial 202, 3) := by decide +kernel
theorem d_L_law_7 : decode b_L_law 7 = .ok (.astore_n 1, 1) := by decide +kernel
theorem d_L_law_8 : decode b_L_law 8 = .ok (.bipush 6, 2) := by decide +kernel
theorem d_L_law_10 : decode b_L_law 10 = .ok (.newarray .int, 2) := by decide +kernel
theorem d_L_law_12 : decode b_L_law 12 = .ok (.astore_n 2, 1) := by decide +kernel
theorem d_L_law_13 : decode b_L_law 13 = .ok (.aload_n 0, 1) := by decide +kernel
theorem d_L_law_14 : decode b_L_law 14 = .ok (.iconst 0, 1) := by decide +kernel
theorem d_L_law_15 : decode b_L_law 15 = .ok (.invokestatic 203, 3) := by decide +kernel
theorem d_L_law_18 : decode b_L_law 18 = .ok (.istore_n 3, 1) := by decide +kernel
theorem d_L_law_19 : decode b_L_law 19 = .ok (.new 207, 3) := by decide +kernel
theorem d_L_law_22 : decode b_L_law 22 = .ok (.dup, 1) := by decide +kernel
theorem d_L_law_23 : decode b_L_law 23 = .ok (.ldc 209, 2) := by decide +kernel
theorem d_L_law_25 : decode b_L_law 25 = .ok (.invokespecial 211, 3) := by decide +kernel
theorem d_L_law_28 : decode b_L_law 28 = .ok (.iconst 1, 1) := by decide +kernel
theorem d_L_law_29 : decode b_L_law 29 = .ok (.iload_n 3, 1) := by decide +kernel
theorem d_L_law_30 : decode b_L_law 30 = .ok (.iconst 4, 1) := by decide +kernel
theorem d_L_law_31 : decode b_L_law 31 = .ok (.invokestatic 175, 3) := by decide +kernel
theorem d_L_law_34 : decode b_L_law 34 = .ok (.iadd, 1) := by decide +kernel
theorem d_L_law_35 : decode b_L_law 35 = .ok (.invokevirtual 214, 3) := by decide +kernel
theorem d_L_law_38 : decode b_L_law 38 = .ok (.bipush 32, 2) := by decide +kernel
theorem d_L_law_40 : decode b_L_law 40 = .ok (.invokevirtual 218, 3) := by decide +kernel
theorem d_L_law_43 : decode b_L_law 43 = .ok (.iconst 1, 1) := by decide +kernel
theorem d_L_law_44 : decode b_L_law 44 = .ok (.iload_n 3, 1) := by decide +kernel
theorem d_L_law_45 : decode b_L_law 45 = .ok (.iconst 2, 1) := by decide +kernel
theorem d_L_law_46 : decode b_L_law 46 = .ok (.ishr, 1) := by decide +kernel
theorem d_L_law_47 : decode b_L_law 47 = .ok (.bipush 80, 2) := by decide +kernel
theorem d_L_law_49 : decode b_L_law 49 = .ok (.invokestatic 175, 3) := by decide +kernel
theorem d_L_law_52 : decode b_L_law 52 = .ok (.iadd, 1) := by decide +kernel
theorem d_L_law_53 : decode b_L_law 53 = .ok (.invokevirtual 214, 3) := by decide +kernel
theorem d_L_law_56 : decode b_L_law 56 = .ok (.bipush 32, 2) := by decide +kernel
theorem d_L_law_58 : decode b_L_law 58 = .ok (.invokevirtual 218, 3) := by decide +kernel
theorem d_L_law_61 : decode b_L_law 61 = .ok (.iconst 1, 1) := by decide +kernel
theorem d_L_law_62 : decode b_L_law 62 = .ok (.iload_n 3, 1) := by decide +kernel
theorem d_L_law_63 : decode b_L_law 63 = .ok (.iconst 3, 1) := by decide +kernel
theorem d_L_law_64 : decode b_L_law 64 = .ok (.ishr, 1) := by decide +kernel
theorem d_L_law_65 : decode b_L_law 65 = .ok (.sipush 300, 3) := by decide +kernel
theorem d_L_law_68 : decode b_L_law 68 = .ok (.invokestatic 175, 3) := by decide +kernel
theorem d_L_law_71 : decode b_L_law 71 = .ok (.iadd, 1) := by decide +kernel
theorem d_L_law_72 : decode b_L_law 72 = .ok (.invokevirtual 214, 3) := by decide +kernel
theorem d_L_law_75 : decode b_L_law 75 = .ok (.ldc 221, 2) := by decide +kernel
theorem d_L_law_77 : decode b_L_law 77 = .ok (.invokevirtual 223, 3) := by decide +kernel
theorem d_L_law_80 : decode b_L_law 80 = .ok (.astore 4, 2) := by decide +kernel
theorem d_L_law_82 : decode b_L_law 82 = .ok (.iconst 1, 1) := by decide +kernel
theorem d_L_law_83 : decode b_L_law 83 = .ok (.iload_n 3, 1) := by decide +kernel
theorem d_L_law_84 : decode b_L_law 84 = .ok (.iconst 4, 1) := by decide +kernel
theorem d_L_law_85 : decode b_L_law 85 = .ok (.ishr, 1) := by decide +kernel
theorem d_L_law_86 : decode b_L_law 86 = .ok (.bipush 8, 2) := by decide +kernel
theorem d_L_law_88 : decode b_L_law 88 = .ok (.invokestatic 175, 3) := by decide +kernel
theorem d_L_law_91 : decode b_L_law 91 = .ok (.iadd, 1) := by decide +kernel
theorem d_L_law_92 : decode b_L_law 92 = .ok (.istore 5, 2) := by decide +kernel
theorem d_L_law_94 : decode b_L_law 94 = .ok (.iconst 0, 1) := by decide +kernel
theorem d_L_law_95 : decode b_L_law 95 = .ok (.istore 6, 2) := by decide +kernel
theorem d_L_law_97 : decode b_L_law 97 = .ok (.iload 6, 2) := by decide +kernel
theorem d_L_law_99 : decode b_L_law 99 = .ok (.iload 5, 2) := by decide +kernel
theorem d_L_law_101 : decode b_L_law 101 = .ok (.if_icmp .ge 35, 3) := by decide +kernel
theorem d_L_law_104 : decode b_L_law 104 = .ok (.aload 4, 2) := by decide +kernel
theorem d_L_law_106 : decode b_L_law 106 = .ok (.bipush 32, 2) := by decide +kernel
theorem d_L_law_108 : decode b_L_law 108 = .ok (.invokevirtual 218, 3) := by decide +kernel
theorem d_L_law_111 : decode b_L_law 111 = .ok (.iconst 2, 1) := by decide +kernel
theorem d_L_law_112 : decode b_L_law 112 = .ok (.aload_n 0, 1) := by decide +kernel
theorem d_L_law_113 : decode b_L_law 113 = .ok (.iconst 1, 1) := by decide +kernel
theorem d_L_law_114 : decode b_L_law 114 = .ok (.iload 6, 2) := by decide +kernel
theorem d_L_law_116 : decode b_L_law 116 = .ok (.iadd, 1) := by decide +kernel
theorem d_L_law_117 : decode b_L_law 117 = .ok (.invokestatic 203, 3) := by decide +kernel
theorem d_L_law_120 : decode b_L_law 120 = .ok (.bipush 13, 2) := by decide +kernel
theorem d_L_law_122 : decode b_L_law 122 = .ok (.invokestatic 175, 3) := by decide +kernel
theorem d_L_law_125 : decode b_L_law 125 = .ok (.iadd, 1) := by decide +kernel
theorem d_L_law_126 : decode b_L_law 126 = .ok (.invokevirtual 214, 3) := by decide +kernel
theorem d_L_law_129 : decode b_L_law 129 = .ok (.pop, 1) := by decide +kernel
theorem d_L_law_130 : decode b_L_law 130 = .ok (.iinc 6 1, 3) := by decide +kernel
theorem d_L_law_133 : decode b_L_law 133 = .ok (.goto (-36), 3) := by decide +kernel
theorem d_L_law_136 : decode b_L_law 136 = .ok (.aload 4, 2) := by decide +kernel
theorem d_L_law_138 : decode b_L_law 138 = .ok (.ldc 226, 2) := by decide +kernel
theorem d_L_law_140 : decode b_L_law 140 = .ok (.invokevirtual 223, 3) := by decide +kernel
theorem d_L_law_143 : decode b_L_law 143 = .ok (.iconst 1, 1) := by decide +kernel
theorem d_L_law_144 : decode b_L_law 144 = .ok (.iload_n 3, 1) := by decide +kernel
theorem d_L_law_145 : decode b_L_law 145 = .ok (.iconst 5, 1) := by decide +kernel
theorem d_L_law_146 : decode b_L_law 146 = .ok (.ishr, 1) := by decide +kernel
theorem d_L_law_147 : decode b_L_law 147 = .ok (.iconst 4, 1) := by decide +kernel
theorem d_L_law_148 : decode b_L_law 148 = .ok (.invokestatic 175, 3) := by decide +kernel
theorem d_L_law_151 : decode b_L_law 151 = .ok (.iadd, 1) := by decide +kernel
theorem d_L_law_152 : decode b_L_law 152 = .ok (.invokevirtual 214, 3) := by decide +kernel
theorem d_L_law_155 : decode b_L_law 155 = .ok (.bipush 59, 2) := by decide +kernel
theorem d_L_law_157 : decode b_L_law 157 = .ok (.invokevirtual 218, 3) := by decide +kernel
theorem d_L_law_160 : decode b_L_law 160 = .ok (.pop, 1) := by decide +kernel
theorem d_L_law_161 : decode b_L_law 161 = .ok (.aload_n 1, 1) := by decide +kernel
theorem d_L_law_162 : decode b_L_law 162 = .ok (.aload_n 2, 1) := by decide +kernel
theorem d_L_law_163 : decode b_L_law 163 = .ok (.aload 4, 2) := by decide +kernel
theorem d_L_law_165 : decode b_L_law 165 = .ok (.invokevirtual 228, 3) := by decide +kernel
theorem d_L_law_168 : decode b_L_law 168 = .ok (.invokestatic 232, 3) := by decide +kernel
theorem d_L_law_171 : decode b_L_law 171 = .ok (.aload_n 1, 1) := by decide +kernel
theorem d_L_law_172 : decode b_L_law 172 = .ok (.aload_n 1, 1) := by decide +kernel
theorem d_L_law_173 : decode b_L_law 173 = .ok (.aload_n 2, 1) := by decide +kernel
theorem d_L_law_174 : decode b_L_law 174 = .ok (.invokestatic 236, 3) := by decide +kernel
theorem d_L_law_177 : decode b_L_law 177 = .ok (.invokevirtual 240, 3) := by decide +kernel
theorem d_L_law_180 : decode b_L_law 180 = .ok (.iload 5, 2) := by decide +kernel
theorem d_L_law_182 : decode b_L_law 182 = .ok (.if_icmp .ne 10, 3) := by decide +kernel
theorem d_L_law_185 : decode b_L_law 185 = .ok (.aload_n 1, 1) := by decide +kernel
theorem d_L_law_186 : decode b_L_law 186 = .ok (.invokevirtual 243, 3) := by decide +kernel
theorem d_L_law_189 : decode b_L_law 189 = .ok (.ifCond .eq 5, 3) := by decide +kernel
theorem d_L_law_192 : decode b_L_law 192 = .ok (.iconst 0, 1) := by decide +kernel
theorem d_L_law_193 : decode b_L_law 193 = .ok (.ireturn, 1) := by decide +kernel
theorem d_L_law_194 : decode b_L_law 194 = .ok (.iconst 0, 1) := by decide +kernel
theorem d_L_law_195 : decode b_L_law 195 = .ok (.istore 6, 2) := by decide +kernel
theorem d_L_law_197 : decode b_L_law 197 = .ok (.iload 6, 2) := by decide +kernel
theorem d_L_law_199 : decode b_L_law 199 = .ok (.bipush 42, 2) := by decide +kernel
theorem d_L_law_201 : decode b_L_law 201 = .ok (.if_icmp .ge 166, 3) := by decide +kernel
theorem d_L_law_204 : decode b_L_law 204 = .ok (.aload_n 0, 1) := by decide +kernel
theorem d_L_law_205 : decode b_L_law 205 = .ok (.bipush 8, 2) := by decide +kernel
theorem d_L_law_207 : decode b_L_law 207 = .ok (.iload 6, 2) := by decide +kernel
theorem d_L_law_209 : decode b_L_law 209 = .ok (.bipush 28, 2) := by decide +kernel
theorem d_L_law_211 : decode b_L_law 211 = .ok (.irem, 1) := by decide +kernel
theorem d_L_law_212 : decode b_L_law 212 = .ok (.iadd, 1) := by decide +kernel
theorem d_L_law_213 : decode b_L_law 213 = .ok (.invokestatic 203, 3) := by decide +kernel
theorem d_L_law_216 : decode b_L_law 216 = .ok (.iload 6, 2) := by decide +kernel
theorem d_L_law_218 : decode b_L_law 218 = .ok (.bipush 28, 2) := by decide +kernel
theorem d_L_law_220 : decode b_L_law 220 = .ok (.idiv, 1) := by decide +kernel
theorem d_L_law_221 : decode b_L_law 221 = .ok (.iconst 2, 1) := by decide +kernel
theorem d_L_law_222 : decode b_L_law 222 = .ok (.imul, 1) := by decide +kernel
theorem d_L_law_223 : decode b_L_law 223 = .ok (.ishr, 1) := by decide +kernel
theorem d_L_law_224 : decode b_L_law 224 = .ok (.istore 7, 2) := by decide +kernel
theorem d_L_law_226 : decode b_L_law 226 = .ok (.iload 6, 2) := by decide +kernel
theorem d_L_law_228 : decode b_L_law 228 = .ok (.iconst 2, 1) := by decide +kernel
theorem d_L_law_229 : decode b_L_law 229 = .ok (.irem, 1) := by decide +kernel
theorem d_L_law_230 : decode b_L_law 230 = .ok (.ifCond .ne 12, 3) := by decide +kernel
theorem d_L_law_233 : decode b_L_law 233 = .ok (.aload_n 1, 1) := by decide +kernel
theorem d_L_law_234 : decode b_L_law 234 = .ok (.invokestatic 246, 3) := by decide +kernel
theorem d_L_law_237 : decode b_L_law 237 = .ok (.ifCond .ne 5, 3) := by decide +kernel
theorem d_L_law_240 : decode b_L_law 240 = .ok (.iconst 0, 1) := by decide +kernel
theorem d_L_law_241 : decode b_L_law 241 = .ok (.ireturn, 1) := by decide +kernel
theorem d_L_law_242 : decode b_L_law 242 = .ok (.aload_n 1, 1) := by decide +kernel
theorem d_L_law_243 : decode b_L_law 243 = .ok (.invokestatic 250, 3) := by decide +kernel
theorem d_L_law_246 : decode b_L_law 246 = .ok (.astore 8, 2) := by decide +kernel
theorem d_L_law_248 : decode b_L_law 248 = .ok (.aload_n 1, 1) := by decide +kernel
theorem d_L_law_249 : decode b_L_law 249 = .ok (.invokevirtual 243, 3) := by decide +kernel
theorem d_L_law_252 : decode b_L_law 252 = .ok (.istore 9, 2) := by decide +kernel
theorem d_L_law_254 : decode b_L_law 254 = .ok (.aload_n 1, 1) := by decide +kernel
theorem d_L_law_255 : decode b_L_law 255 = .ok (.iload 7, 2) := by decide +kernel
theorem d_L_law_257 : decode b_L_law 257 = .ok (.invokestatic 254, 3) := by decide +kernel
theorem d_L_law_260 : decode b_L_law 260 = .ok (.ifCond .ne 5, 3) := by decide +kernel
theorem d_L_law_263 : decode b_L_law 263 = .ok (.iconst 0, 1) := by decide +kernel
theorem d_L_law_264 : decode b_L_law 264 = .ok (.ireturn, 1) := by decide +kernel
theorem d_L_law_265 : decode b_L_law 265 = .ok (.aload_n 1, 1) := by decide +kernel
theorem d_L_law_266 : decode b_L_law 266 = .ok (.invokestatic 250, 3) := by decide +kernel
theorem d_L_law_269 : decode b_L_law 269 = .ok (.astore 10, 2) := by decide +kernel
theorem d_L_law_271 : decode b_L_law 271 = .ok (.aload_n 1, 1) := by decide +kernel
theorem d_L_law_272 : decode b_L_law 272 = .ok (.invokevirtual 243, 3) := by decide +kernel
theorem d_L_law_275 : decode b_L_law 275 = .ok (.iload 9, 2) := by decide +kernel
theorem d_L_law_277 : decode b_L_law 277 = .ok (.iconst 1, 1) := by decide +kernel
theorem d_L_law_278 : decode b_L_law 278 = .ok (.iadd, 1) := by decide +kernel
theorem d_L_law_279 : decode b_L_law 279 = .ok (.if_icmp .ne 54, 3) := by decide +kernel
theorem d_L_law_282 : decode b_L_law 282 = .ok (.iload 6, 2) := by decide +kernel
theorem d_L_law_284 : decode b_L_law 284 = .ok (.iconst 3, 1) := by decide +kernel
theorem d_L_law_285 : decode b_L_law 285 = .ok (.irem, 1) := by decide +kernel
theorem d_L_law_286 : decode b_L_law 286 = .ok (.ifCond .ne 47, 3) := by decide +kernel
theorem d_L_law_289 : decode b_L_law 289 = .ok (.aload_n 1, 1) := by decide +kernel
theorem d_L_law_290 : decode b_L_law 290 = .ok (.invokevirtual 258, 3) := by decide +kernel
theorem d_L_law_293 : decode b_L_law 293 = .ok (.iload 9, 2) := by decide +kernel
theorem d_L_law_295 : decode b_L_law 295 = .ok (.if_icmp .ne 36, 3) := by decide +kernel
theorem d_L_law_298 : decode b_L_law 298 = .ok (.aload_n 1, 1) := by decide +kernel
theorem d_L_law_299 : decode b_L_law 299 = .ok (.invokestatic 250, 3) := by decide +kernel
theorem d_L_law_302 : decode b_L_law 302 = .ok (.aload 8, 2) := by decide +kernel
theorem d_L_law_304 : decode b_L_law 304 = .ok (.invokestatic 261, 3) := by decide +kernel
theorem d_L_law_307 : decode b_L_law 307 = .ok (.ifCond .eq 24, 3) := by decide +kernel
theorem d_L_law_310 : decode b_L_law 310 = .ok (.aload_n 1, 1) := by decide +kernel
theorem d_L_law_311 : decode b_L_law 311 = .ok (.iload 7, 2) := by decide +kernel
theorem d_L_law_313 : decode b_L_law 313 = .ok (.invokestatic 254, 3) := by decide +kernel
theorem d_L_law_316 : decode b_L_law 316 = .ok (.ifCond .eq 15, 3) := by decide +kernel
theorem d_L_law_319 : decode b_L_law 319 = .ok (.aload_n 1, 1) := by decide +kernel
theorem d_L_law_320 : decode b_L_law 320 = .ok (.invokestatic 250, 3) := by decide +kernel
theorem d_L_law_323 : decode b_L_law 323 = .ok (.aload 10, 2) := by decide +kernel
theorem d_L_law_325 : decode b_L_law 325 = .ok (.invokestatic 261, 3) := by decide +kernel
theorem d_L_law_328 : decode b_L_law 328 = .ok (.ifCond .ne 5, 3) := by decide +kernel
theorem d_L_law_331 : decode b_L_law 331 = .ok (.iconst 0, 1) := by decide +kernel
theorem d_L_law_332 : decode b_L_law 332 = .ok (.ireturn, 1) := by decide +kernel
theorem d_L_law_333 : decode b_L_law 333 = .ok (.aload_n 1, 1) := by decide +kernel
theorem d_L_law_334 : decode b_L_law 334 = .ok (.invokevirtual 243, 3) := by decide +kernel
theorem d_L_law_337 : decode b_L_law 337 = .ok (.iload 9, 2) := by decide +kernel
theorem d_L_law_339 : decode b_L_law 339 = .ok (.if_icmp .ne 22, 3) := by decide +kernel
theorem d_L_law_342 : decode b_L_law 342 = .ok (.iload 9, 2) := by decide +kernel
theorem d_L_law_344 : decode b_L_law 344 = .ok (.bipush 8, 2) := by decide +kernel
theorem d_L_law_346 : decode b_L_law 346 = .ok (.if_icmp .ge 15, 3) := by decide +kernel
theorem d_L_law_349 : decode b_L_law 349 = .ok (.aload 8, 2) := by decide +kernel
theorem d_L_law_351 : decode b_L_law 351 = .ok (.aload 10, 2) := by decide +kernel
theorem d_L_law_353 : decode b_L_law 353 = .ok (.invokestatic 261, 3) := by decide +kernel
theorem d_L_law_356 : decode b_L_law 356 = .ok (.ifCond .ne 5, 3) := by decide +kernel
theorem d_L_law_359 : decode b_L_law 359 = .ok (.iconst 0, 1) := by decide +kernel
theorem d_L_law_360 : decode b_L_law 360 = .ok (.ireturn, 1) := by decide +kernel
theorem d_L_law_361 : decode b_L_law 361 = .ok (.iinc 6 1, 3) := by decide +kernel
theorem d_L_law_364 : decode b_L_law 364 = .ok (.goto (-167), 3) := by decide +kernel
theorem d_L_law_367 : decode b_L_law 367 = .ok (.aload_n 1, 1) := by decide +kernel
theorem d_L_law_368 : decode b_L_law 368 = .ok (.invokevirtual 265, 3) := by decide +kernel
theorem d_L_law_371 : decode b_L_law 371 = .ok (.aload_n 1, 1) := by decide +kernel
theorem d_L_law_372 : decode b_L_law 372 = .ok (.invokestatic 250, 3) := by decide +kernel
theorem d_L_law_375 : decode b_L_law 375 = .ok (.astore 6, 2) := by decide +kernel
theorem d_L_law_377 : decode b_L_law 377 = .ok (.iconst 0, 1) := by decide +kernel
theorem d_L_law_378 : decode b_L_law 378 = .ok (.istore 7, 2) := by decide +kernel
theorem d_L_law_380 : decode b_L_law 380 = .ok (.iload 7, 2) := by decide +kernel
theorem d_L_law_382 : decode b_L_law 382 = .ok (.iconst 5, 1) := by decide +kernel
theorem d_L_law_383 : decode b_L_law 383 = .ok (.if_icmp .ge 27, 3) := by decide +kernel
theorem d_L_law_386 : decode b_L_law 386 = .ok (.aload_n 1, 1) := by decide +kernel
theorem d_L_law_387 : decode b_L_law 387 = .ok (.aload_n 0, 1) := by decide +kernel
theorem d_L_law_388 : decode b_L_law 388 = .ok (.bipush 36, 2) := by decide +kernel
theorem d_L_law_390 : decode b_L_law 390 = .ok (.iload 7, 2) := by decide +kernel
theorem d_L_law_392 : decode b_L_law 392 = .ok (.iadd, 1) := by decide +kernel
theorem d_L_law_393 : decode b_L_law 393 = .ok (.invokestatic 203, 3) := by decide +kernel
theorem d_L_law_396 : decode b_L_law 396 = .ok (.invokestatic 254, 3) := by decide +kernel
theorem d_L_law_399 : decode b_L_law 399 = .ok (.ifCond .ne 5, 3) := by decide +kernel
theorem d_L_law_402 : decode b_L_law 402 = .ok (.iconst 0, 1) := by decide +kernel
theorem d_L_law_403 : decode b_L_law 403 = .ok (.ireturn, 1) := by decide +kernel
theorem d_L_law_404 : decode b_L_law 404 = .ok (.iinc 7 1, 3) := by decide +kernel
theorem d_L_law_407 : decode b_L_law 407 = .ok (.goto (-27), 3) := by decide +kernel
theorem d_L_law_410 : decode b_L_law 410 = .ok (.aload_n 1, 1) := by decide +kernel
theorem d_L_law_411 : decode b_L_law 411 = .ok (.invokevirtual 268, 3) := by decide +kernel
theorem d_L_law_414 : decode b_L_law 414 = .ok (.aload 6, 2) := by decide +kernel
theorem d_L_law_416 : decode b_L_law 416 = .ok (.iconst 0, 1) := by decide +kernel
theorem d_L_law_417 : decode b_L_law 417 = .ok (.iaload, 1) := by decide +kernel
theorem d_L_law_418 : decode b_L_law 418 = .ok (.if_icmp .ne 26, 3) := by decide +kernel
theorem d_L_law_421 : decode b_L_law 421 = .ok (.aload_n 1, 1) := by decide +kernel
theorem d_L_law_422 : decode b_L_law 422 = .ok (.invokestatic 250, 3) := by decide +kernel
theorem d_L_law_425 : decode b_L_law 425 = .ok (.aload 6, 2) := by decide +kernel
theorem d_L_law_427 : decode b_L_law 427 = .ok (.invokestatic 261, 3) := by decide +kernel
theorem d_L_law_430 : decode b_L_law 430 = .ok (.ifCond .eq 14, 3) := by decide +kernel
theorem d_L_law_433 : decode b_L_law 433 = .ok (.aload_n 1, 1) := by decide +kernel
theorem d_L_law_434 : decode b_L_law 434 = .ok (.invokevirtual 243, 3) := by decide +kernel
theorem d_L_law_437 : decode b_L_law 437 = .ok (.ifCond .ne 7, 3) := by decide +kernel
theorem d_L_law_440 : decode b_L_law 440 = .ok (.iconst 1, 1) := by decide +kernel
theorem d_L_law_441 : decode b_L_law 441 = .ok (.goto 4, 3) := by decide +kernel
theorem d_L_law_444 : decode b_L_law 444 = .ok (.iconst 0, 1) := by decide +kernel
theorem d_L_law_445 : decode b_L_law 445 = .ok (.ireturn, 1) := by decide +kernel
section KI2
variable {ρ : Type} {p : Program} {l : Launch} {e : Env} {R : Room} {s : State} {m : MethodId} {args : Array Value} {below : List Frame} {meth : Method} {c : Code} {w : Wc} {nL k n : Nat} {Qf : ρ → State → Prop} {cc : ByteArray} {own : String}
theorem K_iald (g : Gd p s m args meth c w nL cc own) {pc : Nat} {L : List (Nat × Value)} {st : List Value} {M : Mem} {o : Option ρ} {q nn : Nat} {i : Int32} (hq : q ∈ wL w) (hk : (wZ w q).1 = 20) (hn : (wZ w q).2.1 = nn) (hi : inB i nn = true) (d : decode cc pc = .ok (.iaload, 1)) (kk : Go p l e R s m args below meth c w nL k n Qf o (pc + 1) L (.int (M q i.toNatClampNeg) :: st) M) : Go p l e R s m args below meth c w nL k n Qf o pc L (.int i :: .ref (wad w q) :: st) M := by
  have h := G_iald g (o := o) hq hk hn d kk
  rwa [grd_t hi] at h
end KI2
theorem b2i1 : ¬ (1 : Int32) = 0 := by decide
set_option maxHeartbeats 4000000 in
set_option maxRecDepth 100000 in
theorem law_333 (l : Launch) {N rr : Nat} {V : Nat → Mem → Row → Nat → Option Row → Prop} {lst : Row → List Int32} {actR : Row → Int32 → Row} (hP : PK N rr V lst actR) (hN : 400 < N) {p : Program} {e : Env} {s : State} {m : MethodId} {args : Array Value} {below : List Frame} {meth : Method} {c : Code} {w : Wc} (had : Ad w) (hao : AO s) (hsz : s.heap.size = wlo w) (hG : ∀ j z, j ≤ 900 → Gd p s m args meth c (wg w j z) 11 b_L_law "KiteLoggerLaw") {b Lx : Nat} {xs : Nat → Int32} (hX : LX s w b Lx xs) {Qf : Unit → State → Prop} (hend : ∀ j z n L M, j < 900 → n ≤ 1000000 → Go p l e room_1 s m args below meth c (wg w j z) 11 j n Qf (some ()) 445 L [.int 1] M) {k i j n q1 q2 ch c3 : Nat} {z : Shp} {M : Mem} {g1 g2 : Row} {sn : Option Row} (hj : 145 < j) (hj2 : j < 890) (hn : n ≤ 1000000) (hw : WK (wg w j z) rr) (hV : V i M g2 c3 sn) (hc : ch ≤ 8) (h1 : AR z M j q1 (lst g1)) (h2 : AR z M j q2 (lst g2)) (hl : (lst g1).length ≤ 400) (hs : c3 = ch → ch < 8 → lst g2 = lst g1) (h361 : Go p l e room_1 s m args below meth c (wg w j z) 11 j n Qf (some ()) 361 [(0, .ref b), (1, .ref (wad w 0)), (6, .int (nI k))] [] M) : Go p l e room_1 s m args below meth c (wg w j z) 11 j n Qf (some ()) 333 [(0, .ref b), (1, .ref (wad w 0)), (6, .int (nI k)), (8, .ref (wad w q1)), (9, .int (nI ch)), (10, .ref (wad w q2))] [] M := by
  have g := hG j z (by omega)
  have hc3 := (hP.cnt hV).2
  refine G_aload_n g (pc := 333) 1 d_L_law_333 rfl rfl ?_
  refine G_xcnt g hP hV (by omega) hw hn (Nat.le_of_ble_eq_true rfl) d_L_law_334 ?_
  refine G_iload g (pc := 337) 4 d_L_law_337 rfl ?_
  refine H_icmpne g (pc := 339) 361 d_L_law_339 (by decide) (fun _ => G_sub [0, 1, 2] _ rfl h361) (fun he => ?_)
  have he := (nI_eq (by omega) (by omega)).mp he
  refine G_iload g (pc := 342) 4 d_L_law_342 rfl ?_
  refine G_bipush g (pc := 344) (8 : Int32) d_L_law_344 rfl ?_
  by_cases h8 : ch < 8
  · skip
    refine K_icmp_ge_F g (pc := 346) 361 ((Int32.not_le.mpr (show nI ch < nI 8 from nI_lt h8 (by decide)))) d_L_law_346 (by decide) ?_
    refine G_aload g (pc := 349) 3 d_L_law_349 rfl ?_
    refine G_aload g (pc := 351) 5 d_L_law_351 rfl ?_
    refine G_xalk g hN (x := lst g1) hl h1 (by rw [← hs he h8]; exact h2) (by omega) hw hn (Nat.le_of_ble_eq_true rfl) d_L_law_353 ?_
    refine K_if_ne_T g (pc := 356) 361 (b2i1) d_L_law_356 (by decide) ?_
    exact G_sub [0, 1, 2] _ rfl h361
  · skip
    refine K_icmp_ge_T g (pc := 346) 361 ((show nI 8 ≤ nI ch from nI_le (by omega) (by omega))) d_L_law_346 (by decide) ?_
    exact G_sub [0, 1, 2] _ rfl h361
set_option maxHeartbeats 4000000 in
set_option maxRecDepth 100000 in
theorem law_242 (l : Launch) {N rr : Nat} {V : Nat → Mem → Row → Nat → Option Row → Prop} {lst : Row → List Int32} {actR : Row → Int32 → Row} (hP : PK N rr V lst actR) (hN : 400 < N) {p : Program} {e : Env} {s : State} {m : MethodId} {args : Array Value} {below : List Frame} {meth : Method} {c : Code} {w : Wc} (had : Ad w) (hao : AO s) (hsz : s.heap.size = wlo w) (hG : ∀ j z, j ≤ 900 → Gd p s m args meth c (wg w j z) 11 b_L_law "KiteLoggerLaw") {b Lx : Nat} {xs : Nat → Int32} (hX : LX s w b Lx xs) {Qf : Unit → State → Prop} (hend : ∀ j z n L M, j < 900 → n ≤ 1000000 → Go p l e room_1 s m args below meth c (wg w j z) 11 j n Qf (some ()) 445 L [.int 1] M) {k i j n ch : Nat} {z : Shp} {M : Mem} {gr : Row} {sn : Option Row} {u : Int32} (hi : i + 2 ≤ 100) (hj : 145 < j) (hj2 : j < 880) (hn : n ≤ 900000) (hw : WK (wg w j z) rr) (hV : V i M gr ch sn) (h361 : ∀ (j2 : Nat) (z2 : Shp) (n2 : Nat) (M2 : Mem) (g2 : Row) (c2 : Nat), 145 < j2 → j2 ≤ j + 4 → n2 ≤ n + 1600 → WK (wg w j2 z2) rr → V (i + 2) M2 g2 c2 sn → Go p l e room_1 s m args below meth c (wg w j2 z2) 11 j2 n2 Qf (some ()) 361 [(0, .ref b), (1, .ref (wad w 0)), (6, .int (nI k))] [] M2) : Go p l e room_1 s m args below meth c (wg w j z) 11 j n Qf (some ()) 242 [(0, .ref b), (1, .ref (wad w 0)), (6, .int (nI k)), (7, .int u)] [] M := by
  have g := hG j z (by omega)
  have hl := (hP.len hV).2
  have hc8 := (hP.cnt hV).2
  refine G_aload_n g (pc := 242) 1 d_L_law_242 rfl rfl ?_
  refine G_xall g had hao hP hV (by omega) (by omega) hw hsz (by omega) (Nat.le_of_ble_eq_true rfl) d_L_law_243 ?_
  have g1 := hG (j + 1) (zfr z j 20 (lst gr).length) (by omega)
  have hw1 : WK (wg w (j + 1) (zfr z j 20 (lst gr).length)) rr := hw.wg (by omega) (fun p hp => if_neg (by omega))
  have hV1 := hP.loc hV (M2 := setR M j (fun i => (lst gr).getD i 0)) (fun p hp => setR_ne (by omega))
  have A1 : AR (zfr z j 20 (lst gr).length) (setR M j (fun i => (lst gr).getD i 0)) (j + 1) j (lst gr) := AR.made (by omega)
  generalize hz1 : zfr z j 20 (lst gr).length = z1 at g1 hw1 A1 ⊢
  generalize hM1 : setR M j (fun i => (lst gr).getD i 0) = M1 at hV1 A1 ⊢
  refine G_astore g1 (pc := 246) _ d_L_law_246 (Nat.le_of_ble_eq_true rfl) rfl ?_
  refine G_aload_n g1 (pc := 248) 2 d_L_law_248 rfl rfl ?_
  refine G_xcnt g1 hP hV1 (by omega) hw1 (by omega) (Nat.le_of_ble_eq_true rfl) d_L_law_249 ?_
  refine G_istore g1 (pc := 252) _ d_L_law_252 (Nat.le_of_ble_eq_true rfl) rfl ?_
  refine G_aload_n g1 (pc := 254) 3 d_L_law_254 rfl rfl ?_
  refine G_iload g1 (pc := 255) 5 d_L_law_255 rfl ?_
  obtain ⟨M2, c2, ha, hV2, hH2, hs2, hu2⟩ := hP.act hV1 (by omega) u
  refine G_xact g1 ha (by omega) hw1 (by omega) (Nat.le_of_ble_eq_true rfl) d_L_law_257 ?_
  refine K_if_ne_T g1 (pc := 260) 265 (b2i1) d_L_law_260 (by decide) ?_
  refine G_aload_n g1 (pc := 265) 3 d_L_law_265 rfl rfl ?_
  have hl2 := (hP.len hV2).2
  refine G_xall g1 had hao hP hV2 (by omega) (by omega) hw1 hsz (by omega) (Nat.le_of_ble_eq_true rfl) d_L_law_266 ?_
  have g2 := hG (j + 1 + 1) (zfr z1 (j + 1) 20 (lst (actR gr u)).length) (by omega)
  have hw2 : WK (wg w (j + 1 + 1) (zfr z1 (j + 1) 20 (lst (actR gr u)).length)) rr := hw1.wg (by omega) (fun p hp => if_neg (by omega))
  have hV2b := hP.loc hV2 (M2 := setR M2 (j + 1) (fun i => (lst (actR gr u)).getD i 0)) (fun p hp => setR_ne (by omega))
  have hlow : ∀ p, p < 145 → setR M2 (j + 1) (fun i => (lst (actR gr u)).getD i 0) p = M2 p := fun p hp => setR_ne (by omega)
  have A1b : AR (zfr z1 (j + 1) 20 (lst (actR gr u)).length) (setR M2 (j + 1) (fun i => (lst (actR gr u)).getD i 0)) (j + 1 + 1) j (lst gr) := (A1.keep hH2).grow
  have A2b : AR (zfr z1 (j + 1) 20 (lst (actR gr u)).length) (setR M2 (j + 1) (fun i => (lst (actR gr u)).getD i 0)) (j + 1 + 1) (j + 1) (lst (actR gr u)) := AR.made (by omega)
  generalize hz2 : zfr z1 (j + 1) 20 (lst (actR gr u)).length = z2 at g2 hw2 A1b A2b ⊢
  generalize hM2b : setR M2 (j + 1) (fun i => (lst (actR gr u)).getD i 0) = M2b at hV2b A1b A2b hlow ⊢
  refine G_astore g2 (pc := 269) _ d_L_law_269 (Nat.le_of_ble_eq_true rfl) rfl ?_
  refine G_aload_n g2 (pc := 271) 4 d_L_law_271 rfl rfl ?_
  refine G_xcnt g2 hP hV2b (by omega) hw2 (by omega) (Nat.le_of_ble_eq_true rfl) d_L_law_272 ?_
  refine G_iload g2 (pc := 275) 1 d_L_law_275 rfl ?_
  refine G_iconst g2 (pc := 277) (1 : Int32) d_L_law_277 rfl ?_
  refine G_iadd g2 (pc := 278) d_L_law_278 ?_
  refine Go.top (y := nI (ch + 1)) (nI_add ch 1) ?_
  have hc2 := (hP.cnt hV2b).2
  refine H_icmpne g2 (pc := 279) 333 d_L_law_279 (by decide) (fun _ => G_sub [3, 4, 5, 2, 1, 0] _ rfl (law_333 l hP hN had hao hsz hG hX hend (i := i + 1) (k := k) (g1 := gr) (g2 := actR gr u) (by omega) (by omega) (by omega) hw2 hV2b hc8 A1b A2b hl (hs2) (h361 _ _ _ _ _ _ (by omega) (by omega) (by omega) hw2 (hP.up hV2b)))) (fun he => ?_)
  have he := (nI_eq (by omega) (by omega)).mp he
  refine G_iload g2 (pc := 282) 5 d_L_law_282 rfl ?_
  refine G_iconst g2 (pc := 284) (3 : Int32) d_L_law_284 rfl ?_
  refine G_iremK g2 (pc := 285) (by decide) d_L_law_285 ?_
  refine H_ifne g2 (pc := 286) 333 d_L_law_286 (by decide) (fun _ => G_sub [3, 4, 5, 2, 1, 0] _ rfl (law_333 l hP hN had hao hsz hG hX hend (i := i + 1) (k := k) (g1 := gr) (g2 := actR gr u) (by omega) (by omega) (by omega) hw2 hV2b hc8 A1b A2b hl (fun h9 => absurd h9 (by omega)) (h361 _ _ _ _ _ _ (by omega) (by omega) (by omega) hw2 (hP.up hV2b)))) (fun _ => ?_)
  refine G_aload_n g2 (pc := 289) 4 d_L_law_289 rfl rfl ?_
  obtain ⟨M3, hu3, hV3, hH3⟩ := hu2 he M2b hlow
  refine G_xundo g2 hu3 (by omega) hw2 (by omega) (Nat.le_of_ble_eq_true rfl) d_L_law_290 ?_
  refine G_iload g2 (pc := 293) 1 d_L_law_293 rfl ?_
  refine K_icmp_ne_F g2 (pc := 295) 331 (rfl) d_L_law_295 (by decide) ?_
  refine G_aload_n g2 (pc := 298) 4 d_L_law_298 rfl rfl ?_
  refine G_xall g2 had hao hP hV3 (by omega) (by omega) hw2 hsz (by omega) (Nat.le_of_ble_eq_true rfl) d_L_law_299 ?_
  have g3 := hG (j + 1 + 1 + 1) (zfr z2 (j + 1 + 1) 20 (lst gr).length) (by omega)
  have hw3 : WK (wg w (j + 1 + 1 + 1) (zfr z2 (j + 1 + 1) 20 (lst gr).length)) rr := hw2.wg (by omega) (fun p hp => if_neg (by omega))
  have hV3b := hP.loc hV3 (M2 := setR M3 (j + 1 + 1) (fun i => (lst gr).getD i 0)) (fun p hp => setR_ne (by omega))
  have A1c : AR (zfr z2 (j + 1 + 1) 20 (lst gr).length) (setR M3 (j + 1 + 1) (fun i => (lst gr).getD i 0)) (j + 1 + 1 + 1) j (lst gr) := (A1b.keep hH3).grow
  have A2c : AR (zfr z2 (j + 1 + 1) 20 (lst gr).length) (setR M3 (j + 1 + 1) (fun i => (lst gr).getD i 0)) (j + 1 + 1 + 1) (j + 1) (lst (actR gr u)) := (A2b.keep hH3).grow
  have A3c : AR (zfr z2 (j + 1 + 1) 20 (lst gr).length) (setR M3 (j + 1 + 1) (fun i => (lst gr).getD i 0)) (j + 1 + 1 + 1) (j + 1 + 1) (lst gr) := AR.made (by omega)
  generalize hz3 : zfr z2 (j + 1 + 1) 20 (lst gr).length = z3 at g3 hw3 A1c A2c A3c ⊢
  generalize hM3b : setR M3 (j + 1 + 1) (fun i => (lst gr).getD i 0) = M3b at hV3b A1c A2c A3c ⊢
  refine G_aload g3 (pc := 302) 2 d_L_law_302 rfl ?_
  refine G_xalk g3 hN (x := lst gr) hl A3c A1c (by omega) hw3 (by omega) (Nat.le_of_ble_eq_true rfl) d_L_law_304 ?_
  refine K_if_eq_F g3 (pc := 307) 331 (b2i1) d_L_law_307 (by decide) ?_
  refine G_aload_n g3 (pc := 310) 4 d_L_law_310 rfl rfl ?_
  refine G_iload g3 (pc := 311) 6 d_L_law_311 rfl ?_
  obtain ⟨M4, c4, ha4, hV4, hH4, hs4, hu4⟩ := hP.act hV3b (by omega) u
  refine G_xact g3 ha4 (by omega) hw3 (by omega) (Nat.le_of_ble_eq_true rfl) d_L_law_313 ?_
  refine K_if_eq_F g3 (pc := 316) 331 (b2i1) d_L_law_316 (by decide) ?_
  refine G_aload_n g3 (pc := 319) 4 d_L_law_319 rfl rfl ?_
  refine G_xall g3 had hao hP hV4 (by omega) (by omega) hw3 hsz (by omega) (Nat.le_of_ble_eq_true rfl) d_L_law_320 ?_
  have g4 := hG (j + 1 + 1 + 1 + 1) (zfr z3 (j + 1 + 1 + 1) 20 (lst (actR gr u)).length) (by omega)
  have hw4 : WK (wg w (j + 1 + 1 + 1 + 1) (zfr z3 (j + 1 + 1 + 1) 20 (lst (actR gr u)).length)) rr := hw3.wg (by omega) (fun p hp => if_neg (by omega))
  have hV4b := hP.loc hV4 (M2 := setR M4 (j + 1 + 1 + 1) (fun i => (lst (actR gr u)).getD i 0)) (fun p hp => setR_ne (by omega))
  have A1d : AR (zfr z3 (j + 1 + 1 + 1) 20 (lst (actR gr u)).length) (setR M4 (j + 1 + 1 + 1) (fun i => (lst (actR gr u)).getD i 0)) (j + 1 + 1 + 1 + 1) j (lst gr) := (A1c.keep hH4).grow
  have A2d : AR (zfr z3 (j + 1 + 1 + 1) 20 (lst (actR gr u)).length) (setR M4 (j + 1 + 1 + 1) (fun i => (lst (actR gr u)).getD i 0)) (j + 1 + 1 + 1 + 1) (j + 1) (lst (actR gr u)) := (A2c.keep hH4).grow
  have A4d : AR (zfr z3 (j + 1 + 1 + 1) 20 (lst (actR gr u)).length) (setR M4 (j + 1 + 1 + 1) (fun i => (lst (actR gr u)).getD i 0)) (j + 1 + 1 + 1 + 1) (j + 1 + 1 + 1) (lst (actR gr u)) := AR.made (by omega)
  generalize hz4 : zfr z3 (j + 1 + 1 + 1) 20 (lst (actR gr u)).length = z4 at g4 hw4 A1d A2d A4d ⊢
  generalize hM4b : setR M4 (j + 1 + 1 + 1) (fun i => (lst (actR gr u)).getD i 0) = M4b at hV4b A1d A2d A4d ⊢
  refine G_aload g4 (pc := 323) 0 d_L_law_323 rfl ?_
  refine G_xalk g4 hN (x := lst (actR gr u)) hl2 A4d A2d (by omega) hw4 (by omega) (Nat.le_of_ble_eq_true rfl) d_L_law_325 ?_
  refine K_if_ne_T g4 (pc := 328) 333 (b2i1) d_L_law_328 (by decide) ?_
  exact G_sub [3, 4, 5, 2, 1, 0] _ rfl (law_333 l hP hN had hao hsz hG hX hend (i := i + 1 + 1) (k := k) (g1 := gr) (g2 := actR gr u) (by omega) (by omega) (by omega) hw4 hV4b hc8 A1d A2d hl hs4 (h361 _ _ _ _ _ _ (by omega) (by omega) (by omega) hw4 hV4b))
