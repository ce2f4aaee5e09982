/-! cases of the law's body -/
def LL (w : Wc) (b ii : Nat) : List (Nat × Value) := [(0, .ref b), (1, .ref (wad w 0)), (2, .ref (wad w 145)), (3, .ref (wad w 156)), (4, .ref (wad w 157)), (5, .int (nI ii))]
theorem d_W_308 : decode code 308 = .ok (.aload_n 1, 1) := by decide +kernel
theorem d_W_309 : decode code 309 = .ok (.aload_n 0, 1) := by decide +kernel
theorem d_W_310 : decode code 310 = .ok (.iload 5, 2) := by decide +kernel
theorem d_W_312 : decode code 312 = .ok (.iconst 1, 1) := by decide +kernel
theorem d_W_313 : decode code 313 = .ok (.iadd, 1) := by decide +kernel
theorem d_W_314 : decode code 314 = .ok (.iaload, 1) := by decide +kernel
theorem d_W_315 : decode code 315 = .ok (.aload_n 0, 1) := by decide +kernel
theorem d_W_316 : decode code 316 = .ok (.iload 5, 2) := by decide +kernel
theorem d_W_318 : decode code 318 = .ok (.iconst 2, 1) := by decide +kernel
theorem d_W_319 : decode code 319 = .ok (.iadd, 1) := by decide +kernel
theorem d_W_320 : decode code 320 = .ok (.iaload, 1) := by decide +kernel
theorem d_W_321 : decode code 321 = .ok (.aload_n 0, 1) := by decide +kernel
theorem d_W_322 : decode code 322 = .ok (.iload 5, 2) := by decide +kernel
theorem d_W_324 : decode code 324 = .ok (.iconst 3, 1) := by decide +kernel
theorem d_W_325 : decode code 325 = .ok (.iadd, 1) := by decide +kernel
theorem d_W_326 : decode code 326 = .ok (.iaload, 1) := by decide +kernel
theorem d_W_327 : decode code 327 = .ok (.aload_n 0, 1) := by decide +kernel
theorem d_W_328 : decode code 328 = .ok (.iload 5, 2) := by decide +kernel
theorem d_W_330 : decode code 330 = .ok (.iconst 4, 1) := by decide +kernel
theorem d_W_331 : decode code 331 = .ok (.iadd, 1) := by decide +kernel
theorem d_W_332 : decode code 332 = .ok (.iaload, 1) := by decide +kernel
theorem d_W_333 : decode code 333 = .ok (.aload_n 0, 1) := by decide +kernel
theorem d_W_334 : decode code 334 = .ok (.iload 5, 2) := by decide +kernel
theorem d_W_336 : decode code 336 = .ok (.iconst 5, 1) := by decide +kernel
theorem d_W_337 : decode code 337 = .ok (.iadd, 1) := by decide +kernel
theorem d_W_338 : decode code 338 = .ok (.iaload, 1) := by decide +kernel
theorem d_W_339 : decode code 339 = .ok (.invokevirtual 95, 3) := by decide +kernel
theorem d_W_342 : decode code 342 = .ok (.aload_n 2, 1) := by decide +kernel
theorem d_W_343 : decode code 343 = .ok (.aload_n 0, 1) := by decide +kernel
theorem d_W_344 : decode code 344 = .ok (.iload 5, 2) := by decide +kernel
theorem d_W_346 : decode code 346 = .ok (.iconst 1, 1) := by decide +kernel
theorem d_W_347 : decode code 347 = .ok (.iadd, 1) := by decide +kernel
theorem d_W_348 : decode code 348 = .ok (.iaload, 1) := by decide +kernel
theorem d_W_349 : decode code 349 = .ok (.aload_n 0, 1) := by decide +kernel
theorem d_W_350 : decode code 350 = .ok (.iload 5, 2) := by decide +kernel
theorem d_W_352 : decode code 352 = .ok (.iconst 2, 1) := by decide +kernel
theorem d_W_353 : decode code 353 = .ok (.iadd, 1) := by decide +kernel
theorem d_W_354 : decode code 354 = .ok (.iaload, 1) := by decide +kernel
theorem d_W_355 : decode code 355 = .ok (.aload_n 0, 1) := by decide +kernel
theorem d_W_356 : decode code 356 = .ok (.iload 5, 2) := by decide +kernel
theorem d_W_358 : decode code 358 = .ok (.iconst 3, 1) := by decide +kernel
theorem d_W_359 : decode code 359 = .ok (.iadd, 1) := by decide +kernel
theorem d_W_360 : decode code 360 = .ok (.iaload, 1) := by decide +kernel
theorem d_W_361 : decode code 361 = .ok (.aload_n 0, 1) := by decide +kernel
theorem d_W_362 : decode code 362 = .ok (.iload 5, 2) := by decide +kernel
theorem d_W_364 : decode code 364 = .ok (.iconst 4, 1) := by decide +kernel
theorem d_W_365 : decode code 365 = .ok (.iadd, 1) := by decide +kernel
theorem d_W_366 : decode code 366 = .ok (.iaload, 1) := by decide +kernel
theorem d_W_367 : decode code 367 = .ok (.aload_n 0, 1) := by decide +kernel
theorem d_W_368 : decode code 368 = .ok (.iload 5, 2) := by decide +kernel
theorem d_W_370 : decode code 370 = .ok (.iconst 5, 1) := by decide +kernel
theorem d_W_371 : decode code 371 = .ok (.iadd, 1) := by decide +kernel
theorem d_W_372 : decode code 372 = .ok (.iaload, 1) := by decide +kernel
theorem d_W_373 : decode code 373 = .ok (.invokevirtual 99, 3) := by decide +kernel
theorem d_W_376 : decode code 376 = .ok (.if_icmp .eq 1919, 3) := by decide +kernel
theorem cc_L_95 : CV "KiteLoggerLaw" 95 y_G_appendText b_G_appendText 6 (some .int) 5 := ⟨TT_in (i := 476) (by decide +kernel) (by decide +kernel), TT_in (i := 477) (by decide +kernel) (by decide +kernel), TT_in (i := 478) (by decide +kernel) (by decide +kernel), TT_in (i := 88) (by decide +kernel) (by decide +kernel), TT_in (i := 479) (by decide +kernel) (by decide +kernel), ⟨by decide +kernel, by decide +kernel, by decide +kernel⟩⟩
theorem cc_L_99 : CV "KiteLoggerLaw" 99 y_M_appendText b_M_appendText 8 (some .int) 5 := ⟨TT_in (i := 1846) (by decide +kernel) (by decide +kernel), TT_in (i := 1847) (by decide +kernel) (by decide +kernel), TT_in (i := 1848) (by decide +kernel) (by decide +kernel), TT_in (i := 100) (by decide +kernel) (by decide +kernel), TT_in (i := 1849) (by decide +kernel) (by decide +kernel), ⟨by decide +kernel, by decide +kernel, by decide +kernel⟩⟩
set_option maxHeartbeats 4000000 in
set_option maxRecDepth 100000 in
theorem k_0 (l : Launch) (hst : l.stackTraces = false) (N : Nat) {p : Program} {e : Env} {s : State} {m : MethodId} {args : Array Value} {below : List Frame} {meth : Method} {c : Code} {w : Wc} {k n b Lx ii : Nat} {xs : Nat → Int32} {Qf : Unit → State → Prop} {K : Mem → Option Unit} (g : Gd p s m args meth c w 10 code "KiteLoggerLaw") (hnc : va_Nc exS exI s) (hw : WL w) (hX : LX s w b Lx xs) (hii : ii + 6 ≤ Lx) (hC0 : k ≤ room_1.cells ∧ n ≤ room_1.slots) (hC1 : k + 1 ≤ room_1.cells ∧ n + 6 ≤ room_1.slots) (hK : ∀ M, Go p l e room_1 s m args below meth c w 10 (k + 1) (n + 6) Qf (K M) 2295 (LL w b ii) [] M) (M : Mem) : Go p l e room_1 s m args below meth c w 10 k n Qf  (bnd (f_G_appendText N 146 (xs (ii + 1)) (xs (ii + 2)) (xs (ii + 3)) (xs (ii + 4)) (xs (ii + 5)) M) fun x1 M1 => bnd (f_M_appendText N 146 (xs (ii + 1)) (xs (ii + 2)) (xs (ii + 3)) (xs (ii + 4)) (xs (ii + 5)) M1) fun x2 M2 => if x1 = x2 then K M2 else none) 308 (LL w b ii) [] M := by
  refine G_aload_n g (pc := 308) 1 d_W_308 rfl rfl ?_
  refine G_arg g (pc := 309) hX (j := 1) (j0 := 0) (j5 := 5) hii (by decide) rfl rfl d_W_309 d_W_310 d_W_312 rfl d_W_313 d_W_314 ?_
  refine G_arg g (pc := 315) hX (j := 2) (j0 := 0) (j5 := 5) hii (by decide) rfl rfl d_W_315 d_W_316 d_W_318 rfl d_W_319 d_W_320 ?_
  refine G_arg g (pc := 321) hX (j := 3) (j0 := 0) (j5 := 5) hii (by decide) rfl rfl d_W_321 d_W_322 d_W_324 rfl d_W_325 d_W_326 ?_
  refine G_arg g (pc := 327) hX (j := 4) (j0 := 0) (j5 := 5) hii (by decide) rfl rfl d_W_327 d_W_328 d_W_330 rfl d_W_331 d_W_332 ?_
  refine G_arg g (pc := 333) hX (j := 5) (j0 := 0) (j5 := 5) hii (by decide) rfl rfl d_W_333 d_W_334 d_W_336 rfl d_W_337 d_W_338 ?_
  refine G_cVI g (pc := 339) (As := [.int (xs (ii + 1)), .int (xs (ii + 2)), .int (xs (ii + 3)), .int (xs (ii + 4)), .int (xs (ii + 5))]) (st := []) cc_L_95 (c_G_appendText l N hw.1 (xs (ii + 1)) (xs (ii + 2)) (xs (ii + 3)) (xs (ii + 4)) (xs (ii + 5)) M) (hw.1.2 0 (Nat.le_of_ble_eq_true rfl)) (hw.1.k rfl) rfl (by decide) rfl ⟨(Nat.le_of_ble_eq_true rfl), (Nat.le_of_ble_eq_true rfl)⟩ hC0 (Nat.le_of_ble_eq_true rfl) d_W_339 (fun x1 M1 => ?_)
  refine G_aload_n g (pc := 342) 2 d_W_342 rfl rfl ?_
  refine G_arg g (pc := 343) hX (j := 1) (j0 := 0) (j5 := 5) hii (by decide) rfl rfl d_W_343 d_W_344 d_W_346 rfl d_W_347 d_W_348 ?_
  refine G_arg g (pc := 349) hX (j := 2) (j0 := 0) (j5 := 5) hii (by decide) rfl rfl d_W_349 d_W_350 d_W_352 rfl d_W_353 d_W_354 ?_
  refine G_arg g (pc := 355) hX (j := 3) (j0 := 0) (j5 := 5) hii (by decide) rfl rfl d_W_355 d_W_356 d_W_358 rfl d_W_359 d_W_360 ?_
  refine G_arg g (pc := 361) hX (j := 4) (j0 := 0) (j5 := 5) hii (by decide) rfl rfl d_W_361 d_W_362 d_W_364 rfl d_W_365 d_W_366 ?_
  refine G_arg g (pc := 367) hX (j := 5) (j0 := 0) (j5 := 5) hii (by decide) rfl rfl d_W_367 d_W_368 d_W_370 rfl d_W_371 d_W_372 ?_
  refine G_cVI g (pc := 373) (As := [.int (xs (ii + 1)), .int (xs (ii + 2)), .int (xs (ii + 3)), .int (xs (ii + 4)), .int (xs (ii + 5))]) (st := [.int x1]) cc_L_99 (c_M_appendText l N hw.2.1 (xs (ii + 1)) (xs (ii + 2)) (xs (ii + 3)) (xs (ii + 4)) (xs (ii + 5)) M1) (hw.2.1.mm 145 (Nat.le_of_ble_eq_true rfl) (Nat.le_of_ble_eq_true rfl)) (hw.1.k rfl) rfl (by decide) rfl ⟨(Nat.le_of_ble_eq_true rfl), (Nat.le_of_ble_eq_true rfl)⟩ hC0 (Nat.le_of_ble_eq_true rfl) d_W_373 (fun x2 M2 => ?_)
  refine Go.ite (fun h12 => ?_)
  refine H_cmpeq g (pc := 376) 2295 d_W_376 (by decide) h12 ?_
  exact Go.widen (Nat.le_succ _) (Nat.le_add_right _ _) (hK _)
theorem d_W_381 : decode code 381 = .ok (.aload_n 1, 1) := by decide +kernel
theorem d_W_382 : decode code 382 = .ok (.aload_n 0, 1) := by decide +kernel
theorem d_W_383 : decode code 383 = .ok (.iload 5, 2) := by decide +kernel
theorem d_W_385 : decode code 385 = .ok (.iconst 1, 1) := by decide +kernel
theorem d_W_386 : decode code 386 = .ok (.iadd, 1) := by decide +kernel
theorem d_W_387 : decode code 387 = .ok (.iaload, 1) := by decide +kernel
theorem d_W_388 : decode code 388 = .ok (.aload_n 3, 1) := by decide +kernel
theorem d_W_389 : decode code 389 = .ok (.invokestatic 100, 3) := by decide +kernel
theorem d_W_392 : decode code 392 = .ok (.istore 6, 2) := by decide +kernel
theorem d_W_394 : decode code 394 = .ok (.aload_n 2, 1) := by decide +kernel
theorem d_W_395 : decode code 395 = .ok (.aload_n 0, 1) := by decide +kernel
theorem d_W_396 : decode code 396 = .ok (.iload 5, 2) := by decide +kernel
theorem d_W_398 : decode code 398 = .ok (.iconst 1, 1) := by decide +kernel
theorem d_W_399 : decode code 399 = .ok (.iadd, 1) := by decide +kernel
theorem d_W_400 : decode code 400 = .ok (.iaload, 1) := by decide +kernel
theorem d_W_401 : decode code 401 = .ok (.invokevirtual 105, 3) := by decide +kernel
theorem d_W_404 : decode code 404 = .ok (.istore 7, 2) := by decide +kernel
theorem d_W_406 : decode code 406 = .ok (.aload_n 2, 1) := by decide +kernel
theorem d_W_407 : decode code 407 = .ok (.invokevirtual 106, 3) := by decide +kernel
theorem d_W_410 : decode code 410 = .ok (.iload 6, 2) := by decide +kernel
theorem d_W_412 : decode code 412 = .ok (.if_icmp .eq 5, 3) := by decide +kernel
theorem d_W_417 : decode code 417 = .ok (.iload 6, 2) := by decide +kernel
theorem d_W_419 : decode code 419 = .ok (.ifCond .ne 15, 3) := by decide +kernel
theorem d_W_422 : decode code 422 = .ok (.aload_n 3, 1) := by decide +kernel
theorem d_W_423 : decode code 423 = .ok (.iconst 0, 1) := by decide +kernel
theorem d_W_424 : decode code 424 = .ok (.laload, 1) := by decide +kernel
theorem d_W_425 : decode code 425 = .ok (.iload 7, 2) := by decide +kernel
theorem d_W_427 : decode code 427 = .ok (.i2l, 1) := by decide +kernel
theorem d_W_428 : decode code 428 = .ok (.lcmp, 1) := by decide +kernel
theorem d_W_429 : decode code 429 = .ok (.ifCond .eq 5, 3) := by decide +kernel
theorem d_W_434 : decode code 434 = .ok (.goto 1861, 3) := by decide +kernel
theorem cs_L_100 : CSH "KiteLoggerLaw" 100 y_L_loadStation b_L_loadStation 4 [(0, 9, 12, 13)] 3 := ⟨TT_in (i := 774) (by decide +kernel) (by decide +kernel), TT_in (i := 775) (by decide +kernel) (by decide +kernel), TT_in (i := 87) (by decide +kernel) (by decide +kernel), TT_in (i := 776) (by decide +kernel) (by decide +kernel), ⟨by decide +kernel, by decide +kernel, by decide +kernel⟩⟩
theorem cc_L_105 : CV "KiteLoggerLaw" 105 y_M_loadStation b_M_loadStation 2 (some .int) 1 := ⟨TT_in (i := 1858) (by decide +kernel) (by decide +kernel), TT_in (i := 1859) (by decide +kernel) (by decide +kernel), TT_in (i := 1860) (by decide +kernel) (by decide +kernel), TT_in (i := 100) (by decide +kernel) (by decide +kernel), TT_in (i := 1861) (by decide +kernel) (by decide +kernel), ⟨by decide +kernel, by decide +kernel, by decide +kernel⟩⟩
theorem cc_L_106 : CV "KiteLoggerLaw" 106 y_M_thrown b_M_thrown 1 (some .int) 0 := ⟨TT_in (i := 1447) (by decide +kernel) (by decide +kernel), TT_in (i := 1448) (by decide +kernel) (by decide +kernel), TT_in (i := 1449) (by decide +kernel) (by decide +kernel), TT_in (i := 100) (by decide +kernel) (by decide +kernel), TT_in (i := 1450) (by decide +kernel) (by decide +kernel), ⟨by decide +kernel, by decide +kernel, by decide +kernel⟩⟩
set_option maxHeartbeats 4000000 in
set_option maxRecDepth 100000 in
theorem k_1 (l : Launch) (hst : l.stackTraces = false) (N : Nat) {p : Program} {e : Env} {s : State} {m : MethodId} {args : Array Value} {below : List Frame} {meth : Method} {c : Code} {w : Wc} {k n b Lx ii : Nat} {xs : Nat → Int32} {Qf : Unit → State → Prop} {K : Mem → Option Unit} (g : Gd p s m args meth c w 10 code "KiteLoggerLaw") (hnc : va_Nc exS exI s) (hw : WL w) (hX : LX s w b Lx xs) (hii : ii + 6 ≤ Lx) (hC0 : k ≤ room_1.cells ∧ n ≤ room_1.slots) (hC1 : k + 1 ≤ room_1.cells ∧ n + 6 ≤ room_1.slots) (hK : ∀ M, Go p l e room_1 s m args below meth c w 10 (k + 1) (n + 6) Qf (K M) 2295 (LL w b ii) [] M) (M : Mem) : Go p l e room_1 s m args below meth c w 10 k n Qf  (bnd (lwW [(0, 1)] (f_G_loadStation N 146 (xs (ii + 1)) M)) fun x1 M1 => bnd (f_M_loadStation N (xs (ii + 1)) M1) fun x2 M2 => bnd (f_M_thrown M2) fun x3 M3 => if x3 = x1 ∧ (x1 = 0 → M3 156 0 = x2) then K M3 else none) 381 (LL w b ii) [] M := by
  refine G_aload_n g (pc := 381) 1 d_W_381 rfl rfl ?_
  refine G_arg g (pc := 382) hX (j := 1) (j0 := 0) (j5 := 5) hii (by decide) rfl rfl d_W_382 d_W_383 d_W_385 rfl d_W_386 d_W_387 ?_
  refine G_aload_n g (pc := 388) 3 d_W_388 rfl rfl ?_
  refine G_cSH g hnc (pc := 389) (As := [.ref (wad w 0), .int (xs (ii + 1)), .ref (wad w 156)]) (st := []) cs_L_100 (c_L_loadStation l hst N hw (xs (ii + 1)) M) rfl ⟨(Nat.le_of_ble_eq_true rfl), (Nat.le_of_ble_eq_true rfl)⟩ hC1 (Nat.le_of_ble_eq_true rfl) d_W_389 (fun x1 M1 => ?_)
  refine G_istore g (pc := 392) _ d_W_392 (Nat.le_of_ble_eq_true rfl) rfl ?_
  refine G_aload_n g (pc := 394) 3 d_W_394 rfl rfl ?_
  refine G_arg g (pc := 395) hX (j := 1) (j0 := 1) (j5 := 6) hii (by decide) rfl rfl d_W_395 d_W_396 d_W_398 rfl d_W_399 d_W_400 ?_
  refine G_cVI g (pc := 401) (As := [.int (xs (ii + 1))]) (st := []) cc_L_105 (c_M_loadStation l N hw.2.1 (xs (ii + 1)) M1) (hw.2.1.mm 145 (Nat.le_of_ble_eq_true rfl) (Nat.le_of_ble_eq_true rfl)) (hw.1.k rfl) rfl (by decide) rfl ⟨(Nat.le_of_ble_eq_true rfl), (Nat.le_of_ble_eq_true rfl)⟩ hC1 (Nat.le_of_ble_eq_true rfl) d_W_401 (fun x2 M2 => ?_)
  refine G_istore g (pc := 404) _ d_W_404 (Nat.le_of_ble_eq_true rfl) rfl ?_
  refine G_aload_n g (pc := 406) 4 d_W_406 rfl rfl ?_
  refine G_cVI g (pc := 407) (As := []) (st := []) cc_L_106 (c_M_thrown l hw.2.1 M2) (hw.2.1.mm 145 (Nat.le_of_ble_eq_true rfl) (Nat.le_of_ble_eq_true rfl)) (hw.1.k rfl) rfl (by decide) rfl ⟨(Nat.le_of_ble_eq_true rfl), (Nat.le_of_ble_eq_true rfl)⟩ hC1 (Nat.le_of_ble_eq_true rfl) d_W_407 (fun x3 M3 => ?_)
  refine Go.ite (fun h12 => ?_)
  refine G_iload g (pc := 410) 1 d_W_410 rfl ?_
  refine H_cmpeq g (pc := 412) 417 d_W_412 (by decide) h12.1 ?_
  refine G_iload g (pc := 417) 1 d_W_417 rfl ?_
  refine H_ifne g (pc := 419) 434 d_W_419 (by decide) (fun h0 => ?_) (fun h0 => ?_)
  · refine G_goto g (pc := 434) 2295 d_W_434 (by decide) ?_
    refine G_sub [2, 3, 4, 5, 6, 7] _ rfl ?_
    exact hK _
  · refine G_aload_n g (pc := 422) 5 d_W_422 rfl rfl ?_
    refine G_iconst g (pc := 423) (0 : Int32) d_W_423 rfl ?_
    refine G_lald0 g (pc := 424) hw.2.2.1 (hw.1.k rfl) d_W_424 ?_
    refine G_iload g (pc := 425) 0 d_W_425 rfl ?_
    refine G_i2l g (pc := 427) d_W_427 ?_
    refine G_lcmp g (pc := 428) (congrArg Int32.toInt64 (h12.2 h0)) d_W_428 ?_
    refine H_ifeq g (pc := 429) 434 d_W_429 (by decide) (fun _ => ?_) (fun h9 => Go.no (h9 rfl))
    refine G_goto g (pc := 434) 2295 d_W_434 (by decide) ?_
    refine G_sub [2, 3, 4, 5, 6, 7] _ rfl ?_
    exact hK _
theorem d_W_437 : decode code 437 = .ok (.aload_n 1, 1) := by decide +kernel
theorem d_W_438 : decode code 438 = .ok (.invokevirtual 109, 3) := by decide +kernel
theorem d_W_441 : decode code 441 = .ok (.aload_n 2, 1) := by decide +kernel
theorem d_W_442 : decode code 442 = .ok (.invokevirtual 112, 3) := by decide +kernel
theorem d_W_445 : decode code 445 = .ok (.if_icmp .eq 1850, 3) := by decide +kernel
theorem cc_L_109 : CV "KiteLoggerLaw" 109 y_G_errorCode b_G_errorCode 1 (some .int) 0 := ⟨TT_in (i := 488) (by decide +kernel) (by decide +kernel), TT_in (i := 489) (by decide +kernel) (by decide +kernel), TT_in (i := 490) (by decide +kernel) (by decide +kernel), TT_in (i := 88) (by decide +kernel) (by decide +kernel), TT_in (i := 491) (by decide +kernel) (by decide +kernel), ⟨by decide +kernel, by decide +kernel, by decide +kernel⟩⟩
theorem cc_L_112 : CV "KiteLoggerLaw" 112 y_M_errorCode b_M_errorCode 1 (some .int) 0 := ⟨TT_in (i := 1854) (by decide +kernel) (by decide +kernel), TT_in (i := 1855) (by decide +kernel) (by decide +kernel), TT_in (i := 1856) (by decide +kernel) (by decide +kernel), TT_in (i := 100) (by decide +kernel) (by decide +kernel), TT_in (i := 1857) (by decide +kernel) (by decide +kernel), ⟨by decide +kernel, by decide +kernel, by decide +kernel⟩⟩
set_option maxHeartbeats 4000000 in
set_option maxRecDepth 100000 in
theorem k_2 (l : Launch) (hst : l.stackTraces = false) (N : Nat) {p : Program} {e : Env} {s : State} {m : MethodId} {args : Array Value} {below : List Frame} {meth : Method} {c : Code} {w : Wc} {k n b Lx ii : Nat} {xs : Nat → Int32} {Qf : Unit → State → Prop} {K : Mem → Option Unit} (g : Gd p s m args meth c w 10 code "KiteLoggerLaw") (hnc : va_Nc exS exI s) (hw : WL w) (hX : LX s w b Lx xs) (hii : ii + 6 ≤ Lx) (hC0 : k ≤ room_1.cells ∧ n ≤ room_1.slots) (hC1 : k + 1 ≤ room_1.cells ∧ n + 6 ≤ room_1.slots) (hK : ∀ M, Go p l e room_1 s m args below meth c w 10 (k + 1) (n + 6) Qf (K M) 2295 (LL w b ii) [] M) (M : Mem) : Go p l e room_1 s m args below meth c w 10 k n Qf  (bnd (f_G_errorCode M) fun x1 M1 => bnd (f_M_errorCode M1) fun x2 M2 => if x1 = x2 then K M2 else none) 437 (LL w b ii) [] M := by
  refine G_aload_n g (pc := 437) 1 d_W_437 rfl rfl ?_
  refine G_cVI g (pc := 438) (As := []) (st := []) cc_L_109 (c_G_errorCode l hw.1 M) (hw.1.2 0 (Nat.le_of_ble_eq_true rfl)) (hw.1.k rfl) rfl (by decide) rfl ⟨(Nat.le_of_ble_eq_true rfl), (Nat.le_of_ble_eq_true rfl)⟩ hC0 (Nat.le_of_ble_eq_true rfl) d_W_438 (fun x1 M1 => ?_)
  refine G_aload_n g (pc := 441) 2 d_W_441 rfl rfl ?_
  refine G_cVI g (pc := 442) (As := []) (st := [.int x1]) cc_L_112 (c_M_errorCode l hw.2.1 M1) (hw.2.1.mm 145 (Nat.le_of_ble_eq_true rfl) (Nat.le_of_ble_eq_true rfl)) (hw.1.k rfl) rfl (by decide) rfl ⟨(Nat.le_of_ble_eq_true rfl), (Nat.le_of_ble_eq_true rfl)⟩ hC0 (Nat.le_of_ble_eq_true rfl) d_W_442 (fun x2 M2 => ?_)
  refine Go.ite (fun h12 => ?_)
  refine H_cmpeq g (pc := 445) 2295 d_W_445 (by decide) h12 ?_
  exact Go.widen (Nat.le_succ _) (Nat.le_add_right _ _) (hK _)
theorem d_W_450 : decode code 450 = .ok (.aload_n 1, 1) := by decide +kernel
theorem d_W_451 : decode code 451 = .ok (.invokevirtual 113, 3) := by decide +kernel
theorem d_W_454 : decode code 454 = .ok (.aload_n 2, 1) := by decide +kernel
theorem d_W_455 : decode code 455 = .ok (.invokevirtual 116, 3) := by decide +kernel
theorem d_W_458 : decode code 458 = .ok (.if_icmp .eq 1837, 3) := by decide +kernel
theorem cc_L_113 : CV "KiteLoggerLaw" 113 y_G_errorOffset b_G_errorOffset 1 (some .int) 0 := ⟨TT_in (i := 492) (by decide +kernel) (by decide +kernel), TT_in (i := 493) (by decide +kernel) (by decide +kernel), TT_in (i := 494) (by decide +kernel) (by decide +kernel), TT_in (i := 88) (by decide +kernel) (by decide +kernel), TT_in (i := 495) (by decide +kernel) (by decide +kernel), ⟨by decide +kernel, by decide +kernel, by decide +kernel⟩⟩
theorem cc_L_116 : CV "KiteLoggerLaw" 116 y_M_errorOffset b_M_errorOffset 1 (some .int) 0 := ⟨TT_in (i := 1850) (by decide +kernel) (by decide +kernel), TT_in (i := 1851) (by decide +kernel) (by decide +kernel), TT_in (i := 1852) (by decide +kernel) (by decide +kernel), TT_in (i := 100) (by decide +kernel) (by decide +kernel), TT_in (i := 1853) (by decide +kernel) (by decide +kernel), ⟨by decide +kernel, by decide +kernel, by decide +kernel⟩⟩
set_option maxHeartbeats 4000000 in
set_option maxRecDepth 100000 in
theorem k_3 (l : Launch) (hst : l.stackTraces = false) (N : Nat) {p : Program} {e : Env} {s : State} {m : MethodId} {args : Array Value} {below : List Frame} {meth : Method} {c : Code} {w : Wc} {k n b Lx ii : Nat} {xs : Nat → Int32} {Qf : Unit → State → Prop} {K : Mem → Option Unit} (g : Gd p s m args meth c w 10 code "KiteLoggerLaw") (hnc : va_Nc exS exI s) (hw : WL w) (hX : LX s w b Lx xs) (hii : ii + 6 ≤ Lx) (hC0 : k ≤ room_1.cells ∧ n ≤ room_1.slots) (hC1 : k + 1 ≤ room_1.cells ∧ n + 6 ≤ room_1.slots) (hK : ∀ M, Go p l e room_1 s m args below meth c w 10 (k + 1) (n + 6) Qf (K M) 2295 (LL w b ii) [] M) (M : Mem) : Go p l e room_1 s m args below meth c w 10 k n Qf  (bnd (f_G_errorOffset M) fun x1 M1 => bnd (f_M_errorOffset M1) fun x2 M2 => if x1 = x2 then K M2 else none) 450 (LL w b ii) [] M := by
  refine G_aload_n g (pc := 450) 1 d_W_450 rfl rfl ?_
  refine G_cVI g (pc := 451) (As := []) (st := []) cc_L_113 (c_G_errorOffset l hw.1 M) (hw.1.2 0 (Nat.le_of_ble_eq_true rfl)) (hw.1.k rfl) rfl (by decide) rfl ⟨(Nat.le_of_ble_eq_true rfl), (Nat.le_of_ble_eq_true rfl)⟩ hC0 (Nat.le_of_ble_eq_true rfl) d_W_451 (fun x1 M1 => ?_)
  refine G_aload_n g (pc := 454) 2 d_W_454 rfl rfl ?_
  refine G_cVI g (pc := 455) (As := []) (st := [.int x1]) cc_L_116 (c_M_errorOffset l hw.2.1 M1) (hw.2.1.mm 145 (Nat.le_of_ble_eq_true rfl) (Nat.le_of_ble_eq_true rfl)) (hw.1.k rfl) rfl (by decide) rfl ⟨(Nat.le_of_ble_eq_true rfl), (Nat.le_of_ble_eq_true rfl)⟩ hC0 (Nat.le_of_ble_eq_true rfl) d_W_455 (fun x2 M2 => ?_)
  refine Go.ite (fun h12 => ?_)
  refine H_cmpeq g (pc := 458) 2295 d_W_458 (by decide) h12 ?_
  exact Go.widen (Nat.le_succ _) (Nat.le_add_right _ _) (hK _)
theorem d_W_463 : decode code 463 = .ok (.aload_n 1, 1) := by decide +kernel
theorem d_W_464 : decode code 464 = .ok (.invokevirtual 117, 3) := by decide +kernel
theorem d_W_467 : decode code 467 = .ok (.aload_n 2, 1) := by decide +kernel
theorem d_W_468 : decode code 468 = .ok (.invokevirtual 120, 3) := by decide +kernel
theorem d_W_471 : decode code 471 = .ok (.if_icmp .eq 1824, 3) := by decide +kernel
theorem cc_L_117 : CV "KiteLoggerLaw" 117 y_G_tick b_G_tick 1 (some .int) 0 := ⟨TT_in (i := 496) (by decide +kernel) (by decide +kernel), TT_in (i := 497) (by decide +kernel) (by decide +kernel), TT_in (i := 498) (by decide +kernel) (by decide +kernel), TT_in (i := 88) (by decide +kernel) (by decide +kernel), TT_in (i := 499) (by decide +kernel) (by decide +kernel), ⟨by decide +kernel, by decide +kernel, by decide +kernel⟩⟩
theorem cc_L_120 : CV "KiteLoggerLaw" 120 y_M_tick b_M_tick 1 (some .int) 0 := ⟨TT_in (i := 1451) (by decide +kernel) (by decide +kernel), TT_in (i := 1452) (by decide +kernel) (by decide +kernel), TT_in (i := 1453) (by decide +kernel) (by decide +kernel), TT_in (i := 100) (by decide +kernel) (by decide +kernel), TT_in (i := 1454) (by decide +kernel) (by decide +kernel), ⟨by decide +kernel, by decide +kernel, by decide +kernel⟩⟩
set_option maxHeartbeats 4000000 in
set_option maxRecDepth 100000 in
theorem k_4 (l : Launch) (hst : l.stackTraces = false) (N : Nat) {p : Program} {e : Env} {s : State} {m : MethodId} {args : Array Value} {below : List Frame} {meth : Method} {c : Code} {w : Wc} {k n b Lx ii : Nat} {xs : Nat → Int32} {Qf : Unit → State → Prop} {K : Mem → Option Unit} (g : Gd p s m args meth c w 10 code "KiteLoggerLaw") (hnc : va_Nc exS exI s) (hw : WL w) (hX : LX s w b Lx xs) (hii : ii + 6 ≤ Lx) (hC0 : k ≤ room_1.cells ∧ n ≤ room_1.slots) (hC1 : k + 1 ≤ room_1.cells ∧ n + 6 ≤ room_1.slots) (hK : ∀ M, Go p l e room_1 s m args below meth c w 10 (k + 1) (n + 6) Qf (K M) 2295 (LL w b ii) [] M) (M : Mem) : Go p l e room_1 s m args below meth c w 10 k n Qf  (bnd (f_G_tick M) fun x1 M1 => bnd (f_M_tick 146 M1) fun x2 M2 => if x1 = x2 then K M2 else none) 463 (LL w b ii) [] M := by
  refine G_aload_n g (pc := 463) 1 d_W_463 rfl rfl ?_
  refine G_cVI g (pc := 464) (As := []) (st := []) cc_L_117 (c_G_tick l hw.1 M) (hw.1.2 0 (Nat.le_of_ble_eq_true rfl)) (hw.1.k rfl) rfl (by decide) rfl ⟨(Nat.le_of_ble_eq_true rfl), (Nat.le_of_ble_eq_true rfl)⟩ hC0 (Nat.le_of_ble_eq_true rfl) d_W_464 (fun x1 M1 => ?_)
  refine G_aload_n g (pc := 467) 2 d_W_467 rfl rfl ?_
  refine G_cVI g (pc := 468) (As := []) (st := [.int x1]) cc_L_120 (c_M_tick l hw.2.1 M1) (hw.2.1.mm 145 (Nat.le_of_ble_eq_true rfl) (Nat.le_of_ble_eq_true rfl)) (hw.1.k rfl) rfl (by decide) rfl ⟨(Nat.le_of_ble_eq_true rfl), (Nat.le_of_ble_eq_true rfl)⟩ hC0 (Nat.le_of_ble_eq_true rfl) d_W_468 (fun x2 M2 => ?_)
  refine Go.ite (fun h12 => ?_)
  refine H_cmpeq g (pc := 471) 2295 d_W_471 (by decide) h12 ?_
  exact Go.widen (Nat.le_succ _) (Nat.le_add_right _ _) (hK _)
theorem d_W_476 : decode code 476 = .ok (.aload_n 1, 1) := by decide +kernel
theorem d_W_477 : decode code 477 = .ok (.invokevirtual 121, 3) := by decide +kernel
theorem d_W_480 : decode code 480 = .ok (.aload_n 2, 1) := by decide +kernel
theorem d_W_481 : decode code 481 = .ok (.invokevirtual 124, 3) := by decide +kernel
theorem d_W_484 : decode code 484 = .ok (.if_icmp .eq 1811, 3) := by decide +kernel
theorem cc_L_121 : CV "KiteLoggerLaw" 121 y_G_patternLength b_G_patternLength 1 (some .int) 0 := ⟨TT_in (i := 500) (by decide +kernel) (by decide +kernel), TT_in (i := 501) (by decide +kernel) (by decide +kernel), TT_in (i := 502) (by decide +kernel) (by decide +kernel), TT_in (i := 88) (by decide +kernel) (by decide +kernel), TT_in (i := 503) (by decide +kernel) (by decide +kernel), ⟨by decide +kernel, by decide +kernel, by decide +kernel⟩⟩
theorem cc_L_124 : CV "KiteLoggerLaw" 124 y_M_patternLength b_M_patternLength 1 (some .int) 0 := ⟨TT_in (i := 1455) (by decide +kernel) (by decide +kernel), TT_in (i := 1456) (by decide +kernel) (by decide +kernel), TT_in (i := 1457) (by decide +kernel) (by decide +kernel), TT_in (i := 100) (by decide +kernel) (by decide +kernel), TT_in (i := 1458) (by decide +kernel) (by decide +kernel), ⟨by decide +kernel, by decide +kernel, by decide +kernel⟩⟩
set_option maxHeartbeats 4000000 in
set_option maxRecDepth 100000 in
theorem k_5 (l : Launch) (hst : l.stackTraces = false) (N : Nat) {p : Program} {e : Env} {s : State} {m : MethodId} {args : Array Value} {below : List Frame} {meth : Method} {c : Code} {w : Wc} {k n b Lx ii : Nat} {xs : Nat → Int32} {Qf : Unit → State → Prop} {K : Mem → Option Unit} (g : Gd p s m args meth c w 10 code "KiteLoggerLaw") (hnc : va_Nc exS exI s) (hw : WL w) (hX : LX s w b Lx xs) (hii : ii + 6 ≤ Lx) (hC0 : k ≤ room_1.cells ∧ n ≤ room_1.slots) (hC1 : k + 1 ≤ room_1.cells ∧ n + 6 ≤ room_1.slots) (hK : ∀ M, Go p l e room_1 s m args below meth c w 10 (k + 1) (n + 6) Qf (K M) 2295 (LL w b ii) [] M) (M : Mem) : Go p l e room_1 s m args below meth c w 10 k n Qf  (bnd (f_G_patternLength M) fun x1 M1 => bnd (f_M_patternLength 146 M1) fun x2 M2 => if x1 = x2 then K M2 else none) 476 (LL w b ii) [] M := by
  refine G_aload_n g (pc := 476) 1 d_W_476 rfl rfl ?_
  refine G_cVI g (pc := 477) (As := []) (st := []) cc_L_121 (c_G_patternLength l hw.1 M) (hw.1.2 0 (Nat.le_of_ble_eq_true rfl)) (hw.1.k rfl) rfl (by decide) rfl ⟨(Nat.le_of_ble_eq_true rfl), (Nat.le_of_ble_eq_true rfl)⟩ hC0 (Nat.le_of_ble_eq_true rfl) d_W_477 (fun x1 M1 => ?_)
  refine G_aload_n g (pc := 480) 2 d_W_480 rfl rfl ?_
  refine G_cVI g (pc := 481) (As := []) (st := [.int x1]) cc_L_124 (c_M_patternLength l hw.2.1 M1) (hw.2.1.mm 145 (Nat.le_of_ble_eq_true rfl) (Nat.le_of_ble_eq_true rfl)) (hw.1.k rfl) rfl (by decide) rfl ⟨(Nat.le_of_ble_eq_true rfl), (Nat.le_of_ble_eq_true rfl)⟩ hC0 (Nat.le_of_ble_eq_true rfl) d_W_481 (fun x2 M2 => ?_)
  refine Go.ite (fun h12 => ?_)
  refine H_cmpeq g (pc := 484) 2295 d_W_484 (by decide) h12 ?_
  exact Go.widen (Nat.le_succ _) (Nat.le_add_right _ _) (hK _)
theorem d_W_489 : decode code 489 = .ok (.aload_n 1, 1) := by decide +kernel
theorem d_W_490 : decode code 490 = .ok (.aload_n 0, 1) := by decide +kernel
theorem d_W_491 : decode code 491 = .ok (.iload 5, 2) := by decide +kernel
theorem d_W_493 : decode code 493 = .ok (.iconst 1, 1) := by decide +kernel
theorem d_W_494 : decode code 494 = .ok (.iadd, 1) := by decide +kernel
theorem d_W_495 : decode code 495 = .ok (.iaload, 1) := by decide +kernel
theorem d_W_496 : decode code 496 = .ok (.aload_n 3, 1) := by decide +kernel
theorem d_W_497 : decode code 497 = .ok (.invokestatic 125, 3) := by decide +kernel
theorem d_W_500 : decode code 500 = .ok (.istore 6, 2) := by decide +kernel
theorem d_W_502 : decode code 502 = .ok (.aload_n 2, 1) := by decide +kernel
theorem d_W_503 : decode code 503 = .ok (.aload_n 0, 1) := by decide +kernel
theorem d_W_504 : decode code 504 = .ok (.iload 5, 2) := by decide +kernel
theorem d_W_506 : decode code 506 = .ok (.iconst 1, 1) := by decide +kernel
theorem d_W_507 : decode code 507 = .ok (.iadd, 1) := by decide +kernel
theorem d_W_508 : decode code 508 = .ok (.iaload, 1) := by decide +kernel
theorem d_W_509 : decode code 509 = .ok (.invokevirtual 127, 3) := by decide +kernel
theorem d_W_512 : decode code 512 = .ok (.istore 7, 2) := by decide +kernel
theorem d_W_514 : decode code 514 = .ok (.aload_n 2, 1) := by decide +kernel
theorem d_W_515 : decode code 515 = .ok (.invokevirtual 106, 3) := by decide +kernel
theorem d_W_518 : decode code 518 = .ok (.iload 6, 2) := by decide +kernel
theorem d_W_520 : decode code 520 = .ok (.if_icmp .eq 5, 3) := by decide +kernel
theorem d_W_525 : decode code 525 = .ok (.iload 6, 2) := by decide +kernel
theorem d_W_527 : decode code 527 = .ok (.ifCond .ne 15, 3) := by decide +kernel
theorem d_W_530 : decode code 530 = .ok (.aload_n 3, 1) := by decide +kernel
theorem d_W_531 : decode code 531 = .ok (.iconst 0, 1) := by decide +kernel
theorem d_W_532 : decode code 532 = .ok (.laload, 1) := by decide +kernel
theorem d_W_533 : decode code 533 = .ok (.iload 7, 2) := by decide +kernel
theorem d_W_535 : decode code 535 = .ok (.i2l, 1) := by decide +kernel
theorem d_W_536 : decode code 536 = .ok (.lcmp, 1) := by decide +kernel
theorem d_W_537 : decode code 537 = .ok (.ifCond .eq 5, 3) := by decide +kernel
theorem d_W_542 : decode code 542 = .ok (.goto 1753, 3) := by decide +kernel
theorem cs_L_125 : CSH "KiteLoggerLaw" 125 y_L_gust b_L_gust 4 [(0, 9, 12, 13)] 3 := ⟨TT_in (i := 975) (by decide +kernel) (by decide +kernel), TT_in (i := 976) (by decide +kernel) (by decide +kernel), TT_in (i := 87) (by decide +kernel) (by decide +kernel), TT_in (i := 977) (by decide +kernel) (by decide +kernel), ⟨by decide +kernel, by decide +kernel, by decide +kernel⟩⟩
theorem cc_L_127 : CV "KiteLoggerLaw" 127 y_M_gust b_M_gust 2 (some .int) 1 := ⟨TT_in (i := 1459) (by decide +kernel) (by decide +kernel), TT_in (i := 1460) (by decide +kernel) (by decide +kernel), TT_in (i := 1461) (by decide +kernel) (by decide +kernel), TT_in (i := 100) (by decide +kernel) (by decide +kernel), TT_in (i := 1462) (by decide +kernel) (by decide +kernel), ⟨by decide +kernel, by decide +kernel, by decide +kernel⟩⟩
set_option maxHeartbeats 4000000 in
set_option maxRecDepth 100000 in
theorem k_6 (l : Launch) (hst : l.stackTraces = false) (N : Nat) {p : Program} {e : Env} {s : State} {m : MethodId} {args : Array Value} {below : List Frame} {meth : Method} {c : Code} {w : Wc} {k n b Lx ii : Nat} {xs : Nat → Int32} {Qf : Unit → State → Prop} {K : Mem → Option Unit} (g : Gd p s m args meth c w 10 code "KiteLoggerLaw") (hnc : va_Nc exS exI s) (hw : WL w) (hX : LX s w b Lx xs) (hii : ii + 6 ≤ Lx) (hC0 : k ≤ room_1.cells ∧ n ≤ room_1.slots) (hC1 : k + 1 ≤ room_1.cells ∧ n + 6 ≤ room_1.slots) (hK : ∀ M, Go p l e room_1 s m args below meth c w 10 (k + 1) (n + 6) Qf (K M) 2295 (LL w b ii) [] M) (M : Mem) : Go p l e room_1 s m args below meth c w 10 k n Qf  (bnd (lwW [(0, 1)] (f_G_gust (xs (ii + 1)) M)) fun x1 M1 => bnd (f_M_gust 146 (xs (ii + 1)) M1) fun x2 M2 => bnd (f_M_thrown M2) fun x3 M3 => if x3 = x1 ∧ (x1 = 0 → M3 156 0 = x2) then K M3 else none) 489 (LL w b ii) [] M := by
  refine G_aload_n g (pc := 489) 1 d_W_489 rfl rfl ?_
  refine G_arg g (pc := 490) hX (j := 1) (j0 := 0) (j5 := 5) hii (by decide) rfl rfl d_W_490 d_W_491 d_W_493 rfl d_W_494 d_W_495 ?_
  refine G_aload_n g (pc := 496) 3 d_W_496 rfl rfl ?_
  refine G_cSH g hnc (pc := 497) (As := [.ref (wad w 0), .int (xs (ii + 1)), .ref (wad w 156)]) (st := []) cs_L_125 (c_L_gust l hst hw (xs (ii + 1)) M) rfl ⟨(Nat.le_of_ble_eq_true rfl), (Nat.le_of_ble_eq_true rfl)⟩ hC1 (Nat.le_of_ble_eq_true rfl) d_W_497 (fun x1 M1 => ?_)
  refine G_istore g (pc := 500) _ d_W_500 (Nat.le_of_ble_eq_true rfl) rfl ?_
  refine G_aload_n g (pc := 502) 3 d_W_502 rfl rfl ?_
  refine G_arg g (pc := 503) hX (j := 1) (j0 := 1) (j5 := 6) hii (by decide) rfl rfl d_W_503 d_W_504 d_W_506 rfl d_W_507 d_W_508 ?_
  refine G_cVI g (pc := 509) (As := [.int (xs (ii + 1))]) (st := []) cc_L_127 (c_M_gust l hw.2.1 (xs (ii + 1)) M1) (hw.2.1.mm 145 (Nat.le_of_ble_eq_true rfl) (Nat.le_of_ble_eq_true rfl)) (hw.1.k rfl) rfl (by decide) rfl ⟨(Nat.le_of_ble_eq_true rfl), (Nat.le_of_ble_eq_true rfl)⟩ hC1 (Nat.le_of_ble_eq_true rfl) d_W_509 (fun x2 M2 => ?_)
  refine G_istore g (pc := 512) _ d_W_512 (Nat.le_of_ble_eq_true rfl) rfl ?_
  refine G_aload_n g (pc := 514) 4 d_W_514 rfl rfl ?_
  refine G_cVI g (pc := 515) (As := []) (st := []) cc_L_106 (c_M_thrown l hw.2.1 M2) (hw.2.1.mm 145 (Nat.le_of_ble_eq_true rfl) (Nat.le_of_ble_eq_true rfl)) (hw.1.k rfl) rfl (by decide) rfl ⟨(Nat.le_of_ble_eq_true rfl), (Nat.le_of_ble_eq_true rfl)⟩ hC1 (Nat.le_of_ble_eq_true rfl) d_W_515 (fun x3 M3 => ?_)
  refine Go.ite (fun h12 => ?_)
  refine G_iload g (pc := 518) 1 d_W_518 rfl ?_
  refine H_cmpeq g (pc := 520) 525 d_W_520 (by decide) h12.1 ?_
  refine G_iload g (pc := 525) 1 d_W_525 rfl ?_
  refine H_ifne g (pc := 527) 542 d_W_527 (by decide) (fun h0 => ?_) (fun h0 => ?_)
  · refine G_goto g (pc := 542) 2295 d_W_542 (by decide) ?_
    refine G_sub [2, 3, 4, 5, 6, 7] _ rfl ?_
    exact hK _
  · refine G_aload_n g (pc := 530) 5 d_W_530 rfl rfl ?_
    refine G_iconst g (pc := 531) (0 : Int32) d_W_531 rfl ?_
    refine G_lald0 g (pc := 532) hw.2.2.1 (hw.1.k rfl) d_W_532 ?_
    refine G_iload g (pc := 533) 0 d_W_533 rfl ?_
    refine G_i2l g (pc := 535) d_W_535 ?_
    refine G_lcmp g (pc := 536) (congrArg Int32.toInt64 (h12.2 h0)) d_W_536 ?_
    refine H_ifeq g (pc := 537) 542 d_W_537 (by decide) (fun _ => ?_) (fun h9 => Go.no (h9 rfl))
    refine G_goto g (pc := 542) 2295 d_W_542 (by decide) ?_
    refine G_sub [2, 3, 4, 5, 6, 7] _ rfl ?_
    exact hK _
theorem d_W_545 : decode code 545 = .ok (.aload_n 1, 1) := by decide +kernel
theorem d_W_546 : decode code 546 = .ok (.aload_n 0, 1) := by decide +kernel
theorem d_W_547 : decode code 547 = .ok (.iload 5, 2) := by decide +kernel
theorem d_W_549 : decode code 549 = .ok (.iconst 1, 1) := by decide +kernel
theorem d_W_550 : decode code 550 = .ok (.iadd, 1) := by decide +kernel
theorem d_W_551 : decode code 551 = .ok (.iaload, 1) := by decide +kernel
theorem d_W_552 : decode code 552 = .ok (.aload_n 3, 1) := by decide +kernel
theorem d_W_553 : decode code 553 = .ok (.invokestatic 128, 3) := by decide +kernel
theorem d_W_556 : decode code 556 = .ok (.istore 6, 2) := by decide +kernel
theorem d_W_558 : decode code 558 = .ok (.aload_n 2, 1) := by decide +kernel
theorem d_W_559 : decode code 559 = .ok (.aload_n 0, 1) := by decide +kernel
theorem d_W_560 : decode code 560 = .ok (.iload 5, 2) := by decide +kernel
theorem d_W_562 : decode code 562 = .ok (.iconst 1, 1) := by decide +kernel
theorem d_W_563 : decode code 563 = .ok (.iadd, 1) := by decide +kernel
theorem d_W_564 : decode code 564 = .ok (.iaload, 1) := by decide +kernel
theorem d_W_565 : decode code 565 = .ok (.invokevirtual 130, 3) := by decide +kernel
theorem d_W_568 : decode code 568 = .ok (.istore 7, 2) := by decide +kernel
theorem d_W_570 : decode code 570 = .ok (.aload_n 2, 1) := by decide +kernel
theorem d_W_571 : decode code 571 = .ok (.invokevirtual 106, 3) := by decide +kernel
theorem d_W_574 : decode code 574 = .ok (.iload 6, 2) := by decide +kernel
theorem d_W_576 : decode code 576 = .ok (.if_icmp .eq 5, 3) := by decide +kernel
theorem d_W_581 : decode code 581 = .ok (.iload 6, 2) := by decide +kernel
theorem d_W_583 : decode code 583 = .ok (.ifCond .ne 15, 3) := by decide +kernel
theorem d_W_586 : decode code 586 = .ok (.aload_n 3, 1) := by decide +kernel
theorem d_W_587 : decode code 587 = .ok (.iconst 0, 1) := by decide +kernel
theorem d_W_588 : decode code 588 = .ok (.laload, 1) := by decide +kernel
theorem d_W_589 : decode code 589 = .ok (.iload 7, 2) := by decide +kernel
theorem d_W_591 : decode code 591 = .ok (.i2l, 1) := by decide +kernel
theorem d_W_592 : decode code 592 = .ok (.lcmp, 1) := by decide +kernel
theorem d_W_593 : decode code 593 = .ok (.ifCond .eq 5, 3) := by decide +kernel
theorem d_W_598 : decode code 598 = .ok (.goto 1697, 3) := by decide +kernel
theorem cs_L_128 : CSH "KiteLoggerLaw" 128 y_L_windAt b_L_windAt 4 [(0, 9, 12, 13)] 3 := ⟨TT_in (i := 987) (by decide +kernel) (by decide +kernel), TT_in (i := 988) (by decide +kernel) (by decide +kernel), TT_in (i := 87) (by decide +kernel) (by decide +kernel), TT_in (i := 989) (by decide +kernel) (by decide +kernel), ⟨by decide +kernel, by decide +kernel, by decide +kernel⟩⟩
theorem cc_L_130 : CV "KiteLoggerLaw" 130 y_M_windAt b_M_windAt 2 (some .int) 1 := ⟨TT_in (i := 1474) (by decide +kernel) (by decide +kernel), TT_in (i := 1475) (by decide +kernel) (by decide +kernel), TT_in (i := 1476) (by decide +kernel) (by decide +kernel), TT_in (i := 100) (by decide +kernel) (by decide +kernel), TT_in (i := 1477) (by decide +kernel) (by decide +kernel), ⟨by decide +kernel, by decide +kernel, by decide +kernel⟩⟩
set_option maxHeartbeats 4000000 in
set_option maxRecDepth 100000 in
theorem k_7 (l : Launch) (hst : l.stackTraces = false) (N : Nat) {p : Program} {e : Env} {s : State} {m : MethodId} {args : Array Value} {below : List Frame} {meth : Method} {c : Code} {w : Wc} {k n b Lx ii : Nat} {xs : Nat → Int32} {Qf : Unit → State → Prop} {K : Mem → Option Unit} (g : Gd p s m args meth c w 10 code "KiteLoggerLaw") (hnc : va_Nc exS exI s) (hw : WL w) (hX : LX s w b Lx xs) (hii : ii + 6 ≤ Lx) (hC0 : k ≤ room_1.cells ∧ n ≤ room_1.slots) (hC1 : k + 1 ≤ room_1.cells ∧ n + 6 ≤ room_1.slots) (hK : ∀ M, Go p l e room_1 s m args below meth c w 10 (k + 1) (n + 6) Qf (K M) 2295 (LL w b ii) [] M) (M : Mem) : Go p l e room_1 s m args below meth c w 10 k n Qf  (bnd (lwW [(0, 1)] (f_G_windAt (xs (ii + 1)) M)) fun x1 M1 => bnd (f_M_windAt 146 (xs (ii + 1)) M1) fun x2 M2 => bnd (f_M_thrown M2) fun x3 M3 => if x3 = x1 ∧ (x1 = 0 → M3 156 0 = x2) then K M3 else none) 545 (LL w b ii) [] M := by
  refine G_aload_n g (pc := 545) 1 d_W_545 rfl rfl ?_
  refine G_arg g (pc := 546) hX (j := 1) (j0 := 0) (j5 := 5) hii (by decide) rfl rfl d_W_546 d_W_547 d_W_549 rfl d_W_550 d_W_551 ?_
  refine G_aload_n g (pc := 552) 3 d_W_552 rfl rfl ?_
  refine G_cSH g hnc (pc := 553) (As := [.ref (wad w 0), .int (xs (ii + 1)), .ref (wad w 156)]) (st := []) cs_L_128 (c_L_windAt l hst hw (xs (ii + 1)) M) rfl ⟨(Nat.le_of_ble_eq_true rfl), (Nat.le_of_ble_eq_true rfl)⟩ hC1 (Nat.le_of_ble_eq_true rfl) d_W_553 (fun x1 M1 => ?_)
  refine G_istore g (pc := 556) _ d_W_556 (Nat.le_of_ble_eq_true rfl) rfl ?_
  refine G_aload_n g (pc := 558) 3 d_W_558 rfl rfl ?_
  refine G_arg g (pc := 559) hX (j := 1) (j0 := 1) (j5 := 6) hii (by decide) rfl rfl d_W_559 d_W_560 d_W_562 rfl d_W_563 d_W_564 ?_
  refine G_cVI g (pc := 565) (As := [.int (xs (ii + 1))]) (st := []) cc_L_130 (c_M_windAt l hw.2.1 (xs (ii + 1)) M1) (hw.2.1.mm 145 (Nat.le_of_ble_eq_true rfl) (Nat.le_of_ble_eq_true rfl)) (hw.1.k rfl) rfl (by decide) rfl ⟨(Nat.le_of_ble_eq_true rfl), (Nat.le_of_ble_eq_true rfl)⟩ hC1 (Nat.le_of_ble_eq_true rfl) d_W_565 (fun x2 M2 => ?_)
  refine G_istore g (pc := 568) _ d_W_568 (Nat.le_of_ble_eq_true rfl) rfl ?_
  refine G_aload_n g (pc := 570) 4 d_W_570 rfl rfl ?_
  refine G_cVI g (pc := 571) (As := []) (st := []) cc_L_106 (c_M_thrown l hw.2.1 M2) (hw.2.1.mm 145 (Nat.le_of_ble_eq_true rfl) (Nat.le_of_ble_eq_true rfl)) (hw.1.k rfl) rfl (by decide) rfl ⟨(Nat.le_of_ble_eq_true rfl), (Nat.le_of_ble_eq_true rfl)⟩ hC1 (Nat.le_of_ble_eq_true rfl) d_W_571 (fun x3 M3 => ?_)
  refine Go.ite (fun h12 => ?_)
  refine G_iload g (pc := 574) 1 d_W_574 rfl ?_
  refine H_cmpeq g (pc := 576) 581 d_W_576 (by decide) h12.1 ?_
  refine G_iload g (pc := 581) 1 d_W_581 rfl ?_
  refine H_ifne g (pc := 583) 598 d_W_583 (by decide) (fun h0 => ?_) (fun h0 => ?_)
  · refine G_goto g (pc := 598) 2295 d_W_598 (by decide) ?_
    refine G_sub [2, 3, 4, 5, 6, 7] _ rfl ?_
    exact hK _
  · refine G_aload_n g (pc := 586) 5 d_W_586 rfl rfl ?_
    refine G_iconst g (pc := 587) (0 : Int32) d_W_587 rfl ?_
    refine G_lald0 g (pc := 588) hw.2.2.1 (hw.1.k rfl) d_W_588 ?_
    refine G_iload g (pc := 589) 0 d_W_589 rfl ?_
    refine G_i2l g (pc := 591) d_W_591 ?_
    refine G_lcmp g (pc := 592) (congrArg Int32.toInt64 (h12.2 h0)) d_W_592 ?_
    refine H_ifeq g (pc := 593) 598 d_W_593 (by decide) (fun _ => ?_) (fun h9 => Go.no (h9 rfl))
    refine G_goto g (pc := 598) 2295 d_W_598 (by decide) ?_
    refine G_sub [2, 3, 4, 5, 6, 7] _ rfl ?_
    exact hK _
