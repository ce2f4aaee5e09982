/-! cases of the law's body -/
def LL (w : Wc) (b ii : Nat) : List (Nat × Value) := [(0, .ref b), (1, .ref (wad w 0)), (2, .ref (wad w 145)), (3, .ref (wad w 156)), (4, .ref (wad w 157)), (5, .int (nI ii))]
theorem d_W_463 : decode code 463 = .ok (.aload_n 1, 1) := by decide +kernel
theorem d_W_464 : decode code 464 = .ok (.invokevirtual 117, 3) := by decide +kernel
theorem d_W_467 : decode code 467 = .ok (.aload_n 2, 1) := by decide +kernel
theorem d_W_468 : decode code 468 = .ok (.invokevirtual 120, 3) := by decide +kernel
theorem d_W_471 : decode code 471 = .ok (.if_icmp .eq 1824, 3) := by decide +kernel
theorem cc_L_117 : CV "KiteLoggerLaw" 117 y_G_tick b_G_tick 1 (some .int) 0 := ⟨TT_in (i := 496) (by decide +kernel) (by decide +kernel), TT_in (i := 497) (by decide +kernel) (by decide +kernel), TT_in (i := 498) (by decide +kernel) (by decide +kernel), TT_in (i := 88) (by decide +kernel) (by decide +kernel), TT_in (i := 499) (by decide +kernel) (by decide +kernel), ⟨by decide +kernel, by decide +kernel, by decide +kernel⟩⟩
theorem cc_L_120 : CV "KiteLoggerLaw" 120 y_M_tick b_M_tick 1 (some .int) 0 := ⟨TT_in (i := 1452) (by decide +kernel) (by decide +kernel), TT_in (i := 1453) (by decide +kernel) (by decide +kernel), TT_in (i := 1454) (by decide +kernel) (by decide +kernel), TT_in (i := 100) (by decide +kernel) (by decide +kernel), TT_in (i := 1455) (by decide +kernel) (by decide +kernel), ⟨by decide +kernel, by decide +kernel, by decide +kernel⟩⟩
set_option maxHeartbeats 4000000 in
set_option maxRecDepth 100000 in
theorem k_4 (l : Launch) (hst : l.stackTraces = false) (N : Nat) {p : Program} {e : Env} {s : State} {m : MethodId} {args : Array Value} {below : List Frame} {meth : Method} {c : Code} {w : Wc} {k n b Lx ii : Nat} {xs : Nat → Int32} {Qf : Unit → State → Prop} {K : Mem → Option Unit} (g : Gd p s m args meth c w 10 code "KiteLoggerLaw") (hnc : va_Nc exS exI s) (hw : WL w) (hX : LX s w b Lx xs) (hii : ii + 6 ≤ Lx) (hC0 : k ≤ room_1.cells ∧ n ≤ room_1.slots) (hC1 : k + 1 ≤ room_1.cells ∧ n + 6 ≤ room_1.slots) (hK : ∀ M, Go p l e room_1 s m args below meth c w 10 (k + 1) (n + 6) Qf (K M) 2295 (LL w b ii) [] M) (M : Mem) : Go p l e room_1 s m args below meth c w 10 k n Qf  (bnd (f_G_tick M) fun x1 M1 => bnd (f_M_tick 146 M1) fun x2 M2 => if x1 = x2 then K M2 else none) 463 (LL w b ii) [] M := by
  refine G_aload_n g (pc := 463) 1 d_W_463 rfl rfl ?_
  refine G_cVI g (pc := 464) (As := []) (st := []) cc_L_117 (c_G_tick l hw.1 M) (hw.1.2 0 (Nat.le_of_ble_eq_true rfl)) (hw.1.k rfl) rfl (by decide) rfl ⟨(Nat.le_of_ble_eq_true rfl), (Nat.le_of_ble_eq_true rfl)⟩ hC0 (Nat.le_of_ble_eq_true rfl) d_W_464 (fun x1 M1 => ?_)
  refine G_aload_n g (pc := 467) 2 d_W_467 rfl rfl ?_
  refine G_cVI g (pc := 468) (As := []) (st := [.int x1]) cc_L_120 (c_M_tick l hw.2.1 M1) (hw.2.1.mm 145 (Nat.le_of_ble_eq_true rfl) (Nat.le_of_ble_eq_true rfl)) (hw.1.k rfl) rfl (by decide) rfl ⟨(Nat.le_of_ble_eq_true rfl), (Nat.le_of_ble_eq_true rfl)⟩ hC0 (Nat.le_of_ble_eq_true rfl) d_W_468 (fun x2 M2 => ?_)
  refine Go.ite (fun h12 => ?_)
  refine H_cmpeq g (pc := 471) 2295 d_W_471 (by decide) h12 ?_
  exact Go.widen (Nat.le_succ _) (Nat.le_add_right _ _) (hK _)
theorem d_W_693 : decode code 693 = .ok (.aload_n 1, 1) := by decide +kernel
theorem d_W_694 : decode code 694 = .ok (.invokevirtual 148, 3) := by decide +kernel
theorem d_W_697 : decode code 697 = .ok (.aload_n 2, 1) := by decide +kernel
theorem d_W_698 : decode code 698 = .ok (.invokevirtual 152, 3) := by decide +kernel
theorem d_W_701 : decode code 701 = .ok (.if_icmp .eq 1594, 3) := by decide +kernel
theorem cc_L_148 : CV "KiteLoggerLaw" 148 y_G_isLanded b_G_isLanded 1 (some .boolean) 0 := ⟨TT_in (i := 544) (by decide +kernel) (by decide +kernel), TT_in (i := 545) (by decide +kernel) (by decide +kernel), TT_in (i := 546) (by decide +kernel) (by decide +kernel), TT_in (i := 88) (by decide +kernel) (by decide +kernel), TT_in (i := 547) (by decide +kernel) (by decide +kernel), ⟨by decide +kernel, by decide +kernel, by decide +kernel⟩⟩
theorem cc_L_152 : CV "KiteLoggerLaw" 152 y_M_isLanded b_M_isLanded 1 (some .boolean) 0 := ⟨TT_in (i := 1509) (by decide +kernel) (by decide +kernel), TT_in (i := 1510) (by decide +kernel) (by decide +kernel), TT_in (i := 1511) (by decide +kernel) (by decide +kernel), TT_in (i := 100) (by decide +kernel) (by decide +kernel), TT_in (i := 1512) (by decide +kernel) (by decide +kernel), ⟨by decide +kernel, by decide +kernel, by decide +kernel⟩⟩
set_option maxHeartbeats 4000000 in
set_option maxRecDepth 100000 in
theorem k_12 (l : Launch) (hst : l.stackTraces = false) (N : Nat) {p : Program} {e : Env} {s : State} {m : MethodId} {args : Array Value} {below : List Frame} {meth : Method} {c : Code} {w : Wc} {k n b Lx ii : Nat} {xs : Nat → Int32} {Qf : Unit → State → Prop} {K : Mem → Option Unit} (g : Gd p s m args meth c w 10 code "KiteLoggerLaw") (hnc : va_Nc exS exI s) (hw : WL w) (hX : LX s w b Lx xs) (hii : ii + 6 ≤ Lx) (hC0 : k ≤ room_1.cells ∧ n ≤ room_1.slots) (hC1 : k + 1 ≤ room_1.cells ∧ n + 6 ≤ room_1.slots) (hK : ∀ M, Go p l e room_1 s m args below meth c w 10 (k + 1) (n + 6) Qf (K M) 2295 (LL w b ii) [] M) (M : Mem) : Go p l e room_1 s m args below meth c w 10 k n Qf  (bnd (f_G_isLanded M) fun x1 M1 => bnd (f_M_isLanded 146 M1) fun x2 M2 => if x1 = x2 then K M2 else none) 693 (LL w b ii) [] M := by
  refine G_aload_n g (pc := 693) 1 d_W_693 rfl rfl ?_
  refine G_cVZ g (pc := 694) (As := []) (st := []) cc_L_148 (c_G_isLanded l hw.1 M) (hw.1.2 0 (Nat.le_of_ble_eq_true rfl)) (hw.1.k rfl) rfl (by decide) rfl ⟨(Nat.le_of_ble_eq_true rfl), (Nat.le_of_ble_eq_true rfl)⟩ hC0 (Nat.le_of_ble_eq_true rfl) d_W_694 (fun x1 M1 => ?_)
  refine G_aload_n g (pc := 697) 2 d_W_697 rfl rfl ?_
  refine G_cVZ g (pc := 698) (As := []) (st := [.int (b2i x1)]) cc_L_152 (c_M_isLanded l hw.2.1 M1) (hw.2.1.mm 145 (Nat.le_of_ble_eq_true rfl) (Nat.le_of_ble_eq_true rfl)) (hw.1.k rfl) rfl (by decide) rfl ⟨(Nat.le_of_ble_eq_true rfl), (Nat.le_of_ble_eq_true rfl)⟩ hC0 (Nat.le_of_ble_eq_true rfl) d_W_698 (fun x2 M2 => ?_)
  refine Go.ite (fun h12 => ?_)
  refine H_cmpeq g (pc := 701) 2295 d_W_701 (by decide) (congrArg b2i h12) ?_
  exact Go.widen (Nat.le_succ _) (Nat.le_add_right _ _) (hK _)
theorem d_W_381 : decode code 381 = .ok (.aload_n 1, 1) := by decide +kernel
theorem d_W_382 : decode code 382 = .ok (.aload_n 0, 1) := by decide +kernel
theorem d_W_383 : decode code 383 = .ok (.iload 5, 2) := by decide +kernel
theorem d_W_385 : decode code 385 = .ok (.iconst 1, 1) := by decide +kernel
theorem d_W_386 : decode code 386 = .ok (.iadd, 1) := by decide +kernel
theorem d_W_387 : decode code 387 = .ok (.iaload, 1) := by decide +kernel
theorem d_W_388 : decode code 388 = .ok (.aload_n 3, 1) := by decide +kernel
theorem d_W_389 : decode code 389 = .ok (.invokestatic 100, 3) := by decide +kernel
theorem d_W_392 : decode code 392 = .ok (.istore 6, 2) := by decide +kernel
theorem d_W_394 : decode code 394 = .ok (.aload_n 2, 1) := by decide +kernel
theorem d_W_395 : decode code 395 = .ok (.aload_n 0, 1) := by decide +kernel
theorem d_W_396 : decode code 396 = .ok (.iload 5, 2) := by decide +kernel
theorem d_W_398 : decode code 398 = .ok (.iconst 1, 1) := by decide +kernel
theorem d_W_399 : decode code 399 = .ok (.iadd, 1) := by decide +kernel
theorem d_W_400 : decode code 400 = .ok (.iaload, 1) := by decide +kernel
theorem d_W_401 : decode code 401 = .ok (.invokevirtual 105, 3) := by decide +kernel
theorem d_W_404 : decode code 404 = .ok (.istore 7, 2) := by decide +kernel
theorem d_W_406 : decode code 406 = .ok (.aload_n 2, 1) := by decide +kernel
theorem d_W_407 : decode code 407 = .ok (.invokevirtual 106, 3) := by decide +kernel
theorem d_W_410 : decode code 410 = .ok (.iload 6, 2) := by decide +kernel
theorem d_W_412 : decode code 412 = .ok (.if_icmp .eq 5, 3) := by decide +kernel
theorem d_W_417 : decode code 417 = .ok (.iload 6, 2) := by decide +kernel
theorem d_W_419 : decode code 419 = .ok (.ifCond .ne 15, 3) := by decide +kernel
theorem d_W_422 : decode code 422 = .ok (.aload_n 3, 1) := by decide +kernel
theorem d_W_423 : decode code 423 = .ok (.iconst 0, 1) := by decide +kernel
theorem d_W_424 : decode code 424 = .ok (.laload, 1) := by decide +kernel
theorem d_W_425 : decode code 425 = .ok (.iload 7, 2) := by decide +kernel
theorem d_W_427 : decode code 427 = .ok (.i2l, 1) := by decide +kernel
theorem d_W_428 : decode code 428 = .ok (.lcmp, 1) := by decide +kernel
theorem d_W_429 : decode code 429 = .ok (.ifCond .eq 5, 3) := by decide +kernel
theorem d_W_434 : decode code 434 = .ok (.goto 1861, 3) := by decide +kernel
theorem cs_L_100 : CSH "KiteLoggerLaw" 100 y_L_loadStation b_L_loadStation 4 [(0, 9, 12, 13)] 3 := ⟨TT_in (i := 774) (by decide +kernel) (by decide +kernel), TT_in (i := 775) (by decide +kernel) (by decide +kernel), TT_in (i := 87) (by decide +kernel) (by decide +kernel), TT_in (i := 776) (by decide +kernel) (by decide +kernel), ⟨by decide +kernel, by decide +kernel, by decide +kernel⟩⟩
theorem cc_L_105 : CV "KiteLoggerLaw" 105 y_M_loadStation b_M_loadStation 2 (some .int) 1 := ⟨TT_in (i := 1859) (by decide +kernel) (by decide +kernel), TT_in (i := 1860) (by decide +kernel) (by decide +kernel), TT_in (i := 1861) (by decide +kernel) (by decide +kernel), TT_in (i := 100) (by decide +kernel) (by decide +kernel), TT_in (i := 1862) (by decide +kernel) (by decide +kernel), ⟨by decide +kernel, by decide +kernel, by decide +kernel⟩⟩
theorem cc_L_106 : CV "KiteLoggerLaw" 106 y_M_thrown b_M_thrown 1 (some .int) 0 := ⟨TT_in (i := 1448) (by decide +kernel) (by decide +kernel), TT_in (i := 1449) (by decide +kernel) (by decide +kernel), TT_in (i := 1450) (by decide +kernel) (by decide +kernel), TT_in (i := 100) (by decide +kernel) (by decide +kernel), TT_in (i := 1451) (by decide +kernel) (by decide +kernel), ⟨by decide +kernel, by decide +kernel, by decide +kernel⟩⟩
set_option maxHeartbeats 4000000 in
set_option maxRecDepth 100000 in
theorem k_1 (l : Launch) (hst : l.stackTraces = false) (N : Nat) {p : Program} {e : Env} {s : State} {m : MethodId} {args : Array Value} {below : List Frame} {meth : Method} {c : Code} {w : Wc} {k n b Lx ii : Nat} {xs : Nat → Int32} {Qf : Unit → State → Prop} {K : Mem → Option Unit} (g : Gd p s m args meth c w 10 code "KiteLoggerLaw") (hnc : va_Nc exS exI s) (hw : WL w) (hX : LX s w b Lx xs) (hii : ii + 6 ≤ Lx) (hC0 : k ≤ room_1.cells ∧ n ≤ room_1.slots) (hC1 : k + 1 ≤ room_1.cells ∧ n + 6 ≤ room_1.slots) (hK : ∀ M, Go p l e room_1 s m args below meth c w 10 (k + 1) (n + 6) Qf (K M) 2295 (LL w b ii) [] M) (M : Mem) : Go p l e room_1 s m args below meth c w 10 k n Qf  (bnd (lwW [(0, 1)] (f_G_loadStation N 146 (xs (ii + 1)) M)) fun x1 M1 => bnd (f_M_loadStation N (xs (ii + 1)) M1) fun x2 M2 => bnd (f_M_thrown M2) fun x3 M3 => if x3 = x1 ∧ (x1 = 0 → M3 156 0 = x2) then K M3 else none) 381 (LL w b ii) [] M := by
  refine G_aload_n g (pc := 381) 1 d_W_381 rfl rfl ?_
  refine G_arg g (pc := 382) hX (j := 1) (j0 := 0) (j5 := 5) hii (by decide) rfl rfl d_W_382 d_W_383 d_W_385 rfl d_W_386 d_W_387 ?_
  refine G_aload_n g (pc := 388) 3 d_W_388 rfl rfl ?_
  refine G_cSH g hnc (pc := 389) (As := [.ref (wad w 0), .int (xs (ii + 1)), .ref (wad w 156)]) (st := []) cs_L_100 (c_L_loadStation l hst N hw (xs (ii + 1)) M) rfl ⟨(Nat.le_of_ble_eq_true rfl), (Nat.le_of_ble_eq_true rfl)⟩ hC1 (Nat.le_of_ble_eq_true rfl) d_W_389 (fun x1 M1 => ?_)
  refine G_istore g (pc := 392) _ d_W_392 (Nat.le_of_ble_eq_true rfl) rfl ?_
  refine G_aload_n g (pc := 394) 3 d_W_394 rfl rfl ?_
  refine G_arg g (pc := 395) hX (j := 1) (j0 := 1) (j5 := 6) hii (by decide) rfl rfl d_W_395 d_W_396 d_W_398 rfl d_W_399 d_W_400 ?_
  refine G_cVI g (pc := 401) (As := [.int (xs (ii + 1))]) (st := []) cc_L_105 (c_M_loadStation l N hw.2.1 (xs (ii + 1)) M1) (hw.2.1.mm 145 (Nat.le_of_ble_eq_true rfl) (Nat.le_of_ble_eq_true rfl)) (hw.1.k rfl) rfl (by decide) rfl ⟨(Nat.le_of_ble_eq_true rfl), (Nat.le_of_ble_eq_true rfl)⟩ hC1 (Nat.le_of_ble_eq_true rfl) d_W_401 (fun x2 M2 => ?_)
  refine G_istore g (pc := 404) _ d_W_404 (Nat.le_of_ble_eq_true rfl) rfl ?_
  refine G_aload_n g (pc := 406) 4 d_W_406 rfl rfl ?_
  refine G_cVI g (pc := 407) (As := []) (st := []) cc_L_106 (c_M_thrown l hw.2.1 M2) (hw.2.1.mm 145 (Nat.le_of_ble_eq_true rfl) (Nat.le_of_ble_eq_true rfl)) (hw.1.k rfl) rfl (by decide) rfl ⟨(Nat.le_of_ble_eq_true rfl), (Nat.le_of_ble_eq_true rfl)⟩ hC1 (Nat.le_of_ble_eq_true rfl) d_W_407 (fun x3 M3 => ?_)
  refine Go.ite (fun h12 => ?_)
  refine G_iload g (pc := 410) 1 d_W_410 rfl ?_
  refine H_cmpeq g (pc := 412) 417 d_W_412 (by decide) h12.1 ?_
  refine G_iload g (pc := 417) 1 d_W_417 rfl ?_
  refine H_ifne g (pc := 419) 434 d_W_419 (by decide) (fun h0 => ?_) (fun h0 => ?_)
  · refine G_goto g (pc := 434) 2295 d_W_434 (by decide) ?_
    refine G_sub [2, 3, 4, 5, 6, 7] _ rfl ?_
    exact hK _
  · refine G_aload_n g (pc := 422) 5 d_W_422 rfl rfl ?_
    refine G_iconst g (pc := 423) (0 : Int32) d_W_423 rfl ?_
    refine G_lald0 g (pc := 424) hw.2.2.1 (hw.1.k rfl) d_W_424 ?_
    refine G_iload g (pc := 425) 0 d_W_425 rfl ?_
    refine G_i2l g (pc := 427) d_W_427 ?_
    refine G_lcmp g (pc := 428) (congrArg Int32.toInt64 (h12.2 h0)) d_W_428 ?_
    refine H_ifeq g (pc := 429) 434 d_W_429 (by decide) (fun _ => ?_) (fun h9 => Go.no (h9 rfl))
    refine G_goto g (pc := 434) 2295 d_W_434 (by decide) ?_
    refine G_sub [2, 3, 4, 5, 6, 7] _ rfl ?_
    exact hK _
theorem d_W_652 : decode code 652 = .ok (.aload_n 1, 1) := by decide +kernel
theorem d_W_653 : decode code 653 = .ok (.invokevirtual 143, 3) := by decide +kernel
theorem d_W_656 : decode code 656 = .ok (.dstore 6, 2) := by decide +kernel
theorem d_W_658 : decode code 658 = .ok (.aload_n 2, 1) := by decide +kernel
theorem d_W_659 : decode code 659 = .ok (.invokevirtual 147, 3) := by decide +kernel
theorem d_W_662 : decode code 662 = .ok (.dstore 8, 2) := by decide +kernel
theorem d_W_664 : decode code 664 = .ok (.dload 6, 2) := by decide +kernel
theorem d_W_666 : decode code 666 = .ok (.dload 8, 2) := by decide +kernel
theorem d_W_668 : decode code 668 = .ok (.dcmp .l, 1) := by decide +kernel
theorem d_W_669 : decode code 669 = .ok (.ifCond .eq 21, 3) := by decide +kernel
theorem d_W_672 : decode code 672 = .ok (.dload 6, 2) := by decide +kernel
theorem d_W_674 : decode code 674 = .ok (.dload 6, 2) := by decide +kernel
theorem d_W_676 : decode code 676 = .ok (.dcmp .l, 1) := by decide +kernel
theorem d_W_677 : decode code 677 = .ok (.ifCond .eq 11, 3) := by decide +kernel
theorem d_W_680 : decode code 680 = .ok (.dload 8, 2) := by decide +kernel
theorem d_W_682 : decode code 682 = .ok (.dload 8, 2) := by decide +kernel
theorem d_W_684 : decode code 684 = .ok (.dcmp .l, 1) := by decide +kernel
theorem d_W_685 : decode code 685 = .ok (.ifCond .ne 5, 3) := by decide +kernel
theorem d_W_690 : decode code 690 = .ok (.goto 1605, 3) := by decide +kernel
theorem cc_L_143 : CV "KiteLoggerLaw" 143 y_G_meanWind b_G_meanWind 1 (some .double) 0 := ⟨TT_in (i := 533) (by decide +kernel) (by decide +kernel), TT_in (i := 534) (by decide +kernel) (by decide +kernel), TT_in (i := 535) (by decide +kernel) (by decide +kernel), TT_in (i := 88) (by decide +kernel) (by decide +kernel), TT_in (i := 536) (by decide +kernel) (by decide +kernel), ⟨by decide +kernel, by decide +kernel, by decide +kernel⟩⟩
theorem cc_L_147 : CV "KiteLoggerLaw" 147 y_M_meanWind b_M_meanWind 3 (some .double) 0 := ⟨TT_in (i := 1502) (by decide +kernel) (by decide +kernel), TT_in (i := 1503) (by decide +kernel) (by decide +kernel), TT_in (i := 1504) (by decide +kernel) (by decide +kernel), TT_in (i := 100) (by decide +kernel) (by decide +kernel), TT_in (i := 1505) (by decide +kernel) (by decide +kernel), ⟨by decide +kernel, by decide +kernel, by decide +kernel⟩⟩
set_option maxHeartbeats 4000000 in
set_option maxRecDepth 100000 in
theorem k_11 (l : Launch) (hst : l.stackTraces = false) (N : Nat) {p : Program} {e : Env} {s : State} {m : MethodId} {args : Array Value} {below : List Frame} {meth : Method} {c : Code} {w : Wc} {k n b Lx ii : Nat} {xs : Nat → Int32} {Qf : Unit → State → Prop} {K : Mem → Option Unit} (g : Gd p s m args meth c w 10 code "KiteLoggerLaw") (hnc : va_Nc exS exI s) (hw : WL w) (hX : LX s w b Lx xs) (hii : ii + 6 ≤ Lx) (hC0 : k ≤ room_1.cells ∧ n ≤ room_1.slots) (hC1 : k + 1 ≤ room_1.cells ∧ n + 6 ≤ room_1.slots) (hK : ∀ M, Go p l e room_1 s m args below meth c w 10 (k + 1) (n + 6) Qf (K M) 2295 (LL w b ii) [] M) (M : Mem) : Go p l e room_1 s m args below meth c w 10 k n Qf  (bnd (f_G_meanWind N 146 M) fun x1 M1 => bnd (f_M_meanWind N 146 M1) fun x2 M2 => if x1 = x2 then K M2 else none) 652 (LL w b ii) [] M := by
  refine G_aload_n g (pc := 652) 1 d_W_652 rfl rfl ?_
  refine G_cVD g (pc := 653) (As := []) (st := []) cc_L_143 (c_G_meanWind l N hw.1 M) (hw.1.2 0 (Nat.le_of_ble_eq_true rfl)) (hw.1.k rfl) rfl (by decide) rfl ⟨(Nat.le_of_ble_eq_true rfl), (Nat.le_of_ble_eq_true rfl)⟩ hC0 (Nat.le_of_ble_eq_true rfl) d_W_653 (fun x1 M1 => ?_)
  refine G_dstore g (pc := 656) _ d_W_656 (Nat.le_of_ble_eq_true rfl) rfl ?_
  refine G_aload_n g (pc := 658) 3 d_W_658 rfl rfl ?_
  refine G_cVD g (pc := 659) (As := []) (st := []) cc_L_147 (c_M_meanWind l N hw.2.1 M1) (hw.2.1.mm 145 (Nat.le_of_ble_eq_true rfl) (Nat.le_of_ble_eq_true rfl)) (hw.1.k rfl) rfl (by decide) rfl ⟨(Nat.le_of_ble_eq_true rfl), (Nat.le_of_ble_eq_true rfl)⟩ hC0 (Nat.le_of_ble_eq_true rfl) d_W_659 (fun x2 M2 => ?_)
  refine G_dstore g (pc := 662) _ d_W_662 (Nat.le_of_ble_eq_true rfl) rfl ?_
  refine Go.ite (fun h12 => ?_)
  subst h12
  refine G_dload g (pc := 664) 1 d_W_664 rfl ?_
  refine G_dload g (pc := 666) 0 d_W_666 rfl ?_
  refine G_dcmp g (pc := 668) d_W_668 ?_
  refine H_ifeq g (pc := 669) 690 d_W_669 (by decide) (fun h0 => ?_) (fun h0 => ?_)
  · refine G_goto g (pc := 690) 2295 d_W_690 (by decide) ?_
    refine G_sub [2, 3, 4, 5, 6, 7] _ rfl ?_
    exact Go.widen (Nat.le_succ _) (Nat.le_add_right _ _) (hK _)
  · refine G_dload g (pc := 672) 1 d_W_672 rfl ?_
    refine G_dload g (pc := 674) 1 d_W_674 rfl ?_
    refine G_dcmp g (pc := 676) d_W_676 ?_
    refine H_ifeq g (pc := 677) 688 d_W_677 (by decide) (fun h1 => Go.no (h0 h1)) (fun h1 => ?_)
    refine G_dload g (pc := 680) 0 d_W_680 rfl ?_
    refine G_dload g (pc := 682) 0 d_W_682 rfl ?_
    refine G_dcmp g (pc := 684) d_W_684 ?_
    refine H_ifne g (pc := 685) 690 d_W_685 (by decide) (fun h2 => ?_) (fun h2 => Go.no (h0 h2))
    refine G_goto g (pc := 690) 2295 d_W_690 (by decide) ?_
    refine G_sub [2, 3, 4, 5, 6, 7] _ rfl ?_
    exact Go.widen (Nat.le_succ _) (Nat.le_add_right _ _) (hK _)
theorem d_W_1471 : decode code 1471 = .ok (.aload_n 1, 1) := by decide +kernel
theorem d_W_1472 : decode code 1472 = .ok (.invokevirtual 258, 3) := by decide +kernel
theorem d_W_1475 : decode code 1475 = .ok (.f2d, 1) := by decide +kernel
theorem d_W_1476 : decode code 1476 = .ok (.dstore 6, 2) := by decide +kernel
theorem d_W_1478 : decode code 1478 = .ok (.aload_n 2, 1) := by decide +kernel
theorem d_W_1479 : decode code 1479 = .ok (.invokevirtual 262, 3) := by decide +kernel
theorem d_W_1482 : decode code 1482 = .ok (.f2d, 1) := by decide +kernel
theorem d_W_1483 : decode code 1483 = .ok (.dstore 8, 2) := by decide +kernel
theorem d_W_1485 : decode code 1485 = .ok (.dload 6, 2) := by decide +kernel
theorem d_W_1487 : decode code 1487 = .ok (.dload 8, 2) := by decide +kernel
theorem d_W_1489 : decode code 1489 = .ok (.dcmp .l, 1) := by decide +kernel
theorem d_W_1490 : decode code 1490 = .ok (.ifCond .eq 21, 3) := by decide +kernel
theorem d_W_1493 : decode code 1493 = .ok (.dload 6, 2) := by decide +kernel
theorem d_W_1495 : decode code 1495 = .ok (.dload 6, 2) := by decide +kernel
theorem d_W_1497 : decode code 1497 = .ok (.dcmp .l, 1) := by decide +kernel
theorem d_W_1498 : decode code 1498 = .ok (.ifCond .eq 11, 3) := by decide +kernel
theorem d_W_1501 : decode code 1501 = .ok (.dload 8, 2) := by decide +kernel
theorem d_W_1503 : decode code 1503 = .ok (.dload 8, 2) := by decide +kernel
theorem d_W_1505 : decode code 1505 = .ok (.dcmp .l, 1) := by decide +kernel
theorem d_W_1506 : decode code 1506 = .ok (.ifCond .ne 5, 3) := by decide +kernel
theorem d_W_1511 : decode code 1511 = .ok (.goto 784, 3) := by decide +kernel
theorem cc_L_258 : CV "KiteLoggerLaw" 258 y_G_archivedShare b_G_archivedShare 1 (some .float) 0 := ⟨TT_in (i := 656) (by decide +kernel) (by decide +kernel), TT_in (i := 657) (by decide +kernel) (by decide +kernel), TT_in (i := 658) (by decide +kernel) (by decide +kernel), TT_in (i := 88) (by decide +kernel) (by decide +kernel), TT_in (i := 659) (by decide +kernel) (by decide +kernel), ⟨by decide +kernel, by decide +kernel, by decide +kernel⟩⟩
theorem cc_L_262 : CV "KiteLoggerLaw" 262 y_M_archivedShare b_M_archivedShare 1 (some .float) 0 := ⟨TT_in (i := 1649) (by decide +kernel) (by decide +kernel), TT_in (i := 1650) (by decide +kernel) (by decide +kernel), TT_in (i := 1651) (by decide +kernel) (by decide +kernel), TT_in (i := 100) (by decide +kernel) (by decide +kernel), TT_in (i := 1652) (by decide +kernel) (by decide +kernel), ⟨by decide +kernel, by decide +kernel, by decide +kernel⟩⟩
set_option maxHeartbeats 4000000 in
set_option maxRecDepth 100000 in
theorem k_41 (l : Launch) (hst : l.stackTraces = false) (N : Nat) {p : Program} {e : Env} {s : State} {m : MethodId} {args : Array Value} {below : List Frame} {meth : Method} {c : Code} {w : Wc} {k n b Lx ii : Nat} {xs : Nat → Int32} {Qf : Unit → State → Prop} {K : Mem → Option Unit} (g : Gd p s m args meth c w 10 code "KiteLoggerLaw") (hnc : va_Nc exS exI s) (hw : WL w) (hX : LX s w b Lx xs) (hii : ii + 6 ≤ Lx) (hC0 : k ≤ room_1.cells ∧ n ≤ room_1.slots) (hC1 : k + 1 ≤ room_1.cells ∧ n + 6 ≤ room_1.slots) (hK : ∀ M, Go p l e room_1 s m args below meth c w 10 (k + 1) (n + 6) Qf (K M) 2295 (LL w b ii) [] M) (M : Mem) : Go p l e room_1 s m args below meth c w 10 k n Qf  (bnd (f_G_archivedShare M) fun x1 M1 => if nn32 x1 = true then (bnd (f_M_archivedShare 146 M1) fun x2 M2 => if nn32 x2 = true then (if FP.f2d x1 = FP.f2d x2 then K M2 else none) else none) else none) 1471 (LL w b ii) [] M := by
  refine G_aload_n g (pc := 1471) 1 d_W_1471 rfl rfl ?_
  refine G_cVF g (pc := 1472) (As := []) (st := []) cc_L_258 (c_G_archivedShare l hw.1 M) (hw.1.2 0 (Nat.le_of_ble_eq_true rfl)) (hw.1.k rfl) rfl (by decide) rfl ⟨(Nat.le_of_ble_eq_true rfl), (Nat.le_of_ble_eq_true rfl)⟩ hC0 (Nat.le_of_ble_eq_true rfl) d_W_1472 (fun x1 M1 => ?_)
  refine Go.ite (fun hn1 => ?_)
  refine G_f2d g (pc := 1475) hn1 d_W_1475 ?_
  refine G_dstore g (pc := 1476) _ d_W_1476 (Nat.le_of_ble_eq_true rfl) rfl ?_
  refine G_aload_n g (pc := 1478) 3 d_W_1478 rfl rfl ?_
  refine G_cVF g (pc := 1479) (As := []) (st := []) cc_L_262 (c_M_archivedShare l hw.2.1 M1) (hw.2.1.mm 145 (Nat.le_of_ble_eq_true rfl) (Nat.le_of_ble_eq_true rfl)) (hw.1.k rfl) rfl (by decide) rfl ⟨(Nat.le_of_ble_eq_true rfl), (Nat.le_of_ble_eq_true rfl)⟩ hC0 (Nat.le_of_ble_eq_true rfl) d_W_1479 (fun x2 M2 => ?_)
  refine Go.ite (fun hn2 => ?_)
  refine G_f2d g (pc := 1482) hn2 d_W_1482 ?_
  refine G_dstore g (pc := 1483) _ d_W_1483 (Nat.le_of_ble_eq_true rfl) rfl ?_
  refine Go.ite (fun h12 => ?_)
  rw [h12]
  refine G_dload g (pc := 1485) 1 d_W_1485 rfl ?_
  refine G_dload g (pc := 1487) 0 d_W_1487 rfl ?_
  refine G_dcmp g (pc := 1489) d_W_1489 ?_
  refine H_ifeq g (pc := 1490) 1511 d_W_1490 (by decide) (fun h0 => ?_) (fun h0 => ?_)
  · refine G_goto g (pc := 1511) 2295 d_W_1511 (by decide) ?_
    refine G_sub [2, 3, 4, 5, 6, 7] _ rfl ?_
    exact Go.widen (Nat.le_succ _) (Nat.le_add_right _ _) (hK _)
  · refine G_dload g (pc := 1493) 1 d_W_1493 rfl ?_
    refine G_dload g (pc := 1495) 1 d_W_1495 rfl ?_
    refine G_dcmp g (pc := 1497) d_W_1497 ?_
    refine H_ifeq g (pc := 1498) 1509 d_W_1498 (by decide) (fun h1 => Go.no (h0 h1)) (fun h1 => ?_)
    refine G_dload g (pc := 1501) 0 d_W_1501 rfl ?_
    refine G_dload g (pc := 1503) 0 d_W_1503 rfl ?_
    refine G_dcmp g (pc := 1505) d_W_1505 ?_
    refine H_ifne g (pc := 1506) 1511 d_W_1506 (by decide) (fun h2 => ?_) (fun h2 => Go.no (h0 h2))
    refine G_goto g (pc := 1511) 2295 d_W_1511 (by decide) ?_
    refine G_sub [2, 3, 4, 5, 6, 7] _ rfl ?_
    exact Go.widen (Nat.le_succ _) (Nat.le_add_right _ _) (hK _)
theorem d_W_1394 : decode code 1394 = .ok (.aload_n 1, 1) := by decide +kernel
theorem d_W_1395 : decode code 1395 = .ok (.aload_n 0, 1) := by decide +kernel
theorem d_W_1396 : decode code 1396 = .ok (.iload 5, 2) := by decide +kernel
theorem d_W_1398 : decode code 1398 = .ok (.iconst 1, 1) := by decide +kernel
theorem d_W_1399 : decode code 1399 = .ok (.iadd, 1) := by decide +kernel
theorem d_W_1400 : decode code 1400 = .ok (.iaload, 1) := by decide +kernel
theorem d_W_1401 : decode code 1401 = .ok (.aload 4, 2) := by decide +kernel
theorem d_W_1403 : decode code 1403 = .ok (.invokestatic 254, 3) := by decide +kernel
theorem d_W_1406 : decode code 1406 = .ok (.istore 6, 2) := by decide +kernel
theorem d_W_1408 : decode code 1408 = .ok (.aload_n 2, 1) := by decide +kernel
theorem d_W_1409 : decode code 1409 = .ok (.aload_n 0, 1) := by decide +kernel
theorem d_W_1410 : decode code 1410 = .ok (.iload 5, 2) := by decide +kernel
theorem d_W_1412 : decode code 1412 = .ok (.iconst 1, 1) := by decide +kernel
theorem d_W_1413 : decode code 1413 = .ok (.iadd, 1) := by decide +kernel
theorem d_W_1414 : decode code 1414 = .ok (.iaload, 1) := by decide +kernel
theorem d_W_1415 : decode code 1415 = .ok (.invokevirtual 257, 3) := by decide +kernel
theorem d_W_1418 : decode code 1418 = .ok (.dstore 7, 2) := by decide +kernel
theorem d_W_1420 : decode code 1420 = .ok (.aload_n 2, 1) := by decide +kernel
theorem d_W_1421 : decode code 1421 = .ok (.invokevirtual 106, 3) := by decide +kernel
theorem d_W_1424 : decode code 1424 = .ok (.iload 6, 2) := by decide +kernel
theorem d_W_1426 : decode code 1426 = .ok (.if_icmp .eq 5, 3) := by decide +kernel
theorem d_W_1431 : decode code 1431 = .ok (.iload 6, 2) := by decide +kernel
theorem d_W_1433 : decode code 1433 = .ok (.ifCond .ne 35, 3) := by decide +kernel
theorem d_W_1436 : decode code 1436 = .ok (.aload 4, 2) := by decide +kernel
theorem d_W_1438 : decode code 1438 = .ok (.iconst 0, 1) := by decide +kernel
theorem d_W_1439 : decode code 1439 = .ok (.daload, 1) := by decide +kernel
theorem d_W_1440 : decode code 1440 = .ok (.dload 7, 2) := by decide +kernel
theorem d_W_1442 : decode code 1442 = .ok (.dcmp .l, 1) := by decide +kernel
theorem d_W_1443 : decode code 1443 = .ok (.ifCond .eq 25, 3) := by decide +kernel
theorem d_W_1446 : decode code 1446 = .ok (.aload 4, 2) := by decide +kernel
theorem d_W_1448 : decode code 1448 = .ok (.iconst 0, 1) := by decide +kernel
theorem d_W_1449 : decode code 1449 = .ok (.daload, 1) := by decide +kernel
theorem d_W_1450 : decode code 1450 = .ok (.aload 4, 2) := by decide +kernel
theorem d_W_1452 : decode code 1452 = .ok (.iconst 0, 1) := by decide +kernel
theorem d_W_1453 : decode code 1453 = .ok (.daload, 1) := by decide +kernel
theorem d_W_1454 : decode code 1454 = .ok (.dcmp .l, 1) := by decide +kernel
theorem d_W_1455 : decode code 1455 = .ok (.ifCond .eq 11, 3) := by decide +kernel
theorem d_W_1458 : decode code 1458 = .ok (.dload 7, 2) := by decide +kernel
theorem d_W_1460 : decode code 1460 = .ok (.dload 7, 2) := by decide +kernel
theorem d_W_1462 : decode code 1462 = .ok (.dcmp .l, 1) := by decide +kernel
theorem d_W_1463 : decode code 1463 = .ok (.ifCond .ne 5, 3) := by decide +kernel
theorem d_W_1468 : decode code 1468 = .ok (.goto 827, 3) := by decide +kernel
theorem cs_L_254 : CSH "KiteLoggerLaw" 254 y_L_meanGust b_L_meanGust 4 [(0, 8, 11, 13)] 3 := ⟨TT_in (i := 1070) (by decide +kernel) (by decide +kernel), TT_in (i := 1071) (by decide +kernel) (by decide +kernel), TT_in (i := 87) (by decide +kernel) (by decide +kernel), TT_in (i := 1072) (by decide +kernel) (by decide +kernel), ⟨by decide +kernel, by decide +kernel, by decide +kernel⟩⟩
theorem cc_L_257 : CV "KiteLoggerLaw" 257 y_M_meanGust b_M_meanGust 4 (some .double) 1 := ⟨TT_in (i := 1645) (by decide +kernel) (by decide +kernel), TT_in (i := 1646) (by decide +kernel) (by decide +kernel), TT_in (i := 1647) (by decide +kernel) (by decide +kernel), TT_in (i := 100) (by decide +kernel) (by decide +kernel), TT_in (i := 1648) (by decide +kernel) (by decide +kernel), ⟨by decide +kernel, by decide +kernel, by decide +kernel⟩⟩
set_option maxHeartbeats 4000000 in
set_option maxRecDepth 100000 in
theorem k_40 (l : Launch) (hst : l.stackTraces = false) (N : Nat) {p : Program} {e : Env} {s : State} {m : MethodId} {args : Array Value} {below : List Frame} {meth : Method} {c : Code} {w : Wc} {k n b Lx ii : Nat} {xs : Nat → Int32} {Qf : Unit → State → Prop} {K : Mem → Option Unit} (g : Gd p s m args meth c w 10 code "KiteLoggerLaw") (hnc : va_Nc exS exI s) (hw : WL w) (hX : LX s w b Lx xs) (hii : ii + 6 ≤ Lx) (hC0 : k ≤ room_1.cells ∧ n ≤ room_1.slots) (hC1 : k + 1 ≤ room_1.cells ∧ n + 6 ≤ room_1.slots) (hK : ∀ M, Go p l e room_1 s m args below meth c w 10 (k + 1) (n + 6) Qf (K M) 2295 (LL w b ii) [] M) (M : Mem) : Go p l e room_1 s m args below meth c w 10 k n Qf  (bnd (lwD [(0, 1)] (f_G_meanGust N 146 (xs (ii + 1)) M)) fun x1 M1 => bnd (f_M_meanGust N 146 (xs (ii + 1)) M1) fun x2 M2 => bnd (f_M_thrown M2) fun x3 M3 => if x3 = x1 ∧ (x1 = 0 → dcomb (M3 157 0) (M3 157 1) = x2) then K M3 else none) 1394 (LL w b ii) [] M := by
  refine G_aload_n g (pc := 1394) 1 d_W_1394 rfl rfl ?_
  refine G_arg g (pc := 1395) hX (j := 1) (j0 := 0) (j5 := 5) hii (by decide) rfl rfl d_W_1395 d_W_1396 d_W_1398 rfl d_W_1399 d_W_1400 ?_
  refine G_aload g (pc := 1401) 4 d_W_1401 rfl ?_
  refine G_cSH g hnc (pc := 1403) (As := [.ref (wad w 0), .int (xs (ii + 1)), .ref (wad w 157)]) (st := []) cs_L_254 (c_L_meanGust l hst N hw (xs (ii + 1)) M) rfl ⟨(Nat.le_of_ble_eq_true rfl), (Nat.le_of_ble_eq_true rfl)⟩ hC1 (Nat.le_of_ble_eq_true rfl) d_W_1403 (fun x1 M1 => ?_)
  refine G_istore g (pc := 1406) _ d_W_1406 (Nat.le_of_ble_eq_true rfl) rfl ?_
  refine G_aload_n g (pc := 1408) 3 d_W_1408 rfl rfl ?_
  refine G_arg g (pc := 1409) hX (j := 1) (j0 := 1) (j5 := 6) hii (by decide) rfl rfl d_W_1409 d_W_1410 d_W_1412 rfl d_W_1413 d_W_1414 ?_
  refine G_cVD g (pc := 1415) (As := [.int (xs (ii + 1))]) (st := []) cc_L_257 (c_M_meanGust l N hw.2.1 (xs (ii + 1)) M1) (hw.2.1.mm 145 (Nat.le_of_ble_eq_true rfl) (Nat.le_of_ble_eq_true rfl)) (hw.1.k rfl) rfl (by decide) rfl ⟨(Nat.le_of_ble_eq_true rfl), (Nat.le_of_ble_eq_true rfl)⟩ hC1 (Nat.le_of_ble_eq_true rfl) d_W_1415 (fun x2 M2 => ?_)
  refine G_dstore g (pc := 1418) _ d_W_1418 (Nat.le_of_ble_eq_true rfl) rfl ?_
  refine G_aload_n g (pc := 1420) 4 d_W_1420 rfl rfl ?_
  refine G_cVI g (pc := 1421) (As := []) (st := []) cc_L_106 (c_M_thrown l hw.2.1 M2) (hw.2.1.mm 145 (Nat.le_of_ble_eq_true rfl) (Nat.le_of_ble_eq_true rfl)) (hw.1.k rfl) rfl (by decide) rfl ⟨(Nat.le_of_ble_eq_true rfl), (Nat.le_of_ble_eq_true rfl)⟩ hC1 (Nat.le_of_ble_eq_true rfl) d_W_1421 (fun x3 M3 => ?_)
  refine Go.ite (fun h12 => ?_)
  refine G_iload g (pc := 1424) 1 d_W_1424 rfl ?_
  refine H_cmpeq g (pc := 1426) 1431 d_W_1426 (by decide) h12.1 ?_
  refine G_iload g (pc := 1431) 1 d_W_1431 rfl ?_
  refine H_ifne g (pc := 1433) 1468 d_W_1433 (by decide) (fun h0 => ?_) (fun h0 => ?_)
  · refine G_goto g (pc := 1468) 2295 d_W_1468 (by decide) ?_
    refine G_sub [2, 3, 4, 5, 6, 7] _ rfl ?_
    exact hK _
  · refine G_aload g (pc := 1436) 6 d_W_1436 rfl ?_
    refine G_iconst g (pc := 1438) (0 : Int32) d_W_1438 rfl ?_
    refine G_dald0 g (pc := 1439) hw.2.2.2 (hw.1.k rfl) d_W_1439 ?_
    refine G_dload g (pc := 1440) 0 d_W_1440 rfl ?_
    refine G_dcmp g (pc := 1442) d_W_1442 ?_
    rw [h12.2 h0]
    refine H_ifeq g (pc := 1443) 1468 d_W_1443 (by decide) (fun h1 => ?_) (fun h1 => ?_)
    · refine G_goto g (pc := 1468) 2295 d_W_1468 (by decide) ?_
      refine G_sub [2, 3, 4, 5, 6, 7] _ rfl ?_
      exact hK _
    · refine G_aload g (pc := 1446) 6 d_W_1446 rfl ?_
      refine G_iconst g (pc := 1448) (0 : Int32) d_W_1448 rfl ?_
      refine G_dald0 g (pc := 1449) hw.2.2.2 (hw.1.k rfl) d_W_1449 ?_
      refine G_aload g (pc := 1450) 6 d_W_1450 rfl ?_
      refine G_iconst g (pc := 1452) (0 : Int32) d_W_1452 rfl ?_
      refine G_dald0 g (pc := 1453) hw.2.2.2 (hw.1.k rfl) d_W_1453 ?_
      refine G_dcmp g (pc := 1454) d_W_1454 ?_
      rw [h12.2 h0]
      refine H_ifeq g (pc := 1455) 1466 d_W_1455 (by decide) (fun h2 => Go.no (h1 h2)) (fun _ => ?_)
      refine G_dload g (pc := 1458) 0 d_W_1458 rfl ?_
      refine G_dload g (pc := 1460) 0 d_W_1460 rfl ?_
      refine G_dcmp g (pc := 1462) d_W_1462 ?_
      refine H_ifne g (pc := 1463) 1468 d_W_1463 (by decide) (fun _ => ?_) (fun h2 => Go.no (h1 h2))
      refine G_goto g (pc := 1468) 2295 d_W_1468 (by decide) ?_
      refine G_sub [2, 3, 4, 5, 6, 7] _ rfl ?_
      exact hK _
theorem d_W_2240 : decode code 2240 = .ok (.aload_n 1, 1) := by decide +kernel
theorem d_W_2241 : decode code 2241 = .ok (.invokevirtual 325, 3) := by decide +kernel
theorem d_W_2244 : decode code 2244 = .ok (.aload_n 2, 1) := by decide +kernel
theorem d_W_2245 : decode code 2245 = .ok (.invokevirtual 328, 3) := by decide +kernel
theorem d_W_2248 : decode code 2248 = .ok (.goto 47, 3) := by decide +kernel
theorem cc_L_325 : CV "KiteLoggerLaw" 325 y_G_saveSnapshot b_G_saveSnapshot 1 none 0 := ⟨TT_in (i := 755) (by decide +kernel) (by decide +kernel), TT_in (i := 756) (by decide +kernel) (by decide +kernel), TT_in (i := 757) (by decide +kernel) (by decide +kernel), TT_in (i := 88) (by decide +kernel) (by decide +kernel), TT_in (i := 758) (by decide +kernel) (by decide +kernel), ⟨by decide +kernel, by decide +kernel, by decide +kernel⟩⟩
theorem cc_L_328 : CV "KiteLoggerLaw" 328 y_M_saveSnapshot b_M_saveSnapshot 1 none 0 := ⟨TT_in (i := 1839) (by decide +kernel) (by decide +kernel), TT_in (i := 1840) (by decide +kernel) (by decide +kernel), TT_in (i := 1841) (by decide +kernel) (by decide +kernel), TT_in (i := 100) (by decide +kernel) (by decide +kernel), TT_in (i := 1842) (by decide +kernel) (by decide +kernel), ⟨by decide +kernel, by decide +kernel, by decide +kernel⟩⟩
set_option maxHeartbeats 4000000 in
set_option maxRecDepth 100000 in
theorem k_60 (l : Launch) (hst : l.stackTraces = false) (N : Nat) {p : Program} {e : Env} {s : State} {m : MethodId} {args : Array Value} {below : List Frame} {meth : Method} {c : Code} {w : Wc} {k n b Lx ii : Nat} {xs : Nat → Int32} {Qf : Unit → State → Prop} {K : Mem → Option Unit} (g : Gd p s m args meth c w 10 code "KiteLoggerLaw") (hnc : va_Nc exS exI s) (hw : WL w) (hX : LX s w b Lx xs) (hii : ii + 6 ≤ Lx) (hC0 : k ≤ room_1.cells ∧ n ≤ room_1.slots) (hC1 : k + 1 ≤ room_1.cells ∧ n + 6 ≤ room_1.slots) (hK : ∀ M, Go p l e room_1 s m args below meth c w 10 (k + 1) (n + 6) Qf (K M) 2295 (LL w b ii) [] M) (M : Mem) : Go p l e room_1 s m args below meth c w 10 k n Qf  (bndM (f_G_saveSnapshot M) fun M1 => bndM (f_M_saveSnapshot M1) fun M2 => K M2) 2240 (LL w b ii) [] M := by
  refine G_aload_n g (pc := 2240) 1 d_W_2240 rfl rfl ?_
  refine G_cVV g (pc := 2241) (As := []) (st := []) cc_L_325 (c_G_saveSnapshot l hw.1 M) (hw.1.2 0 (Nat.le_of_ble_eq_true rfl)) (hw.1.k rfl) rfl (by decide) rfl ⟨(Nat.le_of_ble_eq_true rfl), (Nat.le_of_ble_eq_true rfl)⟩ hC0 (Nat.le_of_ble_eq_true rfl) d_W_2241 (fun M1 => ?_)
  refine G_aload_n g (pc := 2244) 2 d_W_2244 rfl rfl ?_
  refine G_cVV g (pc := 2245) (As := []) (st := []) cc_L_328 (c_M_saveSnapshot l hw.2.1 M1) (hw.2.1.mm 145 (Nat.le_of_ble_eq_true rfl) (Nat.le_of_ble_eq_true rfl)) (hw.1.k rfl) rfl (by decide) rfl ⟨(Nat.le_of_ble_eq_true rfl), (Nat.le_of_ble_eq_true rfl)⟩ hC0 (Nat.le_of_ble_eq_true rfl) d_W_2245 (fun M2 => ?_)
  refine G_goto g (pc := 2248) 2295 d_W_2248 (by decide) ?_
  exact Go.widen (Nat.le_succ _) (Nat.le_add_right _ _) (hK _)
theorem d_W_2058 : decode code 2058 = .ok (.aload_n 1, 1) := by decide +kernel
theorem d_W_2059 : decode code 2059 = .ok (.aload_n 0, 1) := by decide +kernel
theorem d_W_2060 : decode code 2060 = .ok (.iload 5, 2) := by decide +kernel
theorem d_W_2062 : decode code 2062 = .ok (.iconst 1, 1) := by decide +kernel
theorem d_W_2063 : decode code 2063 = .ok (.iadd, 1) := by decide +kernel
theorem d_W_2064 : decode code 2064 = .ok (.iaload, 1) := by decide +kernel
theorem d_W_2065 : decode code 2065 = .ok (.aload_n 3, 1) := by decide +kernel
theorem d_W_2066 : decode code 2066 = .ok (.invokestatic 308, 3) := by decide +kernel
theorem d_W_2069 : decode code 2069 = .ok (.istore 6, 2) := by decide +kernel
theorem d_W_2071 : decode code 2071 = .ok (.aload_n 2, 1) := by decide +kernel
theorem d_W_2072 : decode code 2072 = .ok (.aload_n 0, 1) := by decide +kernel
theorem d_W_2073 : decode code 2073 = .ok (.iload 5, 2) := by decide +kernel
theorem d_W_2075 : decode code 2075 = .ok (.iconst 1, 1) := by decide +kernel
theorem d_W_2076 : decode code 2076 = .ok (.iadd, 1) := by decide +kernel
theorem d_W_2077 : decode code 2077 = .ok (.iaload, 1) := by decide +kernel
theorem d_W_2078 : decode code 2078 = .ok (.invokevirtual 310, 3) := by decide +kernel
theorem d_W_2081 : decode code 2081 = .ok (.istore 7, 2) := by decide +kernel
theorem d_W_2083 : decode code 2083 = .ok (.aload_n 2, 1) := by decide +kernel
theorem d_W_2084 : decode code 2084 = .ok (.invokevirtual 106, 3) := by decide +kernel
theorem d_W_2087 : decode code 2087 = .ok (.iload 6, 2) := by decide +kernel
theorem d_W_2089 : decode code 2089 = .ok (.if_icmp .eq 5, 3) := by decide +kernel
theorem d_W_2094 : decode code 2094 = .ok (.iload 6, 2) := by decide +kernel
theorem d_W_2096 : decode code 2096 = .ok (.ifCond .ne 15, 3) := by decide +kernel
theorem d_W_2099 : decode code 2099 = .ok (.aload_n 3, 1) := by decide +kernel
theorem d_W_2100 : decode code 2100 = .ok (.iconst 0, 1) := by decide +kernel
theorem d_W_2101 : decode code 2101 = .ok (.laload, 1) := by decide +kernel
theorem d_W_2102 : decode code 2102 = .ok (.iload 7, 2) := by decide +kernel
theorem d_W_2104 : decode code 2104 = .ok (.i2l, 1) := by decide +kernel
theorem d_W_2105 : decode code 2105 = .ok (.lcmp, 1) := by decide +kernel
theorem d_W_2106 : decode code 2106 = .ok (.ifCond .eq 5, 3) := by decide +kernel
theorem d_W_2111 : decode code 2111 = .ok (.goto 184, 3) := by decide +kernel
theorem cs_L_308 : CSH "KiteLoggerLaw" 308 y_L_runScript b_L_runScript 4 [(0, 9, 12, 13)] 3 := ⟨TT_in (i := 1247) (by decide +kernel) (by decide +kernel), TT_in (i := 1248) (by decide +kernel) (by decide +kernel), TT_in (i := 87) (by decide +kernel) (by decide +kernel), TT_in (i := 1249) (by decide +kernel) (by decide +kernel), ⟨by decide +kernel, by decide +kernel, by decide +kernel⟩⟩
theorem cc_L_310 : CV "KiteLoggerLaw" 310 y_M_runScript b_M_runScript 3 (some .int) 1 := ⟨TT_in (i := 1941) (by decide +kernel) (by decide +kernel), TT_in (i := 1942) (by decide +kernel) (by decide +kernel), TT_in (i := 1943) (by decide +kernel) (by decide +kernel), TT_in (i := 100) (by decide +kernel) (by decide +kernel), TT_in (i := 1944) (by decide +kernel) (by decide +kernel), ⟨by decide +kernel, by decide +kernel, by decide +kernel⟩⟩
set_option maxHeartbeats 4000000 in
set_option maxRecDepth 100000 in
theorem k_55 (l : Launch) (hst : l.stackTraces = false) (N : Nat) {p : Program} {e : Env} {s : State} {m : MethodId} {args : Array Value} {below : List Frame} {meth : Method} {c : Code} {w : Wc} {k n b Lx ii : Nat} {xs : Nat → Int32} {Qf : Unit → State → Prop} {K : Mem → Option Unit} (g : Gd p s m args meth c w 10 code "KiteLoggerLaw") (hnc : va_Nc exS exI s) (hw : WL w) (hX : LX s w b Lx xs) (hii : ii + 6 ≤ Lx) (hC0 : k ≤ room_1.cells ∧ n ≤ room_1.slots) (hC1 : k + 1 ≤ room_1.cells ∧ n + 6 ≤ room_1.slots) (hK : ∀ M, Go p l e room_1 s m args below meth c w 10 (k + 1) (n + 6) Qf (K M) 2295 (LL w b ii) [] M) (M : Mem) : Go p l e room_1 s m args below meth c w 10 k n Qf  (bnd (lwW [(0, 1)] (f_G_runScript N 146 (xs (ii + 1)) M)) fun x1 M1 => bnd (f_M_runScript N 146 (xs (ii + 1)) M1) fun x2 M2 => bnd (f_M_thrown M2) fun x3 M3 => if x3 = x1 ∧ (x1 = 0 → M3 156 0 = x2) then K M3 else none) 2058 (LL w b ii) [] M := by
  refine G_aload_n g (pc := 2058) 1 d_W_2058 rfl rfl ?_
  refine G_arg g (pc := 2059) hX (j := 1) (j0 := 0) (j5 := 5) hii (by decide) rfl rfl d_W_2059 d_W_2060 d_W_2062 rfl d_W_2063 d_W_2064 ?_
  refine G_aload_n g (pc := 2065) 3 d_W_2065 rfl rfl ?_
  refine G_cSH g hnc (pc := 2066) (As := [.ref (wad w 0), .int (xs (ii + 1)), .ref (wad w 156)]) (st := []) cs_L_308 (c_L_runScript l hst N hw (xs (ii + 1)) M) rfl ⟨(Nat.le_of_ble_eq_true rfl), (Nat.le_of_ble_eq_true rfl)⟩ hC1 (Nat.le_of_ble_eq_true rfl) d_W_2066 (fun x1 M1 => ?_)
  refine G_istore g (pc := 2069) _ d_W_2069 (Nat.le_of_ble_eq_true rfl) rfl ?_
  refine G_aload_n g (pc := 2071) 3 d_W_2071 rfl rfl ?_
  refine G_arg g (pc := 2072) hX (j := 1) (j0 := 1) (j5 := 6) hii (by decide) rfl rfl d_W_2072 d_W_2073 d_W_2075 rfl d_W_2076 d_W_2077 ?_
  refine G_cVI g (pc := 2078) (As := [.int (xs (ii + 1))]) (st := []) cc_L_310 (c_M_runScript l N hw.2.1 (xs (ii + 1)) M1) (hw.2.1.mm 145 (Nat.le_of_ble_eq_true rfl) (Nat.le_of_ble_eq_true rfl)) (hw.1.k rfl) rfl (by decide) rfl ⟨(Nat.le_of_ble_eq_true rfl), (Nat.le_of_ble_eq_true rfl)⟩ hC1 (Nat.le_of_ble_eq_true rfl) d_W_2078 (fun x2 M2 => ?_)
  refine G_istore g (pc := 2081) _ d_W_2081 (Nat.le_of_ble_eq_true rfl) rfl ?_
  refine G_aload_n g (pc := 2083) 4 d_W_2083 rfl rfl ?_
  refine G_cVI g (pc := 2084) (As := []) (st := []) cc_L_106 (c_M_thrown l hw.2.1 M2) (hw.2.1.mm 145 (Nat.le_of_ble_eq_true rfl) (Nat.le_of_ble_eq_true rfl)) (hw.1.k rfl) rfl (by decide) rfl ⟨(Nat.le_of_ble_eq_true rfl), (Nat.le_of_ble_eq_true rfl)⟩ hC1 (Nat.le_of_ble_eq_true rfl) d_W_2084 (fun x3 M3 => ?_)
  refine Go.ite (fun h12 => ?_)
  refine G_iload g (pc := 2087) 1 d_W_2087 rfl ?_
  refine H_cmpeq g (pc := 2089) 2094 d_W_2089 (by decide) h12.1 ?_
  refine G_iload g (pc := 2094) 1 d_W_2094 rfl ?_
  refine H_ifne g (pc := 2096) 2111 d_W_2096 (by decide) (fun h0 => ?_) (fun h0 => ?_)
  · refine G_goto g (pc := 2111) 2295 d_W_2111 (by decide) ?_
    refine G_sub [2, 3, 4, 5, 6, 7] _ rfl ?_
    exact hK _
  · refine G_aload_n g (pc := 2099) 5 d_W_2099 rfl rfl ?_
    refine G_iconst g (pc := 2100) (0 : Int32) d_W_2100 rfl ?_
    refine G_lald0 g (pc := 2101) hw.2.2.1 (hw.1.k rfl) d_W_2101 ?_
    refine G_iload g (pc := 2102) 0 d_W_2102 rfl ?_
    refine G_i2l g (pc := 2104) d_W_2104 ?_
    refine G_lcmp g (pc := 2105) (congrArg Int32.toInt64 (h12.2 h0)) d_W_2105 ?_
    refine H_ifeq g (pc := 2106) 2111 d_W_2106 (by decide) (fun _ => ?_) (fun h9 => Go.no (h9 rfl))
    refine G_goto g (pc := 2111) 2295 d_W_2111 (by decide) ?_
    refine G_sub [2, 3, 4, 5, 6, 7] _ rfl ?_
    exact hK _
