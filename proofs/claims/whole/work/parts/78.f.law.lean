/-! more cases -/
theorem d_W_1394 : decode code 1394 = .ok (.aload_n 1, 1) := by decide +kernel
theorem d_W_1395 : decode code 1395 = .ok (.aload_n 0, 1) := by decide +kernel
theorem d_W_1396 : decode code 1396 = .ok (.iload 5, 2) := by decide +kernel
theorem d_W_1398 : decode code 1398 = .ok (.iconst 1, 1) := by decide +kernel
theorem d_W_1399 : decode code 1399 = .ok (.iadd, 1) := by decide +kernel
theorem d_W_1400 : decode code 1400 = .ok (.iaload, 1) := by decide +kernel
theorem d_W_1401 : decode code 1401 = .ok (.aload 4, 2) := by decide +kernel
theorem d_W_1403 : decode code 1403 = .ok (.invokestatic 254, 3) := by decide +kernel
theorem d_W_1406 : decode code 1406 = .ok (.istore 6, 2) := by decide +kernel
theorem d_W_1408 : decode code 1408 = .ok (.aload_n 2, 1) := by decide +kernel
theorem d_W_1409 : decode code 1409 = .ok (.aload_n 0, 1) := by decide +kernel
theorem d_W_1410 : decode code 1410 = .ok (.iload 5, 2) := by decide +kernel
theorem d_W_1412 : decode code 1412 = .ok (.iconst 1, 1) := by decide +kernel
theorem d_W_1413 : decode code 1413 = .ok (.iadd, 1) := by decide +kernel
theorem d_W_1414 : decode code 1414 = .ok (.iaload, 1) := by decide +kernel
theorem d_W_1415 : decode code 1415 = .ok (.invokevirtual 257, 3) := by decide +kernel
theorem d_W_1418 : decode code 1418 = .ok (.dstore 7, 2) := by decide +kernel
theorem d_W_1420 : decode code 1420 = .ok (.aload_n 2, 1) := by decide +kernel
theorem d_W_1421 : decode code 1421 = .ok (.invokevirtual 106, 3) := by decide +kernel
theorem d_W_1424 : decode code 1424 = .ok (.iload 6, 2) := by decide +kernel
theorem d_W_1426 : decode code 1426 = .ok (.if_icmp .eq 5, 3) := by decide +kernel
theorem d_W_1431 : decode code 1431 = .ok (.iload 6, 2) := by decide +kernel
theorem d_W_1433 : decode code 1433 = .ok (.ifCond .ne 35, 3) := by decide +kernel
theorem d_W_1436 : decode code 1436 = .ok (.aload 4, 2) := by decide +kernel
theorem d_W_1438 : decode code 1438 = .ok (.iconst 0, 1) := by decide +kernel
theorem d_W_1439 : decode code 1439 = .ok (.daload, 1) := by decide +kernel
theorem d_W_1440 : decode code 1440 = .ok (.dload 7, 2) := by decide +kernel
theorem d_W_1442 : decode code 1442 = .ok (.dcmp .l, 1) := by decide +kernel
theorem d_W_1443 : decode code 1443 = .ok (.ifCond .eq 25, 3) := by decide +kernel
theorem d_W_1446 : decode code 1446 = .ok (.aload 4, 2) := by decide +kernel
theorem d_W_1448 : decode code 1448 = .ok (.iconst 0, 1) := by decide +kernel
theorem d_W_1449 : decode code 1449 = .ok (.daload, 1) := by decide +kernel
theorem d_W_1450 : decode code 1450 = .ok (.aload 4, 2) := by decide +kernel
theorem d_W_1452 : decode code 1452 = .ok (.iconst 0, 1) := by decide +kernel
theorem d_W_1453 : decode code 1453 = .ok (.daload, 1) := by decide +kernel
theorem d_W_1454 : decode code 1454 = .ok (.dcmp .l, 1) := by decide +kernel
theorem d_W_1455 : decode code 1455 = .ok (.ifCond .eq 11, 3) := by decide +kernel
theorem d_W_1458 : decode code 1458 = .ok (.dload 7, 2) := by decide +kernel
theorem d_W_1460 : decode code 1460 = .ok (.dload 7, 2) := by decide +kernel
theorem d_W_1462 : decode code 1462 = .ok (.dcmp .l, 1) := by decide +kernel
theorem d_W_1463 : decode code 1463 = .ok (.ifCond .ne 5, 3) := by decide +kernel
theorem d_W_1468 : decode code 1468 = .ok (.goto 827, 3) := by decide +kernel
theorem cs_L_254 : CSH "KiteLoggerLaw" 254 y_L_meanGust b_L_meanGust 4 [(0, 8, 11, 13)] 3 := ⟨TT_in (i := 1070) (by decide +kernel) (by decide +kernel), TT_in (i := 1071) (by decide +kernel) (by decide +kernel), TT_in (i := 87) (by decide +kernel) (by decide +kernel), TT_in (i := 1072) (by decide +kernel) (by decide +kernel), ⟨by decide +kernel, by decide +kernel, by decide +kernel⟩⟩
theorem cc_L_257 : CV "KiteLoggerLaw" 257 y_M_meanGust b_M_meanGust 4 (some .double) 1 := ⟨TT_in (i := 1644) (by decide +kernel) (by decide +kernel), TT_in (i := 1645) (by decide +kernel) (by decide +kernel), TT_in (i := 1646) (by decide +kernel) (by decide +kernel), TT_in (i := 100) (by decide +kernel) (by decide +kernel), TT_in (i := 1647) (by decide +kernel) (by decide +kernel), ⟨by decide +kernel, by decide +kernel, by decide +kernel⟩⟩
set_option maxHeartbeats 4000000 in
set_option maxRecDepth 100000 in
theorem k_40 (l : Launch) (hst : l.stackTraces = false) (N : Nat) {p : Program} {e : Env} {s : State} {m : MethodId} {args : Array Value} {below : List Frame} {meth : Method} {c : Code} {w : Wc} {k n b Lx ii : Nat} {xs : Nat → Int32} {Qf : Unit → State → Prop} {K : Mem → Option Unit} (g : Gd p s m args meth c w 10 code "KiteLoggerLaw") (hnc : va_Nc exS exI s) (hw : WL w) (hX : LX s w b Lx xs) (hii : ii + 6 ≤ Lx) (hC0 : k ≤ room_1.cells ∧ n ≤ room_1.slots) (hC1 : k + 1 ≤ room_1.cells ∧ n + 6 ≤ room_1.slots) (hK : ∀ M, Go p l e room_1 s m args below meth c w 10 (k + 1) (n + 6) Qf (K M) 2295 (LL w b ii) [] M) (M : Mem) : Go p l e room_1 s m args below meth c w 10 k n Qf  (bnd (lwD [(0, 1)] (f_G_meanGust N 146 (xs (ii + 1)) M)) fun x1 M1 => bnd (f_M_meanGust N 146 (xs (ii + 1)) M1) fun x2 M2 => bnd (f_M_thrown M2) fun x3 M3 => if x3 = x1 ∧ (x1 = 0 → dcomb (M3 157 0) (M3 157 1) = x2) then K M3 else none) 1394 (LL w b ii) [] M := by
  refine G_aload_n g (pc := 1394) 1 d_W_1394 rfl rfl ?_
  refine G_arg g (pc := 1395) hX (j := 1) (j0 := 0) (j5 := 5) hii (by decide) rfl rfl d_W_1395 d_W_1396 d_W_1398 rfl d_W_1399 d_W_1400 ?_
  refine G_aload g (pc := 1401) 4 d_W_1401 rfl ?_
  refine G_cSH g hnc (pc := 1403) (As := [.ref (wad w 0), .int (xs (ii + 1)), .ref (wad w 157)]) (st := []) cs_L_254 (c_L_meanGust l hst N hw (xs (ii + 1)) M) rfl ⟨(Nat.le_of_ble_eq_true rfl), (Nat.le_of_ble_eq_true rfl)⟩ hC1 (Nat.le_of_ble_eq_true rfl) d_W_1403 (fun x1 M1 => ?_)
  refine G_istore g (pc := 1406) _ d_W_1406 (Nat.le_of_ble_eq_true rfl) rfl ?_
  refine G_aload_n g (pc := 1408) 3 d_W_1408 rfl rfl ?_
  refine G_arg g (pc := 1409) hX (j := 1) (j0 := 1) (j5 := 6) hii (by decide) rfl rfl d_W_1409 d_W_1410 d_W_1412 rfl d_W_1413 d_W_1414 ?_
  refine G_cVD g (pc := 1415) (As := [.int (xs (ii + 1))]) (st := []) cc_L_257 (c_M_meanGust l N hw.2.1 (xs (ii + 1)) M1) (hw.2.1.mm 145 (Nat.le_of_ble_eq_true rfl) (Nat.le_of_ble_eq_true rfl)) (hw.1.k rfl) rfl (by decide) rfl ⟨(Nat.le_of_ble_eq_true rfl), (Nat.le_of_ble_eq_true rfl)⟩ hC1 (Nat.le_of_ble_eq_true rfl) d_W_1415 (fun x2 M2 => ?_)
  refine G_dstore g (pc := 1418) _ d_W_1418 (Nat.le_of_ble_eq_true rfl) rfl ?_
  refine G_aload_n g (pc := 1420) 4 d_W_1420 rfl rfl ?_
  refine G_cVI g (pc := 1421) (As := []) (st := []) cc_L_106 (c_M_thrown l hw.2.1 M2) (hw.2.1.mm 145 (Nat.le_of_ble_eq_true rfl) (Nat.le_of_ble_eq_true rfl)) (hw.1.k rfl) rfl (by decide) rfl ⟨(Nat.le_of_ble_eq_true rfl), (Nat.le_of_ble_eq_true rfl)⟩ hC1 (Nat.le_of_ble_eq_true rfl) d_W_1421 (fun x3 M3 => ?_)
  refine Go.ite (fun h12 => ?_)
  refine G_iload g (pc := 1424) 1 d_W_1424 rfl ?_
  refine H_cmpeq g (pc := 1426) 1431 d_W_1426 (by decide) h12.1 ?_
  refine G_iload g (pc := 1431) 1 d_W_1431 rfl ?_
  refine H_ifne g (pc := 1433) 1468 d_W_1433 (by decide) (fun h0 => ?_) (fun h0 => ?_)
  · refine G_goto g (pc := 1468) 2295 d_W_1468 (by decide) ?_
    refine G_sub [2, 3, 4, 5, 6, 7] _ rfl ?_
    exact hK _
  · refine G_aload g (pc := 1436) 6 d_W_1436 rfl ?_
    refine G_iconst g (pc := 1438) (0 : Int32) d_W_1438 rfl ?_
    refine G_dald0 g (pc := 1439) hw.2.2.2 (hw.1.k rfl) d_W_1439 ?_
    refine G_dload g (pc := 1440) 0 d_W_1440 rfl ?_
    refine G_dcmp g (pc := 1442) d_W_1442 ?_
    rw [h12.2 h0]
    refine H_ifeq g (pc := 1443) 1468 d_W_1443 (by decide) (fun h1 => ?_) (fun h1 => ?_)
    · refine G_goto g (pc := 1468) 2295 d_W_1468 (by decide) ?_
      refine G_sub [2, 3, 4, 5, 6, 7] _ rfl ?_
      exact hK _
    · refine G_aload g (pc := 1446) 6 d_W_1446 rfl ?_
      refine G_iconst g (pc := 1448) (0 : Int32) d_W_1448 rfl ?_
      refine G_dald0 g (pc := 1449) hw.2.2.2 (hw.1.k rfl) d_W_1449 ?_
      refine G_aload g (pc := 1450) 6 d_W_1450 rfl ?_
      refine G_iconst g (pc := 1452) (0 : Int32) d_W_1452 rfl ?_
      refine G_dald0 g (pc := 1453) hw.2.2.2 (hw.1.k rfl) d_W_1453 ?_
      refine G_dcmp g (pc := 1454) d_W_1454 ?_
      rw [h12.2 h0]
      refine H_ifeq g (pc := 1455) 1466 d_W_1455 (by decide) (fun h2 => Go.no (h1 h2)) (fun _ => ?_)
      refine G_dload g (pc := 1458) 0 d_W_1458 rfl ?_
      refine G_dload g (pc := 1460) 0 d_W_1460 rfl ?_
      refine G_dcmp g (pc := 1462) d_W_1462 ?_
      refine H_ifne g (pc := 1463) 1468 d_W_1463 (by decide) (fun _ => ?_) (fun h2 => Go.no (h1 h2))
      refine G_goto g (pc := 1468) 2295 d_W_1468 (by decide) ?_
      refine G_sub [2, 3, 4, 5, 6, 7] _ rfl ?_
      exact hK _
theorem d_W_1471 : decode code 1471 = .ok (.aload_n 1, 1) := by decide +kernel
theorem d_W_1472 : decode code 1472 = .ok (.invokevirtual 258, 3) := by decide +kernel
theorem d_W_1475 : decode code 1475 = .ok (.f2d, 1) := by decide +kernel
theorem d_W_1476 : decode code 1476 = .ok (.dstore 6, 2) := by decide +kernel
theorem d_W_1478 : decode code 1478 = .ok (.aload_n 2, 1) := by decide +kernel
theorem d_W_1479 : decode code 1479 = .ok (.invokevirtual 262, 3) := by decide +kernel
theorem d_W_1482 : decode code 1482 = .ok (.f2d, 1) := by decide +kernel
theorem d_W_1483 : decode code 1483 = .ok (.dstore 8, 2) := by decide +kernel
theorem d_W_1485 : decode code 1485 = .ok (.dload 6, 2) := by decide +kernel
theorem d_W_1487 : decode code 1487 = .ok (.dload 8, 2) := by decide +kernel
theorem d_W_1489 : decode code 1489 = .ok (.dcmp .l, 1) := by decide +kernel
theorem d_W_1490 : decode code 1490 = .ok (.ifCond .eq 21, 3) := by decide +kernel
theorem d_W_1493 : decode code 1493 = .ok (.dload 6, 2) := by decide +kernel
theorem d_W_1495 : decode code 1495 = .ok (.dload 6, 2) := by decide +kernel
theorem d_W_1497 : decode code 1497 = .ok (.dcmp .l, 1) := by decide +kernel
theorem d_W_1498 : decode code 1498 = .ok (.ifCond .eq 11, 3) := by decide +kernel
theorem d_W_1501 : decode code 1501 = .ok (.dload 8, 2) := by decide +kernel
theorem d_W_1503 : decode code 1503 = .ok (.dload 8, 2) := by decide +kernel
theorem d_W_1505 : decode code 1505 = .ok (.dcmp .l, 1) := by decide +kernel
theorem d_W_1506 : decode code 1506 = .ok (.ifCond .ne 5, 3) := by decide +kernel
theorem d_W_1511 : decode code 1511 = .ok (.goto 784, 3) := by decide +kernel
theorem cc_L_258 : CV "KiteLoggerLaw" 258 y_G_archivedShare b_G_archivedShare 1 (some .float) 0 := ⟨TT_in (i := 656) (by decide +kernel) (by decide +kernel), TT_in (i := 657) (by decide +kernel) (by decide +kernel), TT_in (i := 658) (by decide +kernel) (by decide +kernel), TT_in (i := 88) (by decide +kernel) (by decide +kernel), TT_in (i := 659) (by decide +kernel) (by decide +kernel), ⟨by decide +kernel, by decide +kernel, by decide +kernel⟩⟩
theorem cc_L_262 : CV "KiteLoggerLaw" 262 y_M_archivedShare b_M_archivedShare 1 (some .float) 0 := ⟨TT_in (i := 1648) (by decide +kernel) (by decide +kernel), TT_in (i := 1649) (by decide +kernel) (by decide +kernel), TT_in (i := 1650) (by decide +kernel) (by decide +kernel), TT_in (i := 100) (by decide +kernel) (by decide +kernel), TT_in (i := 1651) (by decide +kernel) (by decide +kernel), ⟨by decide +kernel, by decide +kernel, by decide +kernel⟩⟩
set_option maxHeartbeats 4000000 in
set_option maxRecDepth 100000 in
theorem k_41 (l : Launch) (hst : l.stackTraces = false) (N : Nat) {p : Program} {e : Env} {s : State} {m : MethodId} {args : Array Value} {below : List Frame} {meth : Method} {c : Code} {w : Wc} {k n b Lx ii : Nat} {xs : Nat → Int32} {Qf : Unit → State → Prop} {K : Mem → Option Unit} (g : Gd p s m args meth c w 10 code "KiteLoggerLaw") (hnc : va_Nc exS exI s) (hw : WL w) (hX : LX s w b Lx xs) (hii : ii + 6 ≤ Lx) (hC0 : k ≤ room_1.cells ∧ n ≤ room_1.slots) (hC1 : k + 1 ≤ room_1.cells ∧ n + 6 ≤ room_1.slots) (hK : ∀ M, Go p l e room_1 s m args below meth c w 10 (k + 1) (n + 6) Qf (K M) 2295 (LL w b ii) [] M) (M : Mem) : Go p l e room_1 s m args below meth c w 10 k n Qf  (bnd (f_G_archivedShare M) fun x1 M1 => if nn32 x1 = true then (bnd (f_M_archivedShare 146 M1) fun x2 M2 => if nn32 x2 = true then (if FP.f2d x1 = FP.f2d x2 then K M2 else none) else none) else none) 1471 (LL w b ii) [] M := by
  refine G_aload_n g (pc := 1471) 1 d_W_1471 rfl rfl ?_
  refine G_cVF g (pc := 1472) (As := []) (st := []) cc_L_258 (c_G_archivedShare l hw.1 M) (hw.1.2 0 (Nat.le_of_ble_eq_true rfl)) (hw.1.k rfl) rfl (by decide) rfl ⟨(Nat.le_of_ble_eq_true rfl), (Nat.le_of_ble_eq_true rfl)⟩ hC0 (Nat.le_of_ble_eq_true rfl) d_W_1472 (fun x1 M1 => ?_)
  refine Go.ite (fun hn1 => ?_)
  refine G_f2d g (pc := 1475) hn1 d_W_1475 ?_
  refine G_dstore g (pc := 1476) _ d_W_1476 (Nat.le_of_ble_eq_true rfl) rfl ?_
  refine G_aload_n g (pc := 1478) 3 d_W_1478 rfl rfl ?_
  refine G_cVF g (pc := 1479) (As := []) (st := []) cc_L_262 (c_M_archivedShare l hw.2.1 M1) (hw.2.1.mm 145 (Nat.le_of_ble_eq_true rfl) (Nat.le_of_ble_eq_true rfl)) (hw.1.k rfl) rfl (by decide) rfl ⟨(Nat.le_of_ble_eq_true rfl), (Nat.le_of_ble_eq_true rfl)⟩ hC0 (Nat.le_of_ble_eq_true rfl) d_W_1479 (fun x2 M2 => ?_)
  refine Go.ite (fun hn2 => ?_)
  refine G_f2d g (pc := 1482) hn2 d_W_1482 ?_
  refine G_dstore g (pc := 1483) _ d_W_1483 (Nat.le_of_ble_eq_true rfl) rfl ?_
  refine Go.ite (fun h12 => ?_)
  rw [h12]
  refine G_dload g (pc := 1485) 1 d_W_1485 rfl ?_
  refine G_dload g (pc := 1487) 0 d_W_1487 rfl ?_
  refine G_dcmp g (pc := 1489) d_W_1489 ?_
  refine H_ifeq g (pc := 1490) 1511 d_W_1490 (by decide) (fun h0 => ?_) (fun h0 => ?_)
  · refine G_goto g (pc := 1511) 2295 d_W_1511 (by decide) ?_
    refine G_sub [2, 3, 4, 5, 6, 7] _ rfl ?_
    exact Go.widen (Nat.le_succ _) (Nat.le_add_right _ _) (hK _)
  · refine G_dload g (pc := 1493) 1 d_W_1493 rfl ?_
    refine G_dload g (pc := 1495) 1 d_W_1495 rfl ?_
    refine G_dcmp g (pc := 1497) d_W_1497 ?_
    refine H_ifeq g (pc := 1498) 1509 d_W_1498 (by decide) (fun h1 => Go.no (h0 h1)) (fun h1 => ?_)
    refine G_dload g (pc := 1501) 0 d_W_1501 rfl ?_
    refine G_dload g (pc := 1503) 0 d_W_1503 rfl ?_
    refine G_dcmp g (pc := 1505) d_W_1505 ?_
    refine H_ifne g (pc := 1506) 1511 d_W_1506 (by decide) (fun h2 => ?_) (fun h2 => Go.no (h0 h2))
    refine G_goto g (pc := 1511) 2295 d_W_1511 (by decide) ?_
    refine G_sub [2, 3, 4, 5, 6, 7] _ rfl ?_
    exact Go.widen (Nat.le_succ _) (Nat.le_add_right _ _) (hK _)
theorem d_W_1514 : decode code 1514 = .ok (.aload_n 1, 1) := by decide +kernel
theorem d_W_1515 : decode code 1515 = .ok (.invokevirtual 263, 3) := by decide +kernel
theorem d_W_1518 : decode code 1518 = .ok (.aload_n 2, 1) := by decide +kernel
theorem d_W_1519 : decode code 1519 = .ok (.invokevirtual 266, 3) := by decide +kernel
theorem d_W_1522 : decode code 1522 = .ok (.if_icmp .eq 773, 3) := by decide +kernel
theorem cc_L_263 : CV "KiteLoggerLaw" 263 y_G_gap b_G_gap 2 (some .int) 0 := ⟨TT_in (i := 660) (by decide +kernel) (by decide +kernel), TT_in (i := 661) (by decide +kernel) (by decide +kernel), TT_in (i := 662) (by decide +kernel) (by decide +kernel), TT_in (i := 88) (by decide +kernel) (by decide +kernel), TT_in (i := 663) (by decide +kernel) (by decide +kernel), ⟨by decide +kernel, by decide +kernel, by decide +kernel⟩⟩
theorem cc_L_266 : CV "KiteLoggerLaw" 266 y_M_gap b_M_gap 2 (some .int) 0 := ⟨TT_in (i := 1652) (by decide +kernel) (by decide +kernel), TT_in (i := 1653) (by decide +kernel) (by decide +kernel), TT_in (i := 1654) (by decide +kernel) (by decide +kernel), TT_in (i := 100) (by decide +kernel) (by decide +kernel), TT_in (i := 1655) (by decide +kernel) (by decide +kernel), ⟨by decide +kernel, by decide +kernel, by decide +kernel⟩⟩
set_option maxHeartbeats 4000000 in
set_option maxRecDepth 100000 in
theorem k_42 (l : Launch) (hst : l.stackTraces = false) (N : Nat) {p : Program} {e : Env} {s : State} {m : MethodId} {args : Array Value} {below : List Frame} {meth : Method} {c : Code} {w : Wc} {k n b Lx ii : Nat} {xs : Nat → Int32} {Qf : Unit → State → Prop} {K : Mem → Option Unit} (g : Gd p s m args meth c w 10 code "KiteLoggerLaw") (hnc : va_Nc exS exI s) (hw : WL w) (hX : LX s w b Lx xs) (hii : ii + 6 ≤ Lx) (hC0 : k ≤ room_1.cells ∧ n ≤ room_1.slots) (hC1 : k + 1 ≤ room_1.cells ∧ n + 6 ≤ room_1.slots) (hK : ∀ M, Go p l e room_1 s m args below meth c w 10 (k + 1) (n + 6) Qf (K M) 2295 (LL w b ii) [] M) (M : Mem) : Go p l e room_1 s m args below meth c w 10 k n Qf  (bnd (f_G_gap N 146 M) fun x1 M1 => bnd (f_M_gap N 146 M1) fun x2 M2 => if x1 = x2 then K M2 else none) 1514 (LL w b ii) [] M := by
  refine G_aload_n g (pc := 1514) 1 d_W_1514 rfl rfl ?_
  refine G_cVI g (pc := 1515) (As := []) (st := []) cc_L_263 (c_G_gap l N hw.1 M) (hw.1.2 0 (Nat.le_of_ble_eq_true rfl)) (hw.1.k rfl) rfl (by decide) rfl ⟨(Nat.le_of_ble_eq_true rfl), (Nat.le_of_ble_eq_true rfl)⟩ hC0 (Nat.le_of_ble_eq_true rfl) d_W_1515 (fun x1 M1 => ?_)
  refine G_aload_n g (pc := 1518) 2 d_W_1518 rfl rfl ?_
  refine G_cVI g (pc := 1519) (As := []) (st := [.int x1]) cc_L_266 (c_M_gap l N hw.2.1 M1) (hw.2.1.mm 145 (Nat.le_of_ble_eq_true rfl) (Nat.le_of_ble_eq_true rfl)) (hw.1.k rfl) rfl (by decide) rfl ⟨(Nat.le_of_ble_eq_true rfl), (Nat.le_of_ble_eq_true rfl)⟩ hC0 (Nat.le_of_ble_eq_true rfl) d_W_1519 (fun x2 M2 => ?_)
  refine Go.ite (fun h12 => ?_)
  refine H_cmpeq g (pc := 1522) 2295 d_W_1522 (by decide) h12 ?_
  exact Go.widen (Nat.le_succ _) (Nat.le_add_right _ _) (hK _)
theorem d_W_1527 : decode code 1527 = .ok (.aload_n 1, 1) := by decide +kernel
theorem d_W_1528 : decode code 1528 = .ok (.invokevirtual 267, 3) := by decide +kernel
theorem d_W_1531 : decode code 1531 = .ok (.aload_n 2, 1) := by decide +kernel
theorem d_W_1532 : decode code 1532 = .ok (.invokevirtual 270, 3) := by decide +kernel
theorem d_W_1535 : decode code 1535 = .ok (.if_icmp .eq 760, 3) := by decide +kernel
theorem cc_L_267 : CV "KiteLoggerLaw" 267 y_G_launchObstacle b_G_launchObstacle 1 (some .int) 0 := ⟨TT_in (i := 671) (by decide +kernel) (by decide +kernel), TT_in (i := 672) (by decide +kernel) (by decide +kernel), TT_in (i := 673) (by decide +kernel) (by decide +kernel), TT_in (i := 88) (by decide +kernel) (by decide +kernel), TT_in (i := 674) (by decide +kernel) (by decide +kernel), ⟨by decide +kernel, by decide +kernel, by decide +kernel⟩⟩
theorem cc_L_270 : CV "KiteLoggerLaw" 270 y_M_launchObstacle b_M_launchObstacle 1 (some .int) 0 := ⟨TT_in (i := 1663) (by decide +kernel) (by decide +kernel), TT_in (i := 1664) (by decide +kernel) (by decide +kernel), TT_in (i := 1665) (by decide +kernel) (by decide +kernel), TT_in (i := 100) (by decide +kernel) (by decide +kernel), TT_in (i := 1666) (by decide +kernel) (by decide +kernel), ⟨by decide +kernel, by decide +kernel, by decide +kernel⟩⟩
set_option maxHeartbeats 4000000 in
set_option maxRecDepth 100000 in
theorem k_43 (l : Launch) (hst : l.stackTraces = false) (N : Nat) {p : Program} {e : Env} {s : State} {m : MethodId} {args : Array Value} {below : List Frame} {meth : Method} {c : Code} {w : Wc} {k n b Lx ii : Nat} {xs : Nat → Int32} {Qf : Unit → State → Prop} {K : Mem → Option Unit} (g : Gd p s m args meth c w 10 code "KiteLoggerLaw") (hnc : va_Nc exS exI s) (hw : WL w) (hX : LX s w b Lx xs) (hii : ii + 6 ≤ Lx) (hC0 : k ≤ room_1.cells ∧ n ≤ room_1.slots) (hC1 : k + 1 ≤ room_1.cells ∧ n + 6 ≤ room_1.slots) (hK : ∀ M, Go p l e room_1 s m args below meth c w 10 (k + 1) (n + 6) Qf (K M) 2295 (LL w b ii) [] M) (M : Mem) : Go p l e room_1 s m args below meth c w 10 k n Qf  (bnd (f_G_launchObstacle M) fun x1 M1 => bnd (f_M_launchObstacle 146 M1) fun x2 M2 => if x1 = x2 then K M2 else none) 1527 (LL w b ii) [] M := by
  refine G_aload_n g (pc := 1527) 1 d_W_1527 rfl rfl ?_
  refine G_cVI g (pc := 1528) (As := []) (st := []) cc_L_267 (c_G_launchObstacle l hw.1 M) (hw.1.2 0 (Nat.le_of_ble_eq_true rfl)) (hw.1.k rfl) rfl (by decide) rfl ⟨(Nat.le_of_ble_eq_true rfl), (Nat.le_of_ble_eq_true rfl)⟩ hC0 (Nat.le_of_ble_eq_true rfl) d_W_1528 (fun x1 M1 => ?_)
  refine G_aload_n g (pc := 1531) 2 d_W_1531 rfl rfl ?_
  refine G_cVI g (pc := 1532) (As := []) (st := [.int x1]) cc_L_270 (c_M_launchObstacle l hw.2.1 M1) (hw.2.1.mm 145 (Nat.le_of_ble_eq_true rfl) (Nat.le_of_ble_eq_true rfl)) (hw.1.k rfl) rfl (by decide) rfl ⟨(Nat.le_of_ble_eq_true rfl), (Nat.le_of_ble_eq_true rfl)⟩ hC0 (Nat.le_of_ble_eq_true rfl) d_W_1532 (fun x2 M2 => ?_)
  refine Go.ite (fun h12 => ?_)
  refine H_cmpeq g (pc := 1535) 2295 d_W_1535 (by decide) h12 ?_
  exact Go.widen (Nat.le_succ _) (Nat.le_add_right _ _) (hK _)
theorem d_W_1540 : decode code 1540 = .ok (.aload_n 1, 1) := by decide +kernel
theorem d_W_1541 : decode code 1541 = .ok (.aload_n 0, 1) := by decide +kernel
theorem d_W_1542 : decode code 1542 = .ok (.iload 5, 2) := by decide +kernel
theorem d_W_1544 : decode code 1544 = .ok (.iconst 1, 1) := by decide +kernel
theorem d_W_1545 : decode code 1545 = .ok (.iadd, 1) := by decide +kernel
theorem d_W_1546 : decode code 1546 = .ok (.iaload, 1) := by decide +kernel
theorem d_W_1547 : decode code 1547 = .ok (.aload_n 3, 1) := by decide +kernel
theorem d_W_1548 : decode code 1548 = .ok (.invokestatic 271, 3) := by decide +kernel
theorem d_W_1551 : decode code 1551 = .ok (.istore 6, 2) := by decide +kernel
theorem d_W_1553 : decode code 1553 = .ok (.aload_n 2, 1) := by decide +kernel
theorem d_W_1554 : decode code 1554 = .ok (.aload_n 0, 1) := by decide +kernel
theorem d_W_1555 : decode code 1555 = .ok (.iload 5, 2) := by decide +kernel
theorem d_W_1557 : decode code 1557 = .ok (.iconst 1, 1) := by decide +kernel
theorem d_W_1558 : decode code 1558 = .ok (.iadd, 1) := by decide +kernel
theorem d_W_1559 : decode code 1559 = .ok (.iaload, 1) := by decide +kernel
theorem d_W_1560 : decode code 1560 = .ok (.invokevirtual 273, 3) := by decide +kernel
theorem d_W_1563 : decode code 1563 = .ok (.istore 7, 2) := by decide +kernel
theorem d_W_1565 : decode code 1565 = .ok (.aload_n 2, 1) := by decide +kernel
theorem d_W_1566 : decode code 1566 = .ok (.invokevirtual 106, 3) := by decide +kernel
theorem d_W_1569 : decode code 1569 = .ok (.iload 6, 2) := by decide +kernel
theorem d_W_1571 : decode code 1571 = .ok (.if_icmp .eq 5, 3) := by decide +kernel
theorem d_W_1576 : decode code 1576 = .ok (.iload 6, 2) := by decide +kernel
theorem d_W_1578 : decode code 1578 = .ok (.ifCond .ne 15, 3) := by decide +kernel
theorem d_W_1581 : decode code 1581 = .ok (.aload_n 3, 1) := by decide +kernel
theorem d_W_1582 : decode code 1582 = .ok (.iconst 0, 1) := by decide +kernel
theorem d_W_1583 : decode code 1583 = .ok (.laload, 1) := by decide +kernel
theorem d_W_1584 : decode code 1584 = .ok (.iload 7, 2) := by decide +kernel
theorem d_W_1586 : decode code 1586 = .ok (.i2l, 1) := by decide +kernel
theorem d_W_1587 : decode code 1587 = .ok (.lcmp, 1) := by decide +kernel
theorem d_W_1588 : decode code 1588 = .ok (.ifCond .eq 5, 3) := by decide +kernel
theorem d_W_1593 : decode code 1593 = .ok (.goto 702, 3) := by decide +kernel
theorem cs_L_271 : CSH "KiteLoggerLaw" 271 y_L_heightAfter b_L_heightAfter 4 [(0, 9, 12, 13)] 3 := ⟨TT_in (i := 1082) (by decide +kernel) (by decide +kernel), TT_in (i := 1083) (by decide +kernel) (by decide +kernel), TT_in (i := 87) (by decide +kernel) (by decide +kernel), TT_in (i := 1084) (by decide +kernel) (by decide +kernel), ⟨by decide +kernel, by decide +kernel, by decide +kernel⟩⟩
theorem cc_L_273 : CV "KiteLoggerLaw" 273 y_M_heightAfter b_M_heightAfter 2 (some .int) 1 := ⟨TT_in (i := 1671) (by decide +kernel) (by decide +kernel), TT_in (i := 1672) (by decide +kernel) (by decide +kernel), TT_in (i := 1673) (by decide +kernel) (by decide +kernel), TT_in (i := 100) (by decide +kernel) (by decide +kernel), TT_in (i := 1674) (by decide +kernel) (by decide +kernel), ⟨by decide +kernel, by decide +kernel, by decide +kernel⟩⟩
set_option maxHeartbeats 4000000 in
set_option maxRecDepth 100000 in
theorem k_44 (l : Launch) (hst : l.stackTraces = false) (N : Nat) {p : Program} {e : Env} {s : State} {m : MethodId} {args : Array Value} {below : List Frame} {meth : Method} {c : Code} {w : Wc} {k n b Lx ii : Nat} {xs : Nat → Int32} {Qf : Unit → State → Prop} {K : Mem → Option Unit} (g : Gd p s m args meth c w 10 code "KiteLoggerLaw") (hnc : va_Nc exS exI s) (hw : WL w) (hX : LX s w b Lx xs) (hii : ii + 6 ≤ Lx) (hC0 : k ≤ room_1.cells ∧ n ≤ room_1.slots) (hC1 : k + 1 ≤ room_1.cells ∧ n + 6 ≤ room_1.slots) (hK : ∀ M, Go p l e room_1 s m args below meth c w 10 (k + 1) (n + 6) Qf (K M) 2295 (LL w b ii) [] M) (M : Mem) : Go p l e room_1 s m args below meth c w 10 k n Qf  (bnd (lwW [(0, 1)] (f_G_heightAfter N 146 (xs (ii + 1)) M)) fun x1 M1 => bnd (f_M_heightAfter N 146 (xs (ii + 1)) M1) fun x2 M2 => bnd (f_M_thrown M2) fun x3 M3 => if x3 = x1 ∧ (x1 = 0 → M3 156 0 = x2) then K M3 else none) 1540 (LL w b ii) [] M := by
  refine G_aload_n g (pc := 1540) 1 d_W_1540 rfl rfl ?_
  refine G_arg g (pc := 1541) hX (j := 1) (j0 := 0) (j5 := 5) hii (by decide) rfl rfl d_W_1541 d_W_1542 d_W_1544 rfl d_W_1545 d_W_1546 ?_
  refine G_aload_n g (pc := 1547) 3 d_W_1547 rfl rfl ?_
  refine G_cSH g hnc (pc := 1548) (As := [.ref (wad w 0), .int (xs (ii + 1)), .ref (wad w 156)]) (st := []) cs_L_271 (c_L_heightAfter l hst N hw (xs (ii + 1)) M) rfl ⟨(Nat.le_of_ble_eq_true rfl), (Nat.le_of_ble_eq_true rfl)⟩ hC1 (Nat.le_of_ble_eq_true rfl) d_W_1548 (fun x1 M1 => ?_)
  refine G_istore g (pc := 1551) _ d_W_1551 (Nat.le_of_ble_eq_true rfl) rfl ?_
  refine G_aload_n g (pc := 1553) 3 d_W_1553 rfl rfl ?_
  refine G_arg g (pc := 1554) hX (j := 1) (j0 := 1) (j5 := 6) hii (by decide) rfl rfl d_W_1554 d_W_1555 d_W_1557 rfl d_W_1558 d_W_1559 ?_
  refine G_cVI g (pc := 1560) (As := [.int (xs (ii + 1))]) (st := []) cc_L_273 (c_M_heightAfter l N hw.2.1 (xs (ii + 1)) M1) (hw.2.1.mm 145 (Nat.le_of_ble_eq_true rfl) (Nat.le_of_ble_eq_true rfl)) (hw.1.k rfl) rfl (by decide) rfl ⟨(Nat.le_of_ble_eq_true rfl), (Nat.le_of_ble_eq_true rfl)⟩ hC1 (Nat.le_of_ble_eq_true rfl) d_W_1560 (fun x2 M2 => ?_)
  refine G_istore g (pc := 1563) _ d_W_1563 (Nat.le_of_ble_eq_true rfl) rfl ?_
  refine G_aload_n g (pc := 1565) 4 d_W_1565 rfl rfl ?_
  refine G_cVI g (pc := 1566) (As := []) (st := []) cc_L_106 (c_M_thrown l hw.2.1 M2) (hw.2.1.mm 145 (Nat.le_of_ble_eq_true rfl) (Nat.le_of_ble_eq_true rfl)) (hw.1.k rfl) rfl (by decide) rfl ⟨(Nat.le_of_ble_eq_true rfl), (Nat.le_of_ble_eq_true rfl)⟩ hC1 (Nat.le_of_ble_eq_true rfl) d_W_1566 (fun x3 M3 => ?_)
  refine Go.ite (fun h12 => ?_)
  refine G_iload g (pc := 1569) 1 d_W_1569 rfl ?_
  refine H_cmpeq g (pc := 1571) 1576 d_W_1571 (by decide) h12.1 ?_
  refine G_iload g (pc := 1576) 1 d_W_1576 rfl ?_
  refine H_ifne g (pc := 1578) 1593 d_W_1578 (by decide) (fun h0 => ?_) (fun h0 => ?_)
  · refine G_goto g (pc := 1593) 2295 d_W_1593 (by decide) ?_
    refine G_sub [2, 3, 4, 5, 6, 7] _ rfl ?_
    exact hK _
  · refine G_aload_n g (pc := 1581) 5 d_W_1581 rfl rfl ?_
    refine G_iconst g (pc := 1582) (0 : Int32) d_W_1582 rfl ?_
    refine G_lald0 g (pc := 1583) hw.2.2.1 (hw.1.k rfl) d_W_1583 ?_
    refine G_iload g (pc := 1584) 0 d_W_1584 rfl ?_
    refine G_i2l g (pc := 1586) d_W_1586 ?_
    refine G_lcmp g (pc := 1587) (congrArg Int32.toInt64 (h12.2 h0)) d_W_1587 ?_
    refine H_ifeq g (pc := 1588) 1593 d_W_1588 (by decide) (fun _ => ?_) (fun h9 => Go.no (h9 rfl))
    refine G_goto g (pc := 1593) 2295 d_W_1593 (by decide) ?_
    refine G_sub [2, 3, 4, 5, 6, 7] _ rfl ?_
    exact hK _
theorem d_W_1596 : decode code 1596 = .ok (.aload_n 1, 1) := by decide +kernel
theorem d_W_1597 : decode code 1597 = .ok (.invokevirtual 274, 3) := by decide +kernel
theorem d_W_1600 : decode code 1600 = .ok (.aload_n 2, 1) := by decide +kernel
theorem d_W_1601 : decode code 1601 = .ok (.invokevirtual 277, 3) := by decide +kernel
theorem d_W_1604 : decode code 1604 = .ok (.if_icmp .eq 691, 3) := by decide +kernel
theorem cc_L_274 : CV "KiteLoggerLaw" 274 y_G_ticksToSnap b_G_ticksToSnap 2 (some .int) 0 := ⟨TT_in (i := 684) (by decide +kernel) (by decide +kernel), TT_in (i := 685) (by decide +kernel) (by decide +kernel), TT_in (i := 686) (by decide +kernel) (by decide +kernel), TT_in (i := 88) (by decide +kernel) (by decide +kernel), TT_in (i := 687) (by decide +kernel) (by decide +kernel), ⟨by decide +kernel, by decide +kernel, by decide +kernel⟩⟩
theorem cc_L_277 : CV "KiteLoggerLaw" 277 y_M_ticksToSnap b_M_ticksToSnap 1 (some .int) 0 := ⟨TT_in (i := 1722) (by decide +kernel) (by decide +kernel), TT_in (i := 1723) (by decide +kernel) (by decide +kernel), TT_in (i := 1724) (by decide +kernel) (by decide +kernel), TT_in (i := 100) (by decide +kernel) (by decide +kernel), TT_in (i := 1725) (by decide +kernel) (by decide +kernel), ⟨by decide +kernel, by decide +kernel, by decide +kernel⟩⟩
set_option maxHeartbeats 4000000 in
set_option maxRecDepth 100000 in
theorem k_45 (l : Launch) (hst : l.stackTraces = false) (N : Nat) {p : Program} {e : Env} {s : State} {m : MethodId} {args : Array Value} {below : List Frame} {meth : Method} {c : Code} {w : Wc} {k n b Lx ii : Nat} {xs : Nat → Int32} {Qf : Unit → State → Prop} {K : Mem → Option Unit} (g : Gd p s m args meth c w 10 code "KiteLoggerLaw") (hnc : va_Nc exS exI s) (hw : WL w) (hX : LX s w b Lx xs) (hii : ii + 6 ≤ Lx) (hC0 : k ≤ room_1.cells ∧ n ≤ room_1.slots) (hC1 : k + 1 ≤ room_1.cells ∧ n + 6 ≤ room_1.slots) (hK : ∀ M, Go p l e room_1 s m args below meth c w 10 (k + 1) (n + 6) Qf (K M) 2295 (LL w b ii) [] M) (M : Mem) : Go p l e room_1 s m args below meth c w 10 k n Qf  (bnd (f_G_ticksToSnap N 146 M) fun x1 M1 => bnd (f_M_ticksToSnap N 146 M1) fun x2 M2 => if x1 = x2 then K M2 else none) 1596 (LL w b ii) [] M := by
  refine G_aload_n g (pc := 1596) 1 d_W_1596 rfl rfl ?_
  refine G_cVI g (pc := 1597) (As := []) (st := []) cc_L_274 (c_G_ticksToSnap l N hw.1 M) (hw.1.2 0 (Nat.le_of_ble_eq_true rfl)) (hw.1.k rfl) rfl (by decide) rfl ⟨(Nat.le_of_ble_eq_true rfl), (Nat.le_of_ble_eq_true rfl)⟩ hC0 (Nat.le_of_ble_eq_true rfl) d_W_1597 (fun x1 M1 => ?_)
  refine G_aload_n g (pc := 1600) 2 d_W_1600 rfl rfl ?_
  refine G_cVI g (pc := 1601) (As := []) (st := [.int x1]) cc_L_277 (c_M_ticksToSnap l N hw.2.1 M1) (hw.2.1.mm 145 (Nat.le_of_ble_eq_true rfl) (Nat.le_of_ble_eq_true rfl)) (hw.1.k rfl) rfl (by decide) rfl ⟨(Nat.le_of_ble_eq_true rfl), (Nat.le_of_ble_eq_true rfl)⟩ hC0 (Nat.le_of_ble_eq_true rfl) d_W_1601 (fun x2 M2 => ?_)
  refine Go.ite (fun h12 => ?_)
  refine H_cmpeq g (pc := 1604) 2295 d_W_1604 (by decide) h12 ?_
  exact Go.widen (Nat.le_succ _) (Nat.le_add_right _ _) (hK _)
theorem d_W_1609 : decode code 1609 = .ok (.aload_n 1, 1) := by decide +kernel
theorem d_W_1610 : decode code 1610 = .ok (.invokevirtual 278, 3) := by decide +kernel
theorem d_W_1613 : decode code 1613 = .ok (.aload_n 2, 1) := by decide +kernel
theorem d_W_1614 : decode code 1614 = .ok (.invokevirtual 281, 3) := by decide +kernel
theorem d_W_1617 : decode code 1617 = .ok (.if_icmp .eq 678, 3) := by decide +kernel
theorem cc_L_278 : CV "KiteLoggerLaw" 278 y_G_safeHeight b_G_safeHeight 3 (some .int) 0 := ⟨TT_in (i := 719) (by decide +kernel) (by decide +kernel), TT_in (i := 720) (by decide +kernel) (by decide +kernel), TT_in (i := 721) (by decide +kernel) (by decide +kernel), TT_in (i := 88) (by decide +kernel) (by decide +kernel), TT_in (i := 722) (by decide +kernel) (by decide +kernel), ⟨by decide +kernel, by decide +kernel, by decide +kernel⟩⟩
theorem cc_L_281 : CV "KiteLoggerLaw" 281 y_M_safeHeight b_M_safeHeight 3 (some .int) 0 := ⟨TT_in (i := 1730) (by decide +kernel) (by decide +kernel), TT_in (i := 1731) (by decide +kernel) (by decide +kernel), TT_in (i := 1732) (by decide +kernel) (by decide +kernel), TT_in (i := 100) (by decide +kernel) (by decide +kernel), TT_in (i := 1733) (by decide +kernel) (by decide +kernel), ⟨by decide +kernel, by decide +kernel, by decide +kernel⟩⟩
set_option maxHeartbeats 4000000 in
set_option maxRecDepth 100000 in
theorem k_46 (l : Launch) (hst : l.stackTraces = false) (N : Nat) {p : Program} {e : Env} {s : State} {m : MethodId} {args : Array Value} {below : List Frame} {meth : Method} {c : Code} {w : Wc} {k n b Lx ii : Nat} {xs : Nat → Int32} {Qf : Unit → State → Prop} {K : Mem → Option Unit} (g : Gd p s m args meth c w 10 code "KiteLoggerLaw") (hnc : va_Nc exS exI s) (hw : WL w) (hX : LX s w b Lx xs) (hii : ii + 6 ≤ Lx) (hC0 : k ≤ room_1.cells ∧ n ≤ room_1.slots) (hC1 : k + 1 ≤ room_1.cells ∧ n + 6 ≤ room_1.slots) (hK : ∀ M, Go p l e room_1 s m args below meth c w 10 (k + 1) (n + 6) Qf (K M) 2295 (LL w b ii) [] M) (M : Mem) : Go p l e room_1 s m args below meth c w 10 k n Qf  (bnd (f_G_safeHeight N 146 M) fun x1 M1 => bnd (f_M_safeHeight N 146 M1) fun x2 M2 => if x1 = x2 then K M2 else none) 1609 (LL w b ii) [] M := by
  refine G_aload_n g (pc := 1609) 1 d_W_1609 rfl rfl ?_
  refine G_cVI g (pc := 1610) (As := []) (st := []) cc_L_278 (c_G_safeHeight l N hw.1 M) (hw.1.2 0 (Nat.le_of_ble_eq_true rfl)) (hw.1.k rfl) rfl (by decide) rfl ⟨(Nat.le_of_ble_eq_true rfl), (Nat.le_of_ble_eq_true rfl)⟩ hC0 (Nat.le_of_ble_eq_true rfl) d_W_1610 (fun x1 M1 => ?_)
  refine G_aload_n g (pc := 1613) 2 d_W_1613 rfl rfl ?_
  refine G_cVI g (pc := 1614) (As := []) (st := [.int x1]) cc_L_281 (c_M_safeHeight l N hw.2.1 M1) (hw.2.1.mm 145 (Nat.le_of_ble_eq_true rfl) (Nat.le_of_ble_eq_true rfl)) (hw.1.k rfl) rfl (by decide) rfl ⟨(Nat.le_of_ble_eq_true rfl), (Nat.le_of_ble_eq_true rfl)⟩ hC0 (Nat.le_of_ble_eq_true rfl) d_W_1614 (fun x2 M2 => ?_)
  refine Go.ite (fun h12 => ?_)
  refine H_cmpeq g (pc := 1617) 2295 d_W_1617 (by decide) h12 ?_
  exact Go.widen (Nat.le_succ _) (Nat.le_add_right _ _) (hK _)
theorem d_W_1622 : decode code 1622 = .ok (.aload_n 1, 1) := by decide +kernel
theorem d_W_1623 : decode code 1623 = .ok (.aload_n 3, 1) := by decide +kernel
theorem d_W_1624 : decode code 1624 = .ok (.invokestatic 282, 3) := by decide +kernel
theorem d_W_1627 : decode code 1627 = .ok (.istore 6, 2) := by decide +kernel
theorem d_W_1629 : decode code 1629 = .ok (.aload_n 2, 1) := by decide +kernel
theorem d_W_1630 : decode code 1630 = .ok (.invokevirtual 285, 3) := by decide +kernel
theorem d_W_1633 : decode code 1633 = .ok (.istore 7, 2) := by decide +kernel
theorem d_W_1635 : decode code 1635 = .ok (.aload_n 2, 1) := by decide +kernel
theorem d_W_1636 : decode code 1636 = .ok (.invokevirtual 106, 3) := by decide +kernel
theorem d_W_1639 : decode code 1639 = .ok (.iload 6, 2) := by decide +kernel
theorem d_W_1641 : decode code 1641 = .ok (.if_icmp .eq 5, 3) := by decide +kernel
theorem d_W_1646 : decode code 1646 = .ok (.iload 6, 2) := by decide +kernel
theorem d_W_1648 : decode code 1648 = .ok (.ifCond .ne 15, 3) := by decide +kernel
theorem d_W_1651 : decode code 1651 = .ok (.aload_n 3, 1) := by decide +kernel
theorem d_W_1652 : decode code 1652 = .ok (.iconst 0, 1) := by decide +kernel
theorem d_W_1653 : decode code 1653 = .ok (.laload, 1) := by decide +kernel
theorem d_W_1654 : decode code 1654 = .ok (.iload 7, 2) := by decide +kernel
theorem d_W_1656 : decode code 1656 = .ok (.i2l, 1) := by decide +kernel
theorem d_W_1657 : decode code 1657 = .ok (.lcmp, 1) := by decide +kernel
theorem d_W_1658 : decode code 1658 = .ok (.ifCond .eq 5, 3) := by decide +kernel
theorem d_W_1663 : decode code 1663 = .ok (.goto 632, 3) := by decide +kernel
theorem cs_L_282 : CSH "KiteLoggerLaw" 282 y_L_launch b_L_launch 3 [(0, 8, 11, 55)] 2 := ⟨TT_in (i := 1089) (by decide +kernel) (by decide +kernel), TT_in (i := 1090) (by decide +kernel) (by decide +kernel), TT_in (i := 87) (by decide +kernel) (by decide +kernel), TT_in (i := 1091) (by decide +kernel) (by decide +kernel), ⟨by decide +kernel, by decide +kernel, by decide +kernel⟩⟩
theorem cc_L_285 : CV "KiteLoggerLaw" 285 y_M_launch b_M_launch 1 (some .int) 0 := ⟨TT_in (i := 1738) (by decide +kernel) (by decide +kernel), TT_in (i := 1739) (by decide +kernel) (by decide +kernel), TT_in (i := 1740) (by decide +kernel) (by decide +kernel), TT_in (i := 100) (by decide +kernel) (by decide +kernel), TT_in (i := 1741) (by decide +kernel) (by decide +kernel), ⟨by decide +kernel, by decide +kernel, by decide +kernel⟩⟩
set_option maxHeartbeats 4000000 in
set_option maxRecDepth 100000 in
theorem k_47 (l : Launch) (hst : l.stackTraces = false) (N : Nat) {p : Program} {e : Env} {s : State} {m : MethodId} {args : Array Value} {below : List Frame} {meth : Method} {c : Code} {w : Wc} {k n b Lx ii : Nat} {xs : Nat → Int32} {Qf : Unit → State → Prop} {K : Mem → Option Unit} (g : Gd p s m args meth c w 10 code "KiteLoggerLaw") (hnc : va_Nc exS exI s) (hw : WL w) (hX : LX s w b Lx xs) (hii : ii + 6 ≤ Lx) (hC0 : k ≤ room_1.cells ∧ n ≤ room_1.slots) (hC1 : k + 1 ≤ room_1.cells ∧ n + 6 ≤ room_1.slots) (hK : ∀ M, Go p l e room_1 s m args below meth c w 10 (k + 1) (n + 6) Qf (K M) 2295 (LL w b ii) [] M) (M : Mem) : Go p l e room_1 s m args below meth c w 10 k n Qf  (bnd (lwW [(1, 1)] (f_G_launch N 146 M)) fun x1 M1 => bnd (f_M_launch N 146 M1) fun x2 M2 => bnd (f_M_thrown M2) fun x3 M3 => if x3 = x1 ∧ (x1 = 0 → M3 156 0 = x2) then K M3 else none) 1622 (LL w b ii) [] M := by
  refine G_aload_n g (pc := 1622) 1 d_W_1622 rfl rfl ?_
  refine G_aload_n g (pc := 1623) 3 d_W_1623 rfl rfl ?_
  refine G_cSH g hnc (pc := 1624) (As := [.ref (wad w 0), .ref (wad w 156)]) (st := []) cs_L_282 (c_L_launch l hst N hw M) rfl ⟨(Nat.le_of_ble_eq_true rfl), (Nat.le_of_ble_eq_true rfl)⟩ hC1 (Nat.le_of_ble_eq_true rfl) d_W_1624 (fun x1 M1 => ?_)
  refine G_istore g (pc := 1627) _ d_W_1627 (Nat.le_of_ble_eq_true rfl) rfl ?_
  refine G_aload_n g (pc := 1629) 3 d_W_1629 rfl rfl ?_
  refine G_cVI g (pc := 1630) (As := []) (st := []) cc_L_285 (c_M_launch l N hw.2.1 M1) (hw.2.1.mm 145 (Nat.le_of_ble_eq_true rfl) (Nat.le_of_ble_eq_true rfl)) (hw.1.k rfl) rfl (by decide) rfl ⟨(Nat.le_of_ble_eq_true rfl), (Nat.le_of_ble_eq_true rfl)⟩ hC1 (Nat.le_of_ble_eq_true rfl) d_W_1630 (fun x2 M2 => ?_)
  refine G_istore g (pc := 1633) _ d_W_1633 (Nat.le_of_ble_eq_true rfl) rfl ?_
  refine G_aload_n g (pc := 1635) 4 d_W_1635 rfl rfl ?_
  refine G_cVI g (pc := 1636) (As := []) (st := []) cc_L_106 (c_M_thrown l hw.2.1 M2) (hw.2.1.mm 145 (Nat.le_of_ble_eq_true rfl) (Nat.le_of_ble_eq_true rfl)) (hw.1.k rfl) rfl (by decide) rfl ⟨(Nat.le_of_ble_eq_true rfl), (Nat.le_of_ble_eq_true rfl)⟩ hC1 (Nat.le_of_ble_eq_true rfl) d_W_1636 (fun x3 M3 => ?_)
  refine Go.ite (fun h12 => ?_)
  refine G_iload g (pc := 1639) 1 d_W_1639 rfl ?_
  refine H_cmpeq g (pc := 1641) 1646 d_W_1641 (by decide) h12.1 ?_
  refine G_iload g (pc := 1646) 1 d_W_1646 rfl ?_
  refine H_ifne g (pc := 1648) 1663 d_W_1648 (by decide) (fun h0 => ?_) (fun h0 => ?_)
  · refine G_goto g (pc := 1663) 2295 d_W_1663 (by decide) ?_
    refine G_sub [2, 3, 4, 5, 6, 7] _ rfl ?_
    exact hK _
  · refine G_aload_n g (pc := 1651) 5 d_W_1651 rfl rfl ?_
    refine G_iconst g (pc := 1652) (0 : Int32) d_W_1652 rfl ?_
    refine G_lald0 g (pc := 1653) hw.2.2.1 (hw.1.k rfl) d_W_1653 ?_
    refine G_iload g (pc := 1654) 0 d_W_1654 rfl ?_
    refine G_i2l g (pc := 1656) d_W_1656 ?_
    refine G_lcmp g (pc := 1657) (congrArg Int32.toInt64 (h12.2 h0)) d_W_1657 ?_
    refine H_ifeq g (pc := 1658) 1663 d_W_1658 (by decide) (fun _ => ?_) (fun h9 => Go.no (h9 rfl))
    refine G_goto g (pc := 1663) 2295 d_W_1663 (by decide) ?_
    refine G_sub [2, 3, 4, 5, 6, 7] _ rfl ?_
    exact hK _
