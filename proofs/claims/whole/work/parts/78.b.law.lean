/-! more cases -/
theorem d_W_601 : decode code 601 = .ok (.aload_n 1, 1) := by decide +kernel
theorem d_W_602 : decode code 602 = .ok (.invokevirtual 131, 3) := by decide +kernel
theorem d_W_605 : decode code 605 = .ok (.aload_n 2, 1) := by decide +kernel
theorem d_W_606 : decode code 606 = .ok (.invokevirtual 134, 3) := by decide +kernel
theorem d_W_609 : decode code 609 = .ok (.if_icmp .eq 1686, 3) := by decide +kernel
theorem cc_L_131 : CV "KiteLoggerLaw" 131 y_G_bufferSize b_G_bufferSize 1 (some .int) 0 := ⟨TT_in (i := 504) (by decide +kernel) (by decide +kernel), TT_in (i := 505) (by decide +kernel) (by decide +kernel), TT_in (i := 506) (by decide +kernel) (by decide +kernel), TT_in (i := 88) (by decide +kernel) (by decide +kernel), TT_in (i := 507) (by decide +kernel) (by decide +kernel), ⟨by decide +kernel, by decide +kernel, by decide +kernel⟩⟩
theorem cc_L_134 : CV "KiteLoggerLaw" 134 y_M_bufferSize b_M_bufferSize 1 (some .int) 0 := ⟨TT_in (i := 1482) (by decide +kernel) (by decide +kernel), TT_in (i := 1483) (by decide +kernel) (by decide +kernel), TT_in (i := 1484) (by decide +kernel) (by decide +kernel), TT_in (i := 100) (by decide +kernel) (by decide +kernel), TT_in (i := 1485) (by decide +kernel) (by decide +kernel), ⟨by decide +kernel, by decide +kernel, by decide +kernel⟩⟩
set_option maxHeartbeats 4000000 in
set_option maxRecDepth 100000 in
theorem k_8 (l : Launch) (hst : l.stackTraces = false) (N : Nat) {p : Program} {e : Env} {s : State} {m : MethodId} {args : Array Value} {below : List Frame} {meth : Method} {c : Code} {w : Wc} {k n b Lx ii : Nat} {xs : Nat → Int32} {Qf : Unit → State → Prop} {K : Mem → Option Unit} (g : Gd p s m args meth c w 10 code "KiteLoggerLaw") (hnc : va_Nc exS exI s) (hw : WL w) (hX : LX s w b Lx xs) (hii : ii + 6 ≤ Lx) (hC0 : k ≤ room_1.cells ∧ n ≤ room_1.slots) (hC1 : k + 1 ≤ room_1.cells ∧ n + 6 ≤ room_1.slots) (hK : ∀ M, Go p l e room_1 s m args below meth c w 10 (k + 1) (n + 6) Qf (K M) 2295 (LL w b ii) [] M) (M : Mem) : Go p l e room_1 s m args below meth c w 10 k n Qf  (bnd (f_G_bufferSize M) fun x1 M1 => bnd (f_M_bufferSize 146 M1) fun x2 M2 => if x1 = x2 then K M2 else none) 601 (LL w b ii) [] M := by
  refine G_aload_n g (pc := 601) 1 d_W_601 rfl rfl ?_
  refine G_cVI g (pc := 602) (As := []) (st := []) cc_L_131 (c_G_bufferSize l hw.1 M) (hw.1.2 0 (Nat.le_of_ble_eq_true rfl)) (hw.1.k rfl) rfl (by decide) rfl ⟨(Nat.le_of_ble_eq_true rfl), (Nat.le_of_ble_eq_true rfl)⟩ hC0 (Nat.le_of_ble_eq_true rfl) d_W_602 (fun x1 M1 => ?_)
  refine G_aload_n g (pc := 605) 2 d_W_605 rfl rfl ?_
  refine G_cVI g (pc := 606) (As := []) (st := [.int x1]) cc_L_134 (c_M_bufferSize l hw.2.1 M1) (hw.2.1.mm 145 (Nat.le_of_ble_eq_true rfl) (Nat.le_of_ble_eq_true rfl)) (hw.1.k rfl) rfl (by decide) rfl ⟨(Nat.le_of_ble_eq_true rfl), (Nat.le_of_ble_eq_true rfl)⟩ hC0 (Nat.le_of_ble_eq_true rfl) d_W_606 (fun x2 M2 => ?_)
  refine Go.ite (fun h12 => ?_)
  refine H_cmpeq g (pc := 609) 2295 d_W_609 (by decide) h12 ?_
  exact Go.widen (Nat.le_succ _) (Nat.le_add_right _ _) (hK _)
theorem d_W_614 : decode code 614 = .ok (.aload_n 1, 1) := by decide +kernel
theorem d_W_615 : decode code 615 = .ok (.aload_n 0, 1) := by decide +kernel
theorem d_W_616 : decode code 616 = .ok (.iload 5, 2) := by decide +kernel
theorem d_W_618 : decode code 618 = .ok (.iconst 1, 1) := by decide +kernel
theorem d_W_619 : decode code 619 = .ok (.iadd, 1) := by decide +kernel
theorem d_W_620 : decode code 620 = .ok (.iaload, 1) := by decide +kernel
theorem d_W_621 : decode code 621 = .ok (.invokevirtual 135, 3) := by decide +kernel
theorem d_W_624 : decode code 624 = .ok (.aload_n 2, 1) := by decide +kernel
theorem d_W_625 : decode code 625 = .ok (.aload_n 0, 1) := by decide +kernel
theorem d_W_626 : decode code 626 = .ok (.iload 5, 2) := by decide +kernel
theorem d_W_628 : decode code 628 = .ok (.iconst 1, 1) := by decide +kernel
theorem d_W_629 : decode code 629 = .ok (.iadd, 1) := by decide +kernel
theorem d_W_630 : decode code 630 = .ok (.iaload, 1) := by decide +kernel
theorem d_W_631 : decode code 631 = .ok (.invokevirtual 138, 3) := by decide +kernel
theorem d_W_634 : decode code 634 = .ok (.if_icmp .eq 1661, 3) := by decide +kernel
theorem cc_L_135 : CV "KiteLoggerLaw" 135 y_G_bufferedWind b_G_bufferedWind 2 (some .int) 1 := ⟨TT_in (i := 508) (by decide +kernel) (by decide +kernel), TT_in (i := 509) (by decide +kernel) (by decide +kernel), TT_in (i := 510) (by decide +kernel) (by decide +kernel), TT_in (i := 88) (by decide +kernel) (by decide +kernel), TT_in (i := 511) (by decide +kernel) (by decide +kernel), ⟨by decide +kernel, by decide +kernel, by decide +kernel⟩⟩
theorem cc_L_138 : CV "KiteLoggerLaw" 138 y_M_bufferedWind b_M_bufferedWind 2 (some .int) 1 := ⟨TT_in (i := 1486) (by decide +kernel) (by decide +kernel), TT_in (i := 1487) (by decide +kernel) (by decide +kernel), TT_in (i := 1488) (by decide +kernel) (by decide +kernel), TT_in (i := 100) (by decide +kernel) (by decide +kernel), TT_in (i := 1489) (by decide +kernel) (by decide +kernel), ⟨by decide +kernel, by decide +kernel, by decide +kernel⟩⟩
set_option maxHeartbeats 4000000 in
set_option maxRecDepth 100000 in
theorem k_9 (l : Launch) (hst : l.stackTraces = false) (N : Nat) {p : Program} {e : Env} {s : State} {m : MethodId} {args : Array Value} {below : List Frame} {meth : Method} {c : Code} {w : Wc} {k n b Lx ii : Nat} {xs : Nat → Int32} {Qf : Unit → State → Prop} {K : Mem → Option Unit} (g : Gd p s m args meth c w 10 code "KiteLoggerLaw") (hnc : va_Nc exS exI s) (hw : WL w) (hX : LX s w b Lx xs) (hii : ii + 6 ≤ Lx) (hC0 : k ≤ room_1.cells ∧ n ≤ room_1.slots) (hC1 : k + 1 ≤ room_1.cells ∧ n + 6 ≤ room_1.slots) (hK : ∀ M, Go p l e room_1 s m args below meth c w 10 (k + 1) (n + 6) Qf (K M) 2295 (LL w b ii) [] M) (M : Mem) : Go p l e room_1 s m args below meth c w 10 k n Qf  (bnd (f_G_bufferedWind (xs (ii + 1)) M) fun x1 M1 => bnd (f_M_bufferedWind 146 (xs (ii + 1)) M1) fun x2 M2 => if x1 = x2 then K M2 else none) 614 (LL w b ii) [] M := by
  refine G_aload_n g (pc := 614) 1 d_W_614 rfl rfl ?_
  refine G_arg g (pc := 615) hX (j := 1) (j0 := 0) (j5 := 5) hii (by decide) rfl rfl d_W_615 d_W_616 d_W_618 rfl d_W_619 d_W_620 ?_
  refine G_cVI g (pc := 621) (As := [.int (xs (ii + 1))]) (st := []) cc_L_135 (c_G_bufferedWind l hw.1 (xs (ii + 1)) M) (hw.1.2 0 (Nat.le_of_ble_eq_true rfl)) (hw.1.k rfl) rfl (by decide) rfl ⟨(Nat.le_of_ble_eq_true rfl), (Nat.le_of_ble_eq_true rfl)⟩ hC0 (Nat.le_of_ble_eq_true rfl) d_W_621 (fun x1 M1 => ?_)
  refine G_aload_n g (pc := 624) 2 d_W_624 rfl rfl ?_
  refine G_arg g (pc := 625) hX (j := 1) (j0 := 0) (j5 := 5) hii (by decide) rfl rfl d_W_625 d_W_626 d_W_628 rfl d_W_629 d_W_630 ?_
  refine G_cVI g (pc := 631) (As := [.int (xs (ii + 1))]) (st := [.int x1]) cc_L_138 (c_M_bufferedWind l hw.2.1 (xs (ii + 1)) M1) (hw.2.1.mm 145 (Nat.le_of_ble_eq_true rfl) (Nat.le_of_ble_eq_true rfl)) (hw.1.k rfl) rfl (by decide) rfl ⟨(Nat.le_of_ble_eq_true rfl), (Nat.le_of_ble_eq_true rfl)⟩ hC0 (Nat.le_of_ble_eq_true rfl) d_W_631 (fun x2 M2 => ?_)
  refine Go.ite (fun h12 => ?_)
  refine H_cmpeq g (pc := 634) 2295 d_W_634 (by decide) h12 ?_
  exact Go.widen (Nat.le_succ _) (Nat.le_add_right _ _) (hK _)
theorem d_W_639 : decode code 639 = .ok (.aload_n 1, 1) := by decide +kernel
theorem d_W_640 : decode code 640 = .ok (.invokevirtual 139, 3) := by decide +kernel
theorem d_W_643 : decode code 643 = .ok (.aload_n 2, 1) := by decide +kernel
theorem d_W_644 : decode code 644 = .ok (.invokevirtual 142, 3) := by decide +kernel
theorem d_W_647 : decode code 647 = .ok (.if_icmp .eq 1648, 3) := by decide +kernel
theorem cc_L_139 : CV "KiteLoggerLaw" 139 y_G_greatestWind b_G_greatestWind 1 (some .int) 0 := ⟨TT_in (i := 523) (by decide +kernel) (by decide +kernel), TT_in (i := 524) (by decide +kernel) (by decide +kernel), TT_in (i := 525) (by decide +kernel) (by decide +kernel), TT_in (i := 88) (by decide +kernel) (by decide +kernel), TT_in (i := 526) (by decide +kernel) (by decide +kernel), ⟨by decide +kernel, by decide +kernel, by decide +kernel⟩⟩
theorem cc_L_142 : CV "KiteLoggerLaw" 142 y_M_greatestWind b_M_greatestWind 1 (some .int) 0 := ⟨TT_in (i := 1490) (by decide +kernel) (by decide +kernel), TT_in (i := 1491) (by decide +kernel) (by decide +kernel), TT_in (i := 1492) (by decide +kernel) (by decide +kernel), TT_in (i := 100) (by decide +kernel) (by decide +kernel), TT_in (i := 1493) (by decide +kernel) (by decide +kernel), ⟨by decide +kernel, by decide +kernel, by decide +kernel⟩⟩
set_option maxHeartbeats 4000000 in
set_option maxRecDepth 100000 in
theorem k_10 (l : Launch) (hst : l.stackTraces = false) (N : Nat) {p : Program} {e : Env} {s : State} {m : MethodId} {args : Array Value} {below : List Frame} {meth : Method} {c : Code} {w : Wc} {k n b Lx ii : Nat} {xs : Nat → Int32} {Qf : Unit → State → Prop} {K : Mem → Option Unit} (g : Gd p s m args meth c w 10 code "KiteLoggerLaw") (hnc : va_Nc exS exI s) (hw : WL w) (hX : LX s w b Lx xs) (hii : ii + 6 ≤ Lx) (hC0 : k ≤ room_1.cells ∧ n ≤ room_1.slots) (hC1 : k + 1 ≤ room_1.cells ∧ n + 6 ≤ room_1.slots) (hK : ∀ M, Go p l e room_1 s m args below meth c w 10 (k + 1) (n + 6) Qf (K M) 2295 (LL w b ii) [] M) (M : Mem) : Go p l e room_1 s m args below meth c w 10 k n Qf  (bnd (f_G_greatestWind N 146 M) fun x1 M1 => bnd (f_M_greatestWind N 146 M1) fun x2 M2 => if x1 = x2 then K M2 else none) 639 (LL w b ii) [] M := by
  refine G_aload_n g (pc := 639) 1 d_W_639 rfl rfl ?_
  refine G_cVI g (pc := 640) (As := []) (st := []) cc_L_139 (c_G_greatestWind l N hw.1 M) (hw.1.2 0 (Nat.le_of_ble_eq_true rfl)) (hw.1.k rfl) rfl (by decide) rfl ⟨(Nat.le_of_ble_eq_true rfl), (Nat.le_of_ble_eq_true rfl)⟩ hC0 (Nat.le_of_ble_eq_true rfl) d_W_640 (fun x1 M1 => ?_)
  refine G_aload_n g (pc := 643) 2 d_W_643 rfl rfl ?_
  refine G_cVI g (pc := 644) (As := []) (st := [.int x1]) cc_L_142 (c_M_greatestWind l N hw.2.1 M1) (hw.2.1.mm 145 (Nat.le_of_ble_eq_true rfl) (Nat.le_of_ble_eq_true rfl)) (hw.1.k rfl) rfl (by decide) rfl ⟨(Nat.le_of_ble_eq_true rfl), (Nat.le_of_ble_eq_true rfl)⟩ hC0 (Nat.le_of_ble_eq_true rfl) d_W_644 (fun x2 M2 => ?_)
  refine Go.ite (fun h12 => ?_)
  refine H_cmpeq g (pc := 647) 2295 d_W_647 (by decide) h12 ?_
  exact Go.widen (Nat.le_succ _) (Nat.le_add_right _ _) (hK _)
theorem d_W_652 : decode code 652 = .ok (.aload_n 1, 1) := by decide +kernel
theorem d_W_653 : decode code 653 = .ok (.invokevirtual 143, 3) := by decide +kernel
theorem d_W_656 : decode code 656 = .ok (.dstore 6, 2) := by decide +kernel
theorem d_W_658 : decode code 658 = .ok (.aload_n 2, 1) := by decide +kernel
theorem d_W_659 : decode code 659 = .ok (.invokevirtual 147, 3) := by decide +kernel
theorem d_W_662 : decode code 662 = .ok (.dstore 8, 2) := by decide +kernel
theorem d_W_664 : decode code 664 = .ok (.dload 6, 2) := by decide +kernel
theorem d_W_666 : decode code 666 = .ok (.dload 8, 2) := by decide +kernel
theorem d_W_668 : decode code 668 = .ok (.dcmp .l, 1) := by decide +kernel
theorem d_W_669 : decode code 669 = .ok (.ifCond .eq 21, 3) := by decide +kernel
theorem d_W_672 : decode code 672 = .ok (.dload 6, 2) := by decide +kernel
theorem d_W_674 : decode code 674 = .ok (.dload 6, 2) := by decide +kernel
theorem d_W_676 : decode code 676 = .ok (.dcmp .l, 1) := by decide +kernel
theorem d_W_677 : decode code 677 = .ok (.ifCond .eq 11, 3) := by decide +kernel
theorem d_W_680 : decode code 680 = .ok (.dload 8, 2) := by decide +kernel
theorem d_W_682 : decode code 682 = .ok (.dload 8, 2) := by decide +kernel
theorem d_W_684 : decode code 684 = .ok (.dcmp .l, 1) := by decide +kernel
theorem d_W_685 : decode code 685 = .ok (.ifCond .ne 5, 3) := by decide +kernel
theorem d_W_690 : decode code 690 = .ok (.goto 1605, 3) := by decide +kernel
theorem cc_L_143 : CV "KiteLoggerLaw" 143 y_G_meanWind b_G_meanWind 1 (some .double) 0 := ⟨TT_in (i := 533) (by decide +kernel) (by decide +kernel), TT_in (i := 534) (by decide +kernel) (by decide +kernel), TT_in (i := 535) (by decide +kernel) (by decide +kernel), TT_in (i := 88) (by decide +kernel) (by decide +kernel), TT_in (i := 536) (by decide +kernel) (by decide +kernel), ⟨by decide +kernel, by decide +kernel, by decide +kernel⟩⟩
theorem cc_L_147 : CV "KiteLoggerLaw" 147 y_M_meanWind b_M_meanWind 3 (some .double) 0 := ⟨TT_in (i := 1501) (by decide +kernel) (by decide +kernel), TT_in (i := 1502) (by decide +kernel) (by decide +kernel), TT_in (i := 1503) (by decide +kernel) (by decide +kernel), TT_in (i := 100) (by decide +kernel) (by decide +kernel), TT_in (i := 1504) (by decide +kernel) (by decide +kernel), ⟨by decide +kernel, by decide +kernel, by decide +kernel⟩⟩
set_option maxHeartbeats 4000000 in
set_option maxRecDepth 100000 in
theorem k_11 (l : Launch) (hst : l.stackTraces = false) (N : Nat) {p : Program} {e : Env} {s : State} {m : MethodId} {args : Array Value} {below : List Frame} {meth : Method} {c : Code} {w : Wc} {k n b Lx ii : Nat} {xs : Nat → Int32} {Qf : Unit → State → Prop} {K : Mem → Option Unit} (g : Gd p s m args meth c w 10 code "KiteLoggerLaw") (hnc : va_Nc exS exI s) (hw : WL w) (hX : LX s w b Lx xs) (hii : ii + 6 ≤ Lx) (hC0 : k ≤ room_1.cells ∧ n ≤ room_1.slots) (hC1 : k + 1 ≤ room_1.cells ∧ n + 6 ≤ room_1.slots) (hK : ∀ M, Go p l e room_1 s m args below meth c w 10 (k + 1) (n + 6) Qf (K M) 2295 (LL w b ii) [] M) (M : Mem) : Go p l e room_1 s m args below meth c w 10 k n Qf  (bnd (f_G_meanWind N 146 M) fun x1 M1 => bnd (f_M_meanWind N 146 M1) fun x2 M2 => if x1 = x2 then K M2 else none) 652 (LL w b ii) [] M := by
  refine G_aload_n g (pc := 652) 1 d_W_652 rfl rfl ?_
  refine G_cVD g (pc := 653) (As := []) (st := []) cc_L_143 (c_G_meanWind l N hw.1 M) (hw.1.2 0 (Nat.le_of_ble_eq_true rfl)) (hw.1.k rfl) rfl (by decide) rfl ⟨(Nat.le_of_ble_eq_true rfl), (Nat.le_of_ble_eq_true rfl)⟩ hC0 (Nat.le_of_ble_eq_true rfl) d_W_653 (fun x1 M1 => ?_)
  refine G_dstore g (pc := 656) _ d_W_656 (Nat.le_of_ble_eq_true rfl) rfl ?_
  refine G_aload_n g (pc := 658) 3 d_W_658 rfl rfl ?_
  refine G_cVD g (pc := 659) (As := []) (st := []) cc_L_147 (c_M_meanWind l N hw.2.1 M1) (hw.2.1.mm 145 (Nat.le_of_ble_eq_true rfl) (Nat.le_of_ble_eq_true rfl)) (hw.1.k rfl) rfl (by decide) rfl ⟨(Nat.le_of_ble_eq_true rfl), (Nat.le_of_ble_eq_true rfl)⟩ hC0 (Nat.le_of_ble_eq_true rfl) d_W_659 (fun x2 M2 => ?_)
  refine G_dstore g (pc := 662) _ d_W_662 (Nat.le_of_ble_eq_true rfl) rfl ?_
  refine Go.ite (fun h12 => ?_)
  subst h12
  refine G_dload g (pc := 664) 1 d_W_664 rfl ?_
  refine G_dload g (pc := 666) 0 d_W_666 rfl ?_
  refine G_dcmp g (pc := 668) d_W_668 ?_
  refine H_ifeq g (pc := 669) 690 d_W_669 (by decide) (fun h0 => ?_) (fun h0 => ?_)
  · refine G_goto g (pc := 690) 2295 d_W_690 (by decide) ?_
    refine G_sub [2, 3, 4, 5, 6, 7] _ rfl ?_
    exact Go.widen (Nat.le_succ _) (Nat.le_add_right _ _) (hK _)
  · refine G_dload g (pc := 672) 1 d_W_672 rfl ?_
    refine G_dload g (pc := 674) 1 d_W_674 rfl ?_
    refine G_dcmp g (pc := 676) d_W_676 ?_
    refine H_ifeq g (pc := 677) 688 d_W_677 (by decide) (fun h1 => Go.no (h0 h1)) (fun h1 => ?_)
    refine G_dload g (pc := 680) 0 d_W_680 rfl ?_
    refine G_dload g (pc := 682) 0 d_W_682 rfl ?_
    refine G_dcmp g (pc := 684) d_W_684 ?_
    refine H_ifne g (pc := 685) 690 d_W_685 (by decide) (fun h2 => ?_) (fun h2 => Go.no (h0 h2))
    refine G_goto g (pc := 690) 2295 d_W_690 (by decide) ?_
    refine G_sub [2, 3, 4, 5, 6, 7] _ rfl ?_
    exact Go.widen (Nat.le_succ _) (Nat.le_add_right _ _) (hK _)
theorem d_W_693 : decode code 693 = .ok (.aload_n 1, 1) := by decide +kernel
theorem d_W_694 : decode code 694 = .ok (.invokevirtual 148, 3) := by decide +kernel
theorem d_W_697 : decode code 697 = .ok (.aload_n 2, 1) := by decide +kernel
theorem d_W_698 : decode code 698 = .ok (.invokevirtual 152, 3) := by decide +kernel
theorem d_W_701 : decode code 701 = .ok (.if_icmp .eq 1594, 3) := by decide +kernel
theorem cc_L_148 : CV "KiteLoggerLaw" 148 y_G_isLanded b_G_isLanded 1 (some .boolean) 0 := ⟨TT_in (i := 544) (by decide +kernel) (by decide +kernel), TT_in (i := 545) (by decide +kernel) (by decide +kernel), TT_in (i := 546) (by decide +kernel) (by decide +kernel), TT_in (i := 88) (by decide +kernel) (by decide +kernel), TT_in (i := 547) (by decide +kernel) (by decide +kernel), ⟨by decide +kernel, by decide +kernel, by decide +kernel⟩⟩
theorem cc_L_152 : CV "KiteLoggerLaw" 152 y_M_isLanded b_M_isLanded 1 (some .boolean) 0 := ⟨TT_in (i := 1508) (by decide +kernel) (by decide +kernel), TT_in (i := 1509) (by decide +kernel) (by decide +kernel), TT_in (i := 1510) (by decide +kernel) (by decide +kernel), TT_in (i := 100) (by decide +kernel) (by decide +kernel), TT_in (i := 1511) (by decide +kernel) (by decide +kernel), ⟨by decide +kernel, by decide +kernel, by decide +kernel⟩⟩
set_option maxHeartbeats 4000000 in
set_option maxRecDepth 100000 in
theorem k_12 (l : Launch) (hst : l.stackTraces = false) (N : Nat) {p : Program} {e : Env} {s : State} {m : MethodId} {args : Array Value} {below : List Frame} {meth : Method} {c : Code} {w : Wc} {k n b Lx ii : Nat} {xs : Nat → Int32} {Qf : Unit → State → Prop} {K : Mem → Option Unit} (g : Gd p s m args meth c w 10 code "KiteLoggerLaw") (hnc : va_Nc exS exI s) (hw : WL w) (hX : LX s w b Lx xs) (hii : ii + 6 ≤ Lx) (hC0 : k ≤ room_1.cells ∧ n ≤ room_1.slots) (hC1 : k + 1 ≤ room_1.cells ∧ n + 6 ≤ room_1.slots) (hK : ∀ M, Go p l e room_1 s m args below meth c w 10 (k + 1) (n + 6) Qf (K M) 2295 (LL w b ii) [] M) (M : Mem) : Go p l e room_1 s m args below meth c w 10 k n Qf  (bnd (f_G_isLanded M) fun x1 M1 => bnd (f_M_isLanded 146 M1) fun x2 M2 => if x1 = x2 then K M2 else none) 693 (LL w b ii) [] M := by
  refine G_aload_n g (pc := 693) 1 d_W_693 rfl rfl ?_
  refine G_cVZ g (pc := 694) (As := []) (st := []) cc_L_148 (c_G_isLanded l hw.1 M) (hw.1.2 0 (Nat.le_of_ble_eq_true rfl)) (hw.1.k rfl) rfl (by decide) rfl ⟨(Nat.le_of_ble_eq_true rfl), (Nat.le_of_ble_eq_true rfl)⟩ hC0 (Nat.le_of_ble_eq_true rfl) d_W_694 (fun x1 M1 => ?_)
  refine G_aload_n g (pc := 697) 2 d_W_697 rfl rfl ?_
  refine G_cVZ g (pc := 698) (As := []) (st := [.int (b2i x1)]) cc_L_152 (c_M_isLanded l hw.2.1 M1) (hw.2.1.mm 145 (Nat.le_of_ble_eq_true rfl) (Nat.le_of_ble_eq_true rfl)) (hw.1.k rfl) rfl (by decide) rfl ⟨(Nat.le_of_ble_eq_true rfl), (Nat.le_of_ble_eq_true rfl)⟩ hC0 (Nat.le_of_ble_eq_true rfl) d_W_698 (fun x2 M2 => ?_)
  refine Go.ite (fun h12 => ?_)
  refine H_cmpeq g (pc := 701) 2295 d_W_701 (by decide) (congrArg b2i h12) ?_
  exact Go.widen (Nat.le_succ _) (Nat.le_add_right _ _) (hK _)
theorem d_W_706 : decode code 706 = .ok (.aload_n 1, 1) := by decide +kernel
theorem d_W_707 : decode code 707 = .ok (.invokevirtual 153, 3) := by decide +kernel
theorem d_W_710 : decode code 710 = .ok (.aload_n 2, 1) := by decide +kernel
theorem d_W_711 : decode code 711 = .ok (.invokevirtual 156, 3) := by decide +kernel
theorem d_W_714 : decode code 714 = .ok (.if_icmp .eq 1581, 3) := by decide +kernel
theorem cc_L_153 : CV "KiteLoggerLaw" 153 y_G_isFlying b_G_isFlying 1 (some .boolean) 0 := ⟨TT_in (i := 548) (by decide +kernel) (by decide +kernel), TT_in (i := 549) (by decide +kernel) (by decide +kernel), TT_in (i := 550) (by decide +kernel) (by decide +kernel), TT_in (i := 88) (by decide +kernel) (by decide +kernel), TT_in (i := 551) (by decide +kernel) (by decide +kernel), ⟨by decide +kernel, by decide +kernel, by decide +kernel⟩⟩
theorem cc_L_156 : CV "KiteLoggerLaw" 156 y_M_isFlying b_M_isFlying 1 (some .boolean) 0 := ⟨TT_in (i := 1516) (by decide +kernel) (by decide +kernel), TT_in (i := 1517) (by decide +kernel) (by decide +kernel), TT_in (i := 1518) (by decide +kernel) (by decide +kernel), TT_in (i := 100) (by decide +kernel) (by decide +kernel), TT_in (i := 1519) (by decide +kernel) (by decide +kernel), ⟨by decide +kernel, by decide +kernel, by decide +kernel⟩⟩
set_option maxHeartbeats 4000000 in
set_option maxRecDepth 100000 in
theorem k_13 (l : Launch) (hst : l.stackTraces = false) (N : Nat) {p : Program} {e : Env} {s : State} {m : MethodId} {args : Array Value} {below : List Frame} {meth : Method} {c : Code} {w : Wc} {k n b Lx ii : Nat} {xs : Nat → Int32} {Qf : Unit → State → Prop} {K : Mem → Option Unit} (g : Gd p s m args meth c w 10 code "KiteLoggerLaw") (hnc : va_Nc exS exI s) (hw : WL w) (hX : LX s w b Lx xs) (hii : ii + 6 ≤ Lx) (hC0 : k ≤ room_1.cells ∧ n ≤ room_1.slots) (hC1 : k + 1 ≤ room_1.cells ∧ n + 6 ≤ room_1.slots) (hK : ∀ M, Go p l e room_1 s m args below meth c w 10 (k + 1) (n + 6) Qf (K M) 2295 (LL w b ii) [] M) (M : Mem) : Go p l e room_1 s m args below meth c w 10 k n Qf  (bnd (f_G_isFlying M) fun x1 M1 => bnd (f_M_isFlying 146 M1) fun x2 M2 => if x1 = x2 then K M2 else none) 706 (LL w b ii) [] M := by
  refine G_aload_n g (pc := 706) 1 d_W_706 rfl rfl ?_
  refine G_cVZ g (pc := 707) (As := []) (st := []) cc_L_153 (c_G_isFlying l hw.1 M) (hw.1.2 0 (Nat.le_of_ble_eq_true rfl)) (hw.1.k rfl) rfl (by decide) rfl ⟨(Nat.le_of_ble_eq_true rfl), (Nat.le_of_ble_eq_true rfl)⟩ hC0 (Nat.le_of_ble_eq_true rfl) d_W_707 (fun x1 M1 => ?_)
  refine G_aload_n g (pc := 710) 2 d_W_710 rfl rfl ?_
  refine G_cVZ g (pc := 711) (As := []) (st := [.int (b2i x1)]) cc_L_156 (c_M_isFlying l hw.2.1 M1) (hw.2.1.mm 145 (Nat.le_of_ble_eq_true rfl) (Nat.le_of_ble_eq_true rfl)) (hw.1.k rfl) rfl (by decide) rfl ⟨(Nat.le_of_ble_eq_true rfl), (Nat.le_of_ble_eq_true rfl)⟩ hC0 (Nat.le_of_ble_eq_true rfl) d_W_711 (fun x2 M2 => ?_)
  refine Go.ite (fun h12 => ?_)
  refine H_cmpeq g (pc := 714) 2295 d_W_714 (by decide) (congrArg b2i h12) ?_
  exact Go.widen (Nat.le_succ _) (Nat.le_add_right _ _) (hK _)
theorem d_W_719 : decode code 719 = .ok (.aload_n 1, 1) := by decide +kernel
theorem d_W_720 : decode code 720 = .ok (.invokevirtual 157, 3) := by decide +kernel
theorem d_W_723 : decode code 723 = .ok (.aload_n 2, 1) := by decide +kernel
theorem d_W_724 : decode code 724 = .ok (.invokevirtual 160, 3) := by decide +kernel
theorem d_W_727 : decode code 727 = .ok (.if_icmp .eq 1568, 3) := by decide +kernel
theorem cc_L_157 : CV "KiteLoggerLaw" 157 y_G_isFallen b_G_isFallen 1 (some .boolean) 0 := ⟨TT_in (i := 552) (by decide +kernel) (by decide +kernel), TT_in (i := 553) (by decide +kernel) (by decide +kernel), TT_in (i := 554) (by decide +kernel) (by decide +kernel), TT_in (i := 88) (by decide +kernel) (by decide +kernel), TT_in (i := 555) (by decide +kernel) (by decide +kernel), ⟨by decide +kernel, by decide +kernel, by decide +kernel⟩⟩
theorem cc_L_160 : CV "KiteLoggerLaw" 160 y_M_isFallen b_M_isFallen 1 (some .boolean) 0 := ⟨TT_in (i := 1520) (by decide +kernel) (by decide +kernel), TT_in (i := 1521) (by decide +kernel) (by decide +kernel), TT_in (i := 1522) (by decide +kernel) (by decide +kernel), TT_in (i := 100) (by decide +kernel) (by decide +kernel), TT_in (i := 1523) (by decide +kernel) (by decide +kernel), ⟨by decide +kernel, by decide +kernel, by decide +kernel⟩⟩
set_option maxHeartbeats 4000000 in
set_option maxRecDepth 100000 in
theorem k_14 (l : Launch) (hst : l.stackTraces = false) (N : Nat) {p : Program} {e : Env} {s : State} {m : MethodId} {args : Array Value} {below : List Frame} {meth : Method} {c : Code} {w : Wc} {k n b Lx ii : Nat} {xs : Nat → Int32} {Qf : Unit → State → Prop} {K : Mem → Option Unit} (g : Gd p s m args meth c w 10 code "KiteLoggerLaw") (hnc : va_Nc exS exI s) (hw : WL w) (hX : LX s w b Lx xs) (hii : ii + 6 ≤ Lx) (hC0 : k ≤ room_1.cells ∧ n ≤ room_1.slots) (hC1 : k + 1 ≤ room_1.cells ∧ n + 6 ≤ room_1.slots) (hK : ∀ M, Go p l e room_1 s m args below meth c w 10 (k + 1) (n + 6) Qf (K M) 2295 (LL w b ii) [] M) (M : Mem) : Go p l e room_1 s m args below meth c w 10 k n Qf  (bnd (f_G_isFallen M) fun x1 M1 => bnd (f_M_isFallen 146 M1) fun x2 M2 => if x1 = x2 then K M2 else none) 719 (LL w b ii) [] M := by
  refine G_aload_n g (pc := 719) 1 d_W_719 rfl rfl ?_
  refine G_cVZ g (pc := 720) (As := []) (st := []) cc_L_157 (c_G_isFallen l hw.1 M) (hw.1.2 0 (Nat.le_of_ble_eq_true rfl)) (hw.1.k rfl) rfl (by decide) rfl ⟨(Nat.le_of_ble_eq_true rfl), (Nat.le_of_ble_eq_true rfl)⟩ hC0 (Nat.le_of_ble_eq_true rfl) d_W_720 (fun x1 M1 => ?_)
  refine G_aload_n g (pc := 723) 2 d_W_723 rfl rfl ?_
  refine G_cVZ g (pc := 724) (As := []) (st := [.int (b2i x1)]) cc_L_160 (c_M_isFallen l hw.2.1 M1) (hw.2.1.mm 145 (Nat.le_of_ble_eq_true rfl) (Nat.le_of_ble_eq_true rfl)) (hw.1.k rfl) rfl (by decide) rfl ⟨(Nat.le_of_ble_eq_true rfl), (Nat.le_of_ble_eq_true rfl)⟩ hC0 (Nat.le_of_ble_eq_true rfl) d_W_724 (fun x2 M2 => ?_)
  refine Go.ite (fun h12 => ?_)
  refine H_cmpeq g (pc := 727) 2295 d_W_727 (by decide) (congrArg b2i h12) ?_
  exact Go.widen (Nat.le_succ _) (Nat.le_add_right _ _) (hK _)
theorem d_W_732 : decode code 732 = .ok (.aload_n 1, 1) := by decide +kernel
theorem d_W_733 : decode code 733 = .ok (.invokevirtual 161, 3) := by decide +kernel
theorem d_W_736 : decode code 736 = .ok (.aload_n 2, 1) := by decide +kernel
theorem d_W_737 : decode code 737 = .ok (.invokevirtual 164, 3) := by decide +kernel
theorem d_W_740 : decode code 740 = .ok (.if_icmp .eq 1555, 3) := by decide +kernel
theorem cc_L_161 : CV "KiteLoggerLaw" 161 y_G_height b_G_height 1 (some .int) 0 := ⟨TT_in (i := 556) (by decide +kernel) (by decide +kernel), TT_in (i := 557) (by decide +kernel) (by decide +kernel), TT_in (i := 558) (by decide +kernel) (by decide +kernel), TT_in (i := 88) (by decide +kernel) (by decide +kernel), TT_in (i := 559) (by decide +kernel) (by decide +kernel), ⟨by decide +kernel, by decide +kernel, by decide +kernel⟩⟩
theorem cc_L_164 : CV "KiteLoggerLaw" 164 y_M_height b_M_height 1 (some .int) 0 := ⟨TT_in (i := 1524) (by decide +kernel) (by decide +kernel), TT_in (i := 1525) (by decide +kernel) (by decide +kernel), TT_in (i := 1526) (by decide +kernel) (by decide +kernel), TT_in (i := 100) (by decide +kernel) (by decide +kernel), TT_in (i := 1527) (by decide +kernel) (by decide +kernel), ⟨by decide +kernel, by decide +kernel, by decide +kernel⟩⟩
set_option maxHeartbeats 4000000 in
set_option maxRecDepth 100000 in
theorem k_15 (l : Launch) (hst : l.stackTraces = false) (N : Nat) {p : Program} {e : Env} {s : State} {m : MethodId} {args : Array Value} {below : List Frame} {meth : Method} {c : Code} {w : Wc} {k n b Lx ii : Nat} {xs : Nat → Int32} {Qf : Unit → State → Prop} {K : Mem → Option Unit} (g : Gd p s m args meth c w 10 code "KiteLoggerLaw") (hnc : va_Nc exS exI s) (hw : WL w) (hX : LX s w b Lx xs) (hii : ii + 6 ≤ Lx) (hC0 : k ≤ room_1.cells ∧ n ≤ room_1.slots) (hC1 : k + 1 ≤ room_1.cells ∧ n + 6 ≤ room_1.slots) (hK : ∀ M, Go p l e room_1 s m args below meth c w 10 (k + 1) (n + 6) Qf (K M) 2295 (LL w b ii) [] M) (M : Mem) : Go p l e room_1 s m args below meth c w 10 k n Qf  (bnd (f_G_height M) fun x1 M1 => bnd (f_M_height 146 M1) fun x2 M2 => if x1 = x2 then K M2 else none) 732 (LL w b ii) [] M := by
  refine G_aload_n g (pc := 732) 1 d_W_732 rfl rfl ?_
  refine G_cVI g (pc := 733) (As := []) (st := []) cc_L_161 (c_G_height l hw.1 M) (hw.1.2 0 (Nat.le_of_ble_eq_true rfl)) (hw.1.k rfl) rfl (by decide) rfl ⟨(Nat.le_of_ble_eq_true rfl), (Nat.le_of_ble_eq_true rfl)⟩ hC0 (Nat.le_of_ble_eq_true rfl) d_W_733 (fun x1 M1 => ?_)
  refine G_aload_n g (pc := 736) 2 d_W_736 rfl rfl ?_
  refine G_cVI g (pc := 737) (As := []) (st := [.int x1]) cc_L_164 (c_M_height l hw.2.1 M1) (hw.2.1.mm 145 (Nat.le_of_ble_eq_true rfl) (Nat.le_of_ble_eq_true rfl)) (hw.1.k rfl) rfl (by decide) rfl ⟨(Nat.le_of_ble_eq_true rfl), (Nat.le_of_ble_eq_true rfl)⟩ hC0 (Nat.le_of_ble_eq_true rfl) d_W_737 (fun x2 M2 => ?_)
  refine Go.ite (fun h12 => ?_)
  refine H_cmpeq g (pc := 740) 2295 d_W_740 (by decide) h12 ?_
  exact Go.widen (Nat.le_succ _) (Nat.le_add_right _ _) (hK _)
