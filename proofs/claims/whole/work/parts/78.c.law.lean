/-! more cases -/
theorem d_W_745 : decode code 745 = .ok (.aload_n 1, 1) := by decide +kernel
theorem d_W_746 : decode code 746 = .ok (.invokevirtual 165, 3) := by decide +kernel
theorem d_W_749 : decode code 749 = .ok (.aload_n 2, 1) := by decide +kernel
theorem d_W_750 : decode code 750 = .ok (.invokevirtual 168, 3) := by decide +kernel
theorem d_W_753 : decode code 753 = .ok (.if_icmp .eq 1542, 3) := by decide +kernel
theorem cc_L_165 : CV "KiteLoggerLaw" 165 y_G_tether b_G_tether 1 (some .int) 0 := ⟨TT_in (i := 560) (by decide +kernel) (by decide +kernel), TT_in (i := 561) (by decide +kernel) (by decide +kernel), TT_in (i := 562) (by decide +kernel) (by decide +kernel), TT_in (i := 88) (by decide +kernel) (by decide +kernel), TT_in (i := 563) (by decide +kernel) (by decide +kernel), ⟨by decide +kernel, by decide +kernel, by decide +kernel⟩⟩
theorem cc_L_168 : CV "KiteLoggerLaw" 168 y_M_tether b_M_tether 1 (some .int) 0 := ⟨TT_in (i := 1528) (by decide +kernel) (by decide +kernel), TT_in (i := 1529) (by decide +kernel) (by decide +kernel), TT_in (i := 1530) (by decide +kernel) (by decide +kernel), TT_in (i := 100) (by decide +kernel) (by decide +kernel), TT_in (i := 1531) (by decide +kernel) (by decide +kernel), ⟨by decide +kernel, by decide +kernel, by decide +kernel⟩⟩
set_option maxHeartbeats 4000000 in
set_option maxRecDepth 100000 in
theorem k_16 (l : Launch) (hst : l.stackTraces = false) (N : Nat) {p : Program} {e : Env} {s : State} {m : MethodId} {args : Array Value} {below : List Frame} {meth : Method} {c : Code} {w : Wc} {k n b Lx ii : Nat} {xs : Nat → Int32} {Qf : Unit → State → Prop} {K : Mem → Option Unit} (g : Gd p s m args meth c w 10 code "KiteLoggerLaw") (hnc : va_Nc exS exI s) (hw : WL w) (hX : LX s w b Lx xs) (hii : ii + 6 ≤ Lx) (hC0 : k ≤ room_1.cells ∧ n ≤ room_1.slots) (hC1 : k + 1 ≤ room_1.cells ∧ n + 6 ≤ room_1.slots) (hK : ∀ M, Go p l e room_1 s m args below meth c w 10 (k + 1) (n + 6) Qf (K M) 2295 (LL w b ii) [] M) (M : Mem) : Go p l e room_1 s m args below meth c w 10 k n Qf  (bnd (f_G_tether M) fun x1 M1 => bnd (f_M_tether 146 M1) fun x2 M2 => if x1 = x2 then K M2 else none) 745 (LL w b ii) [] M := by
  refine G_aload_n g (pc := 745) 1 d_W_745 rfl rfl ?_
  refine G_cVI g (pc := 746) (As := []) (st := []) cc_L_165 (c_G_tether l hw.1 M) (hw.1.2 0 (Nat.le_of_ble_eq_true rfl)) (hw.1.k rfl) rfl (by decide) rfl ⟨(Nat.le_of_ble_eq_true rfl), (Nat.le_of_ble_eq_true rfl)⟩ hC0 (Nat.le_of_ble_eq_true rfl) d_W_746 (fun x1 M1 => ?_)
  refine G_aload_n g (pc := 749) 2 d_W_749 rfl rfl ?_
  refine G_cVI g (pc := 750) (As := []) (st := [.int x1]) cc_L_168 (c_M_tether l hw.2.1 M1) (hw.2.1.mm 145 (Nat.le_of_ble_eq_true rfl) (Nat.le_of_ble_eq_true rfl)) (hw.1.k rfl) rfl (by decide) rfl ⟨(Nat.le_of_ble_eq_true rfl), (Nat.le_of_ble_eq_true rfl)⟩ hC0 (Nat.le_of_ble_eq_true rfl) d_W_750 (fun x2 M2 => ?_)
  refine Go.ite (fun h12 => ?_)
  refine H_cmpeq g (pc := 753) 2295 d_W_753 (by decide) h12 ?_
  exact Go.widen (Nat.le_succ _) (Nat.le_add_right _ _) (hK _)
theorem d_W_758 : decode code 758 = .ok (.aload_n 1, 1) := by decide +kernel
theorem d_W_759 : decode code 759 = .ok (.invokevirtual 169, 3) := by decide +kernel
theorem d_W_762 : decode code 762 = .ok (.aload_n 2, 1) := by decide +kernel
theorem d_W_763 : decode code 763 = .ok (.invokevirtual 172, 3) := by decide +kernel
theorem d_W_766 : decode code 766 = .ok (.if_icmp .eq 1529, 3) := by decide +kernel
theorem cc_L_169 : CV "KiteLoggerLaw" 169 y_G_area b_G_area 1 (some .int) 0 := ⟨TT_in (i := 564) (by decide +kernel) (by decide +kernel), TT_in (i := 565) (by decide +kernel) (by decide +kernel), TT_in (i := 566) (by decide +kernel) (by decide +kernel), TT_in (i := 88) (by decide +kernel) (by decide +kernel), TT_in (i := 567) (by decide +kernel) (by decide +kernel), ⟨by decide +kernel, by decide +kernel, by decide +kernel⟩⟩
theorem cc_L_172 : CV "KiteLoggerLaw" 172 y_M_area b_M_area 1 (some .int) 0 := ⟨TT_in (i := 1532) (by decide +kernel) (by decide +kernel), TT_in (i := 1533) (by decide +kernel) (by decide +kernel), TT_in (i := 1534) (by decide +kernel) (by decide +kernel), TT_in (i := 100) (by decide +kernel) (by decide +kernel), TT_in (i := 1535) (by decide +kernel) (by decide +kernel), ⟨by decide +kernel, by decide +kernel, by decide +kernel⟩⟩
set_option maxHeartbeats 4000000 in
set_option maxRecDepth 100000 in
theorem k_17 (l : Launch) (hst : l.stackTraces = false) (N : Nat) {p : Program} {e : Env} {s : State} {m : MethodId} {args : Array Value} {below : List Frame} {meth : Method} {c : Code} {w : Wc} {k n b Lx ii : Nat} {xs : Nat → Int32} {Qf : Unit → State → Prop} {K : Mem → Option Unit} (g : Gd p s m args meth c w 10 code "KiteLoggerLaw") (hnc : va_Nc exS exI s) (hw : WL w) (hX : LX s w b Lx xs) (hii : ii + 6 ≤ Lx) (hC0 : k ≤ room_1.cells ∧ n ≤ room_1.slots) (hC1 : k + 1 ≤ room_1.cells ∧ n + 6 ≤ room_1.slots) (hK : ∀ M, Go p l e room_1 s m args below meth c w 10 (k + 1) (n + 6) Qf (K M) 2295 (LL w b ii) [] M) (M : Mem) : Go p l e room_1 s m args below meth c w 10 k n Qf  (bnd (f_G_area M) fun x1 M1 => bnd (f_M_area 146 M1) fun x2 M2 => if x1 = x2 then K M2 else none) 758 (LL w b ii) [] M := by
  refine G_aload_n g (pc := 758) 1 d_W_758 rfl rfl ?_
  refine G_cVI g (pc := 759) (As := []) (st := []) cc_L_169 (c_G_area l hw.1 M) (hw.1.2 0 (Nat.le_of_ble_eq_true rfl)) (hw.1.k rfl) rfl (by decide) rfl ⟨(Nat.le_of_ble_eq_true rfl), (Nat.le_of_ble_eq_true rfl)⟩ hC0 (Nat.le_of_ble_eq_true rfl) d_W_759 (fun x1 M1 => ?_)
  refine G_aload_n g (pc := 762) 2 d_W_762 rfl rfl ?_
  refine G_cVI g (pc := 763) (As := []) (st := [.int x1]) cc_L_172 (c_M_area l hw.2.1 M1) (hw.2.1.mm 145 (Nat.le_of_ble_eq_true rfl) (Nat.le_of_ble_eq_true rfl)) (hw.1.k rfl) rfl (by decide) rfl ⟨(Nat.le_of_ble_eq_true rfl), (Nat.le_of_ble_eq_true rfl)⟩ hC0 (Nat.le_of_ble_eq_true rfl) d_W_763 (fun x2 M2 => ?_)
  refine Go.ite (fun h12 => ?_)
  refine H_cmpeq g (pc := 766) 2295 d_W_766 (by decide) h12 ?_
  exact Go.widen (Nat.le_succ _) (Nat.le_add_right _ _) (hK _)
theorem d_W_771 : decode code 771 = .ok (.aload_n 1, 1) := by decide +kernel
theorem d_W_772 : decode code 772 = .ok (.invokevirtual 173, 3) := by decide +kernel
theorem d_W_775 : decode code 775 = .ok (.aload_n 2, 1) := by decide +kernel
theorem d_W_776 : decode code 776 = .ok (.invokevirtual 176, 3) := by decide +kernel
theorem d_W_779 : decode code 779 = .ok (.if_icmp .eq 1516, 3) := by decide +kernel
theorem cc_L_173 : CV "KiteLoggerLaw" 173 y_G_limit b_G_limit 1 (some .int) 0 := ⟨TT_in (i := 568) (by decide +kernel) (by decide +kernel), TT_in (i := 569) (by decide +kernel) (by decide +kernel), TT_in (i := 570) (by decide +kernel) (by decide +kernel), TT_in (i := 88) (by decide +kernel) (by decide +kernel), TT_in (i := 571) (by decide +kernel) (by decide +kernel), ⟨by decide +kernel, by decide +kernel, by decide +kernel⟩⟩
theorem cc_L_176 : CV "KiteLoggerLaw" 176 y_M_limit b_M_limit 1 (some .int) 0 := ⟨TT_in (i := 1536) (by decide +kernel) (by decide +kernel), TT_in (i := 1537) (by decide +kernel) (by decide +kernel), TT_in (i := 1538) (by decide +kernel) (by decide +kernel), TT_in (i := 100) (by decide +kernel) (by decide +kernel), TT_in (i := 1539) (by decide +kernel) (by decide +kernel), ⟨by decide +kernel, by decide +kernel, by decide +kernel⟩⟩
set_option maxHeartbeats 4000000 in
set_option maxRecDepth 100000 in
theorem k_18 (l : Launch) (hst : l.stackTraces = false) (N : Nat) {p : Program} {e : Env} {s : State} {m : MethodId} {args : Array Value} {below : List Frame} {meth : Method} {c : Code} {w : Wc} {k n b Lx ii : Nat} {xs : Nat → Int32} {Qf : Unit → State → Prop} {K : Mem → Option Unit} (g : Gd p s m args meth c w 10 code "KiteLoggerLaw") (hnc : va_Nc exS exI s) (hw : WL w) (hX : LX s w b Lx xs) (hii : ii + 6 ≤ Lx) (hC0 : k ≤ room_1.cells ∧ n ≤ room_1.slots) (hC1 : k + 1 ≤ room_1.cells ∧ n + 6 ≤ room_1.slots) (hK : ∀ M, Go p l e room_1 s m args below meth c w 10 (k + 1) (n + 6) Qf (K M) 2295 (LL w b ii) [] M) (M : Mem) : Go p l e room_1 s m args below meth c w 10 k n Qf  (bnd (f_G_limit M) fun x1 M1 => bnd (f_M_limit 146 M1) fun x2 M2 => if x1 = x2 then K M2 else none) 771 (LL w b ii) [] M := by
  refine G_aload_n g (pc := 771) 1 d_W_771 rfl rfl ?_
  refine G_cVI g (pc := 772) (As := []) (st := []) cc_L_173 (c_G_limit l hw.1 M) (hw.1.2 0 (Nat.le_of_ble_eq_true rfl)) (hw.1.k rfl) rfl (by decide) rfl ⟨(Nat.le_of_ble_eq_true rfl), (Nat.le_of_ble_eq_true rfl)⟩ hC0 (Nat.le_of_ble_eq_true rfl) d_W_772 (fun x1 M1 => ?_)
  refine G_aload_n g (pc := 775) 2 d_W_775 rfl rfl ?_
  refine G_cVI g (pc := 776) (As := []) (st := [.int x1]) cc_L_176 (c_M_limit l hw.2.1 M1) (hw.2.1.mm 145 (Nat.le_of_ble_eq_true rfl) (Nat.le_of_ble_eq_true rfl)) (hw.1.k rfl) rfl (by decide) rfl ⟨(Nat.le_of_ble_eq_true rfl), (Nat.le_of_ble_eq_true rfl)⟩ hC0 (Nat.le_of_ble_eq_true rfl) d_W_776 (fun x2 M2 => ?_)
  refine Go.ite (fun h12 => ?_)
  refine H_cmpeq g (pc := 779) 2295 d_W_779 (by decide) h12 ?_
  exact Go.widen (Nat.le_succ _) (Nat.le_add_right _ _) (hK _)
theorem d_W_784 : decode code 784 = .ok (.aload_n 1, 1) := by decide +kernel
theorem d_W_785 : decode code 785 = .ok (.invokevirtual 177, 3) := by decide +kernel
theorem d_W_788 : decode code 788 = .ok (.aload_n 2, 1) := by decide +kernel
theorem d_W_789 : decode code 789 = .ok (.invokevirtual 180, 3) := by decide +kernel
theorem d_W_792 : decode code 792 = .ok (.if_icmp .eq 1503, 3) := by decide +kernel
theorem cc_L_177 : CV "KiteLoggerLaw" 177 y_G_endurance b_G_endurance 1 (some .int) 0 := ⟨TT_in (i := 572) (by decide +kernel) (by decide +kernel), TT_in (i := 573) (by decide +kernel) (by decide +kernel), TT_in (i := 574) (by decide +kernel) (by decide +kernel), TT_in (i := 88) (by decide +kernel) (by decide +kernel), TT_in (i := 575) (by decide +kernel) (by decide +kernel), ⟨by decide +kernel, by decide +kernel, by decide +kernel⟩⟩
theorem cc_L_180 : CV "KiteLoggerLaw" 180 y_M_endurance b_M_endurance 1 (some .int) 0 := ⟨TT_in (i := 1540) (by decide +kernel) (by decide +kernel), TT_in (i := 1541) (by decide +kernel) (by decide +kernel), TT_in (i := 1542) (by decide +kernel) (by decide +kernel), TT_in (i := 100) (by decide +kernel) (by decide +kernel), TT_in (i := 1543) (by decide +kernel) (by decide +kernel), ⟨by decide +kernel, by decide +kernel, by decide +kernel⟩⟩
set_option maxHeartbeats 4000000 in
set_option maxRecDepth 100000 in
theorem k_19 (l : Launch) (hst : l.stackTraces = false) (N : Nat) {p : Program} {e : Env} {s : State} {m : MethodId} {args : Array Value} {below : List Frame} {meth : Method} {c : Code} {w : Wc} {k n b Lx ii : Nat} {xs : Nat → Int32} {Qf : Unit → State → Prop} {K : Mem → Option Unit} (g : Gd p s m args meth c w 10 code "KiteLoggerLaw") (hnc : va_Nc exS exI s) (hw : WL w) (hX : LX s w b Lx xs) (hii : ii + 6 ≤ Lx) (hC0 : k ≤ room_1.cells ∧ n ≤ room_1.slots) (hC1 : k + 1 ≤ room_1.cells ∧ n + 6 ≤ room_1.slots) (hK : ∀ M, Go p l e room_1 s m args below meth c w 10 (k + 1) (n + 6) Qf (K M) 2295 (LL w b ii) [] M) (M : Mem) : Go p l e room_1 s m args below meth c w 10 k n Qf  (bnd (f_G_endurance M) fun x1 M1 => bnd (f_M_endurance 146 M1) fun x2 M2 => if x1 = x2 then K M2 else none) 784 (LL w b ii) [] M := by
  refine G_aload_n g (pc := 784) 1 d_W_784 rfl rfl ?_
  refine G_cVI g (pc := 785) (As := []) (st := []) cc_L_177 (c_G_endurance l hw.1 M) (hw.1.2 0 (Nat.le_of_ble_eq_true rfl)) (hw.1.k rfl) rfl (by decide) rfl ⟨(Nat.le_of_ble_eq_true rfl), (Nat.le_of_ble_eq_true rfl)⟩ hC0 (Nat.le_of_ble_eq_true rfl) d_W_785 (fun x1 M1 => ?_)
  refine G_aload_n g (pc := 788) 2 d_W_788 rfl rfl ?_
  refine G_cVI g (pc := 789) (As := []) (st := [.int x1]) cc_L_180 (c_M_endurance l hw.2.1 M1) (hw.2.1.mm 145 (Nat.le_of_ble_eq_true rfl) (Nat.le_of_ble_eq_true rfl)) (hw.1.k rfl) rfl (by decide) rfl ⟨(Nat.le_of_ble_eq_true rfl), (Nat.le_of_ble_eq_true rfl)⟩ hC0 (Nat.le_of_ble_eq_true rfl) d_W_789 (fun x2 M2 => ?_)
  refine Go.ite (fun h12 => ?_)
  refine H_cmpeq g (pc := 792) 2295 d_W_792 (by decide) h12 ?_
  exact Go.widen (Nat.le_succ _) (Nat.le_add_right _ _) (hK _)
theorem d_W_797 : decode code 797 = .ok (.aload_n 1, 1) := by decide +kernel
theorem d_W_798 : decode code 798 = .ok (.invokevirtual 181, 3) := by decide +kernel
theorem d_W_801 : decode code 801 = .ok (.aload_n 2, 1) := by decide +kernel
theorem d_W_802 : decode code 802 = .ok (.invokevirtual 184, 3) := by decide +kernel
theorem d_W_805 : decode code 805 = .ok (.if_icmp .eq 1490, 3) := by decide +kernel
theorem cc_L_181 : CV "KiteLoggerLaw" 181 y_G_wear b_G_wear 1 (some .int) 0 := ⟨TT_in (i := 576) (by decide +kernel) (by decide +kernel), TT_in (i := 577) (by decide +kernel) (by decide +kernel), TT_in (i := 578) (by decide +kernel) (by decide +kernel), TT_in (i := 88) (by decide +kernel) (by decide +kernel), TT_in (i := 579) (by decide +kernel) (by decide +kernel), ⟨by decide +kernel, by decide +kernel, by decide +kernel⟩⟩
theorem cc_L_184 : CV "KiteLoggerLaw" 184 y_M_wear b_M_wear 1 (some .int) 0 := ⟨TT_in (i := 1544) (by decide +kernel) (by decide +kernel), TT_in (i := 1545) (by decide +kernel) (by decide +kernel), TT_in (i := 1546) (by decide +kernel) (by decide +kernel), TT_in (i := 100) (by decide +kernel) (by decide +kernel), TT_in (i := 1547) (by decide +kernel) (by decide +kernel), ⟨by decide +kernel, by decide +kernel, by decide +kernel⟩⟩
set_option maxHeartbeats 4000000 in
set_option maxRecDepth 100000 in
theorem k_20 (l : Launch) (hst : l.stackTraces = false) (N : Nat) {p : Program} {e : Env} {s : State} {m : MethodId} {args : Array Value} {below : List Frame} {meth : Method} {c : Code} {w : Wc} {k n b Lx ii : Nat} {xs : Nat → Int32} {Qf : Unit → State → Prop} {K : Mem → Option Unit} (g : Gd p s m args meth c w 10 code "KiteLoggerLaw") (hnc : va_Nc exS exI s) (hw : WL w) (hX : LX s w b Lx xs) (hii : ii + 6 ≤ Lx) (hC0 : k ≤ room_1.cells ∧ n ≤ room_1.slots) (hC1 : k + 1 ≤ room_1.cells ∧ n + 6 ≤ room_1.slots) (hK : ∀ M, Go p l e room_1 s m args below meth c w 10 (k + 1) (n + 6) Qf (K M) 2295 (LL w b ii) [] M) (M : Mem) : Go p l e room_1 s m args below meth c w 10 k n Qf  (bnd (f_G_wear M) fun x1 M1 => bnd (f_M_wear 146 M1) fun x2 M2 => if x1 = x2 then K M2 else none) 797 (LL w b ii) [] M := by
  refine G_aload_n g (pc := 797) 1 d_W_797 rfl rfl ?_
  refine G_cVI g (pc := 798) (As := []) (st := []) cc_L_181 (c_G_wear l hw.1 M) (hw.1.2 0 (Nat.le_of_ble_eq_true rfl)) (hw.1.k rfl) rfl (by decide) rfl ⟨(Nat.le_of_ble_eq_true rfl), (Nat.le_of_ble_eq_true rfl)⟩ hC0 (Nat.le_of_ble_eq_true rfl) d_W_798 (fun x1 M1 => ?_)
  refine G_aload_n g (pc := 801) 2 d_W_801 rfl rfl ?_
  refine G_cVI g (pc := 802) (As := []) (st := [.int x1]) cc_L_184 (c_M_wear l hw.2.1 M1) (hw.2.1.mm 145 (Nat.le_of_ble_eq_true rfl) (Nat.le_of_ble_eq_true rfl)) (hw.1.k rfl) rfl (by decide) rfl ⟨(Nat.le_of_ble_eq_true rfl), (Nat.le_of_ble_eq_true rfl)⟩ hC0 (Nat.le_of_ble_eq_true rfl) d_W_802 (fun x2 M2 => ?_)
  refine Go.ite (fun h12 => ?_)
  refine H_cmpeq g (pc := 805) 2295 d_W_805 (by decide) h12 ?_
  exact Go.widen (Nat.le_succ _) (Nat.le_add_right _ _) (hK _)
theorem d_W_810 : decode code 810 = .ok (.aload_n 1, 1) := by decide +kernel
theorem d_W_811 : decode code 811 = .ok (.aload_n 0, 1) := by decide +kernel
theorem d_W_812 : decode code 812 = .ok (.iload 5, 2) := by decide +kernel
theorem d_W_814 : decode code 814 = .ok (.iconst 1, 1) := by decide +kernel
theorem d_W_815 : decode code 815 = .ok (.iadd, 1) := by decide +kernel
theorem d_W_816 : decode code 816 = .ok (.iaload, 1) := by decide +kernel
theorem d_W_817 : decode code 817 = .ok (.aload_n 3, 1) := by decide +kernel
theorem d_W_818 : decode code 818 = .ok (.invokestatic 185, 3) := by decide +kernel
theorem d_W_821 : decode code 821 = .ok (.istore 6, 2) := by decide +kernel
theorem d_W_823 : decode code 823 = .ok (.aload_n 2, 1) := by decide +kernel
theorem d_W_824 : decode code 824 = .ok (.aload_n 0, 1) := by decide +kernel
theorem d_W_825 : decode code 825 = .ok (.iload 5, 2) := by decide +kernel
theorem d_W_827 : decode code 827 = .ok (.iconst 1, 1) := by decide +kernel
theorem d_W_828 : decode code 828 = .ok (.iadd, 1) := by decide +kernel
theorem d_W_829 : decode code 829 = .ok (.iaload, 1) := by decide +kernel
theorem d_W_830 : decode code 830 = .ok (.invokevirtual 187, 3) := by decide +kernel
theorem d_W_833 : decode code 833 = .ok (.istore 7, 2) := by decide +kernel
theorem d_W_835 : decode code 835 = .ok (.aload_n 2, 1) := by decide +kernel
theorem d_W_836 : decode code 836 = .ok (.invokevirtual 106, 3) := by decide +kernel
theorem d_W_839 : decode code 839 = .ok (.iload 6, 2) := by decide +kernel
theorem d_W_841 : decode code 841 = .ok (.if_icmp .eq 5, 3) := by decide +kernel
theorem d_W_846 : decode code 846 = .ok (.iload 6, 2) := by decide +kernel
theorem d_W_848 : decode code 848 = .ok (.ifCond .ne 15, 3) := by decide +kernel
theorem d_W_851 : decode code 851 = .ok (.aload_n 3, 1) := by decide +kernel
theorem d_W_852 : decode code 852 = .ok (.iconst 0, 1) := by decide +kernel
theorem d_W_853 : decode code 853 = .ok (.laload, 1) := by decide +kernel
theorem d_W_854 : decode code 854 = .ok (.iload 7, 2) := by decide +kernel
theorem d_W_856 : decode code 856 = .ok (.i2l, 1) := by decide +kernel
theorem d_W_857 : decode code 857 = .ok (.lcmp, 1) := by decide +kernel
theorem d_W_858 : decode code 858 = .ok (.ifCond .eq 5, 3) := by decide +kernel
theorem d_W_863 : decode code 863 = .ok (.goto 1432, 3) := by decide +kernel
theorem cs_L_185 : CSH "KiteLoggerLaw" 185 y_L_loadOf b_L_loadOf 4 [(0, 9, 12, 13)] 3 := ⟨TT_in (i := 994) (by decide +kernel) (by decide +kernel), TT_in (i := 995) (by decide +kernel) (by decide +kernel), TT_in (i := 87) (by decide +kernel) (by decide +kernel), TT_in (i := 996) (by decide +kernel) (by decide +kernel), ⟨by decide +kernel, by decide +kernel, by decide +kernel⟩⟩
theorem cc_L_187 : CV "KiteLoggerLaw" 187 y_M_loadOf b_M_loadOf 2 (some .int) 1 := ⟨TT_in (i := 1548) (by decide +kernel) (by decide +kernel), TT_in (i := 1549) (by decide +kernel) (by decide +kernel), TT_in (i := 1550) (by decide +kernel) (by decide +kernel), TT_in (i := 100) (by decide +kernel) (by decide +kernel), TT_in (i := 1551) (by decide +kernel) (by decide +kernel), ⟨by decide +kernel, by decide +kernel, by decide +kernel⟩⟩
set_option maxHeartbeats 4000000 in
set_option maxRecDepth 100000 in
theorem k_21 (l : Launch) (hst : l.stackTraces = false) (N : Nat) {p : Program} {e : Env} {s : State} {m : MethodId} {args : Array Value} {below : List Frame} {meth : Method} {c : Code} {w : Wc} {k n b Lx ii : Nat} {xs : Nat → Int32} {Qf : Unit → State → Prop} {K : Mem → Option Unit} (g : Gd p s m args meth c w 10 code "KiteLoggerLaw") (hnc : va_Nc exS exI s) (hw : WL w) (hX : LX s w b Lx xs) (hii : ii + 6 ≤ Lx) (hC0 : k ≤ room_1.cells ∧ n ≤ room_1.slots) (hC1 : k + 1 ≤ room_1.cells ∧ n + 6 ≤ room_1.slots) (hK : ∀ M, Go p l e room_1 s m args below meth c w 10 (k + 1) (n + 6) Qf (K M) 2295 (LL w b ii) [] M) (M : Mem) : Go p l e room_1 s m args below meth c w 10 k n Qf  (bnd (lwW [(0, 1)] (f_G_loadOf (xs (ii + 1)) M)) fun x1 M1 => bnd (f_M_loadOf 146 (xs (ii + 1)) M1) fun x2 M2 => bnd (f_M_thrown M2) fun x3 M3 => if x3 = x1 ∧ (x1 = 0 → M3 156 0 = x2) then K M3 else none) 810 (LL w b ii) [] M := by
  refine G_aload_n g (pc := 810) 1 d_W_810 rfl rfl ?_
  refine G_arg g (pc := 811) hX (j := 1) (j0 := 0) (j5 := 5) hii (by decide) rfl rfl d_W_811 d_W_812 d_W_814 rfl d_W_815 d_W_816 ?_
  refine G_aload_n g (pc := 817) 3 d_W_817 rfl rfl ?_
  refine G_cSH g hnc (pc := 818) (As := [.ref (wad w 0), .int (xs (ii + 1)), .ref (wad w 156)]) (st := []) cs_L_185 (c_L_loadOf l hst hw (xs (ii + 1)) M) rfl ⟨(Nat.le_of_ble_eq_true rfl), (Nat.le_of_ble_eq_true rfl)⟩ hC1 (Nat.le_of_ble_eq_true rfl) d_W_818 (fun x1 M1 => ?_)
  refine G_istore g (pc := 821) _ d_W_821 (Nat.le_of_ble_eq_true rfl) rfl ?_
  refine G_aload_n g (pc := 823) 3 d_W_823 rfl rfl ?_
  refine G_arg g (pc := 824) hX (j := 1) (j0 := 1) (j5 := 6) hii (by decide) rfl rfl d_W_824 d_W_825 d_W_827 rfl d_W_828 d_W_829 ?_
  refine G_cVI g (pc := 830) (As := [.int (xs (ii + 1))]) (st := []) cc_L_187 (c_M_loadOf l hw.2.1 (xs (ii + 1)) M1) (hw.2.1.mm 145 (Nat.le_of_ble_eq_true rfl) (Nat.le_of_ble_eq_true rfl)) (hw.1.k rfl) rfl (by decide) rfl ⟨(Nat.le_of_ble_eq_true rfl), (Nat.le_of_ble_eq_true rfl)⟩ hC1 (Nat.le_of_ble_eq_true rfl) d_W_830 (fun x2 M2 => ?_)
  refine G_istore g (pc := 833) _ d_W_833 (Nat.le_of_ble_eq_true rfl) rfl ?_
  refine G_aload_n g (pc := 835) 4 d_W_835 rfl rfl ?_
  refine G_cVI g (pc := 836) (As := []) (st := []) cc_L_106 (c_M_thrown l hw.2.1 M2) (hw.2.1.mm 145 (Nat.le_of_ble_eq_true rfl) (Nat.le_of_ble_eq_true rfl)) (hw.1.k rfl) rfl (by decide) rfl ⟨(Nat.le_of_ble_eq_true rfl), (Nat.le_of_ble_eq_true rfl)⟩ hC1 (Nat.le_of_ble_eq_true rfl) d_W_836 (fun x3 M3 => ?_)
  refine Go.ite (fun h12 => ?_)
  refine G_iload g (pc := 839) 1 d_W_839 rfl ?_
  refine H_cmpeq g (pc := 841) 846 d_W_841 (by decide) h12.1 ?_
  refine G_iload g (pc := 846) 1 d_W_846 rfl ?_
  refine H_ifne g (pc := 848) 863 d_W_848 (by decide) (fun h0 => ?_) (fun h0 => ?_)
  · refine G_goto g (pc := 863) 2295 d_W_863 (by decide) ?_
    refine G_sub [2, 3, 4, 5, 6, 7] _ rfl ?_
    exact hK _
  · refine G_aload_n g (pc := 851) 5 d_W_851 rfl rfl ?_
    refine G_iconst g (pc := 852) (0 : Int32) d_W_852 rfl ?_
    refine G_lald0 g (pc := 853) hw.2.2.1 (hw.1.k rfl) d_W_853 ?_
    refine G_iload g (pc := 854) 0 d_W_854 rfl ?_
    refine G_i2l g (pc := 856) d_W_856 ?_
    refine G_lcmp g (pc := 857) (congrArg Int32.toInt64 (h12.2 h0)) d_W_857 ?_
    refine H_ifeq g (pc := 858) 863 d_W_858 (by decide) (fun _ => ?_) (fun h9 => Go.no (h9 rfl))
    refine G_goto g (pc := 863) 2295 d_W_863 (by decide) ?_
    refine G_sub [2, 3, 4, 5, 6, 7] _ rfl ?_
    exact hK _
theorem d_W_866 : decode code 866 = .ok (.aload_n 1, 1) := by decide +kernel
theorem d_W_867 : decode code 867 = .ok (.invokevirtual 188, 3) := by decide +kernel
theorem d_W_870 : decode code 870 = .ok (.aload_n 2, 1) := by decide +kernel
theorem d_W_871 : decode code 871 = .ok (.invokevirtual 191, 3) := by decide +kernel
theorem d_W_874 : decode code 874 = .ok (.if_icmp .eq 1421, 3) := by decide +kernel
theorem cc_L_188 : CV "KiteLoggerLaw" 188 y_G_flightTime b_G_flightTime 1 (some .int) 0 := ⟨TT_in (i := 580) (by decide +kernel) (by decide +kernel), TT_in (i := 581) (by decide +kernel) (by decide +kernel), TT_in (i := 582) (by decide +kernel) (by decide +kernel), TT_in (i := 88) (by decide +kernel) (by decide +kernel), TT_in (i := 583) (by decide +kernel) (by decide +kernel), ⟨by decide +kernel, by decide +kernel, by decide +kernel⟩⟩
theorem cc_L_191 : CV "KiteLoggerLaw" 191 y_M_flightTime b_M_flightTime 1 (some .int) 0 := ⟨TT_in (i := 1556) (by decide +kernel) (by decide +kernel), TT_in (i := 1557) (by decide +kernel) (by decide +kernel), TT_in (i := 1558) (by decide +kernel) (by decide +kernel), TT_in (i := 100) (by decide +kernel) (by decide +kernel), TT_in (i := 1559) (by decide +kernel) (by decide +kernel), ⟨by decide +kernel, by decide +kernel, by decide +kernel⟩⟩
set_option maxHeartbeats 4000000 in
set_option maxRecDepth 100000 in
theorem k_22 (l : Launch) (hst : l.stackTraces = false) (N : Nat) {p : Program} {e : Env} {s : State} {m : MethodId} {args : Array Value} {below : List Frame} {meth : Method} {c : Code} {w : Wc} {k n b Lx ii : Nat} {xs : Nat → Int32} {Qf : Unit → State → Prop} {K : Mem → Option Unit} (g : Gd p s m args meth c w 10 code "KiteLoggerLaw") (hnc : va_Nc exS exI s) (hw : WL w) (hX : LX s w b Lx xs) (hii : ii + 6 ≤ Lx) (hC0 : k ≤ room_1.cells ∧ n ≤ room_1.slots) (hC1 : k + 1 ≤ room_1.cells ∧ n + 6 ≤ room_1.slots) (hK : ∀ M, Go p l e room_1 s m args below meth c w 10 (k + 1) (n + 6) Qf (K M) 2295 (LL w b ii) [] M) (M : Mem) : Go p l e room_1 s m args below meth c w 10 k n Qf  (bnd (f_G_flightTime M) fun x1 M1 => bnd (f_M_flightTime 146 M1) fun x2 M2 => if x1 = x2 then K M2 else none) 866 (LL w b ii) [] M := by
  refine G_aload_n g (pc := 866) 1 d_W_866 rfl rfl ?_
  refine G_cVI g (pc := 867) (As := []) (st := []) cc_L_188 (c_G_flightTime l hw.1 M) (hw.1.2 0 (Nat.le_of_ble_eq_true rfl)) (hw.1.k rfl) rfl (by decide) rfl ⟨(Nat.le_of_ble_eq_true rfl), (Nat.le_of_ble_eq_true rfl)⟩ hC0 (Nat.le_of_ble_eq_true rfl) d_W_867 (fun x1 M1 => ?_)
  refine G_aload_n g (pc := 870) 2 d_W_870 rfl rfl ?_
  refine G_cVI g (pc := 871) (As := []) (st := [.int x1]) cc_L_191 (c_M_flightTime l hw.2.1 M1) (hw.2.1.mm 145 (Nat.le_of_ble_eq_true rfl) (Nat.le_of_ble_eq_true rfl)) (hw.1.k rfl) rfl (by decide) rfl ⟨(Nat.le_of_ble_eq_true rfl), (Nat.le_of_ble_eq_true rfl)⟩ hC0 (Nat.le_of_ble_eq_true rfl) d_W_871 (fun x2 M2 => ?_)
  refine Go.ite (fun h12 => ?_)
  refine H_cmpeq g (pc := 874) 2295 d_W_874 (by decide) h12 ?_
  exact Go.widen (Nat.le_succ _) (Nat.le_add_right _ _) (hK _)
theorem d_W_879 : decode code 879 = .ok (.aload_n 1, 1) := by decide +kernel
theorem d_W_880 : decode code 880 = .ok (.invokevirtual 192, 3) := by decide +kernel
theorem d_W_883 : decode code 883 = .ok (.aload_n 2, 1) := by decide +kernel
theorem d_W_884 : decode code 884 = .ok (.invokevirtual 195, 3) := by decide +kernel
theorem d_W_887 : decode code 887 = .ok (.if_icmp .eq 1408, 3) := by decide +kernel
theorem cc_L_192 : CV "KiteLoggerLaw" 192 y_G_beaconTime b_G_beaconTime 1 (some .int) 0 := ⟨TT_in (i := 584) (by decide +kernel) (by decide +kernel), TT_in (i := 585) (by decide +kernel) (by decide +kernel), TT_in (i := 586) (by decide +kernel) (by decide +kernel), TT_in (i := 88) (by decide +kernel) (by decide +kernel), TT_in (i := 587) (by decide +kernel) (by decide +kernel), ⟨by decide +kernel, by decide +kernel, by decide +kernel⟩⟩
theorem cc_L_195 : CV "KiteLoggerLaw" 195 y_M_beaconTime b_M_beaconTime 1 (some .int) 0 := ⟨TT_in (i := 1560) (by decide +kernel) (by decide +kernel), TT_in (i := 1561) (by decide +kernel) (by decide +kernel), TT_in (i := 1562) (by decide +kernel) (by decide +kernel), TT_in (i := 100) (by decide +kernel) (by decide +kernel), TT_in (i := 1563) (by decide +kernel) (by decide +kernel), ⟨by decide +kernel, by decide +kernel, by decide +kernel⟩⟩
set_option maxHeartbeats 4000000 in
set_option maxRecDepth 100000 in
theorem k_23 (l : Launch) (hst : l.stackTraces = false) (N : Nat) {p : Program} {e : Env} {s : State} {m : MethodId} {args : Array Value} {below : List Frame} {meth : Method} {c : Code} {w : Wc} {k n b Lx ii : Nat} {xs : Nat → Int32} {Qf : Unit → State → Prop} {K : Mem → Option Unit} (g : Gd p s m args meth c w 10 code "KiteLoggerLaw") (hnc : va_Nc exS exI s) (hw : WL w) (hX : LX s w b Lx xs) (hii : ii + 6 ≤ Lx) (hC0 : k ≤ room_1.cells ∧ n ≤ room_1.slots) (hC1 : k + 1 ≤ room_1.cells ∧ n + 6 ≤ room_1.slots) (hK : ∀ M, Go p l e room_1 s m args below meth c w 10 (k + 1) (n + 6) Qf (K M) 2295 (LL w b ii) [] M) (M : Mem) : Go p l e room_1 s m args below meth c w 10 k n Qf  (bnd (f_G_beaconTime M) fun x1 M1 => bnd (f_M_beaconTime 146 M1) fun x2 M2 => if x1 = x2 then K M2 else none) 879 (LL w b ii) [] M := by
  refine G_aload_n g (pc := 879) 1 d_W_879 rfl rfl ?_
  refine G_cVI g (pc := 880) (As := []) (st := []) cc_L_192 (c_G_beaconTime l hw.1 M) (hw.1.2 0 (Nat.le_of_ble_eq_true rfl)) (hw.1.k rfl) rfl (by decide) rfl ⟨(Nat.le_of_ble_eq_true rfl), (Nat.le_of_ble_eq_true rfl)⟩ hC0 (Nat.le_of_ble_eq_true rfl) d_W_880 (fun x1 M1 => ?_)
  refine G_aload_n g (pc := 883) 2 d_W_883 rfl rfl ?_
  refine G_cVI g (pc := 884) (As := []) (st := [.int x1]) cc_L_195 (c_M_beaconTime l hw.2.1 M1) (hw.2.1.mm 145 (Nat.le_of_ble_eq_true rfl) (Nat.le_of_ble_eq_true rfl)) (hw.1.k rfl) rfl (by decide) rfl ⟨(Nat.le_of_ble_eq_true rfl), (Nat.le_of_ble_eq_true rfl)⟩ hC0 (Nat.le_of_ble_eq_true rfl) d_W_884 (fun x2 M2 => ?_)
  refine Go.ite (fun h12 => ?_)
  refine H_cmpeq g (pc := 887) 2295 d_W_887 (by decide) h12 ?_
  exact Go.widen (Nat.le_succ _) (Nat.le_add_right _ _) (hK _)
