theorem d_M_orderHere_0 : decode b_M_orderHere 0 = .ok (.iconst 0, 1) := by decide +kernel
theorem d_M_orderHere_1 : decode b_M_orderHere 1 = .ok (.istore_n 1, 1) := by decide +kernel
theorem d_M_orderHere_2 : decode b_M_orderHere 2 = .ok (.iload_n 1, 1) := by decide +kernel
theorem d_M_orderHere_3 : decode b_M_orderHere 3 = .ok (.aload_n 0, 1) := by decide +kernel
theorem d_M_orderHere_4 : decode b_M_orderHere 4 = .ok (.getfield 64, 3) := by decide +kernel
theorem d_M_orderHere_7 : decode b_M_orderHere 7 = .ok (.arraylength, 1) := by decide +kernel
theorem d_M_orderHere_8 : decode b_M_orderHere 8 = .ok (.if_icmp .ge 24, 3) := by decide +kernel
theorem d_M_orderHere_11 : decode b_M_orderHere 11 = .ok (.aload_n 0, 1) := by decide +kernel
theorem d_M_orderHere_12 : decode b_M_orderHere 12 = .ok (.aload_n 0, 1) := by decide +kernel
theorem d_M_orderHere_13 : decode b_M_orderHere 13 = .ok (.getfield 64, 3) := by decide +kernel
theorem d_M_orderHere_16 : decode b_M_orderHere 16 = .ok (.iload_n 1, 1) := by decide +kernel
theorem d_M_orderHere_17 : decode b_M_orderHere 17 = .ok (.aaload, 1) := by decide +kernel
theorem d_M_orderHere_18 : decode b_M_orderHere 18 = .ok (.invokevirtual 278, 3) := by decide +kernel
theorem d_M_orderHere_21 : decode b_M_orderHere 21 = .ok (.ifCond .eq 5, 3) := by decide +kernel
theorem d_M_orderHere_24 : decode b_M_orderHere 24 = .ok (.iload_n 1, 1) := by decide +kernel
theorem d_M_orderHere_25 : decode b_M_orderHere 25 = .ok (.ireturn, 1) := by decide +kernel
theorem d_M_orderHere_26 : decode b_M_orderHere 26 = .ok (.iinc 1 1, 3) := by decide +kernel
theorem d_M_orderHere_29 : decode b_M_orderHere 29 = .ok (.goto (-27), 3) := by decide +kernel
theorem d_M_orderHere_32 : decode b_M_orderHere 32 = .ok (.iconst (-1), 1) := by decide +kernel
theorem d_M_orderHere_33 : decode b_M_orderHere 33 = .ok (.ireturn, 1) := by decide +kernel
def lp_M_orderHere_2 (N0 rr : Nat)   : Nat → Int32 → Mem → (Int32 → Mem → Option (Int32 × Mem)) → Option (Int32 × Mem)
  | 0, _, _, _ => none
  | N + 1, v2, M, k2 => if v2 < (9 : Int32) then (grd (inB v2 9) (scase ((Z0 rr 155).2.2 v2.toNatClampNeg) fun (i2 : Nat) => bnd (f_M_isWord N0 rr i2 M) fun (x3 : Bool) (M4 : Mem) => if x3 = true then (some (v2, M4)) else (nm (v2 + (1 : Int32)) fun (x5 : Int32) => lp_M_orderHere_2 N0 rr N x5 M4 k2))) else (k2 v2 M)
def f_M_orderHere (N : Nat) (rr : Nat) (M : Mem) : Option (Int32 × Mem) :=
  lp_M_orderHere_2 N rr N (0 : Int32) M (fun (a7 : Int32) (M6 : Mem) => some ((-1 : Int32), M6))
set_option maxHeartbeats 4000000 in
set_option maxRecDepth 100000 in
theorem c_M_orderHere (l : Launch) (N : Nat) {w : Wc} {rr : Nat} (hw : WM w rr)  (M : Mem) : Ct QI l y_M_orderHere b_M_orderHere 2 (some .int) (rmL 5) w [.ref (wad w 145)] M (f_M_orderHere N rr M) := by
  refine Ct.go (by decide) (L := [(0, .ref (wad w 145))]) rfl (Nat.le_of_ble_eq_true rfl) (fun p0 e s m args below meth c g hret => ?_)
  unfold f_M_orderHere
  refine G_iconst g (pc := 0) (0 : Int32) d_M_orderHere_0 rfl ?_
  refine G_istore_n g (pc := 1) _ d_M_orderHere_1 rfl (Nat.le_of_ble_eq_true rfl) rfl ?_
  refine G_sub [1, 0] _ rfl ?_
  refine G_loop (F := lp_M_orderHere_2 N rr) 2 32 (fun (v2 : Int32) => [(0, .ref (wad w 145)), (1, .int v2)]) (fun (v2 : Int32) => [(0, .ref (wad w 145)), (1, .int v2)]) (fun _ _ _ => rfl) (fun a7 M6 => ?_) (fun k2 hk2 Nl2 ih2 v2 M => ?_) N (0 : Int32) M
  · refine G_iconst g (pc := 32) (-1 : Int32) d_M_orderHere_32 rfl ?_
    exact G_ireturn g (pc := 33) hret (Nat.le_of_ble_eq_true rfl) (Nat.le_of_ble_eq_true rfl) d_M_orderHere_33
  · show Go p0 l e _ s m args below meth c w _ _ _ _ (lp_M_orderHere_2 N rr (Nl2 + 1) v2 M k2) 2 _ _ M
    unfold lp_M_orderHere_2
    refine G_iload_n g (pc := 2) 1 d_M_orderHere_2 rfl rfl ?_
    refine G_aload_n g (pc := 3) 0 d_M_orderHere_3 rfl rfl ?_
    refine G_getR g (pc := 4) fa_M_64 (hw.mm 145 (Nat.le_of_ble_eq_true rfl) (Nat.le_of_ble_eq_true rfl)) (hw.k (zk145 rr)) (hw.r (zr145_25 rr)) d_M_orderHere_4 ?_
    refine G_alenT g (pc := 7) (9 : Int32) (hw.mm 155 (Nat.le_of_ble_eq_true rfl) (Nat.le_of_ble_eq_true rfl)) (hw.k (zk155 rr)) (by rw [(hw.n (zn155 rr))]; rfl) d_M_orderHere_7 ?_
    refine G_icmp_ge g (pc := 8) 32 d_M_orderHere_8 (by decide) ?_ ?_
    · refine G_aload_n g (pc := 11) 0 d_M_orderHere_11 rfl rfl ?_
      refine G_aload_n g (pc := 12) 0 d_M_orderHere_12 rfl rfl ?_
      refine G_getR g (pc := 13) fa_M_64 (hw.mm 145 (Nat.le_of_ble_eq_true rfl) (Nat.le_of_ble_eq_true rfl)) (hw.k (zk145 rr)) (hw.r (zr145_25 rr)) d_M_orderHere_13 ?_
      refine G_iload_n g (pc := 16) 1 d_M_orderHere_16 rfl rfl ?_
      refine G_aldT g (pc := 17) (nn := 9) (hw.mm 155 (Nat.le_of_ble_eq_true rfl) (Nat.le_of_ble_eq_true rfl)) (hw.k (zk155 rr)) (hw.n (zn155 rr)) d_M_orderHere_17 ?_
      rw [hw.z]
      refine G_scase (fun i2 hi2 => ?_)
      refine G_cVZ g (pc := 18) (As := [.ref (wad w (1000 + i2))]) (st := []) cc_M_278 (c_M_isWord l N hw i2 hi2 M) (hw.mm 145 (Nat.le_of_ble_eq_true rfl) (Nat.le_of_ble_eq_true rfl)) (hw.k (zk145 rr)) rfl (by decide) rfl ⟨(Nat.le_of_ble_eq_true rfl), (Nat.le_of_ble_eq_true rfl)⟩ ⟨(Nat.le_of_ble_eq_true rfl), (Nat.le_of_ble_eq_true rfl)⟩ (Nat.le_of_ble_eq_true rfl) d_M_orderHere_18 (fun x3 M4 => ?_)
      refine G_if_eqB g (pc := 21) 26 d_M_orderHere_21 (by decide) ?_ ?_
      · refine G_iload_n g (pc := 24) 1 d_M_orderHere_24 rfl rfl ?_
        exact G_ireturn g (pc := 25) hret (Nat.le_of_ble_eq_true rfl) (Nat.le_of_ble_eq_true rfl) d_M_orderHere_25
      · refine G_nmX (v2 + (1 : Int32)) (fun x5 e_x5 => ?_)
        refine G_iinc g (pc := 26) x5 _ 1 d_M_orderHere_26 rfl e_x5.symm (Nat.le_of_ble_eq_true rfl) rfl ?_
        refine G_goto g (pc := 29) 2 d_M_orderHere_29 (by decide) ?_
        refine G_sub [1, 0] _ rfl ?_
        exact ih2 x5 M4
    · refine G_sub [0, 1] _ rfl ?_
      exact hk2 v2 M

theorem d_M_readFirst_0 : decode b_M_readFirst 0 = .ok (.iload_n 1, 1) := by decide +kernel
theorem d_M_readFirst_1 : decode b_M_readFirst 1 = .ok (.tableswitch 86 1 7 #[43, 43, 52, 61, 69, 86, 78], 43) := by decide +kernel
theorem d_M_readFirst_44 : decode b_M_readFirst 44 = .ok (.aload_n 0, 1) := by decide +kernel
theorem d_M_readFirst_45 : decode b_M_readFirst 45 = .ok (.iconst 1, 1) := by decide +kernel
theorem d_M_readFirst_46 : decode b_M_readFirst 46 = .ok (.sipush 200, 3) := by decide +kernel
theorem d_M_readFirst_49 : decode b_M_readFirst 49 = .ok (.invokevirtual 307, 3) := by decide +kernel
theorem d_M_readFirst_52 : decode b_M_readFirst 52 = .ok (.ireturn, 1) := by decide +kernel
theorem d_M_readFirst_53 : decode b_M_readFirst 53 = .ok (.aload_n 0, 1) := by decide +kernel
theorem d_M_readFirst_54 : decode b_M_readFirst 54 = .ok (.iconst 1, 1) := by decide +kernel
theorem d_M_readFirst_55 : decode b_M_readFirst 55 = .ok (.sipush 999, 3) := by decide +kernel
theorem d_M_readFirst_58 : decode b_M_readFirst 58 = .ok (.invokevirtual 307, 3) := by decide +kernel
theorem d_M_readFirst_61 : decode b_M_readFirst 61 = .ok (.ireturn, 1) := by decide +kernel
theorem d_M_readFirst_62 : decode b_M_readFirst 62 = .ok (.aload_n 0, 1) := by decide +kernel
theorem d_M_readFirst_63 : decode b_M_readFirst 63 = .ok (.iconst 1, 1) := by decide +kernel
theorem d_M_readFirst_64 : decode b_M_readFirst 64 = .ok (.bipush 20, 2) := by decide +kernel
theorem d_M_readFirst_66 : decode b_M_readFirst 66 = .ok (.invokevirtual 307, 3) := by decide +kernel
theorem d_M_readFirst_69 : decode b_M_readFirst 69 = .ok (.ireturn, 1) := by decide +kernel
theorem d_M_readFirst_70 : decode b_M_readFirst 70 = .ok (.aload_n 0, 1) := by decide +kernel
theorem d_M_readFirst_71 : decode b_M_readFirst 71 = .ok (.iconst 0, 1) := by decide +kernel
theorem d_M_readFirst_72 : decode b_M_readFirst 72 = .ok (.sipush 2200, 3) := by decide +kernel
theorem d_M_readFirst_75 : decode b_M_readFirst 75 = .ok (.invokevirtual 307, 3) := by decide +kernel
theorem d_M_readFirst_78 : decode b_M_readFirst 78 = .ok (.ireturn, 1) := by decide +kernel
theorem d_M_readFirst_79 : decode b_M_readFirst 79 = .ok (.aload_n 0, 1) := by decide +kernel
theorem d_M_readFirst_80 : decode b_M_readFirst 80 = .ok (.iconst 1, 1) := by decide +kernel
theorem d_M_readFirst_81 : decode b_M_readFirst 81 = .ok (.bipush 60, 2) := by decide +kernel
theorem d_M_readFirst_83 : decode b_M_readFirst 83 = .ok (.invokevirtual 307, 3) := by decide +kernel
theorem d_M_readFirst_86 : decode b_M_readFirst 86 = .ok (.ireturn, 1) := by decide +kernel
theorem d_M_readFirst_87 : decode b_M_readFirst 87 = .ok (.iconst 0, 1) := by decide +kernel
theorem d_M_readFirst_88 : decode b_M_readFirst 88 = .ok (.ireturn, 1) := by decide +kernel
def f_M_readFirst (N : Nat) (rr : Nat) (a1 : Int32) (M : Mem) : Option (Int32 × Mem) :=
  if a1 = (1 : Int32) then (bnd (f_M_readNumber N rr (1 : Int32) (200 : Int32) M) fun (x1 : Int32) (M2 : Mem) => some (x1, M2)) else (if a1 = (2 : Int32) then (bnd (f_M_readNumber N rr (1 : Int32) (200 : Int32) M) fun (x3 : Int32) (M4 : Mem) => some (x3, M4)) else (if a1 = (3 : Int32) then (bnd (f_M_readNumber N rr (1 : Int32) (999 : Int32) M) fun (x5 : Int32) (M6 : Mem) => some (x5, M6)) else (if a1 = (4 : Int32) then (bnd (f_M_readNumber N rr (1 : Int32) (20 : Int32) M) fun (x7 : Int32) (M8 : Mem) => some (x7, M8)) else (if a1 = (5 : Int32) then (bnd (f_M_readNumber N rr (0 : Int32) (2200 : Int32) M) fun (x9 : Int32) (M10 : Mem) => some (x9, M10)) else (if a1 = (7 : Int32) then (bnd (f_M_readNumber N rr (1 : Int32) (60 : Int32) M) fun (x11 : Int32) (M12 : Mem) => some (x11, M12)) else (if a1 = (6 : Int32) then (some ((0 : Int32), M)) else (some ((0 : Int32), M))))))))
set_option maxHeartbeats 4000000 in
set_option maxRecDepth 100000 in
theorem c_M_readFirst (l : Launch) (N : Nat) {w : Wc} {rr : Nat} (hw : WM w rr) (a1 : Int32) (M : Mem) : Ct QI l y_M_readFirst b_M_readFirst 2 (some .int) (rmL 5) w [.ref (wad w 145), .int a1] M (f_M_readFirst N rr a1 M) := by
  refine Ct.go (by decide) (L := [(0, .ref (wad w 145)), (1, .int a1)]) rfl (Nat.le_of_ble_eq_true rfl) (fun p0 e s m args below meth c g hret => ?_)
  unfold f_M_readFirst
  refine G_iload_n g (pc := 0) 1 d_M_readFirst_0 rfl rfl ?_
  refine G_case (v := (1 : Int32)) ?_ (fun ne1 => ?_)
  · refine G_tabK g (pc := 1) 44 d_M_readFirst_1 (by decide) (by decide) rfl (by decide) ?_
    refine G_aload_n g (pc := 44) 0 d_M_readFirst_44 rfl rfl ?_
    refine G_iconst g (pc := 45) (1 : Int32) d_M_readFirst_45 rfl ?_
    refine G_sipush g (pc := 46) (200 : Int32) d_M_readFirst_46 rfl ?_
    refine G_cVI g (pc := 49) (As := [.int (1 : Int32), .int (200 : Int32)]) (st := []) cc_M_307 (c_M_readNumber l N hw (1 : Int32) (200 : Int32) M) (hw.mm 145 (Nat.le_of_ble_eq_true rfl) (Nat.le_of_ble_eq_true rfl)) (hw.k (zk145 rr)) rfl (by decide) rfl ⟨(Nat.le_of_ble_eq_true rfl), (Nat.le_of_ble_eq_true rfl)⟩ ⟨(Nat.le_of_ble_eq_true rfl), (Nat.le_of_ble_eq_true rfl)⟩ (Nat.le_of_ble_eq_true rfl) d_M_readFirst_49 (fun x1 M2 => ?_)
    exact G_ireturn g (pc := 52) hret (Nat.le_of_ble_eq_true rfl) (Nat.le_of_ble_eq_true rfl) d_M_readFirst_52
  refine G_case (v := (2 : Int32)) ?_ (fun ne2 => ?_)
  · refine G_tabK g (pc := 1) 44 d_M_readFirst_1 (by decide) (by decide) rfl (by decide) ?_
    refine G_aload_n g (pc := 44) 0 d_M_readFirst_44 rfl rfl ?_
    refine G_iconst g (pc := 45) (1 : Int32) d_M_readFirst_45 rfl ?_
    refine G_sipush g (pc := 46) (200 : Int32) d_M_readFirst_46 rfl ?_
    refine G_cVI g (pc := 49) (As := [.int (1 : Int32), .int (200 : Int32)]) (st := []) cc_M_307 (c_M_readNumber l N hw (1 : Int32) (200 : Int32) M) (hw.mm 145 (Nat.le_of_ble_eq_true rfl) (Nat.le_of_ble_eq_true rfl)) (hw.k (zk145 rr)) rfl (by decide) rfl ⟨(Nat.le_of_ble_eq_true rfl), (Nat.le_of_ble_eq_true rfl)⟩ ⟨(Nat.le_of_ble_eq_true rfl), (Nat.le_of_ble_eq_true rfl)⟩ (Nat.le_of_ble_eq_true rfl) d_M_readFirst_49 (fun x3 M4 => ?_)
    exact G_ireturn g (pc := 52) hret (Nat.le_of_ble_eq_true rfl) (Nat.le_of_ble_eq_true rfl) d_M_readFirst_52
  refine G_case (v := (3 : Int32)) ?_ (fun ne3 => ?_)
  · refine G_tabK g (pc := 1) 53 d_M_readFirst_1 (by decide) (by decide) rfl (by decide) ?_
    refine G_aload_n g (pc := 53) 0 d_M_readFirst_53 rfl rfl ?_
    refine G_iconst g (pc := 54) (1 : Int32) d_M_readFirst_54 rfl ?_
    refine G_sipush g (pc := 55) (999 : Int32) d_M_readFirst_55 rfl ?_
    refine G_cVI g (pc := 58) (As := [.int (1 : Int32), .int (999 : Int32)]) (st := []) cc_M_307 (c_M_readNumber l N hw (1 : Int32) (999 : Int32) M) (hw.mm 145 (Nat.le_of_ble_eq_true rfl) (Nat.le_of_ble_eq_true rfl)) (hw.k (zk145 rr)) rfl (by decide) rfl ⟨(Nat.le_of_ble_eq_true rfl), (Nat.le_of_ble_eq_true rfl)⟩ ⟨(Nat.le_of_ble_eq_true rfl), (Nat.le_of_ble_eq_true rfl)⟩ (Nat.le_of_ble_eq_true rfl) d_M_readFirst_58 (fun x5 M6 => ?_)
    exact G_ireturn g (pc := 61) hret (Nat.le_of_ble_eq_true rfl) (Nat.le_of_ble_eq_true rfl) d_M_readFirst_61
  refine G_case (v := (4 : Int32)) ?_ (fun ne4 => ?_)
  · refine G_tabK g (pc := 1) 62 d_M_readFirst_1 (by decide) (by decide) rfl (by decide) ?_
    refine G_aload_n g (pc := 62) 0 d_M_readFirst_62 rfl rfl ?_
    refine G_iconst g (pc := 63) (1 : Int32) d_M_readFirst_63 rfl ?_
    refine G_bipush g (pc := 64) (20 : Int32) d_M_readFirst_64 rfl ?_
    refine G_cVI g (pc := 66) (As := [.int (1 : Int32), .int (20 : Int32)]) (st := []) cc_M_307 (c_M_readNumber l N hw (1 : Int32) (20 : Int32) M) (hw.mm 145 (Nat.le_of_ble_eq_true rfl) (Nat.le_of_ble_eq_true rfl)) (hw.k (zk145 rr)) rfl (by decide) rfl ⟨(Nat.le_of_ble_eq_true rfl), (Nat.le_of_ble_eq_true rfl)⟩ ⟨(Nat.le_of_ble_eq_true rfl), (Nat.le_of_ble_eq_true rfl)⟩ (Nat.le_of_ble_eq_true rfl) d_M_readFirst_66 (fun x7 M8 => ?_)
    exact G_ireturn g (pc := 69) hret (Nat.le_of_ble_eq_true rfl) (Nat.le_of_ble_eq_true rfl) d_M_readFirst_69
  refine G_case (v := (5 : Int32)) ?_ (fun ne5 => ?_)
  · refine G_tabK g (pc := 1) 70 d_M_readFirst_1 (by decide) (by decide) rfl (by decide) ?_
    refine G_aload_n g (pc := 70) 0 d_M_readFirst_70 rfl rfl ?_
    refine G_iconst g (pc := 71) (0 : Int32) d_M_readFirst_71 rfl ?_
    refine G_sipush g (pc := 72) (2200 : Int32) d_M_readFirst_72 rfl ?_
    refine G_cVI g (pc := 75) (As := [.int (0 : Int32), .int (2200 : Int32)]) (st := []) cc_M_307 (c_M_readNumber l N hw (0 : Int32) (2200 : Int32) M) (hw.mm 145 (Nat.le_of_ble_eq_true rfl) (Nat.le_of_ble_eq_true rfl)) (hw.k (zk145 rr)) rfl (by decide) rfl ⟨(Nat.le_of_ble_eq_true rfl), (Nat.le_of_ble_eq_true rfl)⟩ ⟨(Nat.le_of_ble_eq_true rfl), (Nat.le_of_ble_eq_true rfl)⟩ (Nat.le_of_ble_eq_true rfl) d_M_readFirst_75 (fun x9 M10 => ?_)
    exact G_ireturn g (pc := 78) hret (Nat.le_of_ble_eq_true rfl) (Nat.le_of_ble_eq_true rfl) d_M_readFirst_78
  refine G_case (v := (7 : Int32)) ?_ (fun ne7 => ?_)
  · refine G_tabK g (pc := 1) 79 d_M_readFirst_1 (by decide) (by decide) rfl (by decide) ?_
    refine G_aload_n g (pc := 79) 0 d_M_readFirst_79 rfl rfl ?_
    refine G_iconst g (pc := 80) (1 : Int32) d_M_readFirst_80 rfl ?_
    refine G_bipush g (pc := 81) (60 : Int32) d_M_readFirst_81 rfl ?_
    refine G_cVI g (pc := 83) (As := [.int (1 : Int32), .int (60 : Int32)]) (st := []) cc_M_307 (c_M_readNumber l N hw (1 : Int32) (60 : Int32) M) (hw.mm 145 (Nat.le_of_ble_eq_true rfl) (Nat.le_of_ble_eq_true rfl)) (hw.k (zk145 rr)) rfl (by decide) rfl ⟨(Nat.le_of_ble_eq_true rfl), (Nat.le_of_ble_eq_true rfl)⟩ ⟨(Nat.le_of_ble_eq_true rfl), (Nat.le_of_ble_eq_true rfl)⟩ (Nat.le_of_ble_eq_true rfl) d_M_readFirst_83 (fun x11 M12 => ?_)
    exact G_ireturn g (pc := 86) hret (Nat.le_of_ble_eq_true rfl) (Nat.le_of_ble_eq_true rfl) d_M_readFirst_86
  refine G_case (v := (6 : Int32)) ?_ (fun ne6 => ?_)
  · refine G_tabK g (pc := 1) 87 d_M_readFirst_1 (by decide) (by decide) rfl (by decide) ?_
    refine G_iconst g (pc := 87) (0 : Int32) d_M_readFirst_87 rfl ?_
    exact G_ireturn g (pc := 88) hret (Nat.le_of_ble_eq_true rfl) (Nat.le_of_ble_eq_true rfl) d_M_readFirst_88
  refine G_tabD g (pc := 1) 87 d_M_readFirst_1 (by have q1 : ¬ a1.toInt = 1 := lv_neT ne1 rfl; have q2 : ¬ a1.toInt = 2 := lv_neT ne2 rfl; have q3 : ¬ a1.toInt = 3 := lv_neT ne3 rfl; have q4 : ¬ a1.toInt = 4 := lv_neT ne4 rfl; have q5 : ¬ a1.toInt = 5 := lv_neT ne5 rfl; have q6 : ¬ a1.toInt = 6 := lv_neT ne6 rfl; have q7 : ¬ a1.toInt = 7 := lv_neT ne7 rfl; omega) (by decide) ?_
  refine G_iconst g (pc := 87) (0 : Int32) d_M_readFirst_87 rfl ?_
  exact G_ireturn g (pc := 88) hret (Nat.le_of_ble_eq_true rfl) (Nat.le_of_ble_eq_true rfl) d_M_readFirst_88

theorem d_M_readRepeat_0 : decode b_M_readRepeat 0 = .ok (.aload_n 0, 1) := by decide +kernel
theorem d_M_readRepeat_1 : decode b_M_readRepeat 1 = .ok (.getfield 41, 3) := by decide +kernel
theorem d_M_readRepeat_4 : decode b_M_readRepeat 4 = .ok (.iload_n 1, 1) := by decide +kernel
theorem d_M_readRepeat_5 : decode b_M_readRepeat 5 = .ok (.iconst 1, 1) := by decide +kernel
theorem d_M_readRepeat_6 : decode b_M_readRepeat 6 = .ok (.iadd, 1) := by decide +kernel
theorem d_M_readRepeat_7 : decode b_M_readRepeat 7 = .ok (.aload_n 0, 1) := by decide +kernel
theorem d_M_readRepeat_8 : decode b_M_readRepeat 8 = .ok (.iconst 2, 1) := by decide +kernel
theorem d_M_readRepeat_9 : decode b_M_readRepeat 9 = .ok (.iconst 5, 1) := by decide +kernel
theorem d_M_readRepeat_10 : decode b_M_readRepeat 10 = .ok (.invokevirtual 307, 3) := by decide +kernel
theorem d_M_readRepeat_13 : decode b_M_readRepeat 13 = .ok (.iastore, 1) := by decide +kernel
theorem d_M_readRepeat_14 : decode b_M_readRepeat 14 = .ok (.aload_n 0, 1) := by decide +kernel
theorem d_M_readRepeat_15 : decode b_M_readRepeat 15 = .ok (.bipush 40, 2) := by decide +kernel
theorem d_M_readRepeat_17 : decode b_M_readRepeat 17 = .ok (.invokevirtual 310, 3) := by decide +kernel
theorem d_M_readRepeat_20 : decode b_M_readRepeat 20 = .ok (.aload_n 0, 1) := by decide +kernel
theorem d_M_readRepeat_21 : decode b_M_readRepeat 21 = .ok (.getfield 259, 3) := by decide +kernel
theorem d_M_readRepeat_24 : decode b_M_readRepeat 24 = .ok (.ifCond .ne 22, 3) := by decide +kernel
theorem d_M_readRepeat_27 : decode b_M_readRepeat 27 = .ok (.aload_n 0, 1) := by decide +kernel
theorem d_M_readRepeat_28 : decode b_M_readRepeat 28 = .ok (.bipush 41, 2) := by decide +kernel
theorem d_M_readRepeat_30 : decode b_M_readRepeat 30 = .ok (.invokevirtual 282, 3) := by decide +kernel
theorem d_M_readRepeat_33 : decode b_M_readRepeat 33 = .ok (.ifCond .ne 13, 3) := by decide +kernel
theorem d_M_readRepeat_36 : decode b_M_readRepeat 36 = .ok (.aload_n 0, 1) := by decide +kernel
theorem d_M_readRepeat_37 : decode b_M_readRepeat 37 = .ok (.iload_n 2, 1) := by decide +kernel
theorem d_M_readRepeat_38 : decode b_M_readRepeat 38 = .ok (.iconst 1, 1) := by decide +kernel
theorem d_M_readRepeat_39 : decode b_M_readRepeat 39 = .ok (.iadd, 1) := by decide +kernel
theorem d_M_readRepeat_40 : decode b_M_readRepeat 40 = .ok (.invokevirtual 333, 3) := by decide +kernel
theorem d_M_readRepeat_43 : decode b_M_readRepeat 43 = .ok (.goto (-23), 3) := by decide +kernel
theorem d_M_readRepeat_46 : decode b_M_readRepeat 46 = .ok (.aload_n 0, 1) := by decide +kernel
theorem d_M_readRepeat_47 : decode b_M_readRepeat 47 = .ok (.bipush 41, 2) := by decide +kernel
theorem d_M_readRepeat_49 : decode b_M_readRepeat 49 = .ok (.invokevirtual 310, 3) := by decide +kernel
theorem d_M_readRepeat_52 : decode b_M_readRepeat 52 = .ok (.aload_n 0, 1) := by decide +kernel
theorem d_M_readRepeat_53 : decode b_M_readRepeat 53 = .ok (.getfield 41, 3) := by decide +kernel
theorem d_M_readRepeat_56 : decode b_M_readRepeat 56 = .ok (.iload_n 1, 1) := by decide +kernel
theorem d_M_readRepeat_57 : decode b_M_readRepeat 57 = .ok (.iconst 2, 1) := by decide +kernel
theorem d_M_readRepeat_58 : decode b_M_readRepeat 58 = .ok (.iadd, 1) := by decide +kernel
theorem d_M_readRepeat_59 : decode b_M_readRepeat 59 = .ok (.aload_n 0, 1) := by decide +kernel
theorem d_M_readRepeat_60 : decode b_M_readRepeat 60 = .ok (.getfield 336, 3) := by decide +kernel
theorem d_M_readRepeat_63 : decode b_M_readRepeat 63 = .ok (.iastore, 1) := by decide +kernel
theorem d_M_readRepeat_64 : decode b_M_readRepeat 64 = .ok (.return_, 1) := by decide +kernel
theorem cc_M_333 : CV "KiteLoggerModel" 333 y_M_readOrder b_M_readOrder 4 none 1 := ⟨TT_in (i := 1944) (by decide +kernel) (by decide +kernel), TT_in (i := 1946) (by decide +kernel) (by decide +kernel), TT_in (i := 80) (by decide +kernel) (by decide +kernel), TT_in (i := 100) (by decide +kernel) (by decide +kernel), TT_in (i := 1947) (by decide +kernel) (by decide +kernel), ⟨by decide +kernel, by decide +kernel, by decide +kernel⟩⟩
def lp_M_readRepeat_20 (N0 rr : Nat) (rb : Int32 → Mem → Option (Mem)) (a1 : Int32) (a2 : Int32)  : Nat → Unit → Mem → (Unit → Mem → Option (Mem)) → Option (Mem)
  | 0, _, _, _ => none
  | N + 1, v20, M, k20 => if (M 145 20) = 0 then (bnd (f_M_isSymbol (41 : Int32) M) fun (x6 : Bool) (M7 : Mem) => if x6 = true then (k20 () M7) else (bndM (rb (a2 + (1 : Int32)) M7) fun (M9 : Mem) => lp_M_readRepeat_20 N0 rr rb a1 a2 N () M9 k20)) else (k20 () M)
def f_M_readRepeat (N : Nat) (rr : Nat) (rb : Int32 → Mem → Option (Mem)) (a1 : Int32) (a2 : Int32) (M : Mem) : Option (Mem) :=
  bnd (f_M_readNumber N rr (2 : Int32) (5 : Int32) M) fun (x1 : Int32) (M2 : Mem) => grd (inB (a1 + (1 : Int32)) 60) (nm (put M2 154 (a1 + (1 : Int32)).toNatClampNeg x1) fun (M3 : Mem) => bndM (f_M_expect N rr (40 : Int32) M3) fun (M5 : Mem) => lp_M_readRepeat_20 N rr rb a1 a2 N () M5 (fun (a11 : Unit) (M10 : Mem) => bndM (f_M_expect N rr (41 : Int32) M10) fun (M13 : Mem) => grd (inB (a1 + (2 : Int32)) 60) (nm (put M13 154 (a1 + (2 : Int32)).toNatClampNeg (M13 145 26)) fun (M14 : Mem) => some M14)))
set_option maxHeartbeats 4000000 in
set_option maxRecDepth 100000 in
theorem c_M_readRepeat (l : Launch) (N : Nat) {w : Wc} {rr : Nat} (hw : WM w rr) (k0 : Nat) (hk0 : 10 ≤ k0) (rb : Int32 → Mem → Option (Mem)) (hrb : ∀ (a1 : Int32) (M : Mem), Ct QV l y_M_readOrder b_M_readOrder 4 none (rmL k0) w [.ref (wad w 145), .int a1] M (rb a1 M)) (a1 : Int32) (a2 : Int32) (M : Mem) : Ct QV l y_M_readRepeat b_M_readRepeat 3 none (rmL (k0 + 1)) w [.ref (wad w 145), .int a1, .int a2] M (f_M_readRepeat N rr rb a1 a2 M) := by
  refine Ct.go (by decide) (L := [(0, .ref (wad w 145)), (1, .int a1), (2, .int a2)]) rfl (Nat.le_of_ble_eq_true rfl) (fun p0 e s m args below meth c g hret => ?_)
  unfold f_M_readRepeat
  refine G_aload_n g (pc := 0) 0 d_M_readRepeat_0 rfl rfl ?_
  refine G_getR g (pc := 1) fa_M_41 (hw.mm 145 (Nat.le_of_ble_eq_true rfl) (Nat.le_of_ble_eq_true rfl)) (hw.k (zk145 rr)) (hw.r (zr145_24 rr)) d_M_readRepeat_1 ?_
  refine G_iload_n g (pc := 4) 1 d_M_readRepeat_4 rfl rfl ?_
  refine G_iconst g (pc := 5) (1 : Int32) d_M_readRepeat_5 rfl ?_
  refine G_iadd g (pc := 6) d_M_readRepeat_6 ?_
  refine G_aload_n g (pc := 7) 0 d_M_readRepeat_7 rfl rfl ?_
  refine G_iconst g (pc := 8) (2 : Int32) d_M_readRepeat_8 rfl ?_
  refine G_iconst g (pc := 9) (5 : Int32) d_M_readRepeat_9 rfl ?_
  refine G_cVI g (pc := 10) (As := [.int (2 : Int32), .int (5 : Int32)]) (st := [.int (a1 + (1 : Int32)), .ref (wad w 154)]) cc_M_307 (c_M_readNumber l N hw (2 : Int32) (5 : Int32) M) (hw.mm 145 (Nat.le_of_ble_eq_true rfl) (Nat.le_of_ble_eq_true rfl)) (hw.k (zk145 rr)) rfl (by decide) rfl (room_le (by omega) (by decide)) ⟨(Nat.le_of_ble_eq_true rfl), (Nat.le_of_ble_eq_true rfl)⟩ (Nat.le_of_ble_eq_true rfl) d_M_readRepeat_10 (fun x1 M2 => ?_)
  refine G_iast g (pc := 13) (nn := 60) (hw.mm 154 (Nat.le_of_ble_eq_true rfl) (Nat.le_of_ble_eq_true rfl)) (hw.k (zk154 rr)) (hw.n (zn154 rr)) d_M_readRepeat_13 ?_
  refine G_nmM (fun M3 => ?_)
  refine G_aload_n g (pc := 14) 0 d_M_readRepeat_14 rfl rfl ?_
  refine G_bipush g (pc := 15) (40 : Int32) d_M_readRepeat_15 rfl ?_
  refine G_cVV g (pc := 17) (As := [.int (40 : Int32)]) (st := []) cc_M_310 (c_M_expect l N hw (40 : Int32) M3) (hw.mm 145 (Nat.le_of_ble_eq_true rfl) (Nat.le_of_ble_eq_true rfl)) (hw.k (zk145 rr)) rfl (by decide) rfl (room_le (by omega) (by decide)) ⟨(Nat.le_of_ble_eq_true rfl), (Nat.le_of_ble_eq_true rfl)⟩ (Nat.le_of_ble_eq_true rfl) d_M_readRepeat_17 (fun M5 => ?_)
  refine G_sub [0, 1, 2] _ rfl ?_
  refine G_loop (F := lp_M_readRepeat_20 N rr rb a1 a2) 20 46 (fun (v20 : Unit) => [(0, .ref (wad w 145)), (1, .int a1), (2, .int a2)]) (fun (v20 : Unit) => [(0, .ref (wad w 145)), (1, .int a1), (2, .int a2)]) (fun _ _ _ => rfl) (fun a11 M10 => ?_) (fun k20 hk20 Nl20 ih20 v20 M => ?_) N () M5
  · refine G_aload_n g (pc := 46) 0 d_M_readRepeat_46 rfl rfl ?_
    refine G_bipush g (pc := 47) (41 : Int32) d_M_readRepeat_47 rfl ?_
    refine G_cVV g (pc := 49) (As := [.int (41 : Int32)]) (st := []) cc_M_310 (c_M_expect l N hw (41 : Int32) M10) (hw.mm 145 (Nat.le_of_ble_eq_true rfl) (Nat.le_of_ble_eq_true rfl)) (hw.k (zk145 rr)) rfl (by decide) rfl (room_le (by omega) (by decide)) ⟨(Nat.le_of_ble_eq_true rfl), (Nat.le_of_ble_eq_true rfl)⟩ (Nat.le_of_ble_eq_true rfl) d_M_readRepeat_49 (fun M13 => ?_)
    refine G_aload_n g (pc := 52) 0 d_M_readRepeat_52 rfl rfl ?_
    refine G_getR g (pc := 53) fa_M_41 (hw.mm 145 (Nat.le_of_ble_eq_true rfl) (Nat.le_of_ble_eq_true rfl)) (hw.k (zk145 rr)) (hw.r (zr145_24 rr)) d_M_readRepeat_53 ?_
    refine G_iload_n g (pc := 56) 1 d_M_readRepeat_56 rfl rfl ?_
    refine G_iconst g (pc := 57) (2 : Int32) d_M_readRepeat_57 rfl ?_
    refine G_iadd g (pc := 58) d_M_readRepeat_58 ?_
    refine G_aload_n g (pc := 59) 0 d_M_readRepeat_59 rfl rfl ?_
    refine G_get g (pc := 60) fa_M_336 (hw.mm 145 (Nat.le_of_ble_eq_true rfl) (Nat.le_of_ble_eq_true rfl)) (hw.k (zk145 rr)) d_M_readRepeat_60 ?_
    refine G_iast g (pc := 63) (nn := 60) (hw.mm 154 (Nat.le_of_ble_eq_true rfl) (Nat.le_of_ble_eq_true rfl)) (hw.k (zk154 rr)) (hw.n (zn154 rr)) d_M_readRepeat_63 ?_
    refine G_nmM (fun M14 => ?_)
    exact G_return g (pc := 64) hret (Nat.le_of_ble_eq_true rfl) (Nat.le_of_ble_eq_true rfl) d_M_readRepeat_64
  · show Go p0 l e _ s m args below meth c w _ _ _ _ (lp_M_readRepeat_20 N rr rb a1 a2 (Nl20 + 1) v20 M k20) 20 _ _ M
    unfold lp_M_readRepeat_20
    refine G_aload_n g (pc := 20) 0 d_M_readRepeat_20 rfl rfl ?_
    refine G_get g (pc := 21) fa_M_259 (hw.mm 145 (Nat.le_of_ble_eq_true rfl) (Nat.le_of_ble_eq_true rfl)) (hw.k (zk145 rr)) d_M_readRepeat_21 ?_
    refine G_if_ne g (pc := 24) 46 d_M_readRepeat_24 (by decide) ?_ ?_
    · refine G_aload_n g (pc := 27) 0 d_M_readRepeat_27 rfl rfl ?_
      refine G_bipush g (pc := 28) (41 : Int32) d_M_readRepeat_28 rfl ?_
      refine G_cVZ g (pc := 30) (As := [.int (41 : Int32)]) (st := []) cc_M_282 (c_M_isSymbol l hw (41 : Int32) M) (hw.mm 145 (Nat.le_of_ble_eq_true rfl) (Nat.le_of_ble_eq_true rfl)) (hw.k (zk145 rr)) rfl (by decide) rfl (room_le (by omega) (by decide)) ⟨(Nat.le_of_ble_eq_true rfl), (Nat.le_of_ble_eq_true rfl)⟩ (Nat.le_of_ble_eq_true rfl) d_M_readRepeat_30 (fun x6 M7 => ?_)
      refine G_if_neB g (pc := 33) 46 d_M_readRepeat_33 (by decide) ?_ ?_
      · refine G_sub [0, 1, 2] _ rfl ?_
        exact hk20 () M7
      · refine G_aload_n g (pc := 36) 0 d_M_readRepeat_36 rfl rfl ?_
        refine G_iload_n g (pc := 37) 2 d_M_readRepeat_37 rfl rfl ?_
        refine G_iconst g (pc := 38) (1 : Int32) d_M_readRepeat_38 rfl ?_
        refine G_iadd g (pc := 39) d_M_readRepeat_39 ?_
        refine G_cVV g (pc := 40) (As := [.int (a2 + (1 : Int32))]) (st := []) cc_M_333 (hrb (a2 + (1 : Int32)) M7) (hw.mm 145 (Nat.le_of_ble_eq_true rfl) (Nat.le_of_ble_eq_true rfl)) (hw.k (zk145 rr)) rfl (by decide) rfl (room_le (by omega) (by decide)) ⟨(Nat.le_of_ble_eq_true rfl), (Nat.le_of_ble_eq_true rfl)⟩ (Nat.le_of_ble_eq_true rfl) d_M_readRepeat_40 (fun M9 => ?_)
        refine G_goto g (pc := 43) 20 d_M_readRepeat_43 (by decide) ?_
        refine G_sub [0, 1, 2] _ rfl ?_
        exact ih20 () M9
    · refine G_sub [0, 1, 2] _ rfl ?_
      exact hk20 () M

theorem d_M_readOrder_0 : decode b_M_readOrder 0 = .ok (.aload_n 0, 1) := by decide +kernel
theorem d_M_readOrder_1 : decode b_M_readOrder 1 = .ok (.invokevirtual 339, 3) := by decide +kernel
theorem d_M_readOrder_4 : decode b_M_readOrder 4 = .ok (.istore_n 2, 1) := by decide +kernel
theorem d_M_readOrder_5 : decode b_M_readOrder 5 = .ok (.aload_n 0, 1) := by decide +kernel
theorem d_M_readOrder_6 : decode b_M_readOrder 6 = .ok (.iload_n 2, 1) := by decide +kernel
theorem d_M_readOrder_7 : decode b_M_readOrder 7 = .ok (.iconst (-1), 1) := by decide +kernel
theorem d_M_readOrder_8 : decode b_M_readOrder 8 = .ok (.if_icmp .eq 7, 3) := by decide +kernel
theorem d_M_readOrder_11 : decode b_M_readOrder 11 = .ok (.iconst 1, 1) := by decide +kernel
theorem d_M_readOrder_12 : decode b_M_readOrder 12 = .ok (.goto 4, 3) := by decide +kernel
theorem d_M_readOrder_15 : decode b_M_readOrder 15 = .ok (.iconst 0, 1) := by decide +kernel
theorem d_M_readOrder_16 : decode b_M_readOrder 16 = .ok (.iconst 1, 1) := by decide +kernel
theorem d_M_readOrder_17 : decode b_M_readOrder 17 = .ok (.invokevirtual 285, 3) := by decide +kernel
theorem d_M_readOrder_20 : decode b_M_readOrder 20 = .ok (.aload_n 0, 1) := by decide +kernel
theorem d_M_readOrder_21 : decode b_M_readOrder 21 = .ok (.aload_n 0, 1) := by decide +kernel
theorem d_M_readOrder_22 : decode b_M_readOrder 22 = .ok (.getfield 259, 3) := by decide +kernel
theorem d_M_readOrder_25 : decode b_M_readOrder 25 = .ok (.ifCond .ne 23, 3) := by decide +kernel
theorem d_M_readOrder_28 : decode b_M_readOrder 28 = .ok (.aload_n 0, 1) := by decide +kernel
theorem d_M_readOrder_29 : decode b_M_readOrder 29 = .ok (.getfield 336, 3) := by decide +kernel
theorem d_M_readOrder_32 : decode b_M_readOrder 32 = .ok (.bipush 20, 2) := by decide +kernel
theorem d_M_readOrder_34 : decode b_M_readOrder 34 = .ok (.if_icmp .ge 18, 3) := by decide +kernel
theorem d_M_readOrder_37 : decode b_M_readOrder 37 = .ok (.iload_n 2, 1) := by decide +kernel
theorem d_M_readOrder_38 : decode b_M_readOrder 38 = .ok (.bipush 8, 2) := by decide +kernel
theorem d_M_readOrder_40 : decode b_M_readOrder 40 = .ok (.if_icmp .ne 8, 3) := by decide +kernel
theorem d_M_readOrder_43 : decode b_M_readOrder 43 = .ok (.iload_n 1, 1) := by decide +kernel
theorem d_M_readOrder_44 : decode b_M_readOrder 44 = .ok (.iconst 2, 1) := by decide +kernel
theorem d_M_readOrder_45 : decode b_M_readOrder 45 = .ok (.if_icmp .ge 7, 3) := by decide +kernel
theorem d_M_readOrder_48 : decode b_M_readOrder 48 = .ok (.iconst 1, 1) := by decide +kernel
theorem d_M_readOrder_49 : decode b_M_readOrder 49 = .ok (.goto 4, 3) := by decide +kernel
theorem d_M_readOrder_52 : decode b_M_readOrder 52 = .ok (.iconst 0, 1) := by decide +kernel
theorem d_M_readOrder_53 : decode b_M_readOrder 53 = .ok (.iconst 3, 1) := by decide +kernel
theorem d_M_readOrder_54 : decode b_M_readOrder 54 = .ok (.invokevirtual 285, 3) := by decide +kernel
theorem d_M_readOrder_57 : decode b_M_readOrder 57 = .ok (.aload_n 0, 1) := by decide +kernel
theorem d_M_readOrder_58 : decode b_M_readOrder 58 = .ok (.invokevirtual 289, 3) := by decide +kernel
theorem d_M_readOrder_61 : decode b_M_readOrder 61 = .ok (.aload_n 0, 1) := by decide +kernel
theorem d_M_readOrder_62 : decode b_M_readOrder 62 = .ok (.getfield 259, 3) := by decide +kernel
theorem d_M_readOrder_65 : decode b_M_readOrder 65 = .ok (.ifCond .eq 4, 3) := by decide +kernel
theorem d_M_readOrder_68 : decode b_M_readOrder 68 = .ok (.return_, 1) := by decide +kernel
theorem d_M_readOrder_69 : decode b_M_readOrder 69 = .ok (.iconst 3, 1) := by decide +kernel
theorem d_M_readOrder_70 : decode b_M_readOrder 70 = .ok (.aload_n 0, 1) := by decide +kernel
theorem d_M_readOrder_71 : decode b_M_readOrder 71 = .ok (.getfield 336, 3) := by decide +kernel
theorem d_M_readOrder_74 : decode b_M_readOrder 74 = .ok (.imul, 1) := by decide +kernel
theorem d_M_readOrder_75 : decode b_M_readOrder 75 = .ok (.istore_n 3, 1) := by decide +kernel
theorem d_M_readOrder_76 : decode b_M_readOrder 76 = .ok (.aload_n 0, 1) := by decide +kernel
theorem d_M_readOrder_77 : decode b_M_readOrder 77 = .ok (.getfield 41, 3) := by decide +kernel
theorem d_M_readOrder_80 : decode b_M_readOrder 80 = .ok (.iload_n 3, 1) := by decide +kernel
theorem d_M_readOrder_81 : decode b_M_readOrder 81 = .ok (.iload_n 2, 1) := by decide +kernel
theorem d_M_readOrder_82 : decode b_M_readOrder 82 = .ok (.iastore, 1) := by decide +kernel
theorem d_M_readOrder_83 : decode b_M_readOrder 83 = .ok (.aload_n 0, 1) := by decide +kernel
theorem d_M_readOrder_84 : decode b_M_readOrder 84 = .ok (.dup, 1) := by decide +kernel
theorem d_M_readOrder_85 : decode b_M_readOrder 85 = .ok (.getfield 336, 3) := by decide +kernel
theorem d_M_readOrder_88 : decode b_M_readOrder 88 = .ok (.iconst 1, 1) := by decide +kernel
theorem d_M_readOrder_89 : decode b_M_readOrder 89 = .ok (.iadd, 1) := by decide +kernel
theorem d_M_readOrder_90 : decode b_M_readOrder 90 = .ok (.putfield 336, 3) := by decide +kernel
theorem d_M_readOrder_93 : decode b_M_readOrder 93 = .ok (.iload_n 2, 1) := by decide +kernel
theorem d_M_readOrder_94 : decode b_M_readOrder 94 = .ok (.bipush 8, 2) := by decide +kernel
theorem d_M_readOrder_96 : decode b_M_readOrder 96 = .ok (.if_icmp .ne 12, 3) := by decide +kernel
theorem d_M_readOrder_99 : decode b_M_readOrder 99 = .ok (.aload_n 0, 1) := by decide +kernel
theorem d_M_readOrder_100 : decode b_M_readOrder 100 = .ok (.iload_n 3, 1) := by decide +kernel
theorem d_M_readOrder_101 : decode b_M_readOrder 101 = .ok (.iload_n 1, 1) := by decide +kernel
theorem d_M_readOrder_102 : decode b_M_readOrder 102 = .ok (.invokevirtual 342, 3) := by decide +kernel
theorem d_M_readOrder_105 : decode b_M_readOrder 105 = .ok (.goto 41, 3) := by decide +kernel
theorem d_M_readOrder_108 : decode b_M_readOrder 108 = .ok (.aload_n 0, 1) := by decide +kernel
theorem d_M_readOrder_109 : decode b_M_readOrder 109 = .ok (.getfield 41, 3) := by decide +kernel
theorem d_M_readOrder_112 : decode b_M_readOrder 112 = .ok (.iload_n 3, 1) := by decide +kernel
theorem d_M_readOrder_113 : decode b_M_readOrder 113 = .ok (.iconst 1, 1) := by decide +kernel
theorem d_M_readOrder_114 : decode b_M_readOrder 114 = .ok (.iadd, 1) := by decide +kernel
theorem d_M_readOrder_115 : decode b_M_readOrder 115 = .ok (.aload_n 0, 1) := by decide +kernel
theorem d_M_readOrder_116 : decode b_M_readOrder 116 = .ok (.iload_n 2, 1) := by decide +kernel
theorem d_M_readOrder_117 : decode b_M_readOrder 117 = .ok (.invokevirtual 346, 3) := by decide +kernel
theorem d_M_readOrder_120 : decode b_M_readOrder 120 = .ok (.iastore, 1) := by decide +kernel
theorem d_M_readOrder_121 : decode b_M_readOrder 121 = .ok (.aload_n 0, 1) := by decide +kernel
theorem d_M_readOrder_122 : decode b_M_readOrder 122 = .ok (.getfield 41, 3) := by decide +kernel
theorem d_M_readOrder_125 : decode b_M_readOrder 125 = .ok (.iload_n 3, 1) := by decide +kernel
theorem d_M_readOrder_126 : decode b_M_readOrder 126 = .ok (.iconst 2, 1) := by decide +kernel
theorem d_M_readOrder_127 : decode b_M_readOrder 127 = .ok (.iadd, 1) := by decide +kernel
theorem d_M_readOrder_128 : decode b_M_readOrder 128 = .ok (.iload_n 2, 1) := by decide +kernel
theorem d_M_readOrder_129 : decode b_M_readOrder 129 = .ok (.iconst 3, 1) := by decide +kernel
theorem d_M_readOrder_130 : decode b_M_readOrder 130 = .ok (.if_icmp .ne 14, 3) := by decide +kernel
theorem d_M_readOrder_133 : decode b_M_readOrder 133 = .ok (.aload_n 0, 1) := by decide +kernel
theorem d_M_readOrder_134 : decode b_M_readOrder 134 = .ok (.iconst 1, 1) := by decide +kernel
theorem d_M_readOrder_135 : decode b_M_readOrder 135 = .ok (.sipush 9999, 3) := by decide +kernel
theorem d_M_readOrder_138 : decode b_M_readOrder 138 = .ok (.invokevirtual 307, 3) := by decide +kernel
theorem d_M_readOrder_141 : decode b_M_readOrder 141 = .ok (.goto 4, 3) := by decide +kernel
theorem d_M_readOrder_144 : decode b_M_readOrder 144 = .ok (.iconst 0, 1) := by decide +kernel
theorem d_M_readOrder_145 : decode b_M_readOrder 145 = .ok (.iastore, 1) := by decide +kernel
theorem d_M_readOrder_146 : decode b_M_readOrder 146 = .ok (.aload_n 0, 1) := by decide +kernel
theorem d_M_readOrder_147 : decode b_M_readOrder 147 = .ok (.bipush 59, 2) := by decide +kernel
theorem d_M_readOrder_149 : decode b_M_readOrder 149 = .ok (.invokevirtual 310, 3) := by decide +kernel
theorem d_M_readOrder_152 : decode b_M_readOrder 152 = .ok (.return_, 1) := by decide +kernel
theorem cc_M_339 : CV "KiteLoggerModel" 339 y_M_orderHere b_M_orderHere 2 (some .int) 0 := ⟨TT_in (i := 1948) (by decide +kernel) (by decide +kernel), TT_in (i := 1950) (by decide +kernel) (by decide +kernel), TT_in (i := 81) (by decide +kernel) (by decide +kernel), TT_in (i := 100) (by decide +kernel) (by decide +kernel), TT_in (i := 1951) (by decide +kernel) (by decide +kernel), ⟨by decide +kernel, by decide +kernel, by decide +kernel⟩⟩
theorem cc_M_342 : CV "KiteLoggerModel" 342 y_M_readRepeat b_M_readRepeat 3 none 2 := ⟨TT_in (i := 1952) (by decide +kernel) (by decide +kernel), TT_in (i := 1954) (by decide +kernel) (by decide +kernel), TT_in (i := 82) (by decide +kernel) (by decide +kernel), TT_in (i := 100) (by decide +kernel) (by decide +kernel), TT_in (i := 1955) (by decide +kernel) (by decide +kernel), ⟨by decide +kernel, by decide +kernel, by decide +kernel⟩⟩
theorem cc_M_346 : CV "KiteLoggerModel" 346 y_M_readFirst b_M_readFirst 2 (some .int) 1 := ⟨TT_in (i := 1956) (by decide +kernel) (by decide +kernel), TT_in (i := 1958) (by decide +kernel) (by decide +kernel), TT_in (i := 83) (by decide +kernel) (by decide +kernel), TT_in (i := 100) (by decide +kernel) (by decide +kernel), TT_in (i := 1959) (by decide +kernel) (by decide +kernel), ⟨by decide +kernel, by decide +kernel, by decide +kernel⟩⟩
def fs_M_readOrder (N : Nat) (rr : Nat) (rb : Int32 → Mem → Option (Mem)) (a1 : Int32) (M : Mem) : Option (Mem) :=
  bnd (f_M_orderHere N rr M) fun (x1 : Int32) (M2 : Mem) => jn (fun (x4 : Bool) (M5 : Mem) => bndM (f_M_check x4 (1 : Int32) M5) fun (M7 : Mem) => jn (fun (x9 : Bool) (M10 : Mem) => bndM (f_M_check x9 (3 : Int32) M10) fun (M12 : Mem) => bndM (f_M_advance N rr M12) fun (M14 : Mem) => if (M14 145 20) = 0 then (nm ((3 : Int32) * (M14 145 26)) fun (x15 : Int32) => grd (inB x15 60) (nm (put M14 154 x15.toNatClampNeg x1) fun (M16 : Mem) => nm (put M16 145 26 ((M16 145 26) + (1 : Int32))) fun (M17 : Mem) => if x1 = (8 : Int32) then (bndM (f_M_readRepeat N rr rb x15 a1 M17) fun (M19 : Mem) => bndM (f_M_expect N rr (59 : Int32) M19) fun (M21 : Mem) => some M21) else (bnd (f_M_readFirst N rr x1 M17) fun (x22 : Int32) (M23 : Mem) => grd (inB (x15 + (1 : Int32)) 60) (nm (put M23 154 (x15 + (1 : Int32)).toNatClampNeg x22) fun (M24 : Mem) => if x1 = (3 : Int32) then (bnd (f_M_readNumber N rr (1 : Int32) (9999 : Int32) M24) fun (x25 : Int32) (M26 : Mem) => grd (inB (x15 + (2 : Int32)) 60) (nm (put M26 154 (x15 + (2 : Int32)).toNatClampNeg x25) fun (M27 : Mem) => bndM (f_M_expect N rr (59 : Int32) M27) fun (M29 : Mem) => some M29)) else (grd (inB (x15 + (2 : Int32)) 60) (nm (put M24 154 (x15 + (2 : Int32)).toNatClampNeg (0 : Int32)) fun (M30 : Mem) => bndM (f_M_expect N rr (59 : Int32) M30) fun (M32 : Mem) => some M32)))))) else (some M14)) (fun j8 => if (M7 145 20) = 0 then (if (M7 145 26) < (20 : Int32) then (if x1 = (8 : Int32) then (if a1 < (2 : Int32) then (j8 true M7) else (j8 false M7)) else (j8 true M7)) else (j8 false M7)) else (j8 true M7))) (fun j3 => if x1 = (-1 : Int32) then (j3 false M2) else (j3 true M2))
set_option maxHeartbeats 4000000 in
set_option maxRecDepth 100000 in
theorem cs_M_readOrder (l : Launch) (N : Nat) {w : Wc} {rr : Nat} (hw : WM w rr) (k0 : Nat) (hk0 : 10 ≤ k0) (rb : Int32 → Mem → Option (Mem)) (hrb : ∀ (a1 : Int32) (M : Mem), Ct QV l y_M_readOrder b_M_readOrder 4 none (rmL k0) w [.ref (wad w 145), .int a1] M (rb a1 M)) (a1 : Int32) (M : Mem) : Ct QV l y_M_readOrder b_M_readOrder 4 none (rmL (k0 + 2)) w [.ref (wad w 145), .int a1] M (fs_M_readOrder N rr rb a1 M) := by
  refine Ct.go (by decide) (L := [(0, .ref (wad w 145)), (1, .int a1)]) rfl (Nat.le_of_ble_eq_true rfl) (fun p0 e s m args below meth c g hret => ?_)
  unfold fs_M_readOrder
  refine G_aload_n g (pc := 0) 0 d_M_readOrder_0 rfl rfl ?_
  refine G_cVI g (pc := 1) (As := []) (st := []) cc_M_339 (c_M_orderHere l N hw M) (hw.mm 145 (Nat.le_of_ble_eq_true rfl) (Nat.le_of_ble_eq_true rfl)) (hw.k (zk145 rr)) rfl (by decide) rfl (room_le (by omega) (by decide)) ⟨(Nat.le_of_ble_eq_true rfl), (Nat.le_of_ble_eq_true rfl)⟩ (Nat.le_of_ble_eq_true rfl) d_M_readOrder_1 (fun x1 M2 => ?_)
  refine G_istore_n g (pc := 4) _ d_M_readOrder_4 rfl (Nat.le_of_ble_eq_true rfl) rfl ?_
  refine G_aload_n g (pc := 5) 1 d_M_readOrder_5 rfl rfl ?_
  refine G_iload_n g (pc := 6) 0 d_M_readOrder_6 rfl rfl ?_
  refine G_iconst g (pc := 7) (-1 : Int32) d_M_readOrder_7 rfl ?_
  refine G_jn 16 (fun _ => [(2, .int x1), (0, .ref (wad w 145)), (1, .int a1)]) (fun (x4 : Bool) => [.int (b2i x4), .ref (wad w 145)]) (fun x4 M5 => ?_) (fun j3 hj3 => ?_)
  · refine G_iconst g (pc := 16) (1 : Int32) d_M_readOrder_16 rfl ?_
    refine G_cVV g (pc := 17) (As := [.int (b2i x4), .int (1 : Int32)]) (st := []) cc_M_285 (c_M_check l hw x4 (1 : Int32) M5) (hw.mm 145 (Nat.le_of_ble_eq_true rfl) (Nat.le_of_ble_eq_true rfl)) (hw.k (zk145 rr)) rfl (by decide) rfl (room_le (by omega) (by decide)) ⟨(Nat.le_of_ble_eq_true rfl), (Nat.le_of_ble_eq_true rfl)⟩ (Nat.le_of_ble_eq_true rfl) d_M_readOrder_17 (fun M7 => ?_)
    refine G_aload_n g (pc := 20) 1 d_M_readOrder_20 rfl rfl ?_
    refine G_aload_n g (pc := 21) 1 d_M_readOrder_21 rfl rfl ?_
    refine G_get g (pc := 22) fa_M_259 (hw.mm 145 (Nat.le_of_ble_eq_true rfl) (Nat.le_of_ble_eq_true rfl)) (hw.k (zk145 rr)) d_M_readOrder_22 ?_
    refine G_jn 53 (fun _ => [(2, .int x1), (0, .ref (wad w 145)), (1, .int a1)]) (fun (x9 : Bool) => [.int (b2i x9), .ref (wad w 145)]) (fun x9 M10 => ?_) (fun j8 hj8 => ?_)
    · refine G_iconst g (pc := 53) (3 : Int32) d_M_readOrder_53 rfl ?_
      refine G_cVV g (pc := 54) (As := [.int (b2i x9), .int (3 : Int32)]) (st := []) cc_M_285 (c_M_check l hw x9 (3 : Int32) M10) (hw.mm 145 (Nat.le_of_ble_eq_true rfl) (Nat.le_of_ble_eq_true rfl)) (hw.k (zk145 rr)) rfl (by decide) rfl (room_le (by omega) (by decide)) ⟨(Nat.le_of_ble_eq_true rfl), (Nat.le_of_ble_eq_true rfl)⟩ (Nat.le_of_ble_eq_true rfl) d_M_readOrder_54 (fun M12 => ?_)
      refine G_aload_n g (pc := 57) 1 d_M_readOrder_57 rfl rfl ?_
      refine G_cVV g (pc := 58) (As := []) (st := []) cc_M_289 (c_M_advance l N hw M12) (hw.mm 145 (Nat.le_of_ble_eq_true rfl) (Nat.le_of_ble_eq_true rfl)) (hw.k (zk145 rr)) rfl (by decide) rfl (room_le (by omega) (by decide)) ⟨(Nat.le_of_ble_eq_true rfl), (Nat.le_of_ble_eq_true rfl)⟩ (Nat.le_of_ble_eq_true rfl) d_M_readOrder_58 (fun M14 => ?_)
      refine G_aload_n g (pc := 61) 1 d_M_readOrder_61 rfl rfl ?_
      refine G_get g (pc := 62) fa_M_259 (hw.mm 145 (Nat.le_of_ble_eq_true rfl) (Nat.le_of_ble_eq_true rfl)) (hw.k (zk145 rr)) d_M_readOrder_62 ?_
      refine G_if_eq g (pc := 65) 69 d_M_readOrder_65 (by decide) ?_ ?_
      · refine G_iconst g (pc := 69) (3 : Int32) d_M_readOrder_69 rfl ?_
        refine G_aload_n g (pc := 70) 1 d_M_readOrder_70 rfl rfl ?_
        refine G_get g (pc := 71) fa_M_336 (hw.mm 145 (Nat.le_of_ble_eq_true rfl) (Nat.le_of_ble_eq_true rfl)) (hw.k (zk145 rr)) d_M_readOrder_71 ?_
        refine G_imul g (pc := 74) d_M_readOrder_74 ?_
        refine G_nmI (fun x15 => ?_)
        refine G_istore_n g (pc := 75) _ d_M_readOrder_75 rfl (Nat.le_of_ble_eq_true rfl) rfl ?_
        refine G_aload_n g (pc := 76) 2 d_M_readOrder_76 rfl rfl ?_
        refine G_getR g (pc := 77) fa_M_41 (hw.mm 145 (Nat.le_of_ble_eq_true rfl) (Nat.le_of_ble_eq_true rfl)) (hw.k (zk145 rr)) (hw.r (zr145_24 rr)) d_M_readOrder_77 ?_
        refine G_iload_n g (pc := 80) 0 d_M_readOrder_80 rfl rfl ?_
        refine G_iload_n g (pc := 81) 1 d_M_readOrder_81 rfl rfl ?_
        refine G_iast g (pc := 82) (nn := 60) (hw.mm 154 (Nat.le_of_ble_eq_true rfl) (Nat.le_of_ble_eq_true rfl)) (hw.k (zk154 rr)) (hw.n (zn154 rr)) d_M_readOrder_82 ?_
        refine G_nmM (fun M16 => ?_)
        refine G_aload_n g (pc := 83) 2 d_M_readOrder_83 rfl rfl ?_
        refine G_dup g (pc := 84) d_M_readOrder_84 rfl ?_
        refine G_get g (pc := 85) fa_M_336 (hw.mm 145 (Nat.le_of_ble_eq_true rfl) (Nat.le_of_ble_eq_true rfl)) (hw.k (zk145 rr)) d_M_readOrder_85 ?_
        refine G_iconst g (pc := 88) (1 : Int32) d_M_readOrder_88 rfl ?_
        refine G_iadd g (pc := 89) d_M_readOrder_89 ?_
        refine G_put g (pc := 90) fa_M_336 fw_10_26 rfl rfl (hw.mm 145 (Nat.le_of_ble_eq_true rfl) (Nat.le_of_ble_eq_true rfl)) (hw.k (zk145 rr)) d_M_readOrder_90 ?_
        refine G_nmM (fun M17 => ?_)
        refine G_iload_n g (pc := 93) 1 d_M_readOrder_93 rfl rfl ?_
        refine G_bipush g (pc := 94) (8 : Int32) d_M_readOrder_94 rfl ?_
        refine G_icmp_ne g (pc := 96) 108 d_M_readOrder_96 (by decide) ?_ ?_
        · refine G_aload_n g (pc := 99) 2 d_M_readOrder_99 rfl rfl ?_
          refine G_iload_n g (pc := 100) 0 d_M_readOrder_100 rfl rfl ?_
          refine G_iload_n g (pc := 101) 3 d_M_readOrder_101 rfl rfl ?_
          refine G_cVV g (pc := 102) (As := [.int x15, .int a1]) (st := []) cc_M_342 (c_M_readRepeat l N hw k0 hk0 rb hrb x15 a1 M17) (hw.mm 145 (Nat.le_of_ble_eq_true rfl) (Nat.le_of_ble_eq_true rfl)) (hw.k (zk145 rr)) rfl (by decide) rfl (room_le (by omega) (by decide)) ⟨(Nat.le_of_ble_eq_true rfl), (Nat.le_of_ble_eq_true rfl)⟩ (Nat.le_of_ble_eq_true rfl) d_M_readOrder_102 (fun M19 => ?_)
          refine G_goto g (pc := 105) 146 d_M_readOrder_105 (by decide) ?_
          refine G_aload_n g (pc := 146) 2 d_M_readOrder_146 rfl rfl ?_
          refine G_bipush g (pc := 147) (59 : Int32) d_M_readOrder_147 rfl ?_
          refine G_cVV g (pc := 149) (As := [.int (59 : Int32)]) (st := []) cc_M_310 (c_M_expect l N hw (59 : Int32) M19) (hw.mm 145 (Nat.le_of_ble_eq_true rfl) (Nat.le_of_ble_eq_true rfl)) (hw.k (zk145 rr)) rfl (by decide) rfl (room_le (by omega) (by decide)) ⟨(Nat.le_of_ble_eq_true rfl), (Nat.le_of_ble_eq_true rfl)⟩ (Nat.le_of_ble_eq_true rfl) d_M_readOrder_149 (fun M21 => ?_)
          exact G_return g (pc := 152) hret (Nat.le_of_ble_eq_true rfl) (Nat.le_of_ble_eq_true rfl) d_M_readOrder_152
        · refine G_aload_n g (pc := 108) 2 d_M_readOrder_108 rfl rfl ?_
          refine G_getR g (pc := 109) fa_M_41 (hw.mm 145 (Nat.le_of_ble_eq_true rfl) (Nat.le_of_ble_eq_true rfl)) (hw.k (zk145 rr)) (hw.r (zr145_24 rr)) d_M_readOrder_109 ?_
          refine G_iload_n g (pc := 112) 0 d_M_readOrder_112 rfl rfl ?_
          refine G_iconst g (pc := 113) (1 : Int32) d_M_readOrder_113 rfl ?_
          refine G_iadd g (pc := 114) d_M_readOrder_114 ?_
          refine G_aload_n g (pc := 115) 2 d_M_readOrder_115 rfl rfl ?_
          refine G_iload_n g (pc := 116) 1 d_M_readOrder_116 rfl rfl ?_
          refine G_cVI g (pc := 117) (As := [.int x1]) (st := [.int (x15 + (1 : Int32)), .ref (wad w 154)]) cc_M_346 (c_M_readFirst l N hw x1 M17) (hw.mm 145 (Nat.le_of_ble_eq_true rfl) (Nat.le_of_ble_eq_true rfl)) (hw.k (zk145 rr)) rfl (by decide) rfl (room_le (by omega) (by decide)) ⟨(Nat.le_of_ble_eq_true rfl), (Nat.le_of_ble_eq_true rfl)⟩ (Nat.le_of_ble_eq_true rfl) d_M_readOrder_117 (fun x22 M23 => ?_)
          refine G_iast g (pc := 120) (nn := 60) (hw.mm 154 (Nat.le_of_ble_eq_true rfl) (Nat.le_of_ble_eq_true rfl)) (hw.k (zk154 rr)) (hw.n (zn154 rr)) d_M_readOrder_120 ?_
          refine G_nmM (fun M24 => ?_)
          refine G_aload_n g (pc := 121) 2 d_M_readOrder_121 rfl rfl ?_
          refine G_getR g (pc := 122) fa_M_41 (hw.mm 145 (Nat.le_of_ble_eq_true rfl) (Nat.le_of_ble_eq_true rfl)) (hw.k (zk145 rr)) (hw.r (zr145_24 rr)) d_M_readOrder_122 ?_
          refine G_iload_n g (pc := 125) 0 d_M_readOrder_125 rfl rfl ?_
          refine G_iconst g (pc := 126) (2 : Int32) d_M_readOrder_126 rfl ?_
          refine G_iadd g (pc := 127) d_M_readOrder_127 ?_
          refine G_iload_n g (pc := 128) 1 d_M_readOrder_128 rfl rfl ?_
          refine G_iconst g (pc := 129) (3 : Int32) d_M_readOrder_129 rfl ?_
          refine G_icmp_ne g (pc := 130) 144 d_M_readOrder_130 (by decide) ?_ ?_
          · refine G_aload_n g (pc := 133) 2 d_M_readOrder_133 rfl rfl ?_
            refine G_iconst g (pc := 134) (1 : Int32) d_M_readOrder_134 rfl ?_
            refine G_sipush g (pc := 135) (9999 : Int32) d_M_readOrder_135 rfl ?_
            refine G_cVI g (pc := 138) (As := [.int (1 : Int32), .int (9999 : Int32)]) (st := [.int (x15 + (2 : Int32)), .ref (wad w 154)]) cc_M_307 (c_M_readNumber l N hw (1 : Int32) (9999 : Int32) M24) (hw.mm 145 (Nat.le_of_ble_eq_true rfl) (Nat.le_of_ble_eq_true rfl)) (hw.k (zk145 rr)) rfl (by decide) rfl (room_le (by omega) (by decide)) ⟨(Nat.le_of_ble_eq_true rfl), (Nat.le_of_ble_eq_true rfl)⟩ (Nat.le_of_ble_eq_true rfl) d_M_readOrder_138 (fun x25 M26 => ?_)
            refine G_goto g (pc := 141) 145 d_M_readOrder_141 (by decide) ?_
            refine G_iast g (pc := 145) (nn := 60) (hw.mm 154 (Nat.le_of_ble_eq_true rfl) (Nat.le_of_ble_eq_true rfl)) (hw.k (zk154 rr)) (hw.n (zn154 rr)) d_M_readOrder_145 ?_
            refine G_nmM (fun M27 => ?_)
            refine G_aload_n g (pc := 146) 2 d_M_readOrder_146 rfl rfl ?_
            refine G_bipush g (pc := 147) (59 : Int32) d_M_readOrder_147 rfl ?_
            refine G_cVV g (pc := 149) (As := [.int (59 : Int32)]) (st := []) cc_M_310 (c_M_expect l N hw (59 : Int32) M27) (hw.mm 145 (Nat.le_of_ble_eq_true rfl) (Nat.le_of_ble_eq_true rfl)) (hw.k (zk145 rr)) rfl (by decide) rfl (room_le (by omega) (by decide)) ⟨(Nat.le_of_ble_eq_true rfl), (Nat.le_of_ble_eq_true rfl)⟩ (Nat.le_of_ble_eq_true rfl) d_M_readOrder_149 (fun M29 => ?_)
            exact G_return g (pc := 152) hret (Nat.le_of_ble_eq_true rfl) (Nat.le_of_ble_eq_true rfl) d_M_readOrder_152
          · refine G_iconst g (pc := 144) (0 : Int32) d_M_readOrder_144 rfl ?_
            refine G_iast g (pc := 145) (nn := 60) (hw.mm 154 (Nat.le_of_ble_eq_true rfl) (Nat.le_of_ble_eq_true rfl)) (hw.k (zk154 rr)) (hw.n (zn154 rr)) d_M_readOrder_145 ?_
            refine G_nmM (fun M30 => ?_)
            refine G_aload_n g (pc := 146) 2 d_M_readOrder_146 rfl rfl ?_
            refine G_bipush g (pc := 147) (59 : Int32) d_M_readOrder_147 rfl ?_
            refine G_cVV g (pc := 149) (As := [.int (59 : Int32)]) (st := []) cc_M_310 (c_M_expect l N hw (59 : Int32) M30) (hw.mm 145 (Nat.le_of_ble_eq_true rfl) (Nat.le_of_ble_eq_true rfl)) (hw.k (zk145 rr)) rfl (by decide) rfl (room_le (by omega) (by decide)) ⟨(Nat.le_of_ble_eq_true rfl), (Nat.le_of_ble_eq_true rfl)⟩ (Nat.le_of_ble_eq_true rfl) d_M_readOrder_149 (fun M32 => ?_)
            exact G_return g (pc := 152) hret (Nat.le_of_ble_eq_true rfl) (Nat.le_of_ble_eq_true rfl) d_M_readOrder_152
      · exact G_return g (pc := 68) hret (Nat.le_of_ble_eq_true rfl) (Nat.le_of_ble_eq_true rfl) d_M_readOrder_68
    · refine G_if_ne g (pc := 25) 48 d_M_readOrder_25 (by decide) ?_ ?_
      · refine G_aload_n g (pc := 28) 1 d_M_readOrder_28 rfl rfl ?_
        refine G_get g (pc := 29) fa_M_336 (hw.mm 145 (Nat.le_of_ble_eq_true rfl) (Nat.le_of_ble_eq_true rfl)) (hw.k (zk145 rr)) d_M_readOrder_29 ?_
        refine G_bipush g (pc := 32) (20 : Int32) d_M_readOrder_32 rfl ?_
        refine G_icmp_ge g (pc := 34) 52 d_M_readOrder_34 (by decide) ?_ ?_
        · refine G_iload_n g (pc := 37) 0 d_M_readOrder_37 rfl rfl ?_
          refine G_bipush g (pc := 38) (8 : Int32) d_M_readOrder_38 rfl ?_
          refine G_icmp_ne g (pc := 40) 48 d_M_readOrder_40 (by decide) ?_ ?_
          · refine G_iload_n g (pc := 43) 2 d_M_readOrder_43 rfl rfl ?_
            refine G_iconst g (pc := 44) (2 : Int32) d_M_readOrder_44 rfl ?_
            refine G_icmp_ge g (pc := 45) 52 d_M_readOrder_45 (by decide) ?_ ?_
            · refine G_iconst g (pc := 48) (1 : Int32) d_M_readOrder_48 rfl ?_
              refine G_goto g (pc := 49) 53 d_M_readOrder_49 (by decide) ?_
              refine G_sub [0, 1, 2] _ rfl ?_
              exact hj8 true M7
            · refine G_iconst g (pc := 52) (0 : Int32) d_M_readOrder_52 rfl ?_
              refine G_sub [0, 1, 2] _ rfl ?_
              exact hj8 false M7
          · refine G_iconst g (pc := 48) (1 : Int32) d_M_readOrder_48 rfl ?_
            refine G_goto g (pc := 49) 53 d_M_readOrder_49 (by decide) ?_
            refine G_sub [0, 1, 2] _ rfl ?_
            exact hj8 true M7
        · refine G_iconst g (pc := 52) (0 : Int32) d_M_readOrder_52 rfl ?_
          refine G_sub [0, 1, 2] _ rfl ?_
          exact hj8 false M7
      · refine G_iconst g (pc := 48) (1 : Int32) d_M_readOrder_48 rfl ?_
        refine G_goto g (pc := 49) 53 d_M_readOrder_49 (by decide) ?_
        refine G_sub [0, 1, 2] _ rfl ?_
        exact hj8 true M7
  · refine G_icmp_eq g (pc := 8) 15 d_M_readOrder_8 (by decide) ?_ ?_
    · refine G_iconst g (pc := 15) (0 : Int32) d_M_readOrder_15 rfl ?_
      refine G_sub [0, 1, 2] _ rfl ?_
      exact hj3 false M2
    · refine G_iconst g (pc := 11) (1 : Int32) d_M_readOrder_11 rfl ?_
      refine G_goto g (pc := 12) 16 d_M_readOrder_12 (by decide) ?_
      refine G_sub [0, 1, 2] _ rfl ?_
      exact hj3 true M2
def f_M_readOrder (N : Nat) (rr : Nat) : Nat → Int32 → Mem → Option (Mem)
  | 0, _, _ => none
  | D + 1, a1, M => fs_M_readOrder N rr (f_M_readOrder N rr D) a1 M
theorem c_M_readOrder (l : Launch) (N : Nat) {w : Wc} {rr : Nat} (hw : WM w rr) : ∀ (D : Nat) (a1 : Int32) (M : Mem), Ct QV l y_M_readOrder b_M_readOrder 4 none (rmL (10 + 2 * D)) w [.ref (wad w 145), .int a1] M (f_M_readOrder N rr D a1 M)
  | 0, _, _ => fun _ hr => nomatch hr
  | D + 1, a1, M => cs_M_readOrder l N hw (10 + 2 * D) (by omega) (f_M_readOrder N rr D) (c_M_readOrder l N hw D) a1 M

theorem d_M_does_0 : decode b_M_does 0 = .ok (.aload_n 0, 1) := by decide +kernel
theorem d_M_does_1 : decode b_M_does 1 = .ok (.getfield 41, 3) := by decide +kernel
theorem d_M_does_4 : decode b_M_does 4 = .ok (.iload_n 1, 1) := by decide +kernel
theorem d_M_does_5 : decode b_M_does 5 = .ok (.iconst 1, 1) := by decide +kernel
theorem d_M_does_6 : decode b_M_does 6 = .ok (.iadd, 1) := by decide +kernel
theorem d_M_does_7 : decode b_M_does 7 = .ok (.iaload, 1) := by decide +kernel
theorem d_M_does_8 : decode b_M_does 8 = .ok (.istore_n 2, 1) := by decide +kernel
theorem d_M_does_9 : decode b_M_does 9 = .ok (.aload_n 0, 1) := by decide +kernel
theorem d_M_does_10 : decode b_M_does 10 = .ok (.getfield 41, 3) := by decide +kernel
theorem d_M_does_13 : decode b_M_does 13 = .ok (.iload_n 1, 1) := by decide +kernel
theorem d_M_does_14 : decode b_M_does 14 = .ok (.iaload, 1) := by decide +kernel
theorem d_M_does_15 : decode b_M_does 15 = .ok (.tableswitch 89 0 6 #[41, 46, 52, 58, 72, 78, 84], 41) := by decide +kernel
theorem d_M_does_56 : decode b_M_does 56 = .ok (.aload_n 0, 1) := by decide +kernel
theorem d_M_does_57 : decode b_M_does 57 = .ok (.invokevirtual 195, 3) := by decide +kernel
theorem d_M_does_60 : decode b_M_does 60 = .ok (.ireturn, 1) := by decide +kernel
theorem d_M_does_61 : decode b_M_does 61 = .ok (.aload_n 0, 1) := by decide +kernel
theorem d_M_does_62 : decode b_M_does 62 = .ok (.iload_n 2, 1) := by decide +kernel
theorem d_M_does_63 : decode b_M_does 63 = .ok (.invokevirtual 201, 3) := by decide +kernel
theorem d_M_does_66 : decode b_M_does 66 = .ok (.ireturn, 1) := by decide +kernel
theorem d_M_does_67 : decode b_M_does 67 = .ok (.aload_n 0, 1) := by decide +kernel
theorem d_M_does_68 : decode b_M_does 68 = .ok (.iload_n 2, 1) := by decide +kernel
theorem d_M_does_69 : decode b_M_does 69 = .ok (.invokevirtual 204, 3) := by decide +kernel
theorem d_M_does_72 : decode b_M_does 72 = .ok (.ireturn, 1) := by decide +kernel
theorem d_M_does_73 : decode b_M_does 73 = .ok (.aload_n 0, 1) := by decide +kernel
theorem d_M_does_74 : decode b_M_does 74 = .ok (.iload_n 2, 1) := by decide +kernel
theorem d_M_does_75 : decode b_M_does 75 = .ok (.aload_n 0, 1) := by decide +kernel
theorem d_M_does_76 : decode b_M_does 76 = .ok (.getfield 41, 3) := by decide +kernel
theorem d_M_does_79 : decode b_M_does 79 = .ok (.iload_n 1, 1) := by decide +kernel
theorem d_M_does_80 : decode b_M_does 80 = .ok (.iconst 2, 1) := by decide +kernel
theorem d_M_does_81 : decode b_M_does 81 = .ok (.iadd, 1) := by decide +kernel
theorem d_M_does_82 : decode b_M_does 82 = .ok (.iaload, 1) := by decide +kernel
theorem d_M_does_83 : decode b_M_does 83 = .ok (.invokevirtual 207, 3) := by decide +kernel
theorem d_M_does_86 : decode b_M_does 86 = .ok (.ireturn, 1) := by decide +kernel
theorem d_M_does_87 : decode b_M_does 87 = .ok (.aload_n 0, 1) := by decide +kernel
theorem d_M_does_88 : decode b_M_does 88 = .ok (.iload_n 2, 1) := by decide +kernel
theorem d_M_does_89 : decode b_M_does 89 = .ok (.invokevirtual 210, 3) := by decide +kernel
theorem d_M_does_92 : decode b_M_does 92 = .ok (.ireturn, 1) := by decide +kernel
theorem d_M_does_93 : decode b_M_does 93 = .ok (.aload_n 0, 1) := by decide +kernel
theorem d_M_does_94 : decode b_M_does 94 = .ok (.iload_n 2, 1) := by decide +kernel
theorem d_M_does_95 : decode b_M_does 95 = .ok (.invokevirtual 213, 3) := by decide +kernel
theorem d_M_does_98 : decode b_M_does 98 = .ok (.ireturn, 1) := by decide +kernel
theorem d_M_does_99 : decode b_M_does 99 = .ok (.aload_n 0, 1) := by decide +kernel
theorem d_M_does_100 : decode b_M_does 100 = .ok (.invokevirtual 216, 3) := by decide +kernel
theorem d_M_does_103 : decode b_M_does 103 = .ok (.ireturn, 1) := by decide +kernel
theorem d_M_does_104 : decode b_M_does 104 = .ok (.aload_n 0, 1) := by decide +kernel
theorem d_M_does_105 : decode b_M_does 105 = .ok (.iload_n 2, 1) := by decide +kernel
theorem d_M_does_106 : decode b_M_does 106 = .ok (.invokevirtual 219, 3) := by decide +kernel
theorem d_M_does_109 : decode b_M_does 109 = .ok (.ireturn, 1) := by decide +kernel
def f_M_does (N : Nat) (rr : Nat) (a1 : Int32) (M : Mem) : Option (Int32 × Mem) :=
  grd (inB (a1 + (1 : Int32)) 60) (nm (M 154 (a1 + (1 : Int32)).toNatClampNeg) fun (x1 : Int32) => grd (inB a1 60) (if (M 154 a1.toNatClampNeg) = (0 : Int32) then (bnd (f_M_doLaunch rr M) fun (x2 : Int32) (M3 : Mem) => some (x2, M3)) else (if (M 154 a1.toNatClampNeg) = (1 : Int32) then (bnd (f_M_doOut rr x1 M) fun (x4 : Int32) (M5 : Mem) => some (x4, M5)) else (if (M 154 a1.toNatClampNeg) = (2 : Int32) then (bnd (f_M_doIn rr x1 M) fun (x6 : Int32) (M7 : Mem) => some (x6, M7)) else (if (M 154 a1.toNatClampNeg) = (3 : Int32) then (grd (inB (a1 + (2 : Int32)) 60) (bnd (f_M_doBridle rr x1 (M 154 (a1 + (2 : Int32)).toNatClampNeg) M) fun (x8 : Int32) (M9 : Mem) => some (x8, M9))) else (if (M 154 a1.toNatClampNeg) = (4 : Int32) then (bnd (f_M_doEvery rr x1 M) fun (x10 : Int32) (M11 : Mem) => some (x10, M11)) else (if (M 154 a1.toNatClampNeg) = (5 : Int32) then (bnd (f_M_doSearch rr x1 M) fun (x12 : Int32) (M13 : Mem) => some (x12, M13)) else (if (M 154 a1.toNatClampNeg) = (6 : Int32) then (bnd (f_M_doArchive rr M) fun (x14 : Int32) (M15 : Mem) => some (x14, M15)) else (bnd (f_M_doWait N rr x1 M) fun (x16 : Int32) (M17 : Mem) => some (x16, M17))))))))))
set_option maxHeartbeats 4000000 in
set_option maxRecDepth 100000 in
theorem c_M_does (l : Launch) (N : Nat) {w : Wc} {rr : Nat} (hw : WM w rr) (a1 : Int32) (M : Mem) : Ct QI l y_M_does b_M_does 3 (some .int) (rmL 7) w [.ref (wad w 145), .int a1] M (f_M_does N rr a1 M) := by
  refine Ct.go (by decide) (L := [(0, .ref (wad w 145)), (1, .int a1)]) rfl (Nat.le_of_ble_eq_true rfl) (fun p0 e s m args below meth c g hret => ?_)
  unfold f_M_does
  refine G_aload_n g (pc := 0) 0 d_M_does_0 rfl rfl ?_
  refine G_getR g (pc := 1) fa_M_41 (hw.mm 145 (Nat.le_of_ble_eq_true rfl) (Nat.le_of_ble_eq_true rfl)) (hw.k (zk145 rr)) (hw.r (zr145_24 rr)) d_M_does_1 ?_
  refine G_iload_n g (pc := 4) 1 d_M_does_4 rfl rfl ?_
  refine G_iconst g (pc := 5) (1 : Int32) d_M_does_5 rfl ?_
  refine G_iadd g (pc := 6) d_M_does_6 ?_
  refine G_iald g (pc := 7) (nn := 60) (hw.mm 154 (Nat.le_of_ble_eq_true rfl) (Nat.le_of_ble_eq_true rfl)) (hw.k (zk154 rr)) (hw.n (zn154 rr)) d_M_does_7 ?_
  refine G_nmI (fun x1 => ?_)
  refine G_istore_n g (pc := 8) _ d_M_does_8 rfl (Nat.le_of_ble_eq_true rfl) rfl ?_
  refine G_aload_n g (pc := 9) 1 d_M_does_9 rfl rfl ?_
  refine G_getR g (pc := 10) fa_M_41 (hw.mm 145 (Nat.le_of_ble_eq_true rfl) (Nat.le_of_ble_eq_true rfl)) (hw.k (zk145 rr)) (hw.r (zr145_24 rr)) d_M_does_10 ?_
  refine G_iload_n g (pc := 13) 2 d_M_does_13 rfl rfl ?_
  refine G_iald g (pc := 14) (nn := 60) (hw.mm 154 (Nat.le_of_ble_eq_true rfl) (Nat.le_of_ble_eq_true rfl)) (hw.k (zk154 rr)) (hw.n (zn154 rr)) d_M_does_14 ?_
  refine G_case (v := (0 : Int32)) ?_ (fun ne0 => ?_)
  · refine G_tabK g (pc := 15) 56 d_M_does_15 (by decide) (by decide) rfl (by decide) ?_
    refine G_aload_n g (pc := 56) 1 d_M_does_56 rfl rfl ?_
    refine G_cVI g (pc := 57) (As := []) (st := []) cc_M_195 (c_M_doLaunch l hw M) (hw.mm 145 (Nat.le_of_ble_eq_true rfl) (Nat.le_of_ble_eq_true rfl)) (hw.k (zk145 rr)) rfl (by decide) rfl ⟨(Nat.le_of_ble_eq_true rfl), (Nat.le_of_ble_eq_true rfl)⟩ ⟨(Nat.le_of_ble_eq_true rfl), (Nat.le_of_ble_eq_true rfl)⟩ (Nat.le_of_ble_eq_true rfl) d_M_does_57 (fun x2 M3 => ?_)
    exact G_ireturn g (pc := 60) hret (Nat.le_of_ble_eq_true rfl) (Nat.le_of_ble_eq_true rfl) d_M_does_60
  refine G_case (v := (1 : Int32)) ?_ (fun ne1 => ?_)
  · refine G_tabK g (pc := 15) 61 d_M_does_15 (by decide) (by decide) rfl (by decide) ?_
    refine G_aload_n g (pc := 61) 1 d_M_does_61 rfl rfl ?_
    refine G_iload_n g (pc := 62) 0 d_M_does_62 rfl rfl ?_
    refine G_cVI g (pc := 63) (As := [.int x1]) (st := []) cc_M_201 (c_M_doOut l hw x1 M) (hw.mm 145 (Nat.le_of_ble_eq_true rfl) (Nat.le_of_ble_eq_true rfl)) (hw.k (zk145 rr)) rfl (by decide) rfl ⟨(Nat.le_of_ble_eq_true rfl), (Nat.le_of_ble_eq_true rfl)⟩ ⟨(Nat.le_of_ble_eq_true rfl), (Nat.le_of_ble_eq_true rfl)⟩ (Nat.le_of_ble_eq_true rfl) d_M_does_63 (fun x4 M5 => ?_)
    exact G_ireturn g (pc := 66) hret (Nat.le_of_ble_eq_true rfl) (Nat.le_of_ble_eq_true rfl) d_M_does_66
  refine G_case (v := (2 : Int32)) ?_ (fun ne2 => ?_)
  · refine G_tabK g (pc := 15) 67 d_M_does_15 (by decide) (by decide) rfl (by decide) ?_
    refine G_aload_n g (pc := 67) 1 d_M_does_67 rfl rfl ?_
    refine G_iload_n g (pc := 68) 0 d_M_does_68 rfl rfl ?_
    refine G_cVI g (pc := 69) (As := [.int x1]) (st := []) cc_M_204 (c_M_doIn l hw x1 M) (hw.mm 145 (Nat.le_of_ble_eq_true rfl) (Nat.le_of_ble_eq_true rfl)) (hw.k (zk145 rr)) rfl (by decide) rfl ⟨(Nat.le_of_ble_eq_true rfl), (Nat.le_of_ble_eq_true rfl)⟩ ⟨(Nat.le_of_ble_eq_true rfl), (Nat.le_of_ble_eq_true rfl)⟩ (Nat.le_of_ble_eq_true rfl) d_M_does_69 (fun x6 M7 => ?_)
    exact G_ireturn g (pc := 72) hret (Nat.le_of_ble_eq_true rfl) (Nat.le_of_ble_eq_true rfl) d_M_does_72
  refine G_case (v := (3 : Int32)) ?_ (fun ne3 => ?_)
  · refine G_tabK g (pc := 15) 73 d_M_does_15 (by decide) (by decide) rfl (by decide) ?_
    refine G_aload_n g (pc := 73) 1 d_M_does_73 rfl rfl ?_
    refine G_iload_n g (pc := 74) 0 d_M_does_74 rfl rfl ?_
    refine G_aload_n g (pc := 75) 1 d_M_does_75 rfl rfl ?_
    refine G_getR g (pc := 76) fa_M_41 (hw.mm 145 (Nat.le_of_ble_eq_true rfl) (Nat.le_of_ble_eq_true rfl)) (hw.k (zk145 rr)) (hw.r (zr145_24 rr)) d_M_does_76 ?_
    refine G_iload_n g (pc := 79) 2 d_M_does_79 rfl rfl ?_
    refine G_iconst g (pc := 80) (2 : Int32) d_M_does_80 rfl ?_
    refine G_iadd g (pc := 81) d_M_does_81 ?_
    refine G_iald g (pc := 82) (nn := 60) (hw.mm 154 (Nat.le_of_ble_eq_true rfl) (Nat.le_of_ble_eq_true rfl)) (hw.k (zk154 rr)) (hw.n (zn154 rr)) d_M_does_82 ?_
    refine G_cVI g (pc := 83) (As := [.int x1, .int (M 154 (a1 + (2 : Int32)).toNatClampNeg)]) (st := []) cc_M_207 (c_M_doBridle l hw x1 (M 154 (a1 + (2 : Int32)).toNatClampNeg) M) (hw.mm 145 (Nat.le_of_ble_eq_true rfl) (Nat.le_of_ble_eq_true rfl)) (hw.k (zk145 rr)) rfl (by decide) rfl ⟨(Nat.le_of_ble_eq_true rfl), (Nat.le_of_ble_eq_true rfl)⟩ ⟨(Nat.le_of_ble_eq_true rfl), (Nat.le_of_ble_eq_true rfl)⟩ (Nat.le_of_ble_eq_true rfl) d_M_does_83 (fun x8 M9 => ?_)
    exact G_ireturn g (pc := 86) hret (Nat.le_of_ble_eq_true rfl) (Nat.le_of_ble_eq_true rfl) d_M_does_86
  refine G_case (v := (4 : Int32)) ?_ (fun ne4 => ?_)
  · refine G_tabK g (pc := 15) 87 d_M_does_15 (by decide) (by decide) rfl (by decide) ?_
    refine G_aload_n g (pc := 87) 1 d_M_does_87 rfl rfl ?_
    refine G_iload_n g (pc := 88) 0 d_M_does_88 rfl rfl ?_
    refine G_cVI g (pc := 89) (As := [.int x1]) (st := []) cc_M_210 (c_M_doEvery l hw x1 M) (hw.mm 145 (Nat.le_of_ble_eq_true rfl) (Nat.le_of_ble_eq_true rfl)) (hw.k (zk145 rr)) rfl (by decide) rfl ⟨(Nat.le_of_ble_eq_true rfl), (Nat.le_of_ble_eq_true rfl)⟩ ⟨(Nat.le_of_ble_eq_true rfl), (Nat.le_of_ble_eq_true rfl)⟩ (Nat.le_of_ble_eq_true rfl) d_M_does_89 (fun x10 M11 => ?_)
    exact G_ireturn g (pc := 92) hret (Nat.le_of_ble_eq_true rfl) (Nat.le_of_ble_eq_true rfl) d_M_does_92
  refine G_case (v := (5 : Int32)) ?_ (fun ne5 => ?_)
  · refine G_tabK g (pc := 15) 93 d_M_does_15 (by decide) (by decide) rfl (by decide) ?_
    refine G_aload_n g (pc := 93) 1 d_M_does_93 rfl rfl ?_
    refine G_iload_n g (pc := 94) 0 d_M_does_94 rfl rfl ?_
    refine G_cVI g (pc := 95) (As := [.int x1]) (st := []) cc_M_213 (c_M_doSearch l hw x1 M) (hw.mm 145 (Nat.le_of_ble_eq_true rfl) (Nat.le_of_ble_eq_true rfl)) (hw.k (zk145 rr)) rfl (by decide) rfl ⟨(Nat.le_of_ble_eq_true rfl), (Nat.le_of_ble_eq_true rfl)⟩ ⟨(Nat.le_of_ble_eq_true rfl), (Nat.le_of_ble_eq_true rfl)⟩ (Nat.le_of_ble_eq_true rfl) d_M_does_95 (fun x12 M13 => ?_)
    exact G_ireturn g (pc := 98) hret (Nat.le_of_ble_eq_true rfl) (Nat.le_of_ble_eq_true rfl) d_M_does_98
  refine G_case (v := (6 : Int32)) ?_ (fun ne6 => ?_)
  · refine G_tabK g (pc := 15) 99 d_M_does_15 (by decide) (by decide) rfl (by decide) ?_
    refine G_aload_n g (pc := 99) 1 d_M_does_99 rfl rfl ?_
    refine G_cVI g (pc := 100) (As := []) (st := []) cc_M_216 (c_M_doArchive l hw M) (hw.mm 145 (Nat.le_of_ble_eq_true rfl) (Nat.le_of_ble_eq_true rfl)) (hw.k (zk145 rr)) rfl (by decide) rfl ⟨(Nat.le_of_ble_eq_true rfl), (Nat.le_of_ble_eq_true rfl)⟩ ⟨(Nat.le_of_ble_eq_true rfl), (Nat.le_of_ble_eq_true rfl)⟩ (Nat.le_of_ble_eq_true rfl) d_M_does_100 (fun x14 M15 => ?_)
    exact G_ireturn g (pc := 103) hret (Nat.le_of_ble_eq_true rfl) (Nat.le_of_ble_eq_true rfl) d_M_does_103
  refine G_tabD g (pc := 15) 104 d_M_does_15 (by have q0 : ¬ (M 154 a1.toNatClampNeg).toInt = 0 := lv_neT ne0 rfl; have q1 : ¬ (M 154 a1.toNatClampNeg).toInt = 1 := lv_neT ne1 rfl; have q2 : ¬ (M 154 a1.toNatClampNeg).toInt = 2 := lv_neT ne2 rfl; have q3 : ¬ (M 154 a1.toNatClampNeg).toInt = 3 := lv_neT ne3 rfl; have q4 : ¬ (M 154 a1.toNatClampNeg).toInt = 4 := lv_neT ne4 rfl; have q5 : ¬ (M 154 a1.toNatClampNeg).toInt = 5 := lv_neT ne5 rfl; have q6 : ¬ (M 154 a1.toNatClampNeg).toInt = 6 := lv_neT ne6 rfl; omega) (by decide) ?_
  refine G_aload_n g (pc := 104) 1 d_M_does_104 rfl rfl ?_
  refine G_iload_n g (pc := 105) 0 d_M_does_105 rfl rfl ?_
  refine G_cVI g (pc := 106) (As := [.int x1]) (st := []) cc_M_219 (c_M_doWait l N hw x1 M) (hw.mm 145 (Nat.le_of_ble_eq_true rfl) (Nat.le_of_ble_eq_true rfl)) (hw.k (zk145 rr)) rfl (by decide) rfl ⟨(Nat.le_of_ble_eq_true rfl), (Nat.le_of_ble_eq_true rfl)⟩ ⟨(Nat.le_of_ble_eq_true rfl), (Nat.le_of_ble_eq_true rfl)⟩ (Nat.le_of_ble_eq_true rfl) d_M_does_106 (fun x16 M17 => ?_)
  exact G_ireturn g (pc := 109) hret (Nat.le_of_ble_eq_true rfl) (Nat.le_of_ble_eq_true rfl) d_M_does_109

theorem d_M_isRepeated_0 : decode b_M_isRepeated 0 = .ok (.iconst 0, 1) := by decide +kernel
theorem d_M_isRepeated_1 : decode b_M_isRepeated 1 = .ok (.istore_n 2, 1) := by decide +kernel
theorem d_M_isRepeated_2 : decode b_M_isRepeated 2 = .ok (.iload_n 2, 1) := by decide +kernel
theorem d_M_isRepeated_3 : decode b_M_isRepeated 3 = .ok (.aload_n 0, 1) := by decide +kernel
theorem d_M_isRepeated_4 : decode b_M_isRepeated 4 = .ok (.getfield 41, 3) := by decide +kernel
theorem d_M_isRepeated_7 : decode b_M_isRepeated 7 = .ok (.iconst 3, 1) := by decide +kernel
theorem d_M_isRepeated_8 : decode b_M_isRepeated 8 = .ok (.iload_n 1, 1) := by decide +kernel
theorem d_M_isRepeated_9 : decode b_M_isRepeated 9 = .ok (.imul, 1) := by decide +kernel
theorem d_M_isRepeated_10 : decode b_M_isRepeated 10 = .ok (.iconst 1, 1) := by decide +kernel
theorem d_M_isRepeated_11 : decode b_M_isRepeated 11 = .ok (.iadd, 1) := by decide +kernel
theorem d_M_isRepeated_12 : decode b_M_isRepeated 12 = .ok (.iaload, 1) := by decide +kernel
theorem d_M_isRepeated_13 : decode b_M_isRepeated 13 = .ok (.if_icmp .ge 31, 3) := by decide +kernel
theorem d_M_isRepeated_16 : decode b_M_isRepeated 16 = .ok (.aload_n 0, 1) := by decide +kernel
theorem d_M_isRepeated_17 : decode b_M_isRepeated 17 = .ok (.iload_n 1, 1) := by decide +kernel
theorem d_M_isRepeated_18 : decode b_M_isRepeated 18 = .ok (.iconst 1, 1) := by decide +kernel
theorem d_M_isRepeated_19 : decode b_M_isRepeated 19 = .ok (.iadd, 1) := by decide +kernel
theorem d_M_isRepeated_20 : decode b_M_isRepeated 20 = .ok (.aload_n 0, 1) := by decide +kernel
theorem d_M_isRepeated_21 : decode b_M_isRepeated 21 = .ok (.getfield 41, 3) := by decide +kernel
theorem d_M_isRepeated_24 : decode b_M_isRepeated 24 = .ok (.iconst 3, 1) := by decide +kernel
theorem d_M_isRepeated_25 : decode b_M_isRepeated 25 = .ok (.iload_n 1, 1) := by decide +kernel
theorem d_M_isRepeated_26 : decode b_M_isRepeated 26 = .ok (.imul, 1) := by decide +kernel
theorem d_M_isRepeated_27 : decode b_M_isRepeated 27 = .ok (.iconst 2, 1) := by decide +kernel
theorem d_M_isRepeated_28 : decode b_M_isRepeated 28 = .ok (.iadd, 1) := by decide +kernel
theorem d_M_isRepeated_29 : decode b_M_isRepeated 29 = .ok (.iaload, 1) := by decide +kernel
theorem d_M_isRepeated_30 : decode b_M_isRepeated 30 = .ok (.invokevirtual 349, 3) := by decide +kernel
theorem d_M_isRepeated_33 : decode b_M_isRepeated 33 = .ok (.ifCond .ne 5, 3) := by decide +kernel
theorem d_M_isRepeated_36 : decode b_M_isRepeated 36 = .ok (.iconst 0, 1) := by decide +kernel
theorem d_M_isRepeated_37 : decode b_M_isRepeated 37 = .ok (.ireturn, 1) := by decide +kernel
theorem d_M_isRepeated_38 : decode b_M_isRepeated 38 = .ok (.iinc 2 1, 3) := by decide +kernel
theorem d_M_isRepeated_41 : decode b_M_isRepeated 41 = .ok (.goto (-39), 3) := by decide +kernel
theorem d_M_isRepeated_44 : decode b_M_isRepeated 44 = .ok (.iconst 1, 1) := by decide +kernel
theorem d_M_isRepeated_45 : decode b_M_isRepeated 45 = .ok (.ireturn, 1) := by decide +kernel
theorem cc_M_349 : CV "KiteLoggerModel" 349 y_M_areDone b_M_areDone 6 (some .boolean) 2 := ⟨TT_in (i := 1960) (by decide +kernel) (by decide +kernel), TT_in (i := 1962) (by decide +kernel) (by decide +kernel), TT_in (i := 84) (by decide +kernel) (by decide +kernel), TT_in (i := 100) (by decide +kernel) (by decide +kernel), TT_in (i := 1963) (by decide +kernel) (by decide +kernel), ⟨by decide +kernel, by decide +kernel, by decide +kernel⟩⟩
def lp_M_isRepeated_2 (N0 rr : Nat) (rb : Int32 → Int32 → Mem → Option (Bool × Mem)) (a1 : Int32)  : Nat → Int32 → Mem → (Int32 → Mem → Option (Bool × Mem)) → Option (Bool × Mem)
  | 0, _, _, _ => none
  | N + 1, v2, M, k2 => grd (inB (((3 : Int32) * a1) + (1 : Int32)) 60) (if v2 < (M 154 (((3 : Int32) * a1) + (1 : Int32)).toNatClampNeg) then (grd (inB (((3 : Int32) * a1) + (2 : Int32)) 60) (bnd (rb (a1 + (1 : Int32)) (M 154 (((3 : Int32) * a1) + (2 : Int32)).toNatClampNeg) M) fun (x1 : Bool) (M2 : Mem) => if x1 = true then (nm (v2 + (1 : Int32)) fun (x3 : Int32) => lp_M_isRepeated_2 N0 rr rb a1 N x3 M2 k2) else (some (false, M2)))) else (k2 v2 M))
def f_M_isRepeated (N : Nat) (rr : Nat) (rb : Int32 → Int32 → Mem → Option (Bool × Mem)) (a1 : Int32) (M : Mem) : Option (Bool × Mem) :=
  lp_M_isRepeated_2 N rr rb a1 N (0 : Int32) M (fun (a5 : Int32) (M4 : Mem) => some (true, M4))
set_option maxHeartbeats 4000000 in
set_option maxRecDepth 100000 in
theorem c_M_isRepeated (l : Launch) (N : Nat) {w : Wc} {rr : Nat} (hw : WM w rr) (k0 : Nat) (hk0 : 12 ≤ k0) (rb : Int32 → Int32 → Mem → Option (Bool × Mem)) (hrb : ∀ (a1 : Int32) (a2 : Int32) (M : Mem), Ct QZ l y_M_areDone b_M_areDone 6 (some .boolean) (rmL k0) w [.ref (wad w 145), .int a1, .int a2] M (rb a1 a2 M)) (a1 : Int32) (M : Mem) : Ct QZ l y_M_isRepeated b_M_isRepeated 3 (some .boolean) (rmL (k0 + 1)) w [.ref (wad w 145), .int a1] M (f_M_isRepeated N rr rb a1 M) := by
  refine Ct.go (by decide) (L := [(0, .ref (wad w 145)), (1, .int a1)]) rfl (Nat.le_of_ble_eq_true rfl) (fun p0 e s m args below meth c g hret => ?_)
  unfold f_M_isRepeated
  refine G_iconst g (pc := 0) (0 : Int32) d_M_isRepeated_0 rfl ?_
  refine G_istore_n g (pc := 1) _ d_M_isRepeated_1 rfl (Nat.le_of_ble_eq_true rfl) rfl ?_
  refine G_sub [1, 2, 0] _ rfl ?_
  refine G_loop (F := lp_M_isRepeated_2 N rr rb a1) 2 44 (fun (v2 : Int32) => [(0, .ref (wad w 145)), (1, .int a1), (2, .int v2)]) (fun (v2 : Int32) => [(0, .ref (wad w 145)), (1, .int a1), (2, .int v2)]) (fun _ _ _ => rfl) (fun a5 M4 => ?_) (fun k2 hk2 Nl2 ih2 v2 M => ?_) N (0 : Int32) M
  · refine G_iconst g (pc := 44) (1 : Int32) d_M_isRepeated_44 rfl ?_
    exact G_zreturn g (pc := 45) true rfl hret (Nat.le_of_ble_eq_true rfl) (Nat.le_of_ble_eq_true rfl) d_M_isRepeated_45
  · show Go p0 l e _ s m args below meth c w _ _ _ _ (lp_M_isRepeated_2 N rr rb a1 (Nl2 + 1) v2 M k2) 2 _ _ M
    unfold lp_M_isRepeated_2
    refine G_iload_n g (pc := 2) 2 d_M_isRepeated_2 rfl rfl ?_
    refine G_aload_n g (pc := 3) 0 d_M_isRepeated_3 rfl rfl ?_
    refine G_getR g (pc := 4) fa_M_41 (hw.mm 145 (Nat.le_of_ble_eq_true rfl) (Nat.le_of_ble_eq_true rfl)) (hw.k (zk145 rr)) (hw.r (zr145_24 rr)) d_M_isRepeated_4 ?_
    refine G_iconst g (pc := 7) (3 : Int32) d_M_isRepeated_7 rfl ?_
    refine G_iload_n g (pc := 8) 1 d_M_isRepeated_8 rfl rfl ?_
    refine G_imul g (pc := 9) d_M_isRepeated_9 ?_
    refine G_iconst g (pc := 10) (1 : Int32) d_M_isRepeated_10 rfl ?_
    refine G_iadd g (pc := 11) d_M_isRepeated_11 ?_
    refine G_iald g (pc := 12) (nn := 60) (hw.mm 154 (Nat.le_of_ble_eq_true rfl) (Nat.le_of_ble_eq_true rfl)) (hw.k (zk154 rr)) (hw.n (zn154 rr)) d_M_isRepeated_12 ?_
    refine G_icmp_ge g (pc := 13) 44 d_M_isRepeated_13 (by decide) ?_ ?_
    · refine G_aload_n g (pc := 16) 0 d_M_isRepeated_16 rfl rfl ?_
      refine G_iload_n g (pc := 17) 1 d_M_isRepeated_17 rfl rfl ?_
      refine G_iconst g (pc := 18) (1 : Int32) d_M_isRepeated_18 rfl ?_
      refine G_iadd g (pc := 19) d_M_isRepeated_19 ?_
      refine G_aload_n g (pc := 20) 0 d_M_isRepeated_20 rfl rfl ?_
      refine G_getR g (pc := 21) fa_M_41 (hw.mm 145 (Nat.le_of_ble_eq_true rfl) (Nat.le_of_ble_eq_true rfl)) (hw.k (zk145 rr)) (hw.r (zr145_24 rr)) d_M_isRepeated_21 ?_
      refine G_iconst g (pc := 24) (3 : Int32) d_M_isRepeated_24 rfl ?_
      refine G_iload_n g (pc := 25) 1 d_M_isRepeated_25 rfl rfl ?_
      refine G_imul g (pc := 26) d_M_isRepeated_26 ?_
      refine G_iconst g (pc := 27) (2 : Int32) d_M_isRepeated_27 rfl ?_
      refine G_iadd g (pc := 28) d_M_isRepeated_28 ?_
      refine G_iald g (pc := 29) (nn := 60) (hw.mm 154 (Nat.le_of_ble_eq_true rfl) (Nat.le_of_ble_eq_true rfl)) (hw.k (zk154 rr)) (hw.n (zn154 rr)) d_M_isRepeated_29 ?_
      refine G_cVZ g (pc := 30) (As := [.int (a1 + (1 : Int32)), .int (M 154 (((3 : Int32) * a1) + (2 : Int32)).toNatClampNeg)]) (st := []) cc_M_349 (hrb (a1 + (1 : Int32)) (M 154 (((3 : Int32) * a1) + (2 : Int32)).toNatClampNeg) M) (hw.mm 145 (Nat.le_of_ble_eq_true rfl) (Nat.le_of_ble_eq_true rfl)) (hw.k (zk145 rr)) rfl (by decide) rfl (room_le (by omega) (by decide)) ⟨(Nat.le_of_ble_eq_true rfl), (Nat.le_of_ble_eq_true rfl)⟩ (Nat.le_of_ble_eq_true rfl) d_M_isRepeated_30 (fun x1 M2 => ?_)
      refine G_if_neB g (pc := 33) 38 d_M_isRepeated_33 (by decide) ?_ ?_
      · refine G_nmX (v2 + (1 : Int32)) (fun x3 e_x3 => ?_)
        refine G_iinc g (pc := 38) x3 _ 2 d_M_isRepeated_38 rfl e_x3.symm (Nat.le_of_ble_eq_true rfl) rfl ?_
        refine G_goto g (pc := 41) 2 d_M_isRepeated_41 (by decide) ?_
        refine G_sub [1, 2, 0] _ rfl ?_
        exact ih2 x3 M2
      · refine G_iconst g (pc := 36) (0 : Int32) d_M_isRepeated_36 rfl ?_
        exact G_zreturn g (pc := 37) false rfl hret (Nat.le_of_ble_eq_true rfl) (Nat.le_of_ble_eq_true rfl) d_M_isRepeated_37
    · refine G_sub [0, 1, 2] _ rfl ?_
      exact hk2 v2 M

theorem d_M_areDone_0 : decode b_M_areDone 0 = .ok (.iload_n 1, 1) := by decide +kernel
theorem d_M_areDone_1 : decode b_M_areDone 1 = .ok (.istore_n 3, 1) := by decide +kernel
theorem d_M_areDone_2 : decode b_M_areDone 2 = .ok (.iload_n 3, 1) := by decide +kernel
theorem d_M_areDone_3 : decode b_M_areDone 3 = .ok (.iload_n 2, 1) := by decide +kernel
theorem d_M_areDone_4 : decode b_M_areDone 4 = .ok (.if_icmp .ge 97, 3) := by decide +kernel
theorem d_M_areDone_7 : decode b_M_areDone 7 = .ok (.iconst 3, 1) := by decide +kernel
theorem d_M_areDone_8 : decode b_M_areDone 8 = .ok (.iload_n 3, 1) := by decide +kernel
theorem d_M_areDone_9 : decode b_M_areDone 9 = .ok (.imul, 1) := by decide +kernel
theorem d_M_areDone_10 : decode b_M_areDone 10 = .ok (.istore 4, 2) := by decide +kernel
theorem d_M_areDone_12 : decode b_M_areDone 12 = .ok (.aload_n 0, 1) := by decide +kernel
theorem d_M_areDone_13 : decode b_M_areDone 13 = .ok (.getfield 41, 3) := by decide +kernel
theorem d_M_areDone_16 : decode b_M_areDone 16 = .ok (.iload 4, 2) := by decide +kernel
theorem d_M_areDone_18 : decode b_M_areDone 18 = .ok (.iaload, 1) := by decide +kernel
theorem d_M_areDone_19 : decode b_M_areDone 19 = .ok (.bipush 8, 2) := by decide +kernel
theorem d_M_areDone_21 : decode b_M_areDone 21 = .ok (.if_icmp .ne 7, 3) := by decide +kernel
theorem d_M_areDone_24 : decode b_M_areDone 24 = .ok (.iconst 1, 1) := by decide +kernel
theorem d_M_areDone_25 : decode b_M_areDone 25 = .ok (.goto 4, 3) := by decide +kernel
theorem d_M_areDone_28 : decode b_M_areDone 28 = .ok (.iconst 0, 1) := by decide +kernel
theorem d_M_areDone_29 : decode b_M_areDone 29 = .ok (.istore 5, 2) := by decide +kernel
theorem d_M_areDone_31 : decode b_M_areDone 31 = .ok (.iload 5, 2) := by decide +kernel
theorem d_M_areDone_33 : decode b_M_areDone 33 = .ok (.ifCond .eq 14, 3) := by decide +kernel
theorem d_M_areDone_36 : decode b_M_areDone 36 = .ok (.aload_n 0, 1) := by decide +kernel
theorem d_M_areDone_37 : decode b_M_areDone 37 = .ok (.iload_n 3, 1) := by decide +kernel
theorem d_M_areDone_38 : decode b_M_areDone 38 = .ok (.invokevirtual 353, 3) := by decide +kernel
theorem d_M_areDone_41 : decode b_M_areDone 41 = .ok (.ifCond .ne 17, 3) := by decide +kernel
theorem d_M_areDone_44 : decode b_M_areDone 44 = .ok (.goto 12, 3) := by decide +kernel
theorem d_M_areDone_47 : decode b_M_areDone 47 = .ok (.aload_n 0, 1) := by decide +kernel
theorem d_M_areDone_48 : decode b_M_areDone 48 = .ok (.iload 4, 2) := by decide +kernel
theorem d_M_areDone_50 : decode b_M_areDone 50 = .ok (.invokevirtual 356, 3) := by decide +kernel
theorem d_M_areDone_53 : decode b_M_areDone 53 = .ok (.ifCond .eq 5, 3) := by decide +kernel
theorem d_M_areDone_56 : decode b_M_areDone 56 = .ok (.iconst 0, 1) := by decide +kernel
theorem d_M_areDone_57 : decode b_M_areDone 57 = .ok (.ireturn, 1) := by decide +kernel
theorem d_M_areDone_58 : decode b_M_areDone 58 = .ok (.aload_n 0, 1) := by decide +kernel
theorem d_M_areDone_59 : decode b_M_areDone 59 = .ok (.dup, 1) := by decide +kernel
theorem d_M_areDone_60 : decode b_M_areDone 60 = .ok (.getfield 359, 3) := by decide +kernel
theorem d_M_areDone_63 : decode b_M_areDone 63 = .ok (.iload 5, 2) := by decide +kernel
theorem d_M_areDone_65 : decode b_M_areDone 65 = .ok (.ifCond .eq 7, 3) := by decide +kernel
theorem d_M_areDone_68 : decode b_M_areDone 68 = .ok (.iconst 0, 1) := by decide +kernel
theorem d_M_areDone_69 : decode b_M_areDone 69 = .ok (.goto 4, 3) := by decide +kernel
theorem d_M_areDone_72 : decode b_M_areDone 72 = .ok (.iconst 1, 1) := by decide +kernel
theorem d_M_areDone_73 : decode b_M_areDone 73 = .ok (.iadd, 1) := by decide +kernel
theorem d_M_areDone_74 : decode b_M_areDone 74 = .ok (.putfield 359, 3) := by decide +kernel
theorem d_M_areDone_77 : decode b_M_areDone 77 = .ok (.iload 5, 2) := by decide +kernel
theorem d_M_areDone_79 : decode b_M_areDone 79 = .ok (.ifCond .eq 15, 3) := by decide +kernel
theorem d_M_areDone_82 : decode b_M_areDone 82 = .ok (.aload_n 0, 1) := by decide +kernel
theorem d_M_areDone_83 : decode b_M_areDone 83 = .ok (.getfield 41, 3) := by decide +kernel
theorem d_M_areDone_86 : decode b_M_areDone 86 = .ok (.iload 4, 2) := by decide +kernel
theorem d_M_areDone_88 : decode b_M_areDone 88 = .ok (.iconst 2, 1) := by decide +kernel
theorem d_M_areDone_89 : decode b_M_areDone 89 = .ok (.iadd, 1) := by decide +kernel
theorem d_M_areDone_90 : decode b_M_areDone 90 = .ok (.iaload, 1) := by decide +kernel
theorem d_M_areDone_91 : decode b_M_areDone 91 = .ok (.goto 6, 3) := by decide +kernel
theorem d_M_areDone_94 : decode b_M_areDone 94 = .ok (.iload_n 3, 1) := by decide +kernel
theorem d_M_areDone_95 : decode b_M_areDone 95 = .ok (.iconst 1, 1) := by decide +kernel
theorem d_M_areDone_96 : decode b_M_areDone 96 = .ok (.iadd, 1) := by decide +kernel
theorem d_M_areDone_97 : decode b_M_areDone 97 = .ok (.istore_n 3, 1) := by decide +kernel
theorem d_M_areDone_98 : decode b_M_areDone 98 = .ok (.goto (-96), 3) := by decide +kernel
theorem d_M_areDone_101 : decode b_M_areDone 101 = .ok (.iconst 1, 1) := by decide +kernel
theorem d_M_areDone_102 : decode b_M_areDone 102 = .ok (.ireturn, 1) := by decide +kernel
theorem cc_M_353 : CV "KiteLoggerModel" 353 y_M_isRepeated b_M_isRepeated 3 (some .boolean) 1 := ⟨TT_in (i := 1964) (by decide +kernel) (by decide +kernel), TT_in (i := 1966) (by decide +kernel) (by decide +kernel), TT_in (i := 85) (by decide +kernel) (by decide +kernel), TT_in (i := 100) (by decide +kernel) (by decide +kernel), TT_in (i := 1967) (by decide +kernel) (by decide +kernel), ⟨by decide +kernel, by decide +kernel, by decide +kernel⟩⟩
theorem cc_M_356 : CV "KiteLoggerModel" 356 y_M_does b_M_does 3 (some .int) 1 := ⟨TT_in (i := 1968) (by decide +kernel) (by decide +kernel), TT_in (i := 1970) (by decide +kernel) (by decide +kernel), TT_in (i := 86) (by decide +kernel) (by decide +kernel), TT_in (i := 100) (by decide +kernel) (by decide +kernel), TT_in (i := 1971) (by decide +kernel) (by decide +kernel), ⟨by decide +kernel, by decide +kernel, by decide +kernel⟩⟩
def lp_M_areDone_2 (N0 rr : Nat) (rb : Int32 → Int32 → Mem → Option (Bool × Mem)) (a1 : Int32) (a2 : Int32)  : Nat → Int32 → Mem → (Int32 → Mem → Option (Bool × Mem)) → Option (Bool × Mem)
  | 0, _, _, _ => none
  | N + 1, v2, M, k2 => if v2 < a2 then (nm ((3 : Int32) * v2) fun (x1 : Int32) => grd (inB x1 60) (jn (fun (x3 : Bool) (M4 : Mem) => if x3 = true then (bnd (f_M_isRepeated N0 rr rb v2 M4) fun (x5 : Bool) (M6 : Mem) => if x5 = true then (jn (fun (x8 : Bool) (M9 : Mem) => nm (put M9 145 27 ((M6 145 27) + (b2i x8))) fun (M10 : Mem) => if x3 = true then (grd (inB (x1 + (2 : Int32)) 60) (nm (M10 154 (x1 + (2 : Int32)).toNatClampNeg) fun (x11 : Int32) => lp_M_areDone_2 N0 rr rb a1 a2 N x11 M10 k2)) else (nm (v2 + (1 : Int32)) fun (x12 : Int32) => lp_M_areDone_2 N0 rr rb a1 a2 N x12 M10 k2)) (fun j7 => if x3 = true then (j7 false M6) else (j7 true M6))) else (some (false, M6))) else (bnd (f_M_does N0 rr x1 M4) fun (x13 : Int32) (M14 : Mem) => if x13 = 0 then (jn (fun (x16 : Bool) (M17 : Mem) => nm (put M17 145 27 ((M14 145 27) + (b2i x16))) fun (M18 : Mem) => if x3 = true then (grd (inB (x1 + (2 : Int32)) 60) (nm (M18 154 (x1 + (2 : Int32)).toNatClampNeg) fun (x19 : Int32) => lp_M_areDone_2 N0 rr rb a1 a2 N x19 M18 k2)) else (nm (v2 + (1 : Int32)) fun (x20 : Int32) => lp_M_areDone_2 N0 rr rb a1 a2 N x20 M18 k2)) (fun j15 => if x3 = true then (j15 false M14) else (j15 true M14))) else (some (false, M14)))) (fun j2 => if (M 154 x1.toNatClampNeg) = (8 : Int32) then (j2 true M) else (j2 false M)))) else (k2 v2 M)
def fs_M_areDone (N : Nat) (rr : Nat) (rb : Int32 → Int32 → Mem → Option (Bool × Mem)) (a1 : Int32) (a2 : Int32) (M : Mem) : Option (Bool × Mem) :=
  lp_M_areDone_2 N rr rb a1 a2 N a1 M (fun (a22 : Int32) (M21 : Mem) => some (true, M21))
set_option maxHeartbeats 4000000 in
set_option maxRecDepth 100000 in
theorem cs_M_areDone (l : Launch) (N : Nat) {w : Wc} {rr : Nat} (hw : WM w rr) (k0 : Nat) (hk0 : 12 ≤ k0) (rb : Int32 → Int32 → Mem → Option (Bool × Mem)) (hrb : ∀ (a1 : Int32) (a2 : Int32) (M : Mem), Ct QZ l y_M_areDone b_M_areDone 6 (some .boolean) (rmL k0) w [.ref (wad w 145), .int a1, .int a2] M (rb a1 a2 M)) (a1 : Int32) (a2 : Int32) (M : Mem) : Ct QZ l y_M_areDone b_M_areDone 6 (some .boolean) (rmL (k0 + 2)) w [.ref (wad w 145), .int a1, .int a2] M (fs_M_areDone N rr rb a1 a2 M) := by
  refine Ct.go (by decide) (L := [(0, .ref (wad w 145)), (1, .int a1), (2, .int a2)]) rfl (Nat.le_of_ble_eq_true rfl) (fun p0 e s m args below meth c g hret => ?_)
  unfold fs_M_areDone
  refine G_iload_n g (pc := 0) 1 d_M_areDone_0 rfl rfl ?_
  refine G_istore_n g (pc := 1) _ d_M_areDone_1 rfl (Nat.le_of_ble_eq_true rfl) rfl ?_
  refine G_sub [1, 2, 3, 0] _ rfl ?_
  refine G_loop (F := lp_M_areDone_2 N rr rb a1 a2) 2 101 (fun (v2 : Int32) => [(0, .ref (wad w 145)), (1, .int a1), (2, .int a2), (3, .int v2)]) (fun (v2 : Int32) => [(0, .ref (wad w 145)), (1, .int a1), (2, .int a2), (3, .int v2)]) (fun _ _ _ => rfl) (fun a22 M21 => ?_) (fun k2 hk2 Nl2 ih2 v2 M => ?_) N a1 M
  · refine G_iconst g (pc := 101) (1 : Int32) d_M_areDone_101 rfl ?_
    exact G_zreturn g (pc := 102) true rfl hret (Nat.le_of_ble_eq_true rfl) (Nat.le_of_ble_eq_true rfl) d_M_areDone_102
  · show Go p0 l e _ s m args below meth c w _ _ _ _ (lp_M_areDone_2 N rr rb a1 a2 (Nl2 + 1) v2 M k2) 2 _ _ M
    unfold lp_M_areDone_2
    refine G_iload_n g (pc := 2) 3 d_M_areDone_2 rfl rfl ?_
    refine G_iload_n g (pc := 3) 2 d_M_areDone_3 rfl rfl ?_
    refine G_icmp_ge g (pc := 4) 101 d_M_areDone_4 (by decide) ?_ ?_
    · refine G_iconst g (pc := 7) (3 : Int32) d_M_areDone_7 rfl ?_
      refine G_iload_n g (pc := 8) 3 d_M_areDone_8 rfl rfl ?_
      refine G_imul g (pc := 9) d_M_areDone_9 ?_
      refine G_nmI (fun x1 => ?_)
      refine G_istore g (pc := 10) _ d_M_areDone_10 (Nat.le_of_ble_eq_true rfl) rfl ?_
      refine G_aload_n g (pc := 12) 1 d_M_areDone_12 rfl rfl ?_
      refine G_getR g (pc := 13) fa_M_41 (hw.mm 145 (Nat.le_of_ble_eq_true rfl) (Nat.le_of_ble_eq_true rfl)) (hw.k (zk145 rr)) (hw.r (zr145_24 rr)) d_M_areDone_13 ?_
      refine G_iload g (pc := 16) 0 d_M_areDone_16 rfl ?_
      refine G_iald g (pc := 18) (nn := 60) (hw.mm 154 (Nat.le_of_ble_eq_true rfl) (Nat.le_of_ble_eq_true rfl)) (hw.k (zk154 rr)) (hw.n (zn154 rr)) d_M_areDone_18 ?_
      refine G_bipush g (pc := 19) (8 : Int32) d_M_areDone_19 rfl ?_
      refine G_jn 29 (fun _ => [(4, .int x1), (0, .ref (wad w 145)), (1, .int a1), (2, .int a2), (3, .int v2)]) (fun (x3 : Bool) => [.int (b2i x3)]) (fun x3 M4 => ?_) (fun j2 hj2 => ?_)
      · refine G_istore g (pc := 29) _ d_M_areDone_29 (Nat.le_of_ble_eq_true rfl) rfl ?_
        refine G_iload g (pc := 31) 0 d_M_areDone_31 rfl ?_
        refine G_if_eqB g (pc := 33) 47 d_M_areDone_33 (by decide) ?_ ?_
        · refine G_aload_n g (pc := 36) 2 d_M_areDone_36 rfl rfl ?_
          refine G_iload_n g (pc := 37) 5 d_M_areDone_37 rfl rfl ?_
          refine G_cVZ g (pc := 38) (As := [.int v2]) (st := []) cc_M_353 (c_M_isRepeated l N hw k0 hk0 rb hrb v2 M4) (hw.mm 145 (Nat.le_of_ble_eq_true rfl) (Nat.le_of_ble_eq_true rfl)) (hw.k (zk145 rr)) rfl (by decide) rfl (room_le (by omega) (by decide)) ⟨(Nat.le_of_ble_eq_true rfl), (Nat.le_of_ble_eq_true rfl)⟩ (Nat.le_of_ble_eq_true rfl) d_M_areDone_38 (fun x5 M6 => ?_)
          refine G_if_neB g (pc := 41) 58 d_M_areDone_41 (by decide) ?_ ?_
          · refine G_aload_n g (pc := 58) 2 d_M_areDone_58 rfl rfl ?_
            refine G_dup g (pc := 59) d_M_areDone_59 rfl ?_
            refine G_get g (pc := 60) fa_M_359 (hw.mm 145 (Nat.le_of_ble_eq_true rfl) (Nat.le_of_ble_eq_true rfl)) (hw.k (zk145 rr)) d_M_areDone_60 ?_
            refine G_iload g (pc := 63) 0 d_M_areDone_63 rfl ?_
            refine G_jn 73 (fun _ => [(5, .int (b2i x3)), (4, .int x1), (0, .ref (wad w 145)), (1, .int a1), (2, .int a2), (3, .int v2)]) (fun (x8 : Bool) => [.int (b2i x8), .int (M6 145 27), .ref (wad w 145)]) (fun x8 M9 => ?_) (fun j7 hj7 => ?_)
            · refine G_iadd g (pc := 73) d_M_areDone_73 ?_
              refine G_put g (pc := 74) fa_M_359 fw_10_27 rfl rfl (hw.mm 145 (Nat.le_of_ble_eq_true rfl) (Nat.le_of_ble_eq_true rfl)) (hw.k (zk145 rr)) d_M_areDone_74 ?_
              refine G_nmM (fun M10 => ?_)
              refine G_iload g (pc := 77) 0 d_M_areDone_77 rfl ?_
              refine G_if_eqB g (pc := 79) 94 d_M_areDone_79 (by decide) ?_ ?_
              · refine G_aload_n g (pc := 82) 2 d_M_areDone_82 rfl rfl ?_
                refine G_getR g (pc := 83) fa_M_41 (hw.mm 145 (Nat.le_of_ble_eq_true rfl) (Nat.le_of_ble_eq_true rfl)) (hw.k (zk145 rr)) (hw.r (zr145_24 rr)) d_M_areDone_83 ?_
                refine G_iload g (pc := 86) 1 d_M_areDone_86 rfl ?_
                refine G_iconst g (pc := 88) (2 : Int32) d_M_areDone_88 rfl ?_
                refine G_iadd g (pc := 89) d_M_areDone_89 ?_
                refine G_iald g (pc := 90) (nn := 60) (hw.mm 154 (Nat.le_of_ble_eq_true rfl) (Nat.le_of_ble_eq_true rfl)) (hw.k (zk154 rr)) (hw.n (zn154 rr)) d_M_areDone_90 ?_
                refine G_goto g (pc := 91) 97 d_M_areDone_91 (by decide) ?_
                refine G_nmI (fun x11 => ?_)
                refine G_istore_n g (pc := 97) _ d_M_areDone_97 rfl (Nat.le_of_ble_eq_true rfl) rfl ?_
                refine G_goto g (pc := 98) 2 d_M_areDone_98 (by decide) ?_
                refine G_sub [3, 4, 5, 0] _ rfl ?_
                exact ih2 x11 M10
              · refine G_iload_n g (pc := 94) 5 d_M_areDone_94 rfl rfl ?_
                refine G_iconst g (pc := 95) (1 : Int32) d_M_areDone_95 rfl ?_
                refine G_iadd g (pc := 96) d_M_areDone_96 ?_
                refine G_nmI (fun x12 => ?_)
                refine G_istore_n g (pc := 97) _ d_M_areDone_97 rfl (Nat.le_of_ble_eq_true rfl) rfl ?_
                refine G_goto g (pc := 98) 2 d_M_areDone_98 (by decide) ?_
                refine G_sub [3, 4, 5, 0] _ rfl ?_
                exact ih2 x12 M10
            · refine G_if_eqB g (pc := 65) 72 d_M_areDone_65 (by decide) ?_ ?_
              · refine G_iconst g (pc := 68) (0 : Int32) d_M_areDone_68 rfl ?_
                refine G_goto g (pc := 69) 73 d_M_areDone_69 (by decide) ?_
                refine G_sub [0, 1, 2, 3, 4, 5] _ rfl ?_
                exact hj7 false M6
              · refine G_iconst g (pc := 72) (1 : Int32) d_M_areDone_72 rfl ?_
                refine G_sub [0, 1, 2, 3, 4, 5] _ rfl ?_
                exact hj7 true M6
          · refine G_goto g (pc := 44) 56 d_M_areDone_44 (by decide) ?_
            refine G_iconst g (pc := 56) (0 : Int32) d_M_areDone_56 rfl ?_
            exact G_zreturn g (pc := 57) false rfl hret (Nat.le_of_ble_eq_true rfl) (Nat.le_of_ble_eq_true rfl) d_M_areDone_57
        · refine G_aload_n g (pc := 47) 2 d_M_areDone_47 rfl rfl ?_
          refine G_iload g (pc := 48) 1 d_M_areDone_48 rfl ?_
          refine G_cVI g (pc := 50) (As := [.int x1]) (st := []) cc_M_356 (c_M_does l N hw x1 M4) (hw.mm 145 (Nat.le_of_ble_eq_true rfl) (Nat.le_of_ble_eq_true rfl)) (hw.k (zk145 rr)) rfl (by decide) rfl (room_le (by omega) (by decide)) ⟨(Nat.le_of_ble_eq_true rfl), (Nat.le_of_ble_eq_true rfl)⟩ (Nat.le_of_ble_eq_true rfl) d_M_areDone_50 (fun x13 M14 => ?_)
          refine G_if_eq g (pc := 53) 58 d_M_areDone_53 (by decide) ?_ ?_
          · refine G_aload_n g (pc := 58) 2 d_M_areDone_58 rfl rfl ?_
            refine G_dup g (pc := 59) d_M_areDone_59 rfl ?_
            refine G_get g (pc := 60) fa_M_359 (hw.mm 145 (Nat.le_of_ble_eq_true rfl) (Nat.le_of_ble_eq_true rfl)) (hw.k (zk145 rr)) d_M_areDone_60 ?_
            refine G_iload g (pc := 63) 0 d_M_areDone_63 rfl ?_
            refine G_jn 73 (fun _ => [(5, .int (b2i x3)), (4, .int x1), (0, .ref (wad w 145)), (1, .int a1), (2, .int a2), (3, .int v2)]) (fun (x16 : Bool) => [.int (b2i x16), .int (M14 145 27), .ref (wad w 145)]) (fun x16 M17 => ?_) (fun j15 hj15 => ?_)
            · refine G_iadd g (pc := 73) d_M_areDone_73 ?_
              refine G_put g (pc := 74) fa_M_359 fw_10_27 rfl rfl (hw.mm 145 (Nat.le_of_ble_eq_true rfl) (Nat.le_of_ble_eq_true rfl)) (hw.k (zk145 rr)) d_M_areDone_74 ?_
              refine G_nmM (fun M18 => ?_)
              refine G_iload g (pc := 77) 0 d_M_areDone_77 rfl ?_
              refine G_if_eqB g (pc := 79) 94 d_M_areDone_79 (by decide) ?_ ?_
              · refine G_aload_n g (pc := 82) 2 d_M_areDone_82 rfl rfl ?_
                refine G_getR g (pc := 83) fa_M_41 (hw.mm 145 (Nat.le_of_ble_eq_true rfl) (Nat.le_of_ble_eq_true rfl)) (hw.k (zk145 rr)) (hw.r (zr145_24 rr)) d_M_areDone_83 ?_
                refine G_iload g (pc := 86) 1 d_M_areDone_86 rfl ?_
                refine G_iconst g (pc := 88) (2 : Int32) d_M_areDone_88 rfl ?_
                refine G_iadd g (pc := 89) d_M_areDone_89 ?_
                refine G_iald g (pc := 90) (nn := 60) (hw.mm 154 (Nat.le_of_ble_eq_true rfl) (Nat.le_of_ble_eq_true rfl)) (hw.k (zk154 rr)) (hw.n (zn154 rr)) d_M_areDone_90 ?_
                refine G_goto g (pc := 91) 97 d_M_areDone_91 (by decide) ?_
                refine G_nmI (fun x19 => ?_)
                refine G_istore_n g (pc := 97) _ d_M_areDone_97 rfl (Nat.le_of_ble_eq_true rfl) rfl ?_
                refine G_goto g (pc := 98) 2 d_M_areDone_98 (by decide) ?_
                refine G_sub [3, 4, 5, 0] _ rfl ?_
                exact ih2 x19 M18
              · refine G_iload_n g (pc := 94) 5 d_M_areDone_94 rfl rfl ?_
                refine G_iconst g (pc := 95) (1 : Int32) d_M_areDone_95 rfl ?_
                refine G_iadd g (pc := 96) d_M_areDone_96 ?_
                refine G_nmI (fun x20 => ?_)
                refine G_istore_n g (pc := 97) _ d_M_areDone_97 rfl (Nat.le_of_ble_eq_true rfl) rfl ?_
                refine G_goto g (pc := 98) 2 d_M_areDone_98 (by decide) ?_
                refine G_sub [3, 4, 5, 0] _ rfl ?_
                exact ih2 x20 M18
            · refine G_if_eqB g (pc := 65) 72 d_M_areDone_65 (by decide) ?_ ?_
              · refine G_iconst g (pc := 68) (0 : Int32) d_M_areDone_68 rfl ?_
                refine G_goto g (pc := 69) 73 d_M_areDone_69 (by decide) ?_
                refine G_sub [0, 1, 2, 3, 4, 5] _ rfl ?_
                exact hj15 false M14
              · refine G_iconst g (pc := 72) (1 : Int32) d_M_areDone_72 rfl ?_
                refine G_sub [0, 1, 2, 3, 4, 5] _ rfl ?_
                exact hj15 true M14
          · refine G_iconst g (pc := 56) (0 : Int32) d_M_areDone_56 rfl ?_
            exact G_zreturn g (pc := 57) false rfl hret (Nat.le_of_ble_eq_true rfl) (Nat.le_of_ble_eq_true rfl) d_M_areDone_57
      · refine G_icmp_ne g (pc := 21) 28 d_M_areDone_21 (by decide) ?_ ?_
        · refine G_iconst g (pc := 24) (1 : Int32) d_M_areDone_24 rfl ?_
          refine G_goto g (pc := 25) 29 d_M_areDone_25 (by decide) ?_
          refine G_sub [0, 1, 2, 3, 4] _ rfl ?_
          exact hj2 true M
        · refine G_iconst g (pc := 28) (0 : Int32) d_M_areDone_28 rfl ?_
          refine G_sub [0, 1, 2, 3, 4] _ rfl ?_
          exact hj2 false M
    · refine G_sub [0, 1, 2, 3] _ rfl ?_
      exact hk2 v2 M
def f_M_areDone (N : Nat) (rr : Nat) : Nat → Int32 → Int32 → Mem → Option (Bool × Mem)
  | 0, _, _, _ => none
  | D + 1, a1, a2, M => fs_M_areDone N rr (f_M_areDone N rr D) a1 a2 M
theorem c_M_areDone (l : Launch) (N : Nat) {w : Wc} {rr : Nat} (hw : WM w rr) : ∀ (D : Nat) (a1 : Int32) (a2 : Int32) (M : Mem), Ct QZ l y_M_areDone b_M_areDone 6 (some .boolean) (rmL (12 + 2 * D)) w [.ref (wad w 145), .int a1, .int a2] M (f_M_areDone N rr D a1 a2 M)
  | 0, _, _, _ => fun _ hr => nomatch hr
  | D + 1, a1, a2, M => cs_M_areDone l N hw (12 + 2 * D) (by omega) (f_M_areDone N rr D) (c_M_areDone l N hw D) a1 a2 M

theorem d_M_runScript_0 : decode b_M_runScript 0 = .ok (.aload_n 0, 1) := by decide +kernel
theorem d_M_runScript_1 : decode b_M_runScript 1 = .ok (.aload_n 0, 1) := by decide +kernel
theorem d_M_runScript_2 : decode b_M_runScript 2 = .ok (.iload_n 1, 1) := by decide +kernel
theorem d_M_runScript_3 : decode b_M_runScript 3 = .ok (.invokevirtual 320, 3) := by decide +kernel
theorem d_M_runScript_6 : decode b_M_runScript 6 = .ok (.invokevirtual 87, 3) := by decide +kernel
theorem d_M_runScript_9 : decode b_M_runScript 9 = .ok (.ifCond .eq 5, 3) := by decide +kernel
theorem d_M_runScript_12 : decode b_M_runScript 12 = .ok (.iconst 0, 1) := by decide +kernel
theorem d_M_runScript_13 : decode b_M_runScript 13 = .ok (.ireturn, 1) := by decide +kernel
theorem d_M_runScript_14 : decode b_M_runScript 14 = .ok (.aload_n 0, 1) := by decide +kernel
theorem d_M_runScript_15 : decode b_M_runScript 15 = .ok (.iconst 0, 1) := by decide +kernel
theorem d_M_runScript_16 : decode b_M_runScript 16 = .ok (.putfield 336, 3) := by decide +kernel
theorem d_M_runScript_19 : decode b_M_runScript 19 = .ok (.aload_n 0, 1) := by decide +kernel
theorem d_M_runScript_20 : decode b_M_runScript 20 = .ok (.iload_n 1, 1) := by decide +kernel
theorem d_M_runScript_21 : decode b_M_runScript 21 = .ok (.invokevirtual 323, 3) := by decide +kernel
theorem d_M_runScript_24 : decode b_M_runScript 24 = .ok (.aload_n 0, 1) := by decide +kernel
theorem d_M_runScript_25 : decode b_M_runScript 25 = .ok (.getfield 259, 3) := by decide +kernel
theorem d_M_runScript_28 : decode b_M_runScript 28 = .ok (.ifCond .ne 18, 3) := by decide +kernel
theorem d_M_runScript_31 : decode b_M_runScript 31 = .ok (.aload_n 0, 1) := by decide +kernel
theorem d_M_runScript_32 : decode b_M_runScript 32 = .ok (.getfield 250, 3) := by decide +kernel
theorem d_M_runScript_35 : decode b_M_runScript 35 = .ok (.ifCond .eq 11, 3) := by decide +kernel
theorem d_M_runScript_38 : decode b_M_runScript 38 = .ok (.aload_n 0, 1) := by decide +kernel
theorem d_M_runScript_39 : decode b_M_runScript 39 = .ok (.iconst 0, 1) := by decide +kernel
theorem d_M_runScript_40 : decode b_M_runScript 40 = .ok (.invokevirtual 333, 3) := by decide +kernel
theorem d_M_runScript_43 : decode b_M_runScript 43 = .ok (.goto (-19), 3) := by decide +kernel
theorem d_M_runScript_46 : decode b_M_runScript 46 = .ok (.aload_n 0, 1) := by decide +kernel
theorem d_M_runScript_47 : decode b_M_runScript 47 = .ok (.invokevirtual 329, 3) := by decide +kernel
theorem d_M_runScript_50 : decode b_M_runScript 50 = .ok (.ifCond .eq 5, 3) := by decide +kernel
theorem d_M_runScript_53 : decode b_M_runScript 53 = .ok (.iconst (-1), 1) := by decide +kernel
theorem d_M_runScript_54 : decode b_M_runScript 54 = .ok (.ireturn, 1) := by decide +kernel
theorem d_M_runScript_55 : decode b_M_runScript 55 = .ok (.aload_n 0, 1) := by decide +kernel
theorem d_M_runScript_56 : decode b_M_runScript 56 = .ok (.invokevirtual 192, 3) := by decide +kernel
theorem d_M_runScript_59 : decode b_M_runScript 59 = .ok (.aload_n 0, 1) := by decide +kernel
theorem d_M_runScript_60 : decode b_M_runScript 60 = .ok (.invokevirtual 189, 3) := by decide +kernel
theorem d_M_runScript_63 : decode b_M_runScript 63 = .ok (.aload_n 0, 1) := by decide +kernel
theorem d_M_runScript_64 : decode b_M_runScript 64 = .ok (.iconst 0, 1) := by decide +kernel
theorem d_M_runScript_65 : decode b_M_runScript 65 = .ok (.putfield 359, 3) := by decide +kernel
theorem d_M_runScript_68 : decode b_M_runScript 68 = .ok (.aload_n 0, 1) := by decide +kernel
theorem d_M_runScript_69 : decode b_M_runScript 69 = .ok (.iconst 0, 1) := by decide +kernel
theorem d_M_runScript_70 : decode b_M_runScript 70 = .ok (.aload_n 0, 1) := by decide +kernel
theorem d_M_runScript_71 : decode b_M_runScript 71 = .ok (.getfield 336, 3) := by decide +kernel
theorem d_M_runScript_74 : decode b_M_runScript 74 = .ok (.invokevirtual 349, 3) := by decide +kernel
theorem d_M_runScript_77 : decode b_M_runScript 77 = .ok (.istore_n 2, 1) := by decide +kernel
theorem d_M_runScript_78 : decode b_M_runScript 78 = .ok (.aload_n 0, 1) := by decide +kernel
theorem d_M_runScript_79 : decode b_M_runScript 79 = .ok (.getfield 359, 3) := by decide +kernel
theorem d_M_runScript_82 : decode b_M_runScript 82 = .ok (.ireturn, 1) := by decide +kernel
theorem cc_M_320 : CV "KiteLoggerModel" 320 y_M_isLength b_M_isLength 2 (some .boolean) 1 := ⟨TT_in (i := 1862) (by decide +kernel) (by decide +kernel), TT_in (i := 1864) (by decide +kernel) (by decide +kernel), TT_in (i := 62) (by decide +kernel) (by decide +kernel), TT_in (i := 100) (by decide +kernel) (by decide +kernel), TT_in (i := 1865) (by decide +kernel) (by decide +kernel), ⟨by decide +kernel, by decide +kernel, by decide +kernel⟩⟩
theorem cc_M_323 : CV "KiteLoggerModel" 323 y_M_startText b_M_startText 2 none 1 := ⟨TT_in (i := 1866) (by decide +kernel) (by decide +kernel), TT_in (i := 1868) (by decide +kernel) (by decide +kernel), TT_in (i := 63) (by decide +kernel) (by decide +kernel), TT_in (i := 100) (by decide +kernel) (by decide +kernel), TT_in (i := 1869) (by decide +kernel) (by decide +kernel), ⟨by decide +kernel, by decide +kernel, by decide +kernel⟩⟩
theorem cc_M_329 : CV "KiteLoggerModel" 329 y_M_isFaulty b_M_isFaulty 1 (some .boolean) 0 := ⟨TT_in (i := 1932) (by decide +kernel) (by decide +kernel), TT_in (i := 1934) (by decide +kernel) (by decide +kernel), TT_in (i := 78) (by decide +kernel) (by decide +kernel), TT_in (i := 100) (by decide +kernel) (by decide +kernel), TT_in (i := 1935) (by decide +kernel) (by decide +kernel), ⟨by decide +kernel, by decide +kernel, by decide +kernel⟩⟩
def lp_M_runScript_24 (N0 rr : Nat) (a1 : Int32)  : Nat → Unit → Mem → (Unit → Mem → Option (Int32 × Mem)) → Option (Int32 × Mem)
  | 0, _, _, _ => none
  | N + 1, v24, M, k24 => if (M 145 20) = 0 then (if (M 145 19) = 0 then (k24 () M) else (bndM (f_M_readOrder N0 rr 4 (0 : Int32) M) fun (M9 : Mem) => lp_M_runScript_24 N0 rr a1 N () M9 k24)) else (k24 () M)
def f_M_runScript (N : Nat) (rr : Nat) (a1 : Int32) (M : Mem) : Option (Int32 × Mem) :=
  bnd (f_M_isLength a1 M) fun (x1 : Bool) (M2 : Mem) => bnd (f_M_lacks x1 M2) fun (x3 : Bool) (M4 : Mem) => if x3 = true then (some ((0 : Int32), M4)) else (nm (put M4 145 26 (0 : Int32)) fun (M5 : Mem) => bndM (f_M_startText N rr a1 M5) fun (M7 : Mem) => lp_M_runScript_24 N rr a1 N () M7 (fun (a11 : Unit) (M10 : Mem) => bnd (f_M_isFaulty M10) fun (x12 : Bool) (M13 : Mem) => if x12 = true then (some ((-1 : Int32), M13)) else (bndM (f_M_keep M13) fun (M15 : Mem) => bndM (f_M_record N rr M15) fun (M17 : Mem) => nm (put M17 145 27 (0 : Int32)) fun (M18 : Mem) => bnd (f_M_areDone N rr 4 (0 : Int32) (M18 145 26) M18) fun (x19 : Bool) (M20 : Mem) => some (M20 145 27, M20))))
set_option maxHeartbeats 4000000 in
set_option maxRecDepth 100000 in
theorem c_M_runScript (l : Launch) (N : Nat) {w : Wc} {rr : Nat} (hw : WM w rr) (a1 : Int32) (M : Mem) : Ct QI l y_M_runScript b_M_runScript 3 (some .int) (rmL 21) w [.ref (wad w 145), .int a1] M (f_M_runScript N rr a1 M) := by
  refine Ct.go (by decide) (L := [(0, .ref (wad w 145)), (1, .int a1)]) rfl (Nat.le_of_ble_eq_true rfl) (fun p0 e s m args below meth c g hret => ?_)
  unfold f_M_runScript
  refine G_aload_n g (pc := 0) 0 d_M_runScript_0 rfl rfl ?_
  refine G_aload_n g (pc := 1) 0 d_M_runScript_1 rfl rfl ?_
  refine G_iload_n g (pc := 2) 1 d_M_runScript_2 rfl rfl ?_
  refine G_cVZ g (pc := 3) (As := [.int a1]) (st := [.ref (wad w 145)]) cc_M_320 (c_M_isLength l hw a1 M) (hw.mm 145 (Nat.le_of_ble_eq_true rfl) (Nat.le_of_ble_eq_true rfl)) (hw.k (zk145 rr)) rfl (by decide) rfl ⟨(Nat.le_of_ble_eq_true rfl), (Nat.le_of_ble_eq_true rfl)⟩ ⟨(Nat.le_of_ble_eq_true rfl), (Nat.le_of_ble_eq_true rfl)⟩ (Nat.le_of_ble_eq_true rfl) d_M_runScript_3 (fun x1 M2 => ?_)
  refine G_cVZ g (pc := 6) (As := [.int (b2i x1)]) (st := []) cc_M_87 (c_M_lacks l hw x1 M2) (hw.mm 145 (Nat.le_of_ble_eq_true rfl) (Nat.le_of_ble_eq_true rfl)) (hw.k (zk145 rr)) rfl (by decide) rfl ⟨(Nat.le_of_ble_eq_true rfl), (Nat.le_of_ble_eq_true rfl)⟩ ⟨(Nat.le_of_ble_eq_true rfl), (Nat.le_of_ble_eq_true rfl)⟩ (Nat.le_of_ble_eq_true rfl) d_M_runScript_6 (fun x3 M4 => ?_)
  refine G_if_eqB g (pc := 9) 14 d_M_runScript_9 (by decide) ?_ ?_
  · refine G_iconst g (pc := 12) (0 : Int32) d_M_runScript_12 rfl ?_
    exact G_ireturn g (pc := 13) hret (Nat.le_of_ble_eq_true rfl) (Nat.le_of_ble_eq_true rfl) d_M_runScript_13
  · refine G_aload_n g (pc := 14) 0 d_M_runScript_14 rfl rfl ?_
    refine G_iconst g (pc := 15) (0 : Int32) d_M_runScript_15 rfl ?_
    refine G_put g (pc := 16) fa_M_336 fw_10_26 rfl rfl (hw.mm 145 (Nat.le_of_ble_eq_true rfl) (Nat.le_of_ble_eq_true rfl)) (hw.k (zk145 rr)) d_M_runScript_16 ?_
    refine G_nmM (fun M5 => ?_)
    refine G_aload_n g (pc := 19) 0 d_M_runScript_19 rfl rfl ?_
    refine G_iload_n g (pc := 20) 1 d_M_runScript_20 rfl rfl ?_
    refine G_cVV g (pc := 21) (As := [.int a1]) (st := []) cc_M_323 (c_M_startText l N hw a1 M5) (hw.mm 145 (Nat.le_of_ble_eq_true rfl) (Nat.le_of_ble_eq_true rfl)) (hw.k (zk145 rr)) rfl (by decide) rfl ⟨(Nat.le_of_ble_eq_true rfl), (Nat.le_of_ble_eq_true rfl)⟩ ⟨(Nat.le_of_ble_eq_true rfl), (Nat.le_of_ble_eq_true rfl)⟩ (Nat.le_of_ble_eq_true rfl) d_M_runScript_21 (fun M7 => ?_)
    refine G_sub [0, 1] _ rfl ?_
    refine G_loop (F := lp_M_runScript_24 N rr a1) 24 46 (fun (v24 : Unit) => [(0, .ref (wad w 145)), (1, .int a1)]) (fun (v24 : Unit) => [(0, .ref (wad w 145)), (1, .int a1)]) (fun _ _ _ => rfl) (fun a11 M10 => ?_) (fun k24 hk24 Nl24 ih24 v24 M => ?_) N () M7
    · refine G_aload_n g (pc := 46) 0 d_M_runScript_46 rfl rfl ?_
      refine G_cVZ g (pc := 47) (As := []) (st := []) cc_M_329 (c_M_isFaulty l hw M10) (hw.mm 145 (Nat.le_of_ble_eq_true rfl) (Nat.le_of_ble_eq_true rfl)) (hw.k (zk145 rr)) rfl (by decide) rfl ⟨(Nat.le_of_ble_eq_true rfl), (Nat.le_of_ble_eq_true rfl)⟩ ⟨(Nat.le_of_ble_eq_true rfl), (Nat.le_of_ble_eq_true rfl)⟩ (Nat.le_of_ble_eq_true rfl) d_M_runScript_47 (fun x12 M13 => ?_)
      refine G_if_eqB g (pc := 50) 55 d_M_runScript_50 (by decide) ?_ ?_
      · refine G_iconst g (pc := 53) (-1 : Int32) d_M_runScript_53 rfl ?_
        exact G_ireturn g (pc := 54) hret (Nat.le_of_ble_eq_true rfl) (Nat.le_of_ble_eq_true rfl) d_M_runScript_54
      · refine G_aload_n g (pc := 55) 0 d_M_runScript_55 rfl rfl ?_
        refine G_cVV g (pc := 56) (As := []) (st := []) cc_M_192 (c_M_keep l hw M13) (hw.mm 145 (Nat.le_of_ble_eq_true rfl) (Nat.le_of_ble_eq_true rfl)) (hw.k (zk145 rr)) rfl (by decide) rfl ⟨(Nat.le_of_ble_eq_true rfl), (Nat.le_of_ble_eq_true rfl)⟩ ⟨(Nat.le_of_ble_eq_true rfl), (Nat.le_of_ble_eq_true rfl)⟩ (Nat.le_of_ble_eq_true rfl) d_M_runScript_56 (fun M15 => ?_)
        refine G_aload_n g (pc := 59) 0 d_M_runScript_59 rfl rfl ?_
        refine G_cVV g (pc := 60) (As := []) (st := []) cc_M_189 (c_M_record l N hw M15) (hw.mm 145 (Nat.le_of_ble_eq_true rfl) (Nat.le_of_ble_eq_true rfl)) (hw.k (zk145 rr)) rfl (by decide) rfl ⟨(Nat.le_of_ble_eq_true rfl), (Nat.le_of_ble_eq_true rfl)⟩ ⟨(Nat.le_of_ble_eq_true rfl), (Nat.le_of_ble_eq_true rfl)⟩ (Nat.le_of_ble_eq_true rfl) d_M_runScript_60 (fun M17 => ?_)
        refine G_aload_n g (pc := 63) 0 d_M_runScript_63 rfl rfl ?_
        refine G_iconst g (pc := 64) (0 : Int32) d_M_runScript_64 rfl ?_
        refine G_put g (pc := 65) fa_M_359 fw_10_27 rfl rfl (hw.mm 145 (Nat.le_of_ble_eq_true rfl) (Nat.le_of_ble_eq_true rfl)) (hw.k (zk145 rr)) d_M_runScript_65 ?_
        refine G_nmM (fun M18 => ?_)
        refine G_aload_n g (pc := 68) 0 d_M_runScript_68 rfl rfl ?_
        refine G_iconst g (pc := 69) (0 : Int32) d_M_runScript_69 rfl ?_
        refine G_aload_n g (pc := 70) 0 d_M_runScript_70 rfl rfl ?_
        refine G_get g (pc := 71) fa_M_336 (hw.mm 145 (Nat.le_of_ble_eq_true rfl) (Nat.le_of_ble_eq_true rfl)) (hw.k (zk145 rr)) d_M_runScript_71 ?_
        refine G_cVZ g (pc := 74) (As := [.int (0 : Int32), .int (M18 145 26)]) (st := []) cc_M_349 (c_M_areDone l N hw 4 (0 : Int32) (M18 145 26) M18) (hw.mm 145 (Nat.le_of_ble_eq_true rfl) (Nat.le_of_ble_eq_true rfl)) (hw.k (zk145 rr)) rfl (by decide) rfl ⟨(Nat.le_of_ble_eq_true rfl), (Nat.le_of_ble_eq_true rfl)⟩ ⟨(Nat.le_of_ble_eq_true rfl), (Nat.le_of_ble_eq_true rfl)⟩ (Nat.le_of_ble_eq_true rfl) d_M_runScript_74 (fun x19 M20 => ?_)
        refine G_istore_n g (pc := 77) _ d_M_runScript_77 rfl (Nat.le_of_ble_eq_true rfl) rfl ?_
        refine G_aload_n g (pc := 78) 1 d_M_runScript_78 rfl rfl ?_
        refine G_get g (pc := 79) fa_M_359 (hw.mm 145 (Nat.le_of_ble_eq_true rfl) (Nat.le_of_ble_eq_true rfl)) (hw.k (zk145 rr)) d_M_runScript_79 ?_
        exact G_ireturn g (pc := 82) hret (Nat.le_of_ble_eq_true rfl) (Nat.le_of_ble_eq_true rfl) d_M_runScript_82
    · show Go p0 l e _ s m args below meth c w _ _ _ _ (lp_M_runScript_24 N rr a1 (Nl24 + 1) v24 M k24) 24 _ _ M
      unfold lp_M_runScript_24
      refine G_aload_n g (pc := 24) 0 d_M_runScript_24 rfl rfl ?_
      refine G_get g (pc := 25) fa_M_259 (hw.mm 145 (Nat.le_of_ble_eq_true rfl) (Nat.le_of_ble_eq_true rfl)) (hw.k (zk145 rr)) d_M_runScript_25 ?_
      refine G_if_ne g (pc := 28) 46 d_M_runScript_28 (by decide) ?_ ?_
      · refine G_aload_n g (pc := 31) 0 d_M_runScript_31 rfl rfl ?_
        refine G_get g (pc := 32) fa_M_250 (hw.mm 145 (Nat.le_of_ble_eq_true rfl) (Nat.le_of_ble_eq_true rfl)) (hw.k (zk145 rr)) d_M_runScript_32 ?_
        refine G_if_eq g (pc := 35) 46 d_M_runScript_35 (by decide) ?_ ?_
        · refine G_sub [0, 1] _ rfl ?_
          exact hk24 () M
        · refine G_aload_n g (pc := 38) 0 d_M_runScript_38 rfl rfl ?_
          refine G_iconst g (pc := 39) (0 : Int32) d_M_runScript_39 rfl ?_
          refine G_cVV g (pc := 40) (As := [.int (0 : Int32)]) (st := []) cc_M_333 (c_M_readOrder l N hw 4 (0 : Int32) M) (hw.mm 145 (Nat.le_of_ble_eq_true rfl) (Nat.le_of_ble_eq_true rfl)) (hw.k (zk145 rr)) rfl (by decide) rfl ⟨(Nat.le_of_ble_eq_true rfl), (Nat.le_of_ble_eq_true rfl)⟩ ⟨(Nat.le_of_ble_eq_true rfl), (Nat.le_of_ble_eq_true rfl)⟩ (Nat.le_of_ble_eq_true rfl) d_M_runScript_40 (fun M9 => ?_)
          refine G_goto g (pc := 43) 24 d_M_runScript_43 (by decide) ?_
          refine G_sub [0, 1] _ rfl ?_
          exact ih24 () M9
      · refine G_sub [0, 1] _ rfl ?_
        exact hk24 () M
