theorem d_G_launchObstacle_0 : decode b_G_launchObstacle 0 = .ok (.aload_n 0, 1) := by decide +kernel
theorem d_G_launchObstacle_1 : decode b_G_launchObstacle 1 = .ok (.getfield 33, 3) := by decide +kernel
theorem d_G_launchObstacle_4 : decode b_G_launchObstacle 4 = .ok (.invokevirtual 232, 3) := by decide +kernel
theorem d_G_launchObstacle_7 : decode b_G_launchObstacle 7 = .ok (.ireturn, 1) := by decide +kernel
theorem cc_G_232 : CV "KiteLogger" 232 y_T_obstacle b_T_obstacle 1 (some .int) 0 := ⟨TT_in (i := 924) (by decide +kernel) (by decide +kernel), TT_in (i := 925) (by decide +kernel) (by decide +kernel), TT_in (i := 926) (by decide +kernel) (by decide +kernel), TT_in (i := 24) (by decide +kernel) (by decide +kernel), TT_in (i := 927) (by decide +kernel) (by decide +kernel), ⟨by decide +kernel, by decide +kernel, by decide +kernel⟩⟩
def f_G_launchObstacle  (M : Mem) : Option (Int32 × Mem) :=
  bnd (f_T_obstacle 10 M) fun (x1 : Int32) (M2 : Mem) => some (x1, M2)
set_option maxHeartbeats 4000000 in
set_option maxRecDepth 100000 in
theorem c_G_launchObstacle (l : Launch) {w : Wc} {rr : Nat} (hw : WK w rr)  (M : Mem) : Ct QI l y_G_launchObstacle b_G_launchObstacle 1 (some .int) (rmL 3) w [.ref (wad w 0)] M (f_G_launchObstacle  M) := by
  refine Ct.go (by decide) (L := [(0, .ref (wad w 0))]) rfl (Nat.le_of_ble_eq_true rfl) (fun p0 e s m args below meth c g hret => ?_)
  unfold f_G_launchObstacle
  refine G_aload_n g (pc := 0) 0 d_G_launchObstacle_0 rfl rfl ?_
  refine G_getR g (pc := 1) fa_G_33 (hw.m 0 (Nat.le_of_ble_eq_true rfl)) (hw.k (Nat.le_of_ble_eq_true rfl) (zk0 rr)) (hw.r (Nat.le_of_ble_eq_true rfl) (zr0_3 rr)) d_G_launchObstacle_1 ?_
  refine G_cVI g (pc := 4) (As := []) (st := []) cc_G_232 (c_T_obstacle l hw 10 (List.elem_iff.mp (rfl : List.elem 10 stL = true)) M) (hw.m 10 (Nat.le_of_ble_eq_true rfl)) (hw.k (Nat.le_of_ble_eq_true rfl) (zk10 rr)) rfl (by decide) rfl ⟨(Nat.le_of_ble_eq_true rfl), (Nat.le_of_ble_eq_true rfl)⟩ ⟨(Nat.le_of_ble_eq_true rfl), (Nat.le_of_ble_eq_true rfl)⟩ (Nat.le_of_ble_eq_true rfl) d_G_launchObstacle_4 (fun x1 M2 => ?_)
  exact G_ireturn g (pc := 7) hret (Nat.le_of_ble_eq_true rfl) (Nat.le_of_ble_eq_true rfl) d_G_launchObstacle_7

theorem d_G_heightAfter_0 : decode b_G_heightAfter 0 = .ok (.iload_n 1, 1) := by decide +kernel
theorem d_G_heightAfter_1 : decode b_G_heightAfter 1 = .ok (.iconst 0, 1) := by decide +kernel
theorem d_G_heightAfter_2 : decode b_G_heightAfter 2 = .ok (.bipush 100, 2) := by decide +kernel
theorem d_G_heightAfter_4 : decode b_G_heightAfter 4 = .ok (.invokestatic 103, 3) := by decide +kernel
theorem d_G_heightAfter_7 : decode b_G_heightAfter 7 = .ok (.aload_n 0, 1) := by decide +kernel
theorem d_G_heightAfter_8 : decode b_G_heightAfter 8 = .ok (.getfield 40, 3) := by decide +kernel
theorem d_G_heightAfter_11 : decode b_G_heightAfter 11 = .ok (.aload_n 0, 1) := by decide +kernel
theorem d_G_heightAfter_12 : decode b_G_heightAfter 12 = .ok (.getfield 33, 3) := by decide +kernel
theorem d_G_heightAfter_15 : decode b_G_heightAfter 15 = .ok (.getfield 137, 3) := by decide +kernel
theorem d_G_heightAfter_18 : decode b_G_heightAfter 18 = .ok (.invokevirtual 235, 3) := by decide +kernel
theorem d_G_heightAfter_21 : decode b_G_heightAfter 21 = .ok (.iconst 0, 1) := by decide +kernel
theorem d_G_heightAfter_22 : decode b_G_heightAfter 22 = .ok (.istore_n 2, 1) := by decide +kernel
theorem d_G_heightAfter_23 : decode b_G_heightAfter 23 = .ok (.iload_n 2, 1) := by decide +kernel
theorem d_G_heightAfter_24 : decode b_G_heightAfter 24 = .ok (.iload_n 1, 1) := by decide +kernel
theorem d_G_heightAfter_25 : decode b_G_heightAfter 25 = .ok (.if_icmp .ge 47, 3) := by decide +kernel
theorem d_G_heightAfter_28 : decode b_G_heightAfter 28 = .ok (.aload_n 0, 1) := by decide +kernel
theorem d_G_heightAfter_29 : decode b_G_heightAfter 29 = .ok (.getfield 33, 3) := by decide +kernel
theorem d_G_heightAfter_32 : decode b_G_heightAfter 32 = .ok (.getfield 100, 3) := by decide +kernel
theorem d_G_heightAfter_35 : decode b_G_heightAfter 35 = .ok (.iload_n 2, 1) := by decide +kernel
theorem d_G_heightAfter_36 : decode b_G_heightAfter 36 = .ok (.iadd, 1) := by decide +kernel
theorem d_G_heightAfter_37 : decode b_G_heightAfter 37 = .ok (.sipush 10000, 3) := by decide +kernel
theorem d_G_heightAfter_40 : decode b_G_heightAfter 40 = .ok (.if_icmp .ge 32, 3) := by decide +kernel
theorem d_G_heightAfter_43 : decode b_G_heightAfter 43 = .ok (.aload_n 0, 1) := by decide +kernel
theorem d_G_heightAfter_44 : decode b_G_heightAfter 44 = .ok (.getfield 40, 3) := by decide +kernel
theorem d_G_heightAfter_47 : decode b_G_heightAfter 47 = .ok (.aload_n 0, 1) := by decide +kernel
theorem d_G_heightAfter_48 : decode b_G_heightAfter 48 = .ok (.getfield 33, 3) := by decide +kernel
theorem d_G_heightAfter_51 : decode b_G_heightAfter 51 = .ok (.aload_n 0, 1) := by decide +kernel
theorem d_G_heightAfter_52 : decode b_G_heightAfter 52 = .ok (.getfield 33, 3) := by decide +kernel
theorem d_G_heightAfter_55 : decode b_G_heightAfter 55 = .ok (.getfield 100, 3) := by decide +kernel
theorem d_G_heightAfter_58 : decode b_G_heightAfter 58 = .ok (.iload_n 2, 1) := by decide +kernel
theorem d_G_heightAfter_59 : decode b_G_heightAfter 59 = .ok (.iadd, 1) := by decide +kernel
theorem d_G_heightAfter_60 : decode b_G_heightAfter 60 = .ok (.invokevirtual 107, 3) := by decide +kernel
theorem d_G_heightAfter_63 : decode b_G_heightAfter 63 = .ok (.invokevirtual 239, 3) := by decide +kernel
theorem d_G_heightAfter_66 : decode b_G_heightAfter 66 = .ok (.iinc 2 1, 3) := by decide +kernel
theorem d_G_heightAfter_69 : decode b_G_heightAfter 69 = .ok (.goto (-46), 3) := by decide +kernel
theorem d_G_heightAfter_72 : decode b_G_heightAfter 72 = .ok (.aload_n 0, 1) := by decide +kernel
theorem d_G_heightAfter_73 : decode b_G_heightAfter 73 = .ok (.getfield 40, 3) := by decide +kernel
theorem d_G_heightAfter_76 : decode b_G_heightAfter 76 = .ok (.getfield 143, 3) := by decide +kernel
theorem d_G_heightAfter_79 : decode b_G_heightAfter 79 = .ok (.ireturn, 1) := by decide +kernel
theorem cc_G_235 : CV "KiteLogger" 235 y_K_copyFrom b_K_copyFrom 2 none 1 := ⟨TT_in (i := 949) (by decide +kernel) (by decide +kernel), TT_in (i := 639) (by decide +kernel) (by decide +kernel), TT_in (i := 640) (by decide +kernel) (by decide +kernel), TT_in (i := 25) (by decide +kernel) (by decide +kernel), TT_in (i := 641) (by decide +kernel) (by decide +kernel), ⟨by decide +kernel, by decide +kernel, by decide +kernel⟩⟩
theorem cc_G_239 : CV "KiteLogger" 239 y_K_passTick b_K_passTick 2 none 1 := ⟨TT_in (i := 950) (by decide +kernel) (by decide +kernel), TT_in (i := 951) (by decide +kernel) (by decide +kernel), TT_in (i := 952) (by decide +kernel) (by decide +kernel), TT_in (i := 25) (by decide +kernel) (by decide +kernel), TT_in (i := 953) (by decide +kernel) (by decide +kernel), ⟨by decide +kernel, by decide +kernel, by decide +kernel⟩⟩
def lp_G_heightAfter_23 (N0 rr : Nat) (a1 : Int32)  : Nat → Int32 → Mem → (Int32 → Mem → Option (Int32 × Mem)) → Option (Int32 × Mem)
  | 0, _, _, _ => none
  | N + 1, v23, M, k23 => if v23 < a1 then (if ((M 10 7) + v23) < (10000 : Int32) then (bnd (f_T_gustOf 10 ((M 10 7) + v23) M) fun (x5 : Int32) (M6 : Mem) => bndM (f_K_passTick 23 x5 M6) fun (M8 : Mem) => nm (v23 + (1 : Int32)) fun (x9 : Int32) => lp_G_heightAfter_23 N0 rr a1 N x9 M8 k23) else (k23 v23 M)) else (k23 v23 M)
def f_G_heightAfter (N : Nat) (rr : Nat) (a1 : Int32) (M : Mem) : Option (Int32 × Mem) :=
  bndM (f_G_refuseOutside a1 (0 : Int32) (100 : Int32) M) fun (M2 : Mem) => bndM (f_K_copyFrom 23 11 M2) fun (M4 : Mem) => lp_G_heightAfter_23 N rr a1 N (0 : Int32) M4 (fun (a11 : Int32) (M10 : Mem) => some (M10 23 1, M10))
set_option maxHeartbeats 4000000 in
set_option maxRecDepth 100000 in
theorem c_G_heightAfter (l : Launch) (N : Nat) {w : Wc} {rr : Nat} (hw : WK w rr) (a1 : Int32) (M : Mem) : Ct QI l y_G_heightAfter b_G_heightAfter 3 (some .int) (rmL 3) w [.ref (wad w 0), .int a1] M (f_G_heightAfter N rr a1 M) := by
  refine Ct.go (by decide) (L := [(0, .ref (wad w 0)), (1, .int a1)]) rfl (Nat.le_of_ble_eq_true rfl) (fun p0 e s m args below meth c g hret => ?_)
  unfold f_G_heightAfter
  refine G_iload_n g (pc := 0) 1 d_G_heightAfter_0 rfl rfl ?_
  refine G_iconst g (pc := 1) (0 : Int32) d_G_heightAfter_1 rfl ?_
  refine G_bipush g (pc := 2) (100 : Int32) d_G_heightAfter_2 rfl ?_
  refine G_cSV g (pc := 4) (As := [.int a1, .int (0 : Int32), .int (100 : Int32)]) (st := []) cc_G_103 (c_G_refuseOutside l hw a1 (0 : Int32) (100 : Int32) M) rfl ⟨(Nat.le_of_ble_eq_true rfl), (Nat.le_of_ble_eq_true rfl)⟩ ⟨(Nat.le_of_ble_eq_true rfl), (Nat.le_of_ble_eq_true rfl)⟩ (Nat.le_of_ble_eq_true rfl) d_G_heightAfter_4 (fun M2 => ?_)
  refine G_aload_n g (pc := 7) 0 d_G_heightAfter_7 rfl rfl ?_
  refine G_getR g (pc := 8) fa_G_40 (hw.m 0 (Nat.le_of_ble_eq_true rfl)) (hw.k (Nat.le_of_ble_eq_true rfl) (zk0 rr)) (hw.r (Nat.le_of_ble_eq_true rfl) (zr0_4 rr)) d_G_heightAfter_8 ?_
  refine G_aload_n g (pc := 11) 0 d_G_heightAfter_11 rfl rfl ?_
  refine G_getR g (pc := 12) fa_G_33 (hw.m 0 (Nat.le_of_ble_eq_true rfl)) (hw.k (Nat.le_of_ble_eq_true rfl) (zk0 rr)) (hw.r (Nat.le_of_ble_eq_true rfl) (zr0_3 rr)) d_G_heightAfter_12 ?_
  refine G_getRN g (pc := 15) fa_G_137 (hw.m 10 (Nat.le_of_ble_eq_true rfl)) (hw.k (Nat.le_of_ble_eq_true rfl) (zk10 rr)) (hw.r (Nat.le_of_ble_eq_true rfl) (zr10_0 rr)) d_G_heightAfter_15 ?_
  refine G_cVV g (pc := 18) (As := [.ref (wad w 11)]) (st := []) cc_G_235 (c_K_copyFrom l hw 23 (List.elem_iff.mp (rfl : List.elem 23 kiL = true)) 11 (List.elem_iff.mp (rfl : List.elem 11 kiL = true)) M2) (hw.m 23 (Nat.le_of_ble_eq_true rfl)) (hw.k (Nat.le_of_ble_eq_true rfl) (zk23 rr)) rfl (by decide) rfl ⟨(Nat.le_of_ble_eq_true rfl), (Nat.le_of_ble_eq_true rfl)⟩ ⟨(Nat.le_of_ble_eq_true rfl), (Nat.le_of_ble_eq_true rfl)⟩ (Nat.le_of_ble_eq_true rfl) d_G_heightAfter_18 (fun M4 => ?_)
  refine G_iconst g (pc := 21) (0 : Int32) d_G_heightAfter_21 rfl ?_
  refine G_istore_n g (pc := 22) _ d_G_heightAfter_22 rfl (Nat.le_of_ble_eq_true rfl) rfl ?_
  refine G_sub [1, 2, 0] _ rfl ?_
  refine G_loop (F := lp_G_heightAfter_23 N rr a1) 23 72 (fun (v23 : Int32) => [(0, .ref (wad w 0)), (1, .int a1), (2, .int v23)]) (fun (v23 : Int32) => [(0, .ref (wad w 0)), (1, .int a1), (2, .int v23)]) (fun _ _ _ => rfl) (fun a11 M10 => ?_) (fun k23 hk23 Nl23 ih23 v23 M => ?_) N (0 : Int32) M4
  · refine G_aload_n g (pc := 72) 0 d_G_heightAfter_72 rfl rfl ?_
    refine G_getR g (pc := 73) fa_G_40 (hw.m 0 (Nat.le_of_ble_eq_true rfl)) (hw.k (Nat.le_of_ble_eq_true rfl) (zk0 rr)) (hw.r (Nat.le_of_ble_eq_true rfl) (zr0_4 rr)) d_G_heightAfter_73 ?_
    refine G_getN g (pc := 76) fa_G_143 (hw.m 23 (Nat.le_of_ble_eq_true rfl)) (hw.k (Nat.le_of_ble_eq_true rfl) (zk23 rr)) d_G_heightAfter_76 ?_
    exact G_ireturn g (pc := 79) hret (Nat.le_of_ble_eq_true rfl) (Nat.le_of_ble_eq_true rfl) d_G_heightAfter_79
  · show Go p0 l e _ s m args below meth c w _ _ _ _ (lp_G_heightAfter_23 N rr a1 (Nl23 + 1) v23 M k23) 23 _ _ M
    unfold lp_G_heightAfter_23
    refine G_iload_n g (pc := 23) 2 d_G_heightAfter_23 rfl rfl ?_
    refine G_iload_n g (pc := 24) 1 d_G_heightAfter_24 rfl rfl ?_
    refine G_icmp_ge g (pc := 25) 72 d_G_heightAfter_25 (by decide) ?_ ?_
    · refine G_aload_n g (pc := 28) 0 d_G_heightAfter_28 rfl rfl ?_
      refine G_getR g (pc := 29) fa_G_33 (hw.m 0 (Nat.le_of_ble_eq_true rfl)) (hw.k (Nat.le_of_ble_eq_true rfl) (zk0 rr)) (hw.r (Nat.le_of_ble_eq_true rfl) (zr0_3 rr)) d_G_heightAfter_29 ?_
      refine G_getN g (pc := 32) fa_G_100 (hw.m 10 (Nat.le_of_ble_eq_true rfl)) (hw.k (Nat.le_of_ble_eq_true rfl) (zk10 rr)) d_G_heightAfter_32 ?_
      refine G_iload_n g (pc := 35) 2 d_G_heightAfter_35 rfl rfl ?_
      refine G_iadd g (pc := 36) d_G_heightAfter_36 ?_
      refine G_sipush g (pc := 37) (10000 : Int32) d_G_heightAfter_37 rfl ?_
      refine G_icmp_ge g (pc := 40) 72 d_G_heightAfter_40 (by decide) ?_ ?_
      · refine G_aload_n g (pc := 43) 0 d_G_heightAfter_43 rfl rfl ?_
        refine G_getR g (pc := 44) fa_G_40 (hw.m 0 (Nat.le_of_ble_eq_true rfl)) (hw.k (Nat.le_of_ble_eq_true rfl) (zk0 rr)) (hw.r (Nat.le_of_ble_eq_true rfl) (zr0_4 rr)) d_G_heightAfter_44 ?_
        refine G_aload_n g (pc := 47) 0 d_G_heightAfter_47 rfl rfl ?_
        refine G_getR g (pc := 48) fa_G_33 (hw.m 0 (Nat.le_of_ble_eq_true rfl)) (hw.k (Nat.le_of_ble_eq_true rfl) (zk0 rr)) (hw.r (Nat.le_of_ble_eq_true rfl) (zr0_3 rr)) d_G_heightAfter_48 ?_
        refine G_aload_n g (pc := 51) 0 d_G_heightAfter_51 rfl rfl ?_
        refine G_getR g (pc := 52) fa_G_33 (hw.m 0 (Nat.le_of_ble_eq_true rfl)) (hw.k (Nat.le_of_ble_eq_true rfl) (zk0 rr)) (hw.r (Nat.le_of_ble_eq_true rfl) (zr0_3 rr)) d_G_heightAfter_52 ?_
        refine G_getN g (pc := 55) fa_G_100 (hw.m 10 (Nat.le_of_ble_eq_true rfl)) (hw.k (Nat.le_of_ble_eq_true rfl) (zk10 rr)) d_G_heightAfter_55 ?_
        refine G_iload_n g (pc := 58) 2 d_G_heightAfter_58 rfl rfl ?_
        refine G_iadd g (pc := 59) d_G_heightAfter_59 ?_
        refine G_cVI g (pc := 60) (As := [.int ((M 10 7) + v23)]) (st := [.ref (wad w 23)]) cc_G_107 (c_T_gustOf l hw 10 (List.elem_iff.mp (rfl : List.elem 10 stL = true)) ((M 10 7) + v23) M) (hw.m 10 (Nat.le_of_ble_eq_true rfl)) (hw.k (Nat.le_of_ble_eq_true rfl) (zk10 rr)) rfl (by decide) rfl ⟨(Nat.le_of_ble_eq_true rfl), (Nat.le_of_ble_eq_true rfl)⟩ ⟨(Nat.le_of_ble_eq_true rfl), (Nat.le_of_ble_eq_true rfl)⟩ (Nat.le_of_ble_eq_true rfl) d_G_heightAfter_60 (fun x5 M6 => ?_)
        refine G_cVV g (pc := 63) (As := [.int x5]) (st := []) cc_G_239 (c_K_passTick l hw 23 (List.elem_iff.mp (rfl : List.elem 23 kiL = true)) x5 M6) (hw.m 23 (Nat.le_of_ble_eq_true rfl)) (hw.k (Nat.le_of_ble_eq_true rfl) (zk23 rr)) rfl (by decide) rfl ⟨(Nat.le_of_ble_eq_true rfl), (Nat.le_of_ble_eq_true rfl)⟩ ⟨(Nat.le_of_ble_eq_true rfl), (Nat.le_of_ble_eq_true rfl)⟩ (Nat.le_of_ble_eq_true rfl) d_G_heightAfter_63 (fun M8 => ?_)
        refine G_nmX (v23 + (1 : Int32)) (fun x9 e_x9 => ?_)
        refine G_iinc g (pc := 66) x9 _ 2 d_G_heightAfter_66 rfl e_x9.symm (Nat.le_of_ble_eq_true rfl) rfl ?_
        refine G_goto g (pc := 69) 23 d_G_heightAfter_69 (by decide) ?_
        refine G_sub [1, 2, 0] _ rfl ?_
        exact ih23 x9 M8
      · refine G_sub [0, 1, 2] _ rfl ?_
        exact hk23 v23 M
    · refine G_sub [0, 1, 2] _ rfl ?_
      exact hk23 v23 M

theorem d_G_ticksToSnap_0 : decode b_G_ticksToSnap 0 = .ok (.aload_n 0, 1) := by decide +kernel
theorem d_G_ticksToSnap_1 : decode b_G_ticksToSnap 1 = .ok (.getfield 33, 3) := by decide +kernel
theorem d_G_ticksToSnap_4 : decode b_G_ticksToSnap 4 = .ok (.getfield 137, 3) := by decide +kernel
theorem d_G_ticksToSnap_7 : decode b_G_ticksToSnap 7 = .ok (.getfield 140, 3) := by decide +kernel
theorem d_G_ticksToSnap_10 : decode b_G_ticksToSnap 10 = .ok (.iconst 1, 1) := by decide +kernel
theorem d_G_ticksToSnap_11 : decode b_G_ticksToSnap 11 = .ok (.if_icmp .eq 5, 3) := by decide +kernel
theorem d_G_ticksToSnap_14 : decode b_G_ticksToSnap 14 = .ok (.iconst (-1), 1) := by decide +kernel
theorem d_G_ticksToSnap_15 : decode b_G_ticksToSnap 15 = .ok (.ireturn, 1) := by decide +kernel
theorem d_G_ticksToSnap_16 : decode b_G_ticksToSnap 16 = .ok (.aload_n 0, 1) := by decide +kernel
theorem d_G_ticksToSnap_17 : decode b_G_ticksToSnap 17 = .ok (.getfield 40, 3) := by decide +kernel
theorem d_G_ticksToSnap_20 : decode b_G_ticksToSnap 20 = .ok (.aload_n 0, 1) := by decide +kernel
theorem d_G_ticksToSnap_21 : decode b_G_ticksToSnap 21 = .ok (.getfield 33, 3) := by decide +kernel
theorem d_G_ticksToSnap_24 : decode b_G_ticksToSnap 24 = .ok (.getfield 137, 3) := by decide +kernel
theorem d_G_ticksToSnap_27 : decode b_G_ticksToSnap 27 = .ok (.invokevirtual 235, 3) := by decide +kernel
theorem d_G_ticksToSnap_30 : decode b_G_ticksToSnap 30 = .ok (.iconst 0, 1) := by decide +kernel
theorem d_G_ticksToSnap_31 : decode b_G_ticksToSnap 31 = .ok (.istore_n 1, 1) := by decide +kernel
theorem d_G_ticksToSnap_32 : decode b_G_ticksToSnap 32 = .ok (.iload_n 1, 1) := by decide +kernel
theorem d_G_ticksToSnap_33 : decode b_G_ticksToSnap 33 = .ok (.sipush 200, 3) := by decide +kernel
theorem d_G_ticksToSnap_36 : decode b_G_ticksToSnap 36 = .ok (.if_icmp .ge 62, 3) := by decide +kernel
theorem d_G_ticksToSnap_39 : decode b_G_ticksToSnap 39 = .ok (.aload_n 0, 1) := by decide +kernel
theorem d_G_ticksToSnap_40 : decode b_G_ticksToSnap 40 = .ok (.getfield 33, 3) := by decide +kernel
theorem d_G_ticksToSnap_43 : decode b_G_ticksToSnap 43 = .ok (.getfield 100, 3) := by decide +kernel
theorem d_G_ticksToSnap_46 : decode b_G_ticksToSnap 46 = .ok (.iload_n 1, 1) := by decide +kernel
theorem d_G_ticksToSnap_47 : decode b_G_ticksToSnap 47 = .ok (.iadd, 1) := by decide +kernel
theorem d_G_ticksToSnap_48 : decode b_G_ticksToSnap 48 = .ok (.sipush 10000, 3) := by decide +kernel
theorem d_G_ticksToSnap_51 : decode b_G_ticksToSnap 51 = .ok (.if_icmp .ge 47, 3) := by decide +kernel
theorem d_G_ticksToSnap_54 : decode b_G_ticksToSnap 54 = .ok (.aload_n 0, 1) := by decide +kernel
theorem d_G_ticksToSnap_55 : decode b_G_ticksToSnap 55 = .ok (.getfield 40, 3) := by decide +kernel
theorem d_G_ticksToSnap_58 : decode b_G_ticksToSnap 58 = .ok (.aload_n 0, 1) := by decide +kernel
theorem d_G_ticksToSnap_59 : decode b_G_ticksToSnap 59 = .ok (.getfield 33, 3) := by decide +kernel
theorem d_G_ticksToSnap_62 : decode b_G_ticksToSnap 62 = .ok (.aload_n 0, 1) := by decide +kernel
theorem d_G_ticksToSnap_63 : decode b_G_ticksToSnap 63 = .ok (.getfield 33, 3) := by decide +kernel
theorem d_G_ticksToSnap_66 : decode b_G_ticksToSnap 66 = .ok (.getfield 100, 3) := by decide +kernel
theorem d_G_ticksToSnap_69 : decode b_G_ticksToSnap 69 = .ok (.iload_n 1, 1) := by decide +kernel
theorem d_G_ticksToSnap_70 : decode b_G_ticksToSnap 70 = .ok (.iadd, 1) := by decide +kernel
theorem d_G_ticksToSnap_71 : decode b_G_ticksToSnap 71 = .ok (.invokevirtual 107, 3) := by decide +kernel
theorem d_G_ticksToSnap_74 : decode b_G_ticksToSnap 74 = .ok (.invokevirtual 239, 3) := by decide +kernel
theorem d_G_ticksToSnap_77 : decode b_G_ticksToSnap 77 = .ok (.aload_n 0, 1) := by decide +kernel
theorem d_G_ticksToSnap_78 : decode b_G_ticksToSnap 78 = .ok (.getfield 40, 3) := by decide +kernel
theorem d_G_ticksToSnap_81 : decode b_G_ticksToSnap 81 = .ok (.getfield 140, 3) := by decide +kernel
theorem d_G_ticksToSnap_84 : decode b_G_ticksToSnap 84 = .ok (.iconst 2, 1) := by decide +kernel
theorem d_G_ticksToSnap_85 : decode b_G_ticksToSnap 85 = .ok (.if_icmp .ne 7, 3) := by decide +kernel
theorem d_G_ticksToSnap_88 : decode b_G_ticksToSnap 88 = .ok (.iload_n 1, 1) := by decide +kernel
theorem d_G_ticksToSnap_89 : decode b_G_ticksToSnap 89 = .ok (.iconst 1, 1) := by decide +kernel
theorem d_G_ticksToSnap_90 : decode b_G_ticksToSnap 90 = .ok (.iadd, 1) := by decide +kernel
theorem d_G_ticksToSnap_91 : decode b_G_ticksToSnap 91 = .ok (.ireturn, 1) := by decide +kernel
theorem d_G_ticksToSnap_92 : decode b_G_ticksToSnap 92 = .ok (.iinc 1 1, 3) := by decide +kernel
theorem d_G_ticksToSnap_95 : decode b_G_ticksToSnap 95 = .ok (.goto (-63), 3) := by decide +kernel
theorem d_G_ticksToSnap_98 : decode b_G_ticksToSnap 98 = .ok (.iconst (-1), 1) := by decide +kernel
theorem d_G_ticksToSnap_99 : decode b_G_ticksToSnap 99 = .ok (.ireturn, 1) := by decide +kernel
def lp_G_ticksToSnap_32 (N0 rr : Nat)   : Nat → Int32 → Mem → (Int32 → Mem → Option (Int32 × Mem)) → Option (Int32 × Mem)
  | 0, _, _, _ => none
  | N + 1, v32, M, k32 => if v32 < (200 : Int32) then (if ((M 10 7) + v32) < (10000 : Int32) then (bnd (f_T_gustOf 10 ((M 10 7) + v32) M) fun (x3 : Int32) (M4 : Mem) => bndM (f_K_passTick 23 x3 M4) fun (M6 : Mem) => if (M6 23 0) = (2 : Int32) then (some (v32 + (1 : Int32), M6)) else (nm (v32 + (1 : Int32)) fun (x7 : Int32) => lp_G_ticksToSnap_32 N0 rr N x7 M6 k32)) else (k32 v32 M)) else (k32 v32 M)
def f_G_ticksToSnap (N : Nat) (rr : Nat) (M : Mem) : Option (Int32 × Mem) :=
  if (M 11 0) = (1 : Int32) then (bndM (f_K_copyFrom 23 11 M) fun (M2 : Mem) => lp_G_ticksToSnap_32 N rr N (0 : Int32) M2 (fun (a9 : Int32) (M8 : Mem) => some ((-1 : Int32), M8))) else (some ((-1 : Int32), M))
set_option maxHeartbeats 4000000 in
set_option maxRecDepth 100000 in
theorem c_G_ticksToSnap (l : Launch) (N : Nat) {w : Wc} {rr : Nat} (hw : WK w rr)  (M : Mem) : Ct QI l y_G_ticksToSnap b_G_ticksToSnap 2 (some .int) (rmL 3) w [.ref (wad w 0)] M (f_G_ticksToSnap N rr M) := by
  refine Ct.go (by decide) (L := [(0, .ref (wad w 0))]) rfl (Nat.le_of_ble_eq_true rfl) (fun p0 e s m args below meth c g hret => ?_)
  unfold f_G_ticksToSnap
  refine G_aload_n g (pc := 0) 0 d_G_ticksToSnap_0 rfl rfl ?_
  refine G_getR g (pc := 1) fa_G_33 (hw.m 0 (Nat.le_of_ble_eq_true rfl)) (hw.k (Nat.le_of_ble_eq_true rfl) (zk0 rr)) (hw.r (Nat.le_of_ble_eq_true rfl) (zr0_3 rr)) d_G_ticksToSnap_1 ?_
  refine G_getRN g (pc := 4) fa_G_137 (hw.m 10 (Nat.le_of_ble_eq_true rfl)) (hw.k (Nat.le_of_ble_eq_true rfl) (zk10 rr)) (hw.r (Nat.le_of_ble_eq_true rfl) (zr10_0 rr)) d_G_ticksToSnap_4 ?_
  refine G_getN g (pc := 7) fa_G_140 (hw.m 11 (Nat.le_of_ble_eq_true rfl)) (hw.k (Nat.le_of_ble_eq_true rfl) (zk11 rr)) d_G_ticksToSnap_7 ?_
  refine G_iconst g (pc := 10) (1 : Int32) d_G_ticksToSnap_10 rfl ?_
  refine G_icmp_eq g (pc := 11) 16 d_G_ticksToSnap_11 (by decide) ?_ ?_
  · refine G_aload_n g (pc := 16) 0 d_G_ticksToSnap_16 rfl rfl ?_
    refine G_getR g (pc := 17) fa_G_40 (hw.m 0 (Nat.le_of_ble_eq_true rfl)) (hw.k (Nat.le_of_ble_eq_true rfl) (zk0 rr)) (hw.r (Nat.le_of_ble_eq_true rfl) (zr0_4 rr)) d_G_ticksToSnap_17 ?_
    refine G_aload_n g (pc := 20) 0 d_G_ticksToSnap_20 rfl rfl ?_
    refine G_getR g (pc := 21) fa_G_33 (hw.m 0 (Nat.le_of_ble_eq_true rfl)) (hw.k (Nat.le_of_ble_eq_true rfl) (zk0 rr)) (hw.r (Nat.le_of_ble_eq_true rfl) (zr0_3 rr)) d_G_ticksToSnap_21 ?_
    refine G_getRN g (pc := 24) fa_G_137 (hw.m 10 (Nat.le_of_ble_eq_true rfl)) (hw.k (Nat.le_of_ble_eq_true rfl) (zk10 rr)) (hw.r (Nat.le_of_ble_eq_true rfl) (zr10_0 rr)) d_G_ticksToSnap_24 ?_
    refine G_cVV g (pc := 27) (As := [.ref (wad w 11)]) (st := []) cc_G_235 (c_K_copyFrom l hw 23 (List.elem_iff.mp (rfl : List.elem 23 kiL = true)) 11 (List.elem_iff.mp (rfl : List.elem 11 kiL = true)) M) (hw.m 23 (Nat.le_of_ble_eq_true rfl)) (hw.k (Nat.le_of_ble_eq_true rfl) (zk23 rr)) rfl (by decide) rfl ⟨(Nat.le_of_ble_eq_true rfl), (Nat.le_of_ble_eq_true rfl)⟩ ⟨(Nat.le_of_ble_eq_true rfl), (Nat.le_of_ble_eq_true rfl)⟩ (Nat.le_of_ble_eq_true rfl) d_G_ticksToSnap_27 (fun M2 => ?_)
    refine G_iconst g (pc := 30) (0 : Int32) d_G_ticksToSnap_30 rfl ?_
    refine G_istore_n g (pc := 31) _ d_G_ticksToSnap_31 rfl (Nat.le_of_ble_eq_true rfl) rfl ?_
    refine G_sub [1, 0] _ rfl ?_
    refine G_loop (F := lp_G_ticksToSnap_32 N rr) 32 98 (fun (v32 : Int32) => [(0, .ref (wad w 0)), (1, .int v32)]) (fun (v32 : Int32) => [(0, .ref (wad w 0)), (1, .int v32)]) (fun _ _ _ => rfl) (fun a9 M8 => ?_) (fun k32 hk32 Nl32 ih32 v32 M => ?_) N (0 : Int32) M2
    · refine G_iconst g (pc := 98) (-1 : Int32) d_G_ticksToSnap_98 rfl ?_
      exact G_ireturn g (pc := 99) hret (Nat.le_of_ble_eq_true rfl) (Nat.le_of_ble_eq_true rfl) d_G_ticksToSnap_99
    · show Go p0 l e _ s m args below meth c w _ _ _ _ (lp_G_ticksToSnap_32 N rr (Nl32 + 1) v32 M k32) 32 _ _ M
      unfold lp_G_ticksToSnap_32
      refine G_iload_n g (pc := 32) 1 d_G_ticksToSnap_32 rfl rfl ?_
      refine G_sipush g (pc := 33) (200 : Int32) d_G_ticksToSnap_33 rfl ?_
      refine G_icmp_ge g (pc := 36) 98 d_G_ticksToSnap_36 (by decide) ?_ ?_
      · refine G_aload_n g (pc := 39) 0 d_G_ticksToSnap_39 rfl rfl ?_
        refine G_getR g (pc := 40) fa_G_33 (hw.m 0 (Nat.le_of_ble_eq_true rfl)) (hw.k (Nat.le_of_ble_eq_true rfl) (zk0 rr)) (hw.r (Nat.le_of_ble_eq_true rfl) (zr0_3 rr)) d_G_ticksToSnap_40 ?_
        refine G_getN g (pc := 43) fa_G_100 (hw.m 10 (Nat.le_of_ble_eq_true rfl)) (hw.k (Nat.le_of_ble_eq_true rfl) (zk10 rr)) d_G_ticksToSnap_43 ?_
        refine G_iload_n g (pc := 46) 1 d_G_ticksToSnap_46 rfl rfl ?_
        refine G_iadd g (pc := 47) d_G_ticksToSnap_47 ?_
        refine G_sipush g (pc := 48) (10000 : Int32) d_G_ticksToSnap_48 rfl ?_
        refine G_icmp_ge g (pc := 51) 98 d_G_ticksToSnap_51 (by decide) ?_ ?_
        · refine G_aload_n g (pc := 54) 0 d_G_ticksToSnap_54 rfl rfl ?_
          refine G_getR g (pc := 55) fa_G_40 (hw.m 0 (Nat.le_of_ble_eq_true rfl)) (hw.k (Nat.le_of_ble_eq_true rfl) (zk0 rr)) (hw.r (Nat.le_of_ble_eq_true rfl) (zr0_4 rr)) d_G_ticksToSnap_55 ?_
          refine G_aload_n g (pc := 58) 0 d_G_ticksToSnap_58 rfl rfl ?_
          refine G_getR g (pc := 59) fa_G_33 (hw.m 0 (Nat.le_of_ble_eq_true rfl)) (hw.k (Nat.le_of_ble_eq_true rfl) (zk0 rr)) (hw.r (Nat.le_of_ble_eq_true rfl) (zr0_3 rr)) d_G_ticksToSnap_59 ?_
          refine G_aload_n g (pc := 62) 0 d_G_ticksToSnap_62 rfl rfl ?_
          refine G_getR g (pc := 63) fa_G_33 (hw.m 0 (Nat.le_of_ble_eq_true rfl)) (hw.k (Nat.le_of_ble_eq_true rfl) (zk0 rr)) (hw.r (Nat.le_of_ble_eq_true rfl) (zr0_3 rr)) d_G_ticksToSnap_63 ?_
          refine G_getN g (pc := 66) fa_G_100 (hw.m 10 (Nat.le_of_ble_eq_true rfl)) (hw.k (Nat.le_of_ble_eq_true rfl) (zk10 rr)) d_G_ticksToSnap_66 ?_
          refine G_iload_n g (pc := 69) 1 d_G_ticksToSnap_69 rfl rfl ?_
          refine G_iadd g (pc := 70) d_G_ticksToSnap_70 ?_
          refine G_cVI g (pc := 71) (As := [.int ((M 10 7) + v32)]) (st := [.ref (wad w 23)]) cc_G_107 (c_T_gustOf l hw 10 (List.elem_iff.mp (rfl : List.elem 10 stL = true)) ((M 10 7) + v32) M) (hw.m 10 (Nat.le_of_ble_eq_true rfl)) (hw.k (Nat.le_of_ble_eq_true rfl) (zk10 rr)) rfl (by decide) rfl ⟨(Nat.le_of_ble_eq_true rfl), (Nat.le_of_ble_eq_true rfl)⟩ ⟨(Nat.le_of_ble_eq_true rfl), (Nat.le_of_ble_eq_true rfl)⟩ (Nat.le_of_ble_eq_true rfl) d_G_ticksToSnap_71 (fun x3 M4 => ?_)
          refine G_cVV g (pc := 74) (As := [.int x3]) (st := []) cc_G_239 (c_K_passTick l hw 23 (List.elem_iff.mp (rfl : List.elem 23 kiL = true)) x3 M4) (hw.m 23 (Nat.le_of_ble_eq_true rfl)) (hw.k (Nat.le_of_ble_eq_true rfl) (zk23 rr)) rfl (by decide) rfl ⟨(Nat.le_of_ble_eq_true rfl), (Nat.le_of_ble_eq_true rfl)⟩ ⟨(Nat.le_of_ble_eq_true rfl), (Nat.le_of_ble_eq_true rfl)⟩ (Nat.le_of_ble_eq_true rfl) d_G_ticksToSnap_74 (fun M6 => ?_)
          refine G_aload_n g (pc := 77) 0 d_G_ticksToSnap_77 rfl rfl ?_
          refine G_getR g (pc := 78) fa_G_40 (hw.m 0 (Nat.le_of_ble_eq_true rfl)) (hw.k (Nat.le_of_ble_eq_true rfl) (zk0 rr)) (hw.r (Nat.le_of_ble_eq_true rfl) (zr0_4 rr)) d_G_ticksToSnap_78 ?_
          refine G_getN g (pc := 81) fa_G_140 (hw.m 23 (Nat.le_of_ble_eq_true rfl)) (hw.k (Nat.le_of_ble_eq_true rfl) (zk23 rr)) d_G_ticksToSnap_81 ?_
          refine G_iconst g (pc := 84) (2 : Int32) d_G_ticksToSnap_84 rfl ?_
          refine G_icmp_ne g (pc := 85) 92 d_G_ticksToSnap_85 (by decide) ?_ ?_
          · refine G_iload_n g (pc := 88) 1 d_G_ticksToSnap_88 rfl rfl ?_
            refine G_iconst g (pc := 89) (1 : Int32) d_G_ticksToSnap_89 rfl ?_
            refine G_iadd g (pc := 90) d_G_ticksToSnap_90 ?_
            exact G_ireturn g (pc := 91) hret (Nat.le_of_ble_eq_true rfl) (Nat.le_of_ble_eq_true rfl) d_G_ticksToSnap_91
          · refine G_nmX (v32 + (1 : Int32)) (fun x7 e_x7 => ?_)
            refine G_iinc g (pc := 92) x7 _ 1 d_G_ticksToSnap_92 rfl e_x7.symm (Nat.le_of_ble_eq_true rfl) rfl ?_
            refine G_goto g (pc := 95) 32 d_G_ticksToSnap_95 (by decide) ?_
            refine G_sub [1, 0] _ rfl ?_
            exact ih32 x7 M6
        · refine G_sub [0, 1] _ rfl ?_
          exact hk32 v32 M
      · refine G_sub [0, 1] _ rfl ?_
        exact hk32 v32 M
  · refine G_iconst g (pc := 14) (-1 : Int32) d_G_ticksToSnap_14 rfl ?_
    exact G_ireturn g (pc := 15) hret (Nat.le_of_ble_eq_true rfl) (Nat.le_of_ble_eq_true rfl) d_G_ticksToSnap_15

theorem d_G_safeHeight_0 : decode b_G_safeHeight 0 = .ok (.aload_n 0, 1) := by decide +kernel
theorem d_G_safeHeight_1 : decode b_G_safeHeight 1 = .ok (.getfield 33, 3) := by decide +kernel
theorem d_G_safeHeight_4 : decode b_G_safeHeight 4 = .ok (.invokevirtual 242, 3) := by decide +kernel
theorem d_G_safeHeight_7 : decode b_G_safeHeight 7 = .ok (.istore_n 1, 1) := by decide +kernel
theorem d_G_safeHeight_8 : decode b_G_safeHeight 8 = .ok (.bipush 6, 2) := by decide +kernel
theorem d_G_safeHeight_10 : decode b_G_safeHeight 10 = .ok (.istore_n 2, 1) := by decide +kernel
theorem d_G_safeHeight_11 : decode b_G_safeHeight 11 = .ok (.iload_n 2, 1) := by decide +kernel
theorem d_G_safeHeight_12 : decode b_G_safeHeight 12 = .ok (.ifCond .lt 51, 3) := by decide +kernel
theorem d_G_safeHeight_15 : decode b_G_safeHeight 15 = .ok (.aload_n 0, 1) := by decide +kernel
theorem d_G_safeHeight_16 : decode b_G_safeHeight 16 = .ok (.getfield 33, 3) := by decide +kernel
theorem d_G_safeHeight_19 : decode b_G_safeHeight 19 = .ok (.getfield 137, 3) := by decide +kernel
theorem d_G_safeHeight_22 : decode b_G_safeHeight 22 = .ok (.iload_n 1, 1) := by decide +kernel
theorem d_G_safeHeight_23 : decode b_G_safeHeight 23 = .ok (.iload_n 2, 1) := by decide +kernel
theorem d_G_safeHeight_24 : decode b_G_safeHeight 24 = .ok (.iadd, 1) := by decide +kernel
theorem d_G_safeHeight_25 : decode b_G_safeHeight 25 = .ok (.invokevirtual 161, 3) := by decide +kernel
theorem d_G_safeHeight_28 : decode b_G_safeHeight 28 = .ok (.aload_n 0, 1) := by decide +kernel
theorem d_G_safeHeight_29 : decode b_G_safeHeight 29 = .ok (.getfield 33, 3) := by decide +kernel
theorem d_G_safeHeight_32 : decode b_G_safeHeight 32 = .ok (.getfield 137, 3) := by decide +kernel
theorem d_G_safeHeight_35 : decode b_G_safeHeight 35 = .ok (.getfield 152, 3) := by decide +kernel
theorem d_G_safeHeight_38 : decode b_G_safeHeight 38 = .ok (.if_icmp .gt 19, 3) := by decide +kernel
theorem d_G_safeHeight_41 : decode b_G_safeHeight 41 = .ok (.sipush 600, 3) := by decide +kernel
theorem d_G_safeHeight_44 : decode b_G_safeHeight 44 = .ok (.iload_n 2, 1) := by decide +kernel
theorem d_G_safeHeight_45 : decode b_G_safeHeight 45 = .ok (.bipush 100, 2) := by decide +kernel
theorem d_G_safeHeight_47 : decode b_G_safeHeight 47 = .ok (.imul, 1) := by decide +kernel
theorem d_G_safeHeight_48 : decode b_G_safeHeight 48 = .ok (.bipush 100, 2) := by decide +kernel
theorem d_G_safeHeight_50 : decode b_G_safeHeight 50 = .ok (.iadd, 1) := by decide +kernel
theorem d_G_safeHeight_51 : decode b_G_safeHeight 51 = .ok (.iconst 1, 1) := by decide +kernel
theorem d_G_safeHeight_52 : decode b_G_safeHeight 52 = .ok (.isub, 1) := by decide +kernel
theorem d_G_safeHeight_53 : decode b_G_safeHeight 53 = .ok (.invokestatic 245, 3) := by decide +kernel
theorem d_G_safeHeight_56 : decode b_G_safeHeight 56 = .ok (.ireturn, 1) := by decide +kernel
theorem d_G_safeHeight_57 : decode b_G_safeHeight 57 = .ok (.iinc 2 (-1), 3) := by decide +kernel
theorem d_G_safeHeight_60 : decode b_G_safeHeight 60 = .ok (.goto (-49), 3) := by decide +kernel
theorem d_G_safeHeight_63 : decode b_G_safeHeight 63 = .ok (.iconst (-1), 1) := by decide +kernel
theorem d_G_safeHeight_64 : decode b_G_safeHeight 64 = .ok (.ireturn, 1) := by decide +kernel
theorem cc_G_242 : CV "KiteLogger" 242 y_T_greatestGust b_T_greatestGust 3 (some .int) 0 := ⟨TT_in (i := 910) (by decide +kernel) (by decide +kernel), TT_in (i := 911) (by decide +kernel) (by decide +kernel), TT_in (i := 912) (by decide +kernel) (by decide +kernel), TT_in (i := 24) (by decide +kernel) (by decide +kernel), TT_in (i := 913) (by decide +kernel) (by decide +kernel), ⟨by decide +kernel, by decide +kernel, by decide +kernel⟩⟩
def lp_G_safeHeight_11 (N0 rr : Nat)  (c1 : Int32) : Nat → Int32 → Mem → (Int32 → Mem → Option (Int32 × Mem)) → Option (Int32 × Mem)
  | 0, _, _, _ => none
  | N + 1, v11, M, k11 => if v11 < 0 then (k11 v11 M) else (bnd (f_K_loadUnder 11 (c1 + v11) M) fun (x3 : Int32) (M4 : Mem) => if x3 ≤ (M4 11 4) then (some (imin (600 : Int32) (((v11 * (100 : Int32)) + (100 : Int32)) - (1 : Int32)), M4)) else (nm (v11 + (-1 : Int32)) fun (x5 : Int32) => lp_G_safeHeight_11 N0 rr c1 N x5 M4 k11))
def f_G_safeHeight (N : Nat) (rr : Nat) (M : Mem) : Option (Int32 × Mem) :=
  bnd (f_T_greatestGust N rr 10 M) fun (x1 : Int32) (M2 : Mem) => lp_G_safeHeight_11 N rr x1 N (6 : Int32) M2 (fun (a7 : Int32) (M6 : Mem) => some ((-1 : Int32), M6))
set_option maxHeartbeats 4000000 in
set_option maxRecDepth 100000 in
theorem c_G_safeHeight (l : Launch) (N : Nat) {w : Wc} {rr : Nat} (hw : WK w rr)  (M : Mem) : Ct QI l y_G_safeHeight b_G_safeHeight 3 (some .int) (rmL 2) w [.ref (wad w 0)] M (f_G_safeHeight N rr M) := by
  refine Ct.go (by decide) (L := [(0, .ref (wad w 0))]) rfl (Nat.le_of_ble_eq_true rfl) (fun p0 e s m args below meth c g hret => ?_)
  unfold f_G_safeHeight
  refine G_aload_n g (pc := 0) 0 d_G_safeHeight_0 rfl rfl ?_
  refine G_getR g (pc := 1) fa_G_33 (hw.m 0 (Nat.le_of_ble_eq_true rfl)) (hw.k (Nat.le_of_ble_eq_true rfl) (zk0 rr)) (hw.r (Nat.le_of_ble_eq_true rfl) (zr0_3 rr)) d_G_safeHeight_1 ?_
  refine G_cVI g (pc := 4) (As := []) (st := []) cc_G_242 (c_T_greatestGust l N hw 10 (List.elem_iff.mp (rfl : List.elem 10 stL = true)) M) (hw.m 10 (Nat.le_of_ble_eq_true rfl)) (hw.k (Nat.le_of_ble_eq_true rfl) (zk10 rr)) rfl (by decide) rfl ⟨(Nat.le_of_ble_eq_true rfl), (Nat.le_of_ble_eq_true rfl)⟩ ⟨(Nat.le_of_ble_eq_true rfl), (Nat.le_of_ble_eq_true rfl)⟩ (Nat.le_of_ble_eq_true rfl) d_G_safeHeight_4 (fun x1 M2 => ?_)
  refine G_istore_n g (pc := 7) _ d_G_safeHeight_7 rfl (Nat.le_of_ble_eq_true rfl) rfl ?_
  refine G_bipush g (pc := 8) (6 : Int32) d_G_safeHeight_8 rfl ?_
  refine G_istore_n g (pc := 10) _ d_G_safeHeight_10 rfl (Nat.le_of_ble_eq_true rfl) rfl ?_
  refine G_sub [2, 1, 0] _ rfl ?_
  refine G_loop (F := lp_G_safeHeight_11 N rr x1) 11 63 (fun (v11 : Int32) => [(0, .ref (wad w 0)), (1, .int x1), (2, .int v11)]) (fun (v11 : Int32) => [(0, .ref (wad w 0)), (1, .int x1), (2, .int v11)]) (fun _ _ _ => rfl) (fun a7 M6 => ?_) (fun k11 hk11 Nl11 ih11 v11 M => ?_) N (6 : Int32) M2
  · refine G_iconst g (pc := 63) (-1 : Int32) d_G_safeHeight_63 rfl ?_
    exact G_ireturn g (pc := 64) hret (Nat.le_of_ble_eq_true rfl) (Nat.le_of_ble_eq_true rfl) d_G_safeHeight_64
  · show Go p0 l e _ s m args below meth c w _ _ _ _ (lp_G_safeHeight_11 N rr x1 (Nl11 + 1) v11 M k11) 11 _ _ M
    unfold lp_G_safeHeight_11
    refine G_iload_n g (pc := 11) 2 d_G_safeHeight_11 rfl rfl ?_
    refine G_if_lt g (pc := 12) 63 d_G_safeHeight_12 (by decide) ?_ ?_
    · refine G_sub [0, 1, 2] _ rfl ?_
      exact hk11 v11 M
    · refine G_aload_n g (pc := 15) 0 d_G_safeHeight_15 rfl rfl ?_
      refine G_getR g (pc := 16) fa_G_33 (hw.m 0 (Nat.le_of_ble_eq_true rfl)) (hw.k (Nat.le_of_ble_eq_true rfl) (zk0 rr)) (hw.r (Nat.le_of_ble_eq_true rfl) (zr0_3 rr)) d_G_safeHeight_16 ?_
      refine G_getRN g (pc := 19) fa_G_137 (hw.m 10 (Nat.le_of_ble_eq_true rfl)) (hw.k (Nat.le_of_ble_eq_true rfl) (zk10 rr)) (hw.r (Nat.le_of_ble_eq_true rfl) (zr10_0 rr)) d_G_safeHeight_19 ?_
      refine G_iload_n g (pc := 22) 1 d_G_safeHeight_22 rfl rfl ?_
      refine G_iload_n g (pc := 23) 2 d_G_safeHeight_23 rfl rfl ?_
      refine G_iadd g (pc := 24) d_G_safeHeight_24 ?_
      refine G_cVI g (pc := 25) (As := [.int (x1 + v11)]) (st := []) cc_G_161 (c_K_loadUnder l hw 11 (List.elem_iff.mp (rfl : List.elem 11 kiL = true)) (x1 + v11) M) (hw.m 11 (Nat.le_of_ble_eq_true rfl)) (hw.k (Nat.le_of_ble_eq_true rfl) (zk11 rr)) rfl (by decide) rfl ⟨(Nat.le_of_ble_eq_true rfl), (Nat.le_of_ble_eq_true rfl)⟩ ⟨(Nat.le_of_ble_eq_true rfl), (Nat.le_of_ble_eq_true rfl)⟩ (Nat.le_of_ble_eq_true rfl) d_G_safeHeight_25 (fun x3 M4 => ?_)
      refine G_aload_n g (pc := 28) 0 d_G_safeHeight_28 rfl rfl ?_
      refine G_getR g (pc := 29) fa_G_33 (hw.m 0 (Nat.le_of_ble_eq_true rfl)) (hw.k (Nat.le_of_ble_eq_true rfl) (zk0 rr)) (hw.r (Nat.le_of_ble_eq_true rfl) (zr0_3 rr)) d_G_safeHeight_29 ?_
      refine G_getRN g (pc := 32) fa_G_137 (hw.m 10 (Nat.le_of_ble_eq_true rfl)) (hw.k (Nat.le_of_ble_eq_true rfl) (zk10 rr)) (hw.r (Nat.le_of_ble_eq_true rfl) (zr10_0 rr)) d_G_safeHeight_32 ?_
      refine G_getN g (pc := 35) fa_G_152 (hw.m 11 (Nat.le_of_ble_eq_true rfl)) (hw.k (Nat.le_of_ble_eq_true rfl) (zk11 rr)) d_G_safeHeight_35 ?_
      refine G_icmp_gt g (pc := 38) 57 d_G_safeHeight_38 (by decide) ?_ ?_
      · refine G_sipush g (pc := 41) (600 : Int32) d_G_safeHeight_41 rfl ?_
        refine G_iload_n g (pc := 44) 2 d_G_safeHeight_44 rfl rfl ?_
        refine G_bipush g (pc := 45) (100 : Int32) d_G_safeHeight_45 rfl ?_
        refine G_imul g (pc := 47) d_G_safeHeight_47 ?_
        refine G_bipush g (pc := 48) (100 : Int32) d_G_safeHeight_48 rfl ?_
        refine G_iadd g (pc := 50) d_G_safeHeight_50 ?_
        refine G_iconst g (pc := 51) (1 : Int32) d_G_safeHeight_51 rfl ?_
        refine G_isub g (pc := 52) d_G_safeHeight_52 ?_
        refine G_mmin g (pc := 53) ma_G_245 ⟨(Nat.le_of_ble_eq_true rfl), (Nat.le_of_ble_eq_true rfl), (Nat.le_of_ble_eq_true rfl), (Nat.le_of_ble_eq_true rfl)⟩ d_G_safeHeight_53 ?_
        exact G_ireturn g (pc := 56) hret (Nat.le_of_ble_eq_true rfl) (Nat.le_of_ble_eq_true rfl) d_G_safeHeight_56
      · refine G_nmX (v11 + (-1 : Int32)) (fun x5 e_x5 => ?_)
        refine G_iinc g (pc := 57) x5 _ 2 d_G_safeHeight_57 rfl e_x5.symm (Nat.le_of_ble_eq_true rfl) rfl ?_
        refine G_goto g (pc := 60) 11 d_G_safeHeight_60 (by decide) ?_
        refine G_sub [1, 2, 0] _ rfl ?_
        exact ih11 x5 M4

theorem d_G_launch_0 : decode b_G_launch 0 = .ok (.aload_n 0, 1) := by decide +kernel
theorem d_G_launch_1 : decode b_G_launch 1 = .ok (.iconst 1, 1) := by decide +kernel
theorem d_G_launch_2 : decode b_G_launch 2 = .ok (.iconst 0, 1) := by decide +kernel
theorem d_G_launch_3 : decode b_G_launch 3 = .ok (.iconst 0, 1) := by decide +kernel
theorem d_G_launch_4 : decode b_G_launch 4 = .ok (.invokevirtual 248, 3) := by decide +kernel
theorem d_G_launch_7 : decode b_G_launch 7 = .ok (.ireturn, 1) := by decide +kernel
theorem cc_G_248 : CV "KiteLogger" 248 y_G_change b_G_change 5 (some .int) 3 := ⟨TT_in (i := 1022) (by decide +kernel) (by decide +kernel), TT_in (i := 1024) (by decide +kernel) (by decide +kernel), TT_in (i := 11) (by decide +kernel) (by decide +kernel), TT_in (i := 18) (by decide +kernel) (by decide +kernel), TT_in (i := 1025) (by decide +kernel) (by decide +kernel), ⟨by decide +kernel, by decide +kernel, by decide +kernel⟩⟩
def f_G_launch (N : Nat) (rr : Nat) (M : Mem) : Option (Int32 × Mem) :=
  bnd (f_G_change N rr (1 : Int32) (0 : Int32) (0 : Int32) M) fun (x1 : Int32) (M2 : Mem) => some (x1, M2)
set_option maxHeartbeats 4000000 in
set_option maxRecDepth 100000 in
theorem c_G_launch (l : Launch) (N : Nat) {w : Wc} {rr : Nat} (hw : WK w rr)  (M : Mem) : Ct QI l y_G_launch b_G_launch 1 (some .int) (rmL 7) w [.ref (wad w 0)] M (f_G_launch N rr M) := by
  refine Ct.go (by decide) (L := [(0, .ref (wad w 0))]) rfl (Nat.le_of_ble_eq_true rfl) (fun p0 e s m args below meth c g hret => ?_)
  unfold f_G_launch
  refine G_aload_n g (pc := 0) 0 d_G_launch_0 rfl rfl ?_
  refine G_iconst g (pc := 1) (1 : Int32) d_G_launch_1 rfl ?_
  refine G_iconst g (pc := 2) (0 : Int32) d_G_launch_2 rfl ?_
  refine G_iconst g (pc := 3) (0 : Int32) d_G_launch_3 rfl ?_
  refine G_cVI g (pc := 4) (As := [.int (1 : Int32), .int (0 : Int32), .int (0 : Int32)]) (st := []) cc_G_248 (c_G_change l N hw (1 : Int32) (0 : Int32) (0 : Int32) M) (hw.m 0 (Nat.le_of_ble_eq_true rfl)) (hw.k (Nat.le_of_ble_eq_true rfl) (zk0 rr)) rfl (by decide) rfl ⟨(Nat.le_of_ble_eq_true rfl), (Nat.le_of_ble_eq_true rfl)⟩ ⟨(Nat.le_of_ble_eq_true rfl), (Nat.le_of_ble_eq_true rfl)⟩ (Nat.le_of_ble_eq_true rfl) d_G_launch_4 (fun x1 M2 => ?_)
  exact G_ireturn g (pc := 7) hret (Nat.le_of_ble_eq_true rfl) (Nat.le_of_ble_eq_true rfl) d_G_launch_7

theorem d_G_payOut_0 : decode b_G_payOut 0 = .ok (.aload_n 0, 1) := by decide +kernel
theorem d_G_payOut_1 : decode b_G_payOut 1 = .ok (.iconst 2, 1) := by decide +kernel
theorem d_G_payOut_2 : decode b_G_payOut 2 = .ok (.iload_n 1, 1) := by decide +kernel
theorem d_G_payOut_3 : decode b_G_payOut 3 = .ok (.iconst 0, 1) := by decide +kernel
theorem d_G_payOut_4 : decode b_G_payOut 4 = .ok (.invokevirtual 248, 3) := by decide +kernel
theorem d_G_payOut_7 : decode b_G_payOut 7 = .ok (.ireturn, 1) := by decide +kernel
def f_G_payOut (N : Nat) (rr : Nat) (a1 : Int32) (M : Mem) : Option (Int32 × Mem) :=
  bnd (f_G_change N rr (2 : Int32) a1 (0 : Int32) M) fun (x1 : Int32) (M2 : Mem) => some (x1, M2)
set_option maxHeartbeats 4000000 in
set_option maxRecDepth 100000 in
theorem c_G_payOut (l : Launch) (N : Nat) {w : Wc} {rr : Nat} (hw : WK w rr) (a1 : Int32) (M : Mem) : Ct QI l y_G_payOut b_G_payOut 2 (some .int) (rmL 7) w [.ref (wad w 0), .int a1] M (f_G_payOut N rr a1 M) := by
  refine Ct.go (by decide) (L := [(0, .ref (wad w 0)), (1, .int a1)]) rfl (Nat.le_of_ble_eq_true rfl) (fun p0 e s m args below meth c g hret => ?_)
  unfold f_G_payOut
  refine G_aload_n g (pc := 0) 0 d_G_payOut_0 rfl rfl ?_
  refine G_iconst g (pc := 1) (2 : Int32) d_G_payOut_1 rfl ?_
  refine G_iload_n g (pc := 2) 1 d_G_payOut_2 rfl rfl ?_
  refine G_iconst g (pc := 3) (0 : Int32) d_G_payOut_3 rfl ?_
  refine G_cVI g (pc := 4) (As := [.int (2 : Int32), .int a1, .int (0 : Int32)]) (st := []) cc_G_248 (c_G_change l N hw (2 : Int32) a1 (0 : Int32) M) (hw.m 0 (Nat.le_of_ble_eq_true rfl)) (hw.k (Nat.le_of_ble_eq_true rfl) (zk0 rr)) rfl (by decide) rfl ⟨(Nat.le_of_ble_eq_true rfl), (Nat.le_of_ble_eq_true rfl)⟩ ⟨(Nat.le_of_ble_eq_true rfl), (Nat.le_of_ble_eq_true rfl)⟩ (Nat.le_of_ble_eq_true rfl) d_G_payOut_4 (fun x1 M2 => ?_)
  exact G_ireturn g (pc := 7) hret (Nat.le_of_ble_eq_true rfl) (Nat.le_of_ble_eq_true rfl) d_G_payOut_7

theorem d_G_reelIn_0 : decode b_G_reelIn 0 = .ok (.aload_n 0, 1) := by decide +kernel
theorem d_G_reelIn_1 : decode b_G_reelIn 1 = .ok (.iconst 3, 1) := by decide +kernel
theorem d_G_reelIn_2 : decode b_G_reelIn 2 = .ok (.iload_n 1, 1) := by decide +kernel
theorem d_G_reelIn_3 : decode b_G_reelIn 3 = .ok (.iconst 0, 1) := by decide +kernel
theorem d_G_reelIn_4 : decode b_G_reelIn 4 = .ok (.invokevirtual 248, 3) := by decide +kernel
theorem d_G_reelIn_7 : decode b_G_reelIn 7 = .ok (.ireturn, 1) := by decide +kernel
def f_G_reelIn (N : Nat) (rr : Nat) (a1 : Int32) (M : Mem) : Option (Int32 × Mem) :=
  bnd (f_G_change N rr (3 : Int32) a1 (0 : Int32) M) fun (x1 : Int32) (M2 : Mem) => some (x1, M2)
set_option maxHeartbeats 4000000 in
set_option maxRecDepth 100000 in
theorem c_G_reelIn (l : Launch) (N : Nat) {w : Wc} {rr : Nat} (hw : WK w rr) (a1 : Int32) (M : Mem) : Ct QI l y_G_reelIn b_G_reelIn 2 (some .int) (rmL 7) w [.ref (wad w 0), .int a1] M (f_G_reelIn N rr a1 M) := by
  refine Ct.go (by decide) (L := [(0, .ref (wad w 0)), (1, .int a1)]) rfl (Nat.le_of_ble_eq_true rfl) (fun p0 e s m args below meth c g hret => ?_)
  unfold f_G_reelIn
  refine G_aload_n g (pc := 0) 0 d_G_reelIn_0 rfl rfl ?_
  refine G_iconst g (pc := 1) (3 : Int32) d_G_reelIn_1 rfl ?_
  refine G_iload_n g (pc := 2) 1 d_G_reelIn_2 rfl rfl ?_
  refine G_iconst g (pc := 3) (0 : Int32) d_G_reelIn_3 rfl ?_
  refine G_cVI g (pc := 4) (As := [.int (3 : Int32), .int a1, .int (0 : Int32)]) (st := []) cc_G_248 (c_G_change l N hw (3 : Int32) a1 (0 : Int32) M) (hw.m 0 (Nat.le_of_ble_eq_true rfl)) (hw.k (Nat.le_of_ble_eq_true rfl) (zk0 rr)) rfl (by decide) rfl ⟨(Nat.le_of_ble_eq_true rfl), (Nat.le_of_ble_eq_true rfl)⟩ ⟨(Nat.le_of_ble_eq_true rfl), (Nat.le_of_ble_eq_true rfl)⟩ (Nat.le_of_ble_eq_true rfl) d_G_reelIn_4 (fun x1 M2 => ?_)
  exact G_ireturn g (pc := 7) hret (Nat.le_of_ble_eq_true rfl) (Nat.le_of_ble_eq_true rfl) d_G_reelIn_7

theorem d_G_replaceBridle_0 : decode b_G_replaceBridle 0 = .ok (.aload_n 0, 1) := by decide +kernel
theorem d_G_replaceBridle_1 : decode b_G_replaceBridle 1 = .ok (.iconst 4, 1) := by decide +kernel
theorem d_G_replaceBridle_2 : decode b_G_replaceBridle 2 = .ok (.iload_n 1, 1) := by decide +kernel
theorem d_G_replaceBridle_3 : decode b_G_replaceBridle 3 = .ok (.iload_n 2, 1) := by decide +kernel
theorem d_G_replaceBridle_4 : decode b_G_replaceBridle 4 = .ok (.invokevirtual 248, 3) := by decide +kernel
theorem d_G_replaceBridle_7 : decode b_G_replaceBridle 7 = .ok (.ireturn, 1) := by decide +kernel
def f_G_replaceBridle (N : Nat) (rr : Nat) (a1 : Int32) (a2 : Int32) (M : Mem) : Option (Int32 × Mem) :=
  bnd (f_G_change N rr (4 : Int32) a1 a2 M) fun (x1 : Int32) (M2 : Mem) => some (x1, M2)
set_option maxHeartbeats 4000000 in
set_option maxRecDepth 100000 in
theorem c_G_replaceBridle (l : Launch) (N : Nat) {w : Wc} {rr : Nat} (hw : WK w rr) (a1 : Int32) (a2 : Int32) (M : Mem) : Ct QI l y_G_replaceBridle b_G_replaceBridle 3 (some .int) (rmL 7) w [.ref (wad w 0), .int a1, .int a2] M (f_G_replaceBridle N rr a1 a2 M) := by
  refine Ct.go (by decide) (L := [(0, .ref (wad w 0)), (1, .int a1), (2, .int a2)]) rfl (Nat.le_of_ble_eq_true rfl) (fun p0 e s m args below meth c g hret => ?_)
  unfold f_G_replaceBridle
  refine G_aload_n g (pc := 0) 0 d_G_replaceBridle_0 rfl rfl ?_
  refine G_iconst g (pc := 1) (4 : Int32) d_G_replaceBridle_1 rfl ?_
  refine G_iload_n g (pc := 2) 1 d_G_replaceBridle_2 rfl rfl ?_
  refine G_iload_n g (pc := 3) 2 d_G_replaceBridle_3 rfl rfl ?_
  refine G_cVI g (pc := 4) (As := [.int (4 : Int32), .int a1, .int a2]) (st := []) cc_G_248 (c_G_change l N hw (4 : Int32) a1 a2 M) (hw.m 0 (Nat.le_of_ble_eq_true rfl)) (hw.k (Nat.le_of_ble_eq_true rfl) (zk0 rr)) rfl (by decide) rfl ⟨(Nat.le_of_ble_eq_true rfl), (Nat.le_of_ble_eq_true rfl)⟩ ⟨(Nat.le_of_ble_eq_true rfl), (Nat.le_of_ble_eq_true rfl)⟩ (Nat.le_of_ble_eq_true rfl) d_G_replaceBridle_4 (fun x1 M2 => ?_)
  exact G_ireturn g (pc := 7) hret (Nat.le_of_ble_eq_true rfl) (Nat.le_of_ble_eq_true rfl) d_G_replaceBridle_7

theorem d_G_setInterval_0 : decode b_G_setInterval 0 = .ok (.aload_n 0, 1) := by decide +kernel
theorem d_G_setInterval_1 : decode b_G_setInterval 1 = .ok (.iconst 5, 1) := by decide +kernel
theorem d_G_setInterval_2 : decode b_G_setInterval 2 = .ok (.iload_n 1, 1) := by decide +kernel
theorem d_G_setInterval_3 : decode b_G_setInterval 3 = .ok (.iconst 0, 1) := by decide +kernel
theorem d_G_setInterval_4 : decode b_G_setInterval 4 = .ok (.invokevirtual 248, 3) := by decide +kernel
theorem d_G_setInterval_7 : decode b_G_setInterval 7 = .ok (.ireturn, 1) := by decide +kernel
def f_G_setInterval (N : Nat) (rr : Nat) (a1 : Int32) (M : Mem) : Option (Int32 × Mem) :=
  bnd (f_G_change N rr (5 : Int32) a1 (0 : Int32) M) fun (x1 : Int32) (M2 : Mem) => some (x1, M2)
set_option maxHeartbeats 4000000 in
set_option maxRecDepth 100000 in
theorem c_G_setInterval (l : Launch) (N : Nat) {w : Wc} {rr : Nat} (hw : WK w rr) (a1 : Int32) (M : Mem) : Ct QI l y_G_setInterval b_G_setInterval 2 (some .int) (rmL 7) w [.ref (wad w 0), .int a1] M (f_G_setInterval N rr a1 M) := by
  refine Ct.go (by decide) (L := [(0, .ref (wad w 0)), (1, .int a1)]) rfl (Nat.le_of_ble_eq_true rfl) (fun p0 e s m args below meth c g hret => ?_)
  unfold f_G_setInterval
  refine G_aload_n g (pc := 0) 0 d_G_setInterval_0 rfl rfl ?_
  refine G_iconst g (pc := 1) (5 : Int32) d_G_setInterval_1 rfl ?_
  refine G_iload_n g (pc := 2) 1 d_G_setInterval_2 rfl rfl ?_
  refine G_iconst g (pc := 3) (0 : Int32) d_G_setInterval_3 rfl ?_
  refine G_cVI g (pc := 4) (As := [.int (5 : Int32), .int a1, .int (0 : Int32)]) (st := []) cc_G_248 (c_G_change l N hw (5 : Int32) a1 (0 : Int32) M) (hw.m 0 (Nat.le_of_ble_eq_true rfl)) (hw.k (Nat.le_of_ble_eq_true rfl) (zk0 rr)) rfl (by decide) rfl ⟨(Nat.le_of_ble_eq_true rfl), (Nat.le_of_ble_eq_true rfl)⟩ ⟨(Nat.le_of_ble_eq_true rfl), (Nat.le_of_ble_eq_true rfl)⟩ (Nat.le_of_ble_eq_true rfl) d_G_setInterval_4 (fun x1 M2 => ?_)
  exact G_ireturn g (pc := 7) hret (Nat.le_of_ble_eq_true rfl) (Nat.le_of_ble_eq_true rfl) d_G_setInterval_7

theorem d_G_search_0 : decode b_G_search 0 = .ok (.aload_n 0, 1) := by decide +kernel
theorem d_G_search_1 : decode b_G_search 1 = .ok (.bipush 6, 2) := by decide +kernel
theorem d_G_search_3 : decode b_G_search 3 = .ok (.iload_n 1, 1) := by decide +kernel
theorem d_G_search_4 : decode b_G_search 4 = .ok (.iconst 0, 1) := by decide +kernel
theorem d_G_search_5 : decode b_G_search 5 = .ok (.invokevirtual 248, 3) := by decide +kernel
theorem d_G_search_8 : decode b_G_search 8 = .ok (.ireturn, 1) := by decide +kernel
def f_G_search (N : Nat) (rr : Nat) (a1 : Int32) (M : Mem) : Option (Int32 × Mem) :=
  bnd (f_G_change N rr (6 : Int32) a1 (0 : Int32) M) fun (x1 : Int32) (M2 : Mem) => some (x1, M2)
set_option maxHeartbeats 4000000 in
set_option maxRecDepth 100000 in
theorem c_G_search (l : Launch) (N : Nat) {w : Wc} {rr : Nat} (hw : WK w rr) (a1 : Int32) (M : Mem) : Ct QI l y_G_search b_G_search 2 (some .int) (rmL 7) w [.ref (wad w 0), .int a1] M (f_G_search N rr a1 M) := by
  refine Ct.go (by decide) (L := [(0, .ref (wad w 0)), (1, .int a1)]) rfl (Nat.le_of_ble_eq_true rfl) (fun p0 e s m args below meth c g hret => ?_)
  unfold f_G_search
  refine G_aload_n g (pc := 0) 0 d_G_search_0 rfl rfl ?_
  refine G_bipush g (pc := 1) (6 : Int32) d_G_search_1 rfl ?_
  refine G_iload_n g (pc := 3) 1 d_G_search_3 rfl rfl ?_
  refine G_iconst g (pc := 4) (0 : Int32) d_G_search_4 rfl ?_
  refine G_cVI g (pc := 5) (As := [.int (6 : Int32), .int a1, .int (0 : Int32)]) (st := []) cc_G_248 (c_G_change l N hw (6 : Int32) a1 (0 : Int32) M) (hw.m 0 (Nat.le_of_ble_eq_true rfl)) (hw.k (Nat.le_of_ble_eq_true rfl) (zk0 rr)) rfl (by decide) rfl ⟨(Nat.le_of_ble_eq_true rfl), (Nat.le_of_ble_eq_true rfl)⟩ ⟨(Nat.le_of_ble_eq_true rfl), (Nat.le_of_ble_eq_true rfl)⟩ (Nat.le_of_ble_eq_true rfl) d_G_search_5 (fun x1 M2 => ?_)
  exact G_ireturn g (pc := 8) hret (Nat.le_of_ble_eq_true rfl) (Nat.le_of_ble_eq_true rfl) d_G_search_8

theorem d_G_archive_0 : decode b_G_archive 0 = .ok (.aload_n 0, 1) := by decide +kernel
theorem d_G_archive_1 : decode b_G_archive 1 = .ok (.bipush 7, 2) := by decide +kernel
theorem d_G_archive_3 : decode b_G_archive 3 = .ok (.iconst 0, 1) := by decide +kernel
theorem d_G_archive_4 : decode b_G_archive 4 = .ok (.iconst 0, 1) := by decide +kernel
theorem d_G_archive_5 : decode b_G_archive 5 = .ok (.invokevirtual 248, 3) := by decide +kernel
theorem d_G_archive_8 : decode b_G_archive 8 = .ok (.ireturn, 1) := by decide +kernel
def f_G_archive (N : Nat) (rr : Nat) (M : Mem) : Option (Int32 × Mem) :=
  bnd (f_G_change N rr (7 : Int32) (0 : Int32) (0 : Int32) M) fun (x1 : Int32) (M2 : Mem) => some (x1, M2)
set_option maxHeartbeats 4000000 in
set_option maxRecDepth 100000 in
theorem c_G_archive (l : Launch) (N : Nat) {w : Wc} {rr : Nat} (hw : WK w rr)  (M : Mem) : Ct QI l y_G_archive b_G_archive 1 (some .int) (rmL 7) w [.ref (wad w 0)] M (f_G_archive N rr M) := by
  refine Ct.go (by decide) (L := [(0, .ref (wad w 0))]) rfl (Nat.le_of_ble_eq_true rfl) (fun p0 e s m args below meth c g hret => ?_)
  unfold f_G_archive
  refine G_aload_n g (pc := 0) 0 d_G_archive_0 rfl rfl ?_
  refine G_bipush g (pc := 1) (7 : Int32) d_G_archive_1 rfl ?_
  refine G_iconst g (pc := 3) (0 : Int32) d_G_archive_3 rfl ?_
  refine G_iconst g (pc := 4) (0 : Int32) d_G_archive_4 rfl ?_
  refine G_cVI g (pc := 5) (As := [.int (7 : Int32), .int (0 : Int32), .int (0 : Int32)]) (st := []) cc_G_248 (c_G_change l N hw (7 : Int32) (0 : Int32) (0 : Int32) M) (hw.m 0 (Nat.le_of_ble_eq_true rfl)) (hw.k (Nat.le_of_ble_eq_true rfl) (zk0 rr)) rfl (by decide) rfl ⟨(Nat.le_of_ble_eq_true rfl), (Nat.le_of_ble_eq_true rfl)⟩ ⟨(Nat.le_of_ble_eq_true rfl), (Nat.le_of_ble_eq_true rfl)⟩ (Nat.le_of_ble_eq_true rfl) d_G_archive_5 (fun x1 M2 => ?_)
  exact G_ireturn g (pc := 8) hret (Nat.le_of_ble_eq_true rfl) (Nat.le_of_ble_eq_true rfl) d_G_archive_8

theorem d_G_passTicks_0 : decode b_G_passTicks 0 = .ok (.aload_n 0, 1) := by decide +kernel
theorem d_G_passTicks_1 : decode b_G_passTicks 1 = .ok (.bipush 8, 2) := by decide +kernel
theorem d_G_passTicks_3 : decode b_G_passTicks 3 = .ok (.iload_n 1, 1) := by decide +kernel
theorem d_G_passTicks_4 : decode b_G_passTicks 4 = .ok (.iconst 0, 1) := by decide +kernel
theorem d_G_passTicks_5 : decode b_G_passTicks 5 = .ok (.invokevirtual 248, 3) := by decide +kernel
theorem d_G_passTicks_8 : decode b_G_passTicks 8 = .ok (.ireturn, 1) := by decide +kernel
def f_G_passTicks (N : Nat) (rr : Nat) (a1 : Int32) (M : Mem) : Option (Int32 × Mem) :=
  bnd (f_G_change N rr (8 : Int32) a1 (0 : Int32) M) fun (x1 : Int32) (M2 : Mem) => some (x1, M2)
set_option maxHeartbeats 4000000 in
set_option maxRecDepth 100000 in
theorem c_G_passTicks (l : Launch) (N : Nat) {w : Wc} {rr : Nat} (hw : WK w rr) (a1 : Int32) (M : Mem) : Ct QI l y_G_passTicks b_G_passTicks 2 (some .int) (rmL 7) w [.ref (wad w 0), .int a1] M (f_G_passTicks N rr a1 M) := by
  refine Ct.go (by decide) (L := [(0, .ref (wad w 0)), (1, .int a1)]) rfl (Nat.le_of_ble_eq_true rfl) (fun p0 e s m args below meth c g hret => ?_)
  unfold f_G_passTicks
  refine G_aload_n g (pc := 0) 0 d_G_passTicks_0 rfl rfl ?_
  refine G_bipush g (pc := 1) (8 : Int32) d_G_passTicks_1 rfl ?_
  refine G_iload_n g (pc := 3) 1 d_G_passTicks_3 rfl rfl ?_
  refine G_iconst g (pc := 4) (0 : Int32) d_G_passTicks_4 rfl ?_
  refine G_cVI g (pc := 5) (As := [.int (8 : Int32), .int a1, .int (0 : Int32)]) (st := []) cc_G_248 (c_G_change l N hw (8 : Int32) a1 (0 : Int32) M) (hw.m 0 (Nat.le_of_ble_eq_true rfl)) (hw.k (Nat.le_of_ble_eq_true rfl) (zk0 rr)) rfl (by decide) rfl ⟨(Nat.le_of_ble_eq_true rfl), (Nat.le_of_ble_eq_true rfl)⟩ ⟨(Nat.le_of_ble_eq_true rfl), (Nat.le_of_ble_eq_true rfl)⟩ (Nat.le_of_ble_eq_true rfl) d_G_passTicks_5 (fun x1 M2 => ?_)
  exact G_ireturn g (pc := 8) hret (Nat.le_of_ble_eq_true rfl) (Nat.le_of_ble_eq_true rfl) d_G_passTicks_8

theorem d_G_undoableCount_0 : decode b_G_undoableCount 0 = .ok (.aload_n 0, 1) := by decide +kernel
theorem d_G_undoableCount_1 : decode b_G_undoableCount 1 = .ok (.getfield 47, 3) := by decide +kernel
theorem d_G_undoableCount_4 : decode b_G_undoableCount 4 = .ok (.getfield 280, 3) := by decide +kernel
theorem d_G_undoableCount_7 : decode b_G_undoableCount 7 = .ok (.ireturn, 1) := by decide +kernel
def f_G_undoableCount  (M : Mem) : Option (Int32 × Mem) :=
  some (M 24 2, M)
set_option maxHeartbeats 4000000 in
set_option maxRecDepth 100000 in
theorem c_G_undoableCount (l : Launch) {w : Wc} {rr : Nat} (hw : WK w rr)  (M : Mem) : Ct QI l y_G_undoableCount b_G_undoableCount 1 (some .int) (rmL 0) w [.ref (wad w 0)] M (f_G_undoableCount  M) := by
  refine Ct.go (by decide) (L := [(0, .ref (wad w 0))]) rfl (Nat.le_of_ble_eq_true rfl) (fun p0 e s m args below meth c g hret => ?_)
  unfold f_G_undoableCount
  refine G_aload_n g (pc := 0) 0 d_G_undoableCount_0 rfl rfl ?_
  refine G_getR g (pc := 1) fa_G_47 (hw.m 0 (Nat.le_of_ble_eq_true rfl)) (hw.k (Nat.le_of_ble_eq_true rfl) (zk0 rr)) (hw.r (Nat.le_of_ble_eq_true rfl) (zr0_5 rr)) d_G_undoableCount_1 ?_
  refine G_getN g (pc := 4) fa_G_280 (hw.m 24 (Nat.le_of_ble_eq_true rfl)) (hw.k (Nat.le_of_ble_eq_true rfl) (zk24 rr)) d_G_undoableCount_4 ?_
  exact G_ireturn g (pc := 7) hret (Nat.le_of_ble_eq_true rfl) (Nat.le_of_ble_eq_true rfl) d_G_undoableCount_7

theorem d_G_undo_0 : decode b_G_undo 0 = .ok (.aload_n 0, 1) := by decide +kernel
theorem d_G_undo_1 : decode b_G_undo 1 = .ok (.getfield 47, 3) := by decide +kernel
theorem d_G_undo_4 : decode b_G_undo 4 = .ok (.getfield 280, 3) := by decide +kernel
theorem d_G_undo_7 : decode b_G_undo 7 = .ok (.iconst 1, 1) := by decide +kernel
theorem d_G_undo_8 : decode b_G_undo 8 = .ok (.if_icmp .ge 14, 3) := by decide +kernel
theorem d_G_undo_11 : decode b_G_undo 11 = .ok (.new 281, 3) := by decide +kernel
theorem d_G_undo_14 : decode b_G_undo 14 = .ok (.dup, 1) := by decide +kernel
theorem d_G_undo_15 : decode b_G_undo 15 = .ok (.ldc_w 283, 3) := by decide +kernel
theorem d_G_undo_18 : decode b_G_undo 18 = .ok (.invokespecial 285, 3) := by decide +kernel
theorem d_G_undo_21 : decode b_G_undo 21 = .ok (.athrow, 1) := by decide +kernel
theorem d_G_undo_22 : decode b_G_undo 22 = .ok (.aload_n 0, 1) := by decide +kernel
theorem d_G_undo_23 : decode b_G_undo 23 = .ok (.getfield 47, 3) := by decide +kernel
theorem d_G_undo_26 : decode b_G_undo 26 = .ok (.aload_n 0, 1) := by decide +kernel
theorem d_G_undo_27 : decode b_G_undo 27 = .ok (.getfield 33, 3) := by decide +kernel
theorem d_G_undo_30 : decode b_G_undo 30 = .ok (.invokevirtual 286, 3) := by decide +kernel
theorem d_G_undo_33 : decode b_G_undo 33 = .ok (.aload_n 0, 1) := by decide +kernel
theorem d_G_undo_34 : decode b_G_undo 34 = .ok (.getfield 47, 3) := by decide +kernel
theorem d_G_undo_37 : decode b_G_undo 37 = .ok (.getfield 280, 3) := by decide +kernel
theorem d_G_undo_40 : decode b_G_undo 40 = .ok (.ireturn, 1) := by decide +kernel
theorem cc_G_286 : CV "KiteLogger" 286 y_H_takeBack b_H_takeBack 3 none 1 := ⟨TT_in (i := 625) (by decide +kernel) (by decide +kernel), TT_in (i := 626) (by decide +kernel) (by decide +kernel), TT_in (i := 627) (by decide +kernel) (by decide +kernel), TT_in (i := 28) (by decide +kernel) (by decide +kernel), TT_in (i := 628) (by decide +kernel) (by decide +kernel), ⟨by decide +kernel, by decide +kernel, by decide +kernel⟩⟩
def f_G_undo (rr : Nat) (M : Mem) : Option (Int32 × Mem) :=
  if (M 24 2) < (1 : Int32) then (none) else (bndM (f_H_takeBack rr 10 M) fun (M2 : Mem) => some (M2 24 2, M2))
set_option maxHeartbeats 4000000 in
set_option maxRecDepth 100000 in
theorem c_G_undo (l : Launch) {w : Wc} {rr : Nat} (hw : WK w rr)  (M : Mem) : Ct QI l y_G_undo b_G_undo 1 (some .int) (rmL 5) w [.ref (wad w 0)] M (f_G_undo rr M) := by
  refine Ct.go (by decide) (L := [(0, .ref (wad w 0))]) rfl (Nat.le_of_ble_eq_true rfl) (fun p0 e s m args below meth c g hret => ?_)
  unfold f_G_undo
  refine G_aload_n g (pc := 0) 0 d_G_undo_0 rfl rfl ?_
  refine G_getR g (pc := 1) fa_G_47 (hw.m 0 (Nat.le_of_ble_eq_true rfl)) (hw.k (Nat.le_of_ble_eq_true rfl) (zk0 rr)) (hw.r (Nat.le_of_ble_eq_true rfl) (zr0_5 rr)) d_G_undo_1 ?_
  refine G_getN g (pc := 4) fa_G_280 (hw.m 24 (Nat.le_of_ble_eq_true rfl)) (hw.k (Nat.le_of_ble_eq_true rfl) (zk24 rr)) d_G_undo_4 ?_
  refine G_iconst g (pc := 7) (1 : Int32) d_G_undo_7 rfl ?_
  refine G_icmp_ge g (pc := 8) 22 d_G_undo_8 (by decide) ?_ ?_
  · exact G_none
  · refine G_aload_n g (pc := 22) 0 d_G_undo_22 rfl rfl ?_
    refine G_getR g (pc := 23) fa_G_47 (hw.m 0 (Nat.le_of_ble_eq_true rfl)) (hw.k (Nat.le_of_ble_eq_true rfl) (zk0 rr)) (hw.r (Nat.le_of_ble_eq_true rfl) (zr0_5 rr)) d_G_undo_23 ?_
    refine G_aload_n g (pc := 26) 0 d_G_undo_26 rfl rfl ?_
    refine G_getR g (pc := 27) fa_G_33 (hw.m 0 (Nat.le_of_ble_eq_true rfl)) (hw.k (Nat.le_of_ble_eq_true rfl) (zk0 rr)) (hw.r (Nat.le_of_ble_eq_true rfl) (zr0_3 rr)) d_G_undo_27 ?_
    refine G_cVV g (pc := 30) (As := [.ref (wad w 10)]) (st := []) cc_G_286 (c_H_takeBack l hw 10 (List.elem_iff.mp (rfl : List.elem 10 stL = true)) M) (hw.m 24 (Nat.le_of_ble_eq_true rfl)) (hw.k (Nat.le_of_ble_eq_true rfl) (zk24 rr)) rfl (by decide) rfl ⟨(Nat.le_of_ble_eq_true rfl), (Nat.le_of_ble_eq_true rfl)⟩ ⟨(Nat.le_of_ble_eq_true rfl), (Nat.le_of_ble_eq_true rfl)⟩ (Nat.le_of_ble_eq_true rfl) d_G_undo_30 (fun M2 => ?_)
    refine G_aload_n g (pc := 33) 0 d_G_undo_33 rfl rfl ?_
    refine G_getR g (pc := 34) fa_G_47 (hw.m 0 (Nat.le_of_ble_eq_true rfl)) (hw.k (Nat.le_of_ble_eq_true rfl) (zk0 rr)) (hw.r (Nat.le_of_ble_eq_true rfl) (zr0_5 rr)) d_G_undo_34 ?_
    refine G_getN g (pc := 37) fa_G_280 (hw.m 24 (Nat.le_of_ble_eq_true rfl)) (hw.k (Nat.le_of_ble_eq_true rfl) (zk24 rr)) d_G_undo_37 ?_
    exact G_ireturn g (pc := 40) hret (Nat.le_of_ble_eq_true rfl) (Nat.le_of_ble_eq_true rfl) d_G_undo_40

theorem d_G_saveSnapshot_0 : decode b_G_saveSnapshot 0 = .ok (.aload_n 0, 1) := by decide +kernel
theorem d_G_saveSnapshot_1 : decode b_G_saveSnapshot 1 = .ok (.getfield 51, 3) := by decide +kernel
theorem d_G_saveSnapshot_4 : decode b_G_saveSnapshot 4 = .ok (.aload_n 0, 1) := by decide +kernel
theorem d_G_saveSnapshot_5 : decode b_G_saveSnapshot 5 = .ok (.getfield 33, 3) := by decide +kernel
theorem d_G_saveSnapshot_8 : decode b_G_saveSnapshot 8 = .ok (.invokevirtual 289, 3) := by decide +kernel
theorem d_G_saveSnapshot_11 : decode b_G_saveSnapshot 11 = .ok (.aload_n 0, 1) := by decide +kernel
theorem d_G_saveSnapshot_12 : decode b_G_saveSnapshot 12 = .ok (.iconst 1, 1) := by decide +kernel
theorem d_G_saveSnapshot_13 : decode b_G_saveSnapshot 13 = .ok (.putfield 54, 3) := by decide +kernel
theorem d_G_saveSnapshot_16 : decode b_G_saveSnapshot 16 = .ok (.return_, 1) := by decide +kernel
theorem cc_G_289 : CV "KiteLogger" 289 y_T_copyFrom b_T_copyFrom 2 none 1 := ⟨TT_in (i := 656) (by decide +kernel) (by decide +kernel), TT_in (i := 635) (by decide +kernel) (by decide +kernel), TT_in (i := 636) (by decide +kernel) (by decide +kernel), TT_in (i := 24) (by decide +kernel) (by decide +kernel), TT_in (i := 637) (by decide +kernel) (by decide +kernel), ⟨by decide +kernel, by decide +kernel, by decide +kernel⟩⟩
def f_G_saveSnapshot  (M : Mem) : Option (Mem) :=
  bndM (f_T_copyFrom 130 10 M) fun (M2 : Mem) => nm (put M2 0 7 (1 : Int32)) fun (M3 : Mem) => some M3
set_option maxHeartbeats 4000000 in
set_option maxRecDepth 100000 in
theorem c_G_saveSnapshot (l : Launch) {w : Wc} {rr : Nat} (hw : WK w rr)  (M : Mem) : Ct QV l y_G_saveSnapshot b_G_saveSnapshot 1 none (rmL 4) w [.ref (wad w 0)] M (f_G_saveSnapshot  M) := by
  refine Ct.go (by decide) (L := [(0, .ref (wad w 0))]) rfl (Nat.le_of_ble_eq_true rfl) (fun p0 e s m args below meth c g hret => ?_)
  unfold f_G_saveSnapshot
  refine G_aload_n g (pc := 0) 0 d_G_saveSnapshot_0 rfl rfl ?_
  refine G_getR g (pc := 1) fa_G_51 (hw.m 0 (Nat.le_of_ble_eq_true rfl)) (hw.k (Nat.le_of_ble_eq_true rfl) (zk0 rr)) (hw.r (Nat.le_of_ble_eq_true rfl) (zr0_6 rr)) d_G_saveSnapshot_1 ?_
  refine G_aload_n g (pc := 4) 0 d_G_saveSnapshot_4 rfl rfl ?_
  refine G_getR g (pc := 5) fa_G_33 (hw.m 0 (Nat.le_of_ble_eq_true rfl)) (hw.k (Nat.le_of_ble_eq_true rfl) (zk0 rr)) (hw.r (Nat.le_of_ble_eq_true rfl) (zr0_3 rr)) d_G_saveSnapshot_5 ?_
  refine G_cVV g (pc := 8) (As := [.ref (wad w 10)]) (st := []) cc_G_289 (c_T_copyFrom l hw 130 (List.elem_iff.mp (rfl : List.elem 130 stL = true)) 10 (List.elem_iff.mp (rfl : List.elem 10 stL = true)) M) (hw.m 130 (Nat.le_of_ble_eq_true rfl)) (hw.k (Nat.le_of_ble_eq_true rfl) (zk130 rr)) rfl (by decide) rfl ⟨(Nat.le_of_ble_eq_true rfl), (Nat.le_of_ble_eq_true rfl)⟩ ⟨(Nat.le_of_ble_eq_true rfl), (Nat.le_of_ble_eq_true rfl)⟩ (Nat.le_of_ble_eq_true rfl) d_G_saveSnapshot_8 (fun M2 => ?_)
  refine G_aload_n g (pc := 11) 0 d_G_saveSnapshot_11 rfl rfl ?_
  refine G_iconst g (pc := 12) (1 : Int32) d_G_saveSnapshot_12 rfl ?_
  refine G_put g (pc := 13) fa_G_54 fw_9_7 rfl rfl (hw.m 0 (Nat.le_of_ble_eq_true rfl)) (hw.k (Nat.le_of_ble_eq_true rfl) (zk0 rr)) d_G_saveSnapshot_13 ?_
  refine G_nmM (fun M3 => ?_)
  exact G_return g (pc := 16) hret (Nat.le_of_ble_eq_true rfl) (Nat.le_of_ble_eq_true rfl) d_G_saveSnapshot_16

theorem d_G_restoreSnapshot_0 : decode b_G_restoreSnapshot 0 = .ok (.aload_n 0, 1) := by decide +kernel
theorem d_G_restoreSnapshot_1 : decode b_G_restoreSnapshot 1 = .ok (.getfield 54, 3) := by decide +kernel
theorem d_G_restoreSnapshot_4 : decode b_G_restoreSnapshot 4 = .ok (.ifCond .ne 14, 3) := by decide +kernel
theorem d_G_restoreSnapshot_7 : decode b_G_restoreSnapshot 7 = .ok (.new 281, 3) := by decide +kernel
theorem d_G_restoreSnapshot_10 : decode b_G_restoreSnapshot 10 = .ok (.dup, 1) := by decide +kernel
theorem d_G_restoreSnapshot_11 : decode b_G_restoreSnapshot 11 = .ok (.ldc_w 291, 3) := by decide +kernel
theorem d_G_restoreSnapshot_14 : decode b_G_restoreSnapshot 14 = .ok (.invokespecial 285, 3) := by decide +kernel
theorem d_G_restoreSnapshot_17 : decode b_G_restoreSnapshot 17 = .ok (.athrow, 1) := by decide +kernel
theorem d_G_restoreSnapshot_18 : decode b_G_restoreSnapshot 18 = .ok (.aload_n 0, 1) := by decide +kernel
theorem d_G_restoreSnapshot_19 : decode b_G_restoreSnapshot 19 = .ok (.getfield 33, 3) := by decide +kernel
theorem d_G_restoreSnapshot_22 : decode b_G_restoreSnapshot 22 = .ok (.aload_n 0, 1) := by decide +kernel
theorem d_G_restoreSnapshot_23 : decode b_G_restoreSnapshot 23 = .ok (.getfield 51, 3) := by decide +kernel
theorem d_G_restoreSnapshot_26 : decode b_G_restoreSnapshot 26 = .ok (.invokevirtual 289, 3) := by decide +kernel
theorem d_G_restoreSnapshot_29 : decode b_G_restoreSnapshot 29 = .ok (.aload_n 0, 1) := by decide +kernel
theorem d_G_restoreSnapshot_30 : decode b_G_restoreSnapshot 30 = .ok (.getfield 47, 3) := by decide +kernel
theorem d_G_restoreSnapshot_33 : decode b_G_restoreSnapshot 33 = .ok (.invokevirtual 88, 3) := by decide +kernel
theorem d_G_restoreSnapshot_36 : decode b_G_restoreSnapshot 36 = .ok (.aload_n 0, 1) := by decide +kernel
theorem d_G_restoreSnapshot_37 : decode b_G_restoreSnapshot 37 = .ok (.getfield 33, 3) := by decide +kernel
theorem d_G_restoreSnapshot_40 : decode b_G_restoreSnapshot 40 = .ok (.getfield 100, 3) := by decide +kernel
theorem d_G_restoreSnapshot_43 : decode b_G_restoreSnapshot 43 = .ok (.ireturn, 1) := by decide +kernel
def f_G_restoreSnapshot  (M : Mem) : Option (Int32 × Mem) :=
  bcase (M 0 7) fun (b1 : Bool) => if b1 = true then (bndM (f_T_copyFrom 10 130 M) fun (M3 : Mem) => bndM (f_H_forget M3) fun (M5 : Mem) => some (M5 10 7, M5)) else (none)
set_option maxHeartbeats 4000000 in
set_option maxRecDepth 100000 in
theorem c_G_restoreSnapshot (l : Launch) {w : Wc} {rr : Nat} (hw : WK w rr)  (M : Mem) : Ct QI l y_G_restoreSnapshot b_G_restoreSnapshot 1 (some .int) (rmL 4) w [.ref (wad w 0)] M (f_G_restoreSnapshot  M) := by
  refine Ct.go (by decide) (L := [(0, .ref (wad w 0))]) rfl (Nat.le_of_ble_eq_true rfl) (fun p0 e s m args below meth c g hret => ?_)
  unfold f_G_restoreSnapshot
  refine G_aload_n g (pc := 0) 0 d_G_restoreSnapshot_0 rfl rfl ?_
  refine G_get g (pc := 1) fa_G_54 (hw.m 0 (Nat.le_of_ble_eq_true rfl)) (hw.k (Nat.le_of_ble_eq_true rfl) (zk0 rr)) d_G_restoreSnapshot_1 ?_
  refine G_bcase (fun b1 => ?_)
  refine G_if_neB g (pc := 4) 18 d_G_restoreSnapshot_4 (by decide) ?_ ?_
  · refine G_aload_n g (pc := 18) 0 d_G_restoreSnapshot_18 rfl rfl ?_
    refine G_getR g (pc := 19) fa_G_33 (hw.m 0 (Nat.le_of_ble_eq_true rfl)) (hw.k (Nat.le_of_ble_eq_true rfl) (zk0 rr)) (hw.r (Nat.le_of_ble_eq_true rfl) (zr0_3 rr)) d_G_restoreSnapshot_19 ?_
    refine G_aload_n g (pc := 22) 0 d_G_restoreSnapshot_22 rfl rfl ?_
    refine G_getR g (pc := 23) fa_G_51 (hw.m 0 (Nat.le_of_ble_eq_true rfl)) (hw.k (Nat.le_of_ble_eq_true rfl) (zk0 rr)) (hw.r (Nat.le_of_ble_eq_true rfl) (zr0_6 rr)) d_G_restoreSnapshot_23 ?_
    refine G_cVV g (pc := 26) (As := [.ref (wad w 130)]) (st := []) cc_G_289 (c_T_copyFrom l hw 10 (List.elem_iff.mp (rfl : List.elem 10 stL = true)) 130 (List.elem_iff.mp (rfl : List.elem 130 stL = true)) M) (hw.m 10 (Nat.le_of_ble_eq_true rfl)) (hw.k (Nat.le_of_ble_eq_true rfl) (zk10 rr)) rfl (by decide) rfl ⟨(Nat.le_of_ble_eq_true rfl), (Nat.le_of_ble_eq_true rfl)⟩ ⟨(Nat.le_of_ble_eq_true rfl), (Nat.le_of_ble_eq_true rfl)⟩ (Nat.le_of_ble_eq_true rfl) d_G_restoreSnapshot_26 (fun M3 => ?_)
    refine G_aload_n g (pc := 29) 0 d_G_restoreSnapshot_29 rfl rfl ?_
    refine G_getR g (pc := 30) fa_G_47 (hw.m 0 (Nat.le_of_ble_eq_true rfl)) (hw.k (Nat.le_of_ble_eq_true rfl) (zk0 rr)) (hw.r (Nat.le_of_ble_eq_true rfl) (zr0_5 rr)) d_G_restoreSnapshot_30 ?_
    refine G_cVV g (pc := 33) (As := []) (st := []) cc_G_88 (c_H_forget l hw M3) (hw.m 24 (Nat.le_of_ble_eq_true rfl)) (hw.k (Nat.le_of_ble_eq_true rfl) (zk24 rr)) rfl (by decide) rfl ⟨(Nat.le_of_ble_eq_true rfl), (Nat.le_of_ble_eq_true rfl)⟩ ⟨(Nat.le_of_ble_eq_true rfl), (Nat.le_of_ble_eq_true rfl)⟩ (Nat.le_of_ble_eq_true rfl) d_G_restoreSnapshot_33 (fun M5 => ?_)
    refine G_aload_n g (pc := 36) 0 d_G_restoreSnapshot_36 rfl rfl ?_
    refine G_getR g (pc := 37) fa_G_33 (hw.m 0 (Nat.le_of_ble_eq_true rfl)) (hw.k (Nat.le_of_ble_eq_true rfl) (zk0 rr)) (hw.r (Nat.le_of_ble_eq_true rfl) (zr0_3 rr)) d_G_restoreSnapshot_37 ?_
    refine G_getN g (pc := 40) fa_G_100 (hw.m 10 (Nat.le_of_ble_eq_true rfl)) (hw.k (Nat.le_of_ble_eq_true rfl) (zk10 rr)) d_G_restoreSnapshot_40 ?_
    exact G_ireturn g (pc := 43) hret (Nat.le_of_ble_eq_true rfl) (Nat.le_of_ble_eq_true rfl) d_G_restoreSnapshot_43
  · exact G_none
