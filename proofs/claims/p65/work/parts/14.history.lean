theorem d_H_forget_0 : decode b_H_forget 0 = .ok (.aload_n 0, 1) := by decide +kernel
theorem d_H_forget_1 : decode b_H_forget 1 = .ok (.iconst 0, 1) := by decide +kernel
theorem d_H_forget_2 : decode b_H_forget 2 = .ok (.putfield 17, 3) := by decide +kernel
theorem d_H_forget_5 : decode b_H_forget 5 = .ok (.aload_n 0, 1) := by decide +kernel
theorem d_H_forget_6 : decode b_H_forget 6 = .ok (.iconst 0, 1) := by decide +kernel
theorem d_H_forget_7 : decode b_H_forget 7 = .ok (.putfield 21, 3) := by decide +kernel
theorem d_H_forget_10 : decode b_H_forget 10 = .ok (.return_, 1) := by decide +kernel
def f_H_forget  (M : Mem) : Option (Mem) :=
  nm (put M 24 1 (0 : Int32)) fun (M1 : Mem) => nm (put M1 24 2 (0 : Int32)) fun (M2 : Mem) => some M2
set_option maxHeartbeats 4000000 in
set_option maxRecDepth 100000 in
theorem c_H_forget (l : Launch) {w : Wc} {rr : Nat} (hw : WK w rr)  (M : Mem) : Ct QV l y_H_forget b_H_forget 1 none (rmL 0) w [.ref (wad w 24)] M (f_H_forget  M) := by
  refine Ct.go (by decide) (L := [(0, .ref (wad w 24))]) rfl (Nat.le_of_ble_eq_true rfl) (fun p0 e s m args below meth c g hret => ?_)
  unfold f_H_forget
  refine G_aload_n g (pc := 0) 0 d_H_forget_0 rfl rfl ?_
  refine G_iconst g (pc := 1) (0 : Int32) d_H_forget_1 rfl ?_
  refine G_put g (pc := 2) fa_H_17 fw_0_1 rfl rfl (hw.m 24 (Nat.le_of_ble_eq_true rfl)) (hw.k (Nat.le_of_ble_eq_true rfl) (zk24 rr)) d_H_forget_2 ?_
  refine G_nmM (fun M1 => ?_)
  refine G_aload_n g (pc := 5) 0 d_H_forget_5 rfl rfl ?_
  refine G_iconst g (pc := 6) (0 : Int32) d_H_forget_6 rfl ?_
  refine G_put g (pc := 7) fa_H_21 fw_0_2 rfl rfl (hw.m 24 (Nat.le_of_ble_eq_true rfl)) (hw.k (Nat.le_of_ble_eq_true rfl) (zk24 rr)) d_H_forget_7 ?_
  refine G_nmM (fun M2 => ?_)
  exact G_return g (pc := 10) hret (Nat.le_of_ble_eq_true rfl) (Nat.le_of_ble_eq_true rfl) d_H_forget_10

theorem d_H_placeAt_0 : decode b_H_placeAt 0 = .ok (.iload_n 1, 1) := by decide +kernel
theorem d_H_placeAt_1 : decode b_H_placeAt 1 = .ok (.ifCond .lt 21, 3) := by decide +kernel
theorem d_H_placeAt_4 : decode b_H_placeAt 4 = .ok (.iload_n 1, 1) := by decide +kernel
theorem d_H_placeAt_5 : decode b_H_placeAt 5 = .ok (.aload_n 0, 1) := by decide +kernel
theorem d_H_placeAt_6 : decode b_H_placeAt 6 = .ok (.getfield 11, 3) := by decide +kernel
theorem d_H_placeAt_9 : decode b_H_placeAt 9 = .ok (.arraylength, 1) := by decide +kernel
theorem d_H_placeAt_10 : decode b_H_placeAt 10 = .ok (.if_icmp .ge 12, 3) := by decide +kernel
theorem d_H_placeAt_13 : decode b_H_placeAt 13 = .ok (.aload_n 0, 1) := by decide +kernel
theorem d_H_placeAt_14 : decode b_H_placeAt 14 = .ok (.getfield 11, 3) := by decide +kernel
theorem d_H_placeAt_17 : decode b_H_placeAt 17 = .ok (.iload_n 1, 1) := by decide +kernel
theorem d_H_placeAt_18 : decode b_H_placeAt 18 = .ok (.aaload, 1) := by decide +kernel
theorem d_H_placeAt_19 : decode b_H_placeAt 19 = .ok (.goto 4, 3) := by decide +kernel
theorem d_H_placeAt_22 : decode b_H_placeAt 22 = .ok (.aconst_null, 1) := by decide +kernel
theorem d_H_placeAt_23 : decode b_H_placeAt 23 = .ok (.areturn, 1) := by decide +kernel
def f_H_placeAt (rr : Nat) (a1 : Int32) (M : Mem) : Option (Option Nat × Mem) :=
  if a1 < 0 then (some (none, M)) else (if a1 < (8 : Int32) then (grd (inB a1 8) (some ((Z0 rr 25).2.2 a1.toNatClampNeg, M))) else (some (none, M)))
set_option maxHeartbeats 4000000 in
set_option maxRecDepth 100000 in
theorem c_H_placeAt (l : Launch) {w : Wc} {rr : Nat} (hw : WK w rr) (a1 : Int32) (M : Mem) : Ct QR l y_H_placeAt b_H_placeAt 2 (some (.object "KiteLogger$Station")) (rmL 0) w [.ref (wad w 24), .int a1] M (f_H_placeAt rr a1 M) := by
  refine Ct.go (by decide) (L := [(0, .ref (wad w 24)), (1, .int a1)]) rfl (Nat.le_of_ble_eq_true rfl) (fun p0 e s m args below meth c g hret => ?_)
  unfold f_H_placeAt
  refine G_iload_n g (pc := 0) 1 d_H_placeAt_0 rfl rfl ?_
  refine G_if_lt g (pc := 1) 22 d_H_placeAt_1 (by decide) ?_ ?_
  · refine G_null g (pc := 22) d_H_placeAt_22 ?_
    exact G_areturn g (pc := 23) (none) rfl hret (Or.inl ⟨_, rfl⟩) (Nat.le_of_ble_eq_true rfl) (Nat.le_of_ble_eq_true rfl) d_H_placeAt_23
  · refine G_iload_n g (pc := 4) 1 d_H_placeAt_4 rfl rfl ?_
    refine G_aload_n g (pc := 5) 0 d_H_placeAt_5 rfl rfl ?_
    refine G_getR g (pc := 6) fa_H_11 (hw.m 24 (Nat.le_of_ble_eq_true rfl)) (hw.k (Nat.le_of_ble_eq_true rfl) (zk24 rr)) (hw.r (Nat.le_of_ble_eq_true rfl) (zr24_0 rr)) d_H_placeAt_6 ?_
    refine G_alenS g (pc := 9) (8 : Int32) (hw.m 25 (Nat.le_of_ble_eq_true rfl)) (hw.k (Nat.le_of_ble_eq_true rfl) (zk25 rr)) (by rw [(hw.n (Nat.le_of_ble_eq_true rfl) (zn25 rr))]; rfl) d_H_placeAt_9 ?_
    refine G_icmp_ge g (pc := 10) 22 d_H_placeAt_10 (by decide) ?_ ?_
    · refine G_aload_n g (pc := 13) 0 d_H_placeAt_13 rfl rfl ?_
      refine G_getR g (pc := 14) fa_H_11 (hw.m 24 (Nat.le_of_ble_eq_true rfl)) (hw.k (Nat.le_of_ble_eq_true rfl) (zk24 rr)) (hw.r (Nat.le_of_ble_eq_true rfl) (zr24_0 rr)) d_H_placeAt_14 ?_
      refine G_iload_n g (pc := 17) 1 d_H_placeAt_17 rfl rfl ?_
      refine G_aldS g (pc := 18) (nn := 8) (hw.m 25 (Nat.le_of_ble_eq_true rfl)) (hw.k (Nat.le_of_ble_eq_true rfl) (zk25 rr)) (hw.n (Nat.le_of_ble_eq_true rfl) (zn25 rr)) d_H_placeAt_18 ?_
      rw [hw.1 25 (Nat.le_of_ble_eq_true rfl)]
      refine G_goto g (pc := 19) 23 d_H_placeAt_19 (by decide) ?_
      exact G_areturn g (pc := 23) ((Z0 rr 25).2.2 a1.toNatClampNeg) rfl hret (Or.inl ⟨_, rfl⟩) (Nat.le_of_ble_eq_true rfl) (Nat.le_of_ble_eq_true rfl) d_H_placeAt_23
    · refine G_null g (pc := 22) d_H_placeAt_22 ?_
      exact G_areturn g (pc := 23) (none) rfl hret (Or.inl ⟨_, rfl⟩) (Nat.le_of_ble_eq_true rfl) (Nat.le_of_ble_eq_true rfl) d_H_placeAt_23

theorem d_H_remember_0 : decode b_H_remember 0 = .ok (.aload_n 0, 1) := by decide +kernel
theorem d_H_remember_1 : decode b_H_remember 1 = .ok (.aload_n 0, 1) := by decide +kernel
theorem d_H_remember_2 : decode b_H_remember 2 = .ok (.getfield 17, 3) := by decide +kernel
theorem d_H_remember_5 : decode b_H_remember 5 = .ok (.invokevirtual 25, 3) := by decide +kernel
theorem d_H_remember_8 : decode b_H_remember 8 = .ok (.astore_n 2, 1) := by decide +kernel
theorem d_H_remember_9 : decode b_H_remember 9 = .ok (.aload_n 2, 1) := by decide +kernel
theorem d_H_remember_10 : decode b_H_remember 10 = .ok (.ifnull 8, 3) := by decide +kernel
theorem d_H_remember_13 : decode b_H_remember 13 = .ok (.aload_n 2, 1) := by decide +kernel
theorem d_H_remember_14 : decode b_H_remember 14 = .ok (.aload_n 1, 1) := by decide +kernel
theorem d_H_remember_15 : decode b_H_remember 15 = .ok (.invokevirtual 29, 3) := by decide +kernel
theorem d_H_remember_18 : decode b_H_remember 18 = .ok (.aload_n 0, 1) := by decide +kernel
theorem d_H_remember_19 : decode b_H_remember 19 = .ok (.aload_n 0, 1) := by decide +kernel
theorem d_H_remember_20 : decode b_H_remember 20 = .ok (.getfield 17, 3) := by decide +kernel
theorem d_H_remember_23 : decode b_H_remember 23 = .ok (.iconst 1, 1) := by decide +kernel
theorem d_H_remember_24 : decode b_H_remember 24 = .ok (.iadd, 1) := by decide +kernel
theorem d_H_remember_25 : decode b_H_remember 25 = .ok (.bipush 8, 2) := by decide +kernel
theorem d_H_remember_27 : decode b_H_remember 27 = .ok (.irem, 1) := by decide +kernel
theorem d_H_remember_28 : decode b_H_remember 28 = .ok (.putfield 17, 3) := by decide +kernel
theorem d_H_remember_31 : decode b_H_remember 31 = .ok (.aload_n 0, 1) := by decide +kernel
theorem d_H_remember_32 : decode b_H_remember 32 = .ok (.aload_n 0, 1) := by decide +kernel
theorem d_H_remember_33 : decode b_H_remember 33 = .ok (.getfield 21, 3) := by decide +kernel
theorem d_H_remember_36 : decode b_H_remember 36 = .ok (.iconst 1, 1) := by decide +kernel
theorem d_H_remember_37 : decode b_H_remember 37 = .ok (.iadd, 1) := by decide +kernel
theorem d_H_remember_38 : decode b_H_remember 38 = .ok (.bipush 8, 2) := by decide +kernel
theorem d_H_remember_40 : decode b_H_remember 40 = .ok (.invokestatic 33, 3) := by decide +kernel
theorem d_H_remember_43 : decode b_H_remember 43 = .ok (.putfield 21, 3) := by decide +kernel
theorem d_H_remember_46 : decode b_H_remember 46 = .ok (.return_, 1) := by decide +kernel
theorem cc_H_25 : CV "KiteLogger$History" 25 y_H_placeAt b_H_placeAt 2 (some (.object "KiteLogger$Station")) 1 := ⟨TT_in (i := 630) (by decide +kernel) (by decide +kernel), TT_in (i := 632) (by decide +kernel) (by decide +kernel), TT_in (i := 6) (by decide +kernel) (by decide +kernel), TT_in (i := 28) (by decide +kernel) (by decide +kernel), TT_in (i := 633) (by decide +kernel) (by decide +kernel), ⟨by decide +kernel, by decide +kernel, by decide +kernel⟩⟩
theorem ma_H_33 : Cond.methodLink "KiteLogger$History" 33 Lib.Math.min.name ∈ TT ∧ Cond.static Lib.Math.min.name ∈ TT ∧ Cond.initialized "java/lang/Math" ∈ TT ∧ Cond.code Lib.Math.min.name Lib.Math.min.code 2 (some .int) ∈ TT := ⟨TT_in (i := 1044) (by decide +kernel) (by decide +kernel), TT_in (i := 107) (by decide +kernel) (by decide +kernel), TT_in (i := 21) (by decide +kernel) (by decide +kernel), TT_in (i := 108) (by decide +kernel) (by decide +kernel)⟩
theorem cc_H_29 : CV "KiteLogger$History" 29 y_T_copyFrom b_T_copyFrom 2 none 1 := ⟨TT_in (i := 634) (by decide +kernel) (by decide +kernel), TT_in (i := 635) (by decide +kernel) (by decide +kernel), TT_in (i := 636) (by decide +kernel) (by decide +kernel), TT_in (i := 24) (by decide +kernel) (by decide +kernel), TT_in (i := 637) (by decide +kernel) (by decide +kernel), ⟨by decide +kernel, by decide +kernel, by decide +kernel⟩⟩
def f_H_remember (rr : Nat) (a1 : Nat) (M : Mem) : Option (Mem) :=
  bnd (f_H_placeAt rr (M 24 1) M) fun (x1 : Option Nat) (M2 : Mem) => ocase x1 (nm (put M2 24 1 (irm ((M2 24 1) + (1 : Int32)) (8 : Int32))) fun (M4 : Mem) => nm (put M4 24 2 (imin ((M4 24 2) + (1 : Int32)) (8 : Int32))) fun (M5 : Mem) => some M5) (fun (q3 : Nat) => bndM (f_T_copyFrom q3 a1 M2) fun (M7 : Mem) => nm (put M7 24 1 (irm ((M7 24 1) + (1 : Int32)) (8 : Int32))) fun (M8 : Mem) => nm (put M8 24 2 (imin ((M8 24 2) + (1 : Int32)) (8 : Int32))) fun (M9 : Mem) => some M9)
set_option maxHeartbeats 4000000 in
set_option maxRecDepth 100000 in
theorem c_H_remember (l : Launch) {w : Wc} {rr : Nat} (hw : WK w rr) (a1 : Nat) (ha1 : a1 ∈ stL) (M : Mem) : Ct QV l y_H_remember b_H_remember 3 none (rmL 4) w [.ref (wad w 24), .ref (wad w a1)] M (f_H_remember rr a1 M) := by
  refine Ct.go (by decide) (L := [(0, .ref (wad w 24)), (1, .ref (wad w a1))]) rfl (Nat.le_of_ble_eq_true rfl) (fun p0 e s m args below meth c g hret => ?_)
  unfold f_H_remember
  refine G_aload_n g (pc := 0) 0 d_H_remember_0 rfl rfl ?_
  refine G_aload_n g (pc := 1) 0 d_H_remember_1 rfl rfl ?_
  refine G_get g (pc := 2) fa_H_17 (hw.m 24 (Nat.le_of_ble_eq_true rfl)) (hw.k (Nat.le_of_ble_eq_true rfl) (zk24 rr)) d_H_remember_2 ?_
  refine G_cVR g (pc := 5) (As := [.int (M 24 1)]) (st := []) cc_H_25 (c_H_placeAt l hw (M 24 1) M) (hw.m 24 (Nat.le_of_ble_eq_true rfl)) (hw.k (Nat.le_of_ble_eq_true rfl) (zk24 rr)) rfl (by decide) rfl ⟨(Nat.le_of_ble_eq_true rfl), (Nat.le_of_ble_eq_true rfl)⟩ ⟨(Nat.le_of_ble_eq_true rfl), (Nat.le_of_ble_eq_true rfl)⟩ (Nat.le_of_ble_eq_true rfl) d_H_remember_5 (fun x1 M2 => ?_)
  refine G_ocase ?_ (fun q3 hq3 => ?_)
  · refine G_astore_nN g (pc := 8) _ d_H_remember_8 rfl (Nat.le_of_ble_eq_true rfl) rfl ?_
    refine G_aload_nN g (pc := 9) 0 d_H_remember_9 rfl rfl ?_
    refine G_ifnullN g (pc := 10) 18 d_H_remember_10 (by decide) ?_
    refine G_aload_n g (pc := 18) 1 d_H_remember_18 rfl rfl ?_
    refine G_aload_n g (pc := 19) 1 d_H_remember_19 rfl rfl ?_
    refine G_get g (pc := 20) fa_H_17 (hw.m 24 (Nat.le_of_ble_eq_true rfl)) (hw.k (Nat.le_of_ble_eq_true rfl) (zk24 rr)) d_H_remember_20 ?_
    refine G_iconst g (pc := 23) (1 : Int32) d_H_remember_23 rfl ?_
    refine G_iadd g (pc := 24) d_H_remember_24 ?_
    refine G_bipush g (pc := 25) (8 : Int32) d_H_remember_25 rfl ?_
    refine G_iremK g (pc := 27) (by decide) d_H_remember_27 ?_
    refine G_put g (pc := 28) fa_H_17 fw_0_1 rfl rfl (hw.m 24 (Nat.le_of_ble_eq_true rfl)) (hw.k (Nat.le_of_ble_eq_true rfl) (zk24 rr)) d_H_remember_28 ?_
    refine G_nmM (fun M4 => ?_)
    refine G_aload_n g (pc := 31) 1 d_H_remember_31 rfl rfl ?_
    refine G_aload_n g (pc := 32) 1 d_H_remember_32 rfl rfl ?_
    refine G_get g (pc := 33) fa_H_21 (hw.m 24 (Nat.le_of_ble_eq_true rfl)) (hw.k (Nat.le_of_ble_eq_true rfl) (zk24 rr)) d_H_remember_33 ?_
    refine G_iconst g (pc := 36) (1 : Int32) d_H_remember_36 rfl ?_
    refine G_iadd g (pc := 37) d_H_remember_37 ?_
    refine G_bipush g (pc := 38) (8 : Int32) d_H_remember_38 rfl ?_
    refine G_mmin g (pc := 40) ma_H_33 ⟨(Nat.le_of_ble_eq_true rfl), (Nat.le_of_ble_eq_true rfl), (Nat.le_of_ble_eq_true rfl), (Nat.le_of_ble_eq_true rfl)⟩ d_H_remember_40 ?_
    refine G_put g (pc := 43) fa_H_21 fw_0_2 rfl rfl (hw.m 24 (Nat.le_of_ble_eq_true rfl)) (hw.k (Nat.le_of_ble_eq_true rfl) (zk24 rr)) d_H_remember_43 ?_
    refine G_nmM (fun M5 => ?_)
    exact G_return g (pc := 46) hret (Nat.le_of_ble_eq_true rfl) (Nat.le_of_ble_eq_true rfl) d_H_remember_46
  · refine G_astore_n g (pc := 8) _ d_H_remember_8 rfl (Nat.le_of_ble_eq_true rfl) rfl ?_
    refine G_aload_n g (pc := 9) 0 d_H_remember_9 rfl rfl ?_
    refine G_ifnull g (pc := 10) d_H_remember_10 ?_
    refine G_aload_n g (pc := 13) 0 d_H_remember_13 rfl rfl ?_
    refine G_aload_n g (pc := 14) 2 d_H_remember_14 rfl rfl ?_
    refine G_cVV g (pc := 15) (As := [.ref (wad w a1)]) (st := []) cc_H_29 (c_T_copyFrom l hw q3 hq3 a1 ha1 M2) (hw.m _ (st_lt0 hq3)) (hw.k (st_lt0 hq3) (st_k0 hq3)) rfl (by decide) rfl ⟨(Nat.le_of_ble_eq_true rfl), (Nat.le_of_ble_eq_true rfl)⟩ ⟨(Nat.le_of_ble_eq_true rfl), (Nat.le_of_ble_eq_true rfl)⟩ (Nat.le_of_ble_eq_true rfl) d_H_remember_15 (fun M7 => ?_)
    refine G_aload_n g (pc := 18) 1 d_H_remember_18 rfl rfl ?_
    refine G_aload_n g (pc := 19) 1 d_H_remember_19 rfl rfl ?_
    refine G_get g (pc := 20) fa_H_17 (hw.m 24 (Nat.le_of_ble_eq_true rfl)) (hw.k (Nat.le_of_ble_eq_true rfl) (zk24 rr)) d_H_remember_20 ?_
    refine G_iconst g (pc := 23) (1 : Int32) d_H_remember_23 rfl ?_
    refine G_iadd g (pc := 24) d_H_remember_24 ?_
    refine G_bipush g (pc := 25) (8 : Int32) d_H_remember_25 rfl ?_
    refine G_iremK g (pc := 27) (by decide) d_H_remember_27 ?_
    refine G_put g (pc := 28) fa_H_17 fw_0_1 rfl rfl (hw.m 24 (Nat.le_of_ble_eq_true rfl)) (hw.k (Nat.le_of_ble_eq_true rfl) (zk24 rr)) d_H_remember_28 ?_
    refine G_nmM (fun M8 => ?_)
    refine G_aload_n g (pc := 31) 1 d_H_remember_31 rfl rfl ?_
    refine G_aload_n g (pc := 32) 1 d_H_remember_32 rfl rfl ?_
    refine G_get g (pc := 33) fa_H_21 (hw.m 24 (Nat.le_of_ble_eq_true rfl)) (hw.k (Nat.le_of_ble_eq_true rfl) (zk24 rr)) d_H_remember_33 ?_
    refine G_iconst g (pc := 36) (1 : Int32) d_H_remember_36 rfl ?_
    refine G_iadd g (pc := 37) d_H_remember_37 ?_
    refine G_bipush g (pc := 38) (8 : Int32) d_H_remember_38 rfl ?_
    refine G_mmin g (pc := 40) ma_H_33 ⟨(Nat.le_of_ble_eq_true rfl), (Nat.le_of_ble_eq_true rfl), (Nat.le_of_ble_eq_true rfl), (Nat.le_of_ble_eq_true rfl)⟩ d_H_remember_40 ?_
    refine G_put g (pc := 43) fa_H_21 fw_0_2 rfl rfl (hw.m 24 (Nat.le_of_ble_eq_true rfl)) (hw.k (Nat.le_of_ble_eq_true rfl) (zk24 rr)) d_H_remember_43 ?_
    refine G_nmM (fun M9 => ?_)
    exact G_return g (pc := 46) hret (Nat.le_of_ble_eq_true rfl) (Nat.le_of_ble_eq_true rfl) d_H_remember_46

theorem d_H_takeBack_0 : decode b_H_takeBack 0 = .ok (.aload_n 0, 1) := by decide +kernel
theorem d_H_takeBack_1 : decode b_H_takeBack 1 = .ok (.aload_n 0, 1) := by decide +kernel
theorem d_H_takeBack_2 : decode b_H_takeBack 2 = .ok (.getfield 17, 3) := by decide +kernel
theorem d_H_takeBack_5 : decode b_H_takeBack 5 = .ok (.bipush 8, 2) := by decide +kernel
theorem d_H_takeBack_7 : decode b_H_takeBack 7 = .ok (.iadd, 1) := by decide +kernel
theorem d_H_takeBack_8 : decode b_H_takeBack 8 = .ok (.iconst 1, 1) := by decide +kernel
theorem d_H_takeBack_9 : decode b_H_takeBack 9 = .ok (.isub, 1) := by decide +kernel
theorem d_H_takeBack_10 : decode b_H_takeBack 10 = .ok (.bipush 8, 2) := by decide +kernel
theorem d_H_takeBack_12 : decode b_H_takeBack 12 = .ok (.irem, 1) := by decide +kernel
theorem d_H_takeBack_13 : decode b_H_takeBack 13 = .ok (.putfield 17, 3) := by decide +kernel
theorem d_H_takeBack_16 : decode b_H_takeBack 16 = .ok (.aload_n 0, 1) := by decide +kernel
theorem d_H_takeBack_17 : decode b_H_takeBack 17 = .ok (.aload_n 0, 1) := by decide +kernel
theorem d_H_takeBack_18 : decode b_H_takeBack 18 = .ok (.getfield 21, 3) := by decide +kernel
theorem d_H_takeBack_21 : decode b_H_takeBack 21 = .ok (.iconst 1, 1) := by decide +kernel
theorem d_H_takeBack_22 : decode b_H_takeBack 22 = .ok (.isub, 1) := by decide +kernel
theorem d_H_takeBack_23 : decode b_H_takeBack 23 = .ok (.iconst 0, 1) := by decide +kernel
theorem d_H_takeBack_24 : decode b_H_takeBack 24 = .ok (.invokestatic 39, 3) := by decide +kernel
theorem d_H_takeBack_27 : decode b_H_takeBack 27 = .ok (.putfield 21, 3) := by decide +kernel
theorem d_H_takeBack_30 : decode b_H_takeBack 30 = .ok (.aload_n 0, 1) := by decide +kernel
theorem d_H_takeBack_31 : decode b_H_takeBack 31 = .ok (.aload_n 0, 1) := by decide +kernel
theorem d_H_takeBack_32 : decode b_H_takeBack 32 = .ok (.getfield 17, 3) := by decide +kernel
theorem d_H_takeBack_35 : decode b_H_takeBack 35 = .ok (.invokevirtual 25, 3) := by decide +kernel
theorem d_H_takeBack_38 : decode b_H_takeBack 38 = .ok (.astore_n 2, 1) := by decide +kernel
theorem d_H_takeBack_39 : decode b_H_takeBack 39 = .ok (.aload_n 2, 1) := by decide +kernel
theorem d_H_takeBack_40 : decode b_H_takeBack 40 = .ok (.ifnull 8, 3) := by decide +kernel
theorem d_H_takeBack_43 : decode b_H_takeBack 43 = .ok (.aload_n 1, 1) := by decide +kernel
theorem d_H_takeBack_44 : decode b_H_takeBack 44 = .ok (.aload_n 2, 1) := by decide +kernel
theorem d_H_takeBack_45 : decode b_H_takeBack 45 = .ok (.invokevirtual 29, 3) := by decide +kernel
theorem d_H_takeBack_48 : decode b_H_takeBack 48 = .ok (.return_, 1) := by decide +kernel
theorem ma_H_39 : Cond.methodLink "KiteLogger$History" 39 Lib.Math.max.name ∈ TT ∧ Cond.static Lib.Math.max.name ∈ TT ∧ Cond.initialized "java/lang/Math" ∈ TT ∧ Cond.code Lib.Math.max.name Lib.Math.max.code 2 (some .int) ∈ TT := ⟨TT_in (i := 629) (by decide +kernel) (by decide +kernel), TT_in (i := 255) (by decide +kernel) (by decide +kernel), TT_in (i := 21) (by decide +kernel) (by decide +kernel), TT_in (i := 256) (by decide +kernel) (by decide +kernel)⟩
def f_H_takeBack (rr : Nat) (a1 : Nat) (M : Mem) : Option (Mem) :=
  nm (put M 24 1 (irm (((M 24 1) + (8 : Int32)) - (1 : Int32)) (8 : Int32))) fun (M1 : Mem) => nm (put M1 24 2 (imax ((M1 24 2) - (1 : Int32)) (0 : Int32))) fun (M2 : Mem) => bnd (f_H_placeAt rr (M2 24 1) M2) fun (x3 : Option Nat) (M4 : Mem) => ocase x3 (some M4) (fun (q5 : Nat) => bndM (f_T_copyFrom a1 q5 M4) fun (M7 : Mem) => some M7)
set_option maxHeartbeats 4000000 in
set_option maxRecDepth 100000 in
theorem c_H_takeBack (l : Launch) {w : Wc} {rr : Nat} (hw : WK w rr) (a1 : Nat) (ha1 : a1 ∈ stL) (M : Mem) : Ct QV l y_H_takeBack b_H_takeBack 3 none (rmL 4) w [.ref (wad w 24), .ref (wad w a1)] M (f_H_takeBack rr a1 M) := by
  refine Ct.go (by decide) (L := [(0, .ref (wad w 24)), (1, .ref (wad w a1))]) rfl (Nat.le_of_ble_eq_true rfl) (fun p0 e s m args below meth c g hret => ?_)
  unfold f_H_takeBack
  refine G_aload_n g (pc := 0) 0 d_H_takeBack_0 rfl rfl ?_
  refine G_aload_n g (pc := 1) 0 d_H_takeBack_1 rfl rfl ?_
  refine G_get g (pc := 2) fa_H_17 (hw.m 24 (Nat.le_of_ble_eq_true rfl)) (hw.k (Nat.le_of_ble_eq_true rfl) (zk24 rr)) d_H_takeBack_2 ?_
  refine G_bipush g (pc := 5) (8 : Int32) d_H_takeBack_5 rfl ?_
  refine G_iadd g (pc := 7) d_H_takeBack_7 ?_
  refine G_iconst g (pc := 8) (1 : Int32) d_H_takeBack_8 rfl ?_
  refine G_isub g (pc := 9) d_H_takeBack_9 ?_
  refine G_bipush g (pc := 10) (8 : Int32) d_H_takeBack_10 rfl ?_
  refine G_iremK g (pc := 12) (by decide) d_H_takeBack_12 ?_
  refine G_put g (pc := 13) fa_H_17 fw_0_1 rfl rfl (hw.m 24 (Nat.le_of_ble_eq_true rfl)) (hw.k (Nat.le_of_ble_eq_true rfl) (zk24 rr)) d_H_takeBack_13 ?_
  refine G_nmM (fun M1 => ?_)
  refine G_aload_n g (pc := 16) 0 d_H_takeBack_16 rfl rfl ?_
  refine G_aload_n g (pc := 17) 0 d_H_takeBack_17 rfl rfl ?_
  refine G_get g (pc := 18) fa_H_21 (hw.m 24 (Nat.le_of_ble_eq_true rfl)) (hw.k (Nat.le_of_ble_eq_true rfl) (zk24 rr)) d_H_takeBack_18 ?_
  refine G_iconst g (pc := 21) (1 : Int32) d_H_takeBack_21 rfl ?_
  refine G_isub g (pc := 22) d_H_takeBack_22 ?_
  refine G_iconst g (pc := 23) (0 : Int32) d_H_takeBack_23 rfl ?_
  refine G_mmax g (pc := 24) ma_H_39 ⟨(Nat.le_of_ble_eq_true rfl), (Nat.le_of_ble_eq_true rfl), (Nat.le_of_ble_eq_true rfl), (Nat.le_of_ble_eq_true rfl)⟩ d_H_takeBack_24 ?_
  refine G_put g (pc := 27) fa_H_21 fw_0_2 rfl rfl (hw.m 24 (Nat.le_of_ble_eq_true rfl)) (hw.k (Nat.le_of_ble_eq_true rfl) (zk24 rr)) d_H_takeBack_27 ?_
  refine G_nmM (fun M2 => ?_)
  refine G_aload_n g (pc := 30) 0 d_H_takeBack_30 rfl rfl ?_
  refine G_aload_n g (pc := 31) 0 d_H_takeBack_31 rfl rfl ?_
  refine G_get g (pc := 32) fa_H_17 (hw.m 24 (Nat.le_of_ble_eq_true rfl)) (hw.k (Nat.le_of_ble_eq_true rfl) (zk24 rr)) d_H_takeBack_32 ?_
  refine G_cVR g (pc := 35) (As := [.int (M2 24 1)]) (st := []) cc_H_25 (c_H_placeAt l hw (M2 24 1) M2) (hw.m 24 (Nat.le_of_ble_eq_true rfl)) (hw.k (Nat.le_of_ble_eq_true rfl) (zk24 rr)) rfl (by decide) rfl ⟨(Nat.le_of_ble_eq_true rfl), (Nat.le_of_ble_eq_true rfl)⟩ ⟨(Nat.le_of_ble_eq_true rfl), (Nat.le_of_ble_eq_true rfl)⟩ (Nat.le_of_ble_eq_true rfl) d_H_takeBack_35 (fun x3 M4 => ?_)
  refine G_ocase ?_ (fun q5 hq5 => ?_)
  · refine G_astore_nN g (pc := 38) _ d_H_takeBack_38 rfl (Nat.le_of_ble_eq_true rfl) rfl ?_
    refine G_aload_nN g (pc := 39) 0 d_H_takeBack_39 rfl rfl ?_
    refine G_ifnullN g (pc := 40) 48 d_H_takeBack_40 (by decide) ?_
    exact G_return g (pc := 48) hret (Nat.le_of_ble_eq_true rfl) (Nat.le_of_ble_eq_true rfl) d_H_takeBack_48
  · refine G_astore_n g (pc := 38) _ d_H_takeBack_38 rfl (Nat.le_of_ble_eq_true rfl) rfl ?_
    refine G_aload_n g (pc := 39) 0 d_H_takeBack_39 rfl rfl ?_
    refine G_ifnull g (pc := 40) d_H_takeBack_40 ?_
    refine G_aload_n g (pc := 43) 2 d_H_takeBack_43 rfl rfl ?_
    refine G_aload_n g (pc := 44) 0 d_H_takeBack_44 rfl rfl ?_
    refine G_cVV g (pc := 45) (As := [.ref (wad w q5)]) (st := []) cc_H_29 (c_T_copyFrom l hw a1 ha1 q5 hq5 M4) (hw.m _ (st_lt0 ha1)) (hw.k (st_lt0 ha1) (st_k0 ha1)) rfl (by decide) rfl ⟨(Nat.le_of_ble_eq_true rfl), (Nat.le_of_ble_eq_true rfl)⟩ ⟨(Nat.le_of_ble_eq_true rfl), (Nat.le_of_ble_eq_true rfl)⟩ (Nat.le_of_ble_eq_true rfl) d_H_takeBack_45 (fun M7 => ?_)
    exact G_return g (pc := 48) hret (Nat.le_of_ble_eq_true rfl) (Nat.le_of_ble_eq_true rfl) d_H_takeBack_48
