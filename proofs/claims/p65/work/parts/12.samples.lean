theorem d_S_empty_0 : decode b_S_empty 0 = .ok (.aload_n 0, 1) := by decide +kernel
theorem d_S_empty_1 : decode b_S_empty 1 = .ok (.iconst 0, 1) := by decide +kernel
theorem d_S_empty_2 : decode b_S_empty 2 = .ok (.putfield 7, 3) := by decide +kernel
theorem d_S_empty_5 : decode b_S_empty 5 = .ok (.aload_n 0, 1) := by decide +kernel
theorem d_S_empty_6 : decode b_S_empty 6 = .ok (.iconst 0, 1) := by decide +kernel
theorem d_S_empty_7 : decode b_S_empty 7 = .ok (.putfield 13, 3) := by decide +kernel
theorem d_S_empty_10 : decode b_S_empty 10 = .ok (.return_, 1) := by decide +kernel
def f_S_empty (p : Nat) (M : Mem) : Option (Mem) :=
  nm (put M p 4 (0 : Int32)) fun (M1 : Mem) => nm (put M1 p 5 (0 : Int32)) fun (M2 : Mem) => some M2
set_option maxHeartbeats 4000000 in
set_option maxRecDepth 100000 in
theorem c_S_empty (l : Launch) {w : Wc} {rr : Nat} (hw : WK w rr) (p : Nat) (hp : p ∈ saL) (M : Mem) : Ct QV l y_S_empty b_S_empty 1 none (rmL 0) w [.ref (wad w p)] M (f_S_empty p M) := by
  refine Ct.go (by decide) (L := [(0, .ref (wad w p))]) rfl (Nat.le_of_ble_eq_true rfl) (fun p0 e s m args below meth c g hret => ?_)
  unfold f_S_empty
  refine G_aload_n g (pc := 0) 0 d_S_empty_0 rfl rfl ?_
  refine G_iconst g (pc := 1) (0 : Int32) d_S_empty_1 rfl ?_
  refine G_put g (pc := 2) fa_S_7 fw_3_4 rfl rfl (hw.m _ (sa_lt0 hp)) (hw.k (sa_lt0 hp) (sa_k0 hp)) d_S_empty_2 ?_
  refine G_nmM (fun M1 => ?_)
  refine G_aload_n g (pc := 5) 0 d_S_empty_5 rfl rfl ?_
  refine G_iconst g (pc := 6) (0 : Int32) d_S_empty_6 rfl ?_
  refine G_put g (pc := 7) fa_S_13 fw_3_5 rfl rfl (hw.m _ (sa_lt0 hp)) (hw.k (sa_lt0 hp) (sa_k0 hp)) d_S_empty_7 ?_
  refine G_nmM (fun M2 => ?_)
  exact G_return g (pc := 10) hret (Nat.le_of_ble_eq_true rfl) (Nat.le_of_ble_eq_true rfl) d_S_empty_10

theorem d_S_setUp_0 : decode b_S_setUp 0 = .ok (.aload_n 0, 1) := by decide +kernel
theorem d_S_setUp_1 : decode b_S_setUp 1 = .ok (.invokevirtual 38, 3) := by decide +kernel
theorem d_S_setUp_4 : decode b_S_setUp 4 = .ok (.aload_n 0, 1) := by decide +kernel
theorem d_S_setUp_5 : decode b_S_setUp 5 = .ok (.iconst 0, 1) := by decide +kernel
theorem d_S_setUp_6 : decode b_S_setUp 6 = .ok (.putfield 16, 3) := by decide +kernel
theorem d_S_setUp_9 : decode b_S_setUp 9 = .ok (.return_, 1) := by decide +kernel
theorem cc_S_38 : CV "KiteLogger$Samples" 38 y_S_empty b_S_empty 1 none 0 := ⟨TT_in (i := 370) (by decide +kernel) (by decide +kernel), TT_in (i := 371) (by decide +kernel) (by decide +kernel), TT_in (i := 372) (by decide +kernel) (by decide +kernel), TT_in (i := 27) (by decide +kernel) (by decide +kernel), TT_in (i := 373) (by decide +kernel) (by decide +kernel), ⟨by decide +kernel, by decide +kernel, by decide +kernel⟩⟩
def f_S_setUp (p : Nat) (M : Mem) : Option (Mem) :=
  bndM (f_S_empty p M) fun (M2 : Mem) => nm (put M2 p 6 (0 : Int32)) fun (M3 : Mem) => some M3
set_option maxHeartbeats 4000000 in
set_option maxRecDepth 100000 in
theorem c_S_setUp (l : Launch) {w : Wc} {rr : Nat} (hw : WK w rr) (p : Nat) (hp : p ∈ saL) (M : Mem) : Ct QV l y_S_setUp b_S_setUp 1 none (rmL 1) w [.ref (wad w p)] M (f_S_setUp p M) := by
  refine Ct.go (by decide) (L := [(0, .ref (wad w p))]) rfl (Nat.le_of_ble_eq_true rfl) (fun p0 e s m args below meth c g hret => ?_)
  unfold f_S_setUp
  refine G_aload_n g (pc := 0) 0 d_S_setUp_0 rfl rfl ?_
  refine G_cVV g (pc := 1) (As := []) (st := []) cc_S_38 (c_S_empty l hw p hp M) (hw.m _ (sa_lt0 hp)) (hw.k (sa_lt0 hp) (sa_k0 hp)) rfl (by decide) rfl ⟨(Nat.le_of_ble_eq_true rfl), (Nat.le_of_ble_eq_true rfl)⟩ ⟨(Nat.le_of_ble_eq_true rfl), (Nat.le_of_ble_eq_true rfl)⟩ (Nat.le_of_ble_eq_true rfl) d_S_setUp_1 (fun M2 => ?_)
  refine G_aload_n g (pc := 4) 0 d_S_setUp_4 rfl rfl ?_
  refine G_iconst g (pc := 5) (0 : Int32) d_S_setUp_5 rfl ?_
  refine G_put g (pc := 6) fa_S_16 fw_3_6 rfl rfl (hw.m _ (sa_lt0 hp)) (hw.k (sa_lt0 hp) (sa_k0 hp)) d_S_setUp_6 ?_
  refine G_nmM (fun M3 => ?_)
  exact G_return g (pc := 9) hret (Nat.le_of_ble_eq_true rfl) (Nat.le_of_ble_eq_true rfl) d_S_setUp_9

theorem d_S_copyFrom_0 : decode b_S_copyFrom 0 = .ok (.aload_n 1, 1) := by decide +kernel
theorem d_S_copyFrom_1 : decode b_S_copyFrom 1 = .ok (.getfield 28, 3) := by decide +kernel
theorem d_S_copyFrom_4 : decode b_S_copyFrom 4 = .ok (.aload_n 0, 1) := by decide +kernel
theorem d_S_copyFrom_5 : decode b_S_copyFrom 5 = .ok (.getfield 28, 3) := by decide +kernel
theorem d_S_copyFrom_8 : decode b_S_copyFrom 8 = .ok (.invokestatic 41, 3) := by decide +kernel
theorem d_S_copyFrom_11 : decode b_S_copyFrom 11 = .ok (.aload_n 1, 1) := by decide +kernel
theorem d_S_copyFrom_12 : decode b_S_copyFrom 12 = .ok (.getfield 32, 3) := by decide +kernel
theorem d_S_copyFrom_15 : decode b_S_copyFrom 15 = .ok (.aload_n 0, 1) := by decide +kernel
theorem d_S_copyFrom_16 : decode b_S_copyFrom 16 = .ok (.getfield 32, 3) := by decide +kernel
theorem d_S_copyFrom_19 : decode b_S_copyFrom 19 = .ok (.invokestatic 41, 3) := by decide +kernel
theorem d_S_copyFrom_22 : decode b_S_copyFrom 22 = .ok (.aload_n 1, 1) := by decide +kernel
theorem d_S_copyFrom_23 : decode b_S_copyFrom 23 = .ok (.getfield 35, 3) := by decide +kernel
theorem d_S_copyFrom_26 : decode b_S_copyFrom 26 = .ok (.aload_n 0, 1) := by decide +kernel
theorem d_S_copyFrom_27 : decode b_S_copyFrom 27 = .ok (.getfield 35, 3) := by decide +kernel
theorem d_S_copyFrom_30 : decode b_S_copyFrom 30 = .ok (.invokestatic 41, 3) := by decide +kernel
theorem d_S_copyFrom_33 : decode b_S_copyFrom 33 = .ok (.aload_n 0, 1) := by decide +kernel
theorem d_S_copyFrom_34 : decode b_S_copyFrom 34 = .ok (.aload_n 1, 1) := by decide +kernel
theorem d_S_copyFrom_35 : decode b_S_copyFrom 35 = .ok (.getfield 7, 3) := by decide +kernel
theorem d_S_copyFrom_38 : decode b_S_copyFrom 38 = .ok (.putfield 7, 3) := by decide +kernel
theorem d_S_copyFrom_41 : decode b_S_copyFrom 41 = .ok (.aload_n 0, 1) := by decide +kernel
theorem d_S_copyFrom_42 : decode b_S_copyFrom 42 = .ok (.aload_n 1, 1) := by decide +kernel
theorem d_S_copyFrom_43 : decode b_S_copyFrom 43 = .ok (.getfield 13, 3) := by decide +kernel
theorem d_S_copyFrom_46 : decode b_S_copyFrom 46 = .ok (.putfield 13, 3) := by decide +kernel
theorem d_S_copyFrom_49 : decode b_S_copyFrom 49 = .ok (.aload_n 0, 1) := by decide +kernel
theorem d_S_copyFrom_50 : decode b_S_copyFrom 50 = .ok (.aload_n 1, 1) := by decide +kernel
theorem d_S_copyFrom_51 : decode b_S_copyFrom 51 = .ok (.getfield 16, 3) := by decide +kernel
theorem d_S_copyFrom_54 : decode b_S_copyFrom 54 = .ok (.putfield 16, 3) := by decide +kernel
theorem d_S_copyFrom_57 : decode b_S_copyFrom 57 = .ok (.return_, 1) := by decide +kernel
theorem cc_S_41 : CSN "KiteLogger$Samples" 41 "KiteLogger" y_G_copyRow b_G_copyRow 2 none 2 := ⟨NW_in (i := 651) (by decide +kernel) (by decide +kernel), TT_in (i := 104) (by decide +kernel) (by decide +kernel), TT_in (i := 18) (by decide +kernel) (by decide +kernel), TT_in (i := 105) (by decide +kernel) (by decide +kernel), ⟨by decide +kernel, by decide +kernel, by decide +kernel⟩⟩
def f_S_copyFrom (p : Nat) (a1 : Nat) (M : Mem) : Option (Mem) :=
  bndM (f_G_copyRow (a1 + 1) (p + 1) M) fun (M2 : Mem) => bndM (f_G_copyRow (a1 + 2) (p + 2) M2) fun (M4 : Mem) => bndM (f_G_copyRow (a1 + 3) (p + 3) M4) fun (M6 : Mem) => nm (put M6 p 4 (M6 a1 4)) fun (M7 : Mem) => nm (put M7 p 5 (M7 a1 5)) fun (M8 : Mem) => nm (put M8 p 6 (M8 a1 6)) fun (M9 : Mem) => some M9
set_option maxHeartbeats 4000000 in
set_option maxRecDepth 100000 in
theorem c_S_copyFrom (l : Launch) {w : Wc} {rr : Nat} (hw : WK w rr) (p : Nat) (hp : p ∈ saL) (a1 : Nat) (ha1 : a1 ∈ saL) (M : Mem) : Ct QV l y_S_copyFrom b_S_copyFrom 2 none (rmL 2) w [.ref (wad w p), .ref (wad w a1)] M (f_S_copyFrom p a1 M) := by
  refine Ct.go (by decide) (L := [(0, .ref (wad w p)), (1, .ref (wad w a1))]) rfl (Nat.le_of_ble_eq_true rfl) (fun p0 e s m args below meth c g hret => ?_)
  unfold f_S_copyFrom
  refine G_aload_n g (pc := 0) 1 d_S_copyFrom_0 rfl rfl ?_
  refine G_getR g (pc := 1) fa_S_28 (hw.m _ (sa_lt0 ha1)) (hw.k (sa_lt0 ha1) (sa_k0 ha1)) (hw.r (sa_lt0 ha1) (sa_r0_1 ha1 rr)) d_S_copyFrom_1 ?_
  refine G_aload_n g (pc := 4) 0 d_S_copyFrom_4 rfl rfl ?_
  refine G_getR g (pc := 5) fa_S_28 (hw.m _ (sa_lt0 hp)) (hw.k (sa_lt0 hp) (sa_k0 hp)) (hw.r (sa_lt0 hp) (sa_r0_1 hp rr)) d_S_copyFrom_5 ?_
  refine G_cSNV g (pc := 8) (As := [.ref (wad w (a1 + 1)), .ref (wad w (p + 1))]) (st := []) cc_S_41 (c_G_copyRow l hw (a1 + 1) (hw.m _ (sa_lt1 ha1)) (hw.k (sa_lt1 ha1) (sa_k1 ha1)) (sa_lt1 ha1) (p + 1) (hw.m _ (sa_lt1 hp)) (hw.k (sa_lt1 hp) (sa_k1 hp)) (sa_lt1 hp) M) rfl ⟨(Nat.le_of_ble_eq_true rfl), (Nat.le_of_ble_eq_true rfl)⟩ ⟨(Nat.le_of_ble_eq_true rfl), (Nat.le_of_ble_eq_true rfl)⟩ (Nat.le_of_ble_eq_true rfl) d_S_copyFrom_8 (fun M2 => ?_)
  refine G_aload_n g (pc := 11) 1 d_S_copyFrom_11 rfl rfl ?_
  refine G_getR g (pc := 12) fa_S_32 (hw.m _ (sa_lt0 ha1)) (hw.k (sa_lt0 ha1) (sa_k0 ha1)) (hw.r (sa_lt0 ha1) (sa_r0_2 ha1 rr)) d_S_copyFrom_12 ?_
  refine G_aload_n g (pc := 15) 0 d_S_copyFrom_15 rfl rfl ?_
  refine G_getR g (pc := 16) fa_S_32 (hw.m _ (sa_lt0 hp)) (hw.k (sa_lt0 hp) (sa_k0 hp)) (hw.r (sa_lt0 hp) (sa_r0_2 hp rr)) d_S_copyFrom_16 ?_
  refine G_cSNV g (pc := 19) (As := [.ref (wad w (a1 + 2)), .ref (wad w (p + 2))]) (st := []) cc_S_41 (c_G_copyRow l hw (a1 + 2) (hw.m _ (sa_lt2 ha1)) (hw.k (sa_lt2 ha1) (sa_k2 ha1)) (sa_lt2 ha1) (p + 2) (hw.m _ (sa_lt2 hp)) (hw.k (sa_lt2 hp) (sa_k2 hp)) (sa_lt2 hp) M2) rfl ⟨(Nat.le_of_ble_eq_true rfl), (Nat.le_of_ble_eq_true rfl)⟩ ⟨(Nat.le_of_ble_eq_true rfl), (Nat.le_of_ble_eq_true rfl)⟩ (Nat.le_of_ble_eq_true rfl) d_S_copyFrom_19 (fun M4 => ?_)
  refine G_aload_n g (pc := 22) 1 d_S_copyFrom_22 rfl rfl ?_
  refine G_getR g (pc := 23) fa_S_35 (hw.m _ (sa_lt0 ha1)) (hw.k (sa_lt0 ha1) (sa_k0 ha1)) (hw.r (sa_lt0 ha1) (sa_r0_3 ha1 rr)) d_S_copyFrom_23 ?_
  refine G_aload_n g (pc := 26) 0 d_S_copyFrom_26 rfl rfl ?_
  refine G_getR g (pc := 27) fa_S_35 (hw.m _ (sa_lt0 hp)) (hw.k (sa_lt0 hp) (sa_k0 hp)) (hw.r (sa_lt0 hp) (sa_r0_3 hp rr)) d_S_copyFrom_27 ?_
  refine G_cSNV g (pc := 30) (As := [.ref (wad w (a1 + 3)), .ref (wad w (p + 3))]) (st := []) cc_S_41 (c_G_copyRow l hw (a1 + 3) (hw.m _ (sa_lt3 ha1)) (hw.k (sa_lt3 ha1) (sa_k3 ha1)) (sa_lt3 ha1) (p + 3) (hw.m _ (sa_lt3 hp)) (hw.k (sa_lt3 hp) (sa_k3 hp)) (sa_lt3 hp) M4) rfl ⟨(Nat.le_of_ble_eq_true rfl), (Nat.le_of_ble_eq_true rfl)⟩ ⟨(Nat.le_of_ble_eq_true rfl), (Nat.le_of_ble_eq_true rfl)⟩ (Nat.le_of_ble_eq_true rfl) d_S_copyFrom_30 (fun M6 => ?_)
  refine G_aload_n g (pc := 33) 0 d_S_copyFrom_33 rfl rfl ?_
  refine G_aload_n g (pc := 34) 1 d_S_copyFrom_34 rfl rfl ?_
  refine G_get g (pc := 35) fa_S_7 (hw.m _ (sa_lt0 ha1)) (hw.k (sa_lt0 ha1) (sa_k0 ha1)) d_S_copyFrom_35 ?_
  refine G_put g (pc := 38) fa_S_7 fw_3_4 rfl rfl (hw.m _ (sa_lt0 hp)) (hw.k (sa_lt0 hp) (sa_k0 hp)) d_S_copyFrom_38 ?_
  refine G_nmM (fun M7 => ?_)
  refine G_aload_n g (pc := 41) 0 d_S_copyFrom_41 rfl rfl ?_
  refine G_aload_n g (pc := 42) 1 d_S_copyFrom_42 rfl rfl ?_
  refine G_get g (pc := 43) fa_S_13 (hw.m _ (sa_lt0 ha1)) (hw.k (sa_lt0 ha1) (sa_k0 ha1)) d_S_copyFrom_43 ?_
  refine G_put g (pc := 46) fa_S_13 fw_3_5 rfl rfl (hw.m _ (sa_lt0 hp)) (hw.k (sa_lt0 hp) (sa_k0 hp)) d_S_copyFrom_46 ?_
  refine G_nmM (fun M8 => ?_)
  refine G_aload_n g (pc := 49) 0 d_S_copyFrom_49 rfl rfl ?_
  refine G_aload_n g (pc := 50) 1 d_S_copyFrom_50 rfl rfl ?_
  refine G_get g (pc := 51) fa_S_16 (hw.m _ (sa_lt0 ha1)) (hw.k (sa_lt0 ha1) (sa_k0 ha1)) d_S_copyFrom_51 ?_
  refine G_put g (pc := 54) fa_S_16 fw_3_6 rfl rfl (hw.m _ (sa_lt0 hp)) (hw.k (sa_lt0 hp) (sa_k0 hp)) d_S_copyFrom_54 ?_
  refine G_nmM (fun M9 => ?_)
  exact G_return g (pc := 57) hret (Nat.le_of_ble_eq_true rfl) (Nat.le_of_ble_eq_true rfl) d_S_copyFrom_57

theorem d_S_placeOf_0 : decode b_S_placeOf 0 = .ok (.aload_n 0, 1) := by decide +kernel
theorem d_S_placeOf_1 : decode b_S_placeOf 1 = .ok (.getfield 25, 3) := by decide +kernel
theorem d_S_placeOf_4 : decode b_S_placeOf 4 = .ok (.ifCond .le 17, 3) := by decide +kernel
theorem d_S_placeOf_7 : decode b_S_placeOf 7 = .ok (.aload_n 0, 1) := by decide +kernel
theorem d_S_placeOf_8 : decode b_S_placeOf 8 = .ok (.getfield 7, 3) := by decide +kernel
theorem d_S_placeOf_11 : decode b_S_placeOf 11 = .ok (.iload_n 1, 1) := by decide +kernel
theorem d_S_placeOf_12 : decode b_S_placeOf 12 = .ok (.iadd, 1) := by decide +kernel
theorem d_S_placeOf_13 : decode b_S_placeOf 13 = .ok (.aload_n 0, 1) := by decide +kernel
theorem d_S_placeOf_14 : decode b_S_placeOf 14 = .ok (.getfield 25, 3) := by decide +kernel
theorem d_S_placeOf_17 : decode b_S_placeOf 17 = .ok (.irem, 1) := by decide +kernel
theorem d_S_placeOf_18 : decode b_S_placeOf 18 = .ok (.goto 4, 3) := by decide +kernel
theorem d_S_placeOf_21 : decode b_S_placeOf 21 = .ok (.iconst 0, 1) := by decide +kernel
theorem d_S_placeOf_22 : decode b_S_placeOf 22 = .ok (.ireturn, 1) := by decide +kernel
def f_S_placeOf (p : Nat) (a1 : Int32) (M : Mem) : Option (Int32 × Mem) :=
  if 0 < (M p 0) then (grd (nzB (M p 0)) (some (irm ((M p 4) + a1) (M p 0), M))) else (some ((0 : Int32), M))
set_option maxHeartbeats 4000000 in
set_option maxRecDepth 100000 in
theorem c_S_placeOf (l : Launch) {w : Wc} {rr : Nat} (hw : WK w rr) (p : Nat) (hp : p ∈ saL) (a1 : Int32) (M : Mem) : Ct QI l y_S_placeOf b_S_placeOf 2 (some .int) (rmL 0) w [.ref (wad w p), .int a1] M (f_S_placeOf p a1 M) := by
  refine Ct.go (by decide) (L := [(0, .ref (wad w p)), (1, .int a1)]) rfl (Nat.le_of_ble_eq_true rfl) (fun p0 e s m args below meth c g hret => ?_)
  unfold f_S_placeOf
  refine G_aload_n g (pc := 0) 0 d_S_placeOf_0 rfl rfl ?_
  refine G_get g (pc := 1) fa_S_25 (hw.m _ (sa_lt0 hp)) (hw.k (sa_lt0 hp) (sa_k0 hp)) d_S_placeOf_1 ?_
  refine G_if_le g (pc := 4) 21 d_S_placeOf_4 (by decide) ?_ ?_
  · refine G_aload_n g (pc := 7) 0 d_S_placeOf_7 rfl rfl ?_
    refine G_get g (pc := 8) fa_S_7 (hw.m _ (sa_lt0 hp)) (hw.k (sa_lt0 hp) (sa_k0 hp)) d_S_placeOf_8 ?_
    refine G_iload_n g (pc := 11) 1 d_S_placeOf_11 rfl rfl ?_
    refine G_iadd g (pc := 12) d_S_placeOf_12 ?_
    refine G_aload_n g (pc := 13) 0 d_S_placeOf_13 rfl rfl ?_
    refine G_get g (pc := 14) fa_S_25 (hw.m _ (sa_lt0 hp)) (hw.k (sa_lt0 hp) (sa_k0 hp)) d_S_placeOf_14 ?_
    refine G_irem g (pc := 17) d_S_placeOf_17 ?_
    refine G_goto g (pc := 18) 22 d_S_placeOf_18 (by decide) ?_
    exact G_ireturn g (pc := 22) hret (Nat.le_of_ble_eq_true rfl) (Nat.le_of_ble_eq_true rfl) d_S_placeOf_22
  · refine G_iconst g (pc := 21) (0 : Int32) d_S_placeOf_21 rfl ?_
    exact G_ireturn g (pc := 22) hret (Nat.le_of_ble_eq_true rfl) (Nat.le_of_ble_eq_true rfl) d_S_placeOf_22

theorem d_S_add_0 : decode b_S_add 0 = .ok (.aload_n 0, 1) := by decide +kernel
theorem d_S_add_1 : decode b_S_add 1 = .ok (.aload_n 0, 1) := by decide +kernel
theorem d_S_add_2 : decode b_S_add 2 = .ok (.getfield 13, 3) := by decide +kernel
theorem d_S_add_5 : decode b_S_add 5 = .ok (.invokevirtual 47, 3) := by decide +kernel
theorem d_S_add_8 : decode b_S_add 8 = .ok (.istore 4, 2) := by decide +kernel
theorem d_S_add_10 : decode b_S_add 10 = .ok (.aload_n 0, 1) := by decide +kernel
theorem d_S_add_11 : decode b_S_add 11 = .ok (.getfield 28, 3) := by decide +kernel
theorem d_S_add_14 : decode b_S_add 14 = .ok (.iload 4, 2) := by decide +kernel
theorem d_S_add_16 : decode b_S_add 16 = .ok (.iload_n 1, 1) := by decide +kernel
theorem d_S_add_17 : decode b_S_add 17 = .ok (.invokestatic 51, 3) := by decide +kernel
theorem d_S_add_20 : decode b_S_add 20 = .ok (.aload_n 0, 1) := by decide +kernel
theorem d_S_add_21 : decode b_S_add 21 = .ok (.getfield 32, 3) := by decide +kernel
theorem d_S_add_24 : decode b_S_add 24 = .ok (.iload 4, 2) := by decide +kernel
theorem d_S_add_26 : decode b_S_add 26 = .ok (.iload_n 2, 1) := by decide +kernel
theorem d_S_add_27 : decode b_S_add 27 = .ok (.invokestatic 51, 3) := by decide +kernel
theorem d_S_add_30 : decode b_S_add 30 = .ok (.aload_n 0, 1) := by decide +kernel
theorem d_S_add_31 : decode b_S_add 31 = .ok (.getfield 35, 3) := by decide +kernel
theorem d_S_add_34 : decode b_S_add 34 = .ok (.iload 4, 2) := by decide +kernel
theorem d_S_add_36 : decode b_S_add 36 = .ok (.iload_n 3, 1) := by decide +kernel
theorem d_S_add_37 : decode b_S_add 37 = .ok (.invokestatic 51, 3) := by decide +kernel
theorem d_S_add_40 : decode b_S_add 40 = .ok (.aload_n 0, 1) := by decide +kernel
theorem d_S_add_41 : decode b_S_add 41 = .ok (.getfield 13, 3) := by decide +kernel
theorem d_S_add_44 : decode b_S_add 44 = .ok (.aload_n 0, 1) := by decide +kernel
theorem d_S_add_45 : decode b_S_add 45 = .ok (.getfield 25, 3) := by decide +kernel
theorem d_S_add_48 : decode b_S_add 48 = .ok (.if_icmp .ge 16, 3) := by decide +kernel
theorem d_S_add_51 : decode b_S_add 51 = .ok (.aload_n 0, 1) := by decide +kernel
theorem d_S_add_52 : decode b_S_add 52 = .ok (.dup, 1) := by decide +kernel
theorem d_S_add_53 : decode b_S_add 53 = .ok (.getfield 13, 3) := by decide +kernel
theorem d_S_add_56 : decode b_S_add 56 = .ok (.iconst 1, 1) := by decide +kernel
theorem d_S_add_57 : decode b_S_add 57 = .ok (.iadd, 1) := by decide +kernel
theorem d_S_add_58 : decode b_S_add 58 = .ok (.putfield 13, 3) := by decide +kernel
theorem d_S_add_61 : decode b_S_add 61 = .ok (.goto 22, 3) := by decide +kernel
theorem d_S_add_64 : decode b_S_add 64 = .ok (.aload_n 0, 1) := by decide +kernel
theorem d_S_add_65 : decode b_S_add 65 = .ok (.aload_n 0, 1) := by decide +kernel
theorem d_S_add_66 : decode b_S_add 66 = .ok (.iconst 1, 1) := by decide +kernel
theorem d_S_add_67 : decode b_S_add 67 = .ok (.invokevirtual 47, 3) := by decide +kernel
theorem d_S_add_70 : decode b_S_add 70 = .ok (.putfield 7, 3) := by decide +kernel
theorem d_S_add_73 : decode b_S_add 73 = .ok (.aload_n 0, 1) := by decide +kernel
theorem d_S_add_74 : decode b_S_add 74 = .ok (.dup, 1) := by decide +kernel
theorem d_S_add_75 : decode b_S_add 75 = .ok (.getfield 16, 3) := by decide +kernel
theorem d_S_add_78 : decode b_S_add 78 = .ok (.iconst 1, 1) := by decide +kernel
theorem d_S_add_79 : decode b_S_add 79 = .ok (.iadd, 1) := by decide +kernel
theorem d_S_add_80 : decode b_S_add 80 = .ok (.putfield 16, 3) := by decide +kernel
theorem d_S_add_83 : decode b_S_add 83 = .ok (.return_, 1) := by decide +kernel
theorem cc_S_47 : CV "KiteLogger$Samples" 47 y_S_placeOf b_S_placeOf 2 (some .int) 1 := ⟨TT_in (i := 821) (by decide +kernel) (by decide +kernel), TT_in (i := 823) (by decide +kernel) (by decide +kernel), TT_in (i := 7) (by decide +kernel) (by decide +kernel), TT_in (i := 27) (by decide +kernel) (by decide +kernel), TT_in (i := 824) (by decide +kernel) (by decide +kernel), ⟨by decide +kernel, by decide +kernel, by decide +kernel⟩⟩
theorem cc_S_51 : CSN "KiteLogger$Samples" 51 "KiteLogger" y_G_putAt b_G_putAt 3 none 3 := ⟨NW_in (i := 1085) (by decide +kernel) (by decide +kernel), TT_in (i := 589) (by decide +kernel) (by decide +kernel), TT_in (i := 18) (by decide +kernel) (by decide +kernel), TT_in (i := 590) (by decide +kernel) (by decide +kernel), ⟨by decide +kernel, by decide +kernel, by decide +kernel⟩⟩
def f_S_add (p : Nat) (a1 : Int32) (a2 : Int32) (a3 : Int32) (M : Mem) : Option (Mem) :=
  bnd (f_S_placeOf p (M p 5) M) fun (x1 : Int32) (M2 : Mem) => bndM (f_G_putAt (p + 1) x1 a1 M2) fun (M4 : Mem) => bndM (f_G_putAt (p + 2) x1 a2 M4) fun (M6 : Mem) => bndM (f_G_putAt (p + 3) x1 a3 M6) fun (M8 : Mem) => if (M8 p 5) < (M8 p 0) then (nm (put M8 p 5 ((M8 p 5) + (1 : Int32))) fun (M9 : Mem) => some M9) else (bnd (f_S_placeOf p (1 : Int32) M8) fun (x10 : Int32) (M11 : Mem) => nm (put M11 p 4 x10) fun (M12 : Mem) => nm (put M12 p 6 ((M12 p 6) + (1 : Int32))) fun (M13 : Mem) => some M13)
set_option maxHeartbeats 4000000 in
set_option maxRecDepth 100000 in
theorem c_S_add (l : Launch) {w : Wc} {rr : Nat} (hw : WK w rr) (p : Nat) (hp : p ∈ saL) (a1 : Int32) (a2 : Int32) (a3 : Int32) (M : Mem) : Ct QV l y_S_add b_S_add 5 none (rmL 1) w [.ref (wad w p), .int a1, .int a2, .int a3] M (f_S_add p a1 a2 a3 M) := by
  refine Ct.go (by decide) (L := [(0, .ref (wad w p)), (1, .int a1), (2, .int a2), (3, .int a3)]) rfl (Nat.le_of_ble_eq_true rfl) (fun p0 e s m args below meth c g hret => ?_)
  unfold f_S_add
  refine G_aload_n g (pc := 0) 0 d_S_add_0 rfl rfl ?_
  refine G_aload_n g (pc := 1) 0 d_S_add_1 rfl rfl ?_
  refine G_get g (pc := 2) fa_S_13 (hw.m _ (sa_lt0 hp)) (hw.k (sa_lt0 hp) (sa_k0 hp)) d_S_add_2 ?_
  refine G_cVI g (pc := 5) (As := [.int (M p 5)]) (st := []) cc_S_47 (c_S_placeOf l hw p hp (M p 5) M) (hw.m _ (sa_lt0 hp)) (hw.k (sa_lt0 hp) (sa_k0 hp)) rfl (by decide) rfl ⟨(Nat.le_of_ble_eq_true rfl), (Nat.le_of_ble_eq_true rfl)⟩ ⟨(Nat.le_of_ble_eq_true rfl), (Nat.le_of_ble_eq_true rfl)⟩ (Nat.le_of_ble_eq_true rfl) d_S_add_5 (fun x1 M2 => ?_)
  refine G_istore g (pc := 8) _ d_S_add_8 (Nat.le_of_ble_eq_true rfl) rfl ?_
  refine G_aload_n g (pc := 10) 1 d_S_add_10 rfl rfl ?_
  refine G_getR g (pc := 11) fa_S_28 (hw.m _ (sa_lt0 hp)) (hw.k (sa_lt0 hp) (sa_k0 hp)) (hw.r (sa_lt0 hp) (sa_r0_1 hp rr)) d_S_add_11 ?_
  refine G_iload g (pc := 14) 0 d_S_add_14 rfl ?_
  refine G_iload_n g (pc := 16) 2 d_S_add_16 rfl rfl ?_
  refine G_cSNV g (pc := 17) (As := [.ref (wad w (p + 1)), .int x1, .int a1]) (st := []) cc_S_51 (c_G_putAt l hw (p + 1) (hw.m _ (sa_lt1 hp)) (hw.k (sa_lt1 hp) (sa_k1 hp)) (sa_lt1 hp) x1 a1 M2) rfl ⟨(Nat.le_of_ble_eq_true rfl), (Nat.le_of_ble_eq_true rfl)⟩ ⟨(Nat.le_of_ble_eq_true rfl), (Nat.le_of_ble_eq_true rfl)⟩ (Nat.le_of_ble_eq_true rfl) d_S_add_17 (fun M4 => ?_)
  refine G_aload_n g (pc := 20) 1 d_S_add_20 rfl rfl ?_
  refine G_getR g (pc := 21) fa_S_32 (hw.m _ (sa_lt0 hp)) (hw.k (sa_lt0 hp) (sa_k0 hp)) (hw.r (sa_lt0 hp) (sa_r0_2 hp rr)) d_S_add_21 ?_
  refine G_iload g (pc := 24) 0 d_S_add_24 rfl ?_
  refine G_iload_n g (pc := 26) 3 d_S_add_26 rfl rfl ?_
  refine G_cSNV g (pc := 27) (As := [.ref (wad w (p + 2)), .int x1, .int a2]) (st := []) cc_S_51 (c_G_putAt l hw (p + 2) (hw.m _ (sa_lt2 hp)) (hw.k (sa_lt2 hp) (sa_k2 hp)) (sa_lt2 hp) x1 a2 M4) rfl ⟨(Nat.le_of_ble_eq_true rfl), (Nat.le_of_ble_eq_true rfl)⟩ ⟨(Nat.le_of_ble_eq_true rfl), (Nat.le_of_ble_eq_true rfl)⟩ (Nat.le_of_ble_eq_true rfl) d_S_add_27 (fun M6 => ?_)
  refine G_aload_n g (pc := 30) 1 d_S_add_30 rfl rfl ?_
  refine G_getR g (pc := 31) fa_S_35 (hw.m _ (sa_lt0 hp)) (hw.k (sa_lt0 hp) (sa_k0 hp)) (hw.r (sa_lt0 hp) (sa_r0_3 hp rr)) d_S_add_31 ?_
  refine G_iload g (pc := 34) 0 d_S_add_34 rfl ?_
  refine G_iload_n g (pc := 36) 4 d_S_add_36 rfl rfl ?_
  refine G_cSNV g (pc := 37) (As := [.ref (wad w (p + 3)), .int x1, .int a3]) (st := []) cc_S_51 (c_G_putAt l hw (p + 3) (hw.m _ (sa_lt3 hp)) (hw.k (sa_lt3 hp) (sa_k3 hp)) (sa_lt3 hp) x1 a3 M6) rfl ⟨(Nat.le_of_ble_eq_true rfl), (Nat.le_of_ble_eq_true rfl)⟩ ⟨(Nat.le_of_ble_eq_true rfl), (Nat.le_of_ble_eq_true rfl)⟩ (Nat.le_of_ble_eq_true rfl) d_S_add_37 (fun M8 => ?_)
  refine G_aload_n g (pc := 40) 1 d_S_add_40 rfl rfl ?_
  refine G_get g (pc := 41) fa_S_13 (hw.m _ (sa_lt0 hp)) (hw.k (sa_lt0 hp) (sa_k0 hp)) d_S_add_41 ?_
  refine G_aload_n g (pc := 44) 1 d_S_add_44 rfl rfl ?_
  refine G_get g (pc := 45) fa_S_25 (hw.m _ (sa_lt0 hp)) (hw.k (sa_lt0 hp) (sa_k0 hp)) d_S_add_45 ?_
  refine G_icmp_ge g (pc := 48) 64 d_S_add_48 (by decide) ?_ ?_
  · refine G_aload_n g (pc := 51) 1 d_S_add_51 rfl rfl ?_
    refine G_dup g (pc := 52) d_S_add_52 rfl ?_
    refine G_get g (pc := 53) fa_S_13 (hw.m _ (sa_lt0 hp)) (hw.k (sa_lt0 hp) (sa_k0 hp)) d_S_add_53 ?_
    refine G_iconst g (pc := 56) (1 : Int32) d_S_add_56 rfl ?_
    refine G_iadd g (pc := 57) d_S_add_57 ?_
    refine G_put g (pc := 58) fa_S_13 fw_3_5 rfl rfl (hw.m _ (sa_lt0 hp)) (hw.k (sa_lt0 hp) (sa_k0 hp)) d_S_add_58 ?_
    refine G_nmM (fun M9 => ?_)
    refine G_goto g (pc := 61) 83 d_S_add_61 (by decide) ?_
    exact G_return g (pc := 83) hret (Nat.le_of_ble_eq_true rfl) (Nat.le_of_ble_eq_true rfl) d_S_add_83
  · refine G_aload_n g (pc := 64) 1 d_S_add_64 rfl rfl ?_
    refine G_aload_n g (pc := 65) 1 d_S_add_65 rfl rfl ?_
    refine G_iconst g (pc := 66) (1 : Int32) d_S_add_66 rfl ?_
    refine G_cVI g (pc := 67) (As := [.int (1 : Int32)]) (st := [.ref (wad w p)]) cc_S_47 (c_S_placeOf l hw p hp (1 : Int32) M8) (hw.m _ (sa_lt0 hp)) (hw.k (sa_lt0 hp) (sa_k0 hp)) rfl (by decide) rfl ⟨(Nat.le_of_ble_eq_true rfl), (Nat.le_of_ble_eq_true rfl)⟩ ⟨(Nat.le_of_ble_eq_true rfl), (Nat.le_of_ble_eq_true rfl)⟩ (Nat.le_of_ble_eq_true rfl) d_S_add_67 (fun x10 M11 => ?_)
    refine G_put g (pc := 70) fa_S_7 fw_3_4 rfl rfl (hw.m _ (sa_lt0 hp)) (hw.k (sa_lt0 hp) (sa_k0 hp)) d_S_add_70 ?_
    refine G_nmM (fun M12 => ?_)
    refine G_aload_n g (pc := 73) 1 d_S_add_73 rfl rfl ?_
    refine G_dup g (pc := 74) d_S_add_74 rfl ?_
    refine G_get g (pc := 75) fa_S_16 (hw.m _ (sa_lt0 hp)) (hw.k (sa_lt0 hp) (sa_k0 hp)) d_S_add_75 ?_
    refine G_iconst g (pc := 78) (1 : Int32) d_S_add_78 rfl ?_
    refine G_iadd g (pc := 79) d_S_add_79 ?_
    refine G_put g (pc := 80) fa_S_16 fw_3_6 rfl rfl (hw.m _ (sa_lt0 hp)) (hw.k (sa_lt0 hp) (sa_k0 hp)) d_S_add_80 ?_
    refine G_nmM (fun M13 => ?_)
    exact G_return g (pc := 83) hret (Nat.le_of_ble_eq_true rfl) (Nat.le_of_ble_eq_true rfl) d_S_add_83

theorem d_S_has_0 : decode b_S_has 0 = .ok (.iload_n 1, 1) := by decide +kernel
theorem d_S_has_1 : decode b_S_has 1 = .ok (.ifCond .lt 15, 3) := by decide +kernel
theorem d_S_has_4 : decode b_S_has 4 = .ok (.iload_n 1, 1) := by decide +kernel
theorem d_S_has_5 : decode b_S_has 5 = .ok (.aload_n 0, 1) := by decide +kernel
theorem d_S_has_6 : decode b_S_has 6 = .ok (.getfield 13, 3) := by decide +kernel
theorem d_S_has_9 : decode b_S_has 9 = .ok (.if_icmp .ge 7, 3) := by decide +kernel
theorem d_S_has_12 : decode b_S_has 12 = .ok (.iconst 1, 1) := by decide +kernel
theorem d_S_has_13 : decode b_S_has 13 = .ok (.goto 4, 3) := by decide +kernel
theorem d_S_has_16 : decode b_S_has 16 = .ok (.iconst 0, 1) := by decide +kernel
theorem d_S_has_17 : decode b_S_has 17 = .ok (.ireturn, 1) := by decide +kernel
def f_S_has (p : Nat) (a1 : Int32) (M : Mem) : Option (Bool × Mem) :=
  if a1 < 0 then (some (false, M)) else (if a1 < (M p 5) then (some (true, M)) else (some (false, M)))
set_option maxHeartbeats 4000000 in
set_option maxRecDepth 100000 in
theorem c_S_has (l : Launch) {w : Wc} {rr : Nat} (hw : WK w rr) (p : Nat) (hp : p ∈ saL) (a1 : Int32) (M : Mem) : Ct QZ l y_S_has b_S_has 2 (some .boolean) (rmL 0) w [.ref (wad w p), .int a1] M (f_S_has p a1 M) := by
  refine Ct.go (by decide) (L := [(0, .ref (wad w p)), (1, .int a1)]) rfl (Nat.le_of_ble_eq_true rfl) (fun p0 e s m args below meth c g hret => ?_)
  unfold f_S_has
  refine G_iload_n g (pc := 0) 1 d_S_has_0 rfl rfl ?_
  refine G_if_lt g (pc := 1) 16 d_S_has_1 (by decide) ?_ ?_
  · refine G_iconst g (pc := 16) (0 : Int32) d_S_has_16 rfl ?_
    exact G_zreturn g (pc := 17) false rfl hret (Nat.le_of_ble_eq_true rfl) (Nat.le_of_ble_eq_true rfl) d_S_has_17
  · refine G_iload_n g (pc := 4) 1 d_S_has_4 rfl rfl ?_
    refine G_aload_n g (pc := 5) 0 d_S_has_5 rfl rfl ?_
    refine G_get g (pc := 6) fa_S_13 (hw.m _ (sa_lt0 hp)) (hw.k (sa_lt0 hp) (sa_k0 hp)) d_S_has_6 ?_
    refine G_icmp_ge g (pc := 9) 16 d_S_has_9 (by decide) ?_ ?_
    · refine G_iconst g (pc := 12) (1 : Int32) d_S_has_12 rfl ?_
      refine G_goto g (pc := 13) 17 d_S_has_13 (by decide) ?_
      exact G_zreturn g (pc := 17) true rfl hret (Nat.le_of_ble_eq_true rfl) (Nat.le_of_ble_eq_true rfl) d_S_has_17
    · refine G_iconst g (pc := 16) (0 : Int32) d_S_has_16 rfl ?_
      exact G_zreturn g (pc := 17) false rfl hret (Nat.le_of_ble_eq_true rfl) (Nat.le_of_ble_eq_true rfl) d_S_has_17

theorem d_S_tickAt_0 : decode b_S_tickAt 0 = .ok (.aload_n 0, 1) := by decide +kernel
theorem d_S_tickAt_1 : decode b_S_tickAt 1 = .ok (.getfield 28, 3) := by decide +kernel
theorem d_S_tickAt_4 : decode b_S_tickAt 4 = .ok (.aload_n 0, 1) := by decide +kernel
theorem d_S_tickAt_5 : decode b_S_tickAt 5 = .ok (.iload_n 1, 1) := by decide +kernel
theorem d_S_tickAt_6 : decode b_S_tickAt 6 = .ok (.invokevirtual 47, 3) := by decide +kernel
theorem d_S_tickAt_9 : decode b_S_tickAt 9 = .ok (.invokestatic 55, 3) := by decide +kernel
theorem d_S_tickAt_12 : decode b_S_tickAt 12 = .ok (.ireturn, 1) := by decide +kernel
theorem cc_S_55 : CSN "KiteLogger$Samples" 55 "KiteLogger" y_G_valueAt b_G_valueAt 2 (some .int) 2 := ⟨NW_in (i := 825) (by decide +kernel) (by decide +kernel), TT_in (i := 788) (by decide +kernel) (by decide +kernel), TT_in (i := 18) (by decide +kernel) (by decide +kernel), TT_in (i := 789) (by decide +kernel) (by decide +kernel), ⟨by decide +kernel, by decide +kernel, by decide +kernel⟩⟩
def f_S_tickAt (p : Nat) (a1 : Int32) (M : Mem) : Option (Int32 × Mem) :=
  bnd (f_S_placeOf p a1 M) fun (x1 : Int32) (M2 : Mem) => bnd (f_G_valueAt (p + 1) x1 M2) fun (x3 : Int32) (M4 : Mem) => some (x3, M4)
set_option maxHeartbeats 4000000 in
set_option maxRecDepth 100000 in
theorem c_S_tickAt (l : Launch) {w : Wc} {rr : Nat} (hw : WK w rr) (p : Nat) (hp : p ∈ saL) (a1 : Int32) (M : Mem) : Ct QI l y_S_tickAt b_S_tickAt 2 (some .int) (rmL 1) w [.ref (wad w p), .int a1] M (f_S_tickAt p a1 M) := by
  refine Ct.go (by decide) (L := [(0, .ref (wad w p)), (1, .int a1)]) rfl (Nat.le_of_ble_eq_true rfl) (fun p0 e s m args below meth c g hret => ?_)
  unfold f_S_tickAt
  refine G_aload_n g (pc := 0) 0 d_S_tickAt_0 rfl rfl ?_
  refine G_getR g (pc := 1) fa_S_28 (hw.m _ (sa_lt0 hp)) (hw.k (sa_lt0 hp) (sa_k0 hp)) (hw.r (sa_lt0 hp) (sa_r0_1 hp rr)) d_S_tickAt_1 ?_
  refine G_aload_n g (pc := 4) 0 d_S_tickAt_4 rfl rfl ?_
  refine G_iload_n g (pc := 5) 1 d_S_tickAt_5 rfl rfl ?_
  refine G_cVI g (pc := 6) (As := [.int a1]) (st := [.ref (wad w (p + 1))]) cc_S_47 (c_S_placeOf l hw p hp a1 M) (hw.m _ (sa_lt0 hp)) (hw.k (sa_lt0 hp) (sa_k0 hp)) rfl (by decide) rfl ⟨(Nat.le_of_ble_eq_true rfl), (Nat.le_of_ble_eq_true rfl)⟩ ⟨(Nat.le_of_ble_eq_true rfl), (Nat.le_of_ble_eq_true rfl)⟩ (Nat.le_of_ble_eq_true rfl) d_S_tickAt_6 (fun x1 M2 => ?_)
  refine G_cSNI g (pc := 9) (As := [.ref (wad w (p + 1)), .int x1]) (st := []) cc_S_55 (c_G_valueAt l hw (p + 1) (hw.m _ (sa_lt1 hp)) (hw.k (sa_lt1 hp) (sa_k1 hp)) (sa_lt1 hp) x1 M2) rfl ⟨(Nat.le_of_ble_eq_true rfl), (Nat.le_of_ble_eq_true rfl)⟩ ⟨(Nat.le_of_ble_eq_true rfl), (Nat.le_of_ble_eq_true rfl)⟩ (Nat.le_of_ble_eq_true rfl) d_S_tickAt_9 (fun x3 M4 => ?_)
  exact G_ireturn g (pc := 12) hret (Nat.le_of_ble_eq_true rfl) (Nat.le_of_ble_eq_true rfl) d_S_tickAt_12

theorem d_S_heightAt_0 : decode b_S_heightAt 0 = .ok (.aload_n 0, 1) := by decide +kernel
theorem d_S_heightAt_1 : decode b_S_heightAt 1 = .ok (.getfield 32, 3) := by decide +kernel
theorem d_S_heightAt_4 : decode b_S_heightAt 4 = .ok (.aload_n 0, 1) := by decide +kernel
theorem d_S_heightAt_5 : decode b_S_heightAt 5 = .ok (.iload_n 1, 1) := by decide +kernel
theorem d_S_heightAt_6 : decode b_S_heightAt 6 = .ok (.invokevirtual 47, 3) := by decide +kernel
theorem d_S_heightAt_9 : decode b_S_heightAt 9 = .ok (.invokestatic 55, 3) := by decide +kernel
theorem d_S_heightAt_12 : decode b_S_heightAt 12 = .ok (.ireturn, 1) := by decide +kernel
def f_S_heightAt (p : Nat) (a1 : Int32) (M : Mem) : Option (Int32 × Mem) :=
  bnd (f_S_placeOf p a1 M) fun (x1 : Int32) (M2 : Mem) => bnd (f_G_valueAt (p + 2) x1 M2) fun (x3 : Int32) (M4 : Mem) => some (x3, M4)
set_option maxHeartbeats 4000000 in
set_option maxRecDepth 100000 in
theorem c_S_heightAt (l : Launch) {w : Wc} {rr : Nat} (hw : WK w rr) (p : Nat) (hp : p ∈ saL) (a1 : Int32) (M : Mem) : Ct QI l y_S_heightAt b_S_heightAt 2 (some .int) (rmL 1) w [.ref (wad w p), .int a1] M (f_S_heightAt p a1 M) := by
  refine Ct.go (by decide) (L := [(0, .ref (wad w p)), (1, .int a1)]) rfl (Nat.le_of_ble_eq_true rfl) (fun p0 e s m args below meth c g hret => ?_)
  unfold f_S_heightAt
  refine G_aload_n g (pc := 0) 0 d_S_heightAt_0 rfl rfl ?_
  refine G_getR g (pc := 1) fa_S_32 (hw.m _ (sa_lt0 hp)) (hw.k (sa_lt0 hp) (sa_k0 hp)) (hw.r (sa_lt0 hp) (sa_r0_2 hp rr)) d_S_heightAt_1 ?_
  refine G_aload_n g (pc := 4) 0 d_S_heightAt_4 rfl rfl ?_
  refine G_iload_n g (pc := 5) 1 d_S_heightAt_5 rfl rfl ?_
  refine G_cVI g (pc := 6) (As := [.int a1]) (st := [.ref (wad w (p + 2))]) cc_S_47 (c_S_placeOf l hw p hp a1 M) (hw.m _ (sa_lt0 hp)) (hw.k (sa_lt0 hp) (sa_k0 hp)) rfl (by decide) rfl ⟨(Nat.le_of_ble_eq_true rfl), (Nat.le_of_ble_eq_true rfl)⟩ ⟨(Nat.le_of_ble_eq_true rfl), (Nat.le_of_ble_eq_true rfl)⟩ (Nat.le_of_ble_eq_true rfl) d_S_heightAt_6 (fun x1 M2 => ?_)
  refine G_cSNI g (pc := 9) (As := [.ref (wad w (p + 2)), .int x1]) (st := []) cc_S_55 (c_G_valueAt l hw (p + 2) (hw.m _ (sa_lt2 hp)) (hw.k (sa_lt2 hp) (sa_k2 hp)) (sa_lt2 hp) x1 M2) rfl ⟨(Nat.le_of_ble_eq_true rfl), (Nat.le_of_ble_eq_true rfl)⟩ ⟨(Nat.le_of_ble_eq_true rfl), (Nat.le_of_ble_eq_true rfl)⟩ (Nat.le_of_ble_eq_true rfl) d_S_heightAt_9 (fun x3 M4 => ?_)
  exact G_ireturn g (pc := 12) hret (Nat.le_of_ble_eq_true rfl) (Nat.le_of_ble_eq_true rfl) d_S_heightAt_12

theorem d_S_gustAt_0 : decode b_S_gustAt 0 = .ok (.aload_n 0, 1) := by decide +kernel
theorem d_S_gustAt_1 : decode b_S_gustAt 1 = .ok (.getfield 35, 3) := by decide +kernel
theorem d_S_gustAt_4 : decode b_S_gustAt 4 = .ok (.aload_n 0, 1) := by decide +kernel
theorem d_S_gustAt_5 : decode b_S_gustAt 5 = .ok (.iload_n 1, 1) := by decide +kernel
theorem d_S_gustAt_6 : decode b_S_gustAt 6 = .ok (.invokevirtual 47, 3) := by decide +kernel
theorem d_S_gustAt_9 : decode b_S_gustAt 9 = .ok (.invokestatic 55, 3) := by decide +kernel
theorem d_S_gustAt_12 : decode b_S_gustAt 12 = .ok (.ireturn, 1) := by decide +kernel
def f_S_gustAt (p : Nat) (a1 : Int32) (M : Mem) : Option (Int32 × Mem) :=
  bnd (f_S_placeOf p a1 M) fun (x1 : Int32) (M2 : Mem) => bnd (f_G_valueAt (p + 3) x1 M2) fun (x3 : Int32) (M4 : Mem) => some (x3, M4)
set_option maxHeartbeats 4000000 in
set_option maxRecDepth 100000 in
theorem c_S_gustAt (l : Launch) {w : Wc} {rr : Nat} (hw : WK w rr) (p : Nat) (hp : p ∈ saL) (a1 : Int32) (M : Mem) : Ct QI l y_S_gustAt b_S_gustAt 2 (some .int) (rmL 1) w [.ref (wad w p), .int a1] M (f_S_gustAt p a1 M) := by
  refine Ct.go (by decide) (L := [(0, .ref (wad w p)), (1, .int a1)]) rfl (Nat.le_of_ble_eq_true rfl) (fun p0 e s m args below meth c g hret => ?_)
  unfold f_S_gustAt
  refine G_aload_n g (pc := 0) 0 d_S_gustAt_0 rfl rfl ?_
  refine G_getR g (pc := 1) fa_S_35 (hw.m _ (sa_lt0 hp)) (hw.k (sa_lt0 hp) (sa_k0 hp)) (hw.r (sa_lt0 hp) (sa_r0_3 hp rr)) d_S_gustAt_1 ?_
  refine G_aload_n g (pc := 4) 0 d_S_gustAt_4 rfl rfl ?_
  refine G_iload_n g (pc := 5) 1 d_S_gustAt_5 rfl rfl ?_
  refine G_cVI g (pc := 6) (As := [.int a1]) (st := [.ref (wad w (p + 3))]) cc_S_47 (c_S_placeOf l hw p hp a1 M) (hw.m _ (sa_lt0 hp)) (hw.k (sa_lt0 hp) (sa_k0 hp)) rfl (by decide) rfl ⟨(Nat.le_of_ble_eq_true rfl), (Nat.le_of_ble_eq_true rfl)⟩ ⟨(Nat.le_of_ble_eq_true rfl), (Nat.le_of_ble_eq_true rfl)⟩ (Nat.le_of_ble_eq_true rfl) d_S_gustAt_6 (fun x1 M2 => ?_)
  refine G_cSNI g (pc := 9) (As := [.ref (wad w (p + 3)), .int x1]) (st := []) cc_S_55 (c_G_valueAt l hw (p + 3) (hw.m _ (sa_lt3 hp)) (hw.k (sa_lt3 hp) (sa_k3 hp)) (sa_lt3 hp) x1 M2) rfl ⟨(Nat.le_of_ble_eq_true rfl), (Nat.le_of_ble_eq_true rfl)⟩ ⟨(Nat.le_of_ble_eq_true rfl), (Nat.le_of_ble_eq_true rfl)⟩ (Nat.le_of_ble_eq_true rfl) d_S_gustAt_9 (fun x3 M4 => ?_)
  exact G_ireturn g (pc := 12) hret (Nat.le_of_ble_eq_true rfl) (Nat.le_of_ble_eq_true rfl) d_S_gustAt_12

theorem d_S_countBetween_0 : decode b_S_countBetween 0 = .ok (.iconst 0, 1) := by decide +kernel
theorem d_S_countBetween_1 : decode b_S_countBetween 1 = .ok (.istore_n 3, 1) := by decide +kernel
theorem d_S_countBetween_2 : decode b_S_countBetween 2 = .ok (.iconst 0, 1) := by decide +kernel
theorem d_S_countBetween_3 : decode b_S_countBetween 3 = .ok (.istore 4, 2) := by decide +kernel
theorem d_S_countBetween_5 : decode b_S_countBetween 5 = .ok (.iload 4, 2) := by decide +kernel
theorem d_S_countBetween_7 : decode b_S_countBetween 7 = .ok (.aload_n 0, 1) := by decide +kernel
theorem d_S_countBetween_8 : decode b_S_countBetween 8 = .ok (.getfield 13, 3) := by decide +kernel
theorem d_S_countBetween_11 : decode b_S_countBetween 11 = .ok (.if_icmp .ge 26, 3) := by decide +kernel
theorem d_S_countBetween_14 : decode b_S_countBetween 14 = .ok (.aload_n 0, 1) := by decide +kernel
theorem d_S_countBetween_15 : decode b_S_countBetween 15 = .ok (.iload 4, 2) := by decide +kernel
theorem d_S_countBetween_17 : decode b_S_countBetween 17 = .ok (.invokevirtual 59, 3) := by decide +kernel
theorem d_S_countBetween_20 : decode b_S_countBetween 20 = .ok (.iload_n 1, 1) := by decide +kernel
theorem d_S_countBetween_21 : decode b_S_countBetween 21 = .ok (.iload_n 2, 1) := by decide +kernel
theorem d_S_countBetween_22 : decode b_S_countBetween 22 = .ok (.invokestatic 62, 3) := by decide +kernel
theorem d_S_countBetween_25 : decode b_S_countBetween 25 = .ok (.ifCond .ne 6, 3) := by decide +kernel
theorem d_S_countBetween_28 : decode b_S_countBetween 28 = .ok (.iinc 3 1, 3) := by decide +kernel
theorem d_S_countBetween_31 : decode b_S_countBetween 31 = .ok (.iinc 4 1, 3) := by decide +kernel
theorem d_S_countBetween_34 : decode b_S_countBetween 34 = .ok (.goto (-29), 3) := by decide +kernel
theorem d_S_countBetween_37 : decode b_S_countBetween 37 = .ok (.iload_n 3, 1) := by decide +kernel
theorem d_S_countBetween_38 : decode b_S_countBetween 38 = .ok (.ireturn, 1) := by decide +kernel
theorem cc_S_59 : CV "KiteLogger$Samples" 59 y_S_heightAt b_S_heightAt 2 (some .int) 1 := ⟨TT_in (i := 878) (by decide +kernel) (by decide +kernel), TT_in (i := 831) (by decide +kernel) (by decide +kernel), TT_in (i := 832) (by decide +kernel) (by decide +kernel), TT_in (i := 27) (by decide +kernel) (by decide +kernel), TT_in (i := 833) (by decide +kernel) (by decide +kernel), ⟨by decide +kernel, by decide +kernel, by decide +kernel⟩⟩
theorem cc_S_62 : CSN "KiteLogger$Samples" 62 "KiteLogger" y_G_isOutside b_G_isOutside 3 (some .boolean) 3 := ⟨NW_in (i := 887) (by decide +kernel) (by decide +kernel), TT_in (i := 575) (by decide +kernel) (by decide +kernel), TT_in (i := 18) (by decide +kernel) (by decide +kernel), TT_in (i := 576) (by decide +kernel) (by decide +kernel), ⟨by decide +kernel, by decide +kernel, by decide +kernel⟩⟩
def lp_S_countBetween_5 (N0 rr : Nat) (p : Nat) (a1 : Int32) (a2 : Int32)  : Nat → Int32 × Int32 → Mem → (Int32 × Int32 → Mem → Option (Int32 × Mem)) → Option (Int32 × Mem)
  | 0, _, _, _ => none
  | N + 1, v5, M, k5 => if v5.2 < (M p 5) then (bnd (f_S_heightAt p v5.2 M) fun (x1 : Int32) (M2 : Mem) => bnd (f_G_isOutside x1 a1 a2 M2) fun (x3 : Bool) (M4 : Mem) => if x3 = true then (nm (v5.2 + (1 : Int32)) fun (x5 : Int32) => lp_S_countBetween_5 N0 rr p a1 a2 N (v5.1, x5) M4 k5) else (nm (v5.1 + (1 : Int32)) fun (x6 : Int32) => nm (v5.2 + (1 : Int32)) fun (x7 : Int32) => lp_S_countBetween_5 N0 rr p a1 a2 N (x6, x7) M4 k5)) else (k5 (v5.1, v5.2) M)
def f_S_countBetween (N : Nat) (rr : Nat) (p : Nat) (a1 : Int32) (a2 : Int32) (M : Mem) : Option (Int32 × Mem) :=
  lp_S_countBetween_5 N rr p a1 a2 N ((0 : Int32), (0 : Int32)) M (fun (a9 : Int32 × Int32) (M8 : Mem) => some (a9.1, M8))
set_option maxHeartbeats 4000000 in
set_option maxRecDepth 100000 in
theorem c_S_countBetween (l : Launch) (N : Nat) {w : Wc} {rr : Nat} (hw : WK w rr) (p : Nat) (hp : p ∈ saL) (a1 : Int32) (a2 : Int32) (M : Mem) : Ct QI l y_S_countBetween b_S_countBetween 5 (some .int) (rmL 2) w [.ref (wad w p), .int a1, .int a2] M (f_S_countBetween N rr p a1 a2 M) := by
  refine Ct.go (by decide) (L := [(0, .ref (wad w p)), (1, .int a1), (2, .int a2)]) rfl (Nat.le_of_ble_eq_true rfl) (fun p0 e s m args below meth c g hret => ?_)
  unfold f_S_countBetween
  refine G_iconst g (pc := 0) (0 : Int32) d_S_countBetween_0 rfl ?_
  refine G_istore_n g (pc := 1) _ d_S_countBetween_1 rfl (Nat.le_of_ble_eq_true rfl) rfl ?_
  refine G_iconst g (pc := 2) (0 : Int32) d_S_countBetween_2 rfl ?_
  refine G_istore g (pc := 3) _ d_S_countBetween_3 (Nat.le_of_ble_eq_true rfl) rfl ?_
  refine G_sub [2, 3, 4, 1, 0] _ rfl ?_
  refine G_loop (F := lp_S_countBetween_5 N rr p a1 a2) 5 37 (fun (v5 : Int32 × Int32) => [(0, .ref (wad w p)), (1, .int a1), (2, .int a2), (3, .int v5.1), (4, .int v5.2)]) (fun (v5 : Int32 × Int32) => [(0, .ref (wad w p)), (1, .int a1), (2, .int a2), (3, .int v5.1), (4, .int v5.2)]) (fun _ _ _ => rfl) (fun a9 M8 => ?_) (fun k5 hk5 Nl5 ih5 v5 M => ?_) N ((0 : Int32), (0 : Int32)) M
  · refine G_iload_n g (pc := 37) 3 d_S_countBetween_37 rfl rfl ?_
    exact G_ireturn g (pc := 38) hret (Nat.le_of_ble_eq_true rfl) (Nat.le_of_ble_eq_true rfl) d_S_countBetween_38
  · show Go p0 l e _ s m args below meth c w _ _ _ _ (lp_S_countBetween_5 N rr p a1 a2 (Nl5 + 1) v5 M k5) 5 _ _ M
    unfold lp_S_countBetween_5
    refine G_iload g (pc := 5) 4 d_S_countBetween_5 rfl ?_
    refine G_aload_n g (pc := 7) 0 d_S_countBetween_7 rfl rfl ?_
    refine G_get g (pc := 8) fa_S_13 (hw.m _ (sa_lt0 hp)) (hw.k (sa_lt0 hp) (sa_k0 hp)) d_S_countBetween_8 ?_
    refine G_icmp_ge g (pc := 11) 37 d_S_countBetween_11 (by decide) ?_ ?_
    · refine G_aload_n g (pc := 14) 0 d_S_countBetween_14 rfl rfl ?_
      refine G_iload g (pc := 15) 4 d_S_countBetween_15 rfl ?_
      refine G_cVI g (pc := 17) (As := [.int v5.2]) (st := []) cc_S_59 (c_S_heightAt l hw p hp v5.2 M) (hw.m _ (sa_lt0 hp)) (hw.k (sa_lt0 hp) (sa_k0 hp)) rfl (by decide) rfl ⟨(Nat.le_of_ble_eq_true rfl), (Nat.le_of_ble_eq_true rfl)⟩ ⟨(Nat.le_of_ble_eq_true rfl), (Nat.le_of_ble_eq_true rfl)⟩ (Nat.le_of_ble_eq_true rfl) d_S_countBetween_17 (fun x1 M2 => ?_)
      refine G_iload_n g (pc := 20) 1 d_S_countBetween_20 rfl rfl ?_
      refine G_iload_n g (pc := 21) 2 d_S_countBetween_21 rfl rfl ?_
      refine G_cSNZ g (pc := 22) (As := [.int x1, .int a1, .int a2]) (st := []) cc_S_62 (c_G_isOutside l hw x1 a1 a2 M2) rfl ⟨(Nat.le_of_ble_eq_true rfl), (Nat.le_of_ble_eq_true rfl)⟩ ⟨(Nat.le_of_ble_eq_true rfl), (Nat.le_of_ble_eq_true rfl)⟩ (Nat.le_of_ble_eq_true rfl) d_S_countBetween_22 (fun x3 M4 => ?_)
      refine G_if_neB g (pc := 25) 31 d_S_countBetween_25 (by decide) ?_ ?_
      · refine G_nmX (v5.2 + (1 : Int32)) (fun x5 e_x5 => ?_)
        refine G_iinc g (pc := 31) x5 _ 4 d_S_countBetween_31 rfl e_x5.symm (Nat.le_of_ble_eq_true rfl) rfl ?_
        refine G_goto g (pc := 34) 5 d_S_countBetween_34 (by decide) ?_
        refine G_sub [1, 2, 3, 4, 0] _ rfl ?_
        exact ih5 (v5.1, x5) M4
      · refine G_nmX (v5.1 + (1 : Int32)) (fun x6 e_x6 => ?_)
        refine G_iinc g (pc := 28) x6 _ 3 d_S_countBetween_28 rfl e_x6.symm (Nat.le_of_ble_eq_true rfl) rfl ?_
        refine G_nmX (v5.2 + (1 : Int32)) (fun x7 e_x7 => ?_)
        refine G_iinc g (pc := 31) x7 _ 4 d_S_countBetween_31 rfl e_x7.symm (Nat.le_of_ble_eq_true rfl) rfl ?_
        refine G_goto g (pc := 34) 5 d_S_countBetween_34 (by decide) ?_
        refine G_sub [2, 3, 4, 1, 0] _ rfl ?_
        exact ih5 (x6, x7) M4
    · refine G_sub [0, 1, 2, 3, 4] _ rfl ?_
      exact hk5 (v5.1, v5.2) M

theorem d_S_gustsBetween_0 : decode b_S_gustsBetween 0 = .ok (.iconst 0, 1) := by decide +kernel
theorem d_S_gustsBetween_1 : decode b_S_gustsBetween 1 = .ok (.istore_n 3, 1) := by decide +kernel
theorem d_S_gustsBetween_2 : decode b_S_gustsBetween 2 = .ok (.iconst 0, 1) := by decide +kernel
theorem d_S_gustsBetween_3 : decode b_S_gustsBetween 3 = .ok (.istore 4, 2) := by decide +kernel
theorem d_S_gustsBetween_5 : decode b_S_gustsBetween 5 = .ok (.iload 4, 2) := by decide +kernel
theorem d_S_gustsBetween_7 : decode b_S_gustsBetween 7 = .ok (.aload_n 0, 1) := by decide +kernel
theorem d_S_gustsBetween_8 : decode b_S_gustsBetween 8 = .ok (.getfield 13, 3) := by decide +kernel
theorem d_S_gustsBetween_11 : decode b_S_gustsBetween 11 = .ok (.if_icmp .ge 32, 3) := by decide +kernel
theorem d_S_gustsBetween_14 : decode b_S_gustsBetween 14 = .ok (.aload_n 0, 1) := by decide +kernel
theorem d_S_gustsBetween_15 : decode b_S_gustsBetween 15 = .ok (.iload 4, 2) := by decide +kernel
theorem d_S_gustsBetween_17 : decode b_S_gustsBetween 17 = .ok (.invokevirtual 59, 3) := by decide +kernel
theorem d_S_gustsBetween_20 : decode b_S_gustsBetween 20 = .ok (.iload_n 1, 1) := by decide +kernel
theorem d_S_gustsBetween_21 : decode b_S_gustsBetween 21 = .ok (.iload_n 2, 1) := by decide +kernel
theorem d_S_gustsBetween_22 : decode b_S_gustsBetween 22 = .ok (.invokestatic 62, 3) := by decide +kernel
theorem d_S_gustsBetween_25 : decode b_S_gustsBetween 25 = .ok (.ifCond .ne 12, 3) := by decide +kernel
theorem d_S_gustsBetween_28 : decode b_S_gustsBetween 28 = .ok (.iload_n 3, 1) := by decide +kernel
theorem d_S_gustsBetween_29 : decode b_S_gustsBetween 29 = .ok (.aload_n 0, 1) := by decide +kernel
theorem d_S_gustsBetween_30 : decode b_S_gustsBetween 30 = .ok (.iload 4, 2) := by decide +kernel
theorem d_S_gustsBetween_32 : decode b_S_gustsBetween 32 = .ok (.invokevirtual 66, 3) := by decide +kernel
theorem d_S_gustsBetween_35 : decode b_S_gustsBetween 35 = .ok (.iadd, 1) := by decide +kernel
theorem d_S_gustsBetween_36 : decode b_S_gustsBetween 36 = .ok (.istore_n 3, 1) := by decide +kernel
theorem d_S_gustsBetween_37 : decode b_S_gustsBetween 37 = .ok (.iinc 4 1, 3) := by decide +kernel
theorem d_S_gustsBetween_40 : decode b_S_gustsBetween 40 = .ok (.goto (-35), 3) := by decide +kernel
theorem d_S_gustsBetween_43 : decode b_S_gustsBetween 43 = .ok (.iload_n 3, 1) := by decide +kernel
theorem d_S_gustsBetween_44 : decode b_S_gustsBetween 44 = .ok (.ireturn, 1) := by decide +kernel
theorem cc_S_66 : CV "KiteLogger$Samples" 66 y_S_gustAt b_S_gustAt 2 (some .int) 1 := ⟨TT_in (i := 901) (by decide +kernel) (by decide +kernel), TT_in (i := 839) (by decide +kernel) (by decide +kernel), TT_in (i := 840) (by decide +kernel) (by decide +kernel), TT_in (i := 27) (by decide +kernel) (by decide +kernel), TT_in (i := 841) (by decide +kernel) (by decide +kernel), ⟨by decide +kernel, by decide +kernel, by decide +kernel⟩⟩
def lp_S_gustsBetween_5 (N0 rr : Nat) (p : Nat) (a1 : Int32) (a2 : Int32)  : Nat → Int32 × Int32 → Mem → (Int32 × Int32 → Mem → Option (Int32 × Mem)) → Option (Int32 × Mem)
  | 0, _, _, _ => none
  | N + 1, v5, M, k5 => if v5.2 < (M p 5) then (bnd (f_S_heightAt p v5.2 M) fun (x1 : Int32) (M2 : Mem) => bnd (f_G_isOutside x1 a1 a2 M2) fun (x3 : Bool) (M4 : Mem) => if x3 = true then (nm (v5.2 + (1 : Int32)) fun (x5 : Int32) => lp_S_gustsBetween_5 N0 rr p a1 a2 N (v5.1, x5) M4 k5) else (bnd (f_S_gustAt p v5.2 M4) fun (x6 : Int32) (M7 : Mem) => nm (v5.1 + x6) fun (x8 : Int32) => nm (v5.2 + (1 : Int32)) fun (x9 : Int32) => lp_S_gustsBetween_5 N0 rr p a1 a2 N (x8, x9) M7 k5)) else (k5 (v5.1, v5.2) M)
def f_S_gustsBetween (N : Nat) (rr : Nat) (p : Nat) (a1 : Int32) (a2 : Int32) (M : Mem) : Option (Int32 × Mem) :=
  lp_S_gustsBetween_5 N rr p a1 a2 N ((0 : Int32), (0 : Int32)) M (fun (a11 : Int32 × Int32) (M10 : Mem) => some (a11.1, M10))
set_option maxHeartbeats 4000000 in
set_option maxRecDepth 100000 in
theorem c_S_gustsBetween (l : Launch) (N : Nat) {w : Wc} {rr : Nat} (hw : WK w rr) (p : Nat) (hp : p ∈ saL) (a1 : Int32) (a2 : Int32) (M : Mem) : Ct QI l y_S_gustsBetween b_S_gustsBetween 5 (some .int) (rmL 2) w [.ref (wad w p), .int a1, .int a2] M (f_S_gustsBetween N rr p a1 a2 M) := by
  refine Ct.go (by decide) (L := [(0, .ref (wad w p)), (1, .int a1), (2, .int a2)]) rfl (Nat.le_of_ble_eq_true rfl) (fun p0 e s m args below meth c g hret => ?_)
  unfold f_S_gustsBetween
  refine G_iconst g (pc := 0) (0 : Int32) d_S_gustsBetween_0 rfl ?_
  refine G_istore_n g (pc := 1) _ d_S_gustsBetween_1 rfl (Nat.le_of_ble_eq_true rfl) rfl ?_
  refine G_iconst g (pc := 2) (0 : Int32) d_S_gustsBetween_2 rfl ?_
  refine G_istore g (pc := 3) _ d_S_gustsBetween_3 (Nat.le_of_ble_eq_true rfl) rfl ?_
  refine G_sub [2, 3, 4, 1, 0] _ rfl ?_
  refine G_loop (F := lp_S_gustsBetween_5 N rr p a1 a2) 5 43 (fun (v5 : Int32 × Int32) => [(0, .ref (wad w p)), (1, .int a1), (2, .int a2), (3, .int v5.1), (4, .int v5.2)]) (fun (v5 : Int32 × Int32) => [(0, .ref (wad w p)), (1, .int a1), (2, .int a2), (3, .int v5.1), (4, .int v5.2)]) (fun _ _ _ => rfl) (fun a11 M10 => ?_) (fun k5 hk5 Nl5 ih5 v5 M => ?_) N ((0 : Int32), (0 : Int32)) M
  · refine G_iload_n g (pc := 43) 3 d_S_gustsBetween_43 rfl rfl ?_
    exact G_ireturn g (pc := 44) hret (Nat.le_of_ble_eq_true rfl) (Nat.le_of_ble_eq_true rfl) d_S_gustsBetween_44
  · show Go p0 l e _ s m args below meth c w _ _ _ _ (lp_S_gustsBetween_5 N rr p a1 a2 (Nl5 + 1) v5 M k5) 5 _ _ M
    unfold lp_S_gustsBetween_5
    refine G_iload g (pc := 5) 4 d_S_gustsBetween_5 rfl ?_
    refine G_aload_n g (pc := 7) 0 d_S_gustsBetween_7 rfl rfl ?_
    refine G_get g (pc := 8) fa_S_13 (hw.m _ (sa_lt0 hp)) (hw.k (sa_lt0 hp) (sa_k0 hp)) d_S_gustsBetween_8 ?_
    refine G_icmp_ge g (pc := 11) 43 d_S_gustsBetween_11 (by decide) ?_ ?_
    · refine G_aload_n g (pc := 14) 0 d_S_gustsBetween_14 rfl rfl ?_
      refine G_iload g (pc := 15) 4 d_S_gustsBetween_15 rfl ?_
      refine G_cVI g (pc := 17) (As := [.int v5.2]) (st := []) cc_S_59 (c_S_heightAt l hw p hp v5.2 M) (hw.m _ (sa_lt0 hp)) (hw.k (sa_lt0 hp) (sa_k0 hp)) rfl (by decide) rfl ⟨(Nat.le_of_ble_eq_true rfl), (Nat.le_of_ble_eq_true rfl)⟩ ⟨(Nat.le_of_ble_eq_true rfl), (Nat.le_of_ble_eq_true rfl)⟩ (Nat.le_of_ble_eq_true rfl) d_S_gustsBetween_17 (fun x1 M2 => ?_)
      refine G_iload_n g (pc := 20) 1 d_S_gustsBetween_20 rfl rfl ?_
      refine G_iload_n g (pc := 21) 2 d_S_gustsBetween_21 rfl rfl ?_
      refine G_cSNZ g (pc := 22) (As := [.int x1, .int a1, .int a2]) (st := []) cc_S_62 (c_G_isOutside l hw x1 a1 a2 M2) rfl ⟨(Nat.le_of_ble_eq_true rfl), (Nat.le_of_ble_eq_true rfl)⟩ ⟨(Nat.le_of_ble_eq_true rfl), (Nat.le_of_ble_eq_true rfl)⟩ (Nat.le_of_ble_eq_true rfl) d_S_gustsBetween_22 (fun x3 M4 => ?_)
      refine G_if_neB g (pc := 25) 37 d_S_gustsBetween_25 (by decide) ?_ ?_
      · refine G_nmX (v5.2 + (1 : Int32)) (fun x5 e_x5 => ?_)
        refine G_iinc g (pc := 37) x5 _ 4 d_S_gustsBetween_37 rfl e_x5.symm (Nat.le_of_ble_eq_true rfl) rfl ?_
        refine G_goto g (pc := 40) 5 d_S_gustsBetween_40 (by decide) ?_
        refine G_sub [1, 2, 3, 4, 0] _ rfl ?_
        exact ih5 (v5.1, x5) M4
      · refine G_iload_n g (pc := 28) 3 d_S_gustsBetween_28 rfl rfl ?_
        refine G_aload_n g (pc := 29) 0 d_S_gustsBetween_29 rfl rfl ?_
        refine G_iload g (pc := 30) 4 d_S_gustsBetween_30 rfl ?_
        refine G_cVI g (pc := 32) (As := [.int v5.2]) (st := [.int v5.1]) cc_S_66 (c_S_gustAt l hw p hp v5.2 M4) (hw.m _ (sa_lt0 hp)) (hw.k (sa_lt0 hp) (sa_k0 hp)) rfl (by decide) rfl ⟨(Nat.le_of_ble_eq_true rfl), (Nat.le_of_ble_eq_true rfl)⟩ ⟨(Nat.le_of_ble_eq_true rfl), (Nat.le_of_ble_eq_true rfl)⟩ (Nat.le_of_ble_eq_true rfl) d_S_gustsBetween_32 (fun x6 M7 => ?_)
        refine G_iadd g (pc := 35) d_S_gustsBetween_35 ?_
        refine G_nmI (fun x8 => ?_)
        refine G_istore_n g (pc := 36) _ d_S_gustsBetween_36 rfl (Nat.le_of_ble_eq_true rfl) rfl ?_
        refine G_nmX (v5.2 + (1 : Int32)) (fun x9 e_x9 => ?_)
        refine G_iinc g (pc := 37) x9 _ 4 d_S_gustsBetween_37 rfl e_x9.symm (Nat.le_of_ble_eq_true rfl) rfl ?_
        refine G_goto g (pc := 40) 5 d_S_gustsBetween_40 (by decide) ?_
        refine G_sub [2, 3, 4, 1, 0] _ rfl ?_
        exact ih5 (x8, x9) M7
    · refine G_sub [0, 1, 2, 3, 4] _ rfl ?_
      exact hk5 (v5.1, v5.2) M

theorem d_S_highest_0 : decode b_S_highest 0 = .ok (.iconst (-1), 1) := by decide +kernel
theorem d_S_highest_1 : decode b_S_highest 1 = .ok (.istore_n 1, 1) := by decide +kernel
theorem d_S_highest_2 : decode b_S_highest 2 = .ok (.iconst 0, 1) := by decide +kernel
theorem d_S_highest_3 : decode b_S_highest 3 = .ok (.istore_n 2, 1) := by decide +kernel
theorem d_S_highest_4 : decode b_S_highest 4 = .ok (.iload_n 2, 1) := by decide +kernel
theorem d_S_highest_5 : decode b_S_highest 5 = .ok (.aload_n 0, 1) := by decide +kernel
theorem d_S_highest_6 : decode b_S_highest 6 = .ok (.getfield 13, 3) := by decide +kernel
theorem d_S_highest_9 : decode b_S_highest 9 = .ok (.if_icmp .ge 28, 3) := by decide +kernel
theorem d_S_highest_12 : decode b_S_highest 12 = .ok (.iload_n 1, 1) := by decide +kernel
theorem d_S_highest_13 : decode b_S_highest 13 = .ok (.ifCond .lt 16, 3) := by decide +kernel
theorem d_S_highest_16 : decode b_S_highest 16 = .ok (.aload_n 0, 1) := by decide +kernel
theorem d_S_highest_17 : decode b_S_highest 17 = .ok (.iload_n 2, 1) := by decide +kernel
theorem d_S_highest_18 : decode b_S_highest 18 = .ok (.invokevirtual 59, 3) := by decide +kernel
theorem d_S_highest_21 : decode b_S_highest 21 = .ok (.aload_n 0, 1) := by decide +kernel
theorem d_S_highest_22 : decode b_S_highest 22 = .ok (.iload_n 1, 1) := by decide +kernel
theorem d_S_highest_23 : decode b_S_highest 23 = .ok (.invokevirtual 59, 3) := by decide +kernel
theorem d_S_highest_26 : decode b_S_highest 26 = .ok (.if_icmp .le 5, 3) := by decide +kernel
theorem d_S_highest_29 : decode b_S_highest 29 = .ok (.iload_n 2, 1) := by decide +kernel
theorem d_S_highest_30 : decode b_S_highest 30 = .ok (.istore_n 1, 1) := by decide +kernel
theorem d_S_highest_31 : decode b_S_highest 31 = .ok (.iinc 2 1, 3) := by decide +kernel
theorem d_S_highest_34 : decode b_S_highest 34 = .ok (.goto (-30), 3) := by decide +kernel
theorem d_S_highest_37 : decode b_S_highest 37 = .ok (.iload_n 1, 1) := by decide +kernel
theorem d_S_highest_38 : decode b_S_highest 38 = .ok (.ireturn, 1) := by decide +kernel
def lp_S_highest_4 (N0 rr : Nat) (p : Nat)  : Nat → Int32 × Int32 → Mem → (Int32 × Int32 → Mem → Option (Int32 × Mem)) → Option (Int32 × Mem)
  | 0, _, _, _ => none
  | N + 1, v4, M, k4 => if v4.2 < (M p 5) then (if v4.1 < 0 then (nm (v4.2 + (1 : Int32)) fun (x1 : Int32) => lp_S_highest_4 N0 rr p N (v4.2, x1) M k4) else (bnd (f_S_heightAt p v4.2 M) fun (x2 : Int32) (M3 : Mem) => bnd (f_S_heightAt p v4.1 M3) fun (x4 : Int32) (M5 : Mem) => if x4 < x2 then (nm (v4.2 + (1 : Int32)) fun (x6 : Int32) => lp_S_highest_4 N0 rr p N (v4.2, x6) M5 k4) else (nm (v4.2 + (1 : Int32)) fun (x7 : Int32) => lp_S_highest_4 N0 rr p N (v4.1, x7) M5 k4))) else (k4 (v4.1, v4.2) M)
def f_S_highest (N : Nat) (rr : Nat) (p : Nat) (M : Mem) : Option (Int32 × Mem) :=
  lp_S_highest_4 N rr p N ((-1 : Int32), (0 : Int32)) M (fun (a9 : Int32 × Int32) (M8 : Mem) => some (a9.1, M8))
set_option maxHeartbeats 4000000 in
set_option maxRecDepth 100000 in
theorem c_S_highest (l : Launch) (N : Nat) {w : Wc} {rr : Nat} (hw : WK w rr) (p : Nat) (hp : p ∈ saL) (M : Mem) : Ct QI l y_S_highest b_S_highest 3 (some .int) (rmL 2) w [.ref (wad w p)] M (f_S_highest N rr p M) := by
  refine Ct.go (by decide) (L := [(0, .ref (wad w p))]) rfl (Nat.le_of_ble_eq_true rfl) (fun p0 e s m args below meth c g hret => ?_)
  unfold f_S_highest
  refine G_iconst g (pc := 0) (-1 : Int32) d_S_highest_0 rfl ?_
  refine G_istore_n g (pc := 1) _ d_S_highest_1 rfl (Nat.le_of_ble_eq_true rfl) rfl ?_
  refine G_iconst g (pc := 2) (0 : Int32) d_S_highest_2 rfl ?_
  refine G_istore_n g (pc := 3) _ d_S_highest_3 rfl (Nat.le_of_ble_eq_true rfl) rfl ?_
  refine G_sub [2, 1, 0] _ rfl ?_
  refine G_loop (F := lp_S_highest_4 N rr p) 4 37 (fun (v4 : Int32 × Int32) => [(0, .ref (wad w p)), (1, .int v4.1), (2, .int v4.2)]) (fun (v4 : Int32 × Int32) => [(0, .ref (wad w p)), (1, .int v4.1), (2, .int v4.2)]) (fun _ _ _ => rfl) (fun a9 M8 => ?_) (fun k4 hk4 Nl4 ih4 v4 M => ?_) N ((-1 : Int32), (0 : Int32)) M
  · refine G_iload_n g (pc := 37) 1 d_S_highest_37 rfl rfl ?_
    exact G_ireturn g (pc := 38) hret (Nat.le_of_ble_eq_true rfl) (Nat.le_of_ble_eq_true rfl) d_S_highest_38
  · show Go p0 l e _ s m args below meth c w _ _ _ _ (lp_S_highest_4 N rr p (Nl4 + 1) v4 M k4) 4 _ _ M
    unfold lp_S_highest_4
    refine G_iload_n g (pc := 4) 2 d_S_highest_4 rfl rfl ?_
    refine G_aload_n g (pc := 5) 0 d_S_highest_5 rfl rfl ?_
    refine G_get g (pc := 6) fa_S_13 (hw.m _ (sa_lt0 hp)) (hw.k (sa_lt0 hp) (sa_k0 hp)) d_S_highest_6 ?_
    refine G_icmp_ge g (pc := 9) 37 d_S_highest_9 (by decide) ?_ ?_
    · refine G_iload_n g (pc := 12) 1 d_S_highest_12 rfl rfl ?_
      refine G_if_lt g (pc := 13) 29 d_S_highest_13 (by decide) ?_ ?_
      · refine G_iload_n g (pc := 29) 2 d_S_highest_29 rfl rfl ?_
        refine G_istore_n g (pc := 30) _ d_S_highest_30 rfl (Nat.le_of_ble_eq_true rfl) rfl ?_
        refine G_nmX (v4.2 + (1 : Int32)) (fun x1 e_x1 => ?_)
        refine G_iinc g (pc := 31) x1 _ 2 d_S_highest_31 rfl e_x1.symm (Nat.le_of_ble_eq_true rfl) rfl ?_
        refine G_goto g (pc := 34) 4 d_S_highest_34 (by decide) ?_
        refine G_sub [2, 1, 0] _ rfl ?_
        exact ih4 (v4.2, x1) M
      · refine G_aload_n g (pc := 16) 0 d_S_highest_16 rfl rfl ?_
        refine G_iload_n g (pc := 17) 2 d_S_highest_17 rfl rfl ?_
        refine G_cVI g (pc := 18) (As := [.int v4.2]) (st := []) cc_S_59 (c_S_heightAt l hw p hp v4.2 M) (hw.m _ (sa_lt0 hp)) (hw.k (sa_lt0 hp) (sa_k0 hp)) rfl (by decide) rfl ⟨(Nat.le_of_ble_eq_true rfl), (Nat.le_of_ble_eq_true rfl)⟩ ⟨(Nat.le_of_ble_eq_true rfl), (Nat.le_of_ble_eq_true rfl)⟩ (Nat.le_of_ble_eq_true rfl) d_S_highest_18 (fun x2 M3 => ?_)
        refine G_aload_n g (pc := 21) 0 d_S_highest_21 rfl rfl ?_
        refine G_iload_n g (pc := 22) 1 d_S_highest_22 rfl rfl ?_
        refine G_cVI g (pc := 23) (As := [.int v4.1]) (st := [.int x2]) cc_S_59 (c_S_heightAt l hw p hp v4.1 M3) (hw.m _ (sa_lt0 hp)) (hw.k (sa_lt0 hp) (sa_k0 hp)) rfl (by decide) rfl ⟨(Nat.le_of_ble_eq_true rfl), (Nat.le_of_ble_eq_true rfl)⟩ ⟨(Nat.le_of_ble_eq_true rfl), (Nat.le_of_ble_eq_true rfl)⟩ (Nat.le_of_ble_eq_true rfl) d_S_highest_23 (fun x4 M5 => ?_)
        refine G_icmp_le g (pc := 26) 31 d_S_highest_26 (by decide) ?_ ?_
        · refine G_iload_n g (pc := 29) 2 d_S_highest_29 rfl rfl ?_
          refine G_istore_n g (pc := 30) _ d_S_highest_30 rfl (Nat.le_of_ble_eq_true rfl) rfl ?_
          refine G_nmX (v4.2 + (1 : Int32)) (fun x6 e_x6 => ?_)
          refine G_iinc g (pc := 31) x6 _ 2 d_S_highest_31 rfl e_x6.symm (Nat.le_of_ble_eq_true rfl) rfl ?_
          refine G_goto g (pc := 34) 4 d_S_highest_34 (by decide) ?_
          refine G_sub [2, 1, 0] _ rfl ?_
          exact ih4 (v4.2, x6) M5
        · refine G_nmX (v4.2 + (1 : Int32)) (fun x7 e_x7 => ?_)
          refine G_iinc g (pc := 31) x7 _ 2 d_S_highest_31 rfl e_x7.symm (Nat.le_of_ble_eq_true rfl) rfl ?_
          refine G_goto g (pc := 34) 4 d_S_highest_34 (by decide) ?_
          refine G_sub [1, 2, 0] _ rfl ?_
          exact ih4 (v4.1, x7) M5
    · refine G_sub [0, 1, 2] _ rfl ?_
      exact hk4 (v4.1, v4.2) M

theorem d_S_lastUntil_0 : decode b_S_lastUntil 0 = .ok (.aload_n 0, 1) := by decide +kernel
theorem d_S_lastUntil_1 : decode b_S_lastUntil 1 = .ok (.getfield 13, 3) := by decide +kernel
theorem d_S_lastUntil_4 : decode b_S_lastUntil 4 = .ok (.iconst 1, 1) := by decide +kernel
theorem d_S_lastUntil_5 : decode b_S_lastUntil 5 = .ok (.isub, 1) := by decide +kernel
theorem d_S_lastUntil_6 : decode b_S_lastUntil 6 = .ok (.istore_n 2, 1) := by decide +kernel
theorem d_S_lastUntil_7 : decode b_S_lastUntil 7 = .ok (.iload_n 2, 1) := by decide +kernel
theorem d_S_lastUntil_8 : decode b_S_lastUntil 8 = .ok (.ifCond .lt 20, 3) := by decide +kernel
theorem d_S_lastUntil_11 : decode b_S_lastUntil 11 = .ok (.aload_n 0, 1) := by decide +kernel
theorem d_S_lastUntil_12 : decode b_S_lastUntil 12 = .ok (.iload_n 2, 1) := by decide +kernel
theorem d_S_lastUntil_13 : decode b_S_lastUntil 13 = .ok (.invokevirtual 69, 3) := by decide +kernel
theorem d_S_lastUntil_16 : decode b_S_lastUntil 16 = .ok (.iload_n 1, 1) := by decide +kernel
theorem d_S_lastUntil_17 : decode b_S_lastUntil 17 = .ok (.if_icmp .gt 5, 3) := by decide +kernel
theorem d_S_lastUntil_20 : decode b_S_lastUntil 20 = .ok (.iload_n 2, 1) := by decide +kernel
theorem d_S_lastUntil_21 : decode b_S_lastUntil 21 = .ok (.ireturn, 1) := by decide +kernel
theorem d_S_lastUntil_22 : decode b_S_lastUntil 22 = .ok (.iinc 2 (-1), 3) := by decide +kernel
theorem d_S_lastUntil_25 : decode b_S_lastUntil 25 = .ok (.goto (-18), 3) := by decide +kernel
theorem d_S_lastUntil_28 : decode b_S_lastUntil 28 = .ok (.iconst (-1), 1) := by decide +kernel
theorem d_S_lastUntil_29 : decode b_S_lastUntil 29 = .ok (.ireturn, 1) := by decide +kernel
theorem cc_S_69 : CV "KiteLogger$Samples" 69 y_S_tickAt b_S_tickAt 2 (some .int) 1 := ⟨TT_in (i := 869) (by decide +kernel) (by decide +kernel), TT_in (i := 818) (by decide +kernel) (by decide +kernel), TT_in (i := 819) (by decide +kernel) (by decide +kernel), TT_in (i := 27) (by decide +kernel) (by decide +kernel), TT_in (i := 820) (by decide +kernel) (by decide +kernel), ⟨by decide +kernel, by decide +kernel, by decide +kernel⟩⟩
def lp_S_lastUntil_7 (N0 rr : Nat) (p : Nat) (a1 : Int32)  : Nat → Int32 → Mem → (Int32 → Mem → Option (Int32 × Mem)) → Option (Int32 × Mem)
  | 0, _, _, _ => none
  | N + 1, v7, M, k7 => if v7 < 0 then (k7 v7 M) else (bnd (f_S_tickAt p v7 M) fun (x2 : Int32) (M3 : Mem) => if x2 ≤ a1 then (some (v7, M3)) else (nm (v7 + (-1 : Int32)) fun (x4 : Int32) => lp_S_lastUntil_7 N0 rr p a1 N x4 M3 k7))
def f_S_lastUntil (N : Nat) (rr : Nat) (p : Nat) (a1 : Int32) (M : Mem) : Option (Int32 × Mem) :=
  nm ((M p 5) - (1 : Int32)) fun (x1 : Int32) => lp_S_lastUntil_7 N rr p a1 N x1 M (fun (a6 : Int32) (M5 : Mem) => some ((-1 : Int32), M5))
set_option maxHeartbeats 4000000 in
set_option maxRecDepth 100000 in
theorem c_S_lastUntil (l : Launch) (N : Nat) {w : Wc} {rr : Nat} (hw : WK w rr) (p : Nat) (hp : p ∈ saL) (a1 : Int32) (M : Mem) : Ct QI l y_S_lastUntil b_S_lastUntil 3 (some .int) (rmL 2) w [.ref (wad w p), .int a1] M (f_S_lastUntil N rr p a1 M) := by
  refine Ct.go (by decide) (L := [(0, .ref (wad w p)), (1, .int a1)]) rfl (Nat.le_of_ble_eq_true rfl) (fun p0 e s m args below meth c g hret => ?_)
  unfold f_S_lastUntil
  refine G_aload_n g (pc := 0) 0 d_S_lastUntil_0 rfl rfl ?_
  refine G_get g (pc := 1) fa_S_13 (hw.m _ (sa_lt0 hp)) (hw.k (sa_lt0 hp) (sa_k0 hp)) d_S_lastUntil_1 ?_
  refine G_iconst g (pc := 4) (1 : Int32) d_S_lastUntil_4 rfl ?_
  refine G_isub g (pc := 5) d_S_lastUntil_5 ?_
  refine G_nmI (fun x1 => ?_)
  refine G_istore_n g (pc := 6) _ d_S_lastUntil_6 rfl (Nat.le_of_ble_eq_true rfl) rfl ?_
  refine G_sub [1, 2, 0] _ rfl ?_
  refine G_loop (F := lp_S_lastUntil_7 N rr p a1) 7 28 (fun (v7 : Int32) => [(0, .ref (wad w p)), (1, .int a1), (2, .int v7)]) (fun (v7 : Int32) => [(0, .ref (wad w p)), (1, .int a1), (2, .int v7)]) (fun _ _ _ => rfl) (fun a6 M5 => ?_) (fun k7 hk7 Nl7 ih7 v7 M => ?_) N x1 M
  · refine G_iconst g (pc := 28) (-1 : Int32) d_S_lastUntil_28 rfl ?_
    exact G_ireturn g (pc := 29) hret (Nat.le_of_ble_eq_true rfl) (Nat.le_of_ble_eq_true rfl) d_S_lastUntil_29
  · show Go p0 l e _ s m args below meth c w _ _ _ _ (lp_S_lastUntil_7 N rr p a1 (Nl7 + 1) v7 M k7) 7 _ _ M
    unfold lp_S_lastUntil_7
    refine G_iload_n g (pc := 7) 2 d_S_lastUntil_7 rfl rfl ?_
    refine G_if_lt g (pc := 8) 28 d_S_lastUntil_8 (by decide) ?_ ?_
    · refine G_sub [0, 1, 2] _ rfl ?_
      exact hk7 v7 M
    · refine G_aload_n g (pc := 11) 0 d_S_lastUntil_11 rfl rfl ?_
      refine G_iload_n g (pc := 12) 2 d_S_lastUntil_12 rfl rfl ?_
      refine G_cVI g (pc := 13) (As := [.int v7]) (st := []) cc_S_69 (c_S_tickAt l hw p hp v7 M) (hw.m _ (sa_lt0 hp)) (hw.k (sa_lt0 hp) (sa_k0 hp)) rfl (by decide) rfl ⟨(Nat.le_of_ble_eq_true rfl), (Nat.le_of_ble_eq_true rfl)⟩ ⟨(Nat.le_of_ble_eq_true rfl), (Nat.le_of_ble_eq_true rfl)⟩ (Nat.le_of_ble_eq_true rfl) d_S_lastUntil_13 (fun x2 M3 => ?_)
      refine G_iload_n g (pc := 16) 1 d_S_lastUntil_16 rfl rfl ?_
      refine G_icmp_gt g (pc := 17) 22 d_S_lastUntil_17 (by decide) ?_ ?_
      · refine G_iload_n g (pc := 20) 2 d_S_lastUntil_20 rfl rfl ?_
        exact G_ireturn g (pc := 21) hret (Nat.le_of_ble_eq_true rfl) (Nat.le_of_ble_eq_true rfl) d_S_lastUntil_21
      · refine G_nmX (v7 + (-1 : Int32)) (fun x4 e_x4 => ?_)
        refine G_iinc g (pc := 22) x4 _ 2 d_S_lastUntil_22 rfl e_x4.symm (Nat.le_of_ble_eq_true rfl) rfl ?_
        refine G_goto g (pc := 25) 7 d_S_lastUntil_25 (by decide) ?_
        refine G_sub [1, 2, 0] _ rfl ?_
        exact ih7 x4 M3

theorem d_S_misplaced_0 : decode b_S_misplaced 0 = .ok (.iconst 0, 1) := by decide +kernel
theorem d_S_misplaced_1 : decode b_S_misplaced 1 = .ok (.istore_n 1, 1) := by decide +kernel
theorem d_S_misplaced_2 : decode b_S_misplaced 2 = .ok (.iconst 1, 1) := by decide +kernel
theorem d_S_misplaced_3 : decode b_S_misplaced 3 = .ok (.istore_n 2, 1) := by decide +kernel
theorem d_S_misplaced_4 : decode b_S_misplaced 4 = .ok (.iload_n 2, 1) := by decide +kernel
theorem d_S_misplaced_5 : decode b_S_misplaced 5 = .ok (.aload_n 0, 1) := by decide +kernel
theorem d_S_misplaced_6 : decode b_S_misplaced 6 = .ok (.getfield 13, 3) := by decide +kernel
theorem d_S_misplaced_9 : decode b_S_misplaced 9 = .ok (.if_icmp .ge 27, 3) := by decide +kernel
theorem d_S_misplaced_12 : decode b_S_misplaced 12 = .ok (.aload_n 0, 1) := by decide +kernel
theorem d_S_misplaced_13 : decode b_S_misplaced 13 = .ok (.iload_n 2, 1) := by decide +kernel
theorem d_S_misplaced_14 : decode b_S_misplaced 14 = .ok (.invokevirtual 69, 3) := by decide +kernel
theorem d_S_misplaced_17 : decode b_S_misplaced 17 = .ok (.aload_n 0, 1) := by decide +kernel
theorem d_S_misplaced_18 : decode b_S_misplaced 18 = .ok (.iload_n 2, 1) := by decide +kernel
theorem d_S_misplaced_19 : decode b_S_misplaced 19 = .ok (.iconst 1, 1) := by decide +kernel
theorem d_S_misplaced_20 : decode b_S_misplaced 20 = .ok (.isub, 1) := by decide +kernel
theorem d_S_misplaced_21 : decode b_S_misplaced 21 = .ok (.invokevirtual 69, 3) := by decide +kernel
theorem d_S_misplaced_24 : decode b_S_misplaced 24 = .ok (.if_icmp .gt 6, 3) := by decide +kernel
theorem d_S_misplaced_27 : decode b_S_misplaced 27 = .ok (.iinc 1 1, 3) := by decide +kernel
theorem d_S_misplaced_30 : decode b_S_misplaced 30 = .ok (.iinc 2 1, 3) := by decide +kernel
theorem d_S_misplaced_33 : decode b_S_misplaced 33 = .ok (.goto (-29), 3) := by decide +kernel
theorem d_S_misplaced_36 : decode b_S_misplaced 36 = .ok (.iload_n 1, 1) := by decide +kernel
theorem d_S_misplaced_37 : decode b_S_misplaced 37 = .ok (.ireturn, 1) := by decide +kernel
def lp_S_misplaced_4 (N0 rr : Nat) (p : Nat)  : Nat → Int32 × Int32 → Mem → (Int32 × Int32 → Mem → Option (Int32 × Mem)) → Option (Int32 × Mem)
  | 0, _, _, _ => none
  | N + 1, v4, M, k4 => if v4.2 < (M p 5) then (bnd (f_S_tickAt p v4.2 M) fun (x1 : Int32) (M2 : Mem) => bnd (f_S_tickAt p (v4.2 - (1 : Int32)) M2) fun (x3 : Int32) (M4 : Mem) => if x1 ≤ x3 then (nm (v4.1 + (1 : Int32)) fun (x5 : Int32) => nm (v4.2 + (1 : Int32)) fun (x6 : Int32) => lp_S_misplaced_4 N0 rr p N (x5, x6) M4 k4) else (nm (v4.2 + (1 : Int32)) fun (x7 : Int32) => lp_S_misplaced_4 N0 rr p N (v4.1, x7) M4 k4)) else (k4 (v4.1, v4.2) M)
def f_S_misplaced (N : Nat) (rr : Nat) (p : Nat) (M : Mem) : Option (Int32 × Mem) :=
  lp_S_misplaced_4 N rr p N ((0 : Int32), (1 : Int32)) M (fun (a9 : Int32 × Int32) (M8 : Mem) => some (a9.1, M8))
set_option maxHeartbeats 4000000 in
set_option maxRecDepth 100000 in
theorem c_S_misplaced (l : Launch) (N : Nat) {w : Wc} {rr : Nat} (hw : WK w rr) (p : Nat) (hp : p ∈ saL) (M : Mem) : Ct QI l y_S_misplaced b_S_misplaced 3 (some .int) (rmL 2) w [.ref (wad w p)] M (f_S_misplaced N rr p M) := by
  refine Ct.go (by decide) (L := [(0, .ref (wad w p))]) rfl (Nat.le_of_ble_eq_true rfl) (fun p0 e s m args below meth c g hret => ?_)
  unfold f_S_misplaced
  refine G_iconst g (pc := 0) (0 : Int32) d_S_misplaced_0 rfl ?_
  refine G_istore_n g (pc := 1) _ d_S_misplaced_1 rfl (Nat.le_of_ble_eq_true rfl) rfl ?_
  refine G_iconst g (pc := 2) (1 : Int32) d_S_misplaced_2 rfl ?_
  refine G_istore_n g (pc := 3) _ d_S_misplaced_3 rfl (Nat.le_of_ble_eq_true rfl) rfl ?_
  refine G_sub [2, 1, 0] _ rfl ?_
  refine G_loop (F := lp_S_misplaced_4 N rr p) 4 36 (fun (v4 : Int32 × Int32) => [(0, .ref (wad w p)), (1, .int v4.1), (2, .int v4.2)]) (fun (v4 : Int32 × Int32) => [(0, .ref (wad w p)), (1, .int v4.1), (2, .int v4.2)]) (fun _ _ _ => rfl) (fun a9 M8 => ?_) (fun k4 hk4 Nl4 ih4 v4 M => ?_) N ((0 : Int32), (1 : Int32)) M
  · refine G_iload_n g (pc := 36) 1 d_S_misplaced_36 rfl rfl ?_
    exact G_ireturn g (pc := 37) hret (Nat.le_of_ble_eq_true rfl) (Nat.le_of_ble_eq_true rfl) d_S_misplaced_37
  · show Go p0 l e _ s m args below meth c w _ _ _ _ (lp_S_misplaced_4 N rr p (Nl4 + 1) v4 M k4) 4 _ _ M
    unfold lp_S_misplaced_4
    refine G_iload_n g (pc := 4) 2 d_S_misplaced_4 rfl rfl ?_
    refine G_aload_n g (pc := 5) 0 d_S_misplaced_5 rfl rfl ?_
    refine G_get g (pc := 6) fa_S_13 (hw.m _ (sa_lt0 hp)) (hw.k (sa_lt0 hp) (sa_k0 hp)) d_S_misplaced_6 ?_
    refine G_icmp_ge g (pc := 9) 36 d_S_misplaced_9 (by decide) ?_ ?_
    · refine G_aload_n g (pc := 12) 0 d_S_misplaced_12 rfl rfl ?_
      refine G_iload_n g (pc := 13) 2 d_S_misplaced_13 rfl rfl ?_
      refine G_cVI g (pc := 14) (As := [.int v4.2]) (st := []) cc_S_69 (c_S_tickAt l hw p hp v4.2 M) (hw.m _ (sa_lt0 hp)) (hw.k (sa_lt0 hp) (sa_k0 hp)) rfl (by decide) rfl ⟨(Nat.le_of_ble_eq_true rfl), (Nat.le_of_ble_eq_true rfl)⟩ ⟨(Nat.le_of_ble_eq_true rfl), (Nat.le_of_ble_eq_true rfl)⟩ (Nat.le_of_ble_eq_true rfl) d_S_misplaced_14 (fun x1 M2 => ?_)
      refine G_aload_n g (pc := 17) 0 d_S_misplaced_17 rfl rfl ?_
      refine G_iload_n g (pc := 18) 2 d_S_misplaced_18 rfl rfl ?_
      refine G_iconst g (pc := 19) (1 : Int32) d_S_misplaced_19 rfl ?_
      refine G_isub g (pc := 20) d_S_misplaced_20 ?_
      refine G_cVI g (pc := 21) (As := [.int (v4.2 - (1 : Int32))]) (st := [.int x1]) cc_S_69 (c_S_tickAt l hw p hp (v4.2 - (1 : Int32)) M2) (hw.m _ (sa_lt0 hp)) (hw.k (sa_lt0 hp) (sa_k0 hp)) rfl (by decide) rfl ⟨(Nat.le_of_ble_eq_true rfl), (Nat.le_of_ble_eq_true rfl)⟩ ⟨(Nat.le_of_ble_eq_true rfl), (Nat.le_of_ble_eq_true rfl)⟩ (Nat.le_of_ble_eq_true rfl) d_S_misplaced_21 (fun x3 M4 => ?_)
      refine G_icmp_gt g (pc := 24) 30 d_S_misplaced_24 (by decide) ?_ ?_
      · refine G_nmX (v4.1 + (1 : Int32)) (fun x5 e_x5 => ?_)
        refine G_iinc g (pc := 27) x5 _ 1 d_S_misplaced_27 rfl e_x5.symm (Nat.le_of_ble_eq_true rfl) rfl ?_
        refine G_nmX (v4.2 + (1 : Int32)) (fun x6 e_x6 => ?_)
        refine G_iinc g (pc := 30) x6 _ 2 d_S_misplaced_30 rfl e_x6.symm (Nat.le_of_ble_eq_true rfl) rfl ?_
        refine G_goto g (pc := 33) 4 d_S_misplaced_33 (by decide) ?_
        refine G_sub [2, 1, 0] _ rfl ?_
        exact ih4 (x5, x6) M4
      · refine G_nmX (v4.2 + (1 : Int32)) (fun x7 e_x7 => ?_)
        refine G_iinc g (pc := 30) x7 _ 2 d_S_misplaced_30 rfl e_x7.symm (Nat.le_of_ble_eq_true rfl) rfl ?_
        refine G_goto g (pc := 33) 4 d_S_misplaced_33 (by decide) ?_
        refine G_sub [1, 2, 0] _ rfl ?_
        exact ih4 (v4.1, x7) M4
    · refine G_sub [0, 1, 2] _ rfl ?_
      exact hk4 (v4.1, v4.2) M
