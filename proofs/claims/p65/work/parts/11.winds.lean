theorem d_B_empty_0 : decode b_B_empty 0 = .ok (.aload_n 0, 1) := by decide +kernel
theorem d_B_empty_1 : decode b_B_empty 1 = .ok (.iconst 0, 1) := by decide +kernel
theorem d_B_empty_2 : decode b_B_empty 2 = .ok (.putfield 15, 3) := by decide +kernel
theorem d_B_empty_5 : decode b_B_empty 5 = .ok (.aload_n 0, 1) := by decide +kernel
theorem d_B_empty_6 : decode b_B_empty 6 = .ok (.iconst 0, 1) := by decide +kernel
theorem d_B_empty_7 : decode b_B_empty 7 = .ok (.putfield 19, 3) := by decide +kernel
theorem d_B_empty_10 : decode b_B_empty 10 = .ok (.return_, 1) := by decide +kernel
def f_B_empty (p : Nat) (M : Mem) : Option (Mem) :=
  nm (put M p 1 (0 : Int32)) fun (M1 : Mem) => nm (put M1 p 2 (0 : Int32)) fun (M2 : Mem) => some M2
set_option maxHeartbeats 4000000 in
set_option maxRecDepth 100000 in
theorem c_B_empty (l : Launch) {w : Wc} {rr : Nat} (hw : WK w rr) (p : Nat) (hp : p ∈ wbL) (M : Mem) : Ct QV l y_B_empty b_B_empty 1 none (rmL 0) w [.ref (wad w p)] M (f_B_empty p M) := by
  refine Ct.go (by decide) (L := [(0, .ref (wad w p))]) rfl (Nat.le_of_ble_eq_true rfl) (fun p0 e s m args below meth c g hret => ?_)
  unfold f_B_empty
  refine G_aload_n g (pc := 0) 0 d_B_empty_0 rfl rfl ?_
  refine G_iconst g (pc := 1) (0 : Int32) d_B_empty_1 rfl ?_
  refine G_put g (pc := 2) fa_B_15 fw_8_1 rfl rfl (hw.m _ (wb_lt0 hp)) (hw.k (wb_lt0 hp) (wb_k0 hp)) d_B_empty_2 ?_
  refine G_nmM (fun M1 => ?_)
  refine G_aload_n g (pc := 5) 0 d_B_empty_5 rfl rfl ?_
  refine G_iconst g (pc := 6) (0 : Int32) d_B_empty_6 rfl ?_
  refine G_put g (pc := 7) fa_B_19 fw_8_2 rfl rfl (hw.m _ (wb_lt0 hp)) (hw.k (wb_lt0 hp) (wb_k0 hp)) d_B_empty_7 ?_
  refine G_nmM (fun M2 => ?_)
  exact G_return g (pc := 10) hret (Nat.le_of_ble_eq_true rfl) (Nat.le_of_ble_eq_true rfl) d_B_empty_10

theorem d_B_copyFrom_0 : decode b_B_copyFrom 0 = .ok (.aload_n 1, 1) := by decide +kernel
theorem d_B_copyFrom_1 : decode b_B_copyFrom 1 = .ok (.getfield 9, 3) := by decide +kernel
theorem d_B_copyFrom_4 : decode b_B_copyFrom 4 = .ok (.aload_n 0, 1) := by decide +kernel
theorem d_B_copyFrom_5 : decode b_B_copyFrom 5 = .ok (.getfield 9, 3) := by decide +kernel
theorem d_B_copyFrom_8 : decode b_B_copyFrom 8 = .ok (.invokestatic 22, 3) := by decide +kernel
theorem d_B_copyFrom_11 : decode b_B_copyFrom 11 = .ok (.aload_n 0, 1) := by decide +kernel
theorem d_B_copyFrom_12 : decode b_B_copyFrom 12 = .ok (.aload_n 1, 1) := by decide +kernel
theorem d_B_copyFrom_13 : decode b_B_copyFrom 13 = .ok (.getfield 15, 3) := by decide +kernel
theorem d_B_copyFrom_16 : decode b_B_copyFrom 16 = .ok (.putfield 15, 3) := by decide +kernel
theorem d_B_copyFrom_19 : decode b_B_copyFrom 19 = .ok (.aload_n 0, 1) := by decide +kernel
theorem d_B_copyFrom_20 : decode b_B_copyFrom 20 = .ok (.aload_n 1, 1) := by decide +kernel
theorem d_B_copyFrom_21 : decode b_B_copyFrom 21 = .ok (.getfield 19, 3) := by decide +kernel
theorem d_B_copyFrom_24 : decode b_B_copyFrom 24 = .ok (.putfield 19, 3) := by decide +kernel
theorem d_B_copyFrom_27 : decode b_B_copyFrom 27 = .ok (.return_, 1) := by decide +kernel
theorem cc_B_22 : CSN "KiteLogger$WindBuffer" 22 "KiteLogger" y_G_copyRow b_G_copyRow 2 none 2 := ⟨NW_in (i := 646) (by decide +kernel) (by decide +kernel), TT_in (i := 104) (by decide +kernel) (by decide +kernel), TT_in (i := 18) (by decide +kernel) (by decide +kernel), TT_in (i := 105) (by decide +kernel) (by decide +kernel), ⟨by decide +kernel, by decide +kernel, by decide +kernel⟩⟩
def f_B_copyFrom (p : Nat) (a1 : Nat) (M : Mem) : Option (Mem) :=
  bndM (f_G_copyRow (a1 + 1) (p + 1) M) fun (M2 : Mem) => nm (put M2 p 1 (M2 a1 1)) fun (M3 : Mem) => nm (put M3 p 2 (M3 a1 2)) fun (M4 : Mem) => some M4
set_option maxHeartbeats 4000000 in
set_option maxRecDepth 100000 in
theorem c_B_copyFrom (l : Launch) {w : Wc} {rr : Nat} (hw : WK w rr) (p : Nat) (hp : p ∈ wbL) (a1 : Nat) (ha1 : a1 ∈ wbL) (M : Mem) : Ct QV l y_B_copyFrom b_B_copyFrom 2 none (rmL 2) w [.ref (wad w p), .ref (wad w a1)] M (f_B_copyFrom p a1 M) := by
  refine Ct.go (by decide) (L := [(0, .ref (wad w p)), (1, .ref (wad w a1))]) rfl (Nat.le_of_ble_eq_true rfl) (fun p0 e s m args below meth c g hret => ?_)
  unfold f_B_copyFrom
  refine G_aload_n g (pc := 0) 1 d_B_copyFrom_0 rfl rfl ?_
  refine G_getR g (pc := 1) fa_B_9 (hw.m _ (wb_lt0 ha1)) (hw.k (wb_lt0 ha1) (wb_k0 ha1)) (hw.r (wb_lt0 ha1) (wb_r0_0 ha1 rr)) d_B_copyFrom_1 ?_
  refine G_aload_n g (pc := 4) 0 d_B_copyFrom_4 rfl rfl ?_
  refine G_getR g (pc := 5) fa_B_9 (hw.m _ (wb_lt0 hp)) (hw.k (wb_lt0 hp) (wb_k0 hp)) (hw.r (wb_lt0 hp) (wb_r0_0 hp rr)) d_B_copyFrom_5 ?_
  refine G_cSNV g (pc := 8) (As := [.ref (wad w (a1 + 1)), .ref (wad w (p + 1))]) (st := []) cc_B_22 (c_G_copyRow l hw (a1 + 1) (hw.m _ (wb_lt1 ha1)) (hw.k (wb_lt1 ha1) (wb_k1 ha1)) (wb_lt1 ha1) (p + 1) (hw.m _ (wb_lt1 hp)) (hw.k (wb_lt1 hp) (wb_k1 hp)) (wb_lt1 hp) M) rfl ⟨(Nat.le_of_ble_eq_true rfl), (Nat.le_of_ble_eq_true rfl)⟩ ⟨(Nat.le_of_ble_eq_true rfl), (Nat.le_of_ble_eq_true rfl)⟩ (Nat.le_of_ble_eq_true rfl) d_B_copyFrom_8 (fun M2 => ?_)
  refine G_aload_n g (pc := 11) 0 d_B_copyFrom_11 rfl rfl ?_
  refine G_aload_n g (pc := 12) 1 d_B_copyFrom_12 rfl rfl ?_
  refine G_get g (pc := 13) fa_B_15 (hw.m _ (wb_lt0 ha1)) (hw.k (wb_lt0 ha1) (wb_k0 ha1)) d_B_copyFrom_13 ?_
  refine G_put g (pc := 16) fa_B_15 fw_8_1 rfl rfl (hw.m _ (wb_lt0 hp)) (hw.k (wb_lt0 hp) (wb_k0 hp)) d_B_copyFrom_16 ?_
  refine G_nmM (fun M3 => ?_)
  refine G_aload_n g (pc := 19) 0 d_B_copyFrom_19 rfl rfl ?_
  refine G_aload_n g (pc := 20) 1 d_B_copyFrom_20 rfl rfl ?_
  refine G_get g (pc := 21) fa_B_19 (hw.m _ (wb_lt0 ha1)) (hw.k (wb_lt0 ha1) (wb_k0 ha1)) d_B_copyFrom_21 ?_
  refine G_put g (pc := 24) fa_B_19 fw_8_2 rfl rfl (hw.m _ (wb_lt0 hp)) (hw.k (wb_lt0 hp) (wb_k0 hp)) d_B_copyFrom_24 ?_
  refine G_nmM (fun M4 => ?_)
  exact G_return g (pc := 27) hret (Nat.le_of_ble_eq_true rfl) (Nat.le_of_ble_eq_true rfl) d_B_copyFrom_27

theorem d_B_add_0 : decode b_B_add 0 = .ok (.aload_n 0, 1) := by decide +kernel
theorem d_B_add_1 : decode b_B_add 1 = .ok (.getfield 9, 3) := by decide +kernel
theorem d_B_add_4 : decode b_B_add 4 = .ok (.aload_n 0, 1) := by decide +kernel
theorem d_B_add_5 : decode b_B_add 5 = .ok (.getfield 15, 3) := by decide +kernel
theorem d_B_add_8 : decode b_B_add 8 = .ok (.aload_n 0, 1) := by decide +kernel
theorem d_B_add_9 : decode b_B_add 9 = .ok (.getfield 19, 3) := by decide +kernel
theorem d_B_add_12 : decode b_B_add 12 = .ok (.iadd, 1) := by decide +kernel
theorem d_B_add_13 : decode b_B_add 13 = .ok (.bipush 8, 2) := by decide +kernel
theorem d_B_add_15 : decode b_B_add 15 = .ok (.irem, 1) := by decide +kernel
theorem d_B_add_16 : decode b_B_add 16 = .ok (.iload_n 1, 1) := by decide +kernel
theorem d_B_add_17 : decode b_B_add 17 = .ok (.invokestatic 26, 3) := by decide +kernel
theorem d_B_add_20 : decode b_B_add 20 = .ok (.aload_n 0, 1) := by decide +kernel
theorem d_B_add_21 : decode b_B_add 21 = .ok (.getfield 19, 3) := by decide +kernel
theorem d_B_add_24 : decode b_B_add 24 = .ok (.bipush 8, 2) := by decide +kernel
theorem d_B_add_26 : decode b_B_add 26 = .ok (.if_icmp .ge 16, 3) := by decide +kernel
theorem d_B_add_29 : decode b_B_add 29 = .ok (.aload_n 0, 1) := by decide +kernel
theorem d_B_add_30 : decode b_B_add 30 = .ok (.dup, 1) := by decide +kernel
theorem d_B_add_31 : decode b_B_add 31 = .ok (.getfield 19, 3) := by decide +kernel
theorem d_B_add_34 : decode b_B_add 34 = .ok (.iconst 1, 1) := by decide +kernel
theorem d_B_add_35 : decode b_B_add 35 = .ok (.iadd, 1) := by decide +kernel
theorem d_B_add_36 : decode b_B_add 36 = .ok (.putfield 19, 3) := by decide +kernel
theorem d_B_add_39 : decode b_B_add 39 = .ok (.goto 16, 3) := by decide +kernel
theorem d_B_add_42 : decode b_B_add 42 = .ok (.aload_n 0, 1) := by decide +kernel
theorem d_B_add_43 : decode b_B_add 43 = .ok (.aload_n 0, 1) := by decide +kernel
theorem d_B_add_44 : decode b_B_add 44 = .ok (.getfield 15, 3) := by decide +kernel
theorem d_B_add_47 : decode b_B_add 47 = .ok (.iconst 1, 1) := by decide +kernel
theorem d_B_add_48 : decode b_B_add 48 = .ok (.iadd, 1) := by decide +kernel
theorem d_B_add_49 : decode b_B_add 49 = .ok (.bipush 8, 2) := by decide +kernel
theorem d_B_add_51 : decode b_B_add 51 = .ok (.irem, 1) := by decide +kernel
theorem d_B_add_52 : decode b_B_add 52 = .ok (.putfield 15, 3) := by decide +kernel
theorem d_B_add_55 : decode b_B_add 55 = .ok (.return_, 1) := by decide +kernel
theorem cc_B_26 : CSN "KiteLogger$WindBuffer" 26 "KiteLogger" y_G_putAt b_G_putAt 3 none 3 := ⟨NW_in (i := 1100) (by decide +kernel) (by decide +kernel), TT_in (i := 589) (by decide +kernel) (by decide +kernel), TT_in (i := 18) (by decide +kernel) (by decide +kernel), TT_in (i := 590) (by decide +kernel) (by decide +kernel), ⟨by decide +kernel, by decide +kernel, by decide +kernel⟩⟩
def f_B_add (p : Nat) (a1 : Int32) (M : Mem) : Option (Mem) :=
  bndM (f_G_putAt (p + 1) (irm ((M p 1) + (M p 2)) (8 : Int32)) a1 M) fun (M2 : Mem) => if (M2 p 2) < (8 : Int32) then (nm (put M2 p 2 ((M2 p 2) + (1 : Int32))) fun (M3 : Mem) => some M3) else (nm (put M2 p 1 (irm ((M2 p 1) + (1 : Int32)) (8 : Int32))) fun (M4 : Mem) => some M4)
set_option maxHeartbeats 4000000 in
set_option maxRecDepth 100000 in
theorem c_B_add (l : Launch) {w : Wc} {rr : Nat} (hw : WK w rr) (p : Nat) (hp : p ∈ wbL) (a1 : Int32) (M : Mem) : Ct QV l y_B_add b_B_add 2 none (rmL 1) w [.ref (wad w p), .int a1] M (f_B_add p a1 M) := by
  refine Ct.go (by decide) (L := [(0, .ref (wad w p)), (1, .int a1)]) rfl (Nat.le_of_ble_eq_true rfl) (fun p0 e s m args below meth c g hret => ?_)
  unfold f_B_add
  refine G_aload_n g (pc := 0) 0 d_B_add_0 rfl rfl ?_
  refine G_getR g (pc := 1) fa_B_9 (hw.m _ (wb_lt0 hp)) (hw.k (wb_lt0 hp) (wb_k0 hp)) (hw.r (wb_lt0 hp) (wb_r0_0 hp rr)) d_B_add_1 ?_
  refine G_aload_n g (pc := 4) 0 d_B_add_4 rfl rfl ?_
  refine G_get g (pc := 5) fa_B_15 (hw.m _ (wb_lt0 hp)) (hw.k (wb_lt0 hp) (wb_k0 hp)) d_B_add_5 ?_
  refine G_aload_n g (pc := 8) 0 d_B_add_8 rfl rfl ?_
  refine G_get g (pc := 9) fa_B_19 (hw.m _ (wb_lt0 hp)) (hw.k (wb_lt0 hp) (wb_k0 hp)) d_B_add_9 ?_
  refine G_iadd g (pc := 12) d_B_add_12 ?_
  refine G_bipush g (pc := 13) (8 : Int32) d_B_add_13 rfl ?_
  refine G_iremK g (pc := 15) (by decide) d_B_add_15 ?_
  refine G_iload_n g (pc := 16) 1 d_B_add_16 rfl rfl ?_
  refine G_cSNV g (pc := 17) (As := [.ref (wad w (p + 1)), .int (irm ((M p 1) + (M p 2)) (8 : Int32)), .int a1]) (st := []) cc_B_26 (c_G_putAt l hw (p + 1) (hw.m _ (wb_lt1 hp)) (hw.k (wb_lt1 hp) (wb_k1 hp)) (wb_lt1 hp) (irm ((M p 1) + (M p 2)) (8 : Int32)) a1 M) rfl ⟨(Nat.le_of_ble_eq_true rfl), (Nat.le_of_ble_eq_true rfl)⟩ ⟨(Nat.le_of_ble_eq_true rfl), (Nat.le_of_ble_eq_true rfl)⟩ (Nat.le_of_ble_eq_true rfl) d_B_add_17 (fun M2 => ?_)
  refine G_aload_n g (pc := 20) 0 d_B_add_20 rfl rfl ?_
  refine G_get g (pc := 21) fa_B_19 (hw.m _ (wb_lt0 hp)) (hw.k (wb_lt0 hp) (wb_k0 hp)) d_B_add_21 ?_
  refine G_bipush g (pc := 24) (8 : Int32) d_B_add_24 rfl ?_
  refine G_icmp_ge g (pc := 26) 42 d_B_add_26 (by decide) ?_ ?_
  · refine G_aload_n g (pc := 29) 0 d_B_add_29 rfl rfl ?_
    refine G_dup g (pc := 30) d_B_add_30 rfl ?_
    refine G_get g (pc := 31) fa_B_19 (hw.m _ (wb_lt0 hp)) (hw.k (wb_lt0 hp) (wb_k0 hp)) d_B_add_31 ?_
    refine G_iconst g (pc := 34) (1 : Int32) d_B_add_34 rfl ?_
    refine G_iadd g (pc := 35) d_B_add_35 ?_
    refine G_put g (pc := 36) fa_B_19 fw_8_2 rfl rfl (hw.m _ (wb_lt0 hp)) (hw.k (wb_lt0 hp) (wb_k0 hp)) d_B_add_36 ?_
    refine G_nmM (fun M3 => ?_)
    refine G_goto g (pc := 39) 55 d_B_add_39 (by decide) ?_
    exact G_return g (pc := 55) hret (Nat.le_of_ble_eq_true rfl) (Nat.le_of_ble_eq_true rfl) d_B_add_55
  · refine G_aload_n g (pc := 42) 0 d_B_add_42 rfl rfl ?_
    refine G_aload_n g (pc := 43) 0 d_B_add_43 rfl rfl ?_
    refine G_get g (pc := 44) fa_B_15 (hw.m _ (wb_lt0 hp)) (hw.k (wb_lt0 hp) (wb_k0 hp)) d_B_add_44 ?_
    refine G_iconst g (pc := 47) (1 : Int32) d_B_add_47 rfl ?_
    refine G_iadd g (pc := 48) d_B_add_48 ?_
    refine G_bipush g (pc := 49) (8 : Int32) d_B_add_49 rfl ?_
    refine G_iremK g (pc := 51) (by decide) d_B_add_51 ?_
    refine G_put g (pc := 52) fa_B_15 fw_8_1 rfl rfl (hw.m _ (wb_lt0 hp)) (hw.k (wb_lt0 hp) (wb_k0 hp)) d_B_add_52 ?_
    refine G_nmM (fun M4 => ?_)
    exact G_return g (pc := 55) hret (Nat.le_of_ble_eq_true rfl) (Nat.le_of_ble_eq_true rfl) d_B_add_55

theorem d_B_has_0 : decode b_B_has 0 = .ok (.iload_n 1, 1) := by decide +kernel
theorem d_B_has_1 : decode b_B_has 1 = .ok (.ifCond .lt 15, 3) := by decide +kernel
theorem d_B_has_4 : decode b_B_has 4 = .ok (.iload_n 1, 1) := by decide +kernel
theorem d_B_has_5 : decode b_B_has 5 = .ok (.aload_n 0, 1) := by decide +kernel
theorem d_B_has_6 : decode b_B_has 6 = .ok (.getfield 19, 3) := by decide +kernel
theorem d_B_has_9 : decode b_B_has 9 = .ok (.if_icmp .ge 7, 3) := by decide +kernel
theorem d_B_has_12 : decode b_B_has 12 = .ok (.iconst 1, 1) := by decide +kernel
theorem d_B_has_13 : decode b_B_has 13 = .ok (.goto 4, 3) := by decide +kernel
theorem d_B_has_16 : decode b_B_has 16 = .ok (.iconst 0, 1) := by decide +kernel
theorem d_B_has_17 : decode b_B_has 17 = .ok (.ireturn, 1) := by decide +kernel
def f_B_has (p : Nat) (a1 : Int32) (M : Mem) : Option (Bool × Mem) :=
  if a1 < 0 then (some (false, M)) else (if a1 < (M p 2) then (some (true, M)) else (some (false, M)))
set_option maxHeartbeats 4000000 in
set_option maxRecDepth 100000 in
theorem c_B_has (l : Launch) {w : Wc} {rr : Nat} (hw : WK w rr) (p : Nat) (hp : p ∈ wbL) (a1 : Int32) (M : Mem) : Ct QZ l y_B_has b_B_has 2 (some .boolean) (rmL 0) w [.ref (wad w p), .int a1] M (f_B_has p a1 M) := by
  refine Ct.go (by decide) (L := [(0, .ref (wad w p)), (1, .int a1)]) rfl (Nat.le_of_ble_eq_true rfl) (fun p0 e s m args below meth c g hret => ?_)
  unfold f_B_has
  refine G_iload_n g (pc := 0) 1 d_B_has_0 rfl rfl ?_
  refine G_if_lt g (pc := 1) 16 d_B_has_1 (by decide) ?_ ?_
  · refine G_iconst g (pc := 16) (0 : Int32) d_B_has_16 rfl ?_
    exact G_zreturn g (pc := 17) false rfl hret (Nat.le_of_ble_eq_true rfl) (Nat.le_of_ble_eq_true rfl) d_B_has_17
  · refine G_iload_n g (pc := 4) 1 d_B_has_4 rfl rfl ?_
    refine G_aload_n g (pc := 5) 0 d_B_has_5 rfl rfl ?_
    refine G_get g (pc := 6) fa_B_19 (hw.m _ (wb_lt0 hp)) (hw.k (wb_lt0 hp) (wb_k0 hp)) d_B_has_6 ?_
    refine G_icmp_ge g (pc := 9) 16 d_B_has_9 (by decide) ?_ ?_
    · refine G_iconst g (pc := 12) (1 : Int32) d_B_has_12 rfl ?_
      refine G_goto g (pc := 13) 17 d_B_has_13 (by decide) ?_
      exact G_zreturn g (pc := 17) true rfl hret (Nat.le_of_ble_eq_true rfl) (Nat.le_of_ble_eq_true rfl) d_B_has_17
    · refine G_iconst g (pc := 16) (0 : Int32) d_B_has_16 rfl ?_
      exact G_zreturn g (pc := 17) false rfl hret (Nat.le_of_ble_eq_true rfl) (Nat.le_of_ble_eq_true rfl) d_B_has_17

theorem d_B_at_0 : decode b_B_at 0 = .ok (.aload_n 0, 1) := by decide +kernel
theorem d_B_at_1 : decode b_B_at 1 = .ok (.getfield 9, 3) := by decide +kernel
theorem d_B_at_4 : decode b_B_at 4 = .ok (.aload_n 0, 1) := by decide +kernel
theorem d_B_at_5 : decode b_B_at 5 = .ok (.getfield 15, 3) := by decide +kernel
theorem d_B_at_8 : decode b_B_at 8 = .ok (.iload_n 1, 1) := by decide +kernel
theorem d_B_at_9 : decode b_B_at 9 = .ok (.iadd, 1) := by decide +kernel
theorem d_B_at_10 : decode b_B_at 10 = .ok (.bipush 8, 2) := by decide +kernel
theorem d_B_at_12 : decode b_B_at 12 = .ok (.irem, 1) := by decide +kernel
theorem d_B_at_13 : decode b_B_at 13 = .ok (.invokestatic 30, 3) := by decide +kernel
theorem d_B_at_16 : decode b_B_at 16 = .ok (.ireturn, 1) := by decide +kernel
theorem cc_B_30 : CSN "KiteLogger$WindBuffer" 30 "KiteLogger" y_G_valueAt b_G_valueAt 2 (some .int) 2 := ⟨NW_in (i := 787) (by decide +kernel) (by decide +kernel), TT_in (i := 788) (by decide +kernel) (by decide +kernel), TT_in (i := 18) (by decide +kernel) (by decide +kernel), TT_in (i := 789) (by decide +kernel) (by decide +kernel), ⟨by decide +kernel, by decide +kernel, by decide +kernel⟩⟩
def f_B_at (p : Nat) (a1 : Int32) (M : Mem) : Option (Int32 × Mem) :=
  bnd (f_G_valueAt (p + 1) (irm ((M p 1) + a1) (8 : Int32)) M) fun (x1 : Int32) (M2 : Mem) => some (x1, M2)
set_option maxHeartbeats 4000000 in
set_option maxRecDepth 100000 in
theorem c_B_at (l : Launch) {w : Wc} {rr : Nat} (hw : WK w rr) (p : Nat) (hp : p ∈ wbL) (a1 : Int32) (M : Mem) : Ct QI l y_B_at b_B_at 2 (some .int) (rmL 1) w [.ref (wad w p), .int a1] M (f_B_at p a1 M) := by
  refine Ct.go (by decide) (L := [(0, .ref (wad w p)), (1, .int a1)]) rfl (Nat.le_of_ble_eq_true rfl) (fun p0 e s m args below meth c g hret => ?_)
  unfold f_B_at
  refine G_aload_n g (pc := 0) 0 d_B_at_0 rfl rfl ?_
  refine G_getR g (pc := 1) fa_B_9 (hw.m _ (wb_lt0 hp)) (hw.k (wb_lt0 hp) (wb_k0 hp)) (hw.r (wb_lt0 hp) (wb_r0_0 hp rr)) d_B_at_1 ?_
  refine G_aload_n g (pc := 4) 0 d_B_at_4 rfl rfl ?_
  refine G_get g (pc := 5) fa_B_15 (hw.m _ (wb_lt0 hp)) (hw.k (wb_lt0 hp) (wb_k0 hp)) d_B_at_5 ?_
  refine G_iload_n g (pc := 8) 1 d_B_at_8 rfl rfl ?_
  refine G_iadd g (pc := 9) d_B_at_9 ?_
  refine G_bipush g (pc := 10) (8 : Int32) d_B_at_10 rfl ?_
  refine G_iremK g (pc := 12) (by decide) d_B_at_12 ?_
  refine G_cSNI g (pc := 13) (As := [.ref (wad w (p + 1)), .int (irm ((M p 1) + a1) (8 : Int32))]) (st := []) cc_B_30 (c_G_valueAt l hw (p + 1) (hw.m _ (wb_lt1 hp)) (hw.k (wb_lt1 hp) (wb_k1 hp)) (wb_lt1 hp) (irm ((M p 1) + a1) (8 : Int32)) M) rfl ⟨(Nat.le_of_ble_eq_true rfl), (Nat.le_of_ble_eq_true rfl)⟩ ⟨(Nat.le_of_ble_eq_true rfl), (Nat.le_of_ble_eq_true rfl)⟩ (Nat.le_of_ble_eq_true rfl) d_B_at_13 (fun x1 M2 => ?_)
  exact G_ireturn g (pc := 16) hret (Nat.le_of_ble_eq_true rfl) (Nat.le_of_ble_eq_true rfl) d_B_at_16

theorem d_B_greatest_0 : decode b_B_greatest 0 = .ok (.iconst 0, 1) := by decide +kernel
theorem d_B_greatest_1 : decode b_B_greatest 1 = .ok (.istore_n 1, 1) := by decide +kernel
theorem d_B_greatest_2 : decode b_B_greatest 2 = .ok (.iconst 0, 1) := by decide +kernel
theorem d_B_greatest_3 : decode b_B_greatest 3 = .ok (.istore_n 2, 1) := by decide +kernel
theorem d_B_greatest_4 : decode b_B_greatest 4 = .ok (.iload_n 2, 1) := by decide +kernel
theorem d_B_greatest_5 : decode b_B_greatest 5 = .ok (.aload_n 0, 1) := by decide +kernel
theorem d_B_greatest_6 : decode b_B_greatest 6 = .ok (.getfield 19, 3) := by decide +kernel
theorem d_B_greatest_9 : decode b_B_greatest 9 = .ok (.if_icmp .ge 19, 3) := by decide +kernel
theorem d_B_greatest_12 : decode b_B_greatest 12 = .ok (.iload_n 1, 1) := by decide +kernel
theorem d_B_greatest_13 : decode b_B_greatest 13 = .ok (.aload_n 0, 1) := by decide +kernel
theorem d_B_greatest_14 : decode b_B_greatest 14 = .ok (.iload_n 2, 1) := by decide +kernel
theorem d_B_greatest_15 : decode b_B_greatest 15 = .ok (.invokevirtual 34, 3) := by decide +kernel
theorem d_B_greatest_18 : decode b_B_greatest 18 = .ok (.invokestatic 38, 3) := by decide +kernel
theorem d_B_greatest_21 : decode b_B_greatest 21 = .ok (.istore_n 1, 1) := by decide +kernel
theorem d_B_greatest_22 : decode b_B_greatest 22 = .ok (.iinc 2 1, 3) := by decide +kernel
theorem d_B_greatest_25 : decode b_B_greatest 25 = .ok (.goto (-21), 3) := by decide +kernel
theorem d_B_greatest_28 : decode b_B_greatest 28 = .ok (.iload_n 1, 1) := by decide +kernel
theorem d_B_greatest_29 : decode b_B_greatest 29 = .ok (.ireturn, 1) := by decide +kernel
theorem cc_B_34 : CV "KiteLogger$WindBuffer" 34 y_B_at b_B_at 2 (some .int) 1 := ⟨TT_in (i := 986) (by decide +kernel) (by decide +kernel), TT_in (i := 784) (by decide +kernel) (by decide +kernel), TT_in (i := 785) (by decide +kernel) (by decide +kernel), TT_in (i := 26) (by decide +kernel) (by decide +kernel), TT_in (i := 786) (by decide +kernel) (by decide +kernel), ⟨by decide +kernel, by decide +kernel, by decide +kernel⟩⟩
theorem ma_B_38 : Cond.methodLink "KiteLogger$WindBuffer" 38 Lib.Math.max.name ∈ TT ∧ Cond.static Lib.Math.max.name ∈ TT ∧ Cond.initialized "java/lang/Math" ∈ TT ∧ Cond.code Lib.Math.max.name Lib.Math.max.code 2 (some .int) ∈ TT := ⟨TT_in (i := 987) (by decide +kernel) (by decide +kernel), TT_in (i := 255) (by decide +kernel) (by decide +kernel), TT_in (i := 21) (by decide +kernel) (by decide +kernel), TT_in (i := 256) (by decide +kernel) (by decide +kernel)⟩
def lp_B_greatest_4 (N0 rr : Nat) (p : Nat)  : Nat → Int32 × Int32 → Mem → (Int32 × Int32 → Mem → Option (Int32 × Mem)) → Option (Int32 × Mem)
  | 0, _, _, _ => none
  | N + 1, v4, M, k4 => if v4.2 < (M p 2) then (bnd (f_B_at p v4.2 M) fun (x1 : Int32) (M2 : Mem) => nm (imax v4.1 x1) fun (x3 : Int32) => nm (v4.2 + (1 : Int32)) fun (x4 : Int32) => lp_B_greatest_4 N0 rr p N (x3, x4) M2 k4) else (k4 (v4.1, v4.2) M)
def f_B_greatest (N : Nat) (rr : Nat) (p : Nat) (M : Mem) : Option (Int32 × Mem) :=
  lp_B_greatest_4 N rr p N ((0 : Int32), (0 : Int32)) M (fun (a6 : Int32 × Int32) (M5 : Mem) => some (a6.1, M5))
set_option maxHeartbeats 4000000 in
set_option maxRecDepth 100000 in
theorem c_B_greatest (l : Launch) (N : Nat) {w : Wc} {rr : Nat} (hw : WK w rr) (p : Nat) (hp : p ∈ wbL) (M : Mem) : Ct QI l y_B_greatest b_B_greatest 3 (some .int) (rmL 2) w [.ref (wad w p)] M (f_B_greatest N rr p M) := by
  refine Ct.go (by decide) (L := [(0, .ref (wad w p))]) rfl (Nat.le_of_ble_eq_true rfl) (fun p0 e s m args below meth c g hret => ?_)
  unfold f_B_greatest
  refine G_iconst g (pc := 0) (0 : Int32) d_B_greatest_0 rfl ?_
  refine G_istore_n g (pc := 1) _ d_B_greatest_1 rfl (Nat.le_of_ble_eq_true rfl) rfl ?_
  refine G_iconst g (pc := 2) (0 : Int32) d_B_greatest_2 rfl ?_
  refine G_istore_n g (pc := 3) _ d_B_greatest_3 rfl (Nat.le_of_ble_eq_true rfl) rfl ?_
  refine G_sub [2, 1, 0] _ rfl ?_
  refine G_loop (F := lp_B_greatest_4 N rr p) 4 28 (fun (v4 : Int32 × Int32) => [(0, .ref (wad w p)), (1, .int v4.1), (2, .int v4.2)]) (fun (v4 : Int32 × Int32) => [(0, .ref (wad w p)), (1, .int v4.1), (2, .int v4.2)]) (fun _ _ _ => rfl) (fun a6 M5 => ?_) (fun k4 hk4 Nl4 ih4 v4 M => ?_) N ((0 : Int32), (0 : Int32)) M
  · refine G_iload_n g (pc := 28) 1 d_B_greatest_28 rfl rfl ?_
    exact G_ireturn g (pc := 29) hret (Nat.le_of_ble_eq_true rfl) (Nat.le_of_ble_eq_true rfl) d_B_greatest_29
  · show Go p0 l e _ s m args below meth c w _ _ _ _ (lp_B_greatest_4 N rr p (Nl4 + 1) v4 M k4) 4 _ _ M
    unfold lp_B_greatest_4
    refine G_iload_n g (pc := 4) 2 d_B_greatest_4 rfl rfl ?_
    refine G_aload_n g (pc := 5) 0 d_B_greatest_5 rfl rfl ?_
    refine G_get g (pc := 6) fa_B_19 (hw.m _ (wb_lt0 hp)) (hw.k (wb_lt0 hp) (wb_k0 hp)) d_B_greatest_6 ?_
    refine G_icmp_ge g (pc := 9) 28 d_B_greatest_9 (by decide) ?_ ?_
    · refine G_iload_n g (pc := 12) 1 d_B_greatest_12 rfl rfl ?_
      refine G_aload_n g (pc := 13) 0 d_B_greatest_13 rfl rfl ?_
      refine G_iload_n g (pc := 14) 2 d_B_greatest_14 rfl rfl ?_
      refine G_cVI g (pc := 15) (As := [.int v4.2]) (st := [.int v4.1]) cc_B_34 (c_B_at l hw p hp v4.2 M) (hw.m _ (wb_lt0 hp)) (hw.k (wb_lt0 hp) (wb_k0 hp)) rfl (by decide) rfl ⟨(Nat.le_of_ble_eq_true rfl), (Nat.le_of_ble_eq_true rfl)⟩ ⟨(Nat.le_of_ble_eq_true rfl), (Nat.le_of_ble_eq_true rfl)⟩ (Nat.le_of_ble_eq_true rfl) d_B_greatest_15 (fun x1 M2 => ?_)
      refine G_mmax g (pc := 18) ma_B_38 ⟨(Nat.le_of_ble_eq_true rfl), (Nat.le_of_ble_eq_true rfl), (Nat.le_of_ble_eq_true rfl), (Nat.le_of_ble_eq_true rfl)⟩ d_B_greatest_18 ?_
      refine G_nmI (fun x3 => ?_)
      refine G_istore_n g (pc := 21) _ d_B_greatest_21 rfl (Nat.le_of_ble_eq_true rfl) rfl ?_
      refine G_nmX (v4.2 + (1 : Int32)) (fun x4 e_x4 => ?_)
      refine G_iinc g (pc := 22) x4 _ 2 d_B_greatest_22 rfl e_x4.symm (Nat.le_of_ble_eq_true rfl) rfl ?_
      refine G_goto g (pc := 25) 4 d_B_greatest_25 (by decide) ?_
      refine G_sub [2, 1, 0] _ rfl ?_
      exact ih4 (x3, x4) M2
    · refine G_sub [0, 1, 2] _ rfl ?_
      exact hk4 (v4.1, v4.2) M

theorem d_B_sum_0 : decode b_B_sum 0 = .ok (.iconst 0, 1) := by decide +kernel
theorem d_B_sum_1 : decode b_B_sum 1 = .ok (.istore_n 1, 1) := by decide +kernel
theorem d_B_sum_2 : decode b_B_sum 2 = .ok (.iconst 0, 1) := by decide +kernel
theorem d_B_sum_3 : decode b_B_sum 3 = .ok (.istore_n 2, 1) := by decide +kernel
theorem d_B_sum_4 : decode b_B_sum 4 = .ok (.iload_n 2, 1) := by decide +kernel
theorem d_B_sum_5 : decode b_B_sum 5 = .ok (.aload_n 0, 1) := by decide +kernel
theorem d_B_sum_6 : decode b_B_sum 6 = .ok (.getfield 19, 3) := by decide +kernel
theorem d_B_sum_9 : decode b_B_sum 9 = .ok (.if_icmp .ge 17, 3) := by decide +kernel
theorem d_B_sum_12 : decode b_B_sum 12 = .ok (.iload_n 1, 1) := by decide +kernel
theorem d_B_sum_13 : decode b_B_sum 13 = .ok (.aload_n 0, 1) := by decide +kernel
theorem d_B_sum_14 : decode b_B_sum 14 = .ok (.iload_n 2, 1) := by decide +kernel
theorem d_B_sum_15 : decode b_B_sum 15 = .ok (.invokevirtual 34, 3) := by decide +kernel
theorem d_B_sum_18 : decode b_B_sum 18 = .ok (.iadd, 1) := by decide +kernel
theorem d_B_sum_19 : decode b_B_sum 19 = .ok (.istore_n 1, 1) := by decide +kernel
theorem d_B_sum_20 : decode b_B_sum 20 = .ok (.iinc 2 1, 3) := by decide +kernel
theorem d_B_sum_23 : decode b_B_sum 23 = .ok (.goto (-19), 3) := by decide +kernel
theorem d_B_sum_26 : decode b_B_sum 26 = .ok (.iload_n 1, 1) := by decide +kernel
theorem d_B_sum_27 : decode b_B_sum 27 = .ok (.ireturn, 1) := by decide +kernel
def lp_B_sum_4 (N0 rr : Nat) (p : Nat)  : Nat → Int32 × Int32 → Mem → (Int32 × Int32 → Mem → Option (Int32 × Mem)) → Option (Int32 × Mem)
  | 0, _, _, _ => none
  | N + 1, v4, M, k4 => if v4.2 < (M p 2) then (bnd (f_B_at p v4.2 M) fun (x1 : Int32) (M2 : Mem) => nm (v4.1 + x1) fun (x3 : Int32) => nm (v4.2 + (1 : Int32)) fun (x4 : Int32) => lp_B_sum_4 N0 rr p N (x3, x4) M2 k4) else (k4 (v4.1, v4.2) M)
def f_B_sum (N : Nat) (rr : Nat) (p : Nat) (M : Mem) : Option (Int32 × Mem) :=
  lp_B_sum_4 N rr p N ((0 : Int32), (0 : Int32)) M (fun (a6 : Int32 × Int32) (M5 : Mem) => some (a6.1, M5))
set_option maxHeartbeats 4000000 in
set_option maxRecDepth 100000 in
theorem c_B_sum (l : Launch) (N : Nat) {w : Wc} {rr : Nat} (hw : WK w rr) (p : Nat) (hp : p ∈ wbL) (M : Mem) : Ct QI l y_B_sum b_B_sum 3 (some .int) (rmL 2) w [.ref (wad w p)] M (f_B_sum N rr p M) := by
  refine Ct.go (by decide) (L := [(0, .ref (wad w p))]) rfl (Nat.le_of_ble_eq_true rfl) (fun p0 e s m args below meth c g hret => ?_)
  unfold f_B_sum
  refine G_iconst g (pc := 0) (0 : Int32) d_B_sum_0 rfl ?_
  refine G_istore_n g (pc := 1) _ d_B_sum_1 rfl (Nat.le_of_ble_eq_true rfl) rfl ?_
  refine G_iconst g (pc := 2) (0 : Int32) d_B_sum_2 rfl ?_
  refine G_istore_n g (pc := 3) _ d_B_sum_3 rfl (Nat.le_of_ble_eq_true rfl) rfl ?_
  refine G_sub [2, 1, 0] _ rfl ?_
  refine G_loop (F := lp_B_sum_4 N rr p) 4 26 (fun (v4 : Int32 × Int32) => [(0, .ref (wad w p)), (1, .int v4.1), (2, .int v4.2)]) (fun (v4 : Int32 × Int32) => [(0, .ref (wad w p)), (1, .int v4.1), (2, .int v4.2)]) (fun _ _ _ => rfl) (fun a6 M5 => ?_) (fun k4 hk4 Nl4 ih4 v4 M => ?_) N ((0 : Int32), (0 : Int32)) M
  · refine G_iload_n g (pc := 26) 1 d_B_sum_26 rfl rfl ?_
    exact G_ireturn g (pc := 27) hret (Nat.le_of_ble_eq_true rfl) (Nat.le_of_ble_eq_true rfl) d_B_sum_27
  · show Go p0 l e _ s m args below meth c w _ _ _ _ (lp_B_sum_4 N rr p (Nl4 + 1) v4 M k4) 4 _ _ M
    unfold lp_B_sum_4
    refine G_iload_n g (pc := 4) 2 d_B_sum_4 rfl rfl ?_
    refine G_aload_n g (pc := 5) 0 d_B_sum_5 rfl rfl ?_
    refine G_get g (pc := 6) fa_B_19 (hw.m _ (wb_lt0 hp)) (hw.k (wb_lt0 hp) (wb_k0 hp)) d_B_sum_6 ?_
    refine G_icmp_ge g (pc := 9) 26 d_B_sum_9 (by decide) ?_ ?_
    · refine G_iload_n g (pc := 12) 1 d_B_sum_12 rfl rfl ?_
      refine G_aload_n g (pc := 13) 0 d_B_sum_13 rfl rfl ?_
      refine G_iload_n g (pc := 14) 2 d_B_sum_14 rfl rfl ?_
      refine G_cVI g (pc := 15) (As := [.int v4.2]) (st := [.int v4.1]) cc_B_34 (c_B_at l hw p hp v4.2 M) (hw.m _ (wb_lt0 hp)) (hw.k (wb_lt0 hp) (wb_k0 hp)) rfl (by decide) rfl ⟨(Nat.le_of_ble_eq_true rfl), (Nat.le_of_ble_eq_true rfl)⟩ ⟨(Nat.le_of_ble_eq_true rfl), (Nat.le_of_ble_eq_true rfl)⟩ (Nat.le_of_ble_eq_true rfl) d_B_sum_15 (fun x1 M2 => ?_)
      refine G_iadd g (pc := 18) d_B_sum_18 ?_
      refine G_nmI (fun x3 => ?_)
      refine G_istore_n g (pc := 19) _ d_B_sum_19 rfl (Nat.le_of_ble_eq_true rfl) rfl ?_
      refine G_nmX (v4.2 + (1 : Int32)) (fun x4 e_x4 => ?_)
      refine G_iinc g (pc := 20) x4 _ 2 d_B_sum_20 rfl e_x4.symm (Nat.le_of_ble_eq_true rfl) rfl ?_
      refine G_goto g (pc := 23) 4 d_B_sum_23 (by decide) ?_
      refine G_sub [2, 1, 0] _ rfl ?_
      exact ih4 (x3, x4) M2
    · refine G_sub [0, 1, 2] _ rfl ?_
      exact hk4 (v4.1, v4.2) M
