/-! StationPlan's constructor -/
theorem d_P_init_0 : decode b_P_init 0 = .ok (.aload_n 0, 1) := by decide +kernel
theorem d_P_init_1 : decode b_P_init 1 = .ok (.invokespecial 3, 3) := by decide +kernel
theorem d_P_init_4 : decode b_P_init 4 = .ok (.aload_n 0, 1) := by decide +kernel
theorem d_P_init_5 : decode b_P_init 5 = .ok (.iconst 2, 1) := by decide +kernel
theorem d_P_init_6 : decode b_P_init 6 = .ok (.putfield 9, 3) := by decide +kernel
theorem d_P_init_9 : decode b_P_init 9 = .ok (.aload_n 0, 1) := by decide +kernel
theorem d_P_init_10 : decode b_P_init 10 = .ok (.bipush 40, 2) := by decide +kernel
theorem d_P_init_12 : decode b_P_init 12 = .ok (.putfield 15, 3) := by decide +kernel
theorem d_P_init_15 : decode b_P_init 15 = .ok (.aload_n 0, 1) := by decide +kernel
theorem d_P_init_16 : decode b_P_init 16 = .ok (.bipush 100, 2) := by decide +kernel
theorem d_P_init_18 : decode b_P_init 18 = .ok (.putfield 18, 3) := by decide +kernel
theorem d_P_init_21 : decode b_P_init 21 = .ok (.aload_n 0, 1) := by decide +kernel
theorem d_P_init_22 : decode b_P_init 22 = .ok (.iconst 3, 1) := by decide +kernel
theorem d_P_init_23 : decode b_P_init 23 = .ok (.putfield 21, 3) := by decide +kernel
theorem d_P_init_26 : decode b_P_init 26 = .ok (.aload_n 0, 1) := by decide +kernel
theorem d_P_init_27 : decode b_P_init 27 = .ok (.bipush 16, 2) := by decide +kernel
theorem d_P_init_29 : decode b_P_init 29 = .ok (.newarray .int, 2) := by decide +kernel
theorem d_P_init_31 : decode b_P_init 31 = .ok (.putfield 24, 3) := by decide +kernel
theorem d_P_init_34 : decode b_P_init 34 = .ok (.aload_n 0, 1) := by decide +kernel
theorem d_P_init_35 : decode b_P_init 35 = .ok (.getstatic 28, 3) := by decide +kernel
theorem d_P_init_38 : decode b_P_init 38 = .ok (.arraylength, 1) := by decide +kernel
theorem d_P_init_39 : decode b_P_init 39 = .ok (.putfield 31, 3) := by decide +kernel
theorem d_P_init_42 : decode b_P_init 42 = .ok (.getstatic 28, 3) := by decide +kernel
theorem d_P_init_45 : decode b_P_init 45 = .ok (.aload_n 0, 1) := by decide +kernel
theorem d_P_init_46 : decode b_P_init 46 = .ok (.getfield 24, 3) := by decide +kernel
theorem d_P_init_49 : decode b_P_init 49 = .ok (.invokestatic 34, 3) := by decide +kernel
theorem d_P_init_52 : decode b_P_init 52 = .ok (.return_, 1) := by decide +kernel
theorem fwf_P_4 : FWF "KiteLogger$StationPlan" 6 4 (.array .int) := ⟨"KiteLogger$StationPlan", T6, 6, ty6, rfl, tyk6, nm6, rfl, rfl, by decide +kernel⟩
theorem cc_P_34 : CSN "KiteLogger$StationPlan" 34 "KiteLogger" y_G_copyRow b_G_copyRow 2 none 2 := ⟨NW_in (i := 103) (by decide +kernel) (by decide +kernel), TT_in (i := 104) (by decide +kernel) (by decide +kernel), TT_in (i := 18) (by decide +kernel) (by decide +kernel), TT_in (i := 105) (by decide +kernel) (by decide +kernel), ⟨by decide +kernel, by decide +kernel, by decide +kernel⟩⟩
def zP_0 (z : Shp) : Shp := zfr z 4 20 16
def zP_1 (z : Shp) : Shp := zset (zP_0 z) 3 4 4
def mP_0 (M : Mem) : Mem := setR (put (setR (put (put (put (put M 3 0 (2)) 3 1 (40)) 3 2 (100)) 3 3 (3)) 4 (fun _ => 0)) 3 5 (6)) 4 (va_cpy (fun k => fgL.getD k 0) ((put (setR (put (put (put (put M 3 0 (2)) 3 1 (40)) 3 2 (100)) 3 3 (3)) 4 (fun _ => 0)) 3 5 (6)) 4) 0 0 6)
set_option maxHeartbeats 4000000 in
set_option maxRecDepth 100000 in
theorem c_P_init (l : Launch) {w : Wc} (had : Ad w) {z : Shp} (hz : (z 3).1 = 6) (M : Mem) : CtC l y_P_init b_P_init 1 (rmC 2 1 16) w 4 5 z (zP_1 z) [.ref (wad w 3)] M (mP_0 M) := by
  refine CtC.go (by decide) (L := [(0, .ref (wad w 3))]) rfl (Nat.le_of_ble_eq_true rfl) (fun p0 e s m args below meth c hnm hsz hao g hret => ?_)
  refine G_aload_n g (pc := 0) 0 d_P_init_0 rfl rfl ?_
  refine G_objI g (pc := 1) (q := 3) (TT_in (i := 100) (by decide +kernel) (by decide +kernel)) oI1 oI2 ⟨(Nat.le_of_ble_eq_true rfl), (Nat.le_of_ble_eq_true rfl)⟩ d_P_init_1 ?_
  refine G_aload_n g (pc := 4) 0 d_P_init_4 rfl rfl ?_
  refine G_iconst g (pc := 5) (2 : Int32) d_P_init_5 rfl ?_
  refine G_put g (pc := 6) (q := 3) fa_P_9 fw_6_0 rfl rfl (List.mem_range.mpr (by decide)) hz d_P_init_6 ?_
  refine G_aload_n g (pc := 9) 0 d_P_init_9 rfl rfl ?_
  refine G_bipush g (pc := 10) (40 : Int32) d_P_init_10 rfl ?_
  refine G_put g (pc := 12) (q := 3) fa_P_15 fw_6_1 rfl rfl (List.mem_range.mpr (by decide)) hz d_P_init_12 ?_
  refine G_aload_n g (pc := 15) 0 d_P_init_15 rfl rfl ?_
  refine G_bipush g (pc := 16) (100 : Int32) d_P_init_16 rfl ?_
  refine G_put g (pc := 18) (q := 3) fa_P_18 fw_6_2 rfl rfl (List.mem_range.mpr (by decide)) hz d_P_init_18 ?_
  refine G_aload_n g (pc := 21) 0 d_P_init_21 rfl rfl ?_
  refine G_iconst g (pc := 22) (3 : Int32) d_P_init_22 rfl ?_
  refine G_put g (pc := 23) (q := 3) fa_P_21 fw_6_3 rfl rfl (List.mem_range.mpr (by decide)) hz d_P_init_23 ?_
  refine G_aload_n g (pc := 26) 0 d_P_init_26 rfl rfl ?_
  refine G_bipush g (pc := 27) (nI 16) d_P_init_27 rfl ?_
  refine G_newI g (pc := 29) (N := 16) had (by decide) (by show s.heap.size + 0 = _; omega) (TT_in (i := 137) (by decide +kernel) (by decide +kernel)) (Nat.le_of_ble_eq_true rfl) ⟨(Nat.le_of_ble_eq_true rfl), (Nat.le_of_ble_eq_true rfl)⟩ d_P_init_29 ?_
  have w1 := Gd.wg (z2 := (zP_0 z)) (j2 := 5) had (by decide) g
  have h1 : ((zP_0 z) 3).1 = 6 := hz
  refine G_putFR w1 hnm (pc := 31) (q := 3) (q2 := 4) fa_P_24 fwf_P_4 rfl rfl (List.mem_range.mpr (by decide)) h1 d_P_init_31 ?_
  have w2 := Gd.wg (z2 := (zP_1 z)) (j2 := 5) had (by decide) g
  have h2 : ((zP_1 z) 3).1 = 6 := hz
  refine G_aload_n w2 (pc := 34) 0 d_P_init_34 rfl rfl ?_
  refine G_getsN w2 (pc := 35) (NW_in (i := 101) (by decide +kernel) (by decide +kernel) : Cond.fieldLinkNest "KiteLogger$StationPlan" 28 "KiteLogger" "FIRST_GUSTS" "[I" "KiteLogger" ∈ NW) g.2.2.2.2.2.2.2.1.2.2.2.1 d_P_init_35 ?_
  refine G_tlen w2 (pc := 38) (6 : Int32) g.2.2.2.2.2.2.2.1.2.2.2.2.1 rfl d_P_init_38 ?_
  refine G_put w2 (pc := 39) (q := 3) fa_P_31 fw_6_5 rfl rfl (List.mem_range.mpr (by decide)) h2 d_P_init_39 ?_
  refine G_getsN w2 (pc := 42) (NW_in (i := 101) (by decide +kernel) (by decide +kernel) : Cond.fieldLinkNest "KiteLogger$StationPlan" 28 "KiteLogger" "FIRST_GUSTS" "[I" "KiteLogger" ∈ NW) g.2.2.2.2.2.2.2.1.2.2.2.1 d_P_init_42 ?_
  refine G_aload_n w2 (pc := 45) 0 d_P_init_45 rfl rfl ?_
  refine G_getR w2 (pc := 46) (q := 3) (q2 := 4) fa_P_24 (List.mem_range.mpr (by decide)) h2 rfl d_P_init_46 ?_
  refine Go.known (f := some (mP_0 M)) (M1 := (mP_0 M)) rfl (fun K hK => ?_)
  refine G_cSNV w2 (pc := 49) (As := [.ref (wad w 1100), .ref (wad w 4)]) (st := []) cc_P_34 (c_G_copyRowF l (List.mem_range.mpr (by decide)) rfl rfl _) rfl ⟨(Nat.le_of_ble_eq_true rfl), (Nat.le_of_ble_eq_true rfl)⟩ ⟨(Nat.le_of_ble_eq_true rfl), (Nat.le_of_ble_eq_true rfl)⟩ (Nat.le_of_ble_eq_true rfl) d_P_init_49 (fun M9 => ?_)
  refine Go.of hK ?_
  exact G_creturn w2 (pc := 52) hret (Nat.le_of_ble_eq_true rfl) (Nat.le_of_ble_eq_true rfl) d_P_init_52
