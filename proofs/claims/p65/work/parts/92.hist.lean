/-! History's constructor -/
theorem d_H_init_0 : decode b_H_init 0 = .ok (.aload_n 0, 1) := by decide +kernel
theorem d_H_init_1 : decode b_H_init 1 = .ok (.invokespecial 3, 3) := by decide +kernel
theorem d_H_init_4 : decode b_H_init 4 = .ok (.aload_n 0, 1) := by decide +kernel
theorem d_H_init_5 : decode b_H_init 5 = .ok (.bipush 8, 2) := by decide +kernel
theorem d_H_init_7 : decode b_H_init 7 = .ok (.anewarray 9, 3) := by decide +kernel
theorem d_H_init_10 : decode b_H_init 10 = .ok (.putfield 11, 3) := by decide +kernel
theorem d_H_init_13 : decode b_H_init 13 = .ok (.aload_n 0, 1) := by decide +kernel
theorem d_H_init_14 : decode b_H_init 14 = .ok (.iconst 0, 1) := by decide +kernel
theorem d_H_init_15 : decode b_H_init 15 = .ok (.putfield 17, 3) := by decide +kernel
theorem d_H_init_18 : decode b_H_init 18 = .ok (.aload_n 0, 1) := by decide +kernel
theorem d_H_init_19 : decode b_H_init 19 = .ok (.iconst 0, 1) := by decide +kernel
theorem d_H_init_20 : decode b_H_init 20 = .ok (.putfield 21, 3) := by decide +kernel
theorem d_H_init_23 : decode b_H_init 23 = .ok (.iconst 0, 1) := by decide +kernel
theorem d_H_init_24 : decode b_H_init 24 = .ok (.istore_n 1, 1) := by decide +kernel
theorem d_H_init_25 : decode b_H_init 25 = .ok (.iload_n 1, 1) := by decide +kernel
theorem d_H_init_26 : decode b_H_init 26 = .ok (.aload_n 0, 1) := by decide +kernel
theorem d_H_init_27 : decode b_H_init 27 = .ok (.getfield 11, 3) := by decide +kernel
theorem d_H_init_30 : decode b_H_init 30 = .ok (.arraylength, 1) := by decide +kernel
theorem d_H_init_31 : decode b_H_init 31 = .ok (.if_icmp .ge 22, 3) := by decide +kernel
theorem d_H_init_34 : decode b_H_init 34 = .ok (.aload_n 0, 1) := by decide +kernel
theorem d_H_init_35 : decode b_H_init 35 = .ok (.getfield 11, 3) := by decide +kernel
theorem d_H_init_38 : decode b_H_init 38 = .ok (.iload_n 1, 1) := by decide +kernel
theorem d_H_init_39 : decode b_H_init 39 = .ok (.new 9, 3) := by decide +kernel
theorem d_H_init_42 : decode b_H_init 42 = .ok (.dup, 1) := by decide +kernel
theorem d_H_init_43 : decode b_H_init 43 = .ok (.invokespecial 24, 3) := by decide +kernel
theorem d_H_init_46 : decode b_H_init 46 = .ok (.aastore, 1) := by decide +kernel
theorem d_H_init_47 : decode b_H_init 47 = .ok (.iinc 1 1, 3) := by decide +kernel
theorem d_H_init_50 : decode b_H_init 50 = .ok (.goto (-25), 3) := by decide +kernel
theorem d_H_init_53 : decode b_H_init 53 = .ok (.return_, 1) := by decide +kernel
theorem fwf_H_0 : FWF "KiteLogger$History" 0 0 (.array (.object "KiteLogger$Station")) := ⟨"KiteLogger$History", T0, 3, ty0, rfl, tyk0, nm0, rfl, rfl, by decide +kernel⟩
theorem nw_H_9 : NWd "KiteLogger$History" 9 5 9 := ⟨"KiteLogger$Station", T5, ty5, rfl, uw_5, tyk5, TT_in (i := 326) (by decide +kernel) (by decide +kernel), TT_in (i := 164) (by decide +kernel) (by decide +kernel), TT_in (i := 24) (by decide +kernel) (by decide +kernel), by decide, fun w k hk => by
  have hh : k = 0 ∨ k = 1 ∨ k = 2 ∨ k = 3 ∨ k = 4 ∨ k = 5 ∨ k = 6 ∨ k = 7 ∨ k = 8 := by omega
  rcases hh with rfl | rfl | rfl | rfl | rfl | rfl | rfl | rfl | rfl <;> rfl⟩
theorem ci_H_24 : (Cond.methodLink "KiteLogger$History" 24 y_T_init ∈ TT ∨ ∃ host, Cond.methodLinkNest "KiteLogger$History" 24 y_T_init host ∈ NW) ∧ CIW y_T_init b_T_init 1 0 := ⟨Or.inr ⟨"KiteLogger", NW_in (i := 328) (by decide +kernel) (by decide +kernel)⟩, TT_in (i := 166) (by decide +kernel) (by decide +kernel), TT_in (i := 24) (by decide +kernel) (by decide +kernel), TT_in (i := 167) (by decide +kernel) (by decide +kernel), ⟨by decide +kernel, by decide +kernel, by decide +kernel⟩⟩
def zH_0 (z : Shp) : Shp := zfr z 25 24 8
def zH_1 (z : Shp) : Shp := zset (zH_0 z) 24 0 25
def mH_0 (M : Mem) : Mem := (put (put (setR M 25 (fun _ => 0)) 24 1 (0)) 24 2 (0))
def zHl (z : Shp) : Nat → Shp
  | 0 => (zH_1 z)
  | i + 1 => zset (zt_T (zfr (zHl z i) (26 + 13 * i) 5 0) (26 + 13 * i + 1) (26 + 13 * i)) 25 i (26 + 13 * i)
def mHl (M : Mem) : Nat → Mem
  | 0 => (mH_0 M)
  | i + 1 => mt_T (setR (mHl M i) (26 + 13 * i) (fun _ => 0)) (26 + 13 * i + 1) (26 + 13 * i)
theorem zset_2 {z : Shp} {p k q p' : Nat} : (zset z p k q p').2.1 = (z p').2.1 := by
  unfold zset
  by_cases h : p' = p
  · rw [if_pos h, h]
  · rw [if_neg h]
theorem zt_T_1 {z : Shp} {j p q : Nat} (h1 : q < j) : (zt_T z j p q).1 = (z q).1 := by
  unfold zt_T
  simp (disch := omega) only [zset_1, zfr_1]
theorem zHl_24 (z : Shp) : ∀ i, zHl z i 24 = (zH_1 z) 24
  | 0 => rfl
  | i + 1 => by
    show zset _ 25 i (26 + 13 * i) 24 = _
    rw [zset_ne (by decide), zt_T_ne (by omega) (by omega), zfr_ne (by omega)]
    exact zHl_24 z i
theorem zHl_25 (z : Shp) : ∀ i, (zHl z i 25).1 = 24 ∧ (zHl z i 25).2.1 = 8
  | 0 => ⟨rfl, rfl⟩
  | i + 1 => by
    show (zset _ 25 i (26 + 13 * i) 25).1 = 24 ∧ (zset _ 25 i (26 + 13 * i) 25).2.1 = 8
    rw [zset_1, zset_2, zt_T_ne (by omega) (by omega), zfr_ne (by omega)]
    exact zHl_25 z i
set_option maxHeartbeats 4000000 in
set_option maxRecDepth 100000 in
theorem c_H_init (l : Launch) {w : Wc} (had : Ad w) {z : Shp} (hz : (z 24).1 = 0) (M : Mem) : CtC l y_H_init b_H_init 2 (rmC 5 105 3392) w 25 130 z (zHl z 8) [.ref (wad w 24)] M (mHl M 8) := by
  refine CtC.go (by decide) (L := [(0, .ref (wad w 24))]) rfl (Nat.le_of_ble_eq_true rfl) (fun p0 e s m args below meth c hnm hsz hao g hret => ?_)
  have key : ∀ d i, i + d = 8 → Go p0 l e (rmC 5 105 3392) s m args below meth c (wg w (26 + 13 * i) (zHl z i)) 2 (1 + 13 * i) (8 + 423 * i) (fun (_ : Unit) => MQ below (QC w 130 (zHl z 8) (mHl M 8)) args s 105 3392 (wA w)) (some ()) 25 [(1, .int (nI i)), (0, .ref (wad w 24))] [] (mHl M i) := by
    intro d
    induction d with
    | zero =>
      intro i hi
      obtain rfl : i = 8 := by omega
      have g0 := Gd.wg (z2 := zHl z 8) (j2 := 26 + 13 * 8) had (by decide) g
      have k24 : (zHl z 8 24).1 = 0 := by rw [zHl_24]; exact hz
      refine G_iload_n g0 (pc := 25) 0 d_H_init_25 rfl rfl ?_
      refine G_aload_n g0 (pc := 26) 1 d_H_init_26 rfl rfl ?_
      refine G_getR g0 (pc := 27) (q := 24) (q2 := 25) fa_H_11 (List.mem_range.mpr (by decide)) k24 (by show (zHl z 8 24).2.2 0 = _; rw [zHl_24]; rfl) d_H_init_27 ?_
      refine G_alenS g0 (pc := 30) (nI 8) (List.mem_range.mpr (by decide)) (zHl_25 z 8).1 (by rw [show (wZ (wg w (26 + 13 * 8) (zHl z 8)) 25).2.1 = 8 from (zHl_25 z 8).2]; rfl) d_H_init_30 ?_
      refine icmp_ge_ge g0 (pc := 31) 53 (nI_nlt (by omega) (by omega)) d_H_init_31 (by decide) ?_
      exact G_creturn g0 (pc := 53) hret (Nat.le_of_ble_eq_true rfl) (Nat.le_of_ble_eq_true rfl) d_H_init_53
    | succ d ih =>
      intro i hi
      have kk := ih (i + 1) (by omega)
      rw [show 26 + 13 * (i + 1) = 26 + 13 * i + 1 + 12 from by omega] at kk
      have g0 := Gd.wg (z2 := zHl z i) (j2 := 26 + 13 * i) had (by omega) g
      have k24 : (zHl z i 24).1 = 0 := by rw [zHl_24]; exact hz
      have r24 : (zHl z i 24).2.2 0 = some 25 := by rw [zHl_24]; rfl
      have m24 : 24 ∈ List.range (26 + 13 * i) := List.mem_range.mpr (by omega)
      refine G_iload_n g0 (pc := 25) 0 d_H_init_25 rfl rfl ?_
      refine G_aload_n g0 (pc := 26) 1 d_H_init_26 rfl rfl ?_
      refine G_getR g0 (pc := 27) (q := 24) (q2 := 25) fa_H_11 m24 k24 r24 d_H_init_27 ?_
      refine G_alenS g0 (pc := 30) (nI 8) (List.mem_range.mpr (by omega)) (zHl_25 z i).1 (by rw [show (wZ (wg w (26 + 13 * i) (zHl z i)) 25).2.1 = 8 from (zHl_25 z i).2]; rfl) d_H_init_30 ?_
      refine icmp_ge_lt g0 (pc := 31) 53 (nI_lt (by omega) (by omega)) d_H_init_31 (by decide) ?_
      refine G_aload_n g0 (pc := 34) 1 d_H_init_34 rfl rfl ?_
      refine G_getR g0 (pc := 35) (q := 24) (q2 := 25) fa_H_11 m24 k24 r24 d_H_init_35 ?_
      refine G_iload_n g0 (pc := 38) 0 d_H_init_38 rfl rfl ?_
      refine G_new g0 (pc := 39) had (by omega) (by omega) nw_H_9 ⟨(by show 1 + 13 * i + 1 ≤ 105; omega), (by show 8 + 423 * i + 9 ≤ 3392; omega)⟩ d_H_init_39 ?_
      have g1 := Gd.wg (z2 := zfr (zHl z i) (26 + 13 * i) 5 0) (j2 := 26 + 13 * i + 1) had (by omega) g
      refine G_dup g1 (pc := 42) d_H_init_42 rfl ?_
      refine G_init g1 (pc := 43) (As := []) (q := 26 + 13 * i) (j2 := 26 + 13 * i + 1 + 12) (z2 := zt_T (zfr (zHl z i) (26 + 13 * i) 5 0) (26 + 13 * i + 1) (26 + 13 * i)) (M2 := mt_T (setR (mHl M i) (26 + 13 * i) (fun _ => 0)) (26 + 13 * i + 1) (26 + 13 * i)) (st := [.ref (wad w (26 + 13 * i)), .int (nI i), .ref (wad w 25)]) had hao (by omega) (by omega) (by omega) ci_H_24 rfl (c_T_init l had (j := 26 + 13 * i + 1) (p := 26 + 13 * i) (by omega) (by omega) (by rw [zfr, if_pos rfl]) _) rfl ⟨(Nat.le_of_ble_eq_true rfl), (Nat.le_of_ble_eq_true rfl)⟩ ⟨(by show 1 + 13 * i + 1 + 12 ≤ 105; omega), (by show 8 + 423 * i + 9 + 414 ≤ 3392; omega)⟩ (Nat.le_of_ble_eq_true rfl) d_H_init_43 ?_
      have g2 := Gd.wg (z2 := zt_T (zfr (zHl z i) (26 + 13 * i) 5 0) (26 + 13 * i + 1) (26 + 13 * i)) (j2 := 26 + 13 * i + 1 + 12) had (by omega) g
      have e25 : zt_T (zfr (zHl z i) (26 + 13 * i) 5 0) (26 + 13 * i + 1) (26 + 13 * i) 25 = zHl z i 25 := by rw [zt_T_ne (by omega) (by omega), zfr_ne (by omega)]
      refine G_aastS g2 (pc := 46) (a := 25) (q := 26 + 13 * i) (i := i) (N := 8) (List.mem_range.mpr (by omega)) (by show (zt_T (zfr (zHl z i) (26 + 13 * i) 5 0) (26 + 13 * i + 1) (26 + 13 * i) 25).1 = 24; rw [e25]; exact (zHl_25 z i).1) (by show (zt_T (zfr (zHl z i) (26 + 13 * i) 5 0) (26 + 13 * i + 1) (26 + 13 * i) 25).2.1 = 8; rw [e25]; exact (zHl_25 z i).2) (List.mem_range.mpr (by omega)) (by show (zt_T (zfr (zHl z i) (26 + 13 * i) 5 0) (26 + 13 * i + 1) (26 + 13 * i) (26 + 13 * i)).1 = 5; rw [zt_T_1 (by omega), zfr, if_pos rfl]) (by omega) (by decide) d_H_init_46 ?_
      have g3 := Gd.wg (z2 := zHl z (i + 1)) (j2 := 26 + 13 * i + 1 + 12) had (by omega) g
      refine G_iinc g3 (pc := 47) (nI (i + 1)) _ 0 d_H_init_47 rfl (nI_1 i) (Nat.le_of_ble_eq_true rfl) rfl ?_
      refine G_goto g3 (pc := 50) 25 d_H_init_50 (by decide) ?_
      refine Go.widen (k2 := 1 + 13 * (i + 1)) (n2 := 8 + 423 * (i + 1)) (by show 1 + 13 * i + 1 + 12 ≤ _; omega) (by show 8 + 423 * i + 9 + 414 ≤ _; omega) ?_
      exact kk
  refine G_aload_n g (pc := 0) 0 d_H_init_0 rfl rfl ?_
  refine G_objI g (pc := 1) (q := 24) (TT_in (i := 325) (by decide +kernel) (by decide +kernel)) oI1 oI2 ⟨(Nat.le_of_ble_eq_true rfl), (Nat.le_of_ble_eq_true rfl)⟩ d_H_init_1 ?_
  refine G_aload_n g (pc := 4) 0 d_H_init_4 rfl rfl ?_
  refine G_bipush g (pc := 5) (nI 8) d_H_init_5 rfl ?_
  refine G_newQ g (pc := 7) (C := "KiteLogger$Station") (kd := 24) (t0 := 2) (N := 8) had (by decide) (by show s.heap.size + 0 = _; omega) hao (TT_in (i := 326) (by decide +kernel) (by decide +kernel)) ⟨rfl, rfl, rfl⟩ (Nat.le_of_ble_eq_true rfl) ⟨(Nat.le_of_ble_eq_true rfl), (Nat.le_of_ble_eq_true rfl)⟩ d_H_init_7 ?_
  have w1 := Gd.wg (z2 := (zH_0 z)) (j2 := 26) had (by decide) g
  have h1 : ((zH_0 z) 24).1 = 0 := hz
  refine G_putFR w1 hnm (pc := 10) (q := 24) (q2 := 25) fa_H_11 fwf_H_0 rfl rfl (List.mem_range.mpr (by decide)) h1 d_H_init_10 ?_
  have w2 := Gd.wg (z2 := (zH_1 z)) (j2 := 26) had (by decide) g
  have h2 : ((zH_1 z) 24).1 = 0 := hz
  refine G_aload_n w2 (pc := 13) 0 d_H_init_13 rfl rfl ?_
  refine G_iconst w2 (pc := 14) (0 : Int32) d_H_init_14 rfl ?_
  refine G_put w2 (pc := 15) (q := 24) fa_H_17 fw_0_1 rfl rfl (List.mem_range.mpr (by decide)) h2 d_H_init_15 ?_
  refine G_aload_n w2 (pc := 18) 0 d_H_init_18 rfl rfl ?_
  refine G_iconst w2 (pc := 19) (0 : Int32) d_H_init_19 rfl ?_
  refine G_put w2 (pc := 20) (q := 24) fa_H_21 fw_0_2 rfl rfl (List.mem_range.mpr (by decide)) h2 d_H_init_20 ?_
  refine G_iconst w2 (pc := 23) (0 : Int32) d_H_init_23 rfl ?_
  refine G_istore_n w2 (pc := 24) _ d_H_init_24 rfl (Nat.le_of_ble_eq_true rfl) rfl ?_
  exact key 8 0 rfl
