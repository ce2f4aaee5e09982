/-! Station's constructor -/
theorem d_T_init_0 : decode b_T_init 0 = .ok (.aload_n 0, 1) := by decide +kernel
theorem d_T_init_1 : decode b_T_init 1 = .ok (.invokespecial 3, 3) := by decide +kernel
theorem d_T_init_4 : decode b_T_init 4 = .ok (.aload_n 0, 1) := by decide +kernel
theorem d_T_init_5 : decode b_T_init 5 = .ok (.new 9, 3) := by decide +kernel
theorem d_T_init_8 : decode b_T_init 8 = .ok (.dup, 1) := by decide +kernel
theorem d_T_init_9 : decode b_T_init 9 = .ok (.invokespecial 11, 3) := by decide +kernel
theorem d_T_init_12 : decode b_T_init 12 = .ok (.putfield 12, 3) := by decide +kernel
theorem d_T_init_15 : decode b_T_init 15 = .ok (.aload_n 0, 1) := by decide +kernel
theorem d_T_init_16 : decode b_T_init 16 = .ok (.bipush 16, 2) := by decide +kernel
theorem d_T_init_18 : decode b_T_init 18 = .ok (.newarray .int, 2) := by decide +kernel
theorem d_T_init_20 : decode b_T_init 20 = .ok (.putfield 18, 3) := by decide +kernel
theorem d_T_init_23 : decode b_T_init 23 = .ok (.aload_n 0, 1) := by decide +kernel
theorem d_T_init_24 : decode b_T_init 24 = .ok (.iconst 0, 1) := by decide +kernel
theorem d_T_init_25 : decode b_T_init 25 = .ok (.putfield 22, 3) := by decide +kernel
theorem d_T_init_28 : decode b_T_init 28 = .ok (.aload_n 0, 1) := by decide +kernel
theorem d_T_init_29 : decode b_T_init 29 = .ok (.new 26, 3) := by decide +kernel
theorem d_T_init_32 : decode b_T_init 32 = .ok (.dup, 1) := by decide +kernel
theorem d_T_init_33 : decode b_T_init 33 = .ok (.invokespecial 28, 3) := by decide +kernel
theorem d_T_init_36 : decode b_T_init 36 = .ok (.putfield 29, 3) := by decide +kernel
theorem d_T_init_39 : decode b_T_init 39 = .ok (.aload_n 0, 1) := by decide +kernel
theorem d_T_init_40 : decode b_T_init 40 = .ok (.new 33, 3) := by decide +kernel
theorem d_T_init_43 : decode b_T_init 43 = .ok (.dup, 1) := by decide +kernel
theorem d_T_init_44 : decode b_T_init 44 = .ok (.bipush 30, 2) := by decide +kernel
theorem d_T_init_46 : decode b_T_init 46 = .ok (.invokespecial 35, 3) := by decide +kernel
theorem d_T_init_49 : decode b_T_init 49 = .ok (.putfield 38, 3) := by decide +kernel
theorem d_T_init_52 : decode b_T_init 52 = .ok (.aload_n 0, 1) := by decide +kernel
theorem d_T_init_53 : decode b_T_init 53 = .ok (.new 33, 3) := by decide +kernel
theorem d_T_init_56 : decode b_T_init 56 = .ok (.dup, 1) := by decide +kernel
theorem d_T_init_57 : decode b_T_init 57 = .ok (.bipush 90, 2) := by decide +kernel
theorem d_T_init_59 : decode b_T_init 59 = .ok (.invokespecial 35, 3) := by decide +kernel
theorem d_T_init_62 : decode b_T_init 62 = .ok (.putfield 42, 3) := by decide +kernel
theorem d_T_init_65 : decode b_T_init 65 = .ok (.aload_n 0, 1) := by decide +kernel
theorem d_T_init_66 : decode b_T_init 66 = .ok (.iconst 1, 1) := by decide +kernel
theorem d_T_init_67 : decode b_T_init 67 = .ok (.putfield 45, 3) := by decide +kernel
theorem d_T_init_70 : decode b_T_init 70 = .ok (.aload_n 0, 1) := by decide +kernel
theorem d_T_init_71 : decode b_T_init 71 = .ok (.iconst 0, 1) := by decide +kernel
theorem d_T_init_72 : decode b_T_init 72 = .ok (.putfield 48, 3) := by decide +kernel
theorem d_T_init_75 : decode b_T_init 75 = .ok (.aload_n 0, 1) := by decide +kernel
theorem d_T_init_76 : decode b_T_init 76 = .ok (.iconst 0, 1) := by decide +kernel
theorem d_T_init_77 : decode b_T_init 77 = .ok (.putfield 51, 3) := by decide +kernel
theorem d_T_init_80 : decode b_T_init 80 = .ok (.return_, 1) := by decide +kernel
theorem ci_T_11 : (Cond.methodLink "KiteLogger$Station" 11 y_K_init ∈ TT ∨ ∃ host, Cond.methodLinkNest "KiteLogger$Station" 11 y_K_init host ∈ NW) ∧ CIW y_K_init b_K_init 1 0 := ⟨Or.inr ⟨"KiteLogger", NW_in (i := 171) (by decide +kernel) (by decide +kernel)⟩, TT_in (i := 172) (by decide +kernel) (by decide +kernel), TT_in (i := 25) (by decide +kernel) (by decide +kernel), TT_in (i := 173) (by decide +kernel) (by decide +kernel), ⟨by decide +kernel, by decide +kernel, by decide +kernel⟩⟩
theorem ci_T_28 : (Cond.methodLink "KiteLogger$Station" 28 y_B_init ∈ TT ∨ ∃ host, Cond.methodLinkNest "KiteLogger$Station" 28 y_B_init host ∈ NW) ∧ CIW y_B_init b_B_init 1 0 := ⟨Or.inr ⟨"KiteLogger", NW_in (i := 233) (by decide +kernel) (by decide +kernel)⟩, TT_in (i := 234) (by decide +kernel) (by decide +kernel), TT_in (i := 26) (by decide +kernel) (by decide +kernel), TT_in (i := 235) (by decide +kernel) (by decide +kernel), ⟨by decide +kernel, by decide +kernel, by decide +kernel⟩⟩
theorem ci_T_35 : (Cond.methodLink "KiteLogger$Station" 35 y_S_init ∈ TT ∨ ∃ host, Cond.methodLinkNest "KiteLogger$Station" 35 y_S_init host ∈ NW) ∧ CIW y_S_init b_S_init 2 1 := ⟨Or.inl (TT_in (i := 250) (by decide +kernel) (by decide +kernel)), TT_in (i := 251) (by decide +kernel) (by decide +kernel), TT_in (i := 27) (by decide +kernel) (by decide +kernel), TT_in (i := 252) (by decide +kernel) (by decide +kernel), ⟨by decide +kernel, by decide +kernel, by decide +kernel⟩⟩
theorem fwf_T_0 : FWF "KiteLogger$Station" 5 0 (.object "KiteLogger$Kite") := ⟨"KiteLogger$Station", T5, 9, ty5, rfl, tyk5, nm5, rfl, rfl, by decide +kernel⟩
theorem fwf_T_1 : FWF "KiteLogger$Station" 5 1 (.array .int) := ⟨"KiteLogger$Station", T5, 9, ty5, rfl, tyk5, nm5, rfl, rfl, by decide +kernel⟩
theorem fwf_T_3 : FWF "KiteLogger$Station" 5 3 (.object "KiteLogger$WindBuffer") := ⟨"KiteLogger$Station", T5, 9, ty5, rfl, tyk5, nm5, rfl, rfl, by decide +kernel⟩
theorem fwf_T_4 : FWF "KiteLogger$Station" 5 4 (.object "KiteLogger$Samples") := ⟨"KiteLogger$Station", T5, 9, ty5, rfl, tyk5, nm5, rfl, rfl, by decide +kernel⟩
theorem fwf_T_5 : FWF "KiteLogger$Station" 5 5 (.object "KiteLogger$Samples") := ⟨"KiteLogger$Station", T5, 9, ty5, rfl, tyk5, nm5, rfl, rfl, by decide +kernel⟩
set_option maxHeartbeats 4000000 in
set_option maxRecDepth 100000 in
theorem c_T_init (l : Launch) {w : Wc} (had : Ad w) {j p : Nat} {z : Shp} (hj : j + 12 ≤ 900) (hp : p < j) (hz : (z p).1 = 5) (M : Mem) : CtC l y_T_init b_T_init 1 (rmC 4 12 414) w j (j + 12) z (zset (zset (zfr (zset (zfr (zset (zfr (zfr (zset (zset (zfr (zset (zfr (zset (zfr (zfr (zset (zset (zfr (zfr (zset (zfr (zset (zfr z j 1 0) p 0 j) (j + 1) 20 16) p 1 (j + 1)) (j + 2) 8 0) (j + 3) 20 8) (j + 2) 0 (j + 3)) p 3 (j + 2)) (j + 4) 3 0) (j + 5) 20 30) (j + 4) 1 (j + 5)) (j + 6) 20 30) (j + 4) 2 (j + 6)) (j + 7) 20 30) (j + 4) 3 (j + 7)) p 4 (j + 4)) (j + 8) 3 0) (j + 9) 20 90) (j + 8) 1 (j + 9)) (j + 10) 20 90) (j + 8) 2 (j + 10)) (j + 11) 20 90) (j + 8) 3 (j + 11)) p 5 (j + 8)) [.ref (wad w p)] M (put (put (put (setR (setR (setR (put (put (put (put (setR (setR (setR (setR (put (put (put (put (setR (put (put (setR (setR (put (setR (put (put (put (put (put (put (put (put (put (put (put (put (put (setR M j (fun _ => 0)) j 0 0) j 1 0) j 2 0) j 3 1) j 4 1) j 5 1) j 6 0) j 7 0) j 8 0) j 9 0) j 10 0) j 11 0) j 12 0) (j + 1) (fun _ => 0)) p 2 (0)) (j + 2) (fun _ => 0)) (j + 3) (fun _ => 0)) (j + 2) 1 (0)) (j + 2) 2 (0)) (j + 4) (fun _ => 0)) (j + 4) 4 (0)) (j + 4) 5 (0)) (j + 4) 6 (0)) (j + 4) 0 (nI 30)) (j + 5) (fun _ => 0)) (j + 6) (fun _ => 0)) (j + 7) (fun _ => 0)) (j + 8) (fun _ => 0)) (j + 8) 4 (0)) (j + 8) 5 (0)) (j + 8) 6 (0)) (j + 8) 0 (nI 90)) (j + 9) (fun _ => 0)) (j + 10) (fun _ => 0)) (j + 11) (fun _ => 0)) p 6 (1)) p 7 (0)) p 8 (0)) := by
  refine CtC.go (by decide) (L := [(0, .ref (wad w p))]) rfl (Nat.le_of_ble_eq_true rfl) (fun p0 e s m args below meth c hnm hsz hao g hret => ?_)
  refine G_aload_n g (pc := 0) 0 d_T_init_0 rfl rfl ?_
  refine G_objI g (pc := 1) (q := p) (TT_in (i := 168) (by decide +kernel) (by decide +kernel)) oI1 oI2 ⟨(Nat.le_of_ble_eq_true rfl), (Nat.le_of_ble_eq_true rfl)⟩ d_T_init_1 ?_
  refine G_aload_n g (pc := 4) 0 d_T_init_4 rfl rfl ?_
  refine G_new g (pc := 5) had (by omega) (by show s.heap.size + 0 = _; omega) nw_T_9 ⟨(Nat.le_of_ble_eq_true rfl), (Nat.le_of_ble_eq_true rfl)⟩ d_T_init_5 ?_
  have w1 := Gd.wg (z2 := (zfr z j 1 0)) (j2 := (j + 1)) had (by omega) g
  have hz2 : ((zfr z j 1 0) p).1 = 5 := by rw [zfr_1 (by omega)]; exact hz
  refine G_dup w1 (pc := 8) d_T_init_8 rfl ?_
  refine G_init w1 (pc := 9) (As := []) (st := [.ref (wad w j), .ref (wad w p)]) had hao (by omega) (by omega) (by show s.heap.size + 1 = _; omega) ci_T_11 rfl (c_K_init l (by omega) (by unfold zfr; rw [if_pos rfl]) _) rfl ⟨(Nat.le_of_ble_eq_true rfl), (Nat.le_of_ble_eq_true rfl)⟩ ⟨(Nat.le_of_ble_eq_true rfl), (Nat.le_of_ble_eq_true rfl)⟩ (Nat.le_of_ble_eq_true rfl) d_T_init_9 ?_
  refine G_putFR w1 hnm (pc := 12) (q := p) (q2 := j) fa_T_12 fwf_T_0 rfl rfl (List.mem_range.mpr (by omega)) hz2 d_T_init_12 ?_
  have w3 := Gd.wg (z2 := (zset (zfr z j 1 0) p 0 j)) (j2 := (j + 1)) had (by omega) g
  have hz4 : ((zset (zfr z j 1 0) p 0 j) p).1 = 5 := by rw [zset_1]; exact hz2
  refine G_aload_n w3 (pc := 15) 0 d_T_init_15 rfl rfl ?_
  refine G_bipush w3 (pc := 16) (nI 16) d_T_init_16 rfl ?_
  refine G_newI w3 (pc := 18) (N := 16) had (by omega) (by show s.heap.size + 1 = _; omega) (TT_in (i := 137) (by decide +kernel) (by decide +kernel)) (Nat.le_of_ble_eq_true rfl) ⟨(Nat.le_of_ble_eq_true rfl), (Nat.le_of_ble_eq_true rfl)⟩ d_T_init_18 ?_
  have w5 := Gd.wg (z2 := (zfr (zset (zfr z j 1 0) p 0 j) (j + 1) 20 16)) (j2 := (j + 2)) had (by omega) g
  have hz6 : ((zfr (zset (zfr z j 1 0) p 0 j) (j + 1) 20 16) p).1 = 5 := by rw [zfr_1 (by omega)]; exact hz4
  refine G_putFR w5 hnm (pc := 20) (q := p) (q2 := (j + 1)) fa_T_18 fwf_T_1 rfl rfl (List.mem_range.mpr (by omega)) hz6 d_T_init_20 ?_
  have w7 := Gd.wg (z2 := (zset (zfr (zset (zfr z j 1 0) p 0 j) (j + 1) 20 16) p 1 (j + 1))) (j2 := (j + 2)) had (by omega) g
  have hz8 : ((zset (zfr (zset (zfr z j 1 0) p 0 j) (j + 1) 20 16) p 1 (j + 1)) p).1 = 5 := by rw [zset_1]; exact hz6
  refine G_aload_n w7 (pc := 23) 0 d_T_init_23 rfl rfl ?_
  refine G_iconst w7 (pc := 24) (0 : Int32) d_T_init_24 rfl ?_
  refine G_put w7 (pc := 25) (q := p) fa_T_22 fw_5_2 rfl rfl (List.mem_range.mpr (by omega)) hz8 d_T_init_25 ?_
  refine G_aload_n w7 (pc := 28) 0 d_T_init_28 rfl rfl ?_
  refine G_new w7 (pc := 29) had (by omega) (by show s.heap.size + 2 = _; omega) nw_T_26 ⟨(Nat.le_of_ble_eq_true rfl), (Nat.le_of_ble_eq_true rfl)⟩ d_T_init_29 ?_
  have w9 := Gd.wg (z2 := (zfr (zset (zfr (zset (zfr z j 1 0) p 0 j) (j + 1) 20 16) p 1 (j + 1)) (j + 2) 8 0)) (j2 := (j + 3)) had (by omega) g
  have hz10 : ((zfr (zset (zfr (zset (zfr z j 1 0) p 0 j) (j + 1) 20 16) p 1 (j + 1)) (j + 2) 8 0) p).1 = 5 := by rw [zfr_1 (by omega)]; exact hz8
  refine G_dup w9 (pc := 32) d_T_init_32 rfl ?_
  refine G_init w9 (pc := 33) (As := []) (st := [.ref (wad w (j + 2)), .ref (wad w p)]) had hao (by omega) (by omega) (by show s.heap.size + 3 = _; omega) ci_T_28 rfl (c_B_init l had (by omega) (by omega) (by unfold zfr; rw [if_pos rfl]) _) rfl ⟨(Nat.le_of_ble_eq_true rfl), (Nat.le_of_ble_eq_true rfl)⟩ ⟨(Nat.le_of_ble_eq_true rfl), (Nat.le_of_ble_eq_true rfl)⟩ (Nat.le_of_ble_eq_true rfl) d_T_init_33 ?_
  have w11 := Gd.wg (z2 := (zset (zfr (zfr (zset (zfr (zset (zfr z j 1 0) p 0 j) (j + 1) 20 16) p 1 (j + 1)) (j + 2) 8 0) (j + 3) 20 8) (j + 2) 0 (j + 3))) (j2 := (j + 4)) had (by omega) g
  have hz12 : ((zset (zfr (zfr (zset (zfr (zset (zfr z j 1 0) p 0 j) (j + 1) 20 16) p 1 (j + 1)) (j + 2) 8 0) (j + 3) 20 8) (j + 2) 0 (j + 3)) p).1 = 5 := by rw [zset_1, zfr_1 (by omega)]; exact hz10
  refine G_putFR w11 hnm (pc := 36) (q := p) (q2 := (j + 2)) fa_T_29 fwf_T_3 rfl rfl (List.mem_range.mpr (by omega)) hz12 d_T_init_36 ?_
  have w13 := Gd.wg (z2 := (zset (zset (zfr (zfr (zset (zfr (zset (zfr z j 1 0) p 0 j) (j + 1) 20 16) p 1 (j + 1)) (j + 2) 8 0) (j + 3) 20 8) (j + 2) 0 (j + 3)) p 3 (j + 2))) (j2 := (j + 4)) had (by omega) g
  have hz14 : ((zset (zset (zfr (zfr (zset (zfr (zset (zfr z j 1 0) p 0 j) (j + 1) 20 16) p 1 (j + 1)) (j + 2) 8 0) (j + 3) 20 8) (j + 2) 0 (j + 3)) p 3 (j + 2)) p).1 = 5 := by rw [zset_1]; exact hz12
  refine G_aload_n w13 (pc := 39) 0 d_T_init_39 rfl rfl ?_
  refine G_new w13 (pc := 40) had (by omega) (by show s.heap.size + 4 = _; omega) nw_T_33 ⟨(Nat.le_of_ble_eq_true rfl), (Nat.le_of_ble_eq_true rfl)⟩ d_T_init_40 ?_
  have w15 := Gd.wg (z2 := (zfr (zset (zset (zfr (zfr (zset (zfr (zset (zfr z j 1 0) p 0 j) (j + 1) 20 16) p 1 (j + 1)) (j + 2) 8 0) (j + 3) 20 8) (j + 2) 0 (j + 3)) p 3 (j + 2)) (j + 4) 3 0)) (j2 := (j + 5)) had (by omega) g
  have hz16 : ((zfr (zset (zset (zfr (zfr (zset (zfr (zset (zfr z j 1 0) p 0 j) (j + 1) 20 16) p 1 (j + 1)) (j + 2) 8 0) (j + 3) 20 8) (j + 2) 0 (j + 3)) p 3 (j + 2)) (j + 4) 3 0) p).1 = 5 := by rw [zfr_1 (by omega)]; exact hz14
  refine G_dup w15 (pc := 43) d_T_init_43 rfl ?_
  refine G_bipush w15 (pc := 44) (nI 30) d_T_init_44 rfl ?_
  refine G_init w15 (pc := 46) (As := [.int (nI 30)]) (st := [.ref (wad w (j + 4)), .ref (wad w p)]) had hao (by omega) (by omega) (by show s.heap.size + 5 = _; omega) ci_T_35 rfl (c_S_init l had (N := 30) (by omega) (by omega) (by omega) (by omega) (by unfold zfr; rw [if_pos rfl]) _) rfl ⟨(Nat.le_of_ble_eq_true rfl), (Nat.le_of_ble_eq_true rfl)⟩ ⟨(Nat.le_of_ble_eq_true rfl), (Nat.le_of_ble_eq_true rfl)⟩ (Nat.le_of_ble_eq_true rfl) d_T_init_46 ?_
  have w17 := Gd.wg (z2 := (zset (zfr (zset (zfr (zset (zfr (zfr (zset (zset (zfr (zfr (zset (zfr (zset (zfr z j 1 0) p 0 j) (j + 1) 20 16) p 1 (j + 1)) (j + 2) 8 0) (j + 3) 20 8) (j + 2) 0 (j + 3)) p 3 (j + 2)) (j + 4) 3 0) (j + 5) 20 30) (j + 4) 1 (j + 5)) (j + 6) 20 30) (j + 4) 2 (j + 6)) (j + 7) 20 30) (j + 4) 3 (j + 7))) (j2 := (j + 8)) had (by omega) g
  have hz18 : ((zset (zfr (zset (zfr (zset (zfr (zfr (zset (zset (zfr (zfr (zset (zfr (zset (zfr z j 1 0) p 0 j) (j + 1) 20 16) p 1 (j + 1)) (j + 2) 8 0) (j + 3) 20 8) (j + 2) 0 (j + 3)) p 3 (j + 2)) (j + 4) 3 0) (j + 5) 20 30) (j + 4) 1 (j + 5)) (j + 6) 20 30) (j + 4) 2 (j + 6)) (j + 7) 20 30) (j + 4) 3 (j + 7)) p).1 = 5 := by rw [zset_1, zfr_1 (by omega), zset_1, zfr_1 (by omega), zset_1, zfr_1 (by omega)]; exact hz16
  refine G_putFR w17 hnm (pc := 49) (q := p) (q2 := (j + 4)) fa_T_38 fwf_T_4 rfl rfl (List.mem_range.mpr (by omega)) hz18 d_T_init_49 ?_
  have w19 := Gd.wg (z2 := (zset (zset (zfr (zset (zfr (zset (zfr (zfr (zset (zset (zfr (zfr (zset (zfr (zset (zfr z j 1 0) p 0 j) (j + 1) 20 16) p 1 (j + 1)) (j + 2) 8 0) (j + 3) 20 8) (j + 2) 0 (j + 3)) p 3 (j + 2)) (j + 4) 3 0) (j + 5) 20 30) (j + 4) 1 (j + 5)) (j + 6) 20 30) (j + 4) 2 (j + 6)) (j + 7) 20 30) (j + 4) 3 (j + 7)) p 4 (j + 4))) (j2 := (j + 8)) had (by omega) g
  have hz20 : ((zset (zset (zfr (zset (zfr (zset (zfr (zfr (zset (zset (zfr (zfr (zset (zfr (zset (zfr z j 1 0) p 0 j) (j + 1) 20 16) p 1 (j + 1)) (j + 2) 8 0) (j + 3) 20 8) (j + 2) 0 (j + 3)) p 3 (j + 2)) (j + 4) 3 0) (j + 5) 20 30) (j + 4) 1 (j + 5)) (j + 6) 20 30) (j + 4) 2 (j + 6)) (j + 7) 20 30) (j + 4) 3 (j + 7)) p 4 (j + 4)) p).1 = 5 := by rw [zset_1]; exact hz18
  refine G_aload_n w19 (pc := 52) 0 d_T_init_52 rfl rfl ?_
  refine G_new w19 (pc := 53) had (by omega) (by show s.heap.size + 8 = _; omega) nw_T_33 ⟨(Nat.le_of_ble_eq_true rfl), (Nat.le_of_ble_eq_true rfl)⟩ d_T_init_53 ?_
  have w21 := Gd.wg (z2 := (zfr (zset (zset (zfr (zset (zfr (zset (zfr (zfr (zset (zset (zfr (zfr (zset (zfr (zset (zfr z j 1 0) p 0 j) (j + 1) 20 16) p 1 (j + 1)) (j + 2) 8 0) (j + 3) 20 8) (j + 2) 0 (j + 3)) p 3 (j + 2)) (j + 4) 3 0) (j + 5) 20 30) (j + 4) 1 (j + 5)) (j + 6) 20 30) (j + 4) 2 (j + 6)) (j + 7) 20 30) (j + 4) 3 (j + 7)) p 4 (j + 4)) (j + 8) 3 0)) (j2 := (j + 9)) had (by omega) g
  have hz22 : ((zfr (zset (zset (zfr (zset (zfr (zset (zfr (zfr (zset (zset (zfr (zfr (zset (zfr (zset (zfr z j 1 0) p 0 j) (j + 1) 20 16) p 1 (j + 1)) (j + 2) 8 0) (j + 3) 20 8) (j + 2) 0 (j + 3)) p 3 (j + 2)) (j + 4) 3 0) (j + 5) 20 30) (j + 4) 1 (j + 5)) (j + 6) 20 30) (j + 4) 2 (j + 6)) (j + 7) 20 30) (j + 4) 3 (j + 7)) p 4 (j + 4)) (j + 8) 3 0) p).1 = 5 := by rw [zfr_1 (by omega)]; exact hz20
  refine G_dup w21 (pc := 56) d_T_init_56 rfl ?_
  refine G_bipush w21 (pc := 57) (nI 90) d_T_init_57 rfl ?_
  refine G_init w21 (pc := 59) (As := [.int (nI 90)]) (st := [.ref (wad w (j + 8)), .ref (wad w p)]) had hao (by omega) (by omega) (by show s.heap.size + 9 = _; omega) ci_T_35 rfl (c_S_init l had (N := 90) (by omega) (by omega) (by omega) (by omega) (by unfold zfr; rw [if_pos rfl]) _) rfl ⟨(Nat.le_of_ble_eq_true rfl), (Nat.le_of_ble_eq_true rfl)⟩ ⟨(Nat.le_of_ble_eq_true rfl), (Nat.le_of_ble_eq_true rfl)⟩ (Nat.le_of_ble_eq_true rfl) d_T_init_59 ?_
  have w23 := Gd.wg (z2 := (zset (zfr (zset (zfr (zset (zfr (zfr (zset (zset (zfr (zset (zfr (zset (zfr (zfr (zset (zset (zfr (zfr (zset (zfr (zset (zfr z j 1 0) p 0 j) (j + 1) 20 16) p 1 (j + 1)) (j + 2) 8 0) (j + 3) 20 8) (j + 2) 0 (j + 3)) p 3 (j + 2)) (j + 4) 3 0) (j + 5) 20 30) (j + 4) 1 (j + 5)) (j + 6) 20 30) (j + 4) 2 (j + 6)) (j + 7) 20 30) (j + 4) 3 (j + 7)) p 4 (j + 4)) (j + 8) 3 0) (j + 9) 20 90) (j + 8) 1 (j + 9)) (j + 10) 20 90) (j + 8) 2 (j + 10)) (j + 11) 20 90) (j + 8) 3 (j + 11))) (j2 := (j + 12)) had (by omega) g
  have hz24 : ((zset (zfr (zset (zfr (zset (zfr (zfr (zset (zset (zfr (zset (zfr (zset (zfr (zfr (zset (zset (zfr (zfr (zset (zfr (zset (zfr z j 1 0) p 0 j) (j + 1) 20 16) p 1 (j + 1)) (j + 2) 8 0) (j + 3) 20 8) (j + 2) 0 (j + 3)) p 3 (j + 2)) (j + 4) 3 0) (j + 5) 20 30) (j + 4) 1 (j + 5)) (j + 6) 20 30) (j + 4) 2 (j + 6)) (j + 7) 20 30) (j + 4) 3 (j + 7)) p 4 (j + 4)) (j + 8) 3 0) (j + 9) 20 90) (j + 8) 1 (j + 9)) (j + 10) 20 90) (j + 8) 2 (j + 10)) (j + 11) 20 90) (j + 8) 3 (j + 11)) p).1 = 5 := by rw [zset_1, zfr_1 (by omega), zset_1, zfr_1 (by omega), zset_1, zfr_1 (by omega)]; exact hz22
  refine G_putFR w23 hnm (pc := 62) (q := p) (q2 := (j + 8)) fa_T_42 fwf_T_5 rfl rfl (List.mem_range.mpr (by omega)) hz24 d_T_init_62 ?_
  have w25 := Gd.wg (z2 := (zset (zset (zfr (zset (zfr (zset (zfr (zfr (zset (zset (zfr (zset (zfr (zset (zfr (zfr (zset (zset (zfr (zfr (zset (zfr (zset (zfr z j 1 0) p 0 j) (j + 1) 20 16) p 1 (j + 1)) (j + 2) 8 0) (j + 3) 20 8) (j + 2) 0 (j + 3)) p 3 (j + 2)) (j + 4) 3 0) (j + 5) 20 30) (j + 4) 1 (j + 5)) (j + 6) 20 30) (j + 4) 2 (j + 6)) (j + 7) 20 30) (j + 4) 3 (j + 7)) p 4 (j + 4)) (j + 8) 3 0) (j + 9) 20 90) (j + 8) 1 (j + 9)) (j + 10) 20 90) (j + 8) 2 (j + 10)) (j + 11) 20 90) (j + 8) 3 (j + 11)) p 5 (j + 8))) (j2 := (j + 12)) had (by omega) g
  have hz26 : ((zset (zset (zfr (zset (zfr (zset (zfr (zfr (zset (zset (zfr (zset (zfr (zset (zfr (zfr (zset (zset (zfr (zfr (zset (zfr (zset (zfr z j 1 0) p 0 j) (j + 1) 20 16) p 1 (j + 1)) (j + 2) 8 0) (j + 3) 20 8) (j + 2) 0 (j + 3)) p 3 (j + 2)) (j + 4) 3 0) (j + 5) 20 30) (j + 4) 1 (j + 5)) (j + 6) 20 30) (j + 4) 2 (j + 6)) (j + 7) 20 30) (j + 4) 3 (j + 7)) p 4 (j + 4)) (j + 8) 3 0) (j + 9) 20 90) (j + 8) 1 (j + 9)) (j + 10) 20 90) (j + 8) 2 (j + 10)) (j + 11) 20 90) (j + 8) 3 (j + 11)) p 5 (j + 8)) p).1 = 5 := by rw [zset_1]; exact hz24
  refine G_aload_n w25 (pc := 65) 0 d_T_init_65 rfl rfl ?_
  refine G_iconst w25 (pc := 66) (1 : Int32) d_T_init_66 rfl ?_
  refine G_put w25 (pc := 67) (q := p) fa_T_45 fw_5_6 rfl rfl (List.mem_range.mpr (by omega)) hz26 d_T_init_67 ?_
  refine G_aload_n w25 (pc := 70) 0 d_T_init_70 rfl rfl ?_
  refine G_iconst w25 (pc := 71) (0 : Int32) d_T_init_71 rfl ?_
  refine G_put w25 (pc := 72) (q := p) fa_T_48 fw_5_7 rfl rfl (List.mem_range.mpr (by omega)) hz26 d_T_init_72 ?_
  refine G_aload_n w25 (pc := 75) 0 d_T_init_75 rfl rfl ?_
  refine G_iconst w25 (pc := 76) (0 : Int32) d_T_init_76 rfl ?_
  refine G_put w25 (pc := 77) (q := p) fa_T_51 fw_5_8 rfl rfl (List.mem_range.mpr (by omega)) hz26 d_T_init_77 ?_
  exact G_creturn w25 (pc := 80) hret (Nat.le_of_ble_eq_true rfl) (Nat.le_of_ble_eq_true rfl) d_T_init_80
