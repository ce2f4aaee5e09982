/-! KiteLogger's constructor -/
theorem d_G_init_0 : decode b_G_init 0 = .ok (.aload_n 0, 1) := by decide +kernel
theorem d_G_init_1 : decode b_G_init 1 = .ok (.invokespecial 3, 3) := by decide +kernel
theorem d_G_init_4 : decode b_G_init 4 = .ok (.aload_n 0, 1) := by decide +kernel
theorem d_G_init_5 : decode b_G_init 5 = .ok (.new 9, 3) := by decide +kernel
theorem d_G_init_8 : decode b_G_init 8 = .ok (.dup, 1) := by decide +kernel
theorem d_G_init_9 : decode b_G_init 9 = .ok (.invokespecial 11, 3) := by decide +kernel
theorem d_G_init_12 : decode b_G_init 12 = .ok (.putfield 12, 3) := by decide +kernel
theorem d_G_init_15 : decode b_G_init 15 = .ok (.aload_n 0, 1) := by decide +kernel
theorem d_G_init_16 : decode b_G_init 16 = .ok (.new 16, 3) := by decide +kernel
theorem d_G_init_19 : decode b_G_init 19 = .ok (.dup, 1) := by decide +kernel
theorem d_G_init_20 : decode b_G_init 20 = .ok (.invokespecial 18, 3) := by decide +kernel
theorem d_G_init_23 : decode b_G_init 23 = .ok (.putfield 19, 3) := by decide +kernel
theorem d_G_init_26 : decode b_G_init 26 = .ok (.aload_n 0, 1) := by decide +kernel
theorem d_G_init_27 : decode b_G_init 27 = .ok (.new 23, 3) := by decide +kernel
theorem d_G_init_30 : decode b_G_init 30 = .ok (.dup, 1) := by decide +kernel
theorem d_G_init_31 : decode b_G_init 31 = .ok (.invokespecial 25, 3) := by decide +kernel
theorem d_G_init_34 : decode b_G_init 34 = .ok (.putfield 26, 3) := by decide +kernel
theorem d_G_init_37 : decode b_G_init 37 = .ok (.aload_n 0, 1) := by decide +kernel
theorem d_G_init_38 : decode b_G_init 38 = .ok (.new 30, 3) := by decide +kernel
theorem d_G_init_41 : decode b_G_init 41 = .ok (.dup, 1) := by decide +kernel
theorem d_G_init_42 : decode b_G_init 42 = .ok (.invokespecial 32, 3) := by decide +kernel
theorem d_G_init_45 : decode b_G_init 45 = .ok (.putfield 33, 3) := by decide +kernel
theorem d_G_init_48 : decode b_G_init 48 = .ok (.aload_n 0, 1) := by decide +kernel
theorem d_G_init_49 : decode b_G_init 49 = .ok (.new 37, 3) := by decide +kernel
theorem d_G_init_52 : decode b_G_init 52 = .ok (.dup, 1) := by decide +kernel
theorem d_G_init_53 : decode b_G_init 53 = .ok (.invokespecial 39, 3) := by decide +kernel
theorem d_G_init_56 : decode b_G_init 56 = .ok (.putfield 40, 3) := by decide +kernel
theorem d_G_init_59 : decode b_G_init 59 = .ok (.aload_n 0, 1) := by decide +kernel
theorem d_G_init_60 : decode b_G_init 60 = .ok (.new 44, 3) := by decide +kernel
theorem d_G_init_63 : decode b_G_init 63 = .ok (.dup, 1) := by decide +kernel
theorem d_G_init_64 : decode b_G_init 64 = .ok (.invokespecial 46, 3) := by decide +kernel
theorem d_G_init_67 : decode b_G_init 67 = .ok (.putfield 47, 3) := by decide +kernel
theorem d_G_init_70 : decode b_G_init 70 = .ok (.aload_n 0, 1) := by decide +kernel
theorem d_G_init_71 : decode b_G_init 71 = .ok (.new 30, 3) := by decide +kernel
theorem d_G_init_74 : decode b_G_init 74 = .ok (.dup, 1) := by decide +kernel
theorem d_G_init_75 : decode b_G_init 75 = .ok (.invokespecial 32, 3) := by decide +kernel
theorem d_G_init_78 : decode b_G_init 78 = .ok (.putfield 51, 3) := by decide +kernel
theorem d_G_init_81 : decode b_G_init 81 = .ok (.aload_n 0, 1) := by decide +kernel
theorem d_G_init_82 : decode b_G_init 82 = .ok (.iconst 0, 1) := by decide +kernel
theorem d_G_init_83 : decode b_G_init 83 = .ok (.putfield 54, 3) := by decide +kernel
theorem d_G_init_86 : decode b_G_init 86 = .ok (.aload_n 0, 1) := by decide +kernel
theorem d_G_init_87 : decode b_G_init 87 = .ok (.new 58, 3) := by decide +kernel
theorem d_G_init_90 : decode b_G_init 90 = .ok (.dup, 1) := by decide +kernel
theorem d_G_init_91 : decode b_G_init 91 = .ok (.invokespecial 60, 3) := by decide +kernel
theorem d_G_init_94 : decode b_G_init 94 = .ok (.putfield 61, 3) := by decide +kernel
theorem d_G_init_97 : decode b_G_init 97 = .ok (.aload_n 0, 1) := by decide +kernel
theorem d_G_init_98 : decode b_G_init 98 = .ok (.getfield 33, 3) := by decide +kernel
theorem d_G_init_101 : decode b_G_init 101 = .ok (.aload_n 0, 1) := by decide +kernel
theorem d_G_init_102 : decode b_G_init 102 = .ok (.getfield 19, 3) := by decide +kernel
theorem d_G_init_105 : decode b_G_init 105 = .ok (.invokevirtual 65, 3) := by decide +kernel
theorem d_G_init_108 : decode b_G_init 108 = .ok (.return_, 1) := by decide +kernel
theorem nw_G_9 : NWd "KiteLogger" 9 7 10 := ⟨"KiteLogger$TextReader", T7, ty7, rfl, uw_7, tyk7, TT_in (i := 53) (by decide +kernel) (by decide +kernel), TT_in (i := 54) (by decide +kernel) (by decide +kernel), TT_in (i := 19) (by decide +kernel) (by decide +kernel), by decide, fun w k hk => by
  have hh : k = 0 ∨ k = 1 ∨ k = 2 ∨ k = 3 ∨ k = 4 ∨ k = 5 ∨ k = 6 ∨ k = 7 ∨ k = 8 ∨ k = 9 := by omega
  rcases hh with rfl | rfl | rfl | rfl | rfl | rfl | rfl | rfl | rfl | rfl <;> rfl⟩
theorem ci_G_11 : (Cond.methodLink "KiteLogger" 11 y_X_init ∈ TT ∨ ∃ host, Cond.methodLinkNest "KiteLogger" 11 y_X_init host ∈ NW) ∧ CIW y_X_init b_X_init 1 0 := ⟨Or.inr ⟨"KiteLogger", NW_in (i := 55) (by decide +kernel) (by decide +kernel)⟩, TT_in (i := 56) (by decide +kernel) (by decide +kernel), TT_in (i := 19) (by decide +kernel) (by decide +kernel), TT_in (i := 57) (by decide +kernel) (by decide +kernel), ⟨by decide +kernel, by decide +kernel, by decide +kernel⟩⟩
theorem fwf_G_0 : FWF "KiteLogger" 9 0 (.object "KiteLogger$TextReader") := ⟨"KiteLogger", T9, 9, ty9, rfl, tyk9, nm9, rfl, rfl, by decide +kernel⟩
theorem nw_G_16 : NWd "KiteLogger" 16 6 6 := ⟨"KiteLogger$StationPlan", T6, ty6, rfl, uw_6, tyk6, TT_in (i := 95) (by decide +kernel) (by decide +kernel), TT_in (i := 96) (by decide +kernel) (by decide +kernel), TT_in (i := 20) (by decide +kernel) (by decide +kernel), by decide, fun w k hk => by
  have hh : k = 0 ∨ k = 1 ∨ k = 2 ∨ k = 3 ∨ k = 4 ∨ k = 5 := by omega
  rcases hh with rfl | rfl | rfl | rfl | rfl | rfl <;> rfl⟩
theorem ci_G_18 : (Cond.methodLink "KiteLogger" 18 y_P_init ∈ TT ∨ ∃ host, Cond.methodLinkNest "KiteLogger" 18 y_P_init host ∈ NW) ∧ CIW y_P_init b_P_init 1 0 := ⟨Or.inl (TT_in (i := 97) (by decide +kernel) (by decide +kernel)), TT_in (i := 98) (by decide +kernel) (by decide +kernel), TT_in (i := 20) (by decide +kernel) (by decide +kernel), TT_in (i := 99) (by decide +kernel) (by decide +kernel), ⟨by decide +kernel, by decide +kernel, by decide +kernel⟩⟩
theorem fwf_G_1 : FWF "KiteLogger" 9 1 (.object "KiteLogger$StationPlan") := ⟨"KiteLogger", T9, 9, ty9, rfl, tyk9, nm9, rfl, rfl, by decide +kernel⟩
theorem nw_G_23 : NWd "KiteLogger" 23 4 6 := ⟨"KiteLogger$Script", T4, ty4, rfl, uw_4, tyk4, TT_in (i := 138) (by decide +kernel) (by decide +kernel), TT_in (i := 139) (by decide +kernel) (by decide +kernel), TT_in (i := 23) (by decide +kernel) (by decide +kernel), by decide, fun w k hk => by
  have hh : k = 0 ∨ k = 1 ∨ k = 2 ∨ k = 3 ∨ k = 4 ∨ k = 5 := by omega
  rcases hh with rfl | rfl | rfl | rfl | rfl | rfl <;> rfl⟩
theorem ci_G_25 : (Cond.methodLink "KiteLogger" 25 y_C_init ∈ TT ∨ ∃ host, Cond.methodLinkNest "KiteLogger" 25 y_C_init host ∈ NW) ∧ CIW y_C_init b_C_init 1 0 := ⟨Or.inr ⟨"KiteLogger", NW_in (i := 140) (by decide +kernel) (by decide +kernel)⟩, TT_in (i := 141) (by decide +kernel) (by decide +kernel), TT_in (i := 23) (by decide +kernel) (by decide +kernel), TT_in (i := 142) (by decide +kernel) (by decide +kernel), ⟨by decide +kernel, by decide +kernel, by decide +kernel⟩⟩
theorem fwf_G_2 : FWF "KiteLogger" 9 2 (.object "KiteLogger$Script") := ⟨"KiteLogger", T9, 9, ty9, rfl, tyk9, nm9, rfl, rfl, by decide +kernel⟩
theorem nw_G_30 : NWd "KiteLogger" 30 5 9 := ⟨"KiteLogger$Station", T5, ty5, rfl, uw_5, tyk5, TT_in (i := 163) (by decide +kernel) (by decide +kernel), TT_in (i := 164) (by decide +kernel) (by decide +kernel), TT_in (i := 24) (by decide +kernel) (by decide +kernel), by decide, fun w k hk => by
  have hh : k = 0 ∨ k = 1 ∨ k = 2 ∨ k = 3 ∨ k = 4 ∨ k = 5 ∨ k = 6 ∨ k = 7 ∨ k = 8 := by omega
  rcases hh with rfl | rfl | rfl | rfl | rfl | rfl | rfl | rfl | rfl <;> rfl⟩
theorem ci_G_32 : (Cond.methodLink "KiteLogger" 32 y_T_init ∈ TT ∨ ∃ host, Cond.methodLinkNest "KiteLogger" 32 y_T_init host ∈ NW) ∧ CIW y_T_init b_T_init 1 0 := ⟨Or.inr ⟨"KiteLogger", NW_in (i := 165) (by decide +kernel) (by decide +kernel)⟩, TT_in (i := 166) (by decide +kernel) (by decide +kernel), TT_in (i := 24) (by decide +kernel) (by decide +kernel), TT_in (i := 167) (by decide +kernel) (by decide +kernel), ⟨by decide +kernel, by decide +kernel, by decide +kernel⟩⟩
theorem fwf_G_3 : FWF "KiteLogger" 9 3 (.object "KiteLogger$Station") := ⟨"KiteLogger", T9, 9, ty9, rfl, tyk9, nm9, rfl, rfl, by decide +kernel⟩
theorem nw_G_37 : NWd "KiteLogger" 37 1 13 := ⟨"KiteLogger$Kite", T1, ty1, rfl, uw_1, tyk1, TT_in (i := 318) (by decide +kernel) (by decide +kernel), TT_in (i := 170) (by decide +kernel) (by decide +kernel), TT_in (i := 25) (by decide +kernel) (by decide +kernel), by decide, fun w k hk => by
  have hh : k = 0 ∨ k = 1 ∨ k = 2 ∨ k = 3 ∨ k = 4 ∨ k = 5 ∨ k = 6 ∨ k = 7 ∨ k = 8 ∨ k = 9 ∨ k = 10 ∨ k = 11 ∨ k = 12 := by omega
  rcases hh with rfl | rfl | rfl | rfl | rfl | rfl | rfl | rfl | rfl | rfl | rfl | rfl | rfl <;> rfl⟩
theorem ci_G_39 : (Cond.methodLink "KiteLogger" 39 y_K_init ∈ TT ∨ ∃ host, Cond.methodLinkNest "KiteLogger" 39 y_K_init host ∈ NW) ∧ CIW y_K_init b_K_init 1 0 := ⟨Or.inr ⟨"KiteLogger", NW_in (i := 319) (by decide +kernel) (by decide +kernel)⟩, TT_in (i := 172) (by decide +kernel) (by decide +kernel), TT_in (i := 25) (by decide +kernel) (by decide +kernel), TT_in (i := 173) (by decide +kernel) (by decide +kernel), ⟨by decide +kernel, by decide +kernel, by decide +kernel⟩⟩
theorem fwf_G_4 : FWF "KiteLogger" 9 4 (.object "KiteLogger$Kite") := ⟨"KiteLogger", T9, 9, ty9, rfl, tyk9, nm9, rfl, rfl, by decide +kernel⟩
theorem nw_G_44 : NWd "KiteLogger" 44 0 3 := ⟨"KiteLogger$History", T0, ty0, rfl, uw_0, tyk0, TT_in (i := 320) (by decide +kernel) (by decide +kernel), TT_in (i := 321) (by decide +kernel) (by decide +kernel), TT_in (i := 28) (by decide +kernel) (by decide +kernel), by decide, fun w k hk => by
  have hh : k = 0 ∨ k = 1 ∨ k = 2 := by omega
  rcases hh with rfl | rfl | rfl <;> rfl⟩
theorem ci_G_46 : (Cond.methodLink "KiteLogger" 46 y_H_init ∈ TT ∨ ∃ host, Cond.methodLinkNest "KiteLogger" 46 y_H_init host ∈ NW) ∧ CIW y_H_init b_H_init 2 0 := ⟨Or.inl (TT_in (i := 322) (by decide +kernel) (by decide +kernel)), TT_in (i := 323) (by decide +kernel) (by decide +kernel), TT_in (i := 28) (by decide +kernel) (by decide +kernel), TT_in (i := 324) (by decide +kernel) (by decide +kernel), ⟨by decide +kernel, by decide +kernel, by decide +kernel⟩⟩
theorem fwf_G_5 : FWF "KiteLogger" 9 5 (.object "KiteLogger$History") := ⟨"KiteLogger", T9, 9, ty9, rfl, tyk9, nm9, rfl, rfl, by decide +kernel⟩
theorem fwf_G_6 : FWF "KiteLogger" 9 6 (.object "KiteLogger$Station") := ⟨"KiteLogger", T9, 9, ty9, rfl, tyk9, nm9, rfl, rfl, by decide +kernel⟩
theorem nw_G_58 : NWd "KiteLogger" 58 2 2 := ⟨"KiteLogger$Output", T2, ty2, rfl, uw_2, tyk2, TT_in (i := 340) (by decide +kernel) (by decide +kernel), TT_in (i := 341) (by decide +kernel) (by decide +kernel), TT_in (i := 29) (by decide +kernel) (by decide +kernel), by decide, fun w k hk => by
  have hh : k = 0 ∨ k = 1 := by omega
  rcases hh with rfl | rfl <;> rfl⟩
theorem ci_G_60 : (Cond.methodLink "KiteLogger" 60 y_O_init ∈ TT ∨ ∃ host, Cond.methodLinkNest "KiteLogger" 60 y_O_init host ∈ NW) ∧ CIW y_O_init b_O_init 1 0 := ⟨Or.inr ⟨"KiteLogger", NW_in (i := 342) (by decide +kernel) (by decide +kernel)⟩, TT_in (i := 343) (by decide +kernel) (by decide +kernel), TT_in (i := 29) (by decide +kernel) (by decide +kernel), TT_in (i := 344) (by decide +kernel) (by decide +kernel), ⟨by decide +kernel, by decide +kernel, by decide +kernel⟩⟩
theorem fwf_G_8 : FWF "KiteLogger" 9 8 (.object "KiteLogger$Output") := ⟨"KiteLogger", T9, 9, ty9, rfl, tyk9, nm9, rfl, rfl, by decide +kernel⟩
set_option maxHeartbeats 4000000 in
set_option maxRecDepth 100000 in
theorem c_G_init (l : Launch) {w : Wc} (had : Ad w) : CtC l y_G_init b_G_init 1 (rmC 6 144 5234) w 1 145 zG_0 (Z0 146) [.ref (wad w 0)] mG_0 mS := by
  have hz : (zG_0 0).1 = 9 := by decide +kernel
  refine CtC.go (by decide) (L := [(0, .ref (wad w 0))]) rfl (Nat.le_of_ble_eq_true rfl) (fun p0 e s m args below meth c hnm hsz hao g hret => ?_)
  refine G_aload_n g (pc := 0) 0 d_G_init_0 rfl rfl ?_
  refine G_objI g (pc := 1) (q := 0) (TT_in (i := 50) (by decide +kernel) (by decide +kernel)) oI1 oI2 ⟨(Nat.le_of_ble_eq_true rfl), (Nat.le_of_ble_eq_true rfl)⟩ d_G_init_1 ?_
  refine G_aload_n g (pc := 4) 0 d_G_init_4 rfl rfl ?_
  refine G_new g (pc := 5) had (by decide) (by show s.heap.size + 0 = _; omega) nw_G_9 ⟨(Nat.le_of_ble_eq_true rfl), (Nat.le_of_ble_eq_true rfl)⟩ d_G_init_5 ?_
  have w1 := Gd.wg (z2 := zG_1) (j2 := 2) had (by decide) g
  have h1 : (zG_1 0).1 = 9 := by decide +kernel
  refine G_dup w1 (pc := 8) d_G_init_8 rfl ?_
  refine G_init w1 (pc := 9) (As := []) (q := 1) (j2 := 3) (z2 := zG_2) (M2 := mG_1) (st := [.ref (wad w 1), .ref (wad w 0)]) had hao (by decide) (by decide) (by show s.heap.size + 1 = _; omega) ci_G_11 rfl (c_X_init l had (j := 2) (p := 1) (by decide) (by decide) (by decide +kernel) _) rfl ⟨(Nat.le_of_ble_eq_true rfl), (Nat.le_of_ble_eq_true rfl)⟩ ⟨(Nat.le_of_ble_eq_true rfl), (Nat.le_of_ble_eq_true rfl)⟩ (Nat.le_of_ble_eq_true rfl) d_G_init_9 ?_
  have w2 := Gd.wg (z2 := zG_2) (j2 := 3) had (by decide) g
  have h2 : (zG_2 0).1 = 9 := by decide +kernel
  refine G_putFR w2 hnm (pc := 12) (q := 0) (q2 := 1) fa_G_12 fwf_G_0 rfl rfl (List.mem_range.mpr (by decide)) h2 d_G_init_12 ?_
  have w3 := Gd.wg (z2 := zG_3) (j2 := 3) had (by decide) g
  have h3 : (zG_3 0).1 = 9 := by decide +kernel
  refine G_aload_n w3 (pc := 15) 0 d_G_init_15 rfl rfl ?_
  refine G_new w3 (pc := 16) had (by decide) (by show s.heap.size + 2 = _; omega) nw_G_16 ⟨(Nat.le_of_ble_eq_true rfl), (Nat.le_of_ble_eq_true rfl)⟩ d_G_init_16 ?_
  have w4 := Gd.wg (z2 := zG_4) (j2 := 4) had (by decide) g
  have h4 : (zG_4 0).1 = 9 := by decide +kernel
  refine G_dup w4 (pc := 19) d_G_init_19 rfl ?_
  refine G_init w4 (pc := 20) (As := []) (q := 3) (j2 := 5) (z2 := zG_5) (M2 := mG_2) (st := [.ref (wad w 3), .ref (wad w 0)]) had hao (by decide) (by decide) (by show s.heap.size + 3 = _; omega) ci_G_18 rfl (c_P_init l had (by decide +kernel) _) rfl ⟨(Nat.le_of_ble_eq_true rfl), (Nat.le_of_ble_eq_true rfl)⟩ ⟨(Nat.le_of_ble_eq_true rfl), (Nat.le_of_ble_eq_true rfl)⟩ (Nat.le_of_ble_eq_true rfl) d_G_init_20 ?_
  have w5 := Gd.wg (z2 := zG_5) (j2 := 5) had (by decide) g
  have h5 : (zG_5 0).1 = 9 := by decide +kernel
  refine G_putFR w5 hnm (pc := 23) (q := 0) (q2 := 3) fa_G_19 fwf_G_1 rfl rfl (List.mem_range.mpr (by decide)) h5 d_G_init_23 ?_
  have w6 := Gd.wg (z2 := zG_6) (j2 := 5) had (by decide) g
  have h6 : (zG_6 0).1 = 9 := by decide +kernel
  refine G_aload_n w6 (pc := 26) 0 d_G_init_26 rfl rfl ?_
  refine G_new w6 (pc := 27) had (by decide) (by show s.heap.size + 4 = _; omega) nw_G_23 ⟨(Nat.le_of_ble_eq_true rfl), (Nat.le_of_ble_eq_true rfl)⟩ d_G_init_27 ?_
  have w7 := Gd.wg (z2 := zG_7) (j2 := 6) had (by decide) g
  have h7 : (zG_7 0).1 = 9 := by decide +kernel
  refine G_dup w7 (pc := 30) d_G_init_30 rfl ?_
  refine G_init w7 (pc := 31) (As := []) (q := 5) (j2 := 10) (z2 := zG_8) (M2 := mG_3) (st := [.ref (wad w 5), .ref (wad w 0)]) had hao (by decide) (by decide) (by show s.heap.size + 5 = _; omega) ci_G_25 rfl (c_C_init l had (j := 6) (p := 5) (by decide) (by decide) (by decide +kernel) _) rfl ⟨(Nat.le_of_ble_eq_true rfl), (Nat.le_of_ble_eq_true rfl)⟩ ⟨(Nat.le_of_ble_eq_true rfl), (Nat.le_of_ble_eq_true rfl)⟩ (Nat.le_of_ble_eq_true rfl) d_G_init_31 ?_
  have w8 := Gd.wg (z2 := zG_8) (j2 := 10) had (by decide) g
  have h8 : (zG_8 0).1 = 9 := by decide +kernel
  refine G_putFR w8 hnm (pc := 34) (q := 0) (q2 := 5) fa_G_26 fwf_G_2 rfl rfl (List.mem_range.mpr (by decide)) h8 d_G_init_34 ?_
  have w9 := Gd.wg (z2 := zG_9) (j2 := 10) had (by decide) g
  have h9 : (zG_9 0).1 = 9 := by decide +kernel
  refine G_aload_n w9 (pc := 37) 0 d_G_init_37 rfl rfl ?_
  refine G_new w9 (pc := 38) had (by decide) (by show s.heap.size + 9 = _; omega) nw_G_30 ⟨(Nat.le_of_ble_eq_true rfl), (Nat.le_of_ble_eq_true rfl)⟩ d_G_init_38 ?_
  have w10 := Gd.wg (z2 := zG_10) (j2 := 11) had (by decide) g
  have h10 : (zG_10 0).1 = 9 := by decide +kernel
  refine G_dup w10 (pc := 41) d_G_init_41 rfl ?_
  refine G_init w10 (pc := 42) (As := []) (q := 10) (j2 := 23) (z2 := zG_11) (M2 := mG_4) (st := [.ref (wad w 10), .ref (wad w 0)]) had hao (by decide) (by decide) (by show s.heap.size + 10 = _; omega) ci_G_32 rfl (c_T_init l had (j := 11) (p := 10) (by decide) (by decide) (by decide +kernel) _) rfl ⟨(Nat.le_of_ble_eq_true rfl), (Nat.le_of_ble_eq_true rfl)⟩ ⟨(Nat.le_of_ble_eq_true rfl), (Nat.le_of_ble_eq_true rfl)⟩ (Nat.le_of_ble_eq_true rfl) d_G_init_42 ?_
  have w11 := Gd.wg (z2 := zG_11) (j2 := 23) had (by decide) g
  have h11 : (zG_11 0).1 = 9 := by decide +kernel
  refine G_putFR w11 hnm (pc := 45) (q := 0) (q2 := 10) fa_G_33 fwf_G_3 rfl rfl (List.mem_range.mpr (by decide)) h11 d_G_init_45 ?_
  have w12 := Gd.wg (z2 := zG_12) (j2 := 23) had (by decide) g
  have h12 : (zG_12 0).1 = 9 := by decide +kernel
  refine G_aload_n w12 (pc := 48) 0 d_G_init_48 rfl rfl ?_
  refine G_new w12 (pc := 49) had (by decide) (by show s.heap.size + 22 = _; omega) nw_G_37 ⟨(Nat.le_of_ble_eq_true rfl), (Nat.le_of_ble_eq_true rfl)⟩ d_G_init_49 ?_
  have w13 := Gd.wg (z2 := zG_13) (j2 := 24) had (by decide) g
  have h13 : (zG_13 0).1 = 9 := by decide +kernel
  refine G_dup w13 (pc := 52) d_G_init_52 rfl ?_
  refine G_init w13 (pc := 53) (As := []) (q := 23) (j2 := 24) (z2 := zG_13) (M2 := mG_5) (st := [.ref (wad w 23), .ref (wad w 0)]) had hao (by decide) (by decide) (by show s.heap.size + 23 = _; omega) ci_G_39 rfl (c_K_init l (by decide) (by decide +kernel) _) rfl ⟨(Nat.le_of_ble_eq_true rfl), (Nat.le_of_ble_eq_true rfl)⟩ ⟨(Nat.le_of_ble_eq_true rfl), (Nat.le_of_ble_eq_true rfl)⟩ (Nat.le_of_ble_eq_true rfl) d_G_init_53 ?_
  refine G_putFR w13 hnm (pc := 56) (q := 0) (q2 := 23) fa_G_40 fwf_G_4 rfl rfl (List.mem_range.mpr (by decide)) h13 d_G_init_56 ?_
  have w14 := Gd.wg (z2 := zG_14) (j2 := 24) had (by decide) g
  have h14 : (zG_14 0).1 = 9 := by decide +kernel
  refine G_aload_n w14 (pc := 59) 0 d_G_init_59 rfl rfl ?_
  refine G_new w14 (pc := 60) had (by decide) (by show s.heap.size + 23 = _; omega) nw_G_44 ⟨(Nat.le_of_ble_eq_true rfl), (Nat.le_of_ble_eq_true rfl)⟩ d_G_init_60 ?_
  have w15 := Gd.wg (z2 := zG_15) (j2 := 25) had (by decide) g
  have h15 : (zG_15 0).1 = 9 := by decide +kernel
  refine G_dup w15 (pc := 63) d_G_init_63 rfl ?_
  refine G_init w15 (pc := 64) (As := []) (q := 24) (j2 := 130) (z2 := zG_16) (M2 := mG_6) (st := [.ref (wad w 24), .ref (wad w 0)]) had hao (by decide) (by decide) (by show s.heap.size + 24 = _; omega) ci_G_46 rfl (c_H_init l had (by decide +kernel) _) rfl ⟨(Nat.le_of_ble_eq_true rfl), (Nat.le_of_ble_eq_true rfl)⟩ ⟨(Nat.le_of_ble_eq_true rfl), (Nat.le_of_ble_eq_true rfl)⟩ (Nat.le_of_ble_eq_true rfl) d_G_init_64 ?_
  have w16 := Gd.wg (z2 := zG_16) (j2 := 130) had (by decide) g
  have h16 : (zG_16 0).1 = 9 := by decide +kernel
  refine G_putFR w16 hnm (pc := 67) (q := 0) (q2 := 24) fa_G_47 fwf_G_5 rfl rfl (List.mem_range.mpr (by decide)) h16 d_G_init_67 ?_
  have w17 := Gd.wg (z2 := zG_17) (j2 := 130) had (by decide) g
  have h17 : (zG_17 0).1 = 9 := by decide +kernel
  refine G_aload_n w17 (pc := 70) 0 d_G_init_70 rfl rfl ?_
  refine G_new w17 (pc := 71) had (by decide) (by show s.heap.size + 129 = _; omega) nw_G_30 ⟨(Nat.le_of_ble_eq_true rfl), (Nat.le_of_ble_eq_true rfl)⟩ d_G_init_71 ?_
  have w18 := Gd.wg (z2 := zG_18) (j2 := 131) had (by decide) g
  have h18 : (zG_18 0).1 = 9 := by decide +kernel
  refine G_dup w18 (pc := 74) d_G_init_74 rfl ?_
  refine G_init w18 (pc := 75) (As := []) (q := 130) (j2 := 143) (z2 := zG_19) (M2 := mG_7) (st := [.ref (wad w 130), .ref (wad w 0)]) had hao (by decide) (by decide) (by show s.heap.size + 130 = _; omega) ci_G_32 rfl (c_T_init l had (j := 131) (p := 130) (by decide) (by decide) (by decide +kernel) _) rfl ⟨(Nat.le_of_ble_eq_true rfl), (Nat.le_of_ble_eq_true rfl)⟩ ⟨(Nat.le_of_ble_eq_true rfl), (Nat.le_of_ble_eq_true rfl)⟩ (Nat.le_of_ble_eq_true rfl) d_G_init_75 ?_
  have w19 := Gd.wg (z2 := zG_19) (j2 := 143) had (by decide) g
  have h19 : (zG_19 0).1 = 9 := by decide +kernel
  refine G_putFR w19 hnm (pc := 78) (q := 0) (q2 := 130) fa_G_51 fwf_G_6 rfl rfl (List.mem_range.mpr (by decide)) h19 d_G_init_78 ?_
  have w20 := Gd.wg (z2 := zG_20) (j2 := 143) had (by decide) g
  have h20 : (zG_20 0).1 = 9 := by decide +kernel
  refine G_aload_n w20 (pc := 81) 0 d_G_init_81 rfl rfl ?_
  refine G_iconst w20 (pc := 82) (0 : Int32) d_G_init_82 rfl ?_
  refine G_put w20 (pc := 83) (q := 0) fa_G_54 fw_9_7 rfl rfl (List.mem_range.mpr (by decide)) h20 d_G_init_83 ?_
  refine G_aload_n w20 (pc := 86) 0 d_G_init_86 rfl rfl ?_
  refine G_new w20 (pc := 87) had (by decide) (by show s.heap.size + 142 = _; omega) nw_G_58 ⟨(Nat.le_of_ble_eq_true rfl), (Nat.le_of_ble_eq_true rfl)⟩ d_G_init_87 ?_
  have w21 := Gd.wg (z2 := zG_21) (j2 := 144) had (by decide) g
  have h21 : (zG_21 0).1 = 9 := by decide +kernel
  refine G_dup w21 (pc := 90) d_G_init_90 rfl ?_
  refine G_init w21 (pc := 91) (As := []) (q := 143) (j2 := 145) (z2 := zG_22) (M2 := mG_8) (st := [.ref (wad w 143), .ref (wad w 0)]) had hao (by decide) (by decide) (by show s.heap.size + 143 = _; omega) ci_G_60 rfl (c_O_init l had (j := 144) (p := 143) (by decide) (by decide) (by decide +kernel) _) rfl ⟨(Nat.le_of_ble_eq_true rfl), (Nat.le_of_ble_eq_true rfl)⟩ ⟨(Nat.le_of_ble_eq_true rfl), (Nat.le_of_ble_eq_true rfl)⟩ (Nat.le_of_ble_eq_true rfl) d_G_init_91 ?_
  have w22 := Gd.wg (z2 := zG_22) (j2 := 145) had (by decide) g
  have h22 : (zG_22 0).1 = 9 := by decide +kernel
  refine G_putFR w22 hnm (pc := 94) (q := 0) (q2 := 143) fa_G_61 fwf_G_8 rfl rfl (List.mem_range.mpr (by decide)) h22 d_G_init_94 ?_
  have w23 := Gd.wg (z2 := zG_23) (j2 := 145) had (by decide) g
  have h23 : (zG_23 0).1 = 9 := by decide +kernel
  refine G_aload_n w23 (pc := 97) 0 d_G_init_97 rfl rfl ?_
  refine G_getR w23 (pc := 98) (q := 0) (q2 := 10) fa_G_33 (List.mem_range.mpr (by decide)) h23 (by decide +kernel : (zG_23 0).2.2 3 = some 10) d_G_init_98 ?_
  refine G_aload_n w23 (pc := 101) 0 d_G_init_101 rfl rfl ?_
  refine G_getR w23 (pc := 102) (q := 0) (q2 := 3) fa_G_19 (List.mem_range.mpr (by decide)) h23 (by decide +kernel : (zG_23 0).2.2 1 = some 3) d_G_init_102 ?_
  have hw : WK (wg w 145 zG_23) 146 := ⟨fun p _ => congrFun zG_eq p, fun p hp => List.mem_range.mpr hp⟩
  refine Go.known (f := f_T_setUp 10 mGe) (M1 := mS) mS_eq (fun K hK => ?_)
  refine G_cVV w23 (pc := 105) (As := [.ref (wad w 3)]) (st := []) cc_G_65 (c_T_setUp l hw 10 (List.elem_iff.mp (rfl : List.elem 10 stL = true)) _) (hw.m 10 (Nat.le_of_ble_eq_true rfl)) (hw.k (Nat.le_of_ble_eq_true rfl) (zk10 146)) rfl (by decide) rfl ⟨(Nat.le_of_ble_eq_true rfl), (Nat.le_of_ble_eq_true rfl)⟩ ⟨(Nat.le_of_ble_eq_true rfl), (Nat.le_of_ble_eq_true rfl)⟩ (Nat.le_of_ble_eq_true rfl) d_G_init_105 (fun M9 => ?_)
  refine Go.of hK ?_
  have gz := Gd.wg (z2 := Z0 146) (j2 := 145) had (by decide) g
  rw [zG_eq]
  exact G_creturn gz (pc := 108) hret (Nat.le_of_ble_eq_true rfl) (Nat.le_of_ble_eq_true rfl) d_G_init_108
