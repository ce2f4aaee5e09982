/-! constructors -/
abbrev rmC (n c s : Nat) : Room := { frames := n, cells := c, slots := s, locals := 64 * n }
theorem oI1 : Cond.instanceMethod Lib.objectInit ∈ TT := TT_in (i := 51) (by decide +kernel) (by decide +kernel)
theorem oI2 : Cond.code Lib.objectInit object_method_1_code 1 none ∈ TT := TT_in (i := 52) (by decide +kernel) (by decide +kernel)
theorem zfr_1 {z : Shp} {j ci n p : Nat} (h : p ≠ j) : (zfr z j ci n p).1 = (z p).1 := by
  unfold zfr
  rw [if_neg h]
theorem zset_1 {z : Shp} {p k q p' : Nat} : (zset z p k q p').1 = (z p').1 := by
  unfold zset
  by_cases h : p' = p
  · rw [if_pos h, h]
  · rw [if_neg h]
theorem d_K_init_0 : decode b_K_init 0 = .ok (.aload_n 0, 1) := by decide +kernel
theorem d_K_init_1 : decode b_K_init 1 = .ok (.invokespecial 3, 3) := by decide +kernel
theorem d_K_init_4 : decode b_K_init 4 = .ok (.aload_n 0, 1) := by decide +kernel
theorem d_K_init_5 : decode b_K_init 5 = .ok (.iconst 0, 1) := by decide +kernel
theorem d_K_init_6 : decode b_K_init 6 = .ok (.putfield 9, 3) := by decide +kernel
theorem d_K_init_9 : decode b_K_init 9 = .ok (.aload_n 0, 1) := by decide +kernel
theorem d_K_init_10 : decode b_K_init 10 = .ok (.iconst 0, 1) := by decide +kernel
theorem d_K_init_11 : decode b_K_init 11 = .ok (.putfield 15, 3) := by decide +kernel
theorem d_K_init_14 : decode b_K_init 14 = .ok (.aload_n 0, 1) := by decide +kernel
theorem d_K_init_15 : decode b_K_init 15 = .ok (.iconst 0, 1) := by decide +kernel
theorem d_K_init_16 : decode b_K_init 16 = .ok (.putfield 18, 3) := by decide +kernel
theorem d_K_init_19 : decode b_K_init 19 = .ok (.aload_n 0, 1) := by decide +kernel
theorem d_K_init_20 : decode b_K_init 20 = .ok (.iconst 1, 1) := by decide +kernel
theorem d_K_init_21 : decode b_K_init 21 = .ok (.putfield 21, 3) := by decide +kernel
theorem d_K_init_24 : decode b_K_init 24 = .ok (.aload_n 0, 1) := by decide +kernel
theorem d_K_init_25 : decode b_K_init 25 = .ok (.iconst 1, 1) := by decide +kernel
theorem d_K_init_26 : decode b_K_init 26 = .ok (.putfield 24, 3) := by decide +kernel
theorem d_K_init_29 : decode b_K_init 29 = .ok (.aload_n 0, 1) := by decide +kernel
theorem d_K_init_30 : decode b_K_init 30 = .ok (.iconst 1, 1) := by decide +kernel
theorem d_K_init_31 : decode b_K_init 31 = .ok (.putfield 27, 3) := by decide +kernel
theorem d_K_init_34 : decode b_K_init 34 = .ok (.aload_n 0, 1) := by decide +kernel
theorem d_K_init_35 : decode b_K_init 35 = .ok (.iconst 0, 1) := by decide +kernel
theorem d_K_init_36 : decode b_K_init 36 = .ok (.putfield 30, 3) := by decide +kernel
theorem d_K_init_39 : decode b_K_init 39 = .ok (.aload_n 0, 1) := by decide +kernel
theorem d_K_init_40 : decode b_K_init 40 = .ok (.iconst 0, 1) := by decide +kernel
theorem d_K_init_41 : decode b_K_init 41 = .ok (.putfield 33, 3) := by decide +kernel
theorem d_K_init_44 : decode b_K_init 44 = .ok (.aload_n 0, 1) := by decide +kernel
theorem d_K_init_45 : decode b_K_init 45 = .ok (.iconst 0, 1) := by decide +kernel
theorem d_K_init_46 : decode b_K_init 46 = .ok (.putfield 36, 3) := by decide +kernel
theorem d_K_init_49 : decode b_K_init 49 = .ok (.aload_n 0, 1) := by decide +kernel
theorem d_K_init_50 : decode b_K_init 50 = .ok (.iconst 0, 1) := by decide +kernel
theorem d_K_init_51 : decode b_K_init 51 = .ok (.putfield 39, 3) := by decide +kernel
theorem d_K_init_54 : decode b_K_init 54 = .ok (.aload_n 0, 1) := by decide +kernel
theorem d_K_init_55 : decode b_K_init 55 = .ok (.iconst 0, 1) := by decide +kernel
theorem d_K_init_56 : decode b_K_init 56 = .ok (.putfield 42, 3) := by decide +kernel
theorem d_K_init_59 : decode b_K_init 59 = .ok (.aload_n 0, 1) := by decide +kernel
theorem d_K_init_60 : decode b_K_init 60 = .ok (.iconst 0, 1) := by decide +kernel
theorem d_K_init_61 : decode b_K_init 61 = .ok (.putfield 45, 3) := by decide +kernel
theorem d_K_init_64 : decode b_K_init 64 = .ok (.aload_n 0, 1) := by decide +kernel
theorem d_K_init_65 : decode b_K_init 65 = .ok (.iconst 0, 1) := by decide +kernel
theorem d_K_init_66 : decode b_K_init 66 = .ok (.putfield 48, 3) := by decide +kernel
theorem d_K_init_69 : decode b_K_init 69 = .ok (.return_, 1) := by decide +kernel
set_option maxHeartbeats 4000000 in
theorem c_K_init (l : Launch) {w : Wc} {j p : Nat} {z : Shp} (hp : p < j) (hz : (z p).1 = 1) (M : Mem) : CtC l y_K_init b_K_init 1 (rmC 1 0 0) w j j z z [.ref (wad w p)] M (put (put (put (put (put (put (put (put (put (put (put (put (put M p 0 0) p 1 0) p 2 0) p 3 1) p 4 1) p 5 1) p 6 0) p 7 0) p 8 0) p 9 0) p 10 0) p 11 0) p 12 0) := by
  refine CtC.go (by decide) (L := [(0, .ref (wad w p))]) rfl (Nat.le_of_ble_eq_true rfl) (fun p0 e s m args below meth c hnm hsz hao g hret => ?_)
  refine G_aload_n g (pc := 0) 0 d_K_init_0 rfl rfl ?_
  refine G_objI g (pc := 1) (q := p) (TT_in (i := 174) (by decide +kernel) (by decide +kernel)) oI1 oI2 ⟨(Nat.le_of_ble_eq_true rfl), (Nat.le_of_ble_eq_true rfl)⟩ d_K_init_1 ?_
  refine G_aload_n g (pc := 4) 0 d_K_init_4 rfl rfl ?_
  refine G_iconst g (pc := 5) (0 : Int32) d_K_init_5 rfl ?_
  refine G_put g (pc := 6) fa_K_9 fw_1_0 rfl rfl (List.mem_range.mpr hp) hz d_K_init_6 ?_
  refine G_aload_n g (pc := 9) 0 d_K_init_9 rfl rfl ?_
  refine G_iconst g (pc := 10) (0 : Int32) d_K_init_10 rfl ?_
  refine G_put g (pc := 11) fa_K_15 fw_1_1 rfl rfl (List.mem_range.mpr hp) hz d_K_init_11 ?_
  refine G_aload_n g (pc := 14) 0 d_K_init_14 rfl rfl ?_
  refine G_iconst g (pc := 15) (0 : Int32) d_K_init_15 rfl ?_
  refine G_put g (pc := 16) fa_K_18 fw_1_2 rfl rfl (List.mem_range.mpr hp) hz d_K_init_16 ?_
  refine G_aload_n g (pc := 19) 0 d_K_init_19 rfl rfl ?_
  refine G_iconst g (pc := 20) (1 : Int32) d_K_init_20 rfl ?_
  refine G_put g (pc := 21) fa_K_21 fw_1_3 rfl rfl (List.mem_range.mpr hp) hz d_K_init_21 ?_
  refine G_aload_n g (pc := 24) 0 d_K_init_24 rfl rfl ?_
  refine G_iconst g (pc := 25) (1 : Int32) d_K_init_25 rfl ?_
  refine G_put g (pc := 26) fa_K_24 fw_1_4 rfl rfl (List.mem_range.mpr hp) hz d_K_init_26 ?_
  refine G_aload_n g (pc := 29) 0 d_K_init_29 rfl rfl ?_
  refine G_iconst g (pc := 30) (1 : Int32) d_K_init_30 rfl ?_
  refine G_put g (pc := 31) fa_K_27 fw_1_5 rfl rfl (List.mem_range.mpr hp) hz d_K_init_31 ?_
  refine G_aload_n g (pc := 34) 0 d_K_init_34 rfl rfl ?_
  refine G_iconst g (pc := 35) (0 : Int32) d_K_init_35 rfl ?_
  refine G_put g (pc := 36) fa_K_30 fw_1_6 rfl rfl (List.mem_range.mpr hp) hz d_K_init_36 ?_
  refine G_aload_n g (pc := 39) 0 d_K_init_39 rfl rfl ?_
  refine G_iconst g (pc := 40) (0 : Int32) d_K_init_40 rfl ?_
  refine G_put g (pc := 41) fa_K_33 fw_1_7 rfl rfl (List.mem_range.mpr hp) hz d_K_init_41 ?_
  refine G_aload_n g (pc := 44) 0 d_K_init_44 rfl rfl ?_
  refine G_iconst g (pc := 45) (0 : Int32) d_K_init_45 rfl ?_
  refine G_put g (pc := 46) fa_K_36 fw_1_8 rfl rfl (List.mem_range.mpr hp) hz d_K_init_46 ?_
  refine G_aload_n g (pc := 49) 0 d_K_init_49 rfl rfl ?_
  refine G_iconst g (pc := 50) (0 : Int32) d_K_init_50 rfl ?_
  refine G_put g (pc := 51) fa_K_39 fw_1_9 rfl rfl (List.mem_range.mpr hp) hz d_K_init_51 ?_
  refine G_aload_n g (pc := 54) 0 d_K_init_54 rfl rfl ?_
  refine G_iconst g (pc := 55) (0 : Int32) d_K_init_55 rfl ?_
  refine G_put g (pc := 56) fa_K_42 fw_1_10 rfl rfl (List.mem_range.mpr hp) hz d_K_init_56 ?_
  refine G_aload_n g (pc := 59) 0 d_K_init_59 rfl rfl ?_
  refine G_iconst g (pc := 60) (0 : Int32) d_K_init_60 rfl ?_
  refine G_put g (pc := 61) fa_K_45 fw_1_11 rfl rfl (List.mem_range.mpr hp) hz d_K_init_61 ?_
  refine G_aload_n g (pc := 64) 0 d_K_init_64 rfl rfl ?_
  refine G_iconst g (pc := 65) (0 : Int32) d_K_init_65 rfl ?_
  refine G_put g (pc := 66) fa_K_48 fw_1_12 rfl rfl (List.mem_range.mpr hp) hz d_K_init_66 ?_
  exact G_creturn g (pc := 69) hret (Nat.le_of_ble_eq_true rfl) (Nat.le_of_ble_eq_true rfl) d_K_init_69
theorem d_B_init_0 : decode b_B_init 0 = .ok (.aload_n 0, 1) := by decide +kernel
theorem d_B_init_1 : decode b_B_init 1 = .ok (.invokespecial 3, 3) := by decide +kernel
theorem d_B_init_4 : decode b_B_init 4 = .ok (.aload_n 0, 1) := by decide +kernel
theorem d_B_init_5 : decode b_B_init 5 = .ok (.bipush 8, 2) := by decide +kernel
theorem d_B_init_7 : decode b_B_init 7 = .ok (.newarray .int, 2) := by decide +kernel
theorem d_B_init_9 : decode b_B_init 9 = .ok (.putfield 9, 3) := by decide +kernel
theorem d_B_init_12 : decode b_B_init 12 = .ok (.aload_n 0, 1) := by decide +kernel
theorem d_B_init_13 : decode b_B_init 13 = .ok (.iconst 0, 1) := by decide +kernel
theorem d_B_init_14 : decode b_B_init 14 = .ok (.putfield 15, 3) := by decide +kernel
theorem d_B_init_17 : decode b_B_init 17 = .ok (.aload_n 0, 1) := by decide +kernel
theorem d_B_init_18 : decode b_B_init 18 = .ok (.iconst 0, 1) := by decide +kernel
theorem d_B_init_19 : decode b_B_init 19 = .ok (.putfield 19, 3) := by decide +kernel
theorem d_B_init_22 : decode b_B_init 22 = .ok (.return_, 1) := by decide +kernel
theorem fwf_B_0 : FWF "KiteLogger$WindBuffer" 8 0 (.array .int) := ⟨"KiteLogger$WindBuffer", T8, 3, ty8, rfl, tyk8, nm8, rfl, rfl, by decide +kernel⟩
set_option maxHeartbeats 4000000 in
set_option maxRecDepth 100000 in
theorem c_B_init (l : Launch) {w : Wc} (had : Ad w) {j p : Nat} {z : Shp} (hj : j + 1 ≤ 900) (hp : p < j) (hz : (z p).1 = 8) (M : Mem) : CtC l y_B_init b_B_init 1 (rmC 2 1 8) w j (j + 1) z (zset (zfr z j 20 8) p 0 j) [.ref (wad w p)] M (put (put (setR M j (fun _ => 0)) p 1 (0)) p 2 (0)) := by
  refine CtC.go (by decide) (L := [(0, .ref (wad w p))]) rfl (Nat.le_of_ble_eq_true rfl) (fun p0 e s m args below meth c hnm hsz hao g hret => ?_)
  refine G_aload_n g (pc := 0) 0 d_B_init_0 rfl rfl ?_
  refine G_objI g (pc := 1) (q := p) (TT_in (i := 236) (by decide +kernel) (by decide +kernel)) oI1 oI2 ⟨(Nat.le_of_ble_eq_true rfl), (Nat.le_of_ble_eq_true rfl)⟩ d_B_init_1 ?_
  refine G_aload_n g (pc := 4) 0 d_B_init_4 rfl rfl ?_
  refine G_bipush g (pc := 5) (nI 8) d_B_init_5 rfl ?_
  refine G_newI g (pc := 7) (N := 8) had (by omega) (by omega) (TT_in (i := 137) (by decide +kernel) (by decide +kernel)) (Nat.le_of_ble_eq_true rfl) ⟨(Nat.le_of_ble_eq_true rfl), (Nat.le_of_ble_eq_true rfl)⟩ d_B_init_7 ?_
  have g1a := Gd.wg (z2 := (zfr z j 20 8)) (j2 := (j + 1)) had (by omega) g
  have hz1a : ((zfr z j 20 8) p).1 = 8 := by rw [zfr_1 (by omega)]; exact hz
  refine G_putFR g1a hnm (pc := 9) (q := p) (q2 := j) fa_B_9 fwf_B_0 rfl rfl (List.mem_range.mpr (by omega)) hz1a d_B_init_9 ?_
  have g1 := Gd.wg (z2 := (zset (zfr z j 20 8) p 0 j)) (j2 := (j + 1)) had (by omega) g
  have hz1 : ((zset (zfr z j 20 8) p 0 j) p).1 = 8 := by rw [zset_1]; exact hz1a
  refine G_aload_n g1 (pc := 12) 0 d_B_init_12 rfl rfl ?_
  refine G_iconst g1 (pc := 13) ((0 : Int32)) d_B_init_13 rfl ?_
  refine G_put g1 (pc := 14) (q := p) fa_B_15 fw_8_1 rfl rfl (List.mem_range.mpr (by omega)) hz1 d_B_init_14 ?_
  refine G_aload_n g1 (pc := 17) 0 d_B_init_17 rfl rfl ?_
  refine G_iconst g1 (pc := 18) ((0 : Int32)) d_B_init_18 rfl ?_
  refine G_put g1 (pc := 19) (q := p) fa_B_19 fw_8_2 rfl rfl (List.mem_range.mpr (by omega)) hz1 d_B_init_19 ?_
  exact G_creturn g1 (pc := 22) hret (Nat.le_of_ble_eq_true rfl) (Nat.le_of_ble_eq_true rfl) d_B_init_22
theorem d_X_init_0 : decode b_X_init 0 = .ok (.aload_n 0, 1) := by decide +kernel
theorem d_X_init_1 : decode b_X_init 1 = .ok (.invokespecial 3, 3) := by decide +kernel
theorem d_X_init_4 : decode b_X_init 4 = .ok (.aload_n 0, 1) := by decide +kernel
theorem d_X_init_5 : decode b_X_init 5 = .ok (.sipush 500, 3) := by decide +kernel
theorem d_X_init_8 : decode b_X_init 8 = .ok (.newarray .byte, 2) := by decide +kernel
theorem d_X_init_10 : decode b_X_init 10 = .ok (.putfield 9, 3) := by decide +kernel
theorem d_X_init_13 : decode b_X_init 13 = .ok (.aload_n 0, 1) := by decide +kernel
theorem d_X_init_14 : decode b_X_init 14 = .ok (.iconst 0, 1) := by decide +kernel
theorem d_X_init_15 : decode b_X_init 15 = .ok (.putfield 15, 3) := by decide +kernel
theorem d_X_init_18 : decode b_X_init 18 = .ok (.aload_n 0, 1) := by decide +kernel
theorem d_X_init_19 : decode b_X_init 19 = .ok (.iconst 0, 1) := by decide +kernel
theorem d_X_init_20 : decode b_X_init 20 = .ok (.putfield 19, 3) := by decide +kernel
theorem d_X_init_23 : decode b_X_init 23 = .ok (.aload_n 0, 1) := by decide +kernel
theorem d_X_init_24 : decode b_X_init 24 = .ok (.iconst 0, 1) := by decide +kernel
theorem d_X_init_25 : decode b_X_init 25 = .ok (.putfield 22, 3) := by decide +kernel
theorem d_X_init_28 : decode b_X_init 28 = .ok (.aload_n 0, 1) := by decide +kernel
theorem d_X_init_29 : decode b_X_init 29 = .ok (.iconst 0, 1) := by decide +kernel
theorem d_X_init_30 : decode b_X_init 30 = .ok (.putfield 25, 3) := by decide +kernel
theorem d_X_init_33 : decode b_X_init 33 = .ok (.aload_n 0, 1) := by decide +kernel
theorem d_X_init_34 : decode b_X_init 34 = .ok (.iconst 0, 1) := by decide +kernel
theorem d_X_init_35 : decode b_X_init 35 = .ok (.putfield 28, 3) := by decide +kernel
theorem d_X_init_38 : decode b_X_init 38 = .ok (.aload_n 0, 1) := by decide +kernel
theorem d_X_init_39 : decode b_X_init 39 = .ok (.iconst 0, 1) := by decide +kernel
theorem d_X_init_40 : decode b_X_init 40 = .ok (.putfield 31, 3) := by decide +kernel
theorem d_X_init_43 : decode b_X_init 43 = .ok (.aload_n 0, 1) := by decide +kernel
theorem d_X_init_44 : decode b_X_init 44 = .ok (.iconst 0, 1) := by decide +kernel
theorem d_X_init_45 : decode b_X_init 45 = .ok (.putfield 34, 3) := by decide +kernel
theorem d_X_init_48 : decode b_X_init 48 = .ok (.aload_n 0, 1) := by decide +kernel
theorem d_X_init_49 : decode b_X_init 49 = .ok (.iconst 0, 1) := by decide +kernel
theorem d_X_init_50 : decode b_X_init 50 = .ok (.putfield 37, 3) := by decide +kernel
theorem d_X_init_53 : decode b_X_init 53 = .ok (.aload_n 0, 1) := by decide +kernel
theorem d_X_init_54 : decode b_X_init 54 = .ok (.iconst (-1), 1) := by decide +kernel
theorem d_X_init_55 : decode b_X_init 55 = .ok (.putfield 40, 3) := by decide +kernel
theorem d_X_init_58 : decode b_X_init 58 = .ok (.return_, 1) := by decide +kernel
theorem fwf_X_0 : FWF "KiteLogger$TextReader" 7 0 (.array .byte) := ⟨"KiteLogger$TextReader", T7, 10, ty7, rfl, tyk7, nm7, rfl, rfl, by decide +kernel⟩
set_option maxHeartbeats 4000000 in
set_option maxRecDepth 100000 in
theorem c_X_init (l : Launch) {w : Wc} (had : Ad w) {j p : Nat} {z : Shp} (hj : j + 1 ≤ 900) (hp : p < j) (hz : (z p).1 = 7) (M : Mem) : CtC l y_X_init b_X_init 1 (rmC 2 1 500) w j (j + 1) z (zset (zfr z j 21 500) p 0 j) [.ref (wad w p)] M (put (put (put (put (put (put (put (put (put (setR M j (fun _ => 0)) p 1 (0)) p 2 (0)) p 3 (0)) p 4 (0)) p 5 (0)) p 6 (0)) p 7 (0)) p 8 (0)) p 9 (-1)) := by
  refine CtC.go (by decide) (L := [(0, .ref (wad w p))]) rfl (Nat.le_of_ble_eq_true rfl) (fun p0 e s m args below meth c hnm hsz hao g hret => ?_)
  refine G_aload_n g (pc := 0) 0 d_X_init_0 rfl rfl ?_
  refine G_objI g (pc := 1) (q := p) (TT_in (i := 58) (by decide +kernel) (by decide +kernel)) oI1 oI2 ⟨(Nat.le_of_ble_eq_true rfl), (Nat.le_of_ble_eq_true rfl)⟩ d_X_init_1 ?_
  refine G_aload_n g (pc := 4) 0 d_X_init_4 rfl rfl ?_
  refine G_sipush g (pc := 5) (nI 500) d_X_init_5 rfl ?_
  refine G_newB g (pc := 8) (N := 500) had (by omega) (by omega) (TT_in (i := 94) (by decide +kernel) (by decide +kernel)) (Nat.le_of_ble_eq_true rfl) ⟨(Nat.le_of_ble_eq_true rfl), (Nat.le_of_ble_eq_true rfl)⟩ d_X_init_8 ?_
  have g1a := Gd.wg (z2 := (zfr z j 21 500)) (j2 := (j + 1)) had (by omega) g
  have hz1a : ((zfr z j 21 500) p).1 = 7 := by rw [zfr_1 (by omega)]; exact hz
  refine G_putFR g1a hnm (pc := 10) (q := p) (q2 := j) fa_X_9 fwf_X_0 rfl rfl (List.mem_range.mpr (by omega)) hz1a d_X_init_10 ?_
  have g1 := Gd.wg (z2 := (zset (zfr z j 21 500) p 0 j)) (j2 := (j + 1)) had (by omega) g
  have hz1 : ((zset (zfr z j 21 500) p 0 j) p).1 = 7 := by rw [zset_1]; exact hz1a
  refine G_aload_n g1 (pc := 13) 0 d_X_init_13 rfl rfl ?_
  refine G_iconst g1 (pc := 14) ((0 : Int32)) d_X_init_14 rfl ?_
  refine G_put g1 (pc := 15) (q := p) fa_X_15 fw_7_1 rfl rfl (List.mem_range.mpr (by omega)) hz1 d_X_init_15 ?_
  refine G_aload_n g1 (pc := 18) 0 d_X_init_18 rfl rfl ?_
  refine G_iconst g1 (pc := 19) ((0 : Int32)) d_X_init_19 rfl ?_
  refine G_put g1 (pc := 20) (q := p) fa_X_19 fw_7_2 rfl rfl (List.mem_range.mpr (by omega)) hz1 d_X_init_20 ?_
  refine G_aload_n g1 (pc := 23) 0 d_X_init_23 rfl rfl ?_
  refine G_iconst g1 (pc := 24) ((0 : Int32)) d_X_init_24 rfl ?_
  refine G_put g1 (pc := 25) (q := p) fa_X_22 fw_7_3 rfl rfl (List.mem_range.mpr (by omega)) hz1 d_X_init_25 ?_
  refine G_aload_n g1 (pc := 28) 0 d_X_init_28 rfl rfl ?_
  refine G_iconst g1 (pc := 29) ((0 : Int32)) d_X_init_29 rfl ?_
  refine G_put g1 (pc := 30) (q := p) fa_X_25 fw_7_4 rfl rfl (List.mem_range.mpr (by omega)) hz1 d_X_init_30 ?_
  refine G_aload_n g1 (pc := 33) 0 d_X_init_33 rfl rfl ?_
  refine G_iconst g1 (pc := 34) ((0 : Int32)) d_X_init_34 rfl ?_
  refine G_put g1 (pc := 35) (q := p) fa_X_28 fw_7_5 rfl rfl (List.mem_range.mpr (by omega)) hz1 d_X_init_35 ?_
  refine G_aload_n g1 (pc := 38) 0 d_X_init_38 rfl rfl ?_
  refine G_iconst g1 (pc := 39) ((0 : Int32)) d_X_init_39 rfl ?_
  refine G_put g1 (pc := 40) (q := p) fa_X_31 fw_7_6 rfl rfl (List.mem_range.mpr (by omega)) hz1 d_X_init_40 ?_
  refine G_aload_n g1 (pc := 43) 0 d_X_init_43 rfl rfl ?_
  refine G_iconst g1 (pc := 44) ((0 : Int32)) d_X_init_44 rfl ?_
  refine G_put g1 (pc := 45) (q := p) fa_X_34 fw_7_7 rfl rfl (List.mem_range.mpr (by omega)) hz1 d_X_init_45 ?_
  refine G_aload_n g1 (pc := 48) 0 d_X_init_48 rfl rfl ?_
  refine G_iconst g1 (pc := 49) ((0 : Int32)) d_X_init_49 rfl ?_
  refine G_put g1 (pc := 50) (q := p) fa_X_37 fw_7_8 rfl rfl (List.mem_range.mpr (by omega)) hz1 d_X_init_50 ?_
  refine G_aload_n g1 (pc := 53) 0 d_X_init_53 rfl rfl ?_
  refine G_iconst g1 (pc := 54) ((-1 : Int32)) d_X_init_54 rfl ?_
  refine G_put g1 (pc := 55) (q := p) fa_X_40 fw_7_9 rfl rfl (List.mem_range.mpr (by omega)) hz1 d_X_init_55 ?_
  exact G_creturn g1 (pc := 58) hret (Nat.le_of_ble_eq_true rfl) (Nat.le_of_ble_eq_true rfl) d_X_init_58
theorem d_O_init_0 : decode b_O_init 0 = .ok (.aload_n 0, 1) := by decide +kernel
theorem d_O_init_1 : decode b_O_init 1 = .ok (.invokespecial 3, 3) := by decide +kernel
theorem d_O_init_4 : decode b_O_init 4 = .ok (.aload_n 0, 1) := by decide +kernel
theorem d_O_init_5 : decode b_O_init 5 = .ok (.sipush 360, 3) := by decide +kernel
theorem d_O_init_8 : decode b_O_init 8 = .ok (.newarray .byte, 2) := by decide +kernel
theorem d_O_init_10 : decode b_O_init 10 = .ok (.putfield 9, 3) := by decide +kernel
theorem d_O_init_13 : decode b_O_init 13 = .ok (.aload_n 0, 1) := by decide +kernel
theorem d_O_init_14 : decode b_O_init 14 = .ok (.iconst 0, 1) := by decide +kernel
theorem d_O_init_15 : decode b_O_init 15 = .ok (.putfield 15, 3) := by decide +kernel
theorem d_O_init_18 : decode b_O_init 18 = .ok (.return_, 1) := by decide +kernel
theorem fwf_O_0 : FWF "KiteLogger$Output" 2 0 (.array .byte) := ⟨"KiteLogger$Output", T2, 2, ty2, rfl, tyk2, nm2, rfl, rfl, by decide +kernel⟩
set_option maxHeartbeats 4000000 in
set_option maxRecDepth 100000 in
theorem c_O_init (l : Launch) {w : Wc} (had : Ad w) {j p : Nat} {z : Shp} (hj : j + 1 ≤ 900) (hp : p < j) (hz : (z p).1 = 2) (M : Mem) : CtC l y_O_init b_O_init 1 (rmC 2 1 360) w j (j + 1) z (zset (zfr z j 21 360) p 0 j) [.ref (wad w p)] M (put (setR M j (fun _ => 0)) p 1 (0)) := by
  refine CtC.go (by decide) (L := [(0, .ref (wad w p))]) rfl (Nat.le_of_ble_eq_true rfl) (fun p0 e s m args below meth c hnm hsz hao g hret => ?_)
  refine G_aload_n g (pc := 0) 0 d_O_init_0 rfl rfl ?_
  refine G_objI g (pc := 1) (q := p) (TT_in (i := 345) (by decide +kernel) (by decide +kernel)) oI1 oI2 ⟨(Nat.le_of_ble_eq_true rfl), (Nat.le_of_ble_eq_true rfl)⟩ d_O_init_1 ?_
  refine G_aload_n g (pc := 4) 0 d_O_init_4 rfl rfl ?_
  refine G_sipush g (pc := 5) (nI 360) d_O_init_5 rfl ?_
  refine G_newB g (pc := 8) (N := 360) had (by omega) (by omega) (TT_in (i := 94) (by decide +kernel) (by decide +kernel)) (Nat.le_of_ble_eq_true rfl) ⟨(Nat.le_of_ble_eq_true rfl), (Nat.le_of_ble_eq_true rfl)⟩ d_O_init_8 ?_
  have g1a := Gd.wg (z2 := (zfr z j 21 360)) (j2 := (j + 1)) had (by omega) g
  have hz1a : ((zfr z j 21 360) p).1 = 2 := by rw [zfr_1 (by omega)]; exact hz
  refine G_putFR g1a hnm (pc := 10) (q := p) (q2 := j) fa_O_9 fwf_O_0 rfl rfl (List.mem_range.mpr (by omega)) hz1a d_O_init_10 ?_
  have g1 := Gd.wg (z2 := (zset (zfr z j 21 360) p 0 j)) (j2 := (j + 1)) had (by omega) g
  have hz1 : ((zset (zfr z j 21 360) p 0 j) p).1 = 2 := by rw [zset_1]; exact hz1a
  refine G_aload_n g1 (pc := 13) 0 d_O_init_13 rfl rfl ?_
  refine G_iconst g1 (pc := 14) ((0 : Int32)) d_O_init_14 rfl ?_
  refine G_put g1 (pc := 15) (q := p) fa_O_15 fw_2_1 rfl rfl (List.mem_range.mpr (by omega)) hz1 d_O_init_15 ?_
  exact G_creturn g1 (pc := 18) hret (Nat.le_of_ble_eq_true rfl) (Nat.le_of_ble_eq_true rfl) d_O_init_18
theorem d_C_init_0 : decode b_C_init 0 = .ok (.aload_n 0, 1) := by decide +kernel
theorem d_C_init_1 : decode b_C_init 1 = .ok (.invokespecial 3, 3) := by decide +kernel
theorem d_C_init_4 : decode b_C_init 4 = .ok (.aload_n 0, 1) := by decide +kernel
theorem d_C_init_5 : decode b_C_init 5 = .ok (.bipush 20, 2) := by decide +kernel
theorem d_C_init_7 : decode b_C_init 7 = .ok (.newarray .int, 2) := by decide +kernel
theorem d_C_init_9 : decode b_C_init 9 = .ok (.putfield 9, 3) := by decide +kernel
theorem d_C_init_12 : decode b_C_init 12 = .ok (.aload_n 0, 1) := by decide +kernel
theorem d_C_init_13 : decode b_C_init 13 = .ok (.bipush 20, 2) := by decide +kernel
theorem d_C_init_15 : decode b_C_init 15 = .ok (.newarray .int, 2) := by decide +kernel
theorem d_C_init_17 : decode b_C_init 17 = .ok (.putfield 15, 3) := by decide +kernel
theorem d_C_init_20 : decode b_C_init 20 = .ok (.aload_n 0, 1) := by decide +kernel
theorem d_C_init_21 : decode b_C_init 21 = .ok (.bipush 20, 2) := by decide +kernel
theorem d_C_init_23 : decode b_C_init 23 = .ok (.newarray .int, 2) := by decide +kernel
theorem d_C_init_25 : decode b_C_init 25 = .ok (.putfield 18, 3) := by decide +kernel
theorem d_C_init_28 : decode b_C_init 28 = .ok (.aload_n 0, 1) := by decide +kernel
theorem d_C_init_29 : decode b_C_init 29 = .ok (.bipush 20, 2) := by decide +kernel
theorem d_C_init_31 : decode b_C_init 31 = .ok (.newarray .int, 2) := by decide +kernel
theorem d_C_init_33 : decode b_C_init 33 = .ok (.putfield 21, 3) := by decide +kernel
theorem d_C_init_36 : decode b_C_init 36 = .ok (.aload_n 0, 1) := by decide +kernel
theorem d_C_init_37 : decode b_C_init 37 = .ok (.iconst 0, 1) := by decide +kernel
theorem d_C_init_38 : decode b_C_init 38 = .ok (.putfield 24, 3) := by decide +kernel
theorem d_C_init_41 : decode b_C_init 41 = .ok (.aload_n 0, 1) := by decide +kernel
theorem d_C_init_42 : decode b_C_init 42 = .ok (.iconst 0, 1) := by decide +kernel
theorem d_C_init_43 : decode b_C_init 43 = .ok (.putfield 28, 3) := by decide +kernel
theorem d_C_init_46 : decode b_C_init 46 = .ok (.return_, 1) := by decide +kernel
theorem fwf_C_0 : FWF "KiteLogger$Script" 4 0 (.array .int) := ⟨"KiteLogger$Script", T4, 6, ty4, rfl, tyk4, nm4, rfl, rfl, by decide +kernel⟩
theorem fwf_C_1 : FWF "KiteLogger$Script" 4 1 (.array .int) := ⟨"KiteLogger$Script", T4, 6, ty4, rfl, tyk4, nm4, rfl, rfl, by decide +kernel⟩
theorem fwf_C_2 : FWF "KiteLogger$Script" 4 2 (.array .int) := ⟨"KiteLogger$Script", T4, 6, ty4, rfl, tyk4, nm4, rfl, rfl, by decide +kernel⟩
theorem fwf_C_3 : FWF "KiteLogger$Script" 4 3 (.array .int) := ⟨"KiteLogger$Script", T4, 6, ty4, rfl, tyk4, nm4, rfl, rfl, by decide +kernel⟩
set_option maxHeartbeats 4000000 in
set_option maxRecDepth 100000 in
theorem c_C_init (l : Launch) {w : Wc} (had : Ad w) {j p : Nat} {z : Shp} (hj : j + 4 ≤ 900) (hp : p < j) (hz : (z p).1 = 4) (M : Mem) : CtC l y_C_init b_C_init 1 (rmC 2 4 80) w j (j + 4) z (zset (zfr (zset (zfr (zset (zfr (zset (zfr z j 20 20) p 0 j) (j + 1) 20 20) p 1 (j + 1)) (j + 2) 20 20) p 2 (j + 2)) (j + 3) 20 20) p 3 (j + 3)) [.ref (wad w p)] M (put (put (setR (setR (setR (setR M j (fun _ => 0)) (j + 1) (fun _ => 0)) (j + 2) (fun _ => 0)) (j + 3) (fun _ => 0)) p 4 (0)) p 5 (0)) := by
  refine CtC.go (by decide) (L := [(0, .ref (wad w p))]) rfl (Nat.le_of_ble_eq_true rfl) (fun p0 e s m args below meth c hnm hsz hao g hret => ?_)
  refine G_aload_n g (pc := 0) 0 d_C_init_0 rfl rfl ?_
  refine G_objI g (pc := 1) (q := p) (TT_in (i := 143) (by decide +kernel) (by decide +kernel)) oI1 oI2 ⟨(Nat.le_of_ble_eq_true rfl), (Nat.le_of_ble_eq_true rfl)⟩ d_C_init_1 ?_
  refine G_aload_n g (pc := 4) 0 d_C_init_4 rfl rfl ?_
  refine G_bipush g (pc := 5) (nI 20) d_C_init_5 rfl ?_
  refine G_newI g (pc := 7) (N := 20) had (by omega) (by omega) (TT_in (i := 137) (by decide +kernel) (by decide +kernel)) (Nat.le_of_ble_eq_true rfl) ⟨(Nat.le_of_ble_eq_true rfl), (Nat.le_of_ble_eq_true rfl)⟩ d_C_init_7 ?_
  have g1a := Gd.wg (z2 := (zfr z j 20 20)) (j2 := (j + 1)) had (by omega) g
  have hz1a : ((zfr z j 20 20) p).1 = 4 := by rw [zfr_1 (by omega)]; exact hz
  refine G_putFR g1a hnm (pc := 9) (q := p) (q2 := j) fa_C_9 fwf_C_0 rfl rfl (List.mem_range.mpr (by omega)) hz1a d_C_init_9 ?_
  have g1 := Gd.wg (z2 := (zset (zfr z j 20 20) p 0 j)) (j2 := (j + 1)) had (by omega) g
  have hz1 : ((zset (zfr z j 20 20) p 0 j) p).1 = 4 := by rw [zset_1]; exact hz1a
  refine G_aload_n g1 (pc := 12) 0 d_C_init_12 rfl rfl ?_
  refine G_bipush g1 (pc := 13) (nI 20) d_C_init_13 rfl ?_
  refine G_newI g1 (pc := 15) (N := 20) had (by omega) (by omega) (TT_in (i := 137) (by decide +kernel) (by decide +kernel)) (Nat.le_of_ble_eq_true rfl) ⟨(Nat.le_of_ble_eq_true rfl), (Nat.le_of_ble_eq_true rfl)⟩ d_C_init_15 ?_
  have g2a := Gd.wg (z2 := (zfr (zset (zfr z j 20 20) p 0 j) (j + 1) 20 20)) (j2 := (j + 2)) had (by omega) g
  have hz2a : ((zfr (zset (zfr z j 20 20) p 0 j) (j + 1) 20 20) p).1 = 4 := by rw [zfr_1 (by omega)]; exact hz1
  refine G_putFR g2a hnm (pc := 17) (q := p) (q2 := (j + 1)) fa_C_15 fwf_C_1 rfl rfl (List.mem_range.mpr (by omega)) hz2a d_C_init_17 ?_
  have g2 := Gd.wg (z2 := (zset (zfr (zset (zfr z j 20 20) p 0 j) (j + 1) 20 20) p 1 (j + 1))) (j2 := (j + 2)) had (by omega) g
  have hz2 : ((zset (zfr (zset (zfr z j 20 20) p 0 j) (j + 1) 20 20) p 1 (j + 1)) p).1 = 4 := by rw [zset_1]; exact hz2a
  refine G_aload_n g2 (pc := 20) 0 d_C_init_20 rfl rfl ?_
  refine G_bipush g2 (pc := 21) (nI 20) d_C_init_21 rfl ?_
  refine G_newI g2 (pc := 23) (N := 20) had (by omega) (by omega) (TT_in (i := 137) (by decide +kernel) (by decide +kernel)) (Nat.le_of_ble_eq_true rfl) ⟨(Nat.le_of_ble_eq_true rfl), (Nat.le_of_ble_eq_true rfl)⟩ d_C_init_23 ?_
  have g3a := Gd.wg (z2 := (zfr (zset (zfr (zset (zfr z j 20 20) p 0 j) (j + 1) 20 20) p 1 (j + 1)) (j + 2) 20 20)) (j2 := (j + 3)) had (by omega) g
  have hz3a : ((zfr (zset (zfr (zset (zfr z j 20 20) p 0 j) (j + 1) 20 20) p 1 (j + 1)) (j + 2) 20 20) p).1 = 4 := by rw [zfr_1 (by omega)]; exact hz2
  refine G_putFR g3a hnm (pc := 25) (q := p) (q2 := (j + 2)) fa_C_18 fwf_C_2 rfl rfl (List.mem_range.mpr (by omega)) hz3a d_C_init_25 ?_
  have g3 := Gd.wg (z2 := (zset (zfr (zset (zfr (zset (zfr z j 20 20) p 0 j) (j + 1) 20 20) p 1 (j + 1)) (j + 2) 20 20) p 2 (j + 2))) (j2 := (j + 3)) had (by omega) g
  have hz3 : ((zset (zfr (zset (zfr (zset (zfr z j 20 20) p 0 j) (j + 1) 20 20) p 1 (j + 1)) (j + 2) 20 20) p 2 (j + 2)) p).1 = 4 := by rw [zset_1]; exact hz3a
  refine G_aload_n g3 (pc := 28) 0 d_C_init_28 rfl rfl ?_
  refine G_bipush g3 (pc := 29) (nI 20) d_C_init_29 rfl ?_
  refine G_newI g3 (pc := 31) (N := 20) had (by omega) (by omega) (TT_in (i := 137) (by decide +kernel) (by decide +kernel)) (Nat.le_of_ble_eq_true rfl) ⟨(Nat.le_of_ble_eq_true rfl), (Nat.le_of_ble_eq_true rfl)⟩ d_C_init_31 ?_
  have g4a := Gd.wg (z2 := (zfr (zset (zfr (zset (zfr (zset (zfr z j 20 20) p 0 j) (j + 1) 20 20) p 1 (j + 1)) (j + 2) 20 20) p 2 (j + 2)) (j + 3) 20 20)) (j2 := (j + 4)) had (by omega) g
  have hz4a : ((zfr (zset (zfr (zset (zfr (zset (zfr z j 20 20) p 0 j) (j + 1) 20 20) p 1 (j + 1)) (j + 2) 20 20) p 2 (j + 2)) (j + 3) 20 20) p).1 = 4 := by rw [zfr_1 (by omega)]; exact hz3
  refine G_putFR g4a hnm (pc := 33) (q := p) (q2 := (j + 3)) fa_C_21 fwf_C_3 rfl rfl (List.mem_range.mpr (by omega)) hz4a d_C_init_33 ?_
  have g4 := Gd.wg (z2 := (zset (zfr (zset (zfr (zset (zfr (zset (zfr z j 20 20) p 0 j) (j + 1) 20 20) p 1 (j + 1)) (j + 2) 20 20) p 2 (j + 2)) (j + 3) 20 20) p 3 (j + 3))) (j2 := (j + 4)) had (by omega) g
  have hz4 : ((zset (zfr (zset (zfr (zset (zfr (zset (zfr z j 20 20) p 0 j) (j + 1) 20 20) p 1 (j + 1)) (j + 2) 20 20) p 2 (j + 2)) (j + 3) 20 20) p 3 (j + 3)) p).1 = 4 := by rw [zset_1]; exact hz4a
  refine G_aload_n g4 (pc := 36) 0 d_C_init_36 rfl rfl ?_
  refine G_iconst g4 (pc := 37) ((0 : Int32)) d_C_init_37 rfl ?_
  refine G_put g4 (pc := 38) (q := p) fa_C_24 fw_4_4 rfl rfl (List.mem_range.mpr (by omega)) hz4 d_C_init_38 ?_
  refine G_aload_n g4 (pc := 41) 0 d_C_init_41 rfl rfl ?_
  refine G_iconst g4 (pc := 42) ((0 : Int32)) d_C_init_42 rfl ?_
  refine G_put g4 (pc := 43) (q := p) fa_C_28 fw_4_5 rfl rfl (List.mem_range.mpr (by omega)) hz4 d_C_init_43 ?_
  exact G_creturn g4 (pc := 46) hret (Nat.le_of_ble_eq_true rfl) (Nat.le_of_ble_eq_true rfl) d_C_init_46
theorem d_S_init_0 : decode b_S_init 0 = .ok (.aload_n 0, 1) := by decide +kernel
theorem d_S_init_1 : decode b_S_init 1 = .ok (.invokespecial 1, 3) := by decide +kernel
theorem d_S_init_4 : decode b_S_init 4 = .ok (.aload_n 0, 1) := by decide +kernel
theorem d_S_init_5 : decode b_S_init 5 = .ok (.iconst 0, 1) := by decide +kernel
theorem d_S_init_6 : decode b_S_init 6 = .ok (.putfield 7, 3) := by decide +kernel
theorem d_S_init_9 : decode b_S_init 9 = .ok (.aload_n 0, 1) := by decide +kernel
theorem d_S_init_10 : decode b_S_init 10 = .ok (.iconst 0, 1) := by decide +kernel
theorem d_S_init_11 : decode b_S_init 11 = .ok (.putfield 13, 3) := by decide +kernel
theorem d_S_init_14 : decode b_S_init 14 = .ok (.aload_n 0, 1) := by decide +kernel
theorem d_S_init_15 : decode b_S_init 15 = .ok (.iconst 0, 1) := by decide +kernel
theorem d_S_init_16 : decode b_S_init 16 = .ok (.putfield 16, 3) := by decide +kernel
theorem d_S_init_19 : decode b_S_init 19 = .ok (.aload_n 0, 1) := by decide +kernel
theorem d_S_init_20 : decode b_S_init 20 = .ok (.iload_n 1, 1) := by decide +kernel
theorem d_S_init_21 : decode b_S_init 21 = .ok (.iconst 1, 1) := by decide +kernel
theorem d_S_init_22 : decode b_S_init 22 = .ok (.invokestatic 19, 3) := by decide +kernel
theorem d_S_init_25 : decode b_S_init 25 = .ok (.putfield 25, 3) := by decide +kernel
theorem d_S_init_28 : decode b_S_init 28 = .ok (.aload_n 0, 1) := by decide +kernel
theorem d_S_init_29 : decode b_S_init 29 = .ok (.aload_n 0, 1) := by decide +kernel
theorem d_S_init_30 : decode b_S_init 30 = .ok (.getfield 25, 3) := by decide +kernel
theorem d_S_init_33 : decode b_S_init 33 = .ok (.newarray .int, 2) := by decide +kernel
theorem d_S_init_35 : decode b_S_init 35 = .ok (.putfield 28, 3) := by decide +kernel
theorem d_S_init_38 : decode b_S_init 38 = .ok (.aload_n 0, 1) := by decide +kernel
theorem d_S_init_39 : decode b_S_init 39 = .ok (.aload_n 0, 1) := by decide +kernel
theorem d_S_init_40 : decode b_S_init 40 = .ok (.getfield 25, 3) := by decide +kernel
theorem d_S_init_43 : decode b_S_init 43 = .ok (.newarray .int, 2) := by decide +kernel
theorem d_S_init_45 : decode b_S_init 45 = .ok (.putfield 32, 3) := by decide +kernel
theorem d_S_init_48 : decode b_S_init 48 = .ok (.aload_n 0, 1) := by decide +kernel
theorem d_S_init_49 : decode b_S_init 49 = .ok (.aload_n 0, 1) := by decide +kernel
theorem d_S_init_50 : decode b_S_init 50 = .ok (.getfield 25, 3) := by decide +kernel
theorem d_S_init_53 : decode b_S_init 53 = .ok (.newarray .int, 2) := by decide +kernel
theorem d_S_init_55 : decode b_S_init 55 = .ok (.putfield 35, 3) := by decide +kernel
theorem d_S_init_58 : decode b_S_init 58 = .ok (.return_, 1) := by decide +kernel
theorem ma_S_19 : Cond.methodLink "KiteLogger$Samples" 19 Lib.Math.max.name ∈ TT ∧ Cond.static Lib.Math.max.name ∈ TT ∧ Cond.initialized "java/lang/Math" ∈ TT ∧ Cond.code Lib.Math.max.name Lib.Math.max.code 2 (some .int) ∈ TT := ⟨TT_in (i := 254) (by decide +kernel) (by decide +kernel), TT_in (i := 255) (by decide +kernel) (by decide +kernel), TT_in (i := 21) (by decide +kernel) (by decide +kernel), TT_in (i := 256) (by decide +kernel) (by decide +kernel)⟩
theorem fwf_S_0 : FWF "KiteLogger$Samples" 3 0 .int := ⟨"KiteLogger$Samples", T3, 7, ty3, rfl, tyk3, nm3, rfl, rfl, by decide +kernel⟩
theorem fwf_S_1 : FWF "KiteLogger$Samples" 3 1 (.array .int) := ⟨"KiteLogger$Samples", T3, 7, ty3, rfl, tyk3, nm3, rfl, rfl, by decide +kernel⟩
theorem fwf_S_2 : FWF "KiteLogger$Samples" 3 2 (.array .int) := ⟨"KiteLogger$Samples", T3, 7, ty3, rfl, tyk3, nm3, rfl, rfl, by decide +kernel⟩
theorem fwf_S_3 : FWF "KiteLogger$Samples" 3 3 (.array .int) := ⟨"KiteLogger$Samples", T3, 7, ty3, rfl, tyk3, nm3, rfl, rfl, by decide +kernel⟩
set_option maxHeartbeats 4000000 in
set_option maxRecDepth 100000 in
theorem c_S_init (l : Launch) {w : Wc} (had : Ad w) {j p N : Nat} {z : Shp} (hN1 : 1 ≤ N) (hN2 : N ≤ 90) (hj : j + 3 ≤ 900) (hp : p < j) (hz : (z p).1 = 3) (M : Mem) : CtC l y_S_init b_S_init 2 (rmC 2 3 (N + N + N)) w j (j + 3) z (zset (zfr (zset (zfr (zset (zfr z j 20 N) p 1 j) (j + 1) 20 N) p 2 (j + 1)) (j + 2) 20 N) p 3 (j + 2)) [.ref (wad w p), .int (nI N)] M (setR (setR (setR (put (put (put (put M p 4 (0)) p 5 (0)) p 6 (0)) p 0 (nI N)) j (fun _ => 0)) (j + 1) (fun _ => 0)) (j + 2) (fun _ => 0)) := by
  refine CtC.go (by decide) (L := [(0, .ref (wad w p)), (1, .int (nI N))]) rfl (Nat.le_of_ble_eq_true rfl) (fun p0 e s m args below meth c hnm hsz hao g hret => ?_)
  have hmx : imax (nI N) 1 = nI N := by
    unfold imax
    rw [if_neg (by show ¬ nI N < nI 1; exact nI_nlt (by omega) (by omega))]
  refine G_aload_n g (pc := 0) 0 d_S_init_0 rfl rfl ?_
  refine G_objI g (pc := 1) (q := p) (TT_in (i := 253) (by decide +kernel) (by decide +kernel)) oI1 oI2 ⟨(Nat.le_of_ble_eq_true rfl), (Nat.le_of_ble_eq_true rfl)⟩ d_S_init_1 ?_
  refine G_aload_n g (pc := 4) 0 d_S_init_4 rfl rfl ?_
  refine G_iconst g (pc := 5) (0 : Int32) d_S_init_5 rfl ?_
  refine G_put g (pc := 6) (q := p) fa_S_7 fw_3_4 rfl rfl (List.mem_range.mpr (by omega)) hz d_S_init_6 ?_
  refine G_aload_n g (pc := 9) 0 d_S_init_9 rfl rfl ?_
  refine G_iconst g (pc := 10) (0 : Int32) d_S_init_10 rfl ?_
  refine G_put g (pc := 11) (q := p) fa_S_13 fw_3_5 rfl rfl (List.mem_range.mpr (by omega)) hz d_S_init_11 ?_
  refine G_aload_n g (pc := 14) 0 d_S_init_14 rfl rfl ?_
  refine G_iconst g (pc := 15) (0 : Int32) d_S_init_15 rfl ?_
  refine G_put g (pc := 16) (q := p) fa_S_16 fw_3_6 rfl rfl (List.mem_range.mpr (by omega)) hz d_S_init_16 ?_
  refine G_aload_n g (pc := 19) 0 d_S_init_19 rfl rfl ?_
  refine G_iload_n g (pc := 20) 1 d_S_init_20 rfl rfl ?_
  refine G_iconst g (pc := 21) (1 : Int32) d_S_init_21 rfl ?_
  refine G_mmax g (pc := 22) ma_S_19 ⟨(Nat.le_of_ble_eq_true rfl), (Nat.le_of_ble_eq_true rfl), (Nat.le_of_ble_eq_true rfl), Nat.zero_le _⟩ d_S_init_22 ?_
  rw [hmx]
  refine G_putF g hnm (pc := 25) (q := p) fa_S_25 fwf_S_0 rfl rfl (List.mem_range.mpr (by omega)) hz d_S_init_25 ?_
  refine G_aload_n g (pc := 28) 0 d_S_init_28 rfl rfl ?_
  refine G_aload_n g (pc := 29) 0 d_S_init_29 rfl rfl ?_
  refine G_get g (pc := 30) (q := p) fa_S_25 (List.mem_range.mpr (by omega)) hz d_S_init_30 ?_
  rw [show (put (put (put (put M p 4 (0)) p 5 (0)) p 6 (0)) p 0 (nI N)) p 0 = nI N from by rw [put_row, upd_at, if_pos rfl]]
  refine G_newI g (pc := 33) (N := N) had (by omega) (by omega) (TT_in (i := 137) (by decide +kernel) (by decide +kernel)) (by omega) ⟨(Nat.le_of_ble_eq_true rfl), (by show _ ≤ N + N + N; omega)⟩ d_S_init_33 ?_
  have g1a := Gd.wg (z2 := (zfr z j 20 N)) (j2 := (j + 1)) had (by omega) g
  have hz1a : ((zfr z j 20 N) p).1 = 3 := by rw [zfr_1 (by omega)]; exact hz
  refine G_putFR g1a hnm (pc := 35) (q := p) (q2 := j) fa_S_28 fwf_S_1 rfl rfl (List.mem_range.mpr (by omega)) hz1a d_S_init_35 ?_
  have g1 := Gd.wg (z2 := (zset (zfr z j 20 N) p 1 j)) (j2 := (j + 1)) had (by omega) g
  have hz1 : ((zset (zfr z j 20 N) p 1 j) p).1 = 3 := by rw [zset_1]; exact hz1a
  refine G_aload_n g1 (pc := 38) 0 d_S_init_38 rfl rfl ?_
  refine G_aload_n g1 (pc := 39) 0 d_S_init_39 rfl rfl ?_
  refine G_get g1 (pc := 40) (q := p) fa_S_25 (List.mem_range.mpr (by omega)) hz1 d_S_init_40 ?_
  rw [show (setR (put (put (put (put M p 4 (0)) p 5 (0)) p 6 (0)) p 0 (nI N)) j (fun _ => 0)) p 0 = nI N from by rw [setR_ne (show p ≠ j by omega), put_row, upd_at, if_pos rfl]]
  refine G_newI g1 (pc := 43) (N := N) had (by omega) (by omega) (TT_in (i := 137) (by decide +kernel) (by decide +kernel)) (by omega) ⟨(Nat.le_of_ble_eq_true rfl), (by show _ ≤ N + N + N; omega)⟩ d_S_init_43 ?_
  have g2a := Gd.wg (z2 := (zfr (zset (zfr z j 20 N) p 1 j) (j + 1) 20 N)) (j2 := (j + 2)) had (by omega) g
  have hz2a : ((zfr (zset (zfr z j 20 N) p 1 j) (j + 1) 20 N) p).1 = 3 := by rw [zfr_1 (by omega)]; exact hz1
  refine G_putFR g2a hnm (pc := 45) (q := p) (q2 := (j + 1)) fa_S_32 fwf_S_2 rfl rfl (List.mem_range.mpr (by omega)) hz2a d_S_init_45 ?_
  have g2 := Gd.wg (z2 := (zset (zfr (zset (zfr z j 20 N) p 1 j) (j + 1) 20 N) p 2 (j + 1))) (j2 := (j + 2)) had (by omega) g
  have hz2 : ((zset (zfr (zset (zfr z j 20 N) p 1 j) (j + 1) 20 N) p 2 (j + 1)) p).1 = 3 := by rw [zset_1]; exact hz2a
  refine G_aload_n g2 (pc := 48) 0 d_S_init_48 rfl rfl ?_
  refine G_aload_n g2 (pc := 49) 0 d_S_init_49 rfl rfl ?_
  refine G_get g2 (pc := 50) (q := p) fa_S_25 (List.mem_range.mpr (by omega)) hz2 d_S_init_50 ?_
  rw [show (setR (setR (put (put (put (put M p 4 (0)) p 5 (0)) p 6 (0)) p 0 (nI N)) j (fun _ => 0)) (j + 1) (fun _ => 0)) p 0 = nI N from by rw [setR_ne (show p ≠ (j + 1) by omega), setR_ne (show p ≠ j by omega), put_row, upd_at, if_pos rfl]]
  refine G_newI g2 (pc := 53) (N := N) had (by omega) (by omega) (TT_in (i := 137) (by decide +kernel) (by decide +kernel)) (by omega) ⟨(Nat.le_of_ble_eq_true rfl), (by show _ ≤ N + N + N; omega)⟩ d_S_init_53 ?_
  have g3a := Gd.wg (z2 := (zfr (zset (zfr (zset (zfr z j 20 N) p 1 j) (j + 1) 20 N) p 2 (j + 1)) (j + 2) 20 N)) (j2 := (j + 3)) had (by omega) g
  have hz3a : ((zfr (zset (zfr (zset (zfr z j 20 N) p 1 j) (j + 1) 20 N) p 2 (j + 1)) (j + 2) 20 N) p).1 = 3 := by rw [zfr_1 (by omega)]; exact hz2
  refine G_putFR g3a hnm (pc := 55) (q := p) (q2 := (j + 2)) fa_S_35 fwf_S_3 rfl rfl (List.mem_range.mpr (by omega)) hz3a d_S_init_55 ?_
  have g3 := Gd.wg (z2 := (zset (zfr (zset (zfr (zset (zfr z j 20 N) p 1 j) (j + 1) 20 N) p 2 (j + 1)) (j + 2) 20 N) p 3 (j + 2))) (j2 := (j + 3)) had (by omega) g
  have hz3 : ((zset (zfr (zset (zfr (zset (zfr z j 20 N) p 1 j) (j + 1) 20 N) p 2 (j + 1)) (j + 2) 20 N) p 3 (j + 2)) p).1 = 3 := by rw [zset_1]; exact hz3a
  exact G_creturn g3 (pc := 58) hret (Nat.le_of_ble_eq_true rfl) (by show _ ≤ N + N + N; omega) d_S_init_58
