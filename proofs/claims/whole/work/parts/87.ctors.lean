/-! constructors -/
abbrev rmC (n c s : Nat) : Room := { frames := n, cells := c, slots := s, locals := 64 * n }
theorem oI1 : Cond.instanceMethod Lib.objectInit ∈ TT := TT_in (i := 117) (by decide +kernel) (by decide +kernel)
theorem oI2 : Cond.code Lib.objectInit object_method_1_code 1 none ∈ TT := TT_in (i := 118) (by decide +kernel) (by decide +kernel)
theorem d_K_init_0 : decode b_K_init 0 = .ok (.aload_n 0, 1) := by decide +kernel
theorem d_K_init_1 : decode b_K_init 1 = .ok (.invokespecial 3, 3) := by decide +kernel
theorem d_K_init_4 : decode b_K_init 4 = .ok (.aload_n 0, 1) := by decide +kernel
theorem d_K_init_5 : decode b_K_init 5 = .ok (.iconst 0, 1) := by decide +kernel
theorem d_K_init_6 : decode b_K_init 6 = .ok (.putfield 9, 3) := by decide +kernel
theorem d_K_init_9 : decode b_K_init 9 = .ok (.aload_n 0, 1) := by decide +kernel
theorem d_K_init_10 : decode b_K_init 10 = .ok (.iconst 0, 1) := by decide +kernel
theorem d_K_init_11 : decode b_K_init 11 = .ok (.putfield 15, 3) := by decide +kernel
theorem d_K_init_14 : decode b_K_init 14 = .ok (.aload_n 0, 1) := by decide +kernel
theorem d_K_init_15 : decode b_K_init 15 = .ok (.iconst 0, 1) := by decide +kernel
theorem d_K_init_16 : decode b_K_init 16 = .ok (.putfield 18, 3) := by decide +kernel
theorem d_K_init_19 : decode b_K_init 19 = .ok (.aload_n 0, 1) := by decide +kernel
theorem d_K_init_20 : decode b_K_init 20 = .ok (.iconst 1, 1) := by decide +kernel
theorem d_K_init_21 : decode b_K_init 21 = .ok (.putfield 21, 3) := by decide +kernel
theorem d_K_init_24 : decode b_K_init 24 = .ok (.aload_n 0, 1) := by decide +kernel
theorem d_K_init_25 : decode b_K_init 25 = .ok (.iconst 1, 1) := by decide +kernel
theorem d_K_init_26 : decode b_K_init 26 = .ok (.putfield 24, 3) := by decide +kernel
theorem d_K_init_29 : decode b_K_init 29 = .ok (.aload_n 0, 1) := by decide +kernel
theorem d_K_init_30 : decode b_K_init 30 = .ok (.iconst 1, 1) := by decide +kernel
theorem d_K_init_31 : decode b_K_init 31 = .ok (.putfield 27, 3) := by decide +kernel
theorem d_K_init_34 : decode b_K_init 34 = .ok (.aload_n 0, 1) := by decide +kernel
theorem d_K_init_35 : decode b_K_init 35 = .ok (.iconst 0, 1) := by decide +kernel
theorem d_K_init_36 : decode b_K_init 36 = .ok (.putfield 30, 3) := by decide +kernel
theorem d_K_init_39 : decode b_K_init 39 = .ok (.aload_n 0, 1) := by decide +kernel
theorem d_K_init_40 : decode b_K_init 40 = .ok (.iconst 0, 1) := by decide +kernel
theorem d_K_init_41 : decode b_K_init 41 = .ok (.putfield 33, 3) := by decide +kernel
theorem d_K_init_44 : decode b_K_init 44 = .ok (.aload_n 0, 1) := by decide +kernel
theorem d_K_init_45 : decode b_K_init 45 = .ok (.iconst 0, 1) := by decide +kernel
theorem d_K_init_46 : decode b_K_init 46 = .ok (.putfield 36, 3) := by decide +kernel
theorem d_K_init_49 : decode b_K_init 49 = .ok (.aload_n 0, 1) := by decide +kernel
theorem d_K_init_50 : decode b_K_init 50 = .ok (.iconst 0, 1) := by decide +kernel
theorem d_K_init_51 : decode b_K_init 51 = .ok (.putfield 39, 3) := by decide +kernel
theorem d_K_init_54 : decode b_K_init 54 = .ok (.aload_n 0, 1) := by decide +kernel
theorem d_K_init_55 : decode b_K_init 55 = .ok (.iconst 0, 1) := by decide +kernel
theorem d_K_init_56 : decode b_K_init 56 = .ok (.putfield 42, 3) := by decide +kernel
theorem d_K_init_59 : decode b_K_init 59 = .ok (.aload_n 0, 1) := by decide +kernel
theorem d_K_init_60 : decode b_K_init 60 = .ok (.iconst 0, 1) := by decide +kernel
theorem d_K_init_61 : decode b_K_init 61 = .ok (.putfield 45, 3) := by decide +kernel
theorem d_K_init_64 : decode b_K_init 64 = .ok (.aload_n 0, 1) := by decide +kernel
theorem d_K_init_65 : decode b_K_init 65 = .ok (.iconst 0, 1) := by decide +kernel
theorem d_K_init_66 : decode b_K_init 66 = .ok (.putfield 48, 3) := by decide +kernel
theorem d_K_init_69 : decode b_K_init 69 = .ok (.return_, 1) := by decide +kernel
set_option maxHeartbeats 4000000 in
theorem c_K_init (l : Launch) {w : Wc} {j p : Nat} {z : Shp} (hp : p < j) (hz : (z p).1 = 1) (M : Mem) : CtC l y_K_init b_K_init 1 (rmC 1 0 0) w j j z z [.ref (wad w p)] M (put (put (put (put (put (put (put (put (put (put (put (put (put M p 0 0) p 1 0) p 2 0) p 3 1) p 4 1) p 5 1) p 6 0) p 7 0) p 8 0) p 9 0) p 10 0) p 11 0) p 12 0) := by
  refine CtC.go (by decide) (L := [(0, .ref (wad w p))]) rfl (Nat.le_of_ble_eq_true rfl) (fun p0 e s m args below meth c hnm hsz hao g hret => ?_)
  refine G_aload_n g (pc := 0) 0 d_K_init_0 rfl rfl ?_
  refine G_objI g (pc := 1) (q := p) (TT_in (i := 246) (by decide +kernel) (by decide +kernel)) oI1 oI2 ⟨(Nat.le_of_ble_eq_true rfl), (Nat.le_of_ble_eq_true rfl)⟩ d_K_init_1 ?_
  refine G_aload_n g (pc := 4) 0 d_K_init_4 rfl rfl ?_
  refine G_iconst g (pc := 5) (0 : Int32) d_K_init_5 rfl ?_
  refine G_put g (pc := 6) fa_K_9 fw_1_0 rfl rfl (List.mem_range.mpr hp) hz d_K_init_6 ?_
  refine G_aload_n g (pc := 9) 0 d_K_init_9 rfl rfl ?_
  refine G_iconst g (pc := 10) (0 : Int32) d_K_init_10 rfl ?_
  refine G_put g (pc := 11) fa_K_15 fw_1_1 rfl rfl (List.mem_range.mpr hp) hz d_K_init_11 ?_
  refine G_aload_n g (pc := 14) 0 d_K_init_14 rfl rfl ?_
  refine G_iconst g (pc := 15) (0 : Int32) d_K_init_15 rfl ?_
  refine G_put g (pc := 16) fa_K_18 fw_1_2 rfl rfl (List.mem_range.mpr hp) hz d_K_init_16 ?_
  refine G_aload_n g (pc := 19) 0 d_K_init_19 rfl rfl ?_
  refine G_iconst g (pc := 20) (1 : Int32) d_K_init_20 rfl ?_
  refine G_put g (pc := 21) fa_K_21 fw_1_3 rfl rfl (List.mem_range.mpr hp) hz d_K_init_21 ?_
  refine G_aload_n g (pc := 24) 0 d_K_init_24 rfl rfl ?_
  refine G_iconst g (pc := 25) (1 : Int32) d_K_init_25 rfl ?_
  refine G_put g (pc := 26) fa_K_24 fw_1_4 rfl rfl (List.mem_range.mpr hp) hz d_K_init_26 ?_
  refine G_aload_n g (pc := 29) 0 d_K_init_29 rfl rfl ?_
  refine G_iconst g (pc := 30) (1 : Int32) d_K_init_30 rfl ?_
  refine G_put g (pc := 31) fa_K_27 fw_1_5 rfl rfl (List.mem_range.mpr hp) hz d_K_init_31 ?_
  refine G_aload_n g (pc := 34) 0 d_K_init_34 rfl rfl ?_
  refine G_iconst g (pc := 35) (0 : Int32) d_K_init_35 rfl ?_
  refine G_put g (pc := 36) fa_K_30 fw_1_6 rfl rfl (List.mem_range.mpr hp) hz d_K_init_36 ?_
  refine G_aload_n g (pc := 39) 0 d_K_init_39 rfl rfl ?_
  refine G_iconst g (pc := 40) (0 : Int32) d_K_init_40 rfl ?_
  refine G_put g (pc := 41) fa_K_33 fw_1_7 rfl rfl (List.mem_range.mpr hp) hz d_K_init_41 ?_
  refine G_aload_n g (pc := 44) 0 d_K_init_44 rfl rfl ?_
  refine G_iconst g (pc := 45) (0 : Int32) d_K_init_45 rfl ?_
  refine G_put g (pc := 46) fa_K_36 fw_1_8 rfl rfl (List.mem_range.mpr hp) hz d_K_init_46 ?_
  refine G_aload_n g (pc := 49) 0 d_K_init_49 rfl rfl ?_
  refine G_iconst g (pc := 50) (0 : Int32) d_K_init_50 rfl ?_
  refine G_put g (pc := 51) fa_K_39 fw_1_9 rfl rfl (List.mem_range.mpr hp) hz d_K_init_51 ?_
  refine G_aload_n g (pc := 54) 0 d_K_init_54 rfl rfl ?_
  refine G_iconst g (pc := 55) (0 : Int32) d_K_init_55 rfl ?_
  refine G_put g (pc := 56) fa_K_42 fw_1_10 rfl rfl (List.mem_range.mpr hp) hz d_K_init_56 ?_
  refine G_aload_n g (pc := 59) 0 d_K_init_59 rfl rfl ?_
  refine G_iconst g (pc := 60) (0 : Int32) d_K_init_60 rfl ?_
  refine G_put g (pc := 61) fa_K_45 fw_1_11 rfl rfl (List.mem_range.mpr hp) hz d_K_init_61 ?_
  refine G_aload_n g (pc := 64) 0 d_K_init_64 rfl rfl ?_
  refine G_iconst g (pc := 65) (0 : Int32) d_K_init_65 rfl ?_
  refine G_put g (pc := 66) fa_K_48 fw_1_12 rfl rfl (List.mem_range.mpr hp) hz d_K_init_66 ?_
  exact G_creturn g (pc := 69) hret (Nat.le_of_ble_eq_true rfl) (Nat.le_of_ble_eq_true rfl) d_K_init_69
