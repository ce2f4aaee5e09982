theorem d_M_bufferWind_0 : decode b_M_bufferWind 0 = .ok (.aload_n 0, 1) := by decide +kernel
theorem d_M_bufferWind_1 : decode b_M_bufferWind 1 = .ok (.getfield 28, 3) := by decide +kernel
theorem d_M_bufferWind_4 : decode b_M_bufferWind 4 = .ok (.bipush 16, 2) := by decide +kernel
theorem d_M_bufferWind_6 : decode b_M_bufferWind 6 = .ok (.iaload, 1) := by decide +kernel
theorem d_M_bufferWind_7 : decode b_M_bufferWind 7 = .ok (.bipush 8, 2) := by decide +kernel
theorem d_M_bufferWind_9 : decode b_M_bufferWind 9 = .ok (.if_icmp .ne 31, 3) := by decide +kernel
theorem d_M_bufferWind_12 : decode b_M_bufferWind 12 = .ok (.aload_n 0, 1) := by decide +kernel
theorem d_M_bufferWind_13 : decode b_M_bufferWind 13 = .ok (.getfield 28, 3) := by decide +kernel
theorem d_M_bufferWind_16 : decode b_M_bufferWind 16 = .ok (.bipush 16, 2) := by decide +kernel
theorem d_M_bufferWind_18 : decode b_M_bufferWind 18 = .ok (.dup2, 1) := by decide +kernel
theorem d_M_bufferWind_19 : decode b_M_bufferWind 19 = .ok (.iaload, 1) := by decide +kernel
theorem d_M_bufferWind_20 : decode b_M_bufferWind 20 = .ok (.iconst 1, 1) := by decide +kernel
theorem d_M_bufferWind_21 : decode b_M_bufferWind 21 = .ok (.isub, 1) := by decide +kernel
theorem d_M_bufferWind_22 : decode b_M_bufferWind 22 = .ok (.iastore, 1) := by decide +kernel
theorem d_M_bufferWind_23 : decode b_M_bufferWind 23 = .ok (.aload_n 0, 1) := by decide +kernel
theorem d_M_bufferWind_24 : decode b_M_bufferWind 24 = .ok (.getfield 28, 3) := by decide +kernel
theorem d_M_bufferWind_27 : decode b_M_bufferWind 27 = .ok (.bipush 38, 2) := by decide +kernel
theorem d_M_bufferWind_29 : decode b_M_bufferWind 29 = .ok (.aload_n 0, 1) := by decide +kernel
theorem d_M_bufferWind_30 : decode b_M_bufferWind 30 = .ok (.getfield 28, 3) := by decide +kernel
theorem d_M_bufferWind_33 : decode b_M_bufferWind 33 = .ok (.bipush 37, 2) := by decide +kernel
theorem d_M_bufferWind_35 : decode b_M_bufferWind 35 = .ok (.bipush 7, 2) := by decide +kernel
theorem d_M_bufferWind_37 : decode b_M_bufferWind 37 = .ok (.invokestatic 131, 3) := by decide +kernel
theorem d_M_bufferWind_40 : decode b_M_bufferWind 40 = .ok (.aload_n 0, 1) := by decide +kernel
theorem d_M_bufferWind_41 : decode b_M_bufferWind 41 = .ok (.getfield 28, 3) := by decide +kernel
theorem d_M_bufferWind_44 : decode b_M_bufferWind 44 = .ok (.bipush 37, 2) := by decide +kernel
theorem d_M_bufferWind_46 : decode b_M_bufferWind 46 = .ok (.aload_n 0, 1) := by decide +kernel
theorem d_M_bufferWind_47 : decode b_M_bufferWind 47 = .ok (.getfield 28, 3) := by decide +kernel
theorem d_M_bufferWind_50 : decode b_M_bufferWind 50 = .ok (.bipush 16, 2) := by decide +kernel
theorem d_M_bufferWind_52 : decode b_M_bufferWind 52 = .ok (.iaload, 1) := by decide +kernel
theorem d_M_bufferWind_53 : decode b_M_bufferWind 53 = .ok (.iadd, 1) := by decide +kernel
theorem d_M_bufferWind_54 : decode b_M_bufferWind 54 = .ok (.iload_n 1, 1) := by decide +kernel
theorem d_M_bufferWind_55 : decode b_M_bufferWind 55 = .ok (.iastore, 1) := by decide +kernel
theorem d_M_bufferWind_56 : decode b_M_bufferWind 56 = .ok (.aload_n 0, 1) := by decide +kernel
theorem d_M_bufferWind_57 : decode b_M_bufferWind 57 = .ok (.getfield 28, 3) := by decide +kernel
theorem d_M_bufferWind_60 : decode b_M_bufferWind 60 = .ok (.bipush 16, 2) := by decide +kernel
theorem d_M_bufferWind_62 : decode b_M_bufferWind 62 = .ok (.dup2, 1) := by decide +kernel
theorem d_M_bufferWind_63 : decode b_M_bufferWind 63 = .ok (.iaload, 1) := by decide +kernel
theorem d_M_bufferWind_64 : decode b_M_bufferWind 64 = .ok (.iconst 1, 1) := by decide +kernel
theorem d_M_bufferWind_65 : decode b_M_bufferWind 65 = .ok (.iadd, 1) := by decide +kernel
theorem d_M_bufferWind_66 : decode b_M_bufferWind 66 = .ok (.iastore, 1) := by decide +kernel
theorem d_M_bufferWind_67 : decode b_M_bufferWind 67 = .ok (.return_, 1) := by decide +kernel
theorem ma_M_131 : Cond.methodLink "KiteLoggerModel" 131 arraycopyName ∈ TT ∧ Cond.native arraycopyName ∈ TT ∧ Cond.static arraycopyName ∈ TT ∧ Cond.initialized "java/lang/System" ∈ TT := ⟨TT_in (i := 1682) (by decide +kernel) (by decide +kernel), TT_in (i := 181) (by decide +kernel) (by decide +kernel), TT_in (i := 180) (by decide +kernel) (by decide +kernel), TT_in (i := 92) (by decide +kernel) (by decide +kernel)⟩
def f_M_bufferWind (rr : Nat) (a1 : Int32) (M : Mem) : Option (Mem) :=
  if (M rr 16) = (8 : Int32) then (nm (put M rr 16 ((M rr 16) - (1 : Int32))) fun (M1 : Mem) => grd (cpB (38 : Int32) (37 : Int32) (7 : Int32) 405 405) (nm (setR M1 rr (va_cpy (M1 rr) (M1 rr) (38 : Int32).toNatClampNeg (37 : Int32).toNatClampNeg (7 : Int32).toNatClampNeg)) fun (M2 : Mem) => grd (inB ((37 : Int32) + (M2 rr 16)) 405) (nm (put M2 rr ((37 : Int32) + (M2 rr 16)).toNatClampNeg a1) fun (M3 : Mem) => nm (put M3 rr 16 ((M3 rr 16) + (1 : Int32))) fun (M4 : Mem) => some M4))) else (grd (inB ((37 : Int32) + (M rr 16)) 405) (nm (put M rr ((37 : Int32) + (M rr 16)).toNatClampNeg a1) fun (M5 : Mem) => nm (put M5 rr 16 ((M5 rr 16) + (1 : Int32))) fun (M6 : Mem) => some M6))
set_option maxHeartbeats 4000000 in
set_option maxRecDepth 100000 in
theorem c_M_bufferWind (l : Launch) {w : Wc} {rr : Nat} (hw : WM w rr) (a1 : Int32) (M : Mem) : Ct QV l y_M_bufferWind b_M_bufferWind 2 none (rmL 1) w [.ref (wad w 145), .int a1] M (f_M_bufferWind rr a1 M) := by
  refine Ct.go (by decide) (L := [(0, .ref (wad w 145)), (1, .int a1)]) rfl (Nat.le_of_ble_eq_true rfl) (fun p0 e s m args below meth c g hret => ?_)
  unfold f_M_bufferWind
  refine G_aload_n g (pc := 0) 0 d_M_bufferWind_0 rfl rfl ?_
  refine G_getR g (pc := 1) fa_M_28 (hw.mm 145 (Nat.le_of_ble_eq_true rfl) (Nat.le_of_ble_eq_true rfl)) (hw.k (zk145 rr)) (hw.r hw.rr) d_M_bufferWind_1 ?_
  refine G_bipush g (pc := 4) (16 : Int32) d_M_bufferWind_4 rfl ?_
  refine G_ialdK g (pc := 6) (nn := 405) 16 rfl rfl hw.mr hw.kr hw.nr d_M_bufferWind_6 ?_
  refine G_bipush g (pc := 7) (8 : Int32) d_M_bufferWind_7 rfl ?_
  refine G_icmp_ne g (pc := 9) 40 d_M_bufferWind_9 (by decide) ?_ ?_
  · refine G_aload_n g (pc := 12) 0 d_M_bufferWind_12 rfl rfl ?_
    refine G_getR g (pc := 13) fa_M_28 (hw.mm 145 (Nat.le_of_ble_eq_true rfl) (Nat.le_of_ble_eq_true rfl)) (hw.k (zk145 rr)) (hw.r hw.rr) d_M_bufferWind_13 ?_
    refine G_bipush g (pc := 16) (16 : Int32) d_M_bufferWind_16 rfl ?_
    refine G_dup2 g (pc := 18) d_M_bufferWind_18 rfl rfl ?_
    refine G_ialdK g (pc := 19) (nn := 405) 16 rfl rfl hw.mr hw.kr hw.nr d_M_bufferWind_19 ?_
    refine G_iconst g (pc := 20) (1 : Int32) d_M_bufferWind_20 rfl ?_
    refine G_isub g (pc := 21) d_M_bufferWind_21 ?_
    refine G_iastK g (pc := 22) (nn := 405) 16 rfl rfl hw.mr hw.kr hw.nr d_M_bufferWind_22 ?_
    refine G_nmM (fun M1 => ?_)
    refine G_aload_n g (pc := 23) 0 d_M_bufferWind_23 rfl rfl ?_
    refine G_getR g (pc := 24) fa_M_28 (hw.mm 145 (Nat.le_of_ble_eq_true rfl) (Nat.le_of_ble_eq_true rfl)) (hw.k (zk145 rr)) (hw.r hw.rr) d_M_bufferWind_24 ?_
    refine G_bipush g (pc := 27) (38 : Int32) d_M_bufferWind_27 rfl ?_
    refine G_aload_n g (pc := 29) 0 d_M_bufferWind_29 rfl rfl ?_
    refine G_getR g (pc := 30) fa_M_28 (hw.mm 145 (Nat.le_of_ble_eq_true rfl) (Nat.le_of_ble_eq_true rfl)) (hw.k (zk145 rr)) (hw.r hw.rr) d_M_bufferWind_30 ?_
    refine G_bipush g (pc := 33) (37 : Int32) d_M_bufferWind_33 rfl ?_
    refine G_bipush g (pc := 35) (7 : Int32) d_M_bufferWind_35 rfl ?_
    refine G_copy g (pc := 37) (n0 := 405) (n1 := 405) ma_M_131 ⟨(Nat.le_of_ble_eq_true rfl), (Nat.le_of_ble_eq_true rfl)⟩ hw.mr hw.kr hw.nr hw.mr hw.kr hw.nr d_M_bufferWind_37 ?_
    refine G_nmM (fun M2 => ?_)
    refine G_aload_n g (pc := 40) 0 d_M_bufferWind_40 rfl rfl ?_
    refine G_getR g (pc := 41) fa_M_28 (hw.mm 145 (Nat.le_of_ble_eq_true rfl) (Nat.le_of_ble_eq_true rfl)) (hw.k (zk145 rr)) (hw.r hw.rr) d_M_bufferWind_41 ?_
    refine G_bipush g (pc := 44) (37 : Int32) d_M_bufferWind_44 rfl ?_
    refine G_aload_n g (pc := 46) 0 d_M_bufferWind_46 rfl rfl ?_
    refine G_getR g (pc := 47) fa_M_28 (hw.mm 145 (Nat.le_of_ble_eq_true rfl) (Nat.le_of_ble_eq_true rfl)) (hw.k (zk145 rr)) (hw.r hw.rr) d_M_bufferWind_47 ?_
    refine G_bipush g (pc := 50) (16 : Int32) d_M_bufferWind_50 rfl ?_
    refine G_ialdK g (pc := 52) (nn := 405) 16 rfl rfl hw.mr hw.kr hw.nr d_M_bufferWind_52 ?_
    refine G_iadd g (pc := 53) d_M_bufferWind_53 ?_
    refine G_iload_n g (pc := 54) 1 d_M_bufferWind_54 rfl rfl ?_
    refine G_iast g (pc := 55) (nn := 405) hw.mr hw.kr hw.nr d_M_bufferWind_55 ?_
    refine G_nmM (fun M3 => ?_)
    refine G_aload_n g (pc := 56) 0 d_M_bufferWind_56 rfl rfl ?_
    refine G_getR g (pc := 57) fa_M_28 (hw.mm 145 (Nat.le_of_ble_eq_true rfl) (Nat.le_of_ble_eq_true rfl)) (hw.k (zk145 rr)) (hw.r hw.rr) d_M_bufferWind_57 ?_
    refine G_bipush g (pc := 60) (16 : Int32) d_M_bufferWind_60 rfl ?_
    refine G_dup2 g (pc := 62) d_M_bufferWind_62 rfl rfl ?_
    refine G_ialdK g (pc := 63) (nn := 405) 16 rfl rfl hw.mr hw.kr hw.nr d_M_bufferWind_63 ?_
    refine G_iconst g (pc := 64) (1 : Int32) d_M_bufferWind_64 rfl ?_
    refine G_iadd g (pc := 65) d_M_bufferWind_65 ?_
    refine G_iastK g (pc := 66) (nn := 405) 16 rfl rfl hw.mr hw.kr hw.nr d_M_bufferWind_66 ?_
    refine G_nmM (fun M4 => ?_)
    exact G_return g (pc := 67) hret (Nat.le_of_ble_eq_true rfl) (Nat.le_of_ble_eq_true rfl) d_M_bufferWind_67
  · refine G_aload_n g (pc := 40) 0 d_M_bufferWind_40 rfl rfl ?_
    refine G_getR g (pc := 41) fa_M_28 (hw.mm 145 (Nat.le_of_ble_eq_true rfl) (Nat.le_of_ble_eq_true rfl)) (hw.k (zk145 rr)) (hw.r hw.rr) d_M_bufferWind_41 ?_
    refine G_bipush g (pc := 44) (37 : Int32) d_M_bufferWind_44 rfl ?_
    refine G_aload_n g (pc := 46) 0 d_M_bufferWind_46 rfl rfl ?_
    refine G_getR g (pc := 47) fa_M_28 (hw.mm 145 (Nat.le_of_ble_eq_true rfl) (Nat.le_of_ble_eq_true rfl)) (hw.k (zk145 rr)) (hw.r hw.rr) d_M_bufferWind_47 ?_
    refine G_bipush g (pc := 50) (16 : Int32) d_M_bufferWind_50 rfl ?_
    refine G_ialdK g (pc := 52) (nn := 405) 16 rfl rfl hw.mr hw.kr hw.nr d_M_bufferWind_52 ?_
    refine G_iadd g (pc := 53) d_M_bufferWind_53 ?_
    refine G_iload_n g (pc := 54) 1 d_M_bufferWind_54 rfl rfl ?_
    refine G_iast g (pc := 55) (nn := 405) hw.mr hw.kr hw.nr d_M_bufferWind_55 ?_
    refine G_nmM (fun M5 => ?_)
    refine G_aload_n g (pc := 56) 0 d_M_bufferWind_56 rfl rfl ?_
    refine G_getR g (pc := 57) fa_M_28 (hw.mm 145 (Nat.le_of_ble_eq_true rfl) (Nat.le_of_ble_eq_true rfl)) (hw.k (zk145 rr)) (hw.r hw.rr) d_M_bufferWind_57 ?_
    refine G_bipush g (pc := 60) (16 : Int32) d_M_bufferWind_60 rfl ?_
    refine G_dup2 g (pc := 62) d_M_bufferWind_62 rfl rfl ?_
    refine G_ialdK g (pc := 63) (nn := 405) 16 rfl rfl hw.mr hw.kr hw.nr d_M_bufferWind_63 ?_
    refine G_iconst g (pc := 64) (1 : Int32) d_M_bufferWind_64 rfl ?_
    refine G_iadd g (pc := 65) d_M_bufferWind_65 ?_
    refine G_iastK g (pc := 66) (nn := 405) 16 rfl rfl hw.mr hw.kr hw.nr d_M_bufferWind_66 ?_
    refine G_nmM (fun M6 => ?_)
    exact G_return g (pc := 67) hret (Nat.le_of_ble_eq_true rfl) (Nat.le_of_ble_eq_true rfl) d_M_bufferWind_67

theorem d_M_snap_0 : decode b_M_snap 0 = .ok (.aload_n 0, 1) := by decide +kernel
theorem d_M_snap_1 : decode b_M_snap 1 = .ok (.getfield 28, 3) := by decide +kernel
theorem d_M_snap_4 : decode b_M_snap 4 = .ok (.bipush 6, 2) := by decide +kernel
theorem d_M_snap_6 : decode b_M_snap 6 = .ok (.iconst 2, 1) := by decide +kernel
theorem d_M_snap_7 : decode b_M_snap 7 = .ok (.iastore, 1) := by decide +kernel
theorem d_M_snap_8 : decode b_M_snap 8 = .ok (.aload_n 0, 1) := by decide +kernel
theorem d_M_snap_9 : decode b_M_snap 9 = .ok (.getfield 28, 3) := by decide +kernel
theorem d_M_snap_12 : decode b_M_snap 12 = .ok (.bipush 10, 2) := by decide +kernel
theorem d_M_snap_14 : decode b_M_snap 14 = .ok (.iload_n 1, 1) := by decide +kernel
theorem d_M_snap_15 : decode b_M_snap 15 = .ok (.aload_n 0, 1) := by decide +kernel
theorem d_M_snap_16 : decode b_M_snap 16 = .ok (.getfield 28, 3) := by decide +kernel
theorem d_M_snap_19 : decode b_M_snap 19 = .ok (.bipush 7, 2) := by decide +kernel
theorem d_M_snap_21 : decode b_M_snap 21 = .ok (.iaload, 1) := by decide +kernel
theorem d_M_snap_22 : decode b_M_snap 22 = .ok (.imul, 1) := by decide +kernel
theorem d_M_snap_23 : decode b_M_snap 23 = .ok (.bipush 10, 2) := by decide +kernel
theorem d_M_snap_25 : decode b_M_snap 25 = .ok (.idiv, 1) := by decide +kernel
theorem d_M_snap_26 : decode b_M_snap 26 = .ok (.iastore, 1) := by decide +kernel
theorem d_M_snap_27 : decode b_M_snap 27 = .ok (.aload_n 0, 1) := by decide +kernel
theorem d_M_snap_28 : decode b_M_snap 28 = .ok (.getfield 28, 3) := by decide +kernel
theorem d_M_snap_31 : decode b_M_snap 31 = .ok (.bipush 7, 2) := by decide +kernel
theorem d_M_snap_33 : decode b_M_snap 33 = .ok (.iconst 0, 1) := by decide +kernel
theorem d_M_snap_34 : decode b_M_snap 34 = .ok (.iastore, 1) := by decide +kernel
theorem d_M_snap_35 : decode b_M_snap 35 = .ok (.aload_n 0, 1) := by decide +kernel
theorem d_M_snap_36 : decode b_M_snap 36 = .ok (.getfield 28, 3) := by decide +kernel
theorem d_M_snap_39 : decode b_M_snap 39 = .ok (.bipush 8, 2) := by decide +kernel
theorem d_M_snap_41 : decode b_M_snap 41 = .ok (.iconst 0, 1) := by decide +kernel
theorem d_M_snap_42 : decode b_M_snap 42 = .ok (.iastore, 1) := by decide +kernel
theorem d_M_snap_43 : decode b_M_snap 43 = .ok (.aload_n 0, 1) := by decide +kernel
theorem d_M_snap_44 : decode b_M_snap 44 = .ok (.getfield 28, 3) := by decide +kernel
theorem d_M_snap_47 : decode b_M_snap 47 = .ok (.bipush 11, 2) := by decide +kernel
theorem d_M_snap_49 : decode b_M_snap 49 = .ok (.bipush 120, 2) := by decide +kernel
theorem d_M_snap_51 : decode b_M_snap 51 = .ok (.iastore, 1) := by decide +kernel
theorem d_M_snap_52 : decode b_M_snap 52 = .ok (.aload_n 0, 1) := by decide +kernel
theorem d_M_snap_53 : decode b_M_snap 53 = .ok (.getfield 28, 3) := by decide +kernel
theorem d_M_snap_56 : decode b_M_snap 56 = .ok (.bipush 14, 2) := by decide +kernel
theorem d_M_snap_58 : decode b_M_snap 58 = .ok (.dup2, 1) := by decide +kernel
theorem d_M_snap_59 : decode b_M_snap 59 = .ok (.iaload, 1) := by decide +kernel
theorem d_M_snap_60 : decode b_M_snap 60 = .ok (.iconst 1, 1) := by decide +kernel
theorem d_M_snap_61 : decode b_M_snap 61 = .ok (.iadd, 1) := by decide +kernel
theorem d_M_snap_62 : decode b_M_snap 62 = .ok (.iastore, 1) := by decide +kernel
theorem d_M_snap_63 : decode b_M_snap 63 = .ok (.return_, 1) := by decide +kernel
def f_M_snap (rr : Nat) (a1 : Int32) (M : Mem) : Option (Mem) :=
  nm (put M rr 6 (2 : Int32)) fun (M1 : Mem) => nm (put M1 rr 10 ((a1 * (M1 rr 7)) / (10 : Int32))) fun (M2 : Mem) => nm (put M2 rr 7 (0 : Int32)) fun (M3 : Mem) => nm (put M3 rr 8 (0 : Int32)) fun (M4 : Mem) => nm (put M4 rr 11 (120 : Int32)) fun (M5 : Mem) => nm (put M5 rr 14 ((M5 rr 14) + (1 : Int32))) fun (M6 : Mem) => some M6
set_option maxHeartbeats 4000000 in
set_option maxRecDepth 100000 in
theorem c_M_snap (l : Launch) {w : Wc} {rr : Nat} (hw : WM w rr) (a1 : Int32) (M : Mem) : Ct QV l y_M_snap b_M_snap 2 none (rmL 0) w [.ref (wad w 145), .int a1] M (f_M_snap rr a1 M) := by
  refine Ct.go (by decide) (L := [(0, .ref (wad w 145)), (1, .int a1)]) rfl (Nat.le_of_ble_eq_true rfl) (fun p0 e s m args below meth c g hret => ?_)
  unfold f_M_snap
  refine G_aload_n g (pc := 0) 0 d_M_snap_0 rfl rfl ?_
  refine G_getR g (pc := 1) fa_M_28 (hw.mm 145 (Nat.le_of_ble_eq_true rfl) (Nat.le_of_ble_eq_true rfl)) (hw.k (zk145 rr)) (hw.r hw.rr) d_M_snap_1 ?_
  refine G_bipush g (pc := 4) (6 : Int32) d_M_snap_4 rfl ?_
  refine G_iconst g (pc := 6) (2 : Int32) d_M_snap_6 rfl ?_
  refine G_iastK g (pc := 7) (nn := 405) 6 rfl rfl hw.mr hw.kr hw.nr d_M_snap_7 ?_
  refine G_nmM (fun M1 => ?_)
  refine G_aload_n g (pc := 8) 0 d_M_snap_8 rfl rfl ?_
  refine G_getR g (pc := 9) fa_M_28 (hw.mm 145 (Nat.le_of_ble_eq_true rfl) (Nat.le_of_ble_eq_true rfl)) (hw.k (zk145 rr)) (hw.r hw.rr) d_M_snap_9 ?_
  refine G_bipush g (pc := 12) (10 : Int32) d_M_snap_12 rfl ?_
  refine G_iload_n g (pc := 14) 1 d_M_snap_14 rfl rfl ?_
  refine G_aload_n g (pc := 15) 0 d_M_snap_15 rfl rfl ?_
  refine G_getR g (pc := 16) fa_M_28 (hw.mm 145 (Nat.le_of_ble_eq_true rfl) (Nat.le_of_ble_eq_true rfl)) (hw.k (zk145 rr)) (hw.r hw.rr) d_M_snap_16 ?_
  refine G_bipush g (pc := 19) (7 : Int32) d_M_snap_19 rfl ?_
  refine G_ialdK g (pc := 21) (nn := 405) 7 rfl rfl hw.mr hw.kr hw.nr d_M_snap_21 ?_
  refine G_imul g (pc := 22) d_M_snap_22 ?_
  refine G_bipush g (pc := 23) (10 : Int32) d_M_snap_23 rfl ?_
  refine G_idivK g (pc := 25) (by decide) d_M_snap_25 ?_
  refine G_iastK g (pc := 26) (nn := 405) 10 rfl rfl hw.mr hw.kr hw.nr d_M_snap_26 ?_
  refine G_nmM (fun M2 => ?_)
  refine G_aload_n g (pc := 27) 0 d_M_snap_27 rfl rfl ?_
  refine G_getR g (pc := 28) fa_M_28 (hw.mm 145 (Nat.le_of_ble_eq_true rfl) (Nat.le_of_ble_eq_true rfl)) (hw.k (zk145 rr)) (hw.r hw.rr) d_M_snap_28 ?_
  refine G_bipush g (pc := 31) (7 : Int32) d_M_snap_31 rfl ?_
  refine G_iconst g (pc := 33) (0 : Int32) d_M_snap_33 rfl ?_
  refine G_iastK g (pc := 34) (nn := 405) 7 rfl rfl hw.mr hw.kr hw.nr d_M_snap_34 ?_
  refine G_nmM (fun M3 => ?_)
  refine G_aload_n g (pc := 35) 0 d_M_snap_35 rfl rfl ?_
  refine G_getR g (pc := 36) fa_M_28 (hw.mm 145 (Nat.le_of_ble_eq_true rfl) (Nat.le_of_ble_eq_true rfl)) (hw.k (zk145 rr)) (hw.r hw.rr) d_M_snap_36 ?_
  refine G_bipush g (pc := 39) (8 : Int32) d_M_snap_39 rfl ?_
  refine G_iconst g (pc := 41) (0 : Int32) d_M_snap_41 rfl ?_
  refine G_iastK g (pc := 42) (nn := 405) 8 rfl rfl hw.mr hw.kr hw.nr d_M_snap_42 ?_
  refine G_nmM (fun M4 => ?_)
  refine G_aload_n g (pc := 43) 0 d_M_snap_43 rfl rfl ?_
  refine G_getR g (pc := 44) fa_M_28 (hw.mm 145 (Nat.le_of_ble_eq_true rfl) (Nat.le_of_ble_eq_true rfl)) (hw.k (zk145 rr)) (hw.r hw.rr) d_M_snap_44 ?_
  refine G_bipush g (pc := 47) (11 : Int32) d_M_snap_47 rfl ?_
  refine G_bipush g (pc := 49) (120 : Int32) d_M_snap_49 rfl ?_
  refine G_iastK g (pc := 51) (nn := 405) 11 rfl rfl hw.mr hw.kr hw.nr d_M_snap_51 ?_
  refine G_nmM (fun M5 => ?_)
  refine G_aload_n g (pc := 52) 0 d_M_snap_52 rfl rfl ?_
  refine G_getR g (pc := 53) fa_M_28 (hw.mm 145 (Nat.le_of_ble_eq_true rfl) (Nat.le_of_ble_eq_true rfl)) (hw.k (zk145 rr)) (hw.r hw.rr) d_M_snap_53 ?_
  refine G_bipush g (pc := 56) (14 : Int32) d_M_snap_56 rfl ?_
  refine G_dup2 g (pc := 58) d_M_snap_58 rfl rfl ?_
  refine G_ialdK g (pc := 59) (nn := 405) 14 rfl rfl hw.mr hw.kr hw.nr d_M_snap_59 ?_
  refine G_iconst g (pc := 60) (1 : Int32) d_M_snap_60 rfl ?_
  refine G_iadd g (pc := 61) d_M_snap_61 ?_
  refine G_iastK g (pc := 62) (nn := 405) 14 rfl rfl hw.mr hw.kr hw.nr d_M_snap_62 ?_
  refine G_nmM (fun M6 => ?_)
  exact G_return g (pc := 63) hret (Nat.le_of_ble_eq_true rfl) (Nat.le_of_ble_eq_true rfl) d_M_snap_63

theorem d_M_strain_0 : decode b_M_strain 0 = .ok (.aload_n 0, 1) := by decide +kernel
theorem d_M_strain_1 : decode b_M_strain 1 = .ok (.getfield 28, 3) := by decide +kernel
theorem d_M_strain_4 : decode b_M_strain 4 = .ok (.bipush 9, 2) := by decide +kernel
theorem d_M_strain_6 : decode b_M_strain 6 = .ok (.dup2, 1) := by decide +kernel
theorem d_M_strain_7 : decode b_M_strain 7 = .ok (.iaload, 1) := by decide +kernel
theorem d_M_strain_8 : decode b_M_strain 8 = .ok (.iconst 0, 1) := by decide +kernel
theorem d_M_strain_9 : decode b_M_strain 9 = .ok (.aload_n 0, 1) := by decide +kernel
theorem d_M_strain_10 : decode b_M_strain 10 = .ok (.iload_n 1, 1) := by decide +kernel
theorem d_M_strain_11 : decode b_M_strain 11 = .ok (.invokevirtual 110, 3) := by decide +kernel
theorem d_M_strain_14 : decode b_M_strain 14 = .ok (.aload_n 0, 1) := by decide +kernel
theorem d_M_strain_15 : decode b_M_strain 15 = .ok (.getfield 28, 3) := by decide +kernel
theorem d_M_strain_18 : decode b_M_strain 18 = .ok (.iconst 2, 1) := by decide +kernel
theorem d_M_strain_19 : decode b_M_strain 19 = .ok (.iaload, 1) := by decide +kernel
theorem d_M_strain_20 : decode b_M_strain 20 = .ok (.isub, 1) := by decide +kernel
theorem d_M_strain_21 : decode b_M_strain 21 = .ok (.invokestatic 94, 3) := by decide +kernel
theorem d_M_strain_24 : decode b_M_strain 24 = .ok (.iadd, 1) := by decide +kernel
theorem d_M_strain_25 : decode b_M_strain 25 = .ok (.iastore, 1) := by decide +kernel
theorem d_M_strain_26 : decode b_M_strain 26 = .ok (.aload_n 0, 1) := by decide +kernel
theorem d_M_strain_27 : decode b_M_strain 27 = .ok (.getfield 28, 3) := by decide +kernel
theorem d_M_strain_30 : decode b_M_strain 30 = .ok (.bipush 9, 2) := by decide +kernel
theorem d_M_strain_32 : decode b_M_strain 32 = .ok (.iaload, 1) := by decide +kernel
theorem d_M_strain_33 : decode b_M_strain 33 = .ok (.aload_n 0, 1) := by decide +kernel
theorem d_M_strain_34 : decode b_M_strain 34 = .ok (.getfield 28, 3) := by decide +kernel
theorem d_M_strain_37 : decode b_M_strain 37 = .ok (.iconst 3, 1) := by decide +kernel
theorem d_M_strain_38 : decode b_M_strain 38 = .ok (.iaload, 1) := by decide +kernel
theorem d_M_strain_39 : decode b_M_strain 39 = .ok (.if_icmp .lt 8, 3) := by decide +kernel
theorem d_M_strain_42 : decode b_M_strain 42 = .ok (.aload_n 0, 1) := by decide +kernel
theorem d_M_strain_43 : decode b_M_strain 43 = .ok (.iload_n 1, 1) := by decide +kernel
theorem d_M_strain_44 : decode b_M_strain 44 = .ok (.invokevirtual 137, 3) := by decide +kernel
theorem d_M_strain_47 : decode b_M_strain 47 = .ok (.return_, 1) := by decide +kernel
theorem cc_M_137 : CV "KiteLoggerModel" 137 y_M_snap b_M_snap 2 none 1 := ⟨TT_in (i := 1703) (by decide +kernel) (by decide +kernel), TT_in (i := 1705) (by decide +kernel) (by decide +kernel), TT_in (i := 43) (by decide +kernel) (by decide +kernel), TT_in (i := 100) (by decide +kernel) (by decide +kernel), TT_in (i := 1706) (by decide +kernel) (by decide +kernel), ⟨by decide +kernel, by decide +kernel, by decide +kernel⟩⟩
def f_M_strain (rr : Nat) (a1 : Int32) (M : Mem) : Option (Mem) :=
  bnd (f_M_load rr a1 M) fun (x1 : Int32) (M2 : Mem) => bnd (f_M_most (0 : Int32) (x1 - (M2 rr 2)) M2) fun (x3 : Int32) (M4 : Mem) => nm (put M4 rr 9 ((M rr 9) + x3)) fun (M5 : Mem) => if (M5 rr 9) < (M5 rr 3) then (some M5) else (bndM (f_M_snap rr a1 M5) fun (M7 : Mem) => some M7)
set_option maxHeartbeats 4000000 in
set_option maxRecDepth 100000 in
theorem c_M_strain (l : Launch) {w : Wc} {rr : Nat} (hw : WM w rr) (a1 : Int32) (M : Mem) : Ct QV l y_M_strain b_M_strain 2 none (rmL 1) w [.ref (wad w 145), .int a1] M (f_M_strain rr a1 M) := by
  refine Ct.go (by decide) (L := [(0, .ref (wad w 145)), (1, .int a1)]) rfl (Nat.le_of_ble_eq_true rfl) (fun p0 e s m args below meth c g hret => ?_)
  unfold f_M_strain
  refine G_aload_n g (pc := 0) 0 d_M_strain_0 rfl rfl ?_
  refine G_getR g (pc := 1) fa_M_28 (hw.mm 145 (Nat.le_of_ble_eq_true rfl) (Nat.le_of_ble_eq_true rfl)) (hw.k (zk145 rr)) (hw.r hw.rr) d_M_strain_1 ?_
  refine G_bipush g (pc := 4) (9 : Int32) d_M_strain_4 rfl ?_
  refine G_dup2 g (pc := 6) d_M_strain_6 rfl rfl ?_
  refine G_ialdK g (pc := 7) (nn := 405) 9 rfl rfl hw.mr hw.kr hw.nr d_M_strain_7 ?_
  refine G_iconst g (pc := 8) (0 : Int32) d_M_strain_8 rfl ?_
  refine G_aload_n g (pc := 9) 0 d_M_strain_9 rfl rfl ?_
  refine G_iload_n g (pc := 10) 1 d_M_strain_10 rfl rfl ?_
  refine G_cVI g (pc := 11) (As := [.int a1]) (st := [.int (0 : Int32), .int (M rr 9), .int (9 : Int32), .ref (wad w rr)]) cc_M_110 (c_M_load l hw a1 M) (hw.mm 145 (Nat.le_of_ble_eq_true rfl) (Nat.le_of_ble_eq_true rfl)) (hw.k (zk145 rr)) rfl (by decide) rfl ⟨(Nat.le_of_ble_eq_true rfl), (Nat.le_of_ble_eq_true rfl)⟩ ⟨(Nat.le_of_ble_eq_true rfl), (Nat.le_of_ble_eq_true rfl)⟩ (Nat.le_of_ble_eq_true rfl) d_M_strain_11 (fun x1 M2 => ?_)
  refine G_aload_n g (pc := 14) 0 d_M_strain_14 rfl rfl ?_
  refine G_getR g (pc := 15) fa_M_28 (hw.mm 145 (Nat.le_of_ble_eq_true rfl) (Nat.le_of_ble_eq_true rfl)) (hw.k (zk145 rr)) (hw.r hw.rr) d_M_strain_15 ?_
  refine G_iconst g (pc := 18) (2 : Int32) d_M_strain_18 rfl ?_
  refine G_ialdK g (pc := 19) (nn := 405) 2 rfl rfl hw.mr hw.kr hw.nr d_M_strain_19 ?_
  refine G_isub g (pc := 20) d_M_strain_20 ?_
  refine G_cSI g (pc := 21) (As := [.int (0 : Int32), .int (x1 - (M2 rr 2))]) (st := [.int (M rr 9), .int (9 : Int32), .ref (wad w rr)]) cc_M_94 (c_M_most l hw (0 : Int32) (x1 - (M2 rr 2)) M2) rfl ⟨(Nat.le_of_ble_eq_true rfl), (Nat.le_of_ble_eq_true rfl)⟩ ⟨(Nat.le_of_ble_eq_true rfl), (Nat.le_of_ble_eq_true rfl)⟩ (Nat.le_of_ble_eq_true rfl) d_M_strain_21 (fun x3 M4 => ?_)
  refine G_iadd g (pc := 24) d_M_strain_24 ?_
  refine G_iastK g (pc := 25) (nn := 405) 9 rfl rfl hw.mr hw.kr hw.nr d_M_strain_25 ?_
  refine G_nmM (fun M5 => ?_)
  refine G_aload_n g (pc := 26) 0 d_M_strain_26 rfl rfl ?_
  refine G_getR g (pc := 27) fa_M_28 (hw.mm 145 (Nat.le_of_ble_eq_true rfl) (Nat.le_of_ble_eq_true rfl)) (hw.k (zk145 rr)) (hw.r hw.rr) d_M_strain_27 ?_
  refine G_bipush g (pc := 30) (9 : Int32) d_M_strain_30 rfl ?_
  refine G_ialdK g (pc := 32) (nn := 405) 9 rfl rfl hw.mr hw.kr hw.nr d_M_strain_32 ?_
  refine G_aload_n g (pc := 33) 0 d_M_strain_33 rfl rfl ?_
  refine G_getR g (pc := 34) fa_M_28 (hw.mm 145 (Nat.le_of_ble_eq_true rfl) (Nat.le_of_ble_eq_true rfl)) (hw.k (zk145 rr)) (hw.r hw.rr) d_M_strain_34 ?_
  refine G_iconst g (pc := 37) (3 : Int32) d_M_strain_37 rfl ?_
  refine G_ialdK g (pc := 38) (nn := 405) 3 rfl rfl hw.mr hw.kr hw.nr d_M_strain_38 ?_
  refine G_icmp_lt g (pc := 39) 47 d_M_strain_39 (by decide) ?_ ?_
  · exact G_return g (pc := 47) hret (Nat.le_of_ble_eq_true rfl) (Nat.le_of_ble_eq_true rfl) d_M_strain_47
  · refine G_aload_n g (pc := 42) 0 d_M_strain_42 rfl rfl ?_
    refine G_iload_n g (pc := 43) 1 d_M_strain_43 rfl rfl ?_
    refine G_cVV g (pc := 44) (As := [.int a1]) (st := []) cc_M_137 (c_M_snap l hw a1 M5) (hw.mm 145 (Nat.le_of_ble_eq_true rfl) (Nat.le_of_ble_eq_true rfl)) (hw.k (zk145 rr)) rfl (by decide) rfl ⟨(Nat.le_of_ble_eq_true rfl), (Nat.le_of_ble_eq_true rfl)⟩ ⟨(Nat.le_of_ble_eq_true rfl), (Nat.le_of_ble_eq_true rfl)⟩ (Nat.le_of_ble_eq_true rfl) d_M_strain_44 (fun M7 => ?_)
    exact G_return g (pc := 47) hret (Nat.le_of_ble_eq_true rfl) (Nat.le_of_ble_eq_true rfl) d_M_strain_47

theorem d_M_climb_0 : decode b_M_climb 0 = .ok (.aload_n 0, 1) := by decide +kernel
theorem d_M_climb_1 : decode b_M_climb 1 = .ok (.getfield 28, 3) := by decide +kernel
theorem d_M_climb_4 : decode b_M_climb 4 = .ok (.bipush 7, 2) := by decide +kernel
theorem d_M_climb_6 : decode b_M_climb 6 = .ok (.iaload, 1) := by decide +kernel
theorem d_M_climb_7 : decode b_M_climb 7 = .ok (.istore_n 2, 1) := by decide +kernel
theorem d_M_climb_8 : decode b_M_climb 8 = .ok (.aload_n 0, 1) := by decide +kernel
theorem d_M_climb_9 : decode b_M_climb 9 = .ok (.getfield 28, 3) := by decide +kernel
theorem d_M_climb_12 : decode b_M_climb 12 = .ok (.bipush 7, 2) := by decide +kernel
theorem d_M_climb_14 : decode b_M_climb 14 = .ok (.iload_n 1, 1) := by decide +kernel
theorem d_M_climb_15 : decode b_M_climb 15 = .ok (.iconst 5, 1) := by decide +kernel
theorem d_M_climb_16 : decode b_M_climb 16 = .ok (.if_icmp .lt 19, 3) := by decide +kernel
theorem d_M_climb_19 : decode b_M_climb 19 = .ok (.iload_n 2, 1) := by decide +kernel
theorem d_M_climb_20 : decode b_M_climb 20 = .ok (.iload_n 1, 1) := by decide +kernel
theorem d_M_climb_21 : decode b_M_climb 21 = .ok (.iadd, 1) := by decide +kernel
theorem d_M_climb_22 : decode b_M_climb 22 = .ok (.aload_n 0, 1) := by decide +kernel
theorem d_M_climb_23 : decode b_M_climb 23 = .ok (.getfield 28, 3) := by decide +kernel
theorem d_M_climb_26 : decode b_M_climb 26 = .ok (.bipush 8, 2) := by decide +kernel
theorem d_M_climb_28 : decode b_M_climb 28 = .ok (.iaload, 1) := by decide +kernel
theorem d_M_climb_29 : decode b_M_climb 29 = .ok (.invokestatic 140, 3) := by decide +kernel
theorem d_M_climb_32 : decode b_M_climb 32 = .ok (.goto 13, 3) := by decide +kernel
theorem d_M_climb_35 : decode b_M_climb 35 = .ok (.iconst 0, 1) := by decide +kernel
theorem d_M_climb_36 : decode b_M_climb 36 = .ok (.iload_n 2, 1) := by decide +kernel
theorem d_M_climb_37 : decode b_M_climb 37 = .ok (.bipush 6, 2) := by decide +kernel
theorem d_M_climb_39 : decode b_M_climb 39 = .ok (.iload_n 1, 1) := by decide +kernel
theorem d_M_climb_40 : decode b_M_climb 40 = .ok (.isub, 1) := by decide +kernel
theorem d_M_climb_41 : decode b_M_climb 41 = .ok (.isub, 1) := by decide +kernel
theorem d_M_climb_42 : decode b_M_climb 42 = .ok (.invokestatic 94, 3) := by decide +kernel
theorem d_M_climb_45 : decode b_M_climb 45 = .ok (.iastore, 1) := by decide +kernel
theorem d_M_climb_46 : decode b_M_climb 46 = .ok (.aload_n 0, 1) := by decide +kernel
theorem d_M_climb_47 : decode b_M_climb 47 = .ok (.getfield 28, 3) := by decide +kernel
theorem d_M_climb_50 : decode b_M_climb 50 = .ok (.bipush 7, 2) := by decide +kernel
theorem d_M_climb_52 : decode b_M_climb 52 = .ok (.iaload, 1) := by decide +kernel
theorem d_M_climb_53 : decode b_M_climb 53 = .ok (.ifCond .ne 11, 3) := by decide +kernel
theorem d_M_climb_56 : decode b_M_climb 56 = .ok (.aload_n 0, 1) := by decide +kernel
theorem d_M_climb_57 : decode b_M_climb 57 = .ok (.getfield 28, 3) := by decide +kernel
theorem d_M_climb_60 : decode b_M_climb 60 = .ok (.bipush 6, 2) := by decide +kernel
theorem d_M_climb_62 : decode b_M_climb 62 = .ok (.iconst 0, 1) := by decide +kernel
theorem d_M_climb_63 : decode b_M_climb 63 = .ok (.iastore, 1) := by decide +kernel
theorem d_M_climb_64 : decode b_M_climb 64 = .ok (.return_, 1) := by decide +kernel
theorem cc_M_140 : CS "KiteLoggerModel" 140 y_M_least b_M_least 2 (some .int) 2 := ⟨TT_in (i := 1711) (by decide +kernel) (by decide +kernel), TT_in (i := 1712) (by decide +kernel) (by decide +kernel), TT_in (i := 100) (by decide +kernel) (by decide +kernel), TT_in (i := 1713) (by decide +kernel) (by decide +kernel), ⟨by decide +kernel, by decide +kernel, by decide +kernel⟩⟩
def f_M_climb (rr : Nat) (a1 : Int32) (M : Mem) : Option (Mem) :=
  nm (M rr 7) fun (x1 : Int32) => if a1 < (5 : Int32) then (bnd (f_M_most (0 : Int32) (x1 - ((6 : Int32) - a1)) M) fun (x2 : Int32) (M3 : Mem) => nm (put M3 rr 7 x2) fun (M4 : Mem) => if (M4 rr 7) = 0 then (nm (put M4 rr 6 (0 : Int32)) fun (M5 : Mem) => some M5) else (some M4)) else (bnd (f_M_least (x1 + a1) (M rr 8) M) fun (x6 : Int32) (M7 : Mem) => nm (put M7 rr 7 x6) fun (M8 : Mem) => if (M8 rr 7) = 0 then (nm (put M8 rr 6 (0 : Int32)) fun (M9 : Mem) => some M9) else (some M8))
set_option maxHeartbeats 4000000 in
set_option maxRecDepth 100000 in
theorem c_M_climb (l : Launch) {w : Wc} {rr : Nat} (hw : WM w rr) (a1 : Int32) (M : Mem) : Ct QV l y_M_climb b_M_climb 3 none (rmL 1) w [.ref (wad w 145), .int a1] M (f_M_climb rr a1 M) := by
  refine Ct.go (by decide) (L := [(0, .ref (wad w 145)), (1, .int a1)]) rfl (Nat.le_of_ble_eq_true rfl) (fun p0 e s m args below meth c g hret => ?_)
  unfold f_M_climb
  refine G_aload_n g (pc := 0) 0 d_M_climb_0 rfl rfl ?_
  refine G_getR g (pc := 1) fa_M_28 (hw.mm 145 (Nat.le_of_ble_eq_true rfl) (Nat.le_of_ble_eq_true rfl)) (hw.k (zk145 rr)) (hw.r hw.rr) d_M_climb_1 ?_
  refine G_bipush g (pc := 4) (7 : Int32) d_M_climb_4 rfl ?_
  refine G_ialdK g (pc := 6) (nn := 405) 7 rfl rfl hw.mr hw.kr hw.nr d_M_climb_6 ?_
  refine G_nmI (fun x1 => ?_)
  refine G_istore_n g (pc := 7) _ d_M_climb_7 rfl (Nat.le_of_ble_eq_true rfl) rfl ?_
  refine G_aload_n g (pc := 8) 1 d_M_climb_8 rfl rfl ?_
  refine G_getR g (pc := 9) fa_M_28 (hw.mm 145 (Nat.le_of_ble_eq_true rfl) (Nat.le_of_ble_eq_true rfl)) (hw.k (zk145 rr)) (hw.r hw.rr) d_M_climb_9 ?_
  refine G_bipush g (pc := 12) (7 : Int32) d_M_climb_12 rfl ?_
  refine G_iload_n g (pc := 14) 2 d_M_climb_14 rfl rfl ?_
  refine G_iconst g (pc := 15) (5 : Int32) d_M_climb_15 rfl ?_
  refine G_icmp_lt g (pc := 16) 35 d_M_climb_16 (by decide) ?_ ?_
  · refine G_iconst g (pc := 35) (0 : Int32) d_M_climb_35 rfl ?_
    refine G_iload_n g (pc := 36) 0 d_M_climb_36 rfl rfl ?_
    refine G_bipush g (pc := 37) (6 : Int32) d_M_climb_37 rfl ?_
    refine G_iload_n g (pc := 39) 2 d_M_climb_39 rfl rfl ?_
    refine G_isub g (pc := 40) d_M_climb_40 ?_
    refine G_isub g (pc := 41) d_M_climb_41 ?_
    refine G_cSI g (pc := 42) (As := [.int (0 : Int32), .int (x1 - ((6 : Int32) - a1))]) (st := [.int (7 : Int32), .ref (wad w rr)]) cc_M_94 (c_M_most l hw (0 : Int32) (x1 - ((6 : Int32) - a1)) M) rfl ⟨(Nat.le_of_ble_eq_true rfl), (Nat.le_of_ble_eq_true rfl)⟩ ⟨(Nat.le_of_ble_eq_true rfl), (Nat.le_of_ble_eq_true rfl)⟩ (Nat.le_of_ble_eq_true rfl) d_M_climb_42 (fun x2 M3 => ?_)
    refine G_iastK g (pc := 45) (nn := 405) 7 rfl rfl hw.mr hw.kr hw.nr d_M_climb_45 ?_
    refine G_nmM (fun M4 => ?_)
    refine G_aload_n g (pc := 46) 1 d_M_climb_46 rfl rfl ?_
    refine G_getR g (pc := 47) fa_M_28 (hw.mm 145 (Nat.le_of_ble_eq_true rfl) (Nat.le_of_ble_eq_true rfl)) (hw.k (zk145 rr)) (hw.r hw.rr) d_M_climb_47 ?_
    refine G_bipush g (pc := 50) (7 : Int32) d_M_climb_50 rfl ?_
    refine G_ialdK g (pc := 52) (nn := 405) 7 rfl rfl hw.mr hw.kr hw.nr d_M_climb_52 ?_
    refine G_if_ne g (pc := 53) 64 d_M_climb_53 (by decide) ?_ ?_
    · refine G_aload_n g (pc := 56) 1 d_M_climb_56 rfl rfl ?_
      refine G_getR g (pc := 57) fa_M_28 (hw.mm 145 (Nat.le_of_ble_eq_true rfl) (Nat.le_of_ble_eq_true rfl)) (hw.k (zk145 rr)) (hw.r hw.rr) d_M_climb_57 ?_
      refine G_bipush g (pc := 60) (6 : Int32) d_M_climb_60 rfl ?_
      refine G_iconst g (pc := 62) (0 : Int32) d_M_climb_62 rfl ?_
      refine G_iastK g (pc := 63) (nn := 405) 6 rfl rfl hw.mr hw.kr hw.nr d_M_climb_63 ?_
      refine G_nmM (fun M5 => ?_)
      exact G_return g (pc := 64) hret (Nat.le_of_ble_eq_true rfl) (Nat.le_of_ble_eq_true rfl) d_M_climb_64
    · exact G_return g (pc := 64) hret (Nat.le_of_ble_eq_true rfl) (Nat.le_of_ble_eq_true rfl) d_M_climb_64
  · refine G_iload_n g (pc := 19) 0 d_M_climb_19 rfl rfl ?_
    refine G_iload_n g (pc := 20) 2 d_M_climb_20 rfl rfl ?_
    refine G_iadd g (pc := 21) d_M_climb_21 ?_
    refine G_aload_n g (pc := 22) 1 d_M_climb_22 rfl rfl ?_
    refine G_getR g (pc := 23) fa_M_28 (hw.mm 145 (Nat.le_of_ble_eq_true rfl) (Nat.le_of_ble_eq_true rfl)) (hw.k (zk145 rr)) (hw.r hw.rr) d_M_climb_23 ?_
    refine G_bipush g (pc := 26) (8 : Int32) d_M_climb_26 rfl ?_
    refine G_ialdK g (pc := 28) (nn := 405) 8 rfl rfl hw.mr hw.kr hw.nr d_M_climb_28 ?_
    refine G_cSI g (pc := 29) (As := [.int (x1 + a1), .int (M rr 8)]) (st := [.int (7 : Int32), .ref (wad w rr)]) cc_M_140 (c_M_least l hw (x1 + a1) (M rr 8) M) rfl ⟨(Nat.le_of_ble_eq_true rfl), (Nat.le_of_ble_eq_true rfl)⟩ ⟨(Nat.le_of_ble_eq_true rfl), (Nat.le_of_ble_eq_true rfl)⟩ (Nat.le_of_ble_eq_true rfl) d_M_climb_29 (fun x6 M7 => ?_)
    refine G_goto g (pc := 32) 45 d_M_climb_32 (by decide) ?_
    refine G_iastK g (pc := 45) (nn := 405) 7 rfl rfl hw.mr hw.kr hw.nr d_M_climb_45 ?_
    refine G_nmM (fun M8 => ?_)
    refine G_aload_n g (pc := 46) 1 d_M_climb_46 rfl rfl ?_
    refine G_getR g (pc := 47) fa_M_28 (hw.mm 145 (Nat.le_of_ble_eq_true rfl) (Nat.le_of_ble_eq_true rfl)) (hw.k (zk145 rr)) (hw.r hw.rr) d_M_climb_47 ?_
    refine G_bipush g (pc := 50) (7 : Int32) d_M_climb_50 rfl ?_
    refine G_ialdK g (pc := 52) (nn := 405) 7 rfl rfl hw.mr hw.kr hw.nr d_M_climb_52 ?_
    refine G_if_ne g (pc := 53) 64 d_M_climb_53 (by decide) ?_ ?_
    · refine G_aload_n g (pc := 56) 1 d_M_climb_56 rfl rfl ?_
      refine G_getR g (pc := 57) fa_M_28 (hw.mm 145 (Nat.le_of_ble_eq_true rfl) (Nat.le_of_ble_eq_true rfl)) (hw.k (zk145 rr)) (hw.r hw.rr) d_M_climb_57 ?_
      refine G_bipush g (pc := 60) (6 : Int32) d_M_climb_60 rfl ?_
      refine G_iconst g (pc := 62) (0 : Int32) d_M_climb_62 rfl ?_
      refine G_iastK g (pc := 63) (nn := 405) 6 rfl rfl hw.mr hw.kr hw.nr d_M_climb_63 ?_
      refine G_nmM (fun M9 => ?_)
      exact G_return g (pc := 64) hret (Nat.le_of_ble_eq_true rfl) (Nat.le_of_ble_eq_true rfl) d_M_climb_64
    · exact G_return g (pc := 64) hret (Nat.le_of_ble_eq_true rfl) (Nat.le_of_ble_eq_true rfl) d_M_climb_64

theorem d_M_makeSample_0 : decode b_M_makeSample 0 = .ok (.aload_n 0, 1) := by decide +kernel
theorem d_M_makeSample_1 : decode b_M_makeSample 1 = .ok (.getfield 28, 3) := by decide +kernel
theorem d_M_makeSample_4 : decode b_M_makeSample 4 = .ok (.bipush 17, 2) := by decide +kernel
theorem d_M_makeSample_6 : decode b_M_makeSample 6 = .ok (.iaload, 1) := by decide +kernel
theorem d_M_makeSample_7 : decode b_M_makeSample 7 = .ok (.bipush 30, 2) := by decide +kernel
theorem d_M_makeSample_9 : decode b_M_makeSample 9 = .ok (.if_icmp .ne 42, 3) := by decide +kernel
theorem d_M_makeSample_12 : decode b_M_makeSample 12 = .ok (.aload_n 0, 1) := by decide +kernel
theorem d_M_makeSample_13 : decode b_M_makeSample 13 = .ok (.getfield 28, 3) := by decide +kernel
theorem d_M_makeSample_16 : decode b_M_makeSample 16 = .ok (.bipush 17, 2) := by decide +kernel
theorem d_M_makeSample_18 : decode b_M_makeSample 18 = .ok (.dup2, 1) := by decide +kernel
theorem d_M_makeSample_19 : decode b_M_makeSample 19 = .ok (.iaload, 1) := by decide +kernel
theorem d_M_makeSample_20 : decode b_M_makeSample 20 = .ok (.iconst 1, 1) := by decide +kernel
theorem d_M_makeSample_21 : decode b_M_makeSample 21 = .ok (.isub, 1) := by decide +kernel
theorem d_M_makeSample_22 : decode b_M_makeSample 22 = .ok (.iastore, 1) := by decide +kernel
theorem d_M_makeSample_23 : decode b_M_makeSample 23 = .ok (.aload_n 0, 1) := by decide +kernel
theorem d_M_makeSample_24 : decode b_M_makeSample 24 = .ok (.getfield 28, 3) := by decide +kernel
theorem d_M_makeSample_27 : decode b_M_makeSample 27 = .ok (.bipush 20, 2) := by decide +kernel
theorem d_M_makeSample_29 : decode b_M_makeSample 29 = .ok (.dup2, 1) := by decide +kernel
theorem d_M_makeSample_30 : decode b_M_makeSample 30 = .ok (.iaload, 1) := by decide +kernel
theorem d_M_makeSample_31 : decode b_M_makeSample 31 = .ok (.iconst 1, 1) := by decide +kernel
theorem d_M_makeSample_32 : decode b_M_makeSample 32 = .ok (.iadd, 1) := by decide +kernel
theorem d_M_makeSample_33 : decode b_M_makeSample 33 = .ok (.iastore, 1) := by decide +kernel
theorem d_M_makeSample_34 : decode b_M_makeSample 34 = .ok (.aload_n 0, 1) := by decide +kernel
theorem d_M_makeSample_35 : decode b_M_makeSample 35 = .ok (.getfield 28, 3) := by decide +kernel
theorem d_M_makeSample_38 : decode b_M_makeSample 38 = .ok (.bipush 48, 2) := by decide +kernel
theorem d_M_makeSample_40 : decode b_M_makeSample 40 = .ok (.aload_n 0, 1) := by decide +kernel
theorem d_M_makeSample_41 : decode b_M_makeSample 41 = .ok (.getfield 28, 3) := by decide +kernel
theorem d_M_makeSample_44 : decode b_M_makeSample 44 = .ok (.bipush 45, 2) := by decide +kernel
theorem d_M_makeSample_46 : decode b_M_makeSample 46 = .ok (.bipush 87, 2) := by decide +kernel
theorem d_M_makeSample_48 : decode b_M_makeSample 48 = .ok (.invokestatic 131, 3) := by decide +kernel
theorem d_M_makeSample_51 : decode b_M_makeSample 51 = .ok (.bipush 45, 2) := by decide +kernel
theorem d_M_makeSample_53 : decode b_M_makeSample 53 = .ok (.iconst 3, 1) := by decide +kernel
theorem d_M_makeSample_54 : decode b_M_makeSample 54 = .ok (.aload_n 0, 1) := by decide +kernel
theorem d_M_makeSample_55 : decode b_M_makeSample 55 = .ok (.getfield 28, 3) := by decide +kernel
theorem d_M_makeSample_58 : decode b_M_makeSample 58 = .ok (.bipush 17, 2) := by decide +kernel
theorem d_M_makeSample_60 : decode b_M_makeSample 60 = .ok (.iaload, 1) := by decide +kernel
theorem d_M_makeSample_61 : decode b_M_makeSample 61 = .ok (.imul, 1) := by decide +kernel
theorem d_M_makeSample_62 : decode b_M_makeSample 62 = .ok (.iadd, 1) := by decide +kernel
theorem d_M_makeSample_63 : decode b_M_makeSample 63 = .ok (.istore_n 1, 1) := by decide +kernel
theorem d_M_makeSample_64 : decode b_M_makeSample 64 = .ok (.aload_n 0, 1) := by decide +kernel
theorem d_M_makeSample_65 : decode b_M_makeSample 65 = .ok (.getfield 28, 3) := by decide +kernel
theorem d_M_makeSample_68 : decode b_M_makeSample 68 = .ok (.iload_n 1, 1) := by decide +kernel
theorem d_M_makeSample_69 : decode b_M_makeSample 69 = .ok (.iconst 0, 1) := by decide +kernel
theorem d_M_makeSample_70 : decode b_M_makeSample 70 = .ok (.iadd, 1) := by decide +kernel
theorem d_M_makeSample_71 : decode b_M_makeSample 71 = .ok (.aload_n 0, 1) := by decide +kernel
theorem d_M_makeSample_72 : decode b_M_makeSample 72 = .ok (.getfield 28, 3) := by decide +kernel
theorem d_M_makeSample_75 : decode b_M_makeSample 75 = .ok (.iconst 0, 1) := by decide +kernel
theorem d_M_makeSample_76 : decode b_M_makeSample 76 = .ok (.iaload, 1) := by decide +kernel
theorem d_M_makeSample_77 : decode b_M_makeSample 77 = .ok (.iastore, 1) := by decide +kernel
theorem d_M_makeSample_78 : decode b_M_makeSample 78 = .ok (.aload_n 0, 1) := by decide +kernel
theorem d_M_makeSample_79 : decode b_M_makeSample 79 = .ok (.getfield 28, 3) := by decide +kernel
theorem d_M_makeSample_82 : decode b_M_makeSample 82 = .ok (.iload_n 1, 1) := by decide +kernel
theorem d_M_makeSample_83 : decode b_M_makeSample 83 = .ok (.iconst 1, 1) := by decide +kernel
theorem d_M_makeSample_84 : decode b_M_makeSample 84 = .ok (.iadd, 1) := by decide +kernel
theorem d_M_makeSample_85 : decode b_M_makeSample 85 = .ok (.aload_n 0, 1) := by decide +kernel
theorem d_M_makeSample_86 : decode b_M_makeSample 86 = .ok (.getfield 28, 3) := by decide +kernel
theorem d_M_makeSample_89 : decode b_M_makeSample 89 = .ok (.bipush 7, 2) := by decide +kernel
theorem d_M_makeSample_91 : decode b_M_makeSample 91 = .ok (.iaload, 1) := by decide +kernel
theorem d_M_makeSample_92 : decode b_M_makeSample 92 = .ok (.iastore, 1) := by decide +kernel
theorem d_M_makeSample_93 : decode b_M_makeSample 93 = .ok (.aload_n 0, 1) := by decide +kernel
theorem d_M_makeSample_94 : decode b_M_makeSample 94 = .ok (.getfield 28, 3) := by decide +kernel
theorem d_M_makeSample_97 : decode b_M_makeSample 97 = .ok (.iload_n 1, 1) := by decide +kernel
theorem d_M_makeSample_98 : decode b_M_makeSample 98 = .ok (.iconst 2, 1) := by decide +kernel
theorem d_M_makeSample_99 : decode b_M_makeSample 99 = .ok (.iadd, 1) := by decide +kernel
theorem d_M_makeSample_100 : decode b_M_makeSample 100 = .ok (.aload_n 0, 1) := by decide +kernel
theorem d_M_makeSample_101 : decode b_M_makeSample 101 = .ok (.invokevirtual 98, 3) := by decide +kernel
theorem d_M_makeSample_104 : decode b_M_makeSample 104 = .ok (.iastore, 1) := by decide +kernel
theorem d_M_makeSample_105 : decode b_M_makeSample 105 = .ok (.aload_n 0, 1) := by decide +kernel
theorem d_M_makeSample_106 : decode b_M_makeSample 106 = .ok (.getfield 28, 3) := by decide +kernel
theorem d_M_makeSample_109 : decode b_M_makeSample 109 = .ok (.bipush 17, 2) := by decide +kernel
theorem d_M_makeSample_111 : decode b_M_makeSample 111 = .ok (.dup2, 1) := by decide +kernel
theorem d_M_makeSample_112 : decode b_M_makeSample 112 = .ok (.iaload, 1) := by decide +kernel
theorem d_M_makeSample_113 : decode b_M_makeSample 113 = .ok (.iconst 1, 1) := by decide +kernel
theorem d_M_makeSample_114 : decode b_M_makeSample 114 = .ok (.iadd, 1) := by decide +kernel
theorem d_M_makeSample_115 : decode b_M_makeSample 115 = .ok (.iastore, 1) := by decide +kernel
theorem d_M_makeSample_116 : decode b_M_makeSample 116 = .ok (.aload_n 0, 1) := by decide +kernel
theorem d_M_makeSample_117 : decode b_M_makeSample 117 = .ok (.getfield 28, 3) := by decide +kernel
theorem d_M_makeSample_120 : decode b_M_makeSample 120 = .ok (.bipush 19, 2) := by decide +kernel
theorem d_M_makeSample_122 : decode b_M_makeSample 122 = .ok (.dup2, 1) := by decide +kernel
theorem d_M_makeSample_123 : decode b_M_makeSample 123 = .ok (.iaload, 1) := by decide +kernel
theorem d_M_makeSample_124 : decode b_M_makeSample 124 = .ok (.iconst 1, 1) := by decide +kernel
theorem d_M_makeSample_125 : decode b_M_makeSample 125 = .ok (.iadd, 1) := by decide +kernel
theorem d_M_makeSample_126 : decode b_M_makeSample 126 = .ok (.iastore, 1) := by decide +kernel
theorem d_M_makeSample_127 : decode b_M_makeSample 127 = .ok (.return_, 1) := by decide +kernel
def f_M_makeSample (N : Nat) (rr : Nat) (M : Mem) : Option (Mem) :=
  if (M rr 17) = (30 : Int32) then (nm (put M rr 17 ((M rr 17) - (1 : Int32))) fun (M1 : Mem) => nm (put M1 rr 20 ((M1 rr 20) + (1 : Int32))) fun (M2 : Mem) => grd (cpB (48 : Int32) (45 : Int32) (87 : Int32) 405 405) (nm (setR M2 rr (va_cpy (M2 rr) (M2 rr) (48 : Int32).toNatClampNeg (45 : Int32).toNatClampNeg (87 : Int32).toNatClampNeg)) fun (M3 : Mem) => nm ((45 : Int32) + ((3 : Int32) * (M3 rr 17))) fun (x4 : Int32) => grd (inB (x4 + (0 : Int32)) 405) (nm (put M3 rr (x4 + (0 : Int32)).toNatClampNeg (M3 rr 0)) fun (M5 : Mem) => grd (inB (x4 + (1 : Int32)) 405) (nm (put M5 rr (x4 + (1 : Int32)).toNatClampNeg (M5 rr 7)) fun (M6 : Mem) => bnd (f_M_greatest N rr M6) fun (x7 : Int32) (M8 : Mem) => grd (inB (x4 + (2 : Int32)) 405) (nm (put M8 rr (x4 + (2 : Int32)).toNatClampNeg x7) fun (M9 : Mem) => nm (put M9 rr 17 ((M9 rr 17) + (1 : Int32))) fun (M10 : Mem) => nm (put M10 rr 19 ((M10 rr 19) + (1 : Int32))) fun (M11 : Mem) => some M11))))) else (nm ((45 : Int32) + ((3 : Int32) * (M rr 17))) fun (x12 : Int32) => grd (inB (x12 + (0 : Int32)) 405) (nm (put M rr (x12 + (0 : Int32)).toNatClampNeg (M rr 0)) fun (M13 : Mem) => grd (inB (x12 + (1 : Int32)) 405) (nm (put M13 rr (x12 + (1 : Int32)).toNatClampNeg (M13 rr 7)) fun (M14 : Mem) => bnd (f_M_greatest N rr M14) fun (x15 : Int32) (M16 : Mem) => grd (inB (x12 + (2 : Int32)) 405) (nm (put M16 rr (x12 + (2 : Int32)).toNatClampNeg x15) fun (M17 : Mem) => nm (put M17 rr 17 ((M17 rr 17) + (1 : Int32))) fun (M18 : Mem) => nm (put M18 rr 19 ((M18 rr 19) + (1 : Int32))) fun (M19 : Mem) => some M19))))
set_option maxHeartbeats 4000000 in
set_option maxRecDepth 100000 in
theorem c_M_makeSample (l : Launch) (N : Nat) {w : Wc} {rr : Nat} (hw : WM w rr)  (M : Mem) : Ct QV l y_M_makeSample b_M_makeSample 2 none (rmL 2) w [.ref (wad w 145)] M (f_M_makeSample N rr M) := by
  refine Ct.go (by decide) (L := [(0, .ref (wad w 145))]) rfl (Nat.le_of_ble_eq_true rfl) (fun p0 e s m args below meth c g hret => ?_)
  unfold f_M_makeSample
  refine G_aload_n g (pc := 0) 0 d_M_makeSample_0 rfl rfl ?_
  refine G_getR g (pc := 1) fa_M_28 (hw.mm 145 (Nat.le_of_ble_eq_true rfl) (Nat.le_of_ble_eq_true rfl)) (hw.k (zk145 rr)) (hw.r hw.rr) d_M_makeSample_1 ?_
  refine G_bipush g (pc := 4) (17 : Int32) d_M_makeSample_4 rfl ?_
  refine G_ialdK g (pc := 6) (nn := 405) 17 rfl rfl hw.mr hw.kr hw.nr d_M_makeSample_6 ?_
  refine G_bipush g (pc := 7) (30 : Int32) d_M_makeSample_7 rfl ?_
  refine G_icmp_ne g (pc := 9) 51 d_M_makeSample_9 (by decide) ?_ ?_
  · refine G_aload_n g (pc := 12) 0 d_M_makeSample_12 rfl rfl ?_
    refine G_getR g (pc := 13) fa_M_28 (hw.mm 145 (Nat.le_of_ble_eq_true rfl) (Nat.le_of_ble_eq_true rfl)) (hw.k (zk145 rr)) (hw.r hw.rr) d_M_makeSample_13 ?_
    refine G_bipush g (pc := 16) (17 : Int32) d_M_makeSample_16 rfl ?_
    refine G_dup2 g (pc := 18) d_M_makeSample_18 rfl rfl ?_
    refine G_ialdK g (pc := 19) (nn := 405) 17 rfl rfl hw.mr hw.kr hw.nr d_M_makeSample_19 ?_
    refine G_iconst g (pc := 20) (1 : Int32) d_M_makeSample_20 rfl ?_
    refine G_isub g (pc := 21) d_M_makeSample_21 ?_
    refine G_iastK g (pc := 22) (nn := 405) 17 rfl rfl hw.mr hw.kr hw.nr d_M_makeSample_22 ?_
    refine G_nmM (fun M1 => ?_)
    refine G_aload_n g (pc := 23) 0 d_M_makeSample_23 rfl rfl ?_
    refine G_getR g (pc := 24) fa_M_28 (hw.mm 145 (Nat.le_of_ble_eq_true rfl) (Nat.le_of_ble_eq_true rfl)) (hw.k (zk145 rr)) (hw.r hw.rr) d_M_makeSample_24 ?_
    refine G_bipush g (pc := 27) (20 : Int32) d_M_makeSample_27 rfl ?_
    refine G_dup2 g (pc := 29) d_M_makeSample_29 rfl rfl ?_
    refine G_ialdK g (pc := 30) (nn := 405) 20 rfl rfl hw.mr hw.kr hw.nr d_M_makeSample_30 ?_
    refine G_iconst g (pc := 31) (1 : Int32) d_M_makeSample_31 rfl ?_
    refine G_iadd g (pc := 32) d_M_makeSample_32 ?_
    refine G_iastK g (pc := 33) (nn := 405) 20 rfl rfl hw.mr hw.kr hw.nr d_M_makeSample_33 ?_
    refine G_nmM (fun M2 => ?_)
    refine G_aload_n g (pc := 34) 0 d_M_makeSample_34 rfl rfl ?_
    refine G_getR g (pc := 35) fa_M_28 (hw.mm 145 (Nat.le_of_ble_eq_true rfl) (Nat.le_of_ble_eq_true rfl)) (hw.k (zk145 rr)) (hw.r hw.rr) d_M_makeSample_35 ?_
    refine G_bipush g (pc := 38) (48 : Int32) d_M_makeSample_38 rfl ?_
    refine G_aload_n g (pc := 40) 0 d_M_makeSample_40 rfl rfl ?_
    refine G_getR g (pc := 41) fa_M_28 (hw.mm 145 (Nat.le_of_ble_eq_true rfl) (Nat.le_of_ble_eq_true rfl)) (hw.k (zk145 rr)) (hw.r hw.rr) d_M_makeSample_41 ?_
    refine G_bipush g (pc := 44) (45 : Int32) d_M_makeSample_44 rfl ?_
    refine G_bipush g (pc := 46) (87 : Int32) d_M_makeSample_46 rfl ?_
    refine G_copy g (pc := 48) (n0 := 405) (n1 := 405) ma_M_131 ⟨(Nat.le_of_ble_eq_true rfl), (Nat.le_of_ble_eq_true rfl)⟩ hw.mr hw.kr hw.nr hw.mr hw.kr hw.nr d_M_makeSample_48 ?_
    refine G_nmM (fun M3 => ?_)
    refine G_bipush g (pc := 51) (45 : Int32) d_M_makeSample_51 rfl ?_
    refine G_iconst g (pc := 53) (3 : Int32) d_M_makeSample_53 rfl ?_
    refine G_aload_n g (pc := 54) 0 d_M_makeSample_54 rfl rfl ?_
    refine G_getR g (pc := 55) fa_M_28 (hw.mm 145 (Nat.le_of_ble_eq_true rfl) (Nat.le_of_ble_eq_true rfl)) (hw.k (zk145 rr)) (hw.r hw.rr) d_M_makeSample_55 ?_
    refine G_bipush g (pc := 58) (17 : Int32) d_M_makeSample_58 rfl ?_
    refine G_ialdK g (pc := 60) (nn := 405) 17 rfl rfl hw.mr hw.kr hw.nr d_M_makeSample_60 ?_
    refine G_imul g (pc := 61) d_M_makeSample_61 ?_
    refine G_iadd g (pc := 62) d_M_makeSample_62 ?_
    refine G_nmI (fun x4 => ?_)
    refine G_istore_n g (pc := 63) _ d_M_makeSample_63 rfl (Nat.le_of_ble_eq_true rfl) rfl ?_
    refine G_aload_n g (pc := 64) 1 d_M_makeSample_64 rfl rfl ?_
    refine G_getR g (pc := 65) fa_M_28 (hw.mm 145 (Nat.le_of_ble_eq_true rfl) (Nat.le_of_ble_eq_true rfl)) (hw.k (zk145 rr)) (hw.r hw.rr) d_M_makeSample_65 ?_
    refine G_iload_n g (pc := 68) 0 d_M_makeSample_68 rfl rfl ?_
    refine G_iconst g (pc := 69) (0 : Int32) d_M_makeSample_69 rfl ?_
    refine G_iadd g (pc := 70) d_M_makeSample_70 ?_
    refine G_aload_n g (pc := 71) 1 d_M_makeSample_71 rfl rfl ?_
    refine G_getR g (pc := 72) fa_M_28 (hw.mm 145 (Nat.le_of_ble_eq_true rfl) (Nat.le_of_ble_eq_true rfl)) (hw.k (zk145 rr)) (hw.r hw.rr) d_M_makeSample_72 ?_
    refine G_iconst g (pc := 75) (0 : Int32) d_M_makeSample_75 rfl ?_
    refine G_ialdK g (pc := 76) (nn := 405) 0 rfl rfl hw.mr hw.kr hw.nr d_M_makeSample_76 ?_
    refine G_iast g (pc := 77) (nn := 405) hw.mr hw.kr hw.nr d_M_makeSample_77 ?_
    refine G_nmM (fun M5 => ?_)
    refine G_aload_n g (pc := 78) 1 d_M_makeSample_78 rfl rfl ?_
    refine G_getR g (pc := 79) fa_M_28 (hw.mm 145 (Nat.le_of_ble_eq_true rfl) (Nat.le_of_ble_eq_true rfl)) (hw.k (zk145 rr)) (hw.r hw.rr) d_M_makeSample_79 ?_
    refine G_iload_n g (pc := 82) 0 d_M_makeSample_82 rfl rfl ?_
    refine G_iconst g (pc := 83) (1 : Int32) d_M_makeSample_83 rfl ?_
    refine G_iadd g (pc := 84) d_M_makeSample_84 ?_
    refine G_aload_n g (pc := 85) 1 d_M_makeSample_85 rfl rfl ?_
    refine G_getR g (pc := 86) fa_M_28 (hw.mm 145 (Nat.le_of_ble_eq_true rfl) (Nat.le_of_ble_eq_true rfl)) (hw.k (zk145 rr)) (hw.r hw.rr) d_M_makeSample_86 ?_
    refine G_bipush g (pc := 89) (7 : Int32) d_M_makeSample_89 rfl ?_
    refine G_ialdK g (pc := 91) (nn := 405) 7 rfl rfl hw.mr hw.kr hw.nr d_M_makeSample_91 ?_
    refine G_iast g (pc := 92) (nn := 405) hw.mr hw.kr hw.nr d_M_makeSample_92 ?_
    refine G_nmM (fun M6 => ?_)
    refine G_aload_n g (pc := 93) 1 d_M_makeSample_93 rfl rfl ?_
    refine G_getR g (pc := 94) fa_M_28 (hw.mm 145 (Nat.le_of_ble_eq_true rfl) (Nat.le_of_ble_eq_true rfl)) (hw.k (zk145 rr)) (hw.r hw.rr) d_M_makeSample_94 ?_
    refine G_iload_n g (pc := 97) 0 d_M_makeSample_97 rfl rfl ?_
    refine G_iconst g (pc := 98) (2 : Int32) d_M_makeSample_98 rfl ?_
    refine G_iadd g (pc := 99) d_M_makeSample_99 ?_
    refine G_aload_n g (pc := 100) 1 d_M_makeSample_100 rfl rfl ?_
    refine G_cVI g (pc := 101) (As := []) (st := [.int (x4 + (2 : Int32)), .ref (wad w rr)]) cc_M_98 (c_M_greatest l N hw M6) (hw.mm 145 (Nat.le_of_ble_eq_true rfl) (Nat.le_of_ble_eq_true rfl)) (hw.k (zk145 rr)) rfl (by decide) rfl ⟨(Nat.le_of_ble_eq_true rfl), (Nat.le_of_ble_eq_true rfl)⟩ ⟨(Nat.le_of_ble_eq_true rfl), (Nat.le_of_ble_eq_true rfl)⟩ (Nat.le_of_ble_eq_true rfl) d_M_makeSample_101 (fun x7 M8 => ?_)
    refine G_iast g (pc := 104) (nn := 405) hw.mr hw.kr hw.nr d_M_makeSample_104 ?_
    refine G_nmM (fun M9 => ?_)
    refine G_aload_n g (pc := 105) 1 d_M_makeSample_105 rfl rfl ?_
    refine G_getR g (pc := 106) fa_M_28 (hw.mm 145 (Nat.le_of_ble_eq_true rfl) (Nat.le_of_ble_eq_true rfl)) (hw.k (zk145 rr)) (hw.r hw.rr) d_M_makeSample_106 ?_
    refine G_bipush g (pc := 109) (17 : Int32) d_M_makeSample_109 rfl ?_
    refine G_dup2 g (pc := 111) d_M_makeSample_111 rfl rfl ?_
    refine G_ialdK g (pc := 112) (nn := 405) 17 rfl rfl hw.mr hw.kr hw.nr d_M_makeSample_112 ?_
    refine G_iconst g (pc := 113) (1 : Int32) d_M_makeSample_113 rfl ?_
    refine G_iadd g (pc := 114) d_M_makeSample_114 ?_
    refine G_iastK g (pc := 115) (nn := 405) 17 rfl rfl hw.mr hw.kr hw.nr d_M_makeSample_115 ?_
    refine G_nmM (fun M10 => ?_)
    refine G_aload_n g (pc := 116) 1 d_M_makeSample_116 rfl rfl ?_
    refine G_getR g (pc := 117) fa_M_28 (hw.mm 145 (Nat.le_of_ble_eq_true rfl) (Nat.le_of_ble_eq_true rfl)) (hw.k (zk145 rr)) (hw.r hw.rr) d_M_makeSample_117 ?_
    refine G_bipush g (pc := 120) (19 : Int32) d_M_makeSample_120 rfl ?_
    refine G_dup2 g (pc := 122) d_M_makeSample_122 rfl rfl ?_
    refine G_ialdK g (pc := 123) (nn := 405) 19 rfl rfl hw.mr hw.kr hw.nr d_M_makeSample_123 ?_
    refine G_iconst g (pc := 124) (1 : Int32) d_M_makeSample_124 rfl ?_
    refine G_iadd g (pc := 125) d_M_makeSample_125 ?_
    refine G_iastK g (pc := 126) (nn := 405) 19 rfl rfl hw.mr hw.kr hw.nr d_M_makeSample_126 ?_
    refine G_nmM (fun M11 => ?_)
    exact G_return g (pc := 127) hret (Nat.le_of_ble_eq_true rfl) (Nat.le_of_ble_eq_true rfl) d_M_makeSample_127
  · refine G_bipush g (pc := 51) (45 : Int32) d_M_makeSample_51 rfl ?_
    refine G_iconst g (pc := 53) (3 : Int32) d_M_makeSample_53 rfl ?_
    refine G_aload_n g (pc := 54) 0 d_M_makeSample_54 rfl rfl ?_
    refine G_getR g (pc := 55) fa_M_28 (hw.mm 145 (Nat.le_of_ble_eq_true rfl) (Nat.le_of_ble_eq_true rfl)) (hw.k (zk145 rr)) (hw.r hw.rr) d_M_makeSample_55 ?_
    refine G_bipush g (pc := 58) (17 : Int32) d_M_makeSample_58 rfl ?_
    refine G_ialdK g (pc := 60) (nn := 405) 17 rfl rfl hw.mr hw.kr hw.nr d_M_makeSample_60 ?_
    refine G_imul g (pc := 61) d_M_makeSample_61 ?_
    refine G_iadd g (pc := 62) d_M_makeSample_62 ?_
    refine G_nmI (fun x12 => ?_)
    refine G_istore_n g (pc := 63) _ d_M_makeSample_63 rfl (Nat.le_of_ble_eq_true rfl) rfl ?_
    refine G_aload_n g (pc := 64) 1 d_M_makeSample_64 rfl rfl ?_
    refine G_getR g (pc := 65) fa_M_28 (hw.mm 145 (Nat.le_of_ble_eq_true rfl) (Nat.le_of_ble_eq_true rfl)) (hw.k (zk145 rr)) (hw.r hw.rr) d_M_makeSample_65 ?_
    refine G_iload_n g (pc := 68) 0 d_M_makeSample_68 rfl rfl ?_
    refine G_iconst g (pc := 69) (0 : Int32) d_M_makeSample_69 rfl ?_
    refine G_iadd g (pc := 70) d_M_makeSample_70 ?_
    refine G_aload_n g (pc := 71) 1 d_M_makeSample_71 rfl rfl ?_
    refine G_getR g (pc := 72) fa_M_28 (hw.mm 145 (Nat.le_of_ble_eq_true rfl) (Nat.le_of_ble_eq_true rfl)) (hw.k (zk145 rr)) (hw.r hw.rr) d_M_makeSample_72 ?_
    refine G_iconst g (pc := 75) (0 : Int32) d_M_makeSample_75 rfl ?_
    refine G_ialdK g (pc := 76) (nn := 405) 0 rfl rfl hw.mr hw.kr hw.nr d_M_makeSample_76 ?_
    refine G_iast g (pc := 77) (nn := 405) hw.mr hw.kr hw.nr d_M_makeSample_77 ?_
    refine G_nmM (fun M13 => ?_)
    refine G_aload_n g (pc := 78) 1 d_M_makeSample_78 rfl rfl ?_
    refine G_getR g (pc := 79) fa_M_28 (hw.mm 145 (Nat.le_of_ble_eq_true rfl) (Nat.le_of_ble_eq_true rfl)) (hw.k (zk145 rr)) (hw.r hw.rr) d_M_makeSample_79 ?_
    refine G_iload_n g (pc := 82) 0 d_M_makeSample_82 rfl rfl ?_
    refine G_iconst g (pc := 83) (1 : Int32) d_M_makeSample_83 rfl ?_
    refine G_iadd g (pc := 84) d_M_makeSample_84 ?_
    refine G_aload_n g (pc := 85) 1 d_M_makeSample_85 rfl rfl ?_
    refine G_getR g (pc := 86) fa_M_28 (hw.mm 145 (Nat.le_of_ble_eq_true rfl) (Nat.le_of_ble_eq_true rfl)) (hw.k (zk145 rr)) (hw.r hw.rr) d_M_makeSample_86 ?_
    refine G_bipush g (pc := 89) (7 : Int32) d_M_makeSample_89 rfl ?_
    refine G_ialdK g (pc := 91) (nn := 405) 7 rfl rfl hw.mr hw.kr hw.nr d_M_makeSample_91 ?_
    refine G_iast g (pc := 92) (nn := 405) hw.mr hw.kr hw.nr d_M_makeSample_92 ?_
    refine G_nmM (fun M14 => ?_)
    refine G_aload_n g (pc := 93) 1 d_M_makeSample_93 rfl rfl ?_
    refine G_getR g (pc := 94) fa_M_28 (hw.mm 145 (Nat.le_of_ble_eq_true rfl) (Nat.le_of_ble_eq_true rfl)) (hw.k (zk145 rr)) (hw.r hw.rr) d_M_makeSample_94 ?_
    refine G_iload_n g (pc := 97) 0 d_M_makeSample_97 rfl rfl ?_
    refine G_iconst g (pc := 98) (2 : Int32) d_M_makeSample_98 rfl ?_
    refine G_iadd g (pc := 99) d_M_makeSample_99 ?_
    refine G_aload_n g (pc := 100) 1 d_M_makeSample_100 rfl rfl ?_
    refine G_cVI g (pc := 101) (As := []) (st := [.int (x12 + (2 : Int32)), .ref (wad w rr)]) cc_M_98 (c_M_greatest l N hw M14) (hw.mm 145 (Nat.le_of_ble_eq_true rfl) (Nat.le_of_ble_eq_true rfl)) (hw.k (zk145 rr)) rfl (by decide) rfl ⟨(Nat.le_of_ble_eq_true rfl), (Nat.le_of_ble_eq_true rfl)⟩ ⟨(Nat.le_of_ble_eq_true rfl), (Nat.le_of_ble_eq_true rfl)⟩ (Nat.le_of_ble_eq_true rfl) d_M_makeSample_101 (fun x15 M16 => ?_)
    refine G_iast g (pc := 104) (nn := 405) hw.mr hw.kr hw.nr d_M_makeSample_104 ?_
    refine G_nmM (fun M17 => ?_)
    refine G_aload_n g (pc := 105) 1 d_M_makeSample_105 rfl rfl ?_
    refine G_getR g (pc := 106) fa_M_28 (hw.mm 145 (Nat.le_of_ble_eq_true rfl) (Nat.le_of_ble_eq_true rfl)) (hw.k (zk145 rr)) (hw.r hw.rr) d_M_makeSample_106 ?_
    refine G_bipush g (pc := 109) (17 : Int32) d_M_makeSample_109 rfl ?_
    refine G_dup2 g (pc := 111) d_M_makeSample_111 rfl rfl ?_
    refine G_ialdK g (pc := 112) (nn := 405) 17 rfl rfl hw.mr hw.kr hw.nr d_M_makeSample_112 ?_
    refine G_iconst g (pc := 113) (1 : Int32) d_M_makeSample_113 rfl ?_
    refine G_iadd g (pc := 114) d_M_makeSample_114 ?_
    refine G_iastK g (pc := 115) (nn := 405) 17 rfl rfl hw.mr hw.kr hw.nr d_M_makeSample_115 ?_
    refine G_nmM (fun M18 => ?_)
    refine G_aload_n g (pc := 116) 1 d_M_makeSample_116 rfl rfl ?_
    refine G_getR g (pc := 117) fa_M_28 (hw.mm 145 (Nat.le_of_ble_eq_true rfl) (Nat.le_of_ble_eq_true rfl)) (hw.k (zk145 rr)) (hw.r hw.rr) d_M_makeSample_117 ?_
    refine G_bipush g (pc := 120) (19 : Int32) d_M_makeSample_120 rfl ?_
    refine G_dup2 g (pc := 122) d_M_makeSample_122 rfl rfl ?_
    refine G_ialdK g (pc := 123) (nn := 405) 19 rfl rfl hw.mr hw.kr hw.nr d_M_makeSample_123 ?_
    refine G_iconst g (pc := 124) (1 : Int32) d_M_makeSample_124 rfl ?_
    refine G_iadd g (pc := 125) d_M_makeSample_125 ?_
    refine G_iastK g (pc := 126) (nn := 405) 19 rfl rfl hw.mr hw.kr hw.nr d_M_makeSample_126 ?_
    refine G_nmM (fun M19 => ?_)
    exact G_return g (pc := 127) hret (Nat.le_of_ble_eq_true rfl) (Nat.le_of_ble_eq_true rfl) d_M_makeSample_127

theorem d_M_fly_0 : decode b_M_fly 0 = .ok (.aload_n 0, 1) := by decide +kernel
theorem d_M_fly_1 : decode b_M_fly 1 = .ok (.aload_n 0, 1) := by decide +kernel
theorem d_M_fly_2 : decode b_M_fly 2 = .ok (.getfield 28, 3) := by decide +kernel
theorem d_M_fly_5 : decode b_M_fly 5 = .ok (.bipush 7, 2) := by decide +kernel
theorem d_M_fly_7 : decode b_M_fly 7 = .ok (.iaload, 1) := by decide +kernel
theorem d_M_fly_8 : decode b_M_fly 8 = .ok (.invokevirtual 91, 3) := by decide +kernel
theorem d_M_fly_11 : decode b_M_fly 11 = .ok (.istore_n 1, 1) := by decide +kernel
theorem d_M_fly_12 : decode b_M_fly 12 = .ok (.aload_n 0, 1) := by decide +kernel
theorem d_M_fly_13 : decode b_M_fly 13 = .ok (.getfield 28, 3) := by decide +kernel
theorem d_M_fly_16 : decode b_M_fly 16 = .ok (.bipush 12, 2) := by decide +kernel
theorem d_M_fly_18 : decode b_M_fly 18 = .ok (.dup2, 1) := by decide +kernel
theorem d_M_fly_19 : decode b_M_fly 19 = .ok (.iaload, 1) := by decide +kernel
theorem d_M_fly_20 : decode b_M_fly 20 = .ok (.iconst 1, 1) := by decide +kernel
theorem d_M_fly_21 : decode b_M_fly 21 = .ok (.iadd, 1) := by decide +kernel
theorem d_M_fly_22 : decode b_M_fly 22 = .ok (.iastore, 1) := by decide +kernel
theorem d_M_fly_23 : decode b_M_fly 23 = .ok (.aload_n 0, 1) := by decide +kernel
theorem d_M_fly_24 : decode b_M_fly 24 = .ok (.iload_n 1, 1) := by decide +kernel
theorem d_M_fly_25 : decode b_M_fly 25 = .ok (.invokevirtual 143, 3) := by decide +kernel
theorem d_M_fly_28 : decode b_M_fly 28 = .ok (.aload_n 0, 1) := by decide +kernel
theorem d_M_fly_29 : decode b_M_fly 29 = .ok (.iload_n 1, 1) := by decide +kernel
theorem d_M_fly_30 : decode b_M_fly 30 = .ok (.invokevirtual 146, 3) := by decide +kernel
theorem d_M_fly_33 : decode b_M_fly 33 = .ok (.aload_n 0, 1) := by decide +kernel
theorem d_M_fly_34 : decode b_M_fly 34 = .ok (.iconst 1, 1) := by decide +kernel
theorem d_M_fly_35 : decode b_M_fly 35 = .ok (.invokevirtual 106, 3) := by decide +kernel
theorem d_M_fly_38 : decode b_M_fly 38 = .ok (.ifCond .eq 8, 3) := by decide +kernel
theorem d_M_fly_41 : decode b_M_fly 41 = .ok (.aload_n 0, 1) := by decide +kernel
theorem d_M_fly_42 : decode b_M_fly 42 = .ok (.iload_n 1, 1) := by decide +kernel
theorem d_M_fly_43 : decode b_M_fly 43 = .ok (.invokevirtual 149, 3) := by decide +kernel
theorem d_M_fly_46 : decode b_M_fly 46 = .ok (.aload_n 0, 1) := by decide +kernel
theorem d_M_fly_47 : decode b_M_fly 47 = .ok (.iconst 1, 1) := by decide +kernel
theorem d_M_fly_48 : decode b_M_fly 48 = .ok (.invokevirtual 106, 3) := by decide +kernel
theorem d_M_fly_51 : decode b_M_fly 51 = .ok (.ifCond .eq 24, 3) := by decide +kernel
theorem d_M_fly_54 : decode b_M_fly 54 = .ok (.aload_n 0, 1) := by decide +kernel
theorem d_M_fly_55 : decode b_M_fly 55 = .ok (.getfield 28, 3) := by decide +kernel
theorem d_M_fly_58 : decode b_M_fly 58 = .ok (.bipush 12, 2) := by decide +kernel
theorem d_M_fly_60 : decode b_M_fly 60 = .ok (.iaload, 1) := by decide +kernel
theorem d_M_fly_61 : decode b_M_fly 61 = .ok (.aload_n 0, 1) := by decide +kernel
theorem d_M_fly_62 : decode b_M_fly 62 = .ok (.getfield 28, 3) := by decide +kernel
theorem d_M_fly_65 : decode b_M_fly 65 = .ok (.iconst 4, 1) := by decide +kernel
theorem d_M_fly_66 : decode b_M_fly 66 = .ok (.iaload, 1) := by decide +kernel
theorem d_M_fly_67 : decode b_M_fly 67 = .ok (.irem, 1) := by decide +kernel
theorem d_M_fly_68 : decode b_M_fly 68 = .ok (.ifCond .ne 7, 3) := by decide +kernel
theorem d_M_fly_71 : decode b_M_fly 71 = .ok (.aload_n 0, 1) := by decide +kernel
theorem d_M_fly_72 : decode b_M_fly 72 = .ok (.invokevirtual 152, 3) := by decide +kernel
theorem d_M_fly_75 : decode b_M_fly 75 = .ok (.return_, 1) := by decide +kernel
theorem cc_M_143 : CV "KiteLoggerModel" 143 y_M_bufferWind b_M_bufferWind 2 none 1 := ⟨TT_in (i := 1695) (by decide +kernel) (by decide +kernel), TT_in (i := 1697) (by decide +kernel) (by decide +kernel), TT_in (i := 41) (by decide +kernel) (by decide +kernel), TT_in (i := 100) (by decide +kernel) (by decide +kernel), TT_in (i := 1698) (by decide +kernel) (by decide +kernel), ⟨by decide +kernel, by decide +kernel, by decide +kernel⟩⟩
theorem cc_M_146 : CV "KiteLoggerModel" 146 y_M_strain b_M_strain 2 none 1 := ⟨TT_in (i := 1699) (by decide +kernel) (by decide +kernel), TT_in (i := 1701) (by decide +kernel) (by decide +kernel), TT_in (i := 42) (by decide +kernel) (by decide +kernel), TT_in (i := 100) (by decide +kernel) (by decide +kernel), TT_in (i := 1702) (by decide +kernel) (by decide +kernel), ⟨by decide +kernel, by decide +kernel, by decide +kernel⟩⟩
theorem cc_M_149 : CV "KiteLoggerModel" 149 y_M_climb b_M_climb 3 none 1 := ⟨TT_in (i := 1707) (by decide +kernel) (by decide +kernel), TT_in (i := 1709) (by decide +kernel) (by decide +kernel), TT_in (i := 44) (by decide +kernel) (by decide +kernel), TT_in (i := 100) (by decide +kernel) (by decide +kernel), TT_in (i := 1710) (by decide +kernel) (by decide +kernel), ⟨by decide +kernel, by decide +kernel, by decide +kernel⟩⟩
theorem cc_M_152 : CV "KiteLoggerModel" 152 y_M_makeSample b_M_makeSample 2 none 0 := ⟨TT_in (i := 1714) (by decide +kernel) (by decide +kernel), TT_in (i := 1716) (by decide +kernel) (by decide +kernel), TT_in (i := 45) (by decide +kernel) (by decide +kernel), TT_in (i := 100) (by decide +kernel) (by decide +kernel), TT_in (i := 1717) (by decide +kernel) (by decide +kernel), ⟨by decide +kernel, by decide +kernel, by decide +kernel⟩⟩
def f_M_fly (N : Nat) (rr : Nat) (M : Mem) : Option (Mem) :=
  bnd (f_M_windNow rr (M rr 7) M) fun (x1 : Int32) (M2 : Mem) => nm (put M2 rr 12 ((M2 rr 12) + (1 : Int32))) fun (M3 : Mem) => bndM (f_M_bufferWind rr x1 M3) fun (M5 : Mem) => bndM (f_M_strain rr x1 M5) fun (M7 : Mem) => bnd (f_M_is rr (1 : Int32) M7) fun (x8 : Bool) (M9 : Mem) => if x8 = true then (bndM (f_M_climb rr x1 M9) fun (M11 : Mem) => bnd (f_M_is rr (1 : Int32) M11) fun (x12 : Bool) (M13 : Mem) => if x12 = true then (grd (nzB (M13 rr 4)) (if (irm (M13 rr 12) (M13 rr 4)) = 0 then (bndM (f_M_makeSample N rr M13) fun (M15 : Mem) => some M15) else (some M13))) else (some M13)) else (bnd (f_M_is rr (1 : Int32) M9) fun (x16 : Bool) (M17 : Mem) => if x16 = true then (grd (nzB (M17 rr 4)) (if (irm (M17 rr 12) (M17 rr 4)) = 0 then (bndM (f_M_makeSample N rr M17) fun (M19 : Mem) => some M19) else (some M17))) else (some M17))
set_option maxHeartbeats 4000000 in
set_option maxRecDepth 100000 in
theorem c_M_fly (l : Launch) (N : Nat) {w : Wc} {rr : Nat} (hw : WM w rr)  (M : Mem) : Ct QV l y_M_fly b_M_fly 2 none (rmL 3) w [.ref (wad w 145)] M (f_M_fly N rr M) := by
  refine Ct.go (by decide) (L := [(0, .ref (wad w 145))]) rfl (Nat.le_of_ble_eq_true rfl) (fun p0 e s m args below meth c g hret => ?_)
  unfold f_M_fly
  refine G_aload_n g (pc := 0) 0 d_M_fly_0 rfl rfl ?_
  refine G_aload_n g (pc := 1) 0 d_M_fly_1 rfl rfl ?_
  refine G_getR g (pc := 2) fa_M_28 (hw.mm 145 (Nat.le_of_ble_eq_true rfl) (Nat.le_of_ble_eq_true rfl)) (hw.k (zk145 rr)) (hw.r hw.rr) d_M_fly_2 ?_
  refine G_bipush g (pc := 5) (7 : Int32) d_M_fly_5 rfl ?_
  refine G_ialdK g (pc := 7) (nn := 405) 7 rfl rfl hw.mr hw.kr hw.nr d_M_fly_7 ?_
  refine G_cVI g (pc := 8) (As := [.int (M rr 7)]) (st := []) cc_M_91 (c_M_windNow l hw (M rr 7) M) (hw.mm 145 (Nat.le_of_ble_eq_true rfl) (Nat.le_of_ble_eq_true rfl)) (hw.k (zk145 rr)) rfl (by decide) rfl ⟨(Nat.le_of_ble_eq_true rfl), (Nat.le_of_ble_eq_true rfl)⟩ ⟨(Nat.le_of_ble_eq_true rfl), (Nat.le_of_ble_eq_true rfl)⟩ (Nat.le_of_ble_eq_true rfl) d_M_fly_8 (fun x1 M2 => ?_)
  refine G_istore_n g (pc := 11) _ d_M_fly_11 rfl (Nat.le_of_ble_eq_true rfl) rfl ?_
  refine G_aload_n g (pc := 12) 1 d_M_fly_12 rfl rfl ?_
  refine G_getR g (pc := 13) fa_M_28 (hw.mm 145 (Nat.le_of_ble_eq_true rfl) (Nat.le_of_ble_eq_true rfl)) (hw.k (zk145 rr)) (hw.r hw.rr) d_M_fly_13 ?_
  refine G_bipush g (pc := 16) (12 : Int32) d_M_fly_16 rfl ?_
  refine G_dup2 g (pc := 18) d_M_fly_18 rfl rfl ?_
  refine G_ialdK g (pc := 19) (nn := 405) 12 rfl rfl hw.mr hw.kr hw.nr d_M_fly_19 ?_
  refine G_iconst g (pc := 20) (1 : Int32) d_M_fly_20 rfl ?_
  refine G_iadd g (pc := 21) d_M_fly_21 ?_
  refine G_iastK g (pc := 22) (nn := 405) 12 rfl rfl hw.mr hw.kr hw.nr d_M_fly_22 ?_
  refine G_nmM (fun M3 => ?_)
  refine G_aload_n g (pc := 23) 1 d_M_fly_23 rfl rfl ?_
  refine G_iload_n g (pc := 24) 0 d_M_fly_24 rfl rfl ?_
  refine G_cVV g (pc := 25) (As := [.int x1]) (st := []) cc_M_143 (c_M_bufferWind l hw x1 M3) (hw.mm 145 (Nat.le_of_ble_eq_true rfl) (Nat.le_of_ble_eq_true rfl)) (hw.k (zk145 rr)) rfl (by decide) rfl ⟨(Nat.le_of_ble_eq_true rfl), (Nat.le_of_ble_eq_true rfl)⟩ ⟨(Nat.le_of_ble_eq_true rfl), (Nat.le_of_ble_eq_true rfl)⟩ (Nat.le_of_ble_eq_true rfl) d_M_fly_25 (fun M5 => ?_)
  refine G_aload_n g (pc := 28) 1 d_M_fly_28 rfl rfl ?_
  refine G_iload_n g (pc := 29) 0 d_M_fly_29 rfl rfl ?_
  refine G_cVV g (pc := 30) (As := [.int x1]) (st := []) cc_M_146 (c_M_strain l hw x1 M5) (hw.mm 145 (Nat.le_of_ble_eq_true rfl) (Nat.le_of_ble_eq_true rfl)) (hw.k (zk145 rr)) rfl (by decide) rfl ⟨(Nat.le_of_ble_eq_true rfl), (Nat.le_of_ble_eq_true rfl)⟩ ⟨(Nat.le_of_ble_eq_true rfl), (Nat.le_of_ble_eq_true rfl)⟩ (Nat.le_of_ble_eq_true rfl) d_M_fly_30 (fun M7 => ?_)
  refine G_aload_n g (pc := 33) 1 d_M_fly_33 rfl rfl ?_
  refine G_iconst g (pc := 34) (1 : Int32) d_M_fly_34 rfl ?_
  refine G_cVZ g (pc := 35) (As := [.int (1 : Int32)]) (st := []) cc_M_106 (c_M_is l hw (1 : Int32) M7) (hw.mm 145 (Nat.le_of_ble_eq_true rfl) (Nat.le_of_ble_eq_true rfl)) (hw.k (zk145 rr)) rfl (by decide) rfl ⟨(Nat.le_of_ble_eq_true rfl), (Nat.le_of_ble_eq_true rfl)⟩ ⟨(Nat.le_of_ble_eq_true rfl), (Nat.le_of_ble_eq_true rfl)⟩ (Nat.le_of_ble_eq_true rfl) d_M_fly_35 (fun x8 M9 => ?_)
  refine G_if_eqB g (pc := 38) 46 d_M_fly_38 (by decide) ?_ ?_
  · refine G_aload_n g (pc := 41) 1 d_M_fly_41 rfl rfl ?_
    refine G_iload_n g (pc := 42) 0 d_M_fly_42 rfl rfl ?_
    refine G_cVV g (pc := 43) (As := [.int x1]) (st := []) cc_M_149 (c_M_climb l hw x1 M9) (hw.mm 145 (Nat.le_of_ble_eq_true rfl) (Nat.le_of_ble_eq_true rfl)) (hw.k (zk145 rr)) rfl (by decide) rfl ⟨(Nat.le_of_ble_eq_true rfl), (Nat.le_of_ble_eq_true rfl)⟩ ⟨(Nat.le_of_ble_eq_true rfl), (Nat.le_of_ble_eq_true rfl)⟩ (Nat.le_of_ble_eq_true rfl) d_M_fly_43 (fun M11 => ?_)
    refine G_aload_n g (pc := 46) 1 d_M_fly_46 rfl rfl ?_
    refine G_iconst g (pc := 47) (1 : Int32) d_M_fly_47 rfl ?_
    refine G_cVZ g (pc := 48) (As := [.int (1 : Int32)]) (st := []) cc_M_106 (c_M_is l hw (1 : Int32) M11) (hw.mm 145 (Nat.le_of_ble_eq_true rfl) (Nat.le_of_ble_eq_true rfl)) (hw.k (zk145 rr)) rfl (by decide) rfl ⟨(Nat.le_of_ble_eq_true rfl), (Nat.le_of_ble_eq_true rfl)⟩ ⟨(Nat.le_of_ble_eq_true rfl), (Nat.le_of_ble_eq_true rfl)⟩ (Nat.le_of_ble_eq_true rfl) d_M_fly_48 (fun x12 M13 => ?_)
    refine G_if_eqB g (pc := 51) 75 d_M_fly_51 (by decide) ?_ ?_
    · refine G_aload_n g (pc := 54) 1 d_M_fly_54 rfl rfl ?_
      refine G_getR g (pc := 55) fa_M_28 (hw.mm 145 (Nat.le_of_ble_eq_true rfl) (Nat.le_of_ble_eq_true rfl)) (hw.k (zk145 rr)) (hw.r hw.rr) d_M_fly_55 ?_
      refine G_bipush g (pc := 58) (12 : Int32) d_M_fly_58 rfl ?_
      refine G_ialdK g (pc := 60) (nn := 405) 12 rfl rfl hw.mr hw.kr hw.nr d_M_fly_60 ?_
      refine G_aload_n g (pc := 61) 1 d_M_fly_61 rfl rfl ?_
      refine G_getR g (pc := 62) fa_M_28 (hw.mm 145 (Nat.le_of_ble_eq_true rfl) (Nat.le_of_ble_eq_true rfl)) (hw.k (zk145 rr)) (hw.r hw.rr) d_M_fly_62 ?_
      refine G_iconst g (pc := 65) (4 : Int32) d_M_fly_65 rfl ?_
      refine G_ialdK g (pc := 66) (nn := 405) 4 rfl rfl hw.mr hw.kr hw.nr d_M_fly_66 ?_
      refine G_irem g (pc := 67) d_M_fly_67 ?_
      refine G_if_ne g (pc := 68) 75 d_M_fly_68 (by decide) ?_ ?_
      · refine G_aload_n g (pc := 71) 1 d_M_fly_71 rfl rfl ?_
        refine G_cVV g (pc := 72) (As := []) (st := []) cc_M_152 (c_M_makeSample l N hw M13) (hw.mm 145 (Nat.le_of_ble_eq_true rfl) (Nat.le_of_ble_eq_true rfl)) (hw.k (zk145 rr)) rfl (by decide) rfl ⟨(Nat.le_of_ble_eq_true rfl), (Nat.le_of_ble_eq_true rfl)⟩ ⟨(Nat.le_of_ble_eq_true rfl), (Nat.le_of_ble_eq_true rfl)⟩ (Nat.le_of_ble_eq_true rfl) d_M_fly_72 (fun M15 => ?_)
        exact G_return g (pc := 75) hret (Nat.le_of_ble_eq_true rfl) (Nat.le_of_ble_eq_true rfl) d_M_fly_75
      · exact G_return g (pc := 75) hret (Nat.le_of_ble_eq_true rfl) (Nat.le_of_ble_eq_true rfl) d_M_fly_75
    · exact G_return g (pc := 75) hret (Nat.le_of_ble_eq_true rfl) (Nat.le_of_ble_eq_true rfl) d_M_fly_75
  · refine G_aload_n g (pc := 46) 1 d_M_fly_46 rfl rfl ?_
    refine G_iconst g (pc := 47) (1 : Int32) d_M_fly_47 rfl ?_
    refine G_cVZ g (pc := 48) (As := [.int (1 : Int32)]) (st := []) cc_M_106 (c_M_is l hw (1 : Int32) M9) (hw.mm 145 (Nat.le_of_ble_eq_true rfl) (Nat.le_of_ble_eq_true rfl)) (hw.k (zk145 rr)) rfl (by decide) rfl ⟨(Nat.le_of_ble_eq_true rfl), (Nat.le_of_ble_eq_true rfl)⟩ ⟨(Nat.le_of_ble_eq_true rfl), (Nat.le_of_ble_eq_true rfl)⟩ (Nat.le_of_ble_eq_true rfl) d_M_fly_48 (fun x16 M17 => ?_)
    refine G_if_eqB g (pc := 51) 75 d_M_fly_51 (by decide) ?_ ?_
    · refine G_aload_n g (pc := 54) 1 d_M_fly_54 rfl rfl ?_
      refine G_getR g (pc := 55) fa_M_28 (hw.mm 145 (Nat.le_of_ble_eq_true rfl) (Nat.le_of_ble_eq_true rfl)) (hw.k (zk145 rr)) (hw.r hw.rr) d_M_fly_55 ?_
      refine G_bipush g (pc := 58) (12 : Int32) d_M_fly_58 rfl ?_
      refine G_ialdK g (pc := 60) (nn := 405) 12 rfl rfl hw.mr hw.kr hw.nr d_M_fly_60 ?_
      refine G_aload_n g (pc := 61) 1 d_M_fly_61 rfl rfl ?_
      refine G_getR g (pc := 62) fa_M_28 (hw.mm 145 (Nat.le_of_ble_eq_true rfl) (Nat.le_of_ble_eq_true rfl)) (hw.k (zk145 rr)) (hw.r hw.rr) d_M_fly_62 ?_
      refine G_iconst g (pc := 65) (4 : Int32) d_M_fly_65 rfl ?_
      refine G_ialdK g (pc := 66) (nn := 405) 4 rfl rfl hw.mr hw.kr hw.nr d_M_fly_66 ?_
      refine G_irem g (pc := 67) d_M_fly_67 ?_
      refine G_if_ne g (pc := 68) 75 d_M_fly_68 (by decide) ?_ ?_
      · refine G_aload_n g (pc := 71) 1 d_M_fly_71 rfl rfl ?_
        refine G_cVV g (pc := 72) (As := []) (st := []) cc_M_152 (c_M_makeSample l N hw M17) (hw.mm 145 (Nat.le_of_ble_eq_true rfl) (Nat.le_of_ble_eq_true rfl)) (hw.k (zk145 rr)) rfl (by decide) rfl ⟨(Nat.le_of_ble_eq_true rfl), (Nat.le_of_ble_eq_true rfl)⟩ ⟨(Nat.le_of_ble_eq_true rfl), (Nat.le_of_ble_eq_true rfl)⟩ (Nat.le_of_ble_eq_true rfl) d_M_fly_72 (fun M19 => ?_)
        exact G_return g (pc := 75) hret (Nat.le_of_ble_eq_true rfl) (Nat.le_of_ble_eq_true rfl) d_M_fly_75
      · exact G_return g (pc := 75) hret (Nat.le_of_ble_eq_true rfl) (Nat.le_of_ble_eq_true rfl) d_M_fly_75
    · exact G_return g (pc := 75) hret (Nat.le_of_ble_eq_true rfl) (Nat.le_of_ble_eq_true rfl) d_M_fly_75

theorem d_M_passTick_0 : decode b_M_passTick 0 = .ok (.aload_n 0, 1) := by decide +kernel
theorem d_M_passTick_1 : decode b_M_passTick 1 = .ok (.getfield 28, 3) := by decide +kernel
theorem d_M_passTick_4 : decode b_M_passTick 4 = .ok (.iconst 0, 1) := by decide +kernel
theorem d_M_passTick_5 : decode b_M_passTick 5 = .ok (.iaload, 1) := by decide +kernel
theorem d_M_passTick_6 : decode b_M_passTick 6 = .ok (.sipush 10000, 3) := by decide +kernel
theorem d_M_passTick_9 : decode b_M_passTick 9 = .ok (.if_icmp .ne 4, 3) := by decide +kernel
theorem d_M_passTick_12 : decode b_M_passTick 12 = .ok (.return_, 1) := by decide +kernel
theorem d_M_passTick_13 : decode b_M_passTick 13 = .ok (.aload_n 0, 1) := by decide +kernel
theorem d_M_passTick_14 : decode b_M_passTick 14 = .ok (.iconst 2, 1) := by decide +kernel
theorem d_M_passTick_15 : decode b_M_passTick 15 = .ok (.invokevirtual 106, 3) := by decide +kernel
theorem d_M_passTick_18 : decode b_M_passTick 18 = .ok (.ifCond .eq 26, 3) := by decide +kernel
theorem d_M_passTick_21 : decode b_M_passTick 21 = .ok (.aload_n 0, 1) := by decide +kernel
theorem d_M_passTick_22 : decode b_M_passTick 22 = .ok (.getfield 28, 3) := by decide +kernel
theorem d_M_passTick_25 : decode b_M_passTick 25 = .ok (.bipush 11, 2) := by decide +kernel
theorem d_M_passTick_27 : decode b_M_passTick 27 = .ok (.iconst 0, 1) := by decide +kernel
theorem d_M_passTick_28 : decode b_M_passTick 28 = .ok (.aload_n 0, 1) := by decide +kernel
theorem d_M_passTick_29 : decode b_M_passTick 29 = .ok (.getfield 28, 3) := by decide +kernel
theorem d_M_passTick_32 : decode b_M_passTick 32 = .ok (.bipush 11, 2) := by decide +kernel
theorem d_M_passTick_34 : decode b_M_passTick 34 = .ok (.iaload, 1) := by decide +kernel
theorem d_M_passTick_35 : decode b_M_passTick 35 = .ok (.iconst 1, 1) := by decide +kernel
theorem d_M_passTick_36 : decode b_M_passTick 36 = .ok (.isub, 1) := by decide +kernel
theorem d_M_passTick_37 : decode b_M_passTick 37 = .ok (.invokestatic 94, 3) := by decide +kernel
theorem d_M_passTick_40 : decode b_M_passTick 40 = .ok (.iastore, 1) := by decide +kernel
theorem d_M_passTick_41 : decode b_M_passTick 41 = .ok (.goto 15, 3) := by decide +kernel
theorem d_M_passTick_44 : decode b_M_passTick 44 = .ok (.aload_n 0, 1) := by decide +kernel
theorem d_M_passTick_45 : decode b_M_passTick 45 = .ok (.iconst 1, 1) := by decide +kernel
theorem d_M_passTick_46 : decode b_M_passTick 46 = .ok (.invokevirtual 106, 3) := by decide +kernel
theorem d_M_passTick_49 : decode b_M_passTick 49 = .ok (.ifCond .eq 7, 3) := by decide +kernel
theorem d_M_passTick_52 : decode b_M_passTick 52 = .ok (.aload_n 0, 1) := by decide +kernel
theorem d_M_passTick_53 : decode b_M_passTick 53 = .ok (.invokevirtual 155, 3) := by decide +kernel
theorem d_M_passTick_56 : decode b_M_passTick 56 = .ok (.aload_n 0, 1) := by decide +kernel
theorem d_M_passTick_57 : decode b_M_passTick 57 = .ok (.getfield 28, 3) := by decide +kernel
theorem d_M_passTick_60 : decode b_M_passTick 60 = .ok (.iconst 0, 1) := by decide +kernel
theorem d_M_passTick_61 : decode b_M_passTick 61 = .ok (.dup2, 1) := by decide +kernel
theorem d_M_passTick_62 : decode b_M_passTick 62 = .ok (.iaload, 1) := by decide +kernel
theorem d_M_passTick_63 : decode b_M_passTick 63 = .ok (.iconst 1, 1) := by decide +kernel
theorem d_M_passTick_64 : decode b_M_passTick 64 = .ok (.iadd, 1) := by decide +kernel
theorem d_M_passTick_65 : decode b_M_passTick 65 = .ok (.iastore, 1) := by decide +kernel
theorem d_M_passTick_66 : decode b_M_passTick 66 = .ok (.return_, 1) := by decide +kernel
theorem cc_M_155 : CV "KiteLoggerModel" 155 y_M_fly b_M_fly 2 none 0 := ⟨TT_in (i := 1691) (by decide +kernel) (by decide +kernel), TT_in (i := 1693) (by decide +kernel) (by decide +kernel), TT_in (i := 40) (by decide +kernel) (by decide +kernel), TT_in (i := 100) (by decide +kernel) (by decide +kernel), TT_in (i := 1694) (by decide +kernel) (by decide +kernel), ⟨by decide +kernel, by decide +kernel, by decide +kernel⟩⟩
def f_M_passTick (N : Nat) (rr : Nat) (M : Mem) : Option (Mem) :=
  if (M rr 0) = (10000 : Int32) then (some M) else (bnd (f_M_is rr (2 : Int32) M) fun (x1 : Bool) (M2 : Mem) => if x1 = true then (bnd (f_M_most (0 : Int32) ((M2 rr 11) - (1 : Int32)) M2) fun (x3 : Int32) (M4 : Mem) => nm (put M4 rr 11 x3) fun (M5 : Mem) => nm (put M5 rr 0 ((M5 rr 0) + (1 : Int32))) fun (M6 : Mem) => some M6) else (bnd (f_M_is rr (1 : Int32) M2) fun (x7 : Bool) (M8 : Mem) => if x7 = true then (bndM (f_M_fly N rr M8) fun (M10 : Mem) => nm (put M10 rr 0 ((M10 rr 0) + (1 : Int32))) fun (M11 : Mem) => some M11) else (nm (put M8 rr 0 ((M8 rr 0) + (1 : Int32))) fun (M12 : Mem) => some M12)))
set_option maxHeartbeats 4000000 in
set_option maxRecDepth 100000 in
theorem c_M_passTick (l : Launch) (N : Nat) {w : Wc} {rr : Nat} (hw : WM w rr)  (M : Mem) : Ct QV l y_M_passTick b_M_passTick 1 none (rmL 4) w [.ref (wad w 145)] M (f_M_passTick N rr M) := by
  refine Ct.go (by decide) (L := [(0, .ref (wad w 145))]) rfl (Nat.le_of_ble_eq_true rfl) (fun p0 e s m args below meth c g hret => ?_)
  unfold f_M_passTick
  refine G_aload_n g (pc := 0) 0 d_M_passTick_0 rfl rfl ?_
  refine G_getR g (pc := 1) fa_M_28 (hw.mm 145 (Nat.le_of_ble_eq_true rfl) (Nat.le_of_ble_eq_true rfl)) (hw.k (zk145 rr)) (hw.r hw.rr) d_M_passTick_1 ?_
  refine G_iconst g (pc := 4) (0 : Int32) d_M_passTick_4 rfl ?_
  refine G_ialdK g (pc := 5) (nn := 405) 0 rfl rfl hw.mr hw.kr hw.nr d_M_passTick_5 ?_
  refine G_sipush g (pc := 6) (10000 : Int32) d_M_passTick_6 rfl ?_
  refine G_icmp_ne g (pc := 9) 13 d_M_passTick_9 (by decide) ?_ ?_
  · exact G_return g (pc := 12) hret (Nat.le_of_ble_eq_true rfl) (Nat.le_of_ble_eq_true rfl) d_M_passTick_12
  · refine G_aload_n g (pc := 13) 0 d_M_passTick_13 rfl rfl ?_
    refine G_iconst g (pc := 14) (2 : Int32) d_M_passTick_14 rfl ?_
    refine G_cVZ g (pc := 15) (As := [.int (2 : Int32)]) (st := []) cc_M_106 (c_M_is l hw (2 : Int32) M) (hw.mm 145 (Nat.le_of_ble_eq_true rfl) (Nat.le_of_ble_eq_true rfl)) (hw.k (zk145 rr)) rfl (by decide) rfl ⟨(Nat.le_of_ble_eq_true rfl), (Nat.le_of_ble_eq_true rfl)⟩ ⟨(Nat.le_of_ble_eq_true rfl), (Nat.le_of_ble_eq_true rfl)⟩ (Nat.le_of_ble_eq_true rfl) d_M_passTick_15 (fun x1 M2 => ?_)
    refine G_if_eqB g (pc := 18) 44 d_M_passTick_18 (by decide) ?_ ?_
    · refine G_aload_n g (pc := 21) 0 d_M_passTick_21 rfl rfl ?_
      refine G_getR g (pc := 22) fa_M_28 (hw.mm 145 (Nat.le_of_ble_eq_true rfl) (Nat.le_of_ble_eq_true rfl)) (hw.k (zk145 rr)) (hw.r hw.rr) d_M_passTick_22 ?_
      refine G_bipush g (pc := 25) (11 : Int32) d_M_passTick_25 rfl ?_
      refine G_iconst g (pc := 27) (0 : Int32) d_M_passTick_27 rfl ?_
      refine G_aload_n g (pc := 28) 0 d_M_passTick_28 rfl rfl ?_
      refine G_getR g (pc := 29) fa_M_28 (hw.mm 145 (Nat.le_of_ble_eq_true rfl) (Nat.le_of_ble_eq_true rfl)) (hw.k (zk145 rr)) (hw.r hw.rr) d_M_passTick_29 ?_
      refine G_bipush g (pc := 32) (11 : Int32) d_M_passTick_32 rfl ?_
      refine G_ialdK g (pc := 34) (nn := 405) 11 rfl rfl hw.mr hw.kr hw.nr d_M_passTick_34 ?_
      refine G_iconst g (pc := 35) (1 : Int32) d_M_passTick_35 rfl ?_
      refine G_isub g (pc := 36) d_M_passTick_36 ?_
      refine G_cSI g (pc := 37) (As := [.int (0 : Int32), .int ((M2 rr 11) - (1 : Int32))]) (st := [.int (11 : Int32), .ref (wad w rr)]) cc_M_94 (c_M_most l hw (0 : Int32) ((M2 rr 11) - (1 : Int32)) M2) rfl ⟨(Nat.le_of_ble_eq_true rfl), (Nat.le_of_ble_eq_true rfl)⟩ ⟨(Nat.le_of_ble_eq_true rfl), (Nat.le_of_ble_eq_true rfl)⟩ (Nat.le_of_ble_eq_true rfl) d_M_passTick_37 (fun x3 M4 => ?_)
      refine G_iastK g (pc := 40) (nn := 405) 11 rfl rfl hw.mr hw.kr hw.nr d_M_passTick_40 ?_
      refine G_nmM (fun M5 => ?_)
      refine G_goto g (pc := 41) 56 d_M_passTick_41 (by decide) ?_
      refine G_aload_n g (pc := 56) 0 d_M_passTick_56 rfl rfl ?_
      refine G_getR g (pc := 57) fa_M_28 (hw.mm 145 (Nat.le_of_ble_eq_true rfl) (Nat.le_of_ble_eq_true rfl)) (hw.k (zk145 rr)) (hw.r hw.rr) d_M_passTick_57 ?_
      refine G_iconst g (pc := 60) (0 : Int32) d_M_passTick_60 rfl ?_
      refine G_dup2 g (pc := 61) d_M_passTick_61 rfl rfl ?_
      refine G_ialdK g (pc := 62) (nn := 405) 0 rfl rfl hw.mr hw.kr hw.nr d_M_passTick_62 ?_
      refine G_iconst g (pc := 63) (1 : Int32) d_M_passTick_63 rfl ?_
      refine G_iadd g (pc := 64) d_M_passTick_64 ?_
      refine G_iastK g (pc := 65) (nn := 405) 0 rfl rfl hw.mr hw.kr hw.nr d_M_passTick_65 ?_
      refine G_nmM (fun M6 => ?_)
      exact G_return g (pc := 66) hret (Nat.le_of_ble_eq_true rfl) (Nat.le_of_ble_eq_true rfl) d_M_passTick_66
    · refine G_aload_n g (pc := 44) 0 d_M_passTick_44 rfl rfl ?_
      refine G_iconst g (pc := 45) (1 : Int32) d_M_passTick_45 rfl ?_
      refine G_cVZ g (pc := 46) (As := [.int (1 : Int32)]) (st := []) cc_M_106 (c_M_is l hw (1 : Int32) M2) (hw.mm 145 (Nat.le_of_ble_eq_true rfl) (Nat.le_of_ble_eq_true rfl)) (hw.k (zk145 rr)) rfl (by decide) rfl ⟨(Nat.le_of_ble_eq_true rfl), (Nat.le_of_ble_eq_true rfl)⟩ ⟨(Nat.le_of_ble_eq_true rfl), (Nat.le_of_ble_eq_true rfl)⟩ (Nat.le_of_ble_eq_true rfl) d_M_passTick_46 (fun x7 M8 => ?_)
      refine G_if_eqB g (pc := 49) 56 d_M_passTick_49 (by decide) ?_ ?_
      · refine G_aload_n g (pc := 52) 0 d_M_passTick_52 rfl rfl ?_
        refine G_cVV g (pc := 53) (As := []) (st := []) cc_M_155 (c_M_fly l N hw M8) (hw.mm 145 (Nat.le_of_ble_eq_true rfl) (Nat.le_of_ble_eq_true rfl)) (hw.k (zk145 rr)) rfl (by decide) rfl ⟨(Nat.le_of_ble_eq_true rfl), (Nat.le_of_ble_eq_true rfl)⟩ ⟨(Nat.le_of_ble_eq_true rfl), (Nat.le_of_ble_eq_true rfl)⟩ (Nat.le_of_ble_eq_true rfl) d_M_passTick_53 (fun M10 => ?_)
        refine G_aload_n g (pc := 56) 0 d_M_passTick_56 rfl rfl ?_
        refine G_getR g (pc := 57) fa_M_28 (hw.mm 145 (Nat.le_of_ble_eq_true rfl) (Nat.le_of_ble_eq_true rfl)) (hw.k (zk145 rr)) (hw.r hw.rr) d_M_passTick_57 ?_
        refine G_iconst g (pc := 60) (0 : Int32) d_M_passTick_60 rfl ?_
        refine G_dup2 g (pc := 61) d_M_passTick_61 rfl rfl ?_
        refine G_ialdK g (pc := 62) (nn := 405) 0 rfl rfl hw.mr hw.kr hw.nr d_M_passTick_62 ?_
        refine G_iconst g (pc := 63) (1 : Int32) d_M_passTick_63 rfl ?_
        refine G_iadd g (pc := 64) d_M_passTick_64 ?_
        refine G_iastK g (pc := 65) (nn := 405) 0 rfl rfl hw.mr hw.kr hw.nr d_M_passTick_65 ?_
        refine G_nmM (fun M11 => ?_)
        exact G_return g (pc := 66) hret (Nat.le_of_ble_eq_true rfl) (Nat.le_of_ble_eq_true rfl) d_M_passTick_66
      · refine G_aload_n g (pc := 56) 0 d_M_passTick_56 rfl rfl ?_
        refine G_getR g (pc := 57) fa_M_28 (hw.mm 145 (Nat.le_of_ble_eq_true rfl) (Nat.le_of_ble_eq_true rfl)) (hw.k (zk145 rr)) (hw.r hw.rr) d_M_passTick_57 ?_
        refine G_iconst g (pc := 60) (0 : Int32) d_M_passTick_60 rfl ?_
        refine G_dup2 g (pc := 61) d_M_passTick_61 rfl rfl ?_
        refine G_ialdK g (pc := 62) (nn := 405) 0 rfl rfl hw.mr hw.kr hw.nr d_M_passTick_62 ?_
        refine G_iconst g (pc := 63) (1 : Int32) d_M_passTick_63 rfl ?_
        refine G_iadd g (pc := 64) d_M_passTick_64 ?_
        refine G_iastK g (pc := 65) (nn := 405) 0 rfl rfl hw.mr hw.kr hw.nr d_M_passTick_65 ?_
        refine G_nmM (fun M12 => ?_)
        exact G_return g (pc := 66) hret (Nat.le_of_ble_eq_true rfl) (Nat.le_of_ble_eq_true rfl) d_M_passTick_66

theorem d_M_pass_0 : decode b_M_pass 0 = .ok (.iconst 0, 1) := by decide +kernel
theorem d_M_pass_1 : decode b_M_pass 1 = .ok (.istore_n 2, 1) := by decide +kernel
theorem d_M_pass_2 : decode b_M_pass 2 = .ok (.iload_n 2, 1) := by decide +kernel
theorem d_M_pass_3 : decode b_M_pass 3 = .ok (.iload_n 1, 1) := by decide +kernel
theorem d_M_pass_4 : decode b_M_pass 4 = .ok (.if_icmp .ge 13, 3) := by decide +kernel
theorem d_M_pass_7 : decode b_M_pass 7 = .ok (.aload_n 0, 1) := by decide +kernel
theorem d_M_pass_8 : decode b_M_pass 8 = .ok (.invokevirtual 158, 3) := by decide +kernel
theorem d_M_pass_11 : decode b_M_pass 11 = .ok (.iinc 2 1, 3) := by decide +kernel
theorem d_M_pass_14 : decode b_M_pass 14 = .ok (.goto (-12), 3) := by decide +kernel
theorem d_M_pass_17 : decode b_M_pass 17 = .ok (.return_, 1) := by decide +kernel
theorem cc_M_158 : CV "KiteLoggerModel" 158 y_M_passTick b_M_passTick 1 none 0 := ⟨TT_in (i := 1687) (by decide +kernel) (by decide +kernel), TT_in (i := 1689) (by decide +kernel) (by decide +kernel), TT_in (i := 39) (by decide +kernel) (by decide +kernel), TT_in (i := 100) (by decide +kernel) (by decide +kernel), TT_in (i := 1690) (by decide +kernel) (by decide +kernel), ⟨by decide +kernel, by decide +kernel, by decide +kernel⟩⟩
def lp_M_pass_2 (N0 rr : Nat) (a1 : Int32)  : Nat → Int32 → Mem → (Int32 → Mem → Option (Mem)) → Option (Mem)
  | 0, _, _, _ => none
  | N + 1, v2, M, k2 => if v2 < a1 then (bndM (f_M_passTick N0 rr M) fun (M2 : Mem) => nm (v2 + (1 : Int32)) fun (x3 : Int32) => lp_M_pass_2 N0 rr a1 N x3 M2 k2) else (k2 v2 M)
def f_M_pass (N : Nat) (rr : Nat) (a1 : Int32) (M : Mem) : Option (Mem) :=
  lp_M_pass_2 N rr a1 N (0 : Int32) M (fun (a5 : Int32) (M4 : Mem) => some M4)
set_option maxHeartbeats 4000000 in
set_option maxRecDepth 100000 in
theorem c_M_pass (l : Launch) (N : Nat) {w : Wc} {rr : Nat} (hw : WM w rr) (a1 : Int32) (M : Mem) : Ct QV l y_M_pass b_M_pass 3 none (rmL 5) w [.ref (wad w 145), .int a1] M (f_M_pass N rr a1 M) := by
  refine Ct.go (by decide) (L := [(0, .ref (wad w 145)), (1, .int a1)]) rfl (Nat.le_of_ble_eq_true rfl) (fun p0 e s m args below meth c g hret => ?_)
  unfold f_M_pass
  refine G_iconst g (pc := 0) (0 : Int32) d_M_pass_0 rfl ?_
  refine G_istore_n g (pc := 1) _ d_M_pass_1 rfl (Nat.le_of_ble_eq_true rfl) rfl ?_
  refine G_sub [1, 2, 0] _ rfl ?_
  refine G_loop (F := lp_M_pass_2 N rr a1) 2 17 (fun (v2 : Int32) => [(0, .ref (wad w 145)), (1, .int a1), (2, .int v2)]) (fun (v2 : Int32) => [(0, .ref (wad w 145)), (1, .int a1), (2, .int v2)]) (fun _ _ _ => rfl) (fun a5 M4 => ?_) (fun k2 hk2 Nl2 ih2 v2 M => ?_) N (0 : Int32) M
  · exact G_return g (pc := 17) hret (Nat.le_of_ble_eq_true rfl) (Nat.le_of_ble_eq_true rfl) d_M_pass_17
  · show Go p0 l e _ s m args below meth c w _ _ _ _ (lp_M_pass_2 N rr a1 (Nl2 + 1) v2 M k2) 2 _ _ M
    unfold lp_M_pass_2
    refine G_iload_n g (pc := 2) 2 d_M_pass_2 rfl rfl ?_
    refine G_iload_n g (pc := 3) 1 d_M_pass_3 rfl rfl ?_
    refine G_icmp_ge g (pc := 4) 17 d_M_pass_4 (by decide) ?_ ?_
    · refine G_aload_n g (pc := 7) 0 d_M_pass_7 rfl rfl ?_
      refine G_cVV g (pc := 8) (As := []) (st := []) cc_M_158 (c_M_passTick l N hw M) (hw.mm 145 (Nat.le_of_ble_eq_true rfl) (Nat.le_of_ble_eq_true rfl)) (hw.k (zk145 rr)) rfl (by decide) rfl ⟨(Nat.le_of_ble_eq_true rfl), (Nat.le_of_ble_eq_true rfl)⟩ ⟨(Nat.le_of_ble_eq_true rfl), (Nat.le_of_ble_eq_true rfl)⟩ (Nat.le_of_ble_eq_true rfl) d_M_pass_8 (fun M2 => ?_)
      refine G_nmX (v2 + (1 : Int32)) (fun x3 e_x3 => ?_)
      refine G_iinc g (pc := 11) x3 _ 2 d_M_pass_11 rfl e_x3.symm (Nat.le_of_ble_eq_true rfl) rfl ?_
      refine G_goto g (pc := 14) 2 d_M_pass_14 (by decide) ?_
      refine G_sub [1, 2, 0] _ rfl ?_
      exact ih2 x3 M2
    · refine G_sub [0, 1, 2] _ rfl ?_
      exact hk2 v2 M

theorem d_M_whyNotLaunch_0 : decode b_M_whyNotLaunch 0 = .ok (.aload_n 0, 1) := by decide +kernel
theorem d_M_whyNotLaunch_1 : decode b_M_whyNotLaunch 1 = .ok (.iconst 1, 1) := by decide +kernel
theorem d_M_whyNotLaunch_2 : decode b_M_whyNotLaunch 2 = .ok (.invokevirtual 106, 3) := by decide +kernel
theorem d_M_whyNotLaunch_5 : decode b_M_whyNotLaunch 5 = .ok (.ifCond .eq 5, 3) := by decide +kernel
theorem d_M_whyNotLaunch_8 : decode b_M_whyNotLaunch 8 = .ok (.iconst 1, 1) := by decide +kernel
theorem d_M_whyNotLaunch_9 : decode b_M_whyNotLaunch 9 = .ok (.ireturn, 1) := by decide +kernel
theorem d_M_whyNotLaunch_10 : decode b_M_whyNotLaunch 10 = .ok (.aload_n 0, 1) := by decide +kernel
theorem d_M_whyNotLaunch_11 : decode b_M_whyNotLaunch 11 = .ok (.iconst 2, 1) := by decide +kernel
theorem d_M_whyNotLaunch_12 : decode b_M_whyNotLaunch 12 = .ok (.invokevirtual 106, 3) := by decide +kernel
theorem d_M_whyNotLaunch_15 : decode b_M_whyNotLaunch 15 = .ok (.ifCond .eq 5, 3) := by decide +kernel
theorem d_M_whyNotLaunch_18 : decode b_M_whyNotLaunch 18 = .ok (.iconst 2, 1) := by decide +kernel
theorem d_M_whyNotLaunch_19 : decode b_M_whyNotLaunch 19 = .ok (.ireturn, 1) := by decide +kernel
theorem d_M_whyNotLaunch_20 : decode b_M_whyNotLaunch 20 = .ok (.aload_n 0, 1) := by decide +kernel
theorem d_M_whyNotLaunch_21 : decode b_M_whyNotLaunch 21 = .ok (.getfield 28, 3) := by decide +kernel
theorem d_M_whyNotLaunch_24 : decode b_M_whyNotLaunch 24 = .ok (.bipush 8, 2) := by decide +kernel
theorem d_M_whyNotLaunch_26 : decode b_M_whyNotLaunch 26 = .ok (.iaload, 1) := by decide +kernel
theorem d_M_whyNotLaunch_27 : decode b_M_whyNotLaunch 27 = .ok (.bipush 10, 2) := by decide +kernel
theorem d_M_whyNotLaunch_29 : decode b_M_whyNotLaunch 29 = .ok (.if_icmp .ge 5, 3) := by decide +kernel
theorem d_M_whyNotLaunch_32 : decode b_M_whyNotLaunch 32 = .ok (.iconst 3, 1) := by decide +kernel
theorem d_M_whyNotLaunch_33 : decode b_M_whyNotLaunch 33 = .ok (.ireturn, 1) := by decide +kernel
theorem d_M_whyNotLaunch_34 : decode b_M_whyNotLaunch 34 = .ok (.aload_n 0, 1) := by decide +kernel
theorem d_M_whyNotLaunch_35 : decode b_M_whyNotLaunch 35 = .ok (.iconst 0, 1) := by decide +kernel
theorem d_M_whyNotLaunch_36 : decode b_M_whyNotLaunch 36 = .ok (.invokevirtual 91, 3) := by decide +kernel
theorem d_M_whyNotLaunch_39 : decode b_M_whyNotLaunch 39 = .ok (.iconst 5, 1) := by decide +kernel
theorem d_M_whyNotLaunch_40 : decode b_M_whyNotLaunch 40 = .ok (.if_icmp .ge 7, 3) := by decide +kernel
theorem d_M_whyNotLaunch_43 : decode b_M_whyNotLaunch 43 = .ok (.iconst 4, 1) := by decide +kernel
theorem d_M_whyNotLaunch_44 : decode b_M_whyNotLaunch 44 = .ok (.goto 4, 3) := by decide +kernel
theorem d_M_whyNotLaunch_47 : decode b_M_whyNotLaunch 47 = .ok (.iconst 0, 1) := by decide +kernel
theorem d_M_whyNotLaunch_48 : decode b_M_whyNotLaunch 48 = .ok (.ireturn, 1) := by decide +kernel
def f_M_whyNotLaunch (rr : Nat) (M : Mem) : Option (Int32 × Mem) :=
  bnd (f_M_is rr (1 : Int32) M) fun (x1 : Bool) (M2 : Mem) => if x1 = true then (some ((1 : Int32), M2)) else (bnd (f_M_is rr (2 : Int32) M2) fun (x3 : Bool) (M4 : Mem) => if x3 = true then (some ((2 : Int32), M4)) else (if (M4 rr 8) < (10 : Int32) then (some ((3 : Int32), M4)) else (bnd (f_M_windNow rr (0 : Int32) M4) fun (x5 : Int32) (M6 : Mem) => if x5 < (5 : Int32) then (some ((4 : Int32), M6)) else (some ((0 : Int32), M6)))))
set_option maxHeartbeats 4000000 in
set_option maxRecDepth 100000 in
theorem c_M_whyNotLaunch (l : Launch) {w : Wc} {rr : Nat} (hw : WM w rr)  (M : Mem) : Ct QI l y_M_whyNotLaunch b_M_whyNotLaunch 1 (some .int) (rmL 2) w [.ref (wad w 145)] M (f_M_whyNotLaunch rr M) := by
  refine Ct.go (by decide) (L := [(0, .ref (wad w 145))]) rfl (Nat.le_of_ble_eq_true rfl) (fun p0 e s m args below meth c g hret => ?_)
  unfold f_M_whyNotLaunch
  refine G_aload_n g (pc := 0) 0 d_M_whyNotLaunch_0 rfl rfl ?_
  refine G_iconst g (pc := 1) (1 : Int32) d_M_whyNotLaunch_1 rfl ?_
  refine G_cVZ g (pc := 2) (As := [.int (1 : Int32)]) (st := []) cc_M_106 (c_M_is l hw (1 : Int32) M) (hw.mm 145 (Nat.le_of_ble_eq_true rfl) (Nat.le_of_ble_eq_true rfl)) (hw.k (zk145 rr)) rfl (by decide) rfl ⟨(Nat.le_of_ble_eq_true rfl), (Nat.le_of_ble_eq_true rfl)⟩ ⟨(Nat.le_of_ble_eq_true rfl), (Nat.le_of_ble_eq_true rfl)⟩ (Nat.le_of_ble_eq_true rfl) d_M_whyNotLaunch_2 (fun x1 M2 => ?_)
  refine G_if_eqB g (pc := 5) 10 d_M_whyNotLaunch_5 (by decide) ?_ ?_
  · refine G_iconst g (pc := 8) (1 : Int32) d_M_whyNotLaunch_8 rfl ?_
    exact G_ireturn g (pc := 9) hret (Nat.le_of_ble_eq_true rfl) (Nat.le_of_ble_eq_true rfl) d_M_whyNotLaunch_9
  · refine G_aload_n g (pc := 10) 0 d_M_whyNotLaunch_10 rfl rfl ?_
    refine G_iconst g (pc := 11) (2 : Int32) d_M_whyNotLaunch_11 rfl ?_
    refine G_cVZ g (pc := 12) (As := [.int (2 : Int32)]) (st := []) cc_M_106 (c_M_is l hw (2 : Int32) M2) (hw.mm 145 (Nat.le_of_ble_eq_true rfl) (Nat.le_of_ble_eq_true rfl)) (hw.k (zk145 rr)) rfl (by decide) rfl ⟨(Nat.le_of_ble_eq_true rfl), (Nat.le_of_ble_eq_true rfl)⟩ ⟨(Nat.le_of_ble_eq_true rfl), (Nat.le_of_ble_eq_true rfl)⟩ (Nat.le_of_ble_eq_true rfl) d_M_whyNotLaunch_12 (fun x3 M4 => ?_)
    refine G_if_eqB g (pc := 15) 20 d_M_whyNotLaunch_15 (by decide) ?_ ?_
    · refine G_iconst g (pc := 18) (2 : Int32) d_M_whyNotLaunch_18 rfl ?_
      exact G_ireturn g (pc := 19) hret (Nat.le_of_ble_eq_true rfl) (Nat.le_of_ble_eq_true rfl) d_M_whyNotLaunch_19
    · refine G_aload_n g (pc := 20) 0 d_M_whyNotLaunch_20 rfl rfl ?_
      refine G_getR g (pc := 21) fa_M_28 (hw.mm 145 (Nat.le_of_ble_eq_true rfl) (Nat.le_of_ble_eq_true rfl)) (hw.k (zk145 rr)) (hw.r hw.rr) d_M_whyNotLaunch_21 ?_
      refine G_bipush g (pc := 24) (8 : Int32) d_M_whyNotLaunch_24 rfl ?_
      refine G_ialdK g (pc := 26) (nn := 405) 8 rfl rfl hw.mr hw.kr hw.nr d_M_whyNotLaunch_26 ?_
      refine G_bipush g (pc := 27) (10 : Int32) d_M_whyNotLaunch_27 rfl ?_
      refine G_icmp_ge g (pc := 29) 34 d_M_whyNotLaunch_29 (by decide) ?_ ?_
      · refine G_iconst g (pc := 32) (3 : Int32) d_M_whyNotLaunch_32 rfl ?_
        exact G_ireturn g (pc := 33) hret (Nat.le_of_ble_eq_true rfl) (Nat.le_of_ble_eq_true rfl) d_M_whyNotLaunch_33
      · refine G_aload_n g (pc := 34) 0 d_M_whyNotLaunch_34 rfl rfl ?_
        refine G_iconst g (pc := 35) (0 : Int32) d_M_whyNotLaunch_35 rfl ?_
        refine G_cVI g (pc := 36) (As := [.int (0 : Int32)]) (st := []) cc_M_91 (c_M_windNow l hw (0 : Int32) M4) (hw.mm 145 (Nat.le_of_ble_eq_true rfl) (Nat.le_of_ble_eq_true rfl)) (hw.k (zk145 rr)) rfl (by decide) rfl ⟨(Nat.le_of_ble_eq_true rfl), (Nat.le_of_ble_eq_true rfl)⟩ ⟨(Nat.le_of_ble_eq_true rfl), (Nat.le_of_ble_eq_true rfl)⟩ (Nat.le_of_ble_eq_true rfl) d_M_whyNotLaunch_36 (fun x5 M6 => ?_)
        refine G_iconst g (pc := 39) (5 : Int32) d_M_whyNotLaunch_39 rfl ?_
        refine G_icmp_ge g (pc := 40) 47 d_M_whyNotLaunch_40 (by decide) ?_ ?_
        · refine G_iconst g (pc := 43) (4 : Int32) d_M_whyNotLaunch_43 rfl ?_
          refine G_goto g (pc := 44) 48 d_M_whyNotLaunch_44 (by decide) ?_
          exact G_ireturn g (pc := 48) hret (Nat.le_of_ble_eq_true rfl) (Nat.le_of_ble_eq_true rfl) d_M_whyNotLaunch_48
        · refine G_iconst g (pc := 47) (0 : Int32) d_M_whyNotLaunch_47 rfl ?_
          exact G_ireturn g (pc := 48) hret (Nat.le_of_ble_eq_true rfl) (Nat.le_of_ble_eq_true rfl) d_M_whyNotLaunch_48

theorem d_M_launchObstacle_0 : decode b_M_launchObstacle 0 = .ok (.aload_n 0, 1) := by decide +kernel
theorem d_M_launchObstacle_1 : decode b_M_launchObstacle 1 = .ok (.iconst 0, 1) := by decide +kernel
theorem d_M_launchObstacle_2 : decode b_M_launchObstacle 2 = .ok (.putfield 76, 3) := by decide +kernel
theorem d_M_launchObstacle_5 : decode b_M_launchObstacle 5 = .ok (.aload_n 0, 1) := by decide +kernel
theorem d_M_launchObstacle_6 : decode b_M_launchObstacle 6 = .ok (.invokevirtual 161, 3) := by decide +kernel
theorem d_M_launchObstacle_9 : decode b_M_launchObstacle 9 = .ok (.ireturn, 1) := by decide +kernel
theorem cc_M_161 : CV "KiteLoggerModel" 161 y_M_whyNotLaunch b_M_whyNotLaunch 1 (some .int) 0 := ⟨TT_in (i := 1667) (by decide +kernel) (by decide +kernel), TT_in (i := 1669) (by decide +kernel) (by decide +kernel), TT_in (i := 36) (by decide +kernel) (by decide +kernel), TT_in (i := 100) (by decide +kernel) (by decide +kernel), TT_in (i := 1670) (by decide +kernel) (by decide +kernel), ⟨by decide +kernel, by decide +kernel, by decide +kernel⟩⟩
def f_M_launchObstacle (rr : Nat) (M : Mem) : Option (Int32 × Mem) :=
  nm (put M 145 8 (0 : Int32)) fun (M1 : Mem) => bnd (f_M_whyNotLaunch rr M1) fun (x2 : Int32) (M3 : Mem) => some (x2, M3)
set_option maxHeartbeats 4000000 in
set_option maxRecDepth 100000 in
theorem c_M_launchObstacle (l : Launch) {w : Wc} {rr : Nat} (hw : WM w rr)  (M : Mem) : Ct QI l y_M_launchObstacle b_M_launchObstacle 1 (some .int) (rmL 3) w [.ref (wad w 145)] M (f_M_launchObstacle rr M) := by
  refine Ct.go (by decide) (L := [(0, .ref (wad w 145))]) rfl (Nat.le_of_ble_eq_true rfl) (fun p0 e s m args below meth c g hret => ?_)
  unfold f_M_launchObstacle
  refine G_aload_n g (pc := 0) 0 d_M_launchObstacle_0 rfl rfl ?_
  refine G_iconst g (pc := 1) (0 : Int32) d_M_launchObstacle_1 rfl ?_
  refine G_put g (pc := 2) fa_M_76 fw_10_8 rfl rfl (hw.mm 145 (Nat.le_of_ble_eq_true rfl) (Nat.le_of_ble_eq_true rfl)) (hw.k (zk145 rr)) d_M_launchObstacle_2 ?_
  refine G_nmM (fun M1 => ?_)
  refine G_aload_n g (pc := 5) 0 d_M_launchObstacle_5 rfl rfl ?_
  refine G_cVI g (pc := 6) (As := []) (st := []) cc_M_161 (c_M_whyNotLaunch l hw M1) (hw.mm 145 (Nat.le_of_ble_eq_true rfl) (Nat.le_of_ble_eq_true rfl)) (hw.k (zk145 rr)) rfl (by decide) rfl ⟨(Nat.le_of_ble_eq_true rfl), (Nat.le_of_ble_eq_true rfl)⟩ ⟨(Nat.le_of_ble_eq_true rfl), (Nat.le_of_ble_eq_true rfl)⟩ (Nat.le_of_ble_eq_true rfl) d_M_launchObstacle_6 (fun x2 M3 => ?_)
  exact G_ireturn g (pc := 9) hret (Nat.le_of_ble_eq_true rfl) (Nat.le_of_ble_eq_true rfl) d_M_launchObstacle_9

theorem d_M_copy_0 : decode b_M_copy 0 = .ok (.aload_n 0, 1) := by decide +kernel
theorem d_M_copy_1 : decode b_M_copy 1 = .ok (.sipush 405, 3) := by decide +kernel
theorem d_M_copy_4 : decode b_M_copy 4 = .ok (.iload_n 1, 1) := by decide +kernel
theorem d_M_copy_5 : decode b_M_copy 5 = .ok (.imul, 1) := by decide +kernel
theorem d_M_copy_6 : decode b_M_copy 6 = .ok (.aload_n 2, 1) := by decide +kernel
theorem d_M_copy_7 : decode b_M_copy 7 = .ok (.sipush 405, 3) := by decide +kernel
theorem d_M_copy_10 : decode b_M_copy 10 = .ok (.iload_n 3, 1) := by decide +kernel
theorem d_M_copy_11 : decode b_M_copy 11 = .ok (.imul, 1) := by decide +kernel
theorem d_M_copy_12 : decode b_M_copy 12 = .ok (.sipush 405, 3) := by decide +kernel
theorem d_M_copy_15 : decode b_M_copy 15 = .ok (.invokestatic 131, 3) := by decide +kernel
theorem d_M_copy_18 : decode b_M_copy 18 = .ok (.return_, 1) := by decide +kernel
def f_M_copy (a1 : Nat) (a2 : Int32) (a3 : Nat) (a4 : Int32) (M : Mem) : Option (Mem) :=
  grd (cpB ((405 : Int32) * a2) ((405 : Int32) * a4) (405 : Int32) (zn a1) (zn a3)) (nm (setR M a3 (va_cpy (M a1) (M a3) ((405 : Int32) * a2).toNatClampNeg ((405 : Int32) * a4).toNatClampNeg (405 : Int32).toNatClampNeg)) fun (M1 : Mem) => some M1)
set_option maxHeartbeats 4000000 in
set_option maxRecDepth 100000 in
theorem c_M_copy (l : Launch) {w : Wc} {rr : Nat} (hw : WM w rr) (a1 : Nat) (hma1 : a1 ∈ wL w) (hka1 : (wZ w a1).1 = 20) (a2 : Int32) (a3 : Nat) (hma3 : a3 ∈ wL w) (hka3 : (wZ w a3).1 = 20) (a4 : Int32) (M : Mem) : Ct QV l y_M_copy b_M_copy 4 none (rmL 1) w [.ref (wad w a1), .int a2, .ref (wad w a3), .int a4] M (f_M_copy a1 a2 a3 a4 M) := by
  refine Ct.go (by decide) (L := [(0, .ref (wad w a1)), (1, .int a2), (2, .ref (wad w a3)), (3, .int a4)]) rfl (Nat.le_of_ble_eq_true rfl) (fun p0 e s m args below meth c g hret => ?_)
  unfold f_M_copy
  refine G_aload_n g (pc := 0) 0 d_M_copy_0 rfl rfl ?_
  refine G_sipush g (pc := 1) (405 : Int32) d_M_copy_1 rfl ?_
  refine G_iload_n g (pc := 4) 1 d_M_copy_4 rfl rfl ?_
  refine G_imul g (pc := 5) d_M_copy_5 ?_
  refine G_aload_n g (pc := 6) 2 d_M_copy_6 rfl rfl ?_
  refine G_sipush g (pc := 7) (405 : Int32) d_M_copy_7 rfl ?_
  refine G_iload_n g (pc := 10) 3 d_M_copy_10 rfl rfl ?_
  refine G_imul g (pc := 11) d_M_copy_11 ?_
  refine G_sipush g (pc := 12) (405 : Int32) d_M_copy_12 rfl ?_
  refine G_copy g (pc := 15) (n0 := (zn a1)) (n1 := (zn a3)) ma_M_131 ⟨(Nat.le_of_ble_eq_true rfl), (Nat.le_of_ble_eq_true rfl)⟩ hma1 hka1 (hw.n rfl) hma3 hka3 (hw.n rfl) d_M_copy_15 ?_
  refine G_nmM (fun M1 => ?_)
  exact G_return g (pc := 18) hret (Nat.le_of_ble_eq_true rfl) (Nat.le_of_ble_eq_true rfl) d_M_copy_18

theorem d_M_putAside_0 : decode b_M_putAside 0 = .ok (.aload_n 0, 1) := by decide +kernel
theorem d_M_putAside_1 : decode b_M_putAside 1 = .ok (.getfield 28, 3) := by decide +kernel
theorem d_M_putAside_4 : decode b_M_putAside 4 = .ok (.iconst 0, 1) := by decide +kernel
theorem d_M_putAside_5 : decode b_M_putAside 5 = .ok (.aload_n 0, 1) := by decide +kernel
theorem d_M_putAside_6 : decode b_M_putAside 6 = .ok (.getfield 16, 3) := by decide +kernel
theorem d_M_putAside_9 : decode b_M_putAside 9 = .ok (.iconst 0, 1) := by decide +kernel
theorem d_M_putAside_10 : decode b_M_putAside 10 = .ok (.invokestatic 164, 3) := by decide +kernel
theorem d_M_putAside_13 : decode b_M_putAside 13 = .ok (.return_, 1) := by decide +kernel
theorem cc_M_164 : CS "KiteLoggerModel" 164 y_M_copy b_M_copy 4 none 4 := ⟨TT_in (i := 1679) (by decide +kernel) (by decide +kernel), TT_in (i := 1680) (by decide +kernel) (by decide +kernel), TT_in (i := 100) (by decide +kernel) (by decide +kernel), TT_in (i := 1681) (by decide +kernel) (by decide +kernel), ⟨by decide +kernel, by decide +kernel, by decide +kernel⟩⟩
def f_M_putAside (rr : Nat) (M : Mem) : Option (Mem) :=
  bndM (f_M_copy rr (0 : Int32) 148 (0 : Int32) M) fun (M2 : Mem) => some M2
set_option maxHeartbeats 4000000 in
set_option maxRecDepth 100000 in
theorem c_M_putAside (l : Launch) {w : Wc} {rr : Nat} (hw : WM w rr)  (M : Mem) : Ct QV l y_M_putAside b_M_putAside 1 none (rmL 2) w [.ref (wad w 145)] M (f_M_putAside rr M) := by
  refine Ct.go (by decide) (L := [(0, .ref (wad w 145))]) rfl (Nat.le_of_ble_eq_true rfl) (fun p0 e s m args below meth c g hret => ?_)
  unfold f_M_putAside
  refine G_aload_n g (pc := 0) 0 d_M_putAside_0 rfl rfl ?_
  refine G_getR g (pc := 1) fa_M_28 (hw.mm 145 (Nat.le_of_ble_eq_true rfl) (Nat.le_of_ble_eq_true rfl)) (hw.k (zk145 rr)) (hw.r hw.rr) d_M_putAside_1 ?_
  refine G_iconst g (pc := 4) (0 : Int32) d_M_putAside_4 rfl ?_
  refine G_aload_n g (pc := 5) 0 d_M_putAside_5 rfl rfl ?_
  refine G_getR g (pc := 6) fa_M_16 (hw.mm 145 (Nat.le_of_ble_eq_true rfl) (Nat.le_of_ble_eq_true rfl)) (hw.k (zk145 rr)) (hw.r (zr145_2 rr)) d_M_putAside_6 ?_
  refine G_iconst g (pc := 9) (0 : Int32) d_M_putAside_9 rfl ?_
  refine G_cSV g (pc := 10) (As := [.ref (wad w rr), .int (0 : Int32), .ref (wad w 148), .int (0 : Int32)]) (st := []) cc_M_164 (c_M_copy l hw rr hw.mr hw.kr (0 : Int32) 148 (hw.mm 148 (Nat.le_of_ble_eq_true rfl) (Nat.le_of_ble_eq_true rfl)) (hw.k (zk148 rr)) (0 : Int32) M) rfl ⟨(Nat.le_of_ble_eq_true rfl), (Nat.le_of_ble_eq_true rfl)⟩ ⟨(Nat.le_of_ble_eq_true rfl), (Nat.le_of_ble_eq_true rfl)⟩ (Nat.le_of_ble_eq_true rfl) d_M_putAside_10 (fun M2 => ?_)
  exact G_return g (pc := 13) hret (Nat.le_of_ble_eq_true rfl) (Nat.le_of_ble_eq_true rfl) d_M_putAside_13

theorem d_M_laidBack_0 : decode b_M_laidBack 0 = .ok (.aload_n 0, 1) := by decide +kernel
theorem d_M_laidBack_1 : decode b_M_laidBack 1 = .ok (.getfield 16, 3) := by decide +kernel
theorem d_M_laidBack_4 : decode b_M_laidBack 4 = .ok (.iconst 0, 1) := by decide +kernel
theorem d_M_laidBack_5 : decode b_M_laidBack 5 = .ok (.aload_n 0, 1) := by decide +kernel
theorem d_M_laidBack_6 : decode b_M_laidBack 6 = .ok (.getfield 28, 3) := by decide +kernel
theorem d_M_laidBack_9 : decode b_M_laidBack 9 = .ok (.iconst 0, 1) := by decide +kernel
theorem d_M_laidBack_10 : decode b_M_laidBack 10 = .ok (.invokestatic 164, 3) := by decide +kernel
theorem d_M_laidBack_13 : decode b_M_laidBack 13 = .ok (.iload_n 1, 1) := by decide +kernel
theorem d_M_laidBack_14 : decode b_M_laidBack 14 = .ok (.ireturn, 1) := by decide +kernel
def f_M_laidBack (rr : Nat) (a1 : Int32) (M : Mem) : Option (Int32 × Mem) :=
  bndM (f_M_copy 148 (0 : Int32) rr (0 : Int32) M) fun (M2 : Mem) => some (a1, M2)
set_option maxHeartbeats 4000000 in
set_option maxRecDepth 100000 in
theorem c_M_laidBack (l : Launch) {w : Wc} {rr : Nat} (hw : WM w rr) (a1 : Int32) (M : Mem) : Ct QI l y_M_laidBack b_M_laidBack 2 (some .int) (rmL 2) w [.ref (wad w 145), .int a1] M (f_M_laidBack rr a1 M) := by
  refine Ct.go (by decide) (L := [(0, .ref (wad w 145)), (1, .int a1)]) rfl (Nat.le_of_ble_eq_true rfl) (fun p0 e s m args below meth c g hret => ?_)
  unfold f_M_laidBack
  refine G_aload_n g (pc := 0) 0 d_M_laidBack_0 rfl rfl ?_
  refine G_getR g (pc := 1) fa_M_16 (hw.mm 145 (Nat.le_of_ble_eq_true rfl) (Nat.le_of_ble_eq_true rfl)) (hw.k (zk145 rr)) (hw.r (zr145_2 rr)) d_M_laidBack_1 ?_
  refine G_iconst g (pc := 4) (0 : Int32) d_M_laidBack_4 rfl ?_
  refine G_aload_n g (pc := 5) 0 d_M_laidBack_5 rfl rfl ?_
  refine G_getR g (pc := 6) fa_M_28 (hw.mm 145 (Nat.le_of_ble_eq_true rfl) (Nat.le_of_ble_eq_true rfl)) (hw.k (zk145 rr)) (hw.r hw.rr) d_M_laidBack_6 ?_
  refine G_iconst g (pc := 9) (0 : Int32) d_M_laidBack_9 rfl ?_
  refine G_cSV g (pc := 10) (As := [.ref (wad w 148), .int (0 : Int32), .ref (wad w rr), .int (0 : Int32)]) (st := []) cc_M_164 (c_M_copy l hw 148 (hw.mm 148 (Nat.le_of_ble_eq_true rfl) (Nat.le_of_ble_eq_true rfl)) (hw.k (zk148 rr)) (0 : Int32) rr hw.mr hw.kr (0 : Int32) M) rfl ⟨(Nat.le_of_ble_eq_true rfl), (Nat.le_of_ble_eq_true rfl)⟩ ⟨(Nat.le_of_ble_eq_true rfl), (Nat.le_of_ble_eq_true rfl)⟩ (Nat.le_of_ble_eq_true rfl) d_M_laidBack_10 (fun M2 => ?_)
  refine G_iload_n g (pc := 13) 1 d_M_laidBack_13 rfl rfl ?_
  exact G_ireturn g (pc := 14) hret (Nat.le_of_ble_eq_true rfl) (Nat.le_of_ble_eq_true rfl) d_M_laidBack_14

theorem d_M_heightAfter_0 : decode b_M_heightAfter 0 = .ok (.aload_n 0, 1) := by decide +kernel
theorem d_M_heightAfter_1 : decode b_M_heightAfter 1 = .ok (.iload_n 1, 1) := by decide +kernel
theorem d_M_heightAfter_2 : decode b_M_heightAfter 2 = .ok (.iconst 0, 1) := by decide +kernel
theorem d_M_heightAfter_3 : decode b_M_heightAfter 3 = .ok (.bipush 100, 2) := by decide +kernel
theorem d_M_heightAfter_5 : decode b_M_heightAfter 5 = .ok (.invokestatic 83, 3) := by decide +kernel
theorem d_M_heightAfter_8 : decode b_M_heightAfter 8 = .ok (.invokevirtual 87, 3) := by decide +kernel
theorem d_M_heightAfter_11 : decode b_M_heightAfter 11 = .ok (.ifCond .eq 5, 3) := by decide +kernel
theorem d_M_heightAfter_14 : decode b_M_heightAfter 14 = .ok (.iconst 0, 1) := by decide +kernel
theorem d_M_heightAfter_15 : decode b_M_heightAfter 15 = .ok (.ireturn, 1) := by decide +kernel
theorem d_M_heightAfter_16 : decode b_M_heightAfter 16 = .ok (.aload_n 0, 1) := by decide +kernel
theorem d_M_heightAfter_17 : decode b_M_heightAfter 17 = .ok (.invokevirtual 168, 3) := by decide +kernel
theorem d_M_heightAfter_20 : decode b_M_heightAfter 20 = .ok (.aload_n 0, 1) := by decide +kernel
theorem d_M_heightAfter_21 : decode b_M_heightAfter 21 = .ok (.iload_n 1, 1) := by decide +kernel
theorem d_M_heightAfter_22 : decode b_M_heightAfter 22 = .ok (.invokevirtual 171, 3) := by decide +kernel
theorem d_M_heightAfter_25 : decode b_M_heightAfter 25 = .ok (.aload_n 0, 1) := by decide +kernel
theorem d_M_heightAfter_26 : decode b_M_heightAfter 26 = .ok (.aload_n 0, 1) := by decide +kernel
theorem d_M_heightAfter_27 : decode b_M_heightAfter 27 = .ok (.getfield 28, 3) := by decide +kernel
theorem d_M_heightAfter_30 : decode b_M_heightAfter 30 = .ok (.bipush 7, 2) := by decide +kernel
theorem d_M_heightAfter_32 : decode b_M_heightAfter 32 = .ok (.iaload, 1) := by decide +kernel
theorem d_M_heightAfter_33 : decode b_M_heightAfter 33 = .ok (.invokevirtual 174, 3) := by decide +kernel
theorem d_M_heightAfter_36 : decode b_M_heightAfter 36 = .ok (.ireturn, 1) := by decide +kernel
theorem cc_M_168 : CV "KiteLoggerModel" 168 y_M_putAside b_M_putAside 1 none 0 := ⟨TT_in (i := 1675) (by decide +kernel) (by decide +kernel), TT_in (i := 1677) (by decide +kernel) (by decide +kernel), TT_in (i := 37) (by decide +kernel) (by decide +kernel), TT_in (i := 100) (by decide +kernel) (by decide +kernel), TT_in (i := 1678) (by decide +kernel) (by decide +kernel), ⟨by decide +kernel, by decide +kernel, by decide +kernel⟩⟩
theorem cc_M_171 : CV "KiteLoggerModel" 171 y_M_pass b_M_pass 3 none 1 := ⟨TT_in (i := 1683) (by decide +kernel) (by decide +kernel), TT_in (i := 1685) (by decide +kernel) (by decide +kernel), TT_in (i := 38) (by decide +kernel) (by decide +kernel), TT_in (i := 100) (by decide +kernel) (by decide +kernel), TT_in (i := 1686) (by decide +kernel) (by decide +kernel), ⟨by decide +kernel, by decide +kernel, by decide +kernel⟩⟩
theorem cc_M_174 : CV "KiteLoggerModel" 174 y_M_laidBack b_M_laidBack 2 (some .int) 1 := ⟨TT_in (i := 1718) (by decide +kernel) (by decide +kernel), TT_in (i := 1720) (by decide +kernel) (by decide +kernel), TT_in (i := 46) (by decide +kernel) (by decide +kernel), TT_in (i := 100) (by decide +kernel) (by decide +kernel), TT_in (i := 1721) (by decide +kernel) (by decide +kernel), ⟨by decide +kernel, by decide +kernel, by decide +kernel⟩⟩
def f_M_heightAfter (N : Nat) (rr : Nat) (a1 : Int32) (M : Mem) : Option (Int32 × Mem) :=
  bnd (f_M_inRange a1 (0 : Int32) (100 : Int32) M) fun (x1 : Bool) (M2 : Mem) => bnd (f_M_lacks x1 M2) fun (x3 : Bool) (M4 : Mem) => if x3 = true then (some ((0 : Int32), M4)) else (bndM (f_M_putAside rr M4) fun (M6 : Mem) => bndM (f_M_pass N rr a1 M6) fun (M8 : Mem) => bnd (f_M_laidBack rr (M8 rr 7) M8) fun (x9 : Int32) (M10 : Mem) => some (x9, M10))
set_option maxHeartbeats 4000000 in
set_option maxRecDepth 100000 in
theorem c_M_heightAfter (l : Launch) (N : Nat) {w : Wc} {rr : Nat} (hw : WM w rr) (a1 : Int32) (M : Mem) : Ct QI l y_M_heightAfter b_M_heightAfter 2 (some .int) (rmL 6) w [.ref (wad w 145), .int a1] M (f_M_heightAfter N rr a1 M) := by
  refine Ct.go (by decide) (L := [(0, .ref (wad w 145)), (1, .int a1)]) rfl (Nat.le_of_ble_eq_true rfl) (fun p0 e s m args below meth c g hret => ?_)
  unfold f_M_heightAfter
  refine G_aload_n g (pc := 0) 0 d_M_heightAfter_0 rfl rfl ?_
  refine G_iload_n g (pc := 1) 1 d_M_heightAfter_1 rfl rfl ?_
  refine G_iconst g (pc := 2) (0 : Int32) d_M_heightAfter_2 rfl ?_
  refine G_bipush g (pc := 3) (100 : Int32) d_M_heightAfter_3 rfl ?_
  refine G_cSZ g (pc := 5) (As := [.int a1, .int (0 : Int32), .int (100 : Int32)]) (st := [.ref (wad w 145)]) cc_M_83 (c_M_inRange l hw a1 (0 : Int32) (100 : Int32) M) rfl ⟨(Nat.le_of_ble_eq_true rfl), (Nat.le_of_ble_eq_true rfl)⟩ ⟨(Nat.le_of_ble_eq_true rfl), (Nat.le_of_ble_eq_true rfl)⟩ (Nat.le_of_ble_eq_true rfl) d_M_heightAfter_5 (fun x1 M2 => ?_)
  refine G_cVZ g (pc := 8) (As := [.int (b2i x1)]) (st := []) cc_M_87 (c_M_lacks l hw x1 M2) (hw.mm 145 (Nat.le_of_ble_eq_true rfl) (Nat.le_of_ble_eq_true rfl)) (hw.k (zk145 rr)) rfl (by decide) rfl ⟨(Nat.le_of_ble_eq_true rfl), (Nat.le_of_ble_eq_true rfl)⟩ ⟨(Nat.le_of_ble_eq_true rfl), (Nat.le_of_ble_eq_true rfl)⟩ (Nat.le_of_ble_eq_true rfl) d_M_heightAfter_8 (fun x3 M4 => ?_)
  refine G_if_eqB g (pc := 11) 16 d_M_heightAfter_11 (by decide) ?_ ?_
  · refine G_iconst g (pc := 14) (0 : Int32) d_M_heightAfter_14 rfl ?_
    exact G_ireturn g (pc := 15) hret (Nat.le_of_ble_eq_true rfl) (Nat.le_of_ble_eq_true rfl) d_M_heightAfter_15
  · refine G_aload_n g (pc := 16) 0 d_M_heightAfter_16 rfl rfl ?_
    refine G_cVV g (pc := 17) (As := []) (st := []) cc_M_168 (c_M_putAside l hw M4) (hw.mm 145 (Nat.le_of_ble_eq_true rfl) (Nat.le_of_ble_eq_true rfl)) (hw.k (zk145 rr)) rfl (by decide) rfl ⟨(Nat.le_of_ble_eq_true rfl), (Nat.le_of_ble_eq_true rfl)⟩ ⟨(Nat.le_of_ble_eq_true rfl), (Nat.le_of_ble_eq_true rfl)⟩ (Nat.le_of_ble_eq_true rfl) d_M_heightAfter_17 (fun M6 => ?_)
    refine G_aload_n g (pc := 20) 0 d_M_heightAfter_20 rfl rfl ?_
    refine G_iload_n g (pc := 21) 1 d_M_heightAfter_21 rfl rfl ?_
    refine G_cVV g (pc := 22) (As := [.int a1]) (st := []) cc_M_171 (c_M_pass l N hw a1 M6) (hw.mm 145 (Nat.le_of_ble_eq_true rfl) (Nat.le_of_ble_eq_true rfl)) (hw.k (zk145 rr)) rfl (by decide) rfl ⟨(Nat.le_of_ble_eq_true rfl), (Nat.le_of_ble_eq_true rfl)⟩ ⟨(Nat.le_of_ble_eq_true rfl), (Nat.le_of_ble_eq_true rfl)⟩ (Nat.le_of_ble_eq_true rfl) d_M_heightAfter_22 (fun M8 => ?_)
    refine G_aload_n g (pc := 25) 0 d_M_heightAfter_25 rfl rfl ?_
    refine G_aload_n g (pc := 26) 0 d_M_heightAfter_26 rfl rfl ?_
    refine G_getR g (pc := 27) fa_M_28 (hw.mm 145 (Nat.le_of_ble_eq_true rfl) (Nat.le_of_ble_eq_true rfl)) (hw.k (zk145 rr)) (hw.r hw.rr) d_M_heightAfter_27 ?_
    refine G_bipush g (pc := 30) (7 : Int32) d_M_heightAfter_30 rfl ?_
    refine G_ialdK g (pc := 32) (nn := 405) 7 rfl rfl hw.mr hw.kr hw.nr d_M_heightAfter_32 ?_
    refine G_cVI g (pc := 33) (As := [.int (M8 rr 7)]) (st := []) cc_M_174 (c_M_laidBack l hw (M8 rr 7) M8) (hw.mm 145 (Nat.le_of_ble_eq_true rfl) (Nat.le_of_ble_eq_true rfl)) (hw.k (zk145 rr)) rfl (by decide) rfl ⟨(Nat.le_of_ble_eq_true rfl), (Nat.le_of_ble_eq_true rfl)⟩ ⟨(Nat.le_of_ble_eq_true rfl), (Nat.le_of_ble_eq_true rfl)⟩ (Nat.le_of_ble_eq_true rfl) d_M_heightAfter_33 (fun x9 M10 => ?_)
    exact G_ireturn g (pc := 36) hret (Nat.le_of_ble_eq_true rfl) (Nat.le_of_ble_eq_true rfl) d_M_heightAfter_36

theorem d_M_untilSnap_0 : decode b_M_untilSnap 0 = .ok (.aload_n 0, 1) := by decide +kernel
theorem d_M_untilSnap_1 : decode b_M_untilSnap 1 = .ok (.getfield 28, 3) := by decide +kernel
theorem d_M_untilSnap_4 : decode b_M_untilSnap 4 = .ok (.bipush 14, 2) := by decide +kernel
theorem d_M_untilSnap_6 : decode b_M_untilSnap 6 = .ok (.iaload, 1) := by decide +kernel
theorem d_M_untilSnap_7 : decode b_M_untilSnap 7 = .ok (.istore_n 1, 1) := by decide +kernel
theorem d_M_untilSnap_8 : decode b_M_untilSnap 8 = .ok (.iconst 1, 1) := by decide +kernel
theorem d_M_untilSnap_9 : decode b_M_untilSnap 9 = .ok (.istore_n 2, 1) := by decide +kernel
theorem d_M_untilSnap_10 : decode b_M_untilSnap 10 = .ok (.iload_n 2, 1) := by decide +kernel
theorem d_M_untilSnap_11 : decode b_M_untilSnap 11 = .ok (.sipush 200, 3) := by decide +kernel
theorem d_M_untilSnap_14 : decode b_M_untilSnap 14 = .ok (.if_icmp .gt 26, 3) := by decide +kernel
theorem d_M_untilSnap_17 : decode b_M_untilSnap 17 = .ok (.aload_n 0, 1) := by decide +kernel
theorem d_M_untilSnap_18 : decode b_M_untilSnap 18 = .ok (.invokevirtual 158, 3) := by decide +kernel
theorem d_M_untilSnap_21 : decode b_M_untilSnap 21 = .ok (.aload_n 0, 1) := by decide +kernel
theorem d_M_untilSnap_22 : decode b_M_untilSnap 22 = .ok (.getfield 28, 3) := by decide +kernel
theorem d_M_untilSnap_25 : decode b_M_untilSnap 25 = .ok (.bipush 14, 2) := by decide +kernel
theorem d_M_untilSnap_27 : decode b_M_untilSnap 27 = .ok (.iaload, 1) := by decide +kernel
theorem d_M_untilSnap_28 : decode b_M_untilSnap 28 = .ok (.iload_n 1, 1) := by decide +kernel
theorem d_M_untilSnap_29 : decode b_M_untilSnap 29 = .ok (.if_icmp .le 5, 3) := by decide +kernel
theorem d_M_untilSnap_32 : decode b_M_untilSnap 32 = .ok (.iload_n 2, 1) := by decide +kernel
theorem d_M_untilSnap_33 : decode b_M_untilSnap 33 = .ok (.ireturn, 1) := by decide +kernel
theorem d_M_untilSnap_34 : decode b_M_untilSnap 34 = .ok (.iinc 2 1, 3) := by decide +kernel
theorem d_M_untilSnap_37 : decode b_M_untilSnap 37 = .ok (.goto (-27), 3) := by decide +kernel
theorem d_M_untilSnap_40 : decode b_M_untilSnap 40 = .ok (.iconst (-1), 1) := by decide +kernel
theorem d_M_untilSnap_41 : decode b_M_untilSnap 41 = .ok (.ireturn, 1) := by decide +kernel
def lp_M_untilSnap_10 (N0 rr : Nat)  (c1 : Int32) : Nat → Int32 → Mem → (Int32 → Mem → Option (Int32 × Mem)) → Option (Int32 × Mem)
  | 0, _, _, _ => none
  | N + 1, v10, M, k10 => if v10 ≤ (200 : Int32) then (bndM (f_M_passTick N0 rr M) fun (M3 : Mem) => if c1 < (M3 rr 14) then (some (v10, M3)) else (nm (v10 + (1 : Int32)) fun (x4 : Int32) => lp_M_untilSnap_10 N0 rr c1 N x4 M3 k10)) else (k10 v10 M)
def f_M_untilSnap (N : Nat) (rr : Nat) (M : Mem) : Option (Int32 × Mem) :=
  nm (M rr 14) fun (x1 : Int32) => lp_M_untilSnap_10 N rr x1 N (1 : Int32) M (fun (a6 : Int32) (M5 : Mem) => some ((-1 : Int32), M5))
set_option maxHeartbeats 4000000 in
set_option maxRecDepth 100000 in
theorem c_M_untilSnap (l : Launch) (N : Nat) {w : Wc} {rr : Nat} (hw : WM w rr)  (M : Mem) : Ct QI l y_M_untilSnap b_M_untilSnap 3 (some .int) (rmL 5) w [.ref (wad w 145)] M (f_M_untilSnap N rr M) := by
  refine Ct.go (by decide) (L := [(0, .ref (wad w 145))]) rfl (Nat.le_of_ble_eq_true rfl) (fun p0 e s m args below meth c g hret => ?_)
  unfold f_M_untilSnap
  refine G_aload_n g (pc := 0) 0 d_M_untilSnap_0 rfl rfl ?_
  refine G_getR g (pc := 1) fa_M_28 (hw.mm 145 (Nat.le_of_ble_eq_true rfl) (Nat.le_of_ble_eq_true rfl)) (hw.k (zk145 rr)) (hw.r hw.rr) d_M_untilSnap_1 ?_
  refine G_bipush g (pc := 4) (14 : Int32) d_M_untilSnap_4 rfl ?_
  refine G_ialdK g (pc := 6) (nn := 405) 14 rfl rfl hw.mr hw.kr hw.nr d_M_untilSnap_6 ?_
  refine G_nmI (fun x1 => ?_)
  refine G_istore_n g (pc := 7) _ d_M_untilSnap_7 rfl (Nat.le_of_ble_eq_true rfl) rfl ?_
  refine G_iconst g (pc := 8) (1 : Int32) d_M_untilSnap_8 rfl ?_
  refine G_istore_n g (pc := 9) _ d_M_untilSnap_9 rfl (Nat.le_of_ble_eq_true rfl) rfl ?_
  refine G_sub [2, 1, 0] _ rfl ?_
  refine G_loop (F := lp_M_untilSnap_10 N rr x1) 10 40 (fun (v10 : Int32) => [(0, .ref (wad w 145)), (1, .int x1), (2, .int v10)]) (fun (v10 : Int32) => [(0, .ref (wad w 145)), (1, .int x1), (2, .int v10)]) (fun _ _ _ => rfl) (fun a6 M5 => ?_) (fun k10 hk10 Nl10 ih10 v10 M => ?_) N (1 : Int32) M
  · refine G_iconst g (pc := 40) (-1 : Int32) d_M_untilSnap_40 rfl ?_
    exact G_ireturn g (pc := 41) hret (Nat.le_of_ble_eq_true rfl) (Nat.le_of_ble_eq_true rfl) d_M_untilSnap_41
  · show Go p0 l e _ s m args below meth c w _ _ _ _ (lp_M_untilSnap_10 N rr x1 (Nl10 + 1) v10 M k10) 10 _ _ M
    unfold lp_M_untilSnap_10
    refine G_iload_n g (pc := 10) 2 d_M_untilSnap_10 rfl rfl ?_
    refine G_sipush g (pc := 11) (200 : Int32) d_M_untilSnap_11 rfl ?_
    refine G_icmp_gt g (pc := 14) 40 d_M_untilSnap_14 (by decide) ?_ ?_
    · refine G_aload_n g (pc := 17) 0 d_M_untilSnap_17 rfl rfl ?_
      refine G_cVV g (pc := 18) (As := []) (st := []) cc_M_158 (c_M_passTick l N hw M) (hw.mm 145 (Nat.le_of_ble_eq_true rfl) (Nat.le_of_ble_eq_true rfl)) (hw.k (zk145 rr)) rfl (by decide) rfl ⟨(Nat.le_of_ble_eq_true rfl), (Nat.le_of_ble_eq_true rfl)⟩ ⟨(Nat.le_of_ble_eq_true rfl), (Nat.le_of_ble_eq_true rfl)⟩ (Nat.le_of_ble_eq_true rfl) d_M_untilSnap_18 (fun M3 => ?_)
      refine G_aload_n g (pc := 21) 0 d_M_untilSnap_21 rfl rfl ?_
      refine G_getR g (pc := 22) fa_M_28 (hw.mm 145 (Nat.le_of_ble_eq_true rfl) (Nat.le_of_ble_eq_true rfl)) (hw.k (zk145 rr)) (hw.r hw.rr) d_M_untilSnap_22 ?_
      refine G_bipush g (pc := 25) (14 : Int32) d_M_untilSnap_25 rfl ?_
      refine G_ialdK g (pc := 27) (nn := 405) 14 rfl rfl hw.mr hw.kr hw.nr d_M_untilSnap_27 ?_
      refine G_iload_n g (pc := 28) 1 d_M_untilSnap_28 rfl rfl ?_
      refine G_icmp_le g (pc := 29) 34 d_M_untilSnap_29 (by decide) ?_ ?_
      · refine G_iload_n g (pc := 32) 2 d_M_untilSnap_32 rfl rfl ?_
        exact G_ireturn g (pc := 33) hret (Nat.le_of_ble_eq_true rfl) (Nat.le_of_ble_eq_true rfl) d_M_untilSnap_33
      · refine G_nmX (v10 + (1 : Int32)) (fun x4 e_x4 => ?_)
        refine G_iinc g (pc := 34) x4 _ 2 d_M_untilSnap_34 rfl e_x4.symm (Nat.le_of_ble_eq_true rfl) rfl ?_
        refine G_goto g (pc := 37) 10 d_M_untilSnap_37 (by decide) ?_
        refine G_sub [1, 2, 0] _ rfl ?_
        exact ih10 x4 M3
    · refine G_sub [0, 1, 2] _ rfl ?_
      exact hk10 v10 M

theorem d_M_ticksToSnap_0 : decode b_M_ticksToSnap 0 = .ok (.aload_n 0, 1) := by decide +kernel
theorem d_M_ticksToSnap_1 : decode b_M_ticksToSnap 1 = .ok (.iconst 0, 1) := by decide +kernel
theorem d_M_ticksToSnap_2 : decode b_M_ticksToSnap 2 = .ok (.putfield 76, 3) := by decide +kernel
theorem d_M_ticksToSnap_5 : decode b_M_ticksToSnap 5 = .ok (.aload_n 0, 1) := by decide +kernel
theorem d_M_ticksToSnap_6 : decode b_M_ticksToSnap 6 = .ok (.invokevirtual 168, 3) := by decide +kernel
theorem d_M_ticksToSnap_9 : decode b_M_ticksToSnap 9 = .ok (.aload_n 0, 1) := by decide +kernel
theorem d_M_ticksToSnap_10 : decode b_M_ticksToSnap 10 = .ok (.aload_n 0, 1) := by decide +kernel
theorem d_M_ticksToSnap_11 : decode b_M_ticksToSnap 11 = .ok (.invokevirtual 177, 3) := by decide +kernel
theorem d_M_ticksToSnap_14 : decode b_M_ticksToSnap 14 = .ok (.invokevirtual 174, 3) := by decide +kernel
theorem d_M_ticksToSnap_17 : decode b_M_ticksToSnap 17 = .ok (.ireturn, 1) := by decide +kernel
theorem cc_M_177 : CV "KiteLoggerModel" 177 y_M_untilSnap b_M_untilSnap 3 (some .int) 0 := ⟨TT_in (i := 1726) (by decide +kernel) (by decide +kernel), TT_in (i := 1728) (by decide +kernel) (by decide +kernel), TT_in (i := 47) (by decide +kernel) (by decide +kernel), TT_in (i := 100) (by decide +kernel) (by decide +kernel), TT_in (i := 1729) (by decide +kernel) (by decide +kernel), ⟨by decide +kernel, by decide +kernel, by decide +kernel⟩⟩
def f_M_ticksToSnap (N : Nat) (rr : Nat) (M : Mem) : Option (Int32 × Mem) :=
  nm (put M 145 8 (0 : Int32)) fun (M1 : Mem) => bndM (f_M_putAside rr M1) fun (M3 : Mem) => bnd (f_M_untilSnap N rr M3) fun (x4 : Int32) (M5 : Mem) => bnd (f_M_laidBack rr x4 M5) fun (x6 : Int32) (M7 : Mem) => some (x6, M7)
set_option maxHeartbeats 4000000 in
set_option maxRecDepth 100000 in
theorem c_M_ticksToSnap (l : Launch) (N : Nat) {w : Wc} {rr : Nat} (hw : WM w rr)  (M : Mem) : Ct QI l y_M_ticksToSnap b_M_ticksToSnap 1 (some .int) (rmL 6) w [.ref (wad w 145)] M (f_M_ticksToSnap N rr M) := by
  refine Ct.go (by decide) (L := [(0, .ref (wad w 145))]) rfl (Nat.le_of_ble_eq_true rfl) (fun p0 e s m args below meth c g hret => ?_)
  unfold f_M_ticksToSnap
  refine G_aload_n g (pc := 0) 0 d_M_ticksToSnap_0 rfl rfl ?_
  refine G_iconst g (pc := 1) (0 : Int32) d_M_ticksToSnap_1 rfl ?_
  refine G_put g (pc := 2) fa_M_76 fw_10_8 rfl rfl (hw.mm 145 (Nat.le_of_ble_eq_true rfl) (Nat.le_of_ble_eq_true rfl)) (hw.k (zk145 rr)) d_M_ticksToSnap_2 ?_
  refine G_nmM (fun M1 => ?_)
  refine G_aload_n g (pc := 5) 0 d_M_ticksToSnap_5 rfl rfl ?_
  refine G_cVV g (pc := 6) (As := []) (st := []) cc_M_168 (c_M_putAside l hw M1) (hw.mm 145 (Nat.le_of_ble_eq_true rfl) (Nat.le_of_ble_eq_true rfl)) (hw.k (zk145 rr)) rfl (by decide) rfl ⟨(Nat.le_of_ble_eq_true rfl), (Nat.le_of_ble_eq_true rfl)⟩ ⟨(Nat.le_of_ble_eq_true rfl), (Nat.le_of_ble_eq_true rfl)⟩ (Nat.le_of_ble_eq_true rfl) d_M_ticksToSnap_6 (fun M3 => ?_)
  refine G_aload_n g (pc := 9) 0 d_M_ticksToSnap_9 rfl rfl ?_
  refine G_aload_n g (pc := 10) 0 d_M_ticksToSnap_10 rfl rfl ?_
  refine G_cVI g (pc := 11) (As := []) (st := [.ref (wad w 145)]) cc_M_177 (c_M_untilSnap l N hw M3) (hw.mm 145 (Nat.le_of_ble_eq_true rfl) (Nat.le_of_ble_eq_true rfl)) (hw.k (zk145 rr)) rfl (by decide) rfl ⟨(Nat.le_of_ble_eq_true rfl), (Nat.le_of_ble_eq_true rfl)⟩ ⟨(Nat.le_of_ble_eq_true rfl), (Nat.le_of_ble_eq_true rfl)⟩ (Nat.le_of_ble_eq_true rfl) d_M_ticksToSnap_11 (fun x4 M5 => ?_)
  refine G_cVI g (pc := 14) (As := [.int x4]) (st := []) cc_M_174 (c_M_laidBack l hw x4 M5) (hw.mm 145 (Nat.le_of_ble_eq_true rfl) (Nat.le_of_ble_eq_true rfl)) (hw.k (zk145 rr)) rfl (by decide) rfl ⟨(Nat.le_of_ble_eq_true rfl), (Nat.le_of_ble_eq_true rfl)⟩ ⟨(Nat.le_of_ble_eq_true rfl), (Nat.le_of_ble_eq_true rfl)⟩ (Nat.le_of_ble_eq_true rfl) d_M_ticksToSnap_14 (fun x6 M7 => ?_)
  exact G_ireturn g (pc := 17) hret (Nat.le_of_ble_eq_true rfl) (Nat.le_of_ble_eq_true rfl) d_M_ticksToSnap_17

theorem d_M_greatestGust_0 : decode b_M_greatestGust 0 = .ok (.iconst 0, 1) := by decide +kernel
theorem d_M_greatestGust_1 : decode b_M_greatestGust 1 = .ok (.istore_n 1, 1) := by decide +kernel
theorem d_M_greatestGust_2 : decode b_M_greatestGust 2 = .ok (.iconst 0, 1) := by decide +kernel
theorem d_M_greatestGust_3 : decode b_M_greatestGust 3 = .ok (.istore_n 2, 1) := by decide +kernel
theorem d_M_greatestGust_4 : decode b_M_greatestGust 4 = .ok (.iload_n 2, 1) := by decide +kernel
theorem d_M_greatestGust_5 : decode b_M_greatestGust 5 = .ok (.aload_n 0, 1) := by decide +kernel
theorem d_M_greatestGust_6 : decode b_M_greatestGust 6 = .ok (.getfield 28, 3) := by decide +kernel
theorem d_M_greatestGust_9 : decode b_M_greatestGust 9 = .ok (.iconst 5, 1) := by decide +kernel
theorem d_M_greatestGust_10 : decode b_M_greatestGust 10 = .ok (.iaload, 1) := by decide +kernel
theorem d_M_greatestGust_11 : decode b_M_greatestGust 11 = .ok (.if_icmp .ge 23, 3) := by decide +kernel
theorem d_M_greatestGust_14 : decode b_M_greatestGust 14 = .ok (.iload_n 1, 1) := by decide +kernel
theorem d_M_greatestGust_15 : decode b_M_greatestGust 15 = .ok (.aload_n 0, 1) := by decide +kernel
theorem d_M_greatestGust_16 : decode b_M_greatestGust 16 = .ok (.getfield 28, 3) := by decide +kernel
theorem d_M_greatestGust_19 : decode b_M_greatestGust 19 = .ok (.bipush 21, 2) := by decide +kernel
theorem d_M_greatestGust_21 : decode b_M_greatestGust 21 = .ok (.iload_n 2, 1) := by decide +kernel
theorem d_M_greatestGust_22 : decode b_M_greatestGust 22 = .ok (.iadd, 1) := by decide +kernel
theorem d_M_greatestGust_23 : decode b_M_greatestGust 23 = .ok (.iaload, 1) := by decide +kernel
theorem d_M_greatestGust_24 : decode b_M_greatestGust 24 = .ok (.invokestatic 94, 3) := by decide +kernel
theorem d_M_greatestGust_27 : decode b_M_greatestGust 27 = .ok (.istore_n 1, 1) := by decide +kernel
theorem d_M_greatestGust_28 : decode b_M_greatestGust 28 = .ok (.iinc 2 1, 3) := by decide +kernel
theorem d_M_greatestGust_31 : decode b_M_greatestGust 31 = .ok (.goto (-27), 3) := by decide +kernel
theorem d_M_greatestGust_34 : decode b_M_greatestGust 34 = .ok (.iload_n 1, 1) := by decide +kernel
theorem d_M_greatestGust_35 : decode b_M_greatestGust 35 = .ok (.ireturn, 1) := by decide +kernel
def lp_M_greatestGust_4 (N0 rr : Nat)   : Nat → Int32 × Int32 → Mem → (Int32 × Int32 → Mem → Option (Int32 × Mem)) → Option (Int32 × Mem)
  | 0, _, _, _ => none
  | N + 1, v4, M, k4 => if v4.2 < (M rr 5) then (grd (inB ((21 : Int32) + v4.2) 405) (bnd (f_M_most v4.1 (M rr ((21 : Int32) + v4.2).toNatClampNeg) M) fun (x1 : Int32) (M2 : Mem) => nm (v4.2 + (1 : Int32)) fun (x3 : Int32) => lp_M_greatestGust_4 N0 rr N (x1, x3) M2 k4)) else (k4 (v4.1, v4.2) M)
def f_M_greatestGust (N : Nat) (rr : Nat) (M : Mem) : Option (Int32 × Mem) :=
  lp_M_greatestGust_4 N rr N ((0 : Int32), (0 : Int32)) M (fun (a5 : Int32 × Int32) (M4 : Mem) => some (a5.1, M4))
set_option maxHeartbeats 4000000 in
set_option maxRecDepth 100000 in
theorem c_M_greatestGust (l : Launch) (N : Nat) {w : Wc} {rr : Nat} (hw : WM w rr)  (M : Mem) : Ct QI l y_M_greatestGust b_M_greatestGust 3 (some .int) (rmL 1) w [.ref (wad w 145)] M (f_M_greatestGust N rr M) := by
  refine Ct.go (by decide) (L := [(0, .ref (wad w 145))]) rfl (Nat.le_of_ble_eq_true rfl) (fun p0 e s m args below meth c g hret => ?_)
  unfold f_M_greatestGust
  refine G_iconst g (pc := 0) (0 : Int32) d_M_greatestGust_0 rfl ?_
  refine G_istore_n g (pc := 1) _ d_M_greatestGust_1 rfl (Nat.le_of_ble_eq_true rfl) rfl ?_
  refine G_iconst g (pc := 2) (0 : Int32) d_M_greatestGust_2 rfl ?_
  refine G_istore_n g (pc := 3) _ d_M_greatestGust_3 rfl (Nat.le_of_ble_eq_true rfl) rfl ?_
  refine G_sub [2, 1, 0] _ rfl ?_
  refine G_loop (F := lp_M_greatestGust_4 N rr) 4 34 (fun (v4 : Int32 × Int32) => [(0, .ref (wad w 145)), (1, .int v4.1), (2, .int v4.2)]) (fun (v4 : Int32 × Int32) => [(0, .ref (wad w 145)), (1, .int v4.1), (2, .int v4.2)]) (fun _ _ _ => rfl) (fun a5 M4 => ?_) (fun k4 hk4 Nl4 ih4 v4 M => ?_) N ((0 : Int32), (0 : Int32)) M
  · refine G_iload_n g (pc := 34) 1 d_M_greatestGust_34 rfl rfl ?_
    exact G_ireturn g (pc := 35) hret (Nat.le_of_ble_eq_true rfl) (Nat.le_of_ble_eq_true rfl) d_M_greatestGust_35
  · show Go p0 l e _ s m args below meth c w _ _ _ _ (lp_M_greatestGust_4 N rr (Nl4 + 1) v4 M k4) 4 _ _ M
    unfold lp_M_greatestGust_4
    refine G_iload_n g (pc := 4) 2 d_M_greatestGust_4 rfl rfl ?_
    refine G_aload_n g (pc := 5) 0 d_M_greatestGust_5 rfl rfl ?_
    refine G_getR g (pc := 6) fa_M_28 (hw.mm 145 (Nat.le_of_ble_eq_true rfl) (Nat.le_of_ble_eq_true rfl)) (hw.k (zk145 rr)) (hw.r hw.rr) d_M_greatestGust_6 ?_
    refine G_iconst g (pc := 9) (5 : Int32) d_M_greatestGust_9 rfl ?_
    refine G_ialdK g (pc := 10) (nn := 405) 5 rfl rfl hw.mr hw.kr hw.nr d_M_greatestGust_10 ?_
    refine G_icmp_ge g (pc := 11) 34 d_M_greatestGust_11 (by decide) ?_ ?_
    · refine G_iload_n g (pc := 14) 1 d_M_greatestGust_14 rfl rfl ?_
      refine G_aload_n g (pc := 15) 0 d_M_greatestGust_15 rfl rfl ?_
      refine G_getR g (pc := 16) fa_M_28 (hw.mm 145 (Nat.le_of_ble_eq_true rfl) (Nat.le_of_ble_eq_true rfl)) (hw.k (zk145 rr)) (hw.r hw.rr) d_M_greatestGust_16 ?_
      refine G_bipush g (pc := 19) (21 : Int32) d_M_greatestGust_19 rfl ?_
      refine G_iload_n g (pc := 21) 2 d_M_greatestGust_21 rfl rfl ?_
      refine G_iadd g (pc := 22) d_M_greatestGust_22 ?_
      refine G_iald g (pc := 23) (nn := 405) hw.mr hw.kr hw.nr d_M_greatestGust_23 ?_
      refine G_cSI g (pc := 24) (As := [.int v4.1, .int (M rr ((21 : Int32) + v4.2).toNatClampNeg)]) (st := []) cc_M_94 (c_M_most l hw v4.1 (M rr ((21 : Int32) + v4.2).toNatClampNeg) M) rfl ⟨(Nat.le_of_ble_eq_true rfl), (Nat.le_of_ble_eq_true rfl)⟩ ⟨(Nat.le_of_ble_eq_true rfl), (Nat.le_of_ble_eq_true rfl)⟩ (Nat.le_of_ble_eq_true rfl) d_M_greatestGust_24 (fun x1 M2 => ?_)
      refine G_istore_n g (pc := 27) _ d_M_greatestGust_27 rfl (Nat.le_of_ble_eq_true rfl) rfl ?_
      refine G_nmX (v4.2 + (1 : Int32)) (fun x3 e_x3 => ?_)
      refine G_iinc g (pc := 28) x3 _ 2 d_M_greatestGust_28 rfl e_x3.symm (Nat.le_of_ble_eq_true rfl) rfl ?_
      refine G_goto g (pc := 31) 4 d_M_greatestGust_31 (by decide) ?_
      refine G_sub [2, 1, 0] _ rfl ?_
      exact ih4 (x1, x3) M2
    · refine G_sub [0, 1, 2] _ rfl ?_
      exact hk4 (v4.1, v4.2) M

theorem d_M_safeHeight_0 : decode b_M_safeHeight 0 = .ok (.aload_n 0, 1) := by decide +kernel
theorem d_M_safeHeight_1 : decode b_M_safeHeight 1 = .ok (.iconst 0, 1) := by decide +kernel
theorem d_M_safeHeight_2 : decode b_M_safeHeight 2 = .ok (.putfield 76, 3) := by decide +kernel
theorem d_M_safeHeight_5 : decode b_M_safeHeight 5 = .ok (.aload_n 0, 1) := by decide +kernel
theorem d_M_safeHeight_6 : decode b_M_safeHeight 6 = .ok (.invokevirtual 180, 3) := by decide +kernel
theorem d_M_safeHeight_9 : decode b_M_safeHeight 9 = .ok (.istore_n 1, 1) := by decide +kernel
theorem d_M_safeHeight_10 : decode b_M_safeHeight 10 = .ok (.sipush 600, 3) := by decide +kernel
theorem d_M_safeHeight_13 : decode b_M_safeHeight 13 = .ok (.istore_n 2, 1) := by decide +kernel
theorem d_M_safeHeight_14 : decode b_M_safeHeight 14 = .ok (.iload_n 2, 1) := by decide +kernel
theorem d_M_safeHeight_15 : decode b_M_safeHeight 15 = .ok (.ifCond .lt 28, 3) := by decide +kernel
theorem d_M_safeHeight_18 : decode b_M_safeHeight 18 = .ok (.aload_n 0, 1) := by decide +kernel
theorem d_M_safeHeight_19 : decode b_M_safeHeight 19 = .ok (.iload_n 1, 1) := by decide +kernel
theorem d_M_safeHeight_20 : decode b_M_safeHeight 20 = .ok (.iload_n 2, 1) := by decide +kernel
theorem d_M_safeHeight_21 : decode b_M_safeHeight 21 = .ok (.bipush 100, 2) := by decide +kernel
theorem d_M_safeHeight_23 : decode b_M_safeHeight 23 = .ok (.idiv, 1) := by decide +kernel
theorem d_M_safeHeight_24 : decode b_M_safeHeight 24 = .ok (.iadd, 1) := by decide +kernel
theorem d_M_safeHeight_25 : decode b_M_safeHeight 25 = .ok (.invokevirtual 110, 3) := by decide +kernel
theorem d_M_safeHeight_28 : decode b_M_safeHeight 28 = .ok (.aload_n 0, 1) := by decide +kernel
theorem d_M_safeHeight_29 : decode b_M_safeHeight 29 = .ok (.getfield 28, 3) := by decide +kernel
theorem d_M_safeHeight_32 : decode b_M_safeHeight 32 = .ok (.iconst 2, 1) := by decide +kernel
theorem d_M_safeHeight_33 : decode b_M_safeHeight 33 = .ok (.iaload, 1) := by decide +kernel
theorem d_M_safeHeight_34 : decode b_M_safeHeight 34 = .ok (.if_icmp .le 9, 3) := by decide +kernel
theorem d_M_safeHeight_37 : decode b_M_safeHeight 37 = .ok (.iinc 2 (-1), 3) := by decide +kernel
theorem d_M_safeHeight_40 : decode b_M_safeHeight 40 = .ok (.goto (-26), 3) := by decide +kernel
theorem d_M_safeHeight_43 : decode b_M_safeHeight 43 = .ok (.iload_n 2, 1) := by decide +kernel
theorem d_M_safeHeight_44 : decode b_M_safeHeight 44 = .ok (.ireturn, 1) := by decide +kernel
theorem cc_M_180 : CV "KiteLoggerModel" 180 y_M_greatestGust b_M_greatestGust 3 (some .int) 0 := ⟨TT_in (i := 1734) (by decide +kernel) (by decide +kernel), TT_in (i := 1736) (by decide +kernel) (by decide +kernel), TT_in (i := 48) (by decide +kernel) (by decide +kernel), TT_in (i := 100) (by decide +kernel) (by decide +kernel), TT_in (i := 1737) (by decide +kernel) (by decide +kernel), ⟨by decide +kernel, by decide +kernel, by decide +kernel⟩⟩
def lp_M_safeHeight_14 (N0 rr : Nat)  (c1 : Int32) : Nat → Int32 → Mem → (Int32 → Mem → Option (Int32 × Mem)) → Option (Int32 × Mem)
  | 0, _, _, _ => none
  | N + 1, v14, M, k14 => if v14 < 0 then (k14 v14 M) else (bnd (f_M_load rr (c1 + (v14 / (100 : Int32))) M) fun (x4 : Int32) (M5 : Mem) => if (M5 rr 2) < x4 then (nm (v14 + (-1 : Int32)) fun (x6 : Int32) => lp_M_safeHeight_14 N0 rr c1 N x6 M5 k14) else (k14 v14 M5))
def f_M_safeHeight (N : Nat) (rr : Nat) (M : Mem) : Option (Int32 × Mem) :=
  nm (put M 145 8 (0 : Int32)) fun (M1 : Mem) => bnd (f_M_greatestGust N rr M1) fun (x2 : Int32) (M3 : Mem) => lp_M_safeHeight_14 N rr x2 N (600 : Int32) M3 (fun (a8 : Int32) (M7 : Mem) => some (a8, M7))
set_option maxHeartbeats 4000000 in
set_option maxRecDepth 100000 in
theorem c_M_safeHeight (l : Launch) (N : Nat) {w : Wc} {rr : Nat} (hw : WM w rr)  (M : Mem) : Ct QI l y_M_safeHeight b_M_safeHeight 3 (some .int) (rmL 2) w [.ref (wad w 145)] M (f_M_safeHeight N rr M) := by
  refine Ct.go (by decide) (L := [(0, .ref (wad w 145))]) rfl (Nat.le_of_ble_eq_true rfl) (fun p0 e s m args below meth c g hret => ?_)
  unfold f_M_safeHeight
  refine G_aload_n g (pc := 0) 0 d_M_safeHeight_0 rfl rfl ?_
  refine G_iconst g (pc := 1) (0 : Int32) d_M_safeHeight_1 rfl ?_
  refine G_put g (pc := 2) fa_M_76 fw_10_8 rfl rfl (hw.mm 145 (Nat.le_of_ble_eq_true rfl) (Nat.le_of_ble_eq_true rfl)) (hw.k (zk145 rr)) d_M_safeHeight_2 ?_
  refine G_nmM (fun M1 => ?_)
  refine G_aload_n g (pc := 5) 0 d_M_safeHeight_5 rfl rfl ?_
  refine G_cVI g (pc := 6) (As := []) (st := []) cc_M_180 (c_M_greatestGust l N hw M1) (hw.mm 145 (Nat.le_of_ble_eq_true rfl) (Nat.le_of_ble_eq_true rfl)) (hw.k (zk145 rr)) rfl (by decide) rfl ⟨(Nat.le_of_ble_eq_true rfl), (Nat.le_of_ble_eq_true rfl)⟩ ⟨(Nat.le_of_ble_eq_true rfl), (Nat.le_of_ble_eq_true rfl)⟩ (Nat.le_of_ble_eq_true rfl) d_M_safeHeight_6 (fun x2 M3 => ?_)
  refine G_istore_n g (pc := 9) _ d_M_safeHeight_9 rfl (Nat.le_of_ble_eq_true rfl) rfl ?_
  refine G_sipush g (pc := 10) (600 : Int32) d_M_safeHeight_10 rfl ?_
  refine G_istore_n g (pc := 13) _ d_M_safeHeight_13 rfl (Nat.le_of_ble_eq_true rfl) rfl ?_
  refine G_sub [2, 1, 0] _ rfl ?_
  refine G_loop (F := lp_M_safeHeight_14 N rr x2) 14 43 (fun (v14 : Int32) => [(0, .ref (wad w 145)), (1, .int x2), (2, .int v14)]) (fun (v14 : Int32) => [(0, .ref (wad w 145)), (1, .int x2), (2, .int v14)]) (fun _ _ _ => rfl) (fun a8 M7 => ?_) (fun k14 hk14 Nl14 ih14 v14 M => ?_) N (600 : Int32) M3
  · refine G_iload_n g (pc := 43) 2 d_M_safeHeight_43 rfl rfl ?_
    exact G_ireturn g (pc := 44) hret (Nat.le_of_ble_eq_true rfl) (Nat.le_of_ble_eq_true rfl) d_M_safeHeight_44
  · show Go p0 l e _ s m args below meth c w _ _ _ _ (lp_M_safeHeight_14 N rr x2 (Nl14 + 1) v14 M k14) 14 _ _ M
    unfold lp_M_safeHeight_14
    refine G_iload_n g (pc := 14) 2 d_M_safeHeight_14 rfl rfl ?_
    refine G_if_lt g (pc := 15) 43 d_M_safeHeight_15 (by decide) ?_ ?_
    · refine G_sub [0, 1, 2] _ rfl ?_
      exact hk14 v14 M
    · refine G_aload_n g (pc := 18) 0 d_M_safeHeight_18 rfl rfl ?_
      refine G_iload_n g (pc := 19) 1 d_M_safeHeight_19 rfl rfl ?_
      refine G_iload_n g (pc := 20) 2 d_M_safeHeight_20 rfl rfl ?_
      refine G_bipush g (pc := 21) (100 : Int32) d_M_safeHeight_21 rfl ?_
      refine G_idivK g (pc := 23) (by decide) d_M_safeHeight_23 ?_
      refine G_iadd g (pc := 24) d_M_safeHeight_24 ?_
      refine G_cVI g (pc := 25) (As := [.int (x2 + (v14 / (100 : Int32)))]) (st := []) cc_M_110 (c_M_load l hw (x2 + (v14 / (100 : Int32))) M) (hw.mm 145 (Nat.le_of_ble_eq_true rfl) (Nat.le_of_ble_eq_true rfl)) (hw.k (zk145 rr)) rfl (by decide) rfl ⟨(Nat.le_of_ble_eq_true rfl), (Nat.le_of_ble_eq_true rfl)⟩ ⟨(Nat.le_of_ble_eq_true rfl), (Nat.le_of_ble_eq_true rfl)⟩ (Nat.le_of_ble_eq_true rfl) d_M_safeHeight_25 (fun x4 M5 => ?_)
      refine G_aload_n g (pc := 28) 0 d_M_safeHeight_28 rfl rfl ?_
      refine G_getR g (pc := 29) fa_M_28 (hw.mm 145 (Nat.le_of_ble_eq_true rfl) (Nat.le_of_ble_eq_true rfl)) (hw.k (zk145 rr)) (hw.r hw.rr) d_M_safeHeight_29 ?_
      refine G_iconst g (pc := 32) (2 : Int32) d_M_safeHeight_32 rfl ?_
      refine G_ialdK g (pc := 33) (nn := 405) 2 rfl rfl hw.mr hw.kr hw.nr d_M_safeHeight_33 ?_
      refine G_icmp_le g (pc := 34) 43 d_M_safeHeight_34 (by decide) ?_ ?_
      · refine G_nmX (v14 + (-1 : Int32)) (fun x6 e_x6 => ?_)
        refine G_iinc g (pc := 37) x6 _ 2 d_M_safeHeight_37 rfl e_x6.symm (Nat.le_of_ble_eq_true rfl) rfl ?_
        refine G_goto g (pc := 40) 14 d_M_safeHeight_40 (by decide) ?_
        refine G_sub [1, 2, 0] _ rfl ?_
        exact ih14 x6 M5
      · refine G_sub [0, 1, 2] _ rfl ?_
        exact hk14 v14 M5

theorem d_M_doLaunch_0 : decode b_M_doLaunch 0 = .ok (.aload_n 0, 1) := by decide +kernel
theorem d_M_doLaunch_1 : decode b_M_doLaunch 1 = .ok (.invokevirtual 161, 3) := by decide +kernel
theorem d_M_doLaunch_4 : decode b_M_doLaunch 4 = .ok (.ifCond .eq 5, 3) := by decide +kernel
theorem d_M_doLaunch_7 : decode b_M_doLaunch 7 = .ok (.iconst 1, 1) := by decide +kernel
theorem d_M_doLaunch_8 : decode b_M_doLaunch 8 = .ok (.ireturn, 1) := by decide +kernel
theorem d_M_doLaunch_9 : decode b_M_doLaunch 9 = .ok (.aload_n 0, 1) := by decide +kernel
theorem d_M_doLaunch_10 : decode b_M_doLaunch 10 = .ok (.getfield 28, 3) := by decide +kernel
theorem d_M_doLaunch_13 : decode b_M_doLaunch 13 = .ok (.bipush 6, 2) := by decide +kernel
theorem d_M_doLaunch_15 : decode b_M_doLaunch 15 = .ok (.iconst 1, 1) := by decide +kernel
theorem d_M_doLaunch_16 : decode b_M_doLaunch 16 = .ok (.iastore, 1) := by decide +kernel
theorem d_M_doLaunch_17 : decode b_M_doLaunch 17 = .ok (.aload_n 0, 1) := by decide +kernel
theorem d_M_doLaunch_18 : decode b_M_doLaunch 18 = .ok (.getfield 28, 3) := by decide +kernel
theorem d_M_doLaunch_21 : decode b_M_doLaunch 21 = .ok (.bipush 7, 2) := by decide +kernel
theorem d_M_doLaunch_23 : decode b_M_doLaunch 23 = .ok (.bipush 10, 2) := by decide +kernel
theorem d_M_doLaunch_25 : decode b_M_doLaunch 25 = .ok (.iastore, 1) := by decide +kernel
theorem d_M_doLaunch_26 : decode b_M_doLaunch 26 = .ok (.aload_n 0, 1) := by decide +kernel
theorem d_M_doLaunch_27 : decode b_M_doLaunch 27 = .ok (.getfield 28, 3) := by decide +kernel
theorem d_M_doLaunch_30 : decode b_M_doLaunch 30 = .ok (.bipush 12, 2) := by decide +kernel
theorem d_M_doLaunch_32 : decode b_M_doLaunch 32 = .ok (.iconst 0, 1) := by decide +kernel
theorem d_M_doLaunch_33 : decode b_M_doLaunch 33 = .ok (.iastore, 1) := by decide +kernel
theorem d_M_doLaunch_34 : decode b_M_doLaunch 34 = .ok (.aload_n 0, 1) := by decide +kernel
theorem d_M_doLaunch_35 : decode b_M_doLaunch 35 = .ok (.getfield 28, 3) := by decide +kernel
theorem d_M_doLaunch_38 : decode b_M_doLaunch 38 = .ok (.bipush 16, 2) := by decide +kernel
theorem d_M_doLaunch_40 : decode b_M_doLaunch 40 = .ok (.iconst 0, 1) := by decide +kernel
theorem d_M_doLaunch_41 : decode b_M_doLaunch 41 = .ok (.iastore, 1) := by decide +kernel
theorem d_M_doLaunch_42 : decode b_M_doLaunch 42 = .ok (.aload_n 0, 1) := by decide +kernel
theorem d_M_doLaunch_43 : decode b_M_doLaunch 43 = .ok (.getfield 28, 3) := by decide +kernel
theorem d_M_doLaunch_46 : decode b_M_doLaunch 46 = .ok (.bipush 13, 2) := by decide +kernel
theorem d_M_doLaunch_48 : decode b_M_doLaunch 48 = .ok (.dup2, 1) := by decide +kernel
theorem d_M_doLaunch_49 : decode b_M_doLaunch 49 = .ok (.iaload, 1) := by decide +kernel
theorem d_M_doLaunch_50 : decode b_M_doLaunch 50 = .ok (.iconst 1, 1) := by decide +kernel
theorem d_M_doLaunch_51 : decode b_M_doLaunch 51 = .ok (.iadd, 1) := by decide +kernel
theorem d_M_doLaunch_52 : decode b_M_doLaunch 52 = .ok (.iastore, 1) := by decide +kernel
theorem d_M_doLaunch_53 : decode b_M_doLaunch 53 = .ok (.aload_n 0, 1) := by decide +kernel
theorem d_M_doLaunch_54 : decode b_M_doLaunch 54 = .ok (.aload_n 0, 1) := by decide +kernel
theorem d_M_doLaunch_55 : decode b_M_doLaunch 55 = .ok (.getfield 28, 3) := by decide +kernel
theorem d_M_doLaunch_58 : decode b_M_doLaunch 58 = .ok (.bipush 13, 2) := by decide +kernel
theorem d_M_doLaunch_60 : decode b_M_doLaunch 60 = .ok (.iaload, 1) := by decide +kernel
theorem d_M_doLaunch_61 : decode b_M_doLaunch 61 = .ok (.putfield 183, 3) := by decide +kernel
theorem d_M_doLaunch_64 : decode b_M_doLaunch 64 = .ok (.iconst 0, 1) := by decide +kernel
theorem d_M_doLaunch_65 : decode b_M_doLaunch 65 = .ok (.ireturn, 1) := by decide +kernel
def f_M_doLaunch (rr : Nat) (M : Mem) : Option (Int32 × Mem) :=
  bnd (f_M_whyNotLaunch rr M) fun (x1 : Int32) (M2 : Mem) => if x1 = 0 then (nm (put M2 rr 6 (1 : Int32)) fun (M3 : Mem) => nm (put M3 rr 7 (10 : Int32)) fun (M4 : Mem) => nm (put M4 rr 12 (0 : Int32)) fun (M5 : Mem) => nm (put M5 rr 16 (0 : Int32)) fun (M6 : Mem) => nm (put M6 rr 13 ((M6 rr 13) + (1 : Int32))) fun (M7 : Mem) => nm (put M7 145 10 (M7 rr 13)) fun (M8 : Mem) => some ((0 : Int32), M8)) else (some ((1 : Int32), M2))
set_option maxHeartbeats 4000000 in
set_option maxRecDepth 100000 in
theorem c_M_doLaunch (l : Launch) {w : Wc} {rr : Nat} (hw : WM w rr)  (M : Mem) : Ct QI l y_M_doLaunch b_M_doLaunch 1 (some .int) (rmL 3) w [.ref (wad w 145)] M (f_M_doLaunch rr M) := by
  refine Ct.go (by decide) (L := [(0, .ref (wad w 145))]) rfl (Nat.le_of_ble_eq_true rfl) (fun p0 e s m args below meth c g hret => ?_)
  unfold f_M_doLaunch
  refine G_aload_n g (pc := 0) 0 d_M_doLaunch_0 rfl rfl ?_
  refine G_cVI g (pc := 1) (As := []) (st := []) cc_M_161 (c_M_whyNotLaunch l hw M) (hw.mm 145 (Nat.le_of_ble_eq_true rfl) (Nat.le_of_ble_eq_true rfl)) (hw.k (zk145 rr)) rfl (by decide) rfl ⟨(Nat.le_of_ble_eq_true rfl), (Nat.le_of_ble_eq_true rfl)⟩ ⟨(Nat.le_of_ble_eq_true rfl), (Nat.le_of_ble_eq_true rfl)⟩ (Nat.le_of_ble_eq_true rfl) d_M_doLaunch_1 (fun x1 M2 => ?_)
  refine G_if_eq g (pc := 4) 9 d_M_doLaunch_4 (by decide) ?_ ?_
  · refine G_aload_n g (pc := 9) 0 d_M_doLaunch_9 rfl rfl ?_
    refine G_getR g (pc := 10) fa_M_28 (hw.mm 145 (Nat.le_of_ble_eq_true rfl) (Nat.le_of_ble_eq_true rfl)) (hw.k (zk145 rr)) (hw.r hw.rr) d_M_doLaunch_10 ?_
    refine G_bipush g (pc := 13) (6 : Int32) d_M_doLaunch_13 rfl ?_
    refine G_iconst g (pc := 15) (1 : Int32) d_M_doLaunch_15 rfl ?_
    refine G_iastK g (pc := 16) (nn := 405) 6 rfl rfl hw.mr hw.kr hw.nr d_M_doLaunch_16 ?_
    refine G_nmM (fun M3 => ?_)
    refine G_aload_n g (pc := 17) 0 d_M_doLaunch_17 rfl rfl ?_
    refine G_getR g (pc := 18) fa_M_28 (hw.mm 145 (Nat.le_of_ble_eq_true rfl) (Nat.le_of_ble_eq_true rfl)) (hw.k (zk145 rr)) (hw.r hw.rr) d_M_doLaunch_18 ?_
    refine G_bipush g (pc := 21) (7 : Int32) d_M_doLaunch_21 rfl ?_
    refine G_bipush g (pc := 23) (10 : Int32) d_M_doLaunch_23 rfl ?_
    refine G_iastK g (pc := 25) (nn := 405) 7 rfl rfl hw.mr hw.kr hw.nr d_M_doLaunch_25 ?_
    refine G_nmM (fun M4 => ?_)
    refine G_aload_n g (pc := 26) 0 d_M_doLaunch_26 rfl rfl ?_
    refine G_getR g (pc := 27) fa_M_28 (hw.mm 145 (Nat.le_of_ble_eq_true rfl) (Nat.le_of_ble_eq_true rfl)) (hw.k (zk145 rr)) (hw.r hw.rr) d_M_doLaunch_27 ?_
    refine G_bipush g (pc := 30) (12 : Int32) d_M_doLaunch_30 rfl ?_
    refine G_iconst g (pc := 32) (0 : Int32) d_M_doLaunch_32 rfl ?_
    refine G_iastK g (pc := 33) (nn := 405) 12 rfl rfl hw.mr hw.kr hw.nr d_M_doLaunch_33 ?_
    refine G_nmM (fun M5 => ?_)
    refine G_aload_n g (pc := 34) 0 d_M_doLaunch_34 rfl rfl ?_
    refine G_getR g (pc := 35) fa_M_28 (hw.mm 145 (Nat.le_of_ble_eq_true rfl) (Nat.le_of_ble_eq_true rfl)) (hw.k (zk145 rr)) (hw.r hw.rr) d_M_doLaunch_35 ?_
    refine G_bipush g (pc := 38) (16 : Int32) d_M_doLaunch_38 rfl ?_
    refine G_iconst g (pc := 40) (0 : Int32) d_M_doLaunch_40 rfl ?_
    refine G_iastK g (pc := 41) (nn := 405) 16 rfl rfl hw.mr hw.kr hw.nr d_M_doLaunch_41 ?_
    refine G_nmM (fun M6 => ?_)
    refine G_aload_n g (pc := 42) 0 d_M_doLaunch_42 rfl rfl ?_
    refine G_getR g (pc := 43) fa_M_28 (hw.mm 145 (Nat.le_of_ble_eq_true rfl) (Nat.le_of_ble_eq_true rfl)) (hw.k (zk145 rr)) (hw.r hw.rr) d_M_doLaunch_43 ?_
    refine G_bipush g (pc := 46) (13 : Int32) d_M_doLaunch_46 rfl ?_
    refine G_dup2 g (pc := 48) d_M_doLaunch_48 rfl rfl ?_
    refine G_ialdK g (pc := 49) (nn := 405) 13 rfl rfl hw.mr hw.kr hw.nr d_M_doLaunch_49 ?_
    refine G_iconst g (pc := 50) (1 : Int32) d_M_doLaunch_50 rfl ?_
    refine G_iadd g (pc := 51) d_M_doLaunch_51 ?_
    refine G_iastK g (pc := 52) (nn := 405) 13 rfl rfl hw.mr hw.kr hw.nr d_M_doLaunch_52 ?_
    refine G_nmM (fun M7 => ?_)
    refine G_aload_n g (pc := 53) 0 d_M_doLaunch_53 rfl rfl ?_
    refine G_aload_n g (pc := 54) 0 d_M_doLaunch_54 rfl rfl ?_
    refine G_getR g (pc := 55) fa_M_28 (hw.mm 145 (Nat.le_of_ble_eq_true rfl) (Nat.le_of_ble_eq_true rfl)) (hw.k (zk145 rr)) (hw.r hw.rr) d_M_doLaunch_55 ?_
    refine G_bipush g (pc := 58) (13 : Int32) d_M_doLaunch_58 rfl ?_
    refine G_ialdK g (pc := 60) (nn := 405) 13 rfl rfl hw.mr hw.kr hw.nr d_M_doLaunch_60 ?_
    refine G_put g (pc := 61) fa_M_183 fw_10_10 rfl rfl (hw.mm 145 (Nat.le_of_ble_eq_true rfl) (Nat.le_of_ble_eq_true rfl)) (hw.k (zk145 rr)) d_M_doLaunch_61 ?_
    refine G_nmM (fun M8 => ?_)
    refine G_iconst g (pc := 64) (0 : Int32) d_M_doLaunch_64 rfl ?_
    exact G_ireturn g (pc := 65) hret (Nat.le_of_ble_eq_true rfl) (Nat.le_of_ble_eq_true rfl) d_M_doLaunch_65
  · refine G_iconst g (pc := 7) (1 : Int32) d_M_doLaunch_7 rfl ?_
    exact G_ireturn g (pc := 8) hret (Nat.le_of_ble_eq_true rfl) (Nat.le_of_ble_eq_true rfl) d_M_doLaunch_8

theorem d_M_doOut_0 : decode b_M_doOut 0 = .ok (.aload_n 0, 1) := by decide +kernel
theorem d_M_doOut_1 : decode b_M_doOut 1 = .ok (.iconst 2, 1) := by decide +kernel
theorem d_M_doOut_2 : decode b_M_doOut 2 = .ok (.invokevirtual 106, 3) := by decide +kernel
theorem d_M_doOut_5 : decode b_M_doOut 5 = .ok (.ifCond .ne 18, 3) := by decide +kernel
theorem d_M_doOut_8 : decode b_M_doOut 8 = .ok (.aload_n 0, 1) := by decide +kernel
theorem d_M_doOut_9 : decode b_M_doOut 9 = .ok (.getfield 28, 3) := by decide +kernel
theorem d_M_doOut_12 : decode b_M_doOut 12 = .ok (.bipush 8, 2) := by decide +kernel
theorem d_M_doOut_14 : decode b_M_doOut 14 = .ok (.iaload, 1) := by decide +kernel
theorem d_M_doOut_15 : decode b_M_doOut 15 = .ok (.iload_n 1, 1) := by decide +kernel
theorem d_M_doOut_16 : decode b_M_doOut 16 = .ok (.iadd, 1) := by decide +kernel
theorem d_M_doOut_17 : decode b_M_doOut 17 = .ok (.sipush 600, 3) := by decide +kernel
theorem d_M_doOut_20 : decode b_M_doOut 20 = .ok (.if_icmp .le 5, 3) := by decide +kernel
theorem d_M_doOut_23 : decode b_M_doOut 23 = .ok (.iconst 2, 1) := by decide +kernel
theorem d_M_doOut_24 : decode b_M_doOut 24 = .ok (.ireturn, 1) := by decide +kernel
theorem d_M_doOut_25 : decode b_M_doOut 25 = .ok (.aload_n 0, 1) := by decide +kernel
theorem d_M_doOut_26 : decode b_M_doOut 26 = .ok (.getfield 28, 3) := by decide +kernel
theorem d_M_doOut_29 : decode b_M_doOut 29 = .ok (.bipush 8, 2) := by decide +kernel
theorem d_M_doOut_31 : decode b_M_doOut 31 = .ok (.dup2, 1) := by decide +kernel
theorem d_M_doOut_32 : decode b_M_doOut 32 = .ok (.iaload, 1) := by decide +kernel
theorem d_M_doOut_33 : decode b_M_doOut 33 = .ok (.iload_n 1, 1) := by decide +kernel
theorem d_M_doOut_34 : decode b_M_doOut 34 = .ok (.iadd, 1) := by decide +kernel
theorem d_M_doOut_35 : decode b_M_doOut 35 = .ok (.iastore, 1) := by decide +kernel
theorem d_M_doOut_36 : decode b_M_doOut 36 = .ok (.aload_n 0, 1) := by decide +kernel
theorem d_M_doOut_37 : decode b_M_doOut 37 = .ok (.aload_n 0, 1) := by decide +kernel
theorem d_M_doOut_38 : decode b_M_doOut 38 = .ok (.getfield 28, 3) := by decide +kernel
theorem d_M_doOut_41 : decode b_M_doOut 41 = .ok (.bipush 8, 2) := by decide +kernel
theorem d_M_doOut_43 : decode b_M_doOut 43 = .ok (.iaload, 1) := by decide +kernel
theorem d_M_doOut_44 : decode b_M_doOut 44 = .ok (.putfield 183, 3) := by decide +kernel
theorem d_M_doOut_47 : decode b_M_doOut 47 = .ok (.iconst 0, 1) := by decide +kernel
theorem d_M_doOut_48 : decode b_M_doOut 48 = .ok (.ireturn, 1) := by decide +kernel
def f_M_doOut (rr : Nat) (a1 : Int32) (M : Mem) : Option (Int32 × Mem) :=
  bnd (f_M_is rr (2 : Int32) M) fun (x1 : Bool) (M2 : Mem) => if x1 = true then (some ((2 : Int32), M2)) else (if (600 : Int32) < ((M2 rr 8) + a1) then (some ((2 : Int32), M2)) else (nm (put M2 rr 8 ((M2 rr 8) + a1)) fun (M3 : Mem) => nm (put M3 145 10 (M3 rr 8)) fun (M4 : Mem) => some ((0 : Int32), M4)))
set_option maxHeartbeats 4000000 in
set_option maxRecDepth 100000 in
theorem c_M_doOut (l : Launch) {w : Wc} {rr : Nat} (hw : WM w rr) (a1 : Int32) (M : Mem) : Ct QI l y_M_doOut b_M_doOut 2 (some .int) (rmL 1) w [.ref (wad w 145), .int a1] M (f_M_doOut rr a1 M) := by
  refine Ct.go (by decide) (L := [(0, .ref (wad w 145)), (1, .int a1)]) rfl (Nat.le_of_ble_eq_true rfl) (fun p0 e s m args below meth c g hret => ?_)
  unfold f_M_doOut
  refine G_aload_n g (pc := 0) 0 d_M_doOut_0 rfl rfl ?_
  refine G_iconst g (pc := 1) (2 : Int32) d_M_doOut_1 rfl ?_
  refine G_cVZ g (pc := 2) (As := [.int (2 : Int32)]) (st := []) cc_M_106 (c_M_is l hw (2 : Int32) M) (hw.mm 145 (Nat.le_of_ble_eq_true rfl) (Nat.le_of_ble_eq_true rfl)) (hw.k (zk145 rr)) rfl (by decide) rfl ⟨(Nat.le_of_ble_eq_true rfl), (Nat.le_of_ble_eq_true rfl)⟩ ⟨(Nat.le_of_ble_eq_true rfl), (Nat.le_of_ble_eq_true rfl)⟩ (Nat.le_of_ble_eq_true rfl) d_M_doOut_2 (fun x1 M2 => ?_)
  refine G_if_neB g (pc := 5) 23 d_M_doOut_5 (by decide) ?_ ?_
  · refine G_iconst g (pc := 23) (2 : Int32) d_M_doOut_23 rfl ?_
    exact G_ireturn g (pc := 24) hret (Nat.le_of_ble_eq_true rfl) (Nat.le_of_ble_eq_true rfl) d_M_doOut_24
  · refine G_aload_n g (pc := 8) 0 d_M_doOut_8 rfl rfl ?_
    refine G_getR g (pc := 9) fa_M_28 (hw.mm 145 (Nat.le_of_ble_eq_true rfl) (Nat.le_of_ble_eq_true rfl)) (hw.k (zk145 rr)) (hw.r hw.rr) d_M_doOut_9 ?_
    refine G_bipush g (pc := 12) (8 : Int32) d_M_doOut_12 rfl ?_
    refine G_ialdK g (pc := 14) (nn := 405) 8 rfl rfl hw.mr hw.kr hw.nr d_M_doOut_14 ?_
    refine G_iload_n g (pc := 15) 1 d_M_doOut_15 rfl rfl ?_
    refine G_iadd g (pc := 16) d_M_doOut_16 ?_
    refine G_sipush g (pc := 17) (600 : Int32) d_M_doOut_17 rfl ?_
    refine G_icmp_le g (pc := 20) 25 d_M_doOut_20 (by decide) ?_ ?_
    · refine G_iconst g (pc := 23) (2 : Int32) d_M_doOut_23 rfl ?_
      exact G_ireturn g (pc := 24) hret (Nat.le_of_ble_eq_true rfl) (Nat.le_of_ble_eq_true rfl) d_M_doOut_24
    · refine G_aload_n g (pc := 25) 0 d_M_doOut_25 rfl rfl ?_
      refine G_getR g (pc := 26) fa_M_28 (hw.mm 145 (Nat.le_of_ble_eq_true rfl) (Nat.le_of_ble_eq_true rfl)) (hw.k (zk145 rr)) (hw.r hw.rr) d_M_doOut_26 ?_
      refine G_bipush g (pc := 29) (8 : Int32) d_M_doOut_29 rfl ?_
      refine G_dup2 g (pc := 31) d_M_doOut_31 rfl rfl ?_
      refine G_ialdK g (pc := 32) (nn := 405) 8 rfl rfl hw.mr hw.kr hw.nr d_M_doOut_32 ?_
      refine G_iload_n g (pc := 33) 1 d_M_doOut_33 rfl rfl ?_
      refine G_iadd g (pc := 34) d_M_doOut_34 ?_
      refine G_iastK g (pc := 35) (nn := 405) 8 rfl rfl hw.mr hw.kr hw.nr d_M_doOut_35 ?_
      refine G_nmM (fun M3 => ?_)
      refine G_aload_n g (pc := 36) 0 d_M_doOut_36 rfl rfl ?_
      refine G_aload_n g (pc := 37) 0 d_M_doOut_37 rfl rfl ?_
      refine G_getR g (pc := 38) fa_M_28 (hw.mm 145 (Nat.le_of_ble_eq_true rfl) (Nat.le_of_ble_eq_true rfl)) (hw.k (zk145 rr)) (hw.r hw.rr) d_M_doOut_38 ?_
      refine G_bipush g (pc := 41) (8 : Int32) d_M_doOut_41 rfl ?_
      refine G_ialdK g (pc := 43) (nn := 405) 8 rfl rfl hw.mr hw.kr hw.nr d_M_doOut_43 ?_
      refine G_put g (pc := 44) fa_M_183 fw_10_10 rfl rfl (hw.mm 145 (Nat.le_of_ble_eq_true rfl) (Nat.le_of_ble_eq_true rfl)) (hw.k (zk145 rr)) d_M_doOut_44 ?_
      refine G_nmM (fun M4 => ?_)
      refine G_iconst g (pc := 47) (0 : Int32) d_M_doOut_47 rfl ?_
      exact G_ireturn g (pc := 48) hret (Nat.le_of_ble_eq_true rfl) (Nat.le_of_ble_eq_true rfl) d_M_doOut_48

theorem d_M_doIn_0 : decode b_M_doIn 0 = .ok (.aload_n 0, 1) := by decide +kernel
theorem d_M_doIn_1 : decode b_M_doIn 1 = .ok (.iconst 2, 1) := by decide +kernel
theorem d_M_doIn_2 : decode b_M_doIn 2 = .ok (.invokevirtual 106, 3) := by decide +kernel
theorem d_M_doIn_5 : decode b_M_doIn 5 = .ok (.ifCond .eq 5, 3) := by decide +kernel
theorem d_M_doIn_8 : decode b_M_doIn 8 = .ok (.iconst 2, 1) := by decide +kernel
theorem d_M_doIn_9 : decode b_M_doIn 9 = .ok (.ireturn, 1) := by decide +kernel
theorem d_M_doIn_10 : decode b_M_doIn 10 = .ok (.aload_n 0, 1) := by decide +kernel
theorem d_M_doIn_11 : decode b_M_doIn 11 = .ok (.getfield 28, 3) := by decide +kernel
theorem d_M_doIn_14 : decode b_M_doIn 14 = .ok (.bipush 8, 2) := by decide +kernel
theorem d_M_doIn_16 : decode b_M_doIn 16 = .ok (.iconst 0, 1) := by decide +kernel
theorem d_M_doIn_17 : decode b_M_doIn 17 = .ok (.aload_n 0, 1) := by decide +kernel
theorem d_M_doIn_18 : decode b_M_doIn 18 = .ok (.getfield 28, 3) := by decide +kernel
theorem d_M_doIn_21 : decode b_M_doIn 21 = .ok (.bipush 8, 2) := by decide +kernel
theorem d_M_doIn_23 : decode b_M_doIn 23 = .ok (.iaload, 1) := by decide +kernel
theorem d_M_doIn_24 : decode b_M_doIn 24 = .ok (.iload_n 1, 1) := by decide +kernel
theorem d_M_doIn_25 : decode b_M_doIn 25 = .ok (.isub, 1) := by decide +kernel
theorem d_M_doIn_26 : decode b_M_doIn 26 = .ok (.invokestatic 94, 3) := by decide +kernel
theorem d_M_doIn_29 : decode b_M_doIn 29 = .ok (.iastore, 1) := by decide +kernel
theorem d_M_doIn_30 : decode b_M_doIn 30 = .ok (.aload_n 0, 1) := by decide +kernel
theorem d_M_doIn_31 : decode b_M_doIn 31 = .ok (.getfield 28, 3) := by decide +kernel
theorem d_M_doIn_34 : decode b_M_doIn 34 = .ok (.bipush 7, 2) := by decide +kernel
theorem d_M_doIn_36 : decode b_M_doIn 36 = .ok (.aload_n 0, 1) := by decide +kernel
theorem d_M_doIn_37 : decode b_M_doIn 37 = .ok (.getfield 28, 3) := by decide +kernel
theorem d_M_doIn_40 : decode b_M_doIn 40 = .ok (.bipush 7, 2) := by decide +kernel
theorem d_M_doIn_42 : decode b_M_doIn 42 = .ok (.iaload, 1) := by decide +kernel
theorem d_M_doIn_43 : decode b_M_doIn 43 = .ok (.aload_n 0, 1) := by decide +kernel
theorem d_M_doIn_44 : decode b_M_doIn 44 = .ok (.getfield 28, 3) := by decide +kernel
theorem d_M_doIn_47 : decode b_M_doIn 47 = .ok (.bipush 8, 2) := by decide +kernel
theorem d_M_doIn_49 : decode b_M_doIn 49 = .ok (.iaload, 1) := by decide +kernel
theorem d_M_doIn_50 : decode b_M_doIn 50 = .ok (.invokestatic 140, 3) := by decide +kernel
theorem d_M_doIn_53 : decode b_M_doIn 53 = .ok (.iastore, 1) := by decide +kernel
theorem d_M_doIn_54 : decode b_M_doIn 54 = .ok (.aload_n 0, 1) := by decide +kernel
theorem d_M_doIn_55 : decode b_M_doIn 55 = .ok (.getfield 28, 3) := by decide +kernel
theorem d_M_doIn_58 : decode b_M_doIn 58 = .ok (.bipush 7, 2) := by decide +kernel
theorem d_M_doIn_60 : decode b_M_doIn 60 = .ok (.iaload, 1) := by decide +kernel
theorem d_M_doIn_61 : decode b_M_doIn 61 = .ok (.ifCond .ne 11, 3) := by decide +kernel
theorem d_M_doIn_64 : decode b_M_doIn 64 = .ok (.aload_n 0, 1) := by decide +kernel
theorem d_M_doIn_65 : decode b_M_doIn 65 = .ok (.getfield 28, 3) := by decide +kernel
theorem d_M_doIn_68 : decode b_M_doIn 68 = .ok (.bipush 6, 2) := by decide +kernel
theorem d_M_doIn_70 : decode b_M_doIn 70 = .ok (.iconst 0, 1) := by decide +kernel
theorem d_M_doIn_71 : decode b_M_doIn 71 = .ok (.iastore, 1) := by decide +kernel
theorem d_M_doIn_72 : decode b_M_doIn 72 = .ok (.aload_n 0, 1) := by decide +kernel
theorem d_M_doIn_73 : decode b_M_doIn 73 = .ok (.aload_n 0, 1) := by decide +kernel
theorem d_M_doIn_74 : decode b_M_doIn 74 = .ok (.getfield 28, 3) := by decide +kernel
theorem d_M_doIn_77 : decode b_M_doIn 77 = .ok (.bipush 8, 2) := by decide +kernel
theorem d_M_doIn_79 : decode b_M_doIn 79 = .ok (.iaload, 1) := by decide +kernel
theorem d_M_doIn_80 : decode b_M_doIn 80 = .ok (.putfield 183, 3) := by decide +kernel
theorem d_M_doIn_83 : decode b_M_doIn 83 = .ok (.iconst 0, 1) := by decide +kernel
theorem d_M_doIn_84 : decode b_M_doIn 84 = .ok (.ireturn, 1) := by decide +kernel
def f_M_doIn (rr : Nat) (a1 : Int32) (M : Mem) : Option (Int32 × Mem) :=
  bnd (f_M_is rr (2 : Int32) M) fun (x1 : Bool) (M2 : Mem) => if x1 = true then (some ((2 : Int32), M2)) else (bnd (f_M_most (0 : Int32) ((M2 rr 8) - a1) M2) fun (x3 : Int32) (M4 : Mem) => nm (put M4 rr 8 x3) fun (M5 : Mem) => bnd (f_M_least (M5 rr 7) (M5 rr 8) M5) fun (x6 : Int32) (M7 : Mem) => nm (put M7 rr 7 x6) fun (M8 : Mem) => if (M8 rr 7) = 0 then (nm (put M8 rr 6 (0 : Int32)) fun (M9 : Mem) => nm (put M9 145 10 (M9 rr 8)) fun (M10 : Mem) => some ((0 : Int32), M10)) else (nm (put M8 145 10 (M8 rr 8)) fun (M11 : Mem) => some ((0 : Int32), M11)))
set_option maxHeartbeats 4000000 in
set_option maxRecDepth 100000 in
theorem c_M_doIn (l : Launch) {w : Wc} {rr : Nat} (hw : WM w rr) (a1 : Int32) (M : Mem) : Ct QI l y_M_doIn b_M_doIn 2 (some .int) (rmL 1) w [.ref (wad w 145), .int a1] M (f_M_doIn rr a1 M) := by
  refine Ct.go (by decide) (L := [(0, .ref (wad w 145)), (1, .int a1)]) rfl (Nat.le_of_ble_eq_true rfl) (fun p0 e s m args below meth c g hret => ?_)
  unfold f_M_doIn
  refine G_aload_n g (pc := 0) 0 d_M_doIn_0 rfl rfl ?_
  refine G_iconst g (pc := 1) (2 : Int32) d_M_doIn_1 rfl ?_
  refine G_cVZ g (pc := 2) (As := [.int (2 : Int32)]) (st := []) cc_M_106 (c_M_is l hw (2 : Int32) M) (hw.mm 145 (Nat.le_of_ble_eq_true rfl) (Nat.le_of_ble_eq_true rfl)) (hw.k (zk145 rr)) rfl (by decide) rfl ⟨(Nat.le_of_ble_eq_true rfl), (Nat.le_of_ble_eq_true rfl)⟩ ⟨(Nat.le_of_ble_eq_true rfl), (Nat.le_of_ble_eq_true rfl)⟩ (Nat.le_of_ble_eq_true rfl) d_M_doIn_2 (fun x1 M2 => ?_)
  refine G_if_eqB g (pc := 5) 10 d_M_doIn_5 (by decide) ?_ ?_
  · refine G_iconst g (pc := 8) (2 : Int32) d_M_doIn_8 rfl ?_
    exact G_ireturn g (pc := 9) hret (Nat.le_of_ble_eq_true rfl) (Nat.le_of_ble_eq_true rfl) d_M_doIn_9
  · refine G_aload_n g (pc := 10) 0 d_M_doIn_10 rfl rfl ?_
    refine G_getR g (pc := 11) fa_M_28 (hw.mm 145 (Nat.le_of_ble_eq_true rfl) (Nat.le_of_ble_eq_true rfl)) (hw.k (zk145 rr)) (hw.r hw.rr) d_M_doIn_11 ?_
    refine G_bipush g (pc := 14) (8 : Int32) d_M_doIn_14 rfl ?_
    refine G_iconst g (pc := 16) (0 : Int32) d_M_doIn_16 rfl ?_
    refine G_aload_n g (pc := 17) 0 d_M_doIn_17 rfl rfl ?_
    refine G_getR g (pc := 18) fa_M_28 (hw.mm 145 (Nat.le_of_ble_eq_true rfl) (Nat.le_of_ble_eq_true rfl)) (hw.k (zk145 rr)) (hw.r hw.rr) d_M_doIn_18 ?_
    refine G_bipush g (pc := 21) (8 : Int32) d_M_doIn_21 rfl ?_
    refine G_ialdK g (pc := 23) (nn := 405) 8 rfl rfl hw.mr hw.kr hw.nr d_M_doIn_23 ?_
    refine G_iload_n g (pc := 24) 1 d_M_doIn_24 rfl rfl ?_
    refine G_isub g (pc := 25) d_M_doIn_25 ?_
    refine G_cSI g (pc := 26) (As := [.int (0 : Int32), .int ((M2 rr 8) - a1)]) (st := [.int (8 : Int32), .ref (wad w rr)]) cc_M_94 (c_M_most l hw (0 : Int32) ((M2 rr 8) - a1) M2) rfl ⟨(Nat.le_of_ble_eq_true rfl), (Nat.le_of_ble_eq_true rfl)⟩ ⟨(Nat.le_of_ble_eq_true rfl), (Nat.le_of_ble_eq_true rfl)⟩ (Nat.le_of_ble_eq_true rfl) d_M_doIn_26 (fun x3 M4 => ?_)
    refine G_iastK g (pc := 29) (nn := 405) 8 rfl rfl hw.mr hw.kr hw.nr d_M_doIn_29 ?_
    refine G_nmM (fun M5 => ?_)
    refine G_aload_n g (pc := 30) 0 d_M_doIn_30 rfl rfl ?_
    refine G_getR g (pc := 31) fa_M_28 (hw.mm 145 (Nat.le_of_ble_eq_true rfl) (Nat.le_of_ble_eq_true rfl)) (hw.k (zk145 rr)) (hw.r hw.rr) d_M_doIn_31 ?_
    refine G_bipush g (pc := 34) (7 : Int32) d_M_doIn_34 rfl ?_
    refine G_aload_n g (pc := 36) 0 d_M_doIn_36 rfl rfl ?_
    refine G_getR g (pc := 37) fa_M_28 (hw.mm 145 (Nat.le_of_ble_eq_true rfl) (Nat.le_of_ble_eq_true rfl)) (hw.k (zk145 rr)) (hw.r hw.rr) d_M_doIn_37 ?_
    refine G_bipush g (pc := 40) (7 : Int32) d_M_doIn_40 rfl ?_
    refine G_ialdK g (pc := 42) (nn := 405) 7 rfl rfl hw.mr hw.kr hw.nr d_M_doIn_42 ?_
    refine G_aload_n g (pc := 43) 0 d_M_doIn_43 rfl rfl ?_
    refine G_getR g (pc := 44) fa_M_28 (hw.mm 145 (Nat.le_of_ble_eq_true rfl) (Nat.le_of_ble_eq_true rfl)) (hw.k (zk145 rr)) (hw.r hw.rr) d_M_doIn_44 ?_
    refine G_bipush g (pc := 47) (8 : Int32) d_M_doIn_47 rfl ?_
    refine G_ialdK g (pc := 49) (nn := 405) 8 rfl rfl hw.mr hw.kr hw.nr d_M_doIn_49 ?_
    refine G_cSI g (pc := 50) (As := [.int (M5 rr 7), .int (M5 rr 8)]) (st := [.int (7 : Int32), .ref (wad w rr)]) cc_M_140 (c_M_least l hw (M5 rr 7) (M5 rr 8) M5) rfl ⟨(Nat.le_of_ble_eq_true rfl), (Nat.le_of_ble_eq_true rfl)⟩ ⟨(Nat.le_of_ble_eq_true rfl), (Nat.le_of_ble_eq_true rfl)⟩ (Nat.le_of_ble_eq_true rfl) d_M_doIn_50 (fun x6 M7 => ?_)
    refine G_iastK g (pc := 53) (nn := 405) 7 rfl rfl hw.mr hw.kr hw.nr d_M_doIn_53 ?_
    refine G_nmM (fun M8 => ?_)
    refine G_aload_n g (pc := 54) 0 d_M_doIn_54 rfl rfl ?_
    refine G_getR g (pc := 55) fa_M_28 (hw.mm 145 (Nat.le_of_ble_eq_true rfl) (Nat.le_of_ble_eq_true rfl)) (hw.k (zk145 rr)) (hw.r hw.rr) d_M_doIn_55 ?_
    refine G_bipush g (pc := 58) (7 : Int32) d_M_doIn_58 rfl ?_
    refine G_ialdK g (pc := 60) (nn := 405) 7 rfl rfl hw.mr hw.kr hw.nr d_M_doIn_60 ?_
    refine G_if_ne g (pc := 61) 72 d_M_doIn_61 (by decide) ?_ ?_
    · refine G_aload_n g (pc := 64) 0 d_M_doIn_64 rfl rfl ?_
      refine G_getR g (pc := 65) fa_M_28 (hw.mm 145 (Nat.le_of_ble_eq_true rfl) (Nat.le_of_ble_eq_true rfl)) (hw.k (zk145 rr)) (hw.r hw.rr) d_M_doIn_65 ?_
      refine G_bipush g (pc := 68) (6 : Int32) d_M_doIn_68 rfl ?_
      refine G_iconst g (pc := 70) (0 : Int32) d_M_doIn_70 rfl ?_
      refine G_iastK g (pc := 71) (nn := 405) 6 rfl rfl hw.mr hw.kr hw.nr d_M_doIn_71 ?_
      refine G_nmM (fun M9 => ?_)
      refine G_aload_n g (pc := 72) 0 d_M_doIn_72 rfl rfl ?_
      refine G_aload_n g (pc := 73) 0 d_M_doIn_73 rfl rfl ?_
      refine G_getR g (pc := 74) fa_M_28 (hw.mm 145 (Nat.le_of_ble_eq_true rfl) (Nat.le_of_ble_eq_true rfl)) (hw.k (zk145 rr)) (hw.r hw.rr) d_M_doIn_74 ?_
      refine G_bipush g (pc := 77) (8 : Int32) d_M_doIn_77 rfl ?_
      refine G_ialdK g (pc := 79) (nn := 405) 8 rfl rfl hw.mr hw.kr hw.nr d_M_doIn_79 ?_
      refine G_put g (pc := 80) fa_M_183 fw_10_10 rfl rfl (hw.mm 145 (Nat.le_of_ble_eq_true rfl) (Nat.le_of_ble_eq_true rfl)) (hw.k (zk145 rr)) d_M_doIn_80 ?_
      refine G_nmM (fun M10 => ?_)
      refine G_iconst g (pc := 83) (0 : Int32) d_M_doIn_83 rfl ?_
      exact G_ireturn g (pc := 84) hret (Nat.le_of_ble_eq_true rfl) (Nat.le_of_ble_eq_true rfl) d_M_doIn_84
    · refine G_aload_n g (pc := 72) 0 d_M_doIn_72 rfl rfl ?_
      refine G_aload_n g (pc := 73) 0 d_M_doIn_73 rfl rfl ?_
      refine G_getR g (pc := 74) fa_M_28 (hw.mm 145 (Nat.le_of_ble_eq_true rfl) (Nat.le_of_ble_eq_true rfl)) (hw.k (zk145 rr)) (hw.r hw.rr) d_M_doIn_74 ?_
      refine G_bipush g (pc := 77) (8 : Int32) d_M_doIn_77 rfl ?_
      refine G_ialdK g (pc := 79) (nn := 405) 8 rfl rfl hw.mr hw.kr hw.nr d_M_doIn_79 ?_
      refine G_put g (pc := 80) fa_M_183 fw_10_10 rfl rfl (hw.mm 145 (Nat.le_of_ble_eq_true rfl) (Nat.le_of_ble_eq_true rfl)) (hw.k (zk145 rr)) d_M_doIn_80 ?_
      refine G_nmM (fun M11 => ?_)
      refine G_iconst g (pc := 83) (0 : Int32) d_M_doIn_83 rfl ?_
      exact G_ireturn g (pc := 84) hret (Nat.le_of_ble_eq_true rfl) (Nat.le_of_ble_eq_true rfl) d_M_doIn_84

theorem d_M_doBridle_0 : decode b_M_doBridle 0 = .ok (.aload_n 0, 1) := by decide +kernel
theorem d_M_doBridle_1 : decode b_M_doBridle 1 = .ok (.iconst 0, 1) := by decide +kernel
theorem d_M_doBridle_2 : decode b_M_doBridle 2 = .ok (.invokevirtual 106, 3) := by decide +kernel
theorem d_M_doBridle_5 : decode b_M_doBridle 5 = .ok (.ifCond .ne 5, 3) := by decide +kernel
theorem d_M_doBridle_8 : decode b_M_doBridle 8 = .ok (.iconst 2, 1) := by decide +kernel
theorem d_M_doBridle_9 : decode b_M_doBridle 9 = .ok (.ireturn, 1) := by decide +kernel
theorem d_M_doBridle_10 : decode b_M_doBridle 10 = .ok (.aload_n 0, 1) := by decide +kernel
theorem d_M_doBridle_11 : decode b_M_doBridle 11 = .ok (.aload_n 0, 1) := by decide +kernel
theorem d_M_doBridle_12 : decode b_M_doBridle 12 = .ok (.getfield 28, 3) := by decide +kernel
theorem d_M_doBridle_15 : decode b_M_doBridle 15 = .ok (.bipush 9, 2) := by decide +kernel
theorem d_M_doBridle_17 : decode b_M_doBridle 17 = .ok (.iaload, 1) := by decide +kernel
theorem d_M_doBridle_18 : decode b_M_doBridle 18 = .ok (.putfield 183, 3) := by decide +kernel
theorem d_M_doBridle_21 : decode b_M_doBridle 21 = .ok (.aload_n 0, 1) := by decide +kernel
theorem d_M_doBridle_22 : decode b_M_doBridle 22 = .ok (.getfield 28, 3) := by decide +kernel
theorem d_M_doBridle_25 : decode b_M_doBridle 25 = .ok (.bipush 9, 2) := by decide +kernel
theorem d_M_doBridle_27 : decode b_M_doBridle 27 = .ok (.iconst 0, 1) := by decide +kernel
theorem d_M_doBridle_28 : decode b_M_doBridle 28 = .ok (.iastore, 1) := by decide +kernel
theorem d_M_doBridle_29 : decode b_M_doBridle 29 = .ok (.aload_n 0, 1) := by decide +kernel
theorem d_M_doBridle_30 : decode b_M_doBridle 30 = .ok (.getfield 28, 3) := by decide +kernel
theorem d_M_doBridle_33 : decode b_M_doBridle 33 = .ok (.iconst 2, 1) := by decide +kernel
theorem d_M_doBridle_34 : decode b_M_doBridle 34 = .ok (.iload_n 1, 1) := by decide +kernel
theorem d_M_doBridle_35 : decode b_M_doBridle 35 = .ok (.iastore, 1) := by decide +kernel
theorem d_M_doBridle_36 : decode b_M_doBridle 36 = .ok (.aload_n 0, 1) := by decide +kernel
theorem d_M_doBridle_37 : decode b_M_doBridle 37 = .ok (.getfield 28, 3) := by decide +kernel
theorem d_M_doBridle_40 : decode b_M_doBridle 40 = .ok (.iconst 3, 1) := by decide +kernel
theorem d_M_doBridle_41 : decode b_M_doBridle 41 = .ok (.iload_n 2, 1) := by decide +kernel
theorem d_M_doBridle_42 : decode b_M_doBridle 42 = .ok (.iastore, 1) := by decide +kernel
theorem d_M_doBridle_43 : decode b_M_doBridle 43 = .ok (.iconst 0, 1) := by decide +kernel
theorem d_M_doBridle_44 : decode b_M_doBridle 44 = .ok (.ireturn, 1) := by decide +kernel
def f_M_doBridle (rr : Nat) (a1 : Int32) (a2 : Int32) (M : Mem) : Option (Int32 × Mem) :=
  bnd (f_M_is rr (0 : Int32) M) fun (x1 : Bool) (M2 : Mem) => if x1 = true then (nm (put M2 145 10 (M2 rr 9)) fun (M3 : Mem) => nm (put M3 rr 9 (0 : Int32)) fun (M4 : Mem) => nm (put M4 rr 2 a1) fun (M5 : Mem) => nm (put M5 rr 3 a2) fun (M6 : Mem) => some ((0 : Int32), M6)) else (some ((2 : Int32), M2))
set_option maxHeartbeats 4000000 in
set_option maxRecDepth 100000 in
theorem c_M_doBridle (l : Launch) {w : Wc} {rr : Nat} (hw : WM w rr) (a1 : Int32) (a2 : Int32) (M : Mem) : Ct QI l y_M_doBridle b_M_doBridle 3 (some .int) (rmL 1) w [.ref (wad w 145), .int a1, .int a2] M (f_M_doBridle rr a1 a2 M) := by
  refine Ct.go (by decide) (L := [(0, .ref (wad w 145)), (1, .int a1), (2, .int a2)]) rfl (Nat.le_of_ble_eq_true rfl) (fun p0 e s m args below meth c g hret => ?_)
  unfold f_M_doBridle
  refine G_aload_n g (pc := 0) 0 d_M_doBridle_0 rfl rfl ?_
  refine G_iconst g (pc := 1) (0 : Int32) d_M_doBridle_1 rfl ?_
  refine G_cVZ g (pc := 2) (As := [.int (0 : Int32)]) (st := []) cc_M_106 (c_M_is l hw (0 : Int32) M) (hw.mm 145 (Nat.le_of_ble_eq_true rfl) (Nat.le_of_ble_eq_true rfl)) (hw.k (zk145 rr)) rfl (by decide) rfl ⟨(Nat.le_of_ble_eq_true rfl), (Nat.le_of_ble_eq_true rfl)⟩ ⟨(Nat.le_of_ble_eq_true rfl), (Nat.le_of_ble_eq_true rfl)⟩ (Nat.le_of_ble_eq_true rfl) d_M_doBridle_2 (fun x1 M2 => ?_)
  refine G_if_neB g (pc := 5) 10 d_M_doBridle_5 (by decide) ?_ ?_
  · refine G_aload_n g (pc := 10) 0 d_M_doBridle_10 rfl rfl ?_
    refine G_aload_n g (pc := 11) 0 d_M_doBridle_11 rfl rfl ?_
    refine G_getR g (pc := 12) fa_M_28 (hw.mm 145 (Nat.le_of_ble_eq_true rfl) (Nat.le_of_ble_eq_true rfl)) (hw.k (zk145 rr)) (hw.r hw.rr) d_M_doBridle_12 ?_
    refine G_bipush g (pc := 15) (9 : Int32) d_M_doBridle_15 rfl ?_
    refine G_ialdK g (pc := 17) (nn := 405) 9 rfl rfl hw.mr hw.kr hw.nr d_M_doBridle_17 ?_
    refine G_put g (pc := 18) fa_M_183 fw_10_10 rfl rfl (hw.mm 145 (Nat.le_of_ble_eq_true rfl) (Nat.le_of_ble_eq_true rfl)) (hw.k (zk145 rr)) d_M_doBridle_18 ?_
    refine G_nmM (fun M3 => ?_)
    refine G_aload_n g (pc := 21) 0 d_M_doBridle_21 rfl rfl ?_
    refine G_getR g (pc := 22) fa_M_28 (hw.mm 145 (Nat.le_of_ble_eq_true rfl) (Nat.le_of_ble_eq_true rfl)) (hw.k (zk145 rr)) (hw.r hw.rr) d_M_doBridle_22 ?_
    refine G_bipush g (pc := 25) (9 : Int32) d_M_doBridle_25 rfl ?_
    refine G_iconst g (pc := 27) (0 : Int32) d_M_doBridle_27 rfl ?_
    refine G_iastK g (pc := 28) (nn := 405) 9 rfl rfl hw.mr hw.kr hw.nr d_M_doBridle_28 ?_
    refine G_nmM (fun M4 => ?_)
    refine G_aload_n g (pc := 29) 0 d_M_doBridle_29 rfl rfl ?_
    refine G_getR g (pc := 30) fa_M_28 (hw.mm 145 (Nat.le_of_ble_eq_true rfl) (Nat.le_of_ble_eq_true rfl)) (hw.k (zk145 rr)) (hw.r hw.rr) d_M_doBridle_30 ?_
    refine G_iconst g (pc := 33) (2 : Int32) d_M_doBridle_33 rfl ?_
    refine G_iload_n g (pc := 34) 1 d_M_doBridle_34 rfl rfl ?_
    refine G_iastK g (pc := 35) (nn := 405) 2 rfl rfl hw.mr hw.kr hw.nr d_M_doBridle_35 ?_
    refine G_nmM (fun M5 => ?_)
    refine G_aload_n g (pc := 36) 0 d_M_doBridle_36 rfl rfl ?_
    refine G_getR g (pc := 37) fa_M_28 (hw.mm 145 (Nat.le_of_ble_eq_true rfl) (Nat.le_of_ble_eq_true rfl)) (hw.k (zk145 rr)) (hw.r hw.rr) d_M_doBridle_37 ?_
    refine G_iconst g (pc := 40) (3 : Int32) d_M_doBridle_40 rfl ?_
    refine G_iload_n g (pc := 41) 2 d_M_doBridle_41 rfl rfl ?_
    refine G_iastK g (pc := 42) (nn := 405) 3 rfl rfl hw.mr hw.kr hw.nr d_M_doBridle_42 ?_
    refine G_nmM (fun M6 => ?_)
    refine G_iconst g (pc := 43) (0 : Int32) d_M_doBridle_43 rfl ?_
    exact G_ireturn g (pc := 44) hret (Nat.le_of_ble_eq_true rfl) (Nat.le_of_ble_eq_true rfl) d_M_doBridle_44
  · refine G_iconst g (pc := 8) (2 : Int32) d_M_doBridle_8 rfl ?_
    exact G_ireturn g (pc := 9) hret (Nat.le_of_ble_eq_true rfl) (Nat.le_of_ble_eq_true rfl) d_M_doBridle_9

theorem d_M_doEvery_0 : decode b_M_doEvery 0 = .ok (.aload_n 0, 1) := by decide +kernel
theorem d_M_doEvery_1 : decode b_M_doEvery 1 = .ok (.aload_n 0, 1) := by decide +kernel
theorem d_M_doEvery_2 : decode b_M_doEvery 2 = .ok (.getfield 28, 3) := by decide +kernel
theorem d_M_doEvery_5 : decode b_M_doEvery 5 = .ok (.iconst 4, 1) := by decide +kernel
theorem d_M_doEvery_6 : decode b_M_doEvery 6 = .ok (.iaload, 1) := by decide +kernel
theorem d_M_doEvery_7 : decode b_M_doEvery 7 = .ok (.putfield 183, 3) := by decide +kernel
theorem d_M_doEvery_10 : decode b_M_doEvery 10 = .ok (.aload_n 0, 1) := by decide +kernel
theorem d_M_doEvery_11 : decode b_M_doEvery 11 = .ok (.getfield 28, 3) := by decide +kernel
theorem d_M_doEvery_14 : decode b_M_doEvery 14 = .ok (.iconst 4, 1) := by decide +kernel
theorem d_M_doEvery_15 : decode b_M_doEvery 15 = .ok (.iload_n 1, 1) := by decide +kernel
theorem d_M_doEvery_16 : decode b_M_doEvery 16 = .ok (.iastore, 1) := by decide +kernel
theorem d_M_doEvery_17 : decode b_M_doEvery 17 = .ok (.iconst 0, 1) := by decide +kernel
theorem d_M_doEvery_18 : decode b_M_doEvery 18 = .ok (.ireturn, 1) := by decide +kernel
def f_M_doEvery (rr : Nat) (a1 : Int32) (M : Mem) : Option (Int32 × Mem) :=
  nm (put M 145 10 (M rr 4)) fun (M1 : Mem) => nm (put M1 rr 4 a1) fun (M2 : Mem) => some ((0 : Int32), M2)
set_option maxHeartbeats 4000000 in
set_option maxRecDepth 100000 in
theorem c_M_doEvery (l : Launch) {w : Wc} {rr : Nat} (hw : WM w rr) (a1 : Int32) (M : Mem) : Ct QI l y_M_doEvery b_M_doEvery 2 (some .int) (rmL 0) w [.ref (wad w 145), .int a1] M (f_M_doEvery rr a1 M) := by
  refine Ct.go (by decide) (L := [(0, .ref (wad w 145)), (1, .int a1)]) rfl (Nat.le_of_ble_eq_true rfl) (fun p0 e s m args below meth c g hret => ?_)
  unfold f_M_doEvery
  refine G_aload_n g (pc := 0) 0 d_M_doEvery_0 rfl rfl ?_
  refine G_aload_n g (pc := 1) 0 d_M_doEvery_1 rfl rfl ?_
  refine G_getR g (pc := 2) fa_M_28 (hw.mm 145 (Nat.le_of_ble_eq_true rfl) (Nat.le_of_ble_eq_true rfl)) (hw.k (zk145 rr)) (hw.r hw.rr) d_M_doEvery_2 ?_
  refine G_iconst g (pc := 5) (4 : Int32) d_M_doEvery_5 rfl ?_
  refine G_ialdK g (pc := 6) (nn := 405) 4 rfl rfl hw.mr hw.kr hw.nr d_M_doEvery_6 ?_
  refine G_put g (pc := 7) fa_M_183 fw_10_10 rfl rfl (hw.mm 145 (Nat.le_of_ble_eq_true rfl) (Nat.le_of_ble_eq_true rfl)) (hw.k (zk145 rr)) d_M_doEvery_7 ?_
  refine G_nmM (fun M1 => ?_)
  refine G_aload_n g (pc := 10) 0 d_M_doEvery_10 rfl rfl ?_
  refine G_getR g (pc := 11) fa_M_28 (hw.mm 145 (Nat.le_of_ble_eq_true rfl) (Nat.le_of_ble_eq_true rfl)) (hw.k (zk145 rr)) (hw.r hw.rr) d_M_doEvery_11 ?_
  refine G_iconst g (pc := 14) (4 : Int32) d_M_doEvery_14 rfl ?_
  refine G_iload_n g (pc := 15) 1 d_M_doEvery_15 rfl rfl ?_
  refine G_iastK g (pc := 16) (nn := 405) 4 rfl rfl hw.mr hw.kr hw.nr d_M_doEvery_16 ?_
  refine G_nmM (fun M2 => ?_)
  refine G_iconst g (pc := 17) (0 : Int32) d_M_doEvery_17 rfl ?_
  exact G_ireturn g (pc := 18) hret (Nat.le_of_ble_eq_true rfl) (Nat.le_of_ble_eq_true rfl) d_M_doEvery_18

theorem d_M_doSearch_0 : decode b_M_doSearch 0 = .ok (.aload_n 0, 1) := by decide +kernel
theorem d_M_doSearch_1 : decode b_M_doSearch 1 = .ok (.iconst 2, 1) := by decide +kernel
theorem d_M_doSearch_2 : decode b_M_doSearch 2 = .ok (.invokevirtual 106, 3) := by decide +kernel
theorem d_M_doSearch_5 : decode b_M_doSearch 5 = .ok (.ifCond .ne 5, 3) := by decide +kernel
theorem d_M_doSearch_8 : decode b_M_doSearch 8 = .ok (.iconst 2, 1) := by decide +kernel
theorem d_M_doSearch_9 : decode b_M_doSearch 9 = .ok (.ireturn, 1) := by decide +kernel
theorem d_M_doSearch_10 : decode b_M_doSearch 10 = .ok (.iload_n 1, 1) := by decide +kernel
theorem d_M_doSearch_11 : decode b_M_doSearch 11 = .ok (.aload_n 0, 1) := by decide +kernel
theorem d_M_doSearch_12 : decode b_M_doSearch 12 = .ok (.getfield 28, 3) := by decide +kernel
theorem d_M_doSearch_15 : decode b_M_doSearch 15 = .ok (.bipush 10, 2) := by decide +kernel
theorem d_M_doSearch_17 : decode b_M_doSearch 17 = .ok (.iaload, 1) := by decide +kernel
theorem d_M_doSearch_18 : decode b_M_doSearch 18 = .ok (.isub, 1) := by decide +kernel
theorem d_M_doSearch_19 : decode b_M_doSearch 19 = .ok (.invokestatic 125, 3) := by decide +kernel
theorem d_M_doSearch_22 : decode b_M_doSearch 22 = .ok (.istore_n 2, 1) := by decide +kernel
theorem d_M_doSearch_23 : decode b_M_doSearch 23 = .ok (.aload_n 0, 1) := by decide +kernel
theorem d_M_doSearch_24 : decode b_M_doSearch 24 = .ok (.getfield 28, 3) := by decide +kernel
theorem d_M_doSearch_27 : decode b_M_doSearch 27 = .ok (.bipush 11, 2) := by decide +kernel
theorem d_M_doSearch_29 : decode b_M_doSearch 29 = .ok (.iaload, 1) := by decide +kernel
theorem d_M_doSearch_30 : decode b_M_doSearch 30 = .ok (.ifCond .ne 7, 3) := by decide +kernel
theorem d_M_doSearch_33 : decode b_M_doSearch 33 = .ok (.iconst 1, 1) := by decide +kernel
theorem d_M_doSearch_34 : decode b_M_doSearch 34 = .ok (.goto 4, 3) := by decide +kernel
theorem d_M_doSearch_37 : decode b_M_doSearch 37 = .ok (.iconst 0, 1) := by decide +kernel
theorem d_M_doSearch_38 : decode b_M_doSearch 38 = .ok (.istore_n 3, 1) := by decide +kernel
theorem d_M_doSearch_39 : decode b_M_doSearch 39 = .ok (.aload_n 0, 1) := by decide +kernel
theorem d_M_doSearch_40 : decode b_M_doSearch 40 = .ok (.getfield 28, 3) := by decide +kernel
theorem d_M_doSearch_43 : decode b_M_doSearch 43 = .ok (.bipush 15, 2) := by decide +kernel
theorem d_M_doSearch_45 : decode b_M_doSearch 45 = .ok (.dup2, 1) := by decide +kernel
theorem d_M_doSearch_46 : decode b_M_doSearch 46 = .ok (.iaload, 1) := by decide +kernel
theorem d_M_doSearch_47 : decode b_M_doSearch 47 = .ok (.iconst 1, 1) := by decide +kernel
theorem d_M_doSearch_48 : decode b_M_doSearch 48 = .ok (.iadd, 1) := by decide +kernel
theorem d_M_doSearch_49 : decode b_M_doSearch 49 = .ok (.iastore, 1) := by decide +kernel
theorem d_M_doSearch_50 : decode b_M_doSearch 50 = .ok (.iload_n 2, 1) := by decide +kernel
theorem d_M_doSearch_51 : decode b_M_doSearch 51 = .ok (.iload_n 3, 1) := by decide +kernel
theorem d_M_doSearch_52 : decode b_M_doSearch 52 = .ok (.ifCond .eq 7, 3) := by decide +kernel
theorem d_M_doSearch_55 : decode b_M_doSearch 55 = .ok (.iconst 3, 1) := by decide +kernel
theorem d_M_doSearch_56 : decode b_M_doSearch 56 = .ok (.goto 5, 3) := by decide +kernel
theorem d_M_doSearch_59 : decode b_M_doSearch 59 = .ok (.bipush 20, 2) := by decide +kernel
theorem d_M_doSearch_61 : decode b_M_doSearch 61 = .ok (.if_icmp .gt 19, 3) := by decide +kernel
theorem d_M_doSearch_64 : decode b_M_doSearch 64 = .ok (.aload_n 0, 1) := by decide +kernel
theorem d_M_doSearch_65 : decode b_M_doSearch 65 = .ok (.getfield 28, 3) := by decide +kernel
theorem d_M_doSearch_68 : decode b_M_doSearch 68 = .ok (.bipush 6, 2) := by decide +kernel
theorem d_M_doSearch_70 : decode b_M_doSearch 70 = .ok (.iconst 0, 1) := by decide +kernel
theorem d_M_doSearch_71 : decode b_M_doSearch 71 = .ok (.iastore, 1) := by decide +kernel
theorem d_M_doSearch_72 : decode b_M_doSearch 72 = .ok (.aload_n 0, 1) := by decide +kernel
theorem d_M_doSearch_73 : decode b_M_doSearch 73 = .ok (.iconst 0, 1) := by decide +kernel
theorem d_M_doSearch_74 : decode b_M_doSearch 74 = .ok (.putfield 183, 3) := by decide +kernel
theorem d_M_doSearch_77 : decode b_M_doSearch 77 = .ok (.goto 19, 3) := by decide +kernel
theorem d_M_doSearch_80 : decode b_M_doSearch 80 = .ok (.aload_n 0, 1) := by decide +kernel
theorem d_M_doSearch_81 : decode b_M_doSearch 81 = .ok (.iload_n 3, 1) := by decide +kernel
theorem d_M_doSearch_82 : decode b_M_doSearch 82 = .ok (.ifCond .eq 7, 3) := by decide +kernel
theorem d_M_doSearch_85 : decode b_M_doSearch 85 = .ok (.iconst (-1), 1) := by decide +kernel
theorem d_M_doSearch_86 : decode b_M_doSearch 86 = .ok (.goto 7, 3) := by decide +kernel
theorem d_M_doSearch_89 : decode b_M_doSearch 89 = .ok (.iload_n 2, 1) := by decide +kernel
theorem d_M_doSearch_90 : decode b_M_doSearch 90 = .ok (.bipush 20, 2) := by decide +kernel
theorem d_M_doSearch_92 : decode b_M_doSearch 92 = .ok (.idiv, 1) := by decide +kernel
theorem d_M_doSearch_93 : decode b_M_doSearch 93 = .ok (.putfield 183, 3) := by decide +kernel
theorem d_M_doSearch_96 : decode b_M_doSearch 96 = .ok (.iconst 0, 1) := by decide +kernel
theorem d_M_doSearch_97 : decode b_M_doSearch 97 = .ok (.ireturn, 1) := by decide +kernel
def f_M_doSearch (rr : Nat) (a1 : Int32) (M : Mem) : Option (Int32 × Mem) :=
  bnd (f_M_is rr (2 : Int32) M) fun (x1 : Bool) (M2 : Mem) => if x1 = true then (bnd (f_M_sizeOf (a1 - (M2 rr 10)) M2) fun (x3 : Int32) (M4 : Mem) => jn (fun (x6 : Bool) (M7 : Mem) => nm (put M7 rr 15 ((M7 rr 15) + (1 : Int32))) fun (M8 : Mem) => jn (fun (x10 : Int32) (M11 : Mem) => if x3 ≤ x10 then (nm (put M11 rr 6 (0 : Int32)) fun (M12 : Mem) => nm (put M12 145 10 (0 : Int32)) fun (M13 : Mem) => some ((0 : Int32), M13)) else (if x6 = true then (nm (put M11 145 10 (-1 : Int32)) fun (M14 : Mem) => some ((0 : Int32), M14)) else (nm (put M11 145 10 (x3 / (20 : Int32))) fun (M15 : Mem) => some ((0 : Int32), M15)))) (fun j9 => if x6 = true then (j9 (3 : Int32) M8) else (j9 (20 : Int32) M8))) (fun j5 => if (M4 rr 11) = 0 then (j5 true M4) else (j5 false M4))) else (some ((2 : Int32), M2))
set_option maxHeartbeats 4000000 in
set_option maxRecDepth 100000 in
theorem c_M_doSearch (l : Launch) {w : Wc} {rr : Nat} (hw : WM w rr) (a1 : Int32) (M : Mem) : Ct QI l y_M_doSearch b_M_doSearch 4 (some .int) (rmL 1) w [.ref (wad w 145), .int a1] M (f_M_doSearch rr a1 M) := by
  refine Ct.go (by decide) (L := [(0, .ref (wad w 145)), (1, .int a1)]) rfl (Nat.le_of_ble_eq_true rfl) (fun p0 e s m args below meth c g hret => ?_)
  unfold f_M_doSearch
  refine G_aload_n g (pc := 0) 0 d_M_doSearch_0 rfl rfl ?_
  refine G_iconst g (pc := 1) (2 : Int32) d_M_doSearch_1 rfl ?_
  refine G_cVZ g (pc := 2) (As := [.int (2 : Int32)]) (st := []) cc_M_106 (c_M_is l hw (2 : Int32) M) (hw.mm 145 (Nat.le_of_ble_eq_true rfl) (Nat.le_of_ble_eq_true rfl)) (hw.k (zk145 rr)) rfl (by decide) rfl ⟨(Nat.le_of_ble_eq_true rfl), (Nat.le_of_ble_eq_true rfl)⟩ ⟨(Nat.le_of_ble_eq_true rfl), (Nat.le_of_ble_eq_true rfl)⟩ (Nat.le_of_ble_eq_true rfl) d_M_doSearch_2 (fun x1 M2 => ?_)
  refine G_if_neB g (pc := 5) 10 d_M_doSearch_5 (by decide) ?_ ?_
  · refine G_iload_n g (pc := 10) 1 d_M_doSearch_10 rfl rfl ?_
    refine G_aload_n g (pc := 11) 0 d_M_doSearch_11 rfl rfl ?_
    refine G_getR g (pc := 12) fa_M_28 (hw.mm 145 (Nat.le_of_ble_eq_true rfl) (Nat.le_of_ble_eq_true rfl)) (hw.k (zk145 rr)) (hw.r hw.rr) d_M_doSearch_12 ?_
    refine G_bipush g (pc := 15) (10 : Int32) d_M_doSearch_15 rfl ?_
    refine G_ialdK g (pc := 17) (nn := 405) 10 rfl rfl hw.mr hw.kr hw.nr d_M_doSearch_17 ?_
    refine G_isub g (pc := 18) d_M_doSearch_18 ?_
    refine G_cSI g (pc := 19) (As := [.int (a1 - (M2 rr 10))]) (st := []) cc_M_125 (c_M_sizeOf l hw (a1 - (M2 rr 10)) M2) rfl ⟨(Nat.le_of_ble_eq_true rfl), (Nat.le_of_ble_eq_true rfl)⟩ ⟨(Nat.le_of_ble_eq_true rfl), (Nat.le_of_ble_eq_true rfl)⟩ (Nat.le_of_ble_eq_true rfl) d_M_doSearch_19 (fun x3 M4 => ?_)
    refine G_istore_n g (pc := 22) _ d_M_doSearch_22 rfl (Nat.le_of_ble_eq_true rfl) rfl ?_
    refine G_aload_n g (pc := 23) 1 d_M_doSearch_23 rfl rfl ?_
    refine G_getR g (pc := 24) fa_M_28 (hw.mm 145 (Nat.le_of_ble_eq_true rfl) (Nat.le_of_ble_eq_true rfl)) (hw.k (zk145 rr)) (hw.r hw.rr) d_M_doSearch_24 ?_
    refine G_bipush g (pc := 27) (11 : Int32) d_M_doSearch_27 rfl ?_
    refine G_ialdK g (pc := 29) (nn := 405) 11 rfl rfl hw.mr hw.kr hw.nr d_M_doSearch_29 ?_
    refine G_jn 38 (fun _ => [(2, .int x3), (0, .ref (wad w 145)), (1, .int a1)]) (fun (x6 : Bool) => [.int (b2i x6)]) (fun x6 M7 => ?_) (fun j5 hj5 => ?_)
    · refine G_istore_n g (pc := 38) _ d_M_doSearch_38 rfl (Nat.le_of_ble_eq_true rfl) rfl ?_
      refine G_aload_n g (pc := 39) 2 d_M_doSearch_39 rfl rfl ?_
      refine G_getR g (pc := 40) fa_M_28 (hw.mm 145 (Nat.le_of_ble_eq_true rfl) (Nat.le_of_ble_eq_true rfl)) (hw.k (zk145 rr)) (hw.r hw.rr) d_M_doSearch_40 ?_
      refine G_bipush g (pc := 43) (15 : Int32) d_M_doSearch_43 rfl ?_
      refine G_dup2 g (pc := 45) d_M_doSearch_45 rfl rfl ?_
      refine G_ialdK g (pc := 46) (nn := 405) 15 rfl rfl hw.mr hw.kr hw.nr d_M_doSearch_46 ?_
      refine G_iconst g (pc := 47) (1 : Int32) d_M_doSearch_47 rfl ?_
      refine G_iadd g (pc := 48) d_M_doSearch_48 ?_
      refine G_iastK g (pc := 49) (nn := 405) 15 rfl rfl hw.mr hw.kr hw.nr d_M_doSearch_49 ?_
      refine G_nmM (fun M8 => ?_)
      refine G_iload_n g (pc := 50) 1 d_M_doSearch_50 rfl rfl ?_
      refine G_iload_n g (pc := 51) 0 d_M_doSearch_51 rfl rfl ?_
      refine G_jn 61 (fun _ => [(3, .int (b2i x6)), (2, .int x3), (0, .ref (wad w 145)), (1, .int a1)]) (fun (x10 : Int32) => [.int x10, .int x3]) (fun x10 M11 => ?_) (fun j9 hj9 => ?_)
      · refine G_icmp_gt g (pc := 61) 80 d_M_doSearch_61 (by decide) ?_ ?_
        · refine G_aload_n g (pc := 64) 2 d_M_doSearch_64 rfl rfl ?_
          refine G_getR g (pc := 65) fa_M_28 (hw.mm 145 (Nat.le_of_ble_eq_true rfl) (Nat.le_of_ble_eq_true rfl)) (hw.k (zk145 rr)) (hw.r hw.rr) d_M_doSearch_65 ?_
          refine G_bipush g (pc := 68) (6 : Int32) d_M_doSearch_68 rfl ?_
          refine G_iconst g (pc := 70) (0 : Int32) d_M_doSearch_70 rfl ?_
          refine G_iastK g (pc := 71) (nn := 405) 6 rfl rfl hw.mr hw.kr hw.nr d_M_doSearch_71 ?_
          refine G_nmM (fun M12 => ?_)
          refine G_aload_n g (pc := 72) 2 d_M_doSearch_72 rfl rfl ?_
          refine G_iconst g (pc := 73) (0 : Int32) d_M_doSearch_73 rfl ?_
          refine G_put g (pc := 74) fa_M_183 fw_10_10 rfl rfl (hw.mm 145 (Nat.le_of_ble_eq_true rfl) (Nat.le_of_ble_eq_true rfl)) (hw.k (zk145 rr)) d_M_doSearch_74 ?_
          refine G_nmM (fun M13 => ?_)
          refine G_goto g (pc := 77) 96 d_M_doSearch_77 (by decide) ?_
          refine G_iconst g (pc := 96) (0 : Int32) d_M_doSearch_96 rfl ?_
          exact G_ireturn g (pc := 97) hret (Nat.le_of_ble_eq_true rfl) (Nat.le_of_ble_eq_true rfl) d_M_doSearch_97
        · refine G_aload_n g (pc := 80) 2 d_M_doSearch_80 rfl rfl ?_
          refine G_iload_n g (pc := 81) 0 d_M_doSearch_81 rfl rfl ?_
          refine G_if_eqB g (pc := 82) 89 d_M_doSearch_82 (by decide) ?_ ?_
          · refine G_iconst g (pc := 85) (-1 : Int32) d_M_doSearch_85 rfl ?_
            refine G_goto g (pc := 86) 93 d_M_doSearch_86 (by decide) ?_
            refine G_put g (pc := 93) fa_M_183 fw_10_10 rfl rfl (hw.mm 145 (Nat.le_of_ble_eq_true rfl) (Nat.le_of_ble_eq_true rfl)) (hw.k (zk145 rr)) d_M_doSearch_93 ?_
            refine G_nmM (fun M14 => ?_)
            refine G_iconst g (pc := 96) (0 : Int32) d_M_doSearch_96 rfl ?_
            exact G_ireturn g (pc := 97) hret (Nat.le_of_ble_eq_true rfl) (Nat.le_of_ble_eq_true rfl) d_M_doSearch_97
          · refine G_iload_n g (pc := 89) 1 d_M_doSearch_89 rfl rfl ?_
            refine G_bipush g (pc := 90) (20 : Int32) d_M_doSearch_90 rfl ?_
            refine G_idivK g (pc := 92) (by decide) d_M_doSearch_92 ?_
            refine G_put g (pc := 93) fa_M_183 fw_10_10 rfl rfl (hw.mm 145 (Nat.le_of_ble_eq_true rfl) (Nat.le_of_ble_eq_true rfl)) (hw.k (zk145 rr)) d_M_doSearch_93 ?_
            refine G_nmM (fun M15 => ?_)
            refine G_iconst g (pc := 96) (0 : Int32) d_M_doSearch_96 rfl ?_
            exact G_ireturn g (pc := 97) hret (Nat.le_of_ble_eq_true rfl) (Nat.le_of_ble_eq_true rfl) d_M_doSearch_97
      · refine G_if_eqB g (pc := 52) 59 d_M_doSearch_52 (by decide) ?_ ?_
        · refine G_iconst g (pc := 55) (3 : Int32) d_M_doSearch_55 rfl ?_
          refine G_goto g (pc := 56) 61 d_M_doSearch_56 (by decide) ?_
          refine G_sub [0, 1, 2, 3] _ rfl ?_
          exact hj9 (3 : Int32) M8
        · refine G_bipush g (pc := 59) (20 : Int32) d_M_doSearch_59 rfl ?_
          refine G_sub [0, 1, 2, 3] _ rfl ?_
          exact hj9 (20 : Int32) M8
    · refine G_if_ne g (pc := 30) 37 d_M_doSearch_30 (by decide) ?_ ?_
      · refine G_iconst g (pc := 33) (1 : Int32) d_M_doSearch_33 rfl ?_
        refine G_goto g (pc := 34) 38 d_M_doSearch_34 (by decide) ?_
        refine G_sub [0, 1, 2] _ rfl ?_
        exact hj5 true M4
      · refine G_iconst g (pc := 37) (0 : Int32) d_M_doSearch_37 rfl ?_
        refine G_sub [0, 1, 2] _ rfl ?_
        exact hj5 false M4
  · refine G_iconst g (pc := 8) (2 : Int32) d_M_doSearch_8 rfl ?_
    exact G_ireturn g (pc := 9) hret (Nat.le_of_ble_eq_true rfl) (Nat.le_of_ble_eq_true rfl) d_M_doSearch_9

theorem d_M_doArchive_0 : decode b_M_doArchive 0 = .ok (.aload_n 0, 1) := by decide +kernel
theorem d_M_doArchive_1 : decode b_M_doArchive 1 = .ok (.iconst 0, 1) := by decide +kernel
theorem d_M_doArchive_2 : decode b_M_doArchive 2 = .ok (.invokevirtual 106, 3) := by decide +kernel
theorem d_M_doArchive_5 : decode b_M_doArchive 5 = .ok (.ifCond .eq 23, 3) := by decide +kernel
theorem d_M_doArchive_8 : decode b_M_doArchive 8 = .ok (.aload_n 0, 1) := by decide +kernel
theorem d_M_doArchive_9 : decode b_M_doArchive 9 = .ok (.getfield 28, 3) := by decide +kernel
theorem d_M_doArchive_12 : decode b_M_doArchive 12 = .ok (.bipush 18, 2) := by decide +kernel
theorem d_M_doArchive_14 : decode b_M_doArchive 14 = .ok (.iaload, 1) := by decide +kernel
theorem d_M_doArchive_15 : decode b_M_doArchive 15 = .ok (.aload_n 0, 1) := by decide +kernel
theorem d_M_doArchive_16 : decode b_M_doArchive 16 = .ok (.getfield 28, 3) := by decide +kernel
theorem d_M_doArchive_19 : decode b_M_doArchive 19 = .ok (.bipush 17, 2) := by decide +kernel
theorem d_M_doArchive_21 : decode b_M_doArchive 21 = .ok (.iaload, 1) := by decide +kernel
theorem d_M_doArchive_22 : decode b_M_doArchive 22 = .ok (.iadd, 1) := by decide +kernel
theorem d_M_doArchive_23 : decode b_M_doArchive 23 = .ok (.bipush 90, 2) := by decide +kernel
theorem d_M_doArchive_25 : decode b_M_doArchive 25 = .ok (.if_icmp .le 5, 3) := by decide +kernel
theorem d_M_doArchive_28 : decode b_M_doArchive 28 = .ok (.iconst 1, 1) := by decide +kernel
theorem d_M_doArchive_29 : decode b_M_doArchive 29 = .ok (.ireturn, 1) := by decide +kernel
theorem d_M_doArchive_30 : decode b_M_doArchive 30 = .ok (.aload_n 0, 1) := by decide +kernel
theorem d_M_doArchive_31 : decode b_M_doArchive 31 = .ok (.getfield 28, 3) := by decide +kernel
theorem d_M_doArchive_34 : decode b_M_doArchive 34 = .ok (.bipush 45, 2) := by decide +kernel
theorem d_M_doArchive_36 : decode b_M_doArchive 36 = .ok (.aload_n 0, 1) := by decide +kernel
theorem d_M_doArchive_37 : decode b_M_doArchive 37 = .ok (.getfield 28, 3) := by decide +kernel
theorem d_M_doArchive_40 : decode b_M_doArchive 40 = .ok (.sipush 135, 3) := by decide +kernel
theorem d_M_doArchive_43 : decode b_M_doArchive 43 = .ok (.iconst 3, 1) := by decide +kernel
theorem d_M_doArchive_44 : decode b_M_doArchive 44 = .ok (.aload_n 0, 1) := by decide +kernel
theorem d_M_doArchive_45 : decode b_M_doArchive 45 = .ok (.getfield 28, 3) := by decide +kernel
theorem d_M_doArchive_48 : decode b_M_doArchive 48 = .ok (.bipush 18, 2) := by decide +kernel
theorem d_M_doArchive_50 : decode b_M_doArchive 50 = .ok (.iaload, 1) := by decide +kernel
theorem d_M_doArchive_51 : decode b_M_doArchive 51 = .ok (.imul, 1) := by decide +kernel
theorem d_M_doArchive_52 : decode b_M_doArchive 52 = .ok (.iadd, 1) := by decide +kernel
theorem d_M_doArchive_53 : decode b_M_doArchive 53 = .ok (.iconst 3, 1) := by decide +kernel
theorem d_M_doArchive_54 : decode b_M_doArchive 54 = .ok (.aload_n 0, 1) := by decide +kernel
theorem d_M_doArchive_55 : decode b_M_doArchive 55 = .ok (.getfield 28, 3) := by decide +kernel
theorem d_M_doArchive_58 : decode b_M_doArchive 58 = .ok (.bipush 17, 2) := by decide +kernel
theorem d_M_doArchive_60 : decode b_M_doArchive 60 = .ok (.iaload, 1) := by decide +kernel
theorem d_M_doArchive_61 : decode b_M_doArchive 61 = .ok (.imul, 1) := by decide +kernel
theorem d_M_doArchive_62 : decode b_M_doArchive 62 = .ok (.invokestatic 131, 3) := by decide +kernel
theorem d_M_doArchive_65 : decode b_M_doArchive 65 = .ok (.aload_n 0, 1) := by decide +kernel
theorem d_M_doArchive_66 : decode b_M_doArchive 66 = .ok (.getfield 28, 3) := by decide +kernel
theorem d_M_doArchive_69 : decode b_M_doArchive 69 = .ok (.bipush 18, 2) := by decide +kernel
theorem d_M_doArchive_71 : decode b_M_doArchive 71 = .ok (.dup2, 1) := by decide +kernel
theorem d_M_doArchive_72 : decode b_M_doArchive 72 = .ok (.iaload, 1) := by decide +kernel
theorem d_M_doArchive_73 : decode b_M_doArchive 73 = .ok (.aload_n 0, 1) := by decide +kernel
theorem d_M_doArchive_74 : decode b_M_doArchive 74 = .ok (.getfield 28, 3) := by decide +kernel
theorem d_M_doArchive_77 : decode b_M_doArchive 77 = .ok (.bipush 17, 2) := by decide +kernel
theorem d_M_doArchive_79 : decode b_M_doArchive 79 = .ok (.iaload, 1) := by decide +kernel
theorem d_M_doArchive_80 : decode b_M_doArchive 80 = .ok (.iadd, 1) := by decide +kernel
theorem d_M_doArchive_81 : decode b_M_doArchive 81 = .ok (.iastore, 1) := by decide +kernel
theorem d_M_doArchive_82 : decode b_M_doArchive 82 = .ok (.aload_n 0, 1) := by decide +kernel
theorem d_M_doArchive_83 : decode b_M_doArchive 83 = .ok (.aload_n 0, 1) := by decide +kernel
theorem d_M_doArchive_84 : decode b_M_doArchive 84 = .ok (.getfield 28, 3) := by decide +kernel
theorem d_M_doArchive_87 : decode b_M_doArchive 87 = .ok (.bipush 17, 2) := by decide +kernel
theorem d_M_doArchive_89 : decode b_M_doArchive 89 = .ok (.iaload, 1) := by decide +kernel
theorem d_M_doArchive_90 : decode b_M_doArchive 90 = .ok (.putfield 183, 3) := by decide +kernel
theorem d_M_doArchive_93 : decode b_M_doArchive 93 = .ok (.aload_n 0, 1) := by decide +kernel
theorem d_M_doArchive_94 : decode b_M_doArchive 94 = .ok (.getfield 28, 3) := by decide +kernel
theorem d_M_doArchive_97 : decode b_M_doArchive 97 = .ok (.bipush 17, 2) := by decide +kernel
theorem d_M_doArchive_99 : decode b_M_doArchive 99 = .ok (.iconst 0, 1) := by decide +kernel
theorem d_M_doArchive_100 : decode b_M_doArchive 100 = .ok (.iastore, 1) := by decide +kernel
theorem d_M_doArchive_101 : decode b_M_doArchive 101 = .ok (.iconst 0, 1) := by decide +kernel
theorem d_M_doArchive_102 : decode b_M_doArchive 102 = .ok (.ireturn, 1) := by decide +kernel
def f_M_doArchive (rr : Nat) (M : Mem) : Option (Int32 × Mem) :=
  bnd (f_M_is rr (0 : Int32) M) fun (x1 : Bool) (M2 : Mem) => if x1 = true then (if (90 : Int32) < ((M2 rr 18) + (M2 rr 17)) then (some ((1 : Int32), M2)) else (grd (cpB (45 : Int32) ((135 : Int32) + ((3 : Int32) * (M2 rr 18))) ((3 : Int32) * (M2 rr 17)) 405 405) (nm (setR M2 rr (va_cpy (M2 rr) (M2 rr) (45 : Int32).toNatClampNeg ((135 : Int32) + ((3 : Int32) * (M2 rr 18))).toNatClampNeg ((3 : Int32) * (M2 rr 17)).toNatClampNeg)) fun (M3 : Mem) => nm (put M3 rr 18 ((M3 rr 18) + (M3 rr 17))) fun (M4 : Mem) => nm (put M4 145 10 (M4 rr 17)) fun (M5 : Mem) => nm (put M5 rr 17 (0 : Int32)) fun (M6 : Mem) => some ((0 : Int32), M6)))) else (some ((1 : Int32), M2))
set_option maxHeartbeats 4000000 in
set_option maxRecDepth 100000 in
theorem c_M_doArchive (l : Launch) {w : Wc} {rr : Nat} (hw : WM w rr)  (M : Mem) : Ct QI l y_M_doArchive b_M_doArchive 1 (some .int) (rmL 1) w [.ref (wad w 145)] M (f_M_doArchive rr M) := by
  refine Ct.go (by decide) (L := [(0, .ref (wad w 145))]) rfl (Nat.le_of_ble_eq_true rfl) (fun p0 e s m args below meth c g hret => ?_)
  unfold f_M_doArchive
  refine G_aload_n g (pc := 0) 0 d_M_doArchive_0 rfl rfl ?_
  refine G_iconst g (pc := 1) (0 : Int32) d_M_doArchive_1 rfl ?_
  refine G_cVZ g (pc := 2) (As := [.int (0 : Int32)]) (st := []) cc_M_106 (c_M_is l hw (0 : Int32) M) (hw.mm 145 (Nat.le_of_ble_eq_true rfl) (Nat.le_of_ble_eq_true rfl)) (hw.k (zk145 rr)) rfl (by decide) rfl ⟨(Nat.le_of_ble_eq_true rfl), (Nat.le_of_ble_eq_true rfl)⟩ ⟨(Nat.le_of_ble_eq_true rfl), (Nat.le_of_ble_eq_true rfl)⟩ (Nat.le_of_ble_eq_true rfl) d_M_doArchive_2 (fun x1 M2 => ?_)
  refine G_if_eqB g (pc := 5) 28 d_M_doArchive_5 (by decide) ?_ ?_
  · refine G_aload_n g (pc := 8) 0 d_M_doArchive_8 rfl rfl ?_
    refine G_getR g (pc := 9) fa_M_28 (hw.mm 145 (Nat.le_of_ble_eq_true rfl) (Nat.le_of_ble_eq_true rfl)) (hw.k (zk145 rr)) (hw.r hw.rr) d_M_doArchive_9 ?_
    refine G_bipush g (pc := 12) (18 : Int32) d_M_doArchive_12 rfl ?_
    refine G_ialdK g (pc := 14) (nn := 405) 18 rfl rfl hw.mr hw.kr hw.nr d_M_doArchive_14 ?_
    refine G_aload_n g (pc := 15) 0 d_M_doArchive_15 rfl rfl ?_
    refine G_getR g (pc := 16) fa_M_28 (hw.mm 145 (Nat.le_of_ble_eq_true rfl) (Nat.le_of_ble_eq_true rfl)) (hw.k (zk145 rr)) (hw.r hw.rr) d_M_doArchive_16 ?_
    refine G_bipush g (pc := 19) (17 : Int32) d_M_doArchive_19 rfl ?_
    refine G_ialdK g (pc := 21) (nn := 405) 17 rfl rfl hw.mr hw.kr hw.nr d_M_doArchive_21 ?_
    refine G_iadd g (pc := 22) d_M_doArchive_22 ?_
    refine G_bipush g (pc := 23) (90 : Int32) d_M_doArchive_23 rfl ?_
    refine G_icmp_le g (pc := 25) 30 d_M_doArchive_25 (by decide) ?_ ?_
    · refine G_iconst g (pc := 28) (1 : Int32) d_M_doArchive_28 rfl ?_
      exact G_ireturn g (pc := 29) hret (Nat.le_of_ble_eq_true rfl) (Nat.le_of_ble_eq_true rfl) d_M_doArchive_29
    · refine G_aload_n g (pc := 30) 0 d_M_doArchive_30 rfl rfl ?_
      refine G_getR g (pc := 31) fa_M_28 (hw.mm 145 (Nat.le_of_ble_eq_true rfl) (Nat.le_of_ble_eq_true rfl)) (hw.k (zk145 rr)) (hw.r hw.rr) d_M_doArchive_31 ?_
      refine G_bipush g (pc := 34) (45 : Int32) d_M_doArchive_34 rfl ?_
      refine G_aload_n g (pc := 36) 0 d_M_doArchive_36 rfl rfl ?_
      refine G_getR g (pc := 37) fa_M_28 (hw.mm 145 (Nat.le_of_ble_eq_true rfl) (Nat.le_of_ble_eq_true rfl)) (hw.k (zk145 rr)) (hw.r hw.rr) d_M_doArchive_37 ?_
      refine G_sipush g (pc := 40) (135 : Int32) d_M_doArchive_40 rfl ?_
      refine G_iconst g (pc := 43) (3 : Int32) d_M_doArchive_43 rfl ?_
      refine G_aload_n g (pc := 44) 0 d_M_doArchive_44 rfl rfl ?_
      refine G_getR g (pc := 45) fa_M_28 (hw.mm 145 (Nat.le_of_ble_eq_true rfl) (Nat.le_of_ble_eq_true rfl)) (hw.k (zk145 rr)) (hw.r hw.rr) d_M_doArchive_45 ?_
      refine G_bipush g (pc := 48) (18 : Int32) d_M_doArchive_48 rfl ?_
      refine G_ialdK g (pc := 50) (nn := 405) 18 rfl rfl hw.mr hw.kr hw.nr d_M_doArchive_50 ?_
      refine G_imul g (pc := 51) d_M_doArchive_51 ?_
      refine G_iadd g (pc := 52) d_M_doArchive_52 ?_
      refine G_iconst g (pc := 53) (3 : Int32) d_M_doArchive_53 rfl ?_
      refine G_aload_n g (pc := 54) 0 d_M_doArchive_54 rfl rfl ?_
      refine G_getR g (pc := 55) fa_M_28 (hw.mm 145 (Nat.le_of_ble_eq_true rfl) (Nat.le_of_ble_eq_true rfl)) (hw.k (zk145 rr)) (hw.r hw.rr) d_M_doArchive_55 ?_
      refine G_bipush g (pc := 58) (17 : Int32) d_M_doArchive_58 rfl ?_
      refine G_ialdK g (pc := 60) (nn := 405) 17 rfl rfl hw.mr hw.kr hw.nr d_M_doArchive_60 ?_
      refine G_imul g (pc := 61) d_M_doArchive_61 ?_
      refine G_copy g (pc := 62) (n0 := 405) (n1 := 405) ma_M_131 ⟨(Nat.le_of_ble_eq_true rfl), (Nat.le_of_ble_eq_true rfl)⟩ hw.mr hw.kr hw.nr hw.mr hw.kr hw.nr d_M_doArchive_62 ?_
      refine G_nmM (fun M3 => ?_)
      refine G_aload_n g (pc := 65) 0 d_M_doArchive_65 rfl rfl ?_
      refine G_getR g (pc := 66) fa_M_28 (hw.mm 145 (Nat.le_of_ble_eq_true rfl) (Nat.le_of_ble_eq_true rfl)) (hw.k (zk145 rr)) (hw.r hw.rr) d_M_doArchive_66 ?_
      refine G_bipush g (pc := 69) (18 : Int32) d_M_doArchive_69 rfl ?_
      refine G_dup2 g (pc := 71) d_M_doArchive_71 rfl rfl ?_
      refine G_ialdK g (pc := 72) (nn := 405) 18 rfl rfl hw.mr hw.kr hw.nr d_M_doArchive_72 ?_
      refine G_aload_n g (pc := 73) 0 d_M_doArchive_73 rfl rfl ?_
      refine G_getR g (pc := 74) fa_M_28 (hw.mm 145 (Nat.le_of_ble_eq_true rfl) (Nat.le_of_ble_eq_true rfl)) (hw.k (zk145 rr)) (hw.r hw.rr) d_M_doArchive_74 ?_
      refine G_bipush g (pc := 77) (17 : Int32) d_M_doArchive_77 rfl ?_
      refine G_ialdK g (pc := 79) (nn := 405) 17 rfl rfl hw.mr hw.kr hw.nr d_M_doArchive_79 ?_
      refine G_iadd g (pc := 80) d_M_doArchive_80 ?_
      refine G_iastK g (pc := 81) (nn := 405) 18 rfl rfl hw.mr hw.kr hw.nr d_M_doArchive_81 ?_
      refine G_nmM (fun M4 => ?_)
      refine G_aload_n g (pc := 82) 0 d_M_doArchive_82 rfl rfl ?_
      refine G_aload_n g (pc := 83) 0 d_M_doArchive_83 rfl rfl ?_
      refine G_getR g (pc := 84) fa_M_28 (hw.mm 145 (Nat.le_of_ble_eq_true rfl) (Nat.le_of_ble_eq_true rfl)) (hw.k (zk145 rr)) (hw.r hw.rr) d_M_doArchive_84 ?_
      refine G_bipush g (pc := 87) (17 : Int32) d_M_doArchive_87 rfl ?_
      refine G_ialdK g (pc := 89) (nn := 405) 17 rfl rfl hw.mr hw.kr hw.nr d_M_doArchive_89 ?_
      refine G_put g (pc := 90) fa_M_183 fw_10_10 rfl rfl (hw.mm 145 (Nat.le_of_ble_eq_true rfl) (Nat.le_of_ble_eq_true rfl)) (hw.k (zk145 rr)) d_M_doArchive_90 ?_
      refine G_nmM (fun M5 => ?_)
      refine G_aload_n g (pc := 93) 0 d_M_doArchive_93 rfl rfl ?_
      refine G_getR g (pc := 94) fa_M_28 (hw.mm 145 (Nat.le_of_ble_eq_true rfl) (Nat.le_of_ble_eq_true rfl)) (hw.k (zk145 rr)) (hw.r hw.rr) d_M_doArchive_94 ?_
      refine G_bipush g (pc := 97) (17 : Int32) d_M_doArchive_97 rfl ?_
      refine G_iconst g (pc := 99) (0 : Int32) d_M_doArchive_99 rfl ?_
      refine G_iastK g (pc := 100) (nn := 405) 17 rfl rfl hw.mr hw.kr hw.nr d_M_doArchive_100 ?_
      refine G_nmM (fun M6 => ?_)
      refine G_iconst g (pc := 101) (0 : Int32) d_M_doArchive_101 rfl ?_
      exact G_ireturn g (pc := 102) hret (Nat.le_of_ble_eq_true rfl) (Nat.le_of_ble_eq_true rfl) d_M_doArchive_102
  · refine G_iconst g (pc := 28) (1 : Int32) d_M_doArchive_28 rfl ?_
    exact G_ireturn g (pc := 29) hret (Nat.le_of_ble_eq_true rfl) (Nat.le_of_ble_eq_true rfl) d_M_doArchive_29

theorem d_M_doWait_0 : decode b_M_doWait 0 = .ok (.aload_n 0, 1) := by decide +kernel
theorem d_M_doWait_1 : decode b_M_doWait 1 = .ok (.getfield 28, 3) := by decide +kernel
theorem d_M_doWait_4 : decode b_M_doWait 4 = .ok (.iconst 0, 1) := by decide +kernel
theorem d_M_doWait_5 : decode b_M_doWait 5 = .ok (.iaload, 1) := by decide +kernel
theorem d_M_doWait_6 : decode b_M_doWait 6 = .ok (.iload_n 1, 1) := by decide +kernel
theorem d_M_doWait_7 : decode b_M_doWait 7 = .ok (.iadd, 1) := by decide +kernel
theorem d_M_doWait_8 : decode b_M_doWait 8 = .ok (.sipush 10000, 3) := by decide +kernel
theorem d_M_doWait_11 : decode b_M_doWait 11 = .ok (.if_icmp .le 5, 3) := by decide +kernel
theorem d_M_doWait_14 : decode b_M_doWait 14 = .ok (.iconst 2, 1) := by decide +kernel
theorem d_M_doWait_15 : decode b_M_doWait 15 = .ok (.ireturn, 1) := by decide +kernel
theorem d_M_doWait_16 : decode b_M_doWait 16 = .ok (.aload_n 0, 1) := by decide +kernel
theorem d_M_doWait_17 : decode b_M_doWait 17 = .ok (.getfield 28, 3) := by decide +kernel
theorem d_M_doWait_20 : decode b_M_doWait 20 = .ok (.bipush 19, 2) := by decide +kernel
theorem d_M_doWait_22 : decode b_M_doWait 22 = .ok (.iaload, 1) := by decide +kernel
theorem d_M_doWait_23 : decode b_M_doWait 23 = .ok (.istore_n 2, 1) := by decide +kernel
theorem d_M_doWait_24 : decode b_M_doWait 24 = .ok (.aload_n 0, 1) := by decide +kernel
theorem d_M_doWait_25 : decode b_M_doWait 25 = .ok (.iload_n 1, 1) := by decide +kernel
theorem d_M_doWait_26 : decode b_M_doWait 26 = .ok (.invokevirtual 171, 3) := by decide +kernel
theorem d_M_doWait_29 : decode b_M_doWait 29 = .ok (.aload_n 0, 1) := by decide +kernel
theorem d_M_doWait_30 : decode b_M_doWait 30 = .ok (.aload_n 0, 1) := by decide +kernel
theorem d_M_doWait_31 : decode b_M_doWait 31 = .ok (.getfield 28, 3) := by decide +kernel
theorem d_M_doWait_34 : decode b_M_doWait 34 = .ok (.bipush 19, 2) := by decide +kernel
theorem d_M_doWait_36 : decode b_M_doWait 36 = .ok (.iaload, 1) := by decide +kernel
theorem d_M_doWait_37 : decode b_M_doWait 37 = .ok (.iload_n 2, 1) := by decide +kernel
theorem d_M_doWait_38 : decode b_M_doWait 38 = .ok (.isub, 1) := by decide +kernel
theorem d_M_doWait_39 : decode b_M_doWait 39 = .ok (.putfield 183, 3) := by decide +kernel
theorem d_M_doWait_42 : decode b_M_doWait 42 = .ok (.iconst 0, 1) := by decide +kernel
theorem d_M_doWait_43 : decode b_M_doWait 43 = .ok (.ireturn, 1) := by decide +kernel
def f_M_doWait (N : Nat) (rr : Nat) (a1 : Int32) (M : Mem) : Option (Int32 × Mem) :=
  if (10000 : Int32) < ((M rr 0) + a1) then (some ((2 : Int32), M)) else (nm (M rr 19) fun (x1 : Int32) => bndM (f_M_pass N rr a1 M) fun (M3 : Mem) => nm (put M3 145 10 ((M3 rr 19) - x1)) fun (M4 : Mem) => some ((0 : Int32), M4))
set_option maxHeartbeats 4000000 in
set_option maxRecDepth 100000 in
theorem c_M_doWait (l : Launch) (N : Nat) {w : Wc} {rr : Nat} (hw : WM w rr) (a1 : Int32) (M : Mem) : Ct QI l y_M_doWait b_M_doWait 3 (some .int) (rmL 6) w [.ref (wad w 145), .int a1] M (f_M_doWait N rr a1 M) := by
  refine Ct.go (by decide) (L := [(0, .ref (wad w 145)), (1, .int a1)]) rfl (Nat.le_of_ble_eq_true rfl) (fun p0 e s m args below meth c g hret => ?_)
  unfold f_M_doWait
  refine G_aload_n g (pc := 0) 0 d_M_doWait_0 rfl rfl ?_
  refine G_getR g (pc := 1) fa_M_28 (hw.mm 145 (Nat.le_of_ble_eq_true rfl) (Nat.le_of_ble_eq_true rfl)) (hw.k (zk145 rr)) (hw.r hw.rr) d_M_doWait_1 ?_
  refine G_iconst g (pc := 4) (0 : Int32) d_M_doWait_4 rfl ?_
  refine G_ialdK g (pc := 5) (nn := 405) 0 rfl rfl hw.mr hw.kr hw.nr d_M_doWait_5 ?_
  refine G_iload_n g (pc := 6) 1 d_M_doWait_6 rfl rfl ?_
  refine G_iadd g (pc := 7) d_M_doWait_7 ?_
  refine G_sipush g (pc := 8) (10000 : Int32) d_M_doWait_8 rfl ?_
  refine G_icmp_le g (pc := 11) 16 d_M_doWait_11 (by decide) ?_ ?_
  · refine G_iconst g (pc := 14) (2 : Int32) d_M_doWait_14 rfl ?_
    exact G_ireturn g (pc := 15) hret (Nat.le_of_ble_eq_true rfl) (Nat.le_of_ble_eq_true rfl) d_M_doWait_15
  · refine G_aload_n g (pc := 16) 0 d_M_doWait_16 rfl rfl ?_
    refine G_getR g (pc := 17) fa_M_28 (hw.mm 145 (Nat.le_of_ble_eq_true rfl) (Nat.le_of_ble_eq_true rfl)) (hw.k (zk145 rr)) (hw.r hw.rr) d_M_doWait_17 ?_
    refine G_bipush g (pc := 20) (19 : Int32) d_M_doWait_20 rfl ?_
    refine G_ialdK g (pc := 22) (nn := 405) 19 rfl rfl hw.mr hw.kr hw.nr d_M_doWait_22 ?_
    refine G_nmI (fun x1 => ?_)
    refine G_istore_n g (pc := 23) _ d_M_doWait_23 rfl (Nat.le_of_ble_eq_true rfl) rfl ?_
    refine G_aload_n g (pc := 24) 1 d_M_doWait_24 rfl rfl ?_
    refine G_iload_n g (pc := 25) 2 d_M_doWait_25 rfl rfl ?_
    refine G_cVV g (pc := 26) (As := [.int a1]) (st := []) cc_M_171 (c_M_pass l N hw a1 M) (hw.mm 145 (Nat.le_of_ble_eq_true rfl) (Nat.le_of_ble_eq_true rfl)) (hw.k (zk145 rr)) rfl (by decide) rfl ⟨(Nat.le_of_ble_eq_true rfl), (Nat.le_of_ble_eq_true rfl)⟩ ⟨(Nat.le_of_ble_eq_true rfl), (Nat.le_of_ble_eq_true rfl)⟩ (Nat.le_of_ble_eq_true rfl) d_M_doWait_26 (fun M3 => ?_)
    refine G_aload_n g (pc := 29) 1 d_M_doWait_29 rfl rfl ?_
    refine G_aload_n g (pc := 30) 1 d_M_doWait_30 rfl rfl ?_
    refine G_getR g (pc := 31) fa_M_28 (hw.mm 145 (Nat.le_of_ble_eq_true rfl) (Nat.le_of_ble_eq_true rfl)) (hw.k (zk145 rr)) (hw.r hw.rr) d_M_doWait_31 ?_
    refine G_bipush g (pc := 34) (19 : Int32) d_M_doWait_34 rfl ?_
    refine G_ialdK g (pc := 36) (nn := 405) 19 rfl rfl hw.mr hw.kr hw.nr d_M_doWait_36 ?_
    refine G_iload_n g (pc := 37) 0 d_M_doWait_37 rfl rfl ?_
    refine G_isub g (pc := 38) d_M_doWait_38 ?_
    refine G_put g (pc := 39) fa_M_183 fw_10_10 rfl rfl (hw.mm 145 (Nat.le_of_ble_eq_true rfl) (Nat.le_of_ble_eq_true rfl)) (hw.k (zk145 rr)) d_M_doWait_39 ?_
    refine G_nmM (fun M4 => ?_)
    refine G_iconst g (pc := 42) (0 : Int32) d_M_doWait_42 rfl ?_
    exact G_ireturn g (pc := 43) hret (Nat.le_of_ble_eq_true rfl) (Nat.le_of_ble_eq_true rfl) d_M_doWait_43

theorem d_M_keep_0 : decode b_M_keep 0 = .ok (.aload_n 0, 1) := by decide +kernel
theorem d_M_keep_1 : decode b_M_keep 1 = .ok (.getfield 9, 3) := by decide +kernel
theorem d_M_keep_4 : decode b_M_keep 4 = .ok (.iconst 0, 1) := by decide +kernel
theorem d_M_keep_5 : decode b_M_keep 5 = .ok (.aload_n 0, 1) := by decide +kernel
theorem d_M_keep_6 : decode b_M_keep 6 = .ok (.getfield 19, 3) := by decide +kernel
theorem d_M_keep_9 : decode b_M_keep 9 = .ok (.iconst 0, 1) := by decide +kernel
theorem d_M_keep_10 : decode b_M_keep 10 = .ok (.invokestatic 164, 3) := by decide +kernel
theorem d_M_keep_13 : decode b_M_keep 13 = .ok (.return_, 1) := by decide +kernel
def f_M_keep  (M : Mem) : Option (Mem) :=
  bndM (f_M_copy 146 (0 : Int32) 149 (0 : Int32) M) fun (M2 : Mem) => some M2
set_option maxHeartbeats 4000000 in
set_option maxRecDepth 100000 in
theorem c_M_keep (l : Launch) {w : Wc} {rr : Nat} (hw : WM w rr)  (M : Mem) : Ct QV l y_M_keep b_M_keep 1 none (rmL 2) w [.ref (wad w 145)] M (f_M_keep  M) := by
  refine Ct.go (by decide) (L := [(0, .ref (wad w 145))]) rfl (Nat.le_of_ble_eq_true rfl) (fun p0 e s m args below meth c g hret => ?_)
  unfold f_M_keep
  refine G_aload_n g (pc := 0) 0 d_M_keep_0 rfl rfl ?_
  refine G_getR g (pc := 1) fa_M_9 (hw.mm 145 (Nat.le_of_ble_eq_true rfl) (Nat.le_of_ble_eq_true rfl)) (hw.k (zk145 rr)) (hw.r (zr145_0 rr)) d_M_keep_1 ?_
  refine G_iconst g (pc := 4) (0 : Int32) d_M_keep_4 rfl ?_
  refine G_aload_n g (pc := 5) 0 d_M_keep_5 rfl rfl ?_
  refine G_getR g (pc := 6) fa_M_19 (hw.mm 145 (Nat.le_of_ble_eq_true rfl) (Nat.le_of_ble_eq_true rfl)) (hw.k (zk145 rr)) (hw.r (zr145_3 rr)) d_M_keep_6 ?_
  refine G_iconst g (pc := 9) (0 : Int32) d_M_keep_9 rfl ?_
  refine G_cSV g (pc := 10) (As := [.ref (wad w 146), .int (0 : Int32), .ref (wad w 149), .int (0 : Int32)]) (st := []) cc_M_164 (c_M_copy l hw 146 (hw.mm 146 (Nat.le_of_ble_eq_true rfl) (Nat.le_of_ble_eq_true rfl)) (hw.k (zk146 rr)) (0 : Int32) 149 (hw.mm 149 (Nat.le_of_ble_eq_true rfl) (Nat.le_of_ble_eq_true rfl)) (hw.k (zk149 rr)) (0 : Int32) M) rfl ⟨(Nat.le_of_ble_eq_true rfl), (Nat.le_of_ble_eq_true rfl)⟩ ⟨(Nat.le_of_ble_eq_true rfl), (Nat.le_of_ble_eq_true rfl)⟩ (Nat.le_of_ble_eq_true rfl) d_M_keep_10 (fun M2 => ?_)
  exact G_return g (pc := 13) hret (Nat.le_of_ble_eq_true rfl) (Nat.le_of_ble_eq_true rfl) d_M_keep_13

theorem d_M_record_0 : decode b_M_record 0 = .ok (.aload_n 0, 1) := by decide +kernel
theorem d_M_record_1 : decode b_M_record 1 = .ok (.getfield 186, 3) := by decide +kernel
theorem d_M_record_4 : decode b_M_record 4 = .ok (.bipush 8, 2) := by decide +kernel
theorem d_M_record_6 : decode b_M_record 6 = .ok (.if_icmp .ne 42, 3) := by decide +kernel
theorem d_M_record_9 : decode b_M_record 9 = .ok (.iconst 1, 1) := by decide +kernel
theorem d_M_record_10 : decode b_M_record 10 = .ok (.istore_n 1, 1) := by decide +kernel
theorem d_M_record_11 : decode b_M_record 11 = .ok (.iload_n 1, 1) := by decide +kernel
theorem d_M_record_12 : decode b_M_record 12 = .ok (.bipush 8, 2) := by decide +kernel
theorem d_M_record_14 : decode b_M_record 14 = .ok (.if_icmp .ge 24, 3) := by decide +kernel
theorem d_M_record_17 : decode b_M_record 17 = .ok (.aload_n 0, 1) := by decide +kernel
theorem d_M_record_18 : decode b_M_record 18 = .ok (.getfield 25, 3) := by decide +kernel
theorem d_M_record_21 : decode b_M_record 21 = .ok (.iload_n 1, 1) := by decide +kernel
theorem d_M_record_22 : decode b_M_record 22 = .ok (.aload_n 0, 1) := by decide +kernel
theorem d_M_record_23 : decode b_M_record 23 = .ok (.getfield 25, 3) := by decide +kernel
theorem d_M_record_26 : decode b_M_record 26 = .ok (.iload_n 1, 1) := by decide +kernel
theorem d_M_record_27 : decode b_M_record 27 = .ok (.iconst 1, 1) := by decide +kernel
theorem d_M_record_28 : decode b_M_record 28 = .ok (.isub, 1) := by decide +kernel
theorem d_M_record_29 : decode b_M_record 29 = .ok (.invokestatic 164, 3) := by decide +kernel
theorem d_M_record_32 : decode b_M_record 32 = .ok (.iinc 1 1, 3) := by decide +kernel
theorem d_M_record_35 : decode b_M_record 35 = .ok (.goto (-24), 3) := by decide +kernel
theorem d_M_record_38 : decode b_M_record 38 = .ok (.aload_n 0, 1) := by decide +kernel
theorem d_M_record_39 : decode b_M_record 39 = .ok (.dup, 1) := by decide +kernel
theorem d_M_record_40 : decode b_M_record 40 = .ok (.getfield 186, 3) := by decide +kernel
theorem d_M_record_43 : decode b_M_record 43 = .ok (.iconst 1, 1) := by decide +kernel
theorem d_M_record_44 : decode b_M_record 44 = .ok (.isub, 1) := by decide +kernel
theorem d_M_record_45 : decode b_M_record 45 = .ok (.putfield 186, 3) := by decide +kernel
theorem d_M_record_48 : decode b_M_record 48 = .ok (.aload_n 0, 1) := by decide +kernel
theorem d_M_record_49 : decode b_M_record 49 = .ok (.getfield 19, 3) := by decide +kernel
theorem d_M_record_52 : decode b_M_record 52 = .ok (.iconst 0, 1) := by decide +kernel
theorem d_M_record_53 : decode b_M_record 53 = .ok (.aload_n 0, 1) := by decide +kernel
theorem d_M_record_54 : decode b_M_record 54 = .ok (.getfield 25, 3) := by decide +kernel
theorem d_M_record_57 : decode b_M_record 57 = .ok (.aload_n 0, 1) := by decide +kernel
theorem d_M_record_58 : decode b_M_record 58 = .ok (.getfield 186, 3) := by decide +kernel
theorem d_M_record_61 : decode b_M_record 61 = .ok (.invokestatic 164, 3) := by decide +kernel
theorem d_M_record_64 : decode b_M_record 64 = .ok (.aload_n 0, 1) := by decide +kernel
theorem d_M_record_65 : decode b_M_record 65 = .ok (.dup, 1) := by decide +kernel
theorem d_M_record_66 : decode b_M_record 66 = .ok (.getfield 186, 3) := by decide +kernel
theorem d_M_record_69 : decode b_M_record 69 = .ok (.iconst 1, 1) := by decide +kernel
theorem d_M_record_70 : decode b_M_record 70 = .ok (.iadd, 1) := by decide +kernel
theorem d_M_record_71 : decode b_M_record 71 = .ok (.putfield 186, 3) := by decide +kernel
theorem d_M_record_74 : decode b_M_record 74 = .ok (.return_, 1) := by decide +kernel
def lp_M_record_11 (N0 rr : Nat)   : Nat → Int32 → Mem → (Int32 → Mem → Option (Mem)) → Option (Mem)
  | 0, _, _, _ => none
  | N + 1, v11, M, k11 => if v11 < (8 : Int32) then (bndM (f_M_copy 151 v11 151 (v11 - (1 : Int32)) M) fun (M2 : Mem) => nm (v11 + (1 : Int32)) fun (x3 : Int32) => lp_M_record_11 N0 rr N x3 M2 k11) else (k11 v11 M)
def f_M_record (N : Nat) (rr : Nat) (M : Mem) : Option (Mem) :=
  if (M 145 7) = (8 : Int32) then (lp_M_record_11 N rr N (1 : Int32) M (fun (a5 : Int32) (M4 : Mem) => nm (put M4 145 7 ((M4 145 7) - (1 : Int32))) fun (M6 : Mem) => bndM (f_M_copy 149 (0 : Int32) 151 (M6 145 7) M6) fun (M8 : Mem) => nm (put M8 145 7 ((M8 145 7) + (1 : Int32))) fun (M9 : Mem) => some M9)) else (bndM (f_M_copy 149 (0 : Int32) 151 (M 145 7) M) fun (M11 : Mem) => nm (put M11 145 7 ((M11 145 7) + (1 : Int32))) fun (M12 : Mem) => some M12)
set_option maxHeartbeats 4000000 in
set_option maxRecDepth 100000 in
theorem c_M_record (l : Launch) (N : Nat) {w : Wc} {rr : Nat} (hw : WM w rr)  (M : Mem) : Ct QV l y_M_record b_M_record 2 none (rmL 2) w [.ref (wad w 145)] M (f_M_record N rr M) := by
  refine Ct.go (by decide) (L := [(0, .ref (wad w 145))]) rfl (Nat.le_of_ble_eq_true rfl) (fun p0 e s m args below meth c g hret => ?_)
  unfold f_M_record
  refine G_aload_n g (pc := 0) 0 d_M_record_0 rfl rfl ?_
  refine G_get g (pc := 1) fa_M_186 (hw.mm 145 (Nat.le_of_ble_eq_true rfl) (Nat.le_of_ble_eq_true rfl)) (hw.k (zk145 rr)) d_M_record_1 ?_
  refine G_bipush g (pc := 4) (8 : Int32) d_M_record_4 rfl ?_
  refine G_icmp_ne g (pc := 6) 48 d_M_record_6 (by decide) ?_ ?_
  · refine G_iconst g (pc := 9) (1 : Int32) d_M_record_9 rfl ?_
    refine G_istore_n g (pc := 10) _ d_M_record_10 rfl (Nat.le_of_ble_eq_true rfl) rfl ?_
    refine G_sub [1, 0] _ rfl ?_
    refine G_loop (F := lp_M_record_11 N rr) 11 38 (fun (v11 : Int32) => [(0, .ref (wad w 145)), (1, .int v11)]) (fun (v11 : Int32) => [(0, .ref (wad w 145)), (1, .int v11)]) (fun _ _ _ => rfl) (fun a5 M4 => ?_) (fun k11 hk11 Nl11 ih11 v11 M => ?_) N (1 : Int32) M
    · refine G_aload_n g (pc := 38) 0 d_M_record_38 rfl rfl ?_
      refine G_dup g (pc := 39) d_M_record_39 rfl ?_
      refine G_get g (pc := 40) fa_M_186 (hw.mm 145 (Nat.le_of_ble_eq_true rfl) (Nat.le_of_ble_eq_true rfl)) (hw.k (zk145 rr)) d_M_record_40 ?_
      refine G_iconst g (pc := 43) (1 : Int32) d_M_record_43 rfl ?_
      refine G_isub g (pc := 44) d_M_record_44 ?_
      refine G_put g (pc := 45) fa_M_186 fw_10_7 rfl rfl (hw.mm 145 (Nat.le_of_ble_eq_true rfl) (Nat.le_of_ble_eq_true rfl)) (hw.k (zk145 rr)) d_M_record_45 ?_
      refine G_nmM (fun M6 => ?_)
      refine G_aload_n g (pc := 48) 0 d_M_record_48 rfl rfl ?_
      refine G_getR g (pc := 49) fa_M_19 (hw.mm 145 (Nat.le_of_ble_eq_true rfl) (Nat.le_of_ble_eq_true rfl)) (hw.k (zk145 rr)) (hw.r (zr145_3 rr)) d_M_record_49 ?_
      refine G_iconst g (pc := 52) (0 : Int32) d_M_record_52 rfl ?_
      refine G_aload_n g (pc := 53) 0 d_M_record_53 rfl rfl ?_
      refine G_getR g (pc := 54) fa_M_25 (hw.mm 145 (Nat.le_of_ble_eq_true rfl) (Nat.le_of_ble_eq_true rfl)) (hw.k (zk145 rr)) (hw.r (zr145_5 rr)) d_M_record_54 ?_
      refine G_aload_n g (pc := 57) 0 d_M_record_57 rfl rfl ?_
      refine G_get g (pc := 58) fa_M_186 (hw.mm 145 (Nat.le_of_ble_eq_true rfl) (Nat.le_of_ble_eq_true rfl)) (hw.k (zk145 rr)) d_M_record_58 ?_
      refine G_cSV g (pc := 61) (As := [.ref (wad w 149), .int (0 : Int32), .ref (wad w 151), .int (M6 145 7)]) (st := []) cc_M_164 (c_M_copy l hw 149 (hw.mm 149 (Nat.le_of_ble_eq_true rfl) (Nat.le_of_ble_eq_true rfl)) (hw.k (zk149 rr)) (0 : Int32) 151 (hw.mm 151 (Nat.le_of_ble_eq_true rfl) (Nat.le_of_ble_eq_true rfl)) (hw.k (zk151 rr)) (M6 145 7) M6) rfl ⟨(Nat.le_of_ble_eq_true rfl), (Nat.le_of_ble_eq_true rfl)⟩ ⟨(Nat.le_of_ble_eq_true rfl), (Nat.le_of_ble_eq_true rfl)⟩ (Nat.le_of_ble_eq_true rfl) d_M_record_61 (fun M8 => ?_)
      refine G_aload_n g (pc := 64) 0 d_M_record_64 rfl rfl ?_
      refine G_dup g (pc := 65) d_M_record_65 rfl ?_
      refine G_get g (pc := 66) fa_M_186 (hw.mm 145 (Nat.le_of_ble_eq_true rfl) (Nat.le_of_ble_eq_true rfl)) (hw.k (zk145 rr)) d_M_record_66 ?_
      refine G_iconst g (pc := 69) (1 : Int32) d_M_record_69 rfl ?_
      refine G_iadd g (pc := 70) d_M_record_70 ?_
      refine G_put g (pc := 71) fa_M_186 fw_10_7 rfl rfl (hw.mm 145 (Nat.le_of_ble_eq_true rfl) (Nat.le_of_ble_eq_true rfl)) (hw.k (zk145 rr)) d_M_record_71 ?_
      refine G_nmM (fun M9 => ?_)
      exact G_return g (pc := 74) hret (Nat.le_of_ble_eq_true rfl) (Nat.le_of_ble_eq_true rfl) d_M_record_74
    · show Go p0 l e _ s m args below meth c w _ _ _ _ (lp_M_record_11 N rr (Nl11 + 1) v11 M k11) 11 _ _ M
      unfold lp_M_record_11
      refine G_iload_n g (pc := 11) 1 d_M_record_11 rfl rfl ?_
      refine G_bipush g (pc := 12) (8 : Int32) d_M_record_12 rfl ?_
      refine G_icmp_ge g (pc := 14) 38 d_M_record_14 (by decide) ?_ ?_
      · refine G_aload_n g (pc := 17) 0 d_M_record_17 rfl rfl ?_
        refine G_getR g (pc := 18) fa_M_25 (hw.mm 145 (Nat.le_of_ble_eq_true rfl) (Nat.le_of_ble_eq_true rfl)) (hw.k (zk145 rr)) (hw.r (zr145_5 rr)) d_M_record_18 ?_
        refine G_iload_n g (pc := 21) 1 d_M_record_21 rfl rfl ?_
        refine G_aload_n g (pc := 22) 0 d_M_record_22 rfl rfl ?_
        refine G_getR g (pc := 23) fa_M_25 (hw.mm 145 (Nat.le_of_ble_eq_true rfl) (Nat.le_of_ble_eq_true rfl)) (hw.k (zk145 rr)) (hw.r (zr145_5 rr)) d_M_record_23 ?_
        refine G_iload_n g (pc := 26) 1 d_M_record_26 rfl rfl ?_
        refine G_iconst g (pc := 27) (1 : Int32) d_M_record_27 rfl ?_
        refine G_isub g (pc := 28) d_M_record_28 ?_
        refine G_cSV g (pc := 29) (As := [.ref (wad w 151), .int v11, .ref (wad w 151), .int (v11 - (1 : Int32))]) (st := []) cc_M_164 (c_M_copy l hw 151 (hw.mm 151 (Nat.le_of_ble_eq_true rfl) (Nat.le_of_ble_eq_true rfl)) (hw.k (zk151 rr)) v11 151 (hw.mm 151 (Nat.le_of_ble_eq_true rfl) (Nat.le_of_ble_eq_true rfl)) (hw.k (zk151 rr)) (v11 - (1 : Int32)) M) rfl ⟨(Nat.le_of_ble_eq_true rfl), (Nat.le_of_ble_eq_true rfl)⟩ ⟨(Nat.le_of_ble_eq_true rfl), (Nat.le_of_ble_eq_true rfl)⟩ (Nat.le_of_ble_eq_true rfl) d_M_record_29 (fun M2 => ?_)
        refine G_nmX (v11 + (1 : Int32)) (fun x3 e_x3 => ?_)
        refine G_iinc g (pc := 32) x3 _ 1 d_M_record_32 rfl e_x3.symm (Nat.le_of_ble_eq_true rfl) rfl ?_
        refine G_goto g (pc := 35) 11 d_M_record_35 (by decide) ?_
        refine G_sub [1, 0] _ rfl ?_
        exact ih11 x3 M2
      · refine G_sub [0, 1] _ rfl ?_
        exact hk11 v11 M
  · refine G_aload_n g (pc := 48) 0 d_M_record_48 rfl rfl ?_
    refine G_getR g (pc := 49) fa_M_19 (hw.mm 145 (Nat.le_of_ble_eq_true rfl) (Nat.le_of_ble_eq_true rfl)) (hw.k (zk145 rr)) (hw.r (zr145_3 rr)) d_M_record_49 ?_
    refine G_iconst g (pc := 52) (0 : Int32) d_M_record_52 rfl ?_
    refine G_aload_n g (pc := 53) 0 d_M_record_53 rfl rfl ?_
    refine G_getR g (pc := 54) fa_M_25 (hw.mm 145 (Nat.le_of_ble_eq_true rfl) (Nat.le_of_ble_eq_true rfl)) (hw.k (zk145 rr)) (hw.r (zr145_5 rr)) d_M_record_54 ?_
    refine G_aload_n g (pc := 57) 0 d_M_record_57 rfl rfl ?_
    refine G_get g (pc := 58) fa_M_186 (hw.mm 145 (Nat.le_of_ble_eq_true rfl) (Nat.le_of_ble_eq_true rfl)) (hw.k (zk145 rr)) d_M_record_58 ?_
    refine G_cSV g (pc := 61) (As := [.ref (wad w 149), .int (0 : Int32), .ref (wad w 151), .int (M 145 7)]) (st := []) cc_M_164 (c_M_copy l hw 149 (hw.mm 149 (Nat.le_of_ble_eq_true rfl) (Nat.le_of_ble_eq_true rfl)) (hw.k (zk149 rr)) (0 : Int32) 151 (hw.mm 151 (Nat.le_of_ble_eq_true rfl) (Nat.le_of_ble_eq_true rfl)) (hw.k (zk151 rr)) (M 145 7) M) rfl ⟨(Nat.le_of_ble_eq_true rfl), (Nat.le_of_ble_eq_true rfl)⟩ ⟨(Nat.le_of_ble_eq_true rfl), (Nat.le_of_ble_eq_true rfl)⟩ (Nat.le_of_ble_eq_true rfl) d_M_record_61 (fun M11 => ?_)
    refine G_aload_n g (pc := 64) 0 d_M_record_64 rfl rfl ?_
    refine G_dup g (pc := 65) d_M_record_65 rfl ?_
    refine G_get g (pc := 66) fa_M_186 (hw.mm 145 (Nat.le_of_ble_eq_true rfl) (Nat.le_of_ble_eq_true rfl)) (hw.k (zk145 rr)) d_M_record_66 ?_
    refine G_iconst g (pc := 69) (1 : Int32) d_M_record_69 rfl ?_
    refine G_iadd g (pc := 70) d_M_record_70 ?_
    refine G_put g (pc := 71) fa_M_186 fw_10_7 rfl rfl (hw.mm 145 (Nat.le_of_ble_eq_true rfl) (Nat.le_of_ble_eq_true rfl)) (hw.k (zk145 rr)) d_M_record_71 ?_
    refine G_nmM (fun M12 => ?_)
    exact G_return g (pc := 74) hret (Nat.le_of_ble_eq_true rfl) (Nat.le_of_ble_eq_true rfl) d_M_record_74

theorem d_M_ends_0 : decode b_M_ends 0 = .ok (.aload_n 0, 1) := by decide +kernel
theorem d_M_ends_1 : decode b_M_ends 1 = .ok (.iload_n 1, 1) := by decide +kernel
theorem d_M_ends_2 : decode b_M_ends 2 = .ok (.putfield 76, 3) := by decide +kernel
theorem d_M_ends_5 : decode b_M_ends 5 = .ok (.iload_n 1, 1) := by decide +kernel
theorem d_M_ends_6 : decode b_M_ends 6 = .ok (.ifCond .eq 5, 3) := by decide +kernel
theorem d_M_ends_9 : decode b_M_ends 9 = .ok (.iconst 0, 1) := by decide +kernel
theorem d_M_ends_10 : decode b_M_ends 10 = .ok (.ireturn, 1) := by decide +kernel
theorem d_M_ends_11 : decode b_M_ends 11 = .ok (.aload_n 0, 1) := by decide +kernel
theorem d_M_ends_12 : decode b_M_ends 12 = .ok (.invokevirtual 189, 3) := by decide +kernel
theorem d_M_ends_15 : decode b_M_ends 15 = .ok (.aload_n 0, 1) := by decide +kernel
theorem d_M_ends_16 : decode b_M_ends 16 = .ok (.getfield 183, 3) := by decide +kernel
theorem d_M_ends_19 : decode b_M_ends 19 = .ok (.ireturn, 1) := by decide +kernel
theorem cc_M_189 : CV "KiteLoggerModel" 189 y_M_record b_M_record 2 none 0 := ⟨TT_in (i := 1754) (by decide +kernel) (by decide +kernel), TT_in (i := 1756) (by decide +kernel) (by decide +kernel), TT_in (i := 52) (by decide +kernel) (by decide +kernel), TT_in (i := 100) (by decide +kernel) (by decide +kernel), TT_in (i := 1757) (by decide +kernel) (by decide +kernel), ⟨by decide +kernel, by decide +kernel, by decide +kernel⟩⟩
def f_M_ends (N : Nat) (rr : Nat) (a1 : Int32) (M : Mem) : Option (Int32 × Mem) :=
  nm (put M 145 8 a1) fun (M1 : Mem) => if a1 = 0 then (bndM (f_M_record N rr M1) fun (M3 : Mem) => some (M3 145 10, M3)) else (some ((0 : Int32), M1))
set_option maxHeartbeats 4000000 in
set_option maxRecDepth 100000 in
theorem c_M_ends (l : Launch) (N : Nat) {w : Wc} {rr : Nat} (hw : WM w rr) (a1 : Int32) (M : Mem) : Ct QI l y_M_ends b_M_ends 2 (some .int) (rmL 3) w [.ref (wad w 145), .int a1] M (f_M_ends N rr a1 M) := by
  refine Ct.go (by decide) (L := [(0, .ref (wad w 145)), (1, .int a1)]) rfl (Nat.le_of_ble_eq_true rfl) (fun p0 e s m args below meth c g hret => ?_)
  unfold f_M_ends
  refine G_aload_n g (pc := 0) 0 d_M_ends_0 rfl rfl ?_
  refine G_iload_n g (pc := 1) 1 d_M_ends_1 rfl rfl ?_
  refine G_put g (pc := 2) fa_M_76 fw_10_8 rfl rfl (hw.mm 145 (Nat.le_of_ble_eq_true rfl) (Nat.le_of_ble_eq_true rfl)) (hw.k (zk145 rr)) d_M_ends_2 ?_
  refine G_nmM (fun M1 => ?_)
  refine G_iload_n g (pc := 5) 1 d_M_ends_5 rfl rfl ?_
  refine G_if_eq g (pc := 6) 11 d_M_ends_6 (by decide) ?_ ?_
  · refine G_aload_n g (pc := 11) 0 d_M_ends_11 rfl rfl ?_
    refine G_cVV g (pc := 12) (As := []) (st := []) cc_M_189 (c_M_record l N hw M1) (hw.mm 145 (Nat.le_of_ble_eq_true rfl) (Nat.le_of_ble_eq_true rfl)) (hw.k (zk145 rr)) rfl (by decide) rfl ⟨(Nat.le_of_ble_eq_true rfl), (Nat.le_of_ble_eq_true rfl)⟩ ⟨(Nat.le_of_ble_eq_true rfl), (Nat.le_of_ble_eq_true rfl)⟩ (Nat.le_of_ble_eq_true rfl) d_M_ends_12 (fun M3 => ?_)
    refine G_aload_n g (pc := 15) 0 d_M_ends_15 rfl rfl ?_
    refine G_get g (pc := 16) fa_M_183 (hw.mm 145 (Nat.le_of_ble_eq_true rfl) (Nat.le_of_ble_eq_true rfl)) (hw.k (zk145 rr)) d_M_ends_16 ?_
    exact G_ireturn g (pc := 19) hret (Nat.le_of_ble_eq_true rfl) (Nat.le_of_ble_eq_true rfl) d_M_ends_19
  · refine G_iconst g (pc := 9) (0 : Int32) d_M_ends_9 rfl ?_
    exact G_ireturn g (pc := 10) hret (Nat.le_of_ble_eq_true rfl) (Nat.le_of_ble_eq_true rfl) d_M_ends_10

theorem d_M_launch_0 : decode b_M_launch 0 = .ok (.aload_n 0, 1) := by decide +kernel
theorem d_M_launch_1 : decode b_M_launch 1 = .ok (.invokevirtual 192, 3) := by decide +kernel
theorem d_M_launch_4 : decode b_M_launch 4 = .ok (.aload_n 0, 1) := by decide +kernel
theorem d_M_launch_5 : decode b_M_launch 5 = .ok (.aload_n 0, 1) := by decide +kernel
theorem d_M_launch_6 : decode b_M_launch 6 = .ok (.invokevirtual 195, 3) := by decide +kernel
theorem d_M_launch_9 : decode b_M_launch 9 = .ok (.invokevirtual 198, 3) := by decide +kernel
theorem d_M_launch_12 : decode b_M_launch 12 = .ok (.ireturn, 1) := by decide +kernel
theorem cc_M_192 : CV "KiteLoggerModel" 192 y_M_keep b_M_keep 1 none 0 := ⟨TT_in (i := 1742) (by decide +kernel) (by decide +kernel), TT_in (i := 1744) (by decide +kernel) (by decide +kernel), TT_in (i := 49) (by decide +kernel) (by decide +kernel), TT_in (i := 100) (by decide +kernel) (by decide +kernel), TT_in (i := 1745) (by decide +kernel) (by decide +kernel), ⟨by decide +kernel, by decide +kernel, by decide +kernel⟩⟩
theorem cc_M_195 : CV "KiteLoggerModel" 195 y_M_doLaunch b_M_doLaunch 1 (some .int) 0 := ⟨TT_in (i := 1746) (by decide +kernel) (by decide +kernel), TT_in (i := 1748) (by decide +kernel) (by decide +kernel), TT_in (i := 50) (by decide +kernel) (by decide +kernel), TT_in (i := 100) (by decide +kernel) (by decide +kernel), TT_in (i := 1749) (by decide +kernel) (by decide +kernel), ⟨by decide +kernel, by decide +kernel, by decide +kernel⟩⟩
theorem cc_M_198 : CV "KiteLoggerModel" 198 y_M_ends b_M_ends 2 (some .int) 1 := ⟨TT_in (i := 1750) (by decide +kernel) (by decide +kernel), TT_in (i := 1752) (by decide +kernel) (by decide +kernel), TT_in (i := 51) (by decide +kernel) (by decide +kernel), TT_in (i := 100) (by decide +kernel) (by decide +kernel), TT_in (i := 1753) (by decide +kernel) (by decide +kernel), ⟨by decide +kernel, by decide +kernel, by decide +kernel⟩⟩
def f_M_launch (N : Nat) (rr : Nat) (M : Mem) : Option (Int32 × Mem) :=
  bndM (f_M_keep M) fun (M2 : Mem) => bnd (f_M_doLaunch rr M2) fun (x3 : Int32) (M4 : Mem) => bnd (f_M_ends N rr x3 M4) fun (x5 : Int32) (M6 : Mem) => some (x5, M6)
set_option maxHeartbeats 4000000 in
set_option maxRecDepth 100000 in
theorem c_M_launch (l : Launch) (N : Nat) {w : Wc} {rr : Nat} (hw : WM w rr)  (M : Mem) : Ct QI l y_M_launch b_M_launch 1 (some .int) (rmL 4) w [.ref (wad w 145)] M (f_M_launch N rr M) := by
  refine Ct.go (by decide) (L := [(0, .ref (wad w 145))]) rfl (Nat.le_of_ble_eq_true rfl) (fun p0 e s m args below meth c g hret => ?_)
  unfold f_M_launch
  refine G_aload_n g (pc := 0) 0 d_M_launch_0 rfl rfl ?_
  refine G_cVV g (pc := 1) (As := []) (st := []) cc_M_192 (c_M_keep l hw M) (hw.mm 145 (Nat.le_of_ble_eq_true rfl) (Nat.le_of_ble_eq_true rfl)) (hw.k (zk145 rr)) rfl (by decide) rfl ⟨(Nat.le_of_ble_eq_true rfl), (Nat.le_of_ble_eq_true rfl)⟩ ⟨(Nat.le_of_ble_eq_true rfl), (Nat.le_of_ble_eq_true rfl)⟩ (Nat.le_of_ble_eq_true rfl) d_M_launch_1 (fun M2 => ?_)
  refine G_aload_n g (pc := 4) 0 d_M_launch_4 rfl rfl ?_
  refine G_aload_n g (pc := 5) 0 d_M_launch_5 rfl rfl ?_
  refine G_cVI g (pc := 6) (As := []) (st := [.ref (wad w 145)]) cc_M_195 (c_M_doLaunch l hw M2) (hw.mm 145 (Nat.le_of_ble_eq_true rfl) (Nat.le_of_ble_eq_true rfl)) (hw.k (zk145 rr)) rfl (by decide) rfl ⟨(Nat.le_of_ble_eq_true rfl), (Nat.le_of_ble_eq_true rfl)⟩ ⟨(Nat.le_of_ble_eq_true rfl), (Nat.le_of_ble_eq_true rfl)⟩ (Nat.le_of_ble_eq_true rfl) d_M_launch_6 (fun x3 M4 => ?_)
  refine G_cVI g (pc := 9) (As := [.int x3]) (st := []) cc_M_198 (c_M_ends l N hw x3 M4) (hw.mm 145 (Nat.le_of_ble_eq_true rfl) (Nat.le_of_ble_eq_true rfl)) (hw.k (zk145 rr)) rfl (by decide) rfl ⟨(Nat.le_of_ble_eq_true rfl), (Nat.le_of_ble_eq_true rfl)⟩ ⟨(Nat.le_of_ble_eq_true rfl), (Nat.le_of_ble_eq_true rfl)⟩ (Nat.le_of_ble_eq_true rfl) d_M_launch_9 (fun x5 M6 => ?_)
  exact G_ireturn g (pc := 12) hret (Nat.le_of_ble_eq_true rfl) (Nat.le_of_ble_eq_true rfl) d_M_launch_12

theorem d_M_payOut_0 : decode b_M_payOut 0 = .ok (.aload_n 0, 1) := by decide +kernel
theorem d_M_payOut_1 : decode b_M_payOut 1 = .ok (.iload_n 1, 1) := by decide +kernel
theorem d_M_payOut_2 : decode b_M_payOut 2 = .ok (.iconst 1, 1) := by decide +kernel
theorem d_M_payOut_3 : decode b_M_payOut 3 = .ok (.sipush 200, 3) := by decide +kernel
theorem d_M_payOut_6 : decode b_M_payOut 6 = .ok (.invokestatic 83, 3) := by decide +kernel
theorem d_M_payOut_9 : decode b_M_payOut 9 = .ok (.invokevirtual 87, 3) := by decide +kernel
theorem d_M_payOut_12 : decode b_M_payOut 12 = .ok (.ifCond .eq 5, 3) := by decide +kernel
theorem d_M_payOut_15 : decode b_M_payOut 15 = .ok (.iconst 0, 1) := by decide +kernel
theorem d_M_payOut_16 : decode b_M_payOut 16 = .ok (.ireturn, 1) := by decide +kernel
theorem d_M_payOut_17 : decode b_M_payOut 17 = .ok (.aload_n 0, 1) := by decide +kernel
theorem d_M_payOut_18 : decode b_M_payOut 18 = .ok (.invokevirtual 192, 3) := by decide +kernel
theorem d_M_payOut_21 : decode b_M_payOut 21 = .ok (.aload_n 0, 1) := by decide +kernel
theorem d_M_payOut_22 : decode b_M_payOut 22 = .ok (.aload_n 0, 1) := by decide +kernel
theorem d_M_payOut_23 : decode b_M_payOut 23 = .ok (.iload_n 1, 1) := by decide +kernel
theorem d_M_payOut_24 : decode b_M_payOut 24 = .ok (.invokevirtual 201, 3) := by decide +kernel
theorem d_M_payOut_27 : decode b_M_payOut 27 = .ok (.invokevirtual 198, 3) := by decide +kernel
theorem d_M_payOut_30 : decode b_M_payOut 30 = .ok (.ireturn, 1) := by decide +kernel
theorem cc_M_201 : CV "KiteLoggerModel" 201 y_M_doOut b_M_doOut 2 (some .int) 1 := ⟨TT_in (i := 1762) (by decide +kernel) (by decide +kernel), TT_in (i := 1764) (by decide +kernel) (by decide +kernel), TT_in (i := 53) (by decide +kernel) (by decide +kernel), TT_in (i := 100) (by decide +kernel) (by decide +kernel), TT_in (i := 1765) (by decide +kernel) (by decide +kernel), ⟨by decide +kernel, by decide +kernel, by decide +kernel⟩⟩
def f_M_payOut (N : Nat) (rr : Nat) (a1 : Int32) (M : Mem) : Option (Int32 × Mem) :=
  bnd (f_M_inRange a1 (1 : Int32) (200 : Int32) M) fun (x1 : Bool) (M2 : Mem) => bnd (f_M_lacks x1 M2) fun (x3 : Bool) (M4 : Mem) => if x3 = true then (some ((0 : Int32), M4)) else (bndM (f_M_keep M4) fun (M6 : Mem) => bnd (f_M_doOut rr a1 M6) fun (x7 : Int32) (M8 : Mem) => bnd (f_M_ends N rr x7 M8) fun (x9 : Int32) (M10 : Mem) => some (x9, M10))
set_option maxHeartbeats 4000000 in
set_option maxRecDepth 100000 in
theorem c_M_payOut (l : Launch) (N : Nat) {w : Wc} {rr : Nat} (hw : WM w rr) (a1 : Int32) (M : Mem) : Ct QI l y_M_payOut b_M_payOut 2 (some .int) (rmL 4) w [.ref (wad w 145), .int a1] M (f_M_payOut N rr a1 M) := by
  refine Ct.go (by decide) (L := [(0, .ref (wad w 145)), (1, .int a1)]) rfl (Nat.le_of_ble_eq_true rfl) (fun p0 e s m args below meth c g hret => ?_)
  unfold f_M_payOut
  refine G_aload_n g (pc := 0) 0 d_M_payOut_0 rfl rfl ?_
  refine G_iload_n g (pc := 1) 1 d_M_payOut_1 rfl rfl ?_
  refine G_iconst g (pc := 2) (1 : Int32) d_M_payOut_2 rfl ?_
  refine G_sipush g (pc := 3) (200 : Int32) d_M_payOut_3 rfl ?_
  refine G_cSZ g (pc := 6) (As := [.int a1, .int (1 : Int32), .int (200 : Int32)]) (st := [.ref (wad w 145)]) cc_M_83 (c_M_inRange l hw a1 (1 : Int32) (200 : Int32) M) rfl ⟨(Nat.le_of_ble_eq_true rfl), (Nat.le_of_ble_eq_true rfl)⟩ ⟨(Nat.le_of_ble_eq_true rfl), (Nat.le_of_ble_eq_true rfl)⟩ (Nat.le_of_ble_eq_true rfl) d_M_payOut_6 (fun x1 M2 => ?_)
  refine G_cVZ g (pc := 9) (As := [.int (b2i x1)]) (st := []) cc_M_87 (c_M_lacks l hw x1 M2) (hw.mm 145 (Nat.le_of_ble_eq_true rfl) (Nat.le_of_ble_eq_true rfl)) (hw.k (zk145 rr)) rfl (by decide) rfl ⟨(Nat.le_of_ble_eq_true rfl), (Nat.le_of_ble_eq_true rfl)⟩ ⟨(Nat.le_of_ble_eq_true rfl), (Nat.le_of_ble_eq_true rfl)⟩ (Nat.le_of_ble_eq_true rfl) d_M_payOut_9 (fun x3 M4 => ?_)
  refine G_if_eqB g (pc := 12) 17 d_M_payOut_12 (by decide) ?_ ?_
  · refine G_iconst g (pc := 15) (0 : Int32) d_M_payOut_15 rfl ?_
    exact G_ireturn g (pc := 16) hret (Nat.le_of_ble_eq_true rfl) (Nat.le_of_ble_eq_true rfl) d_M_payOut_16
  · refine G_aload_n g (pc := 17) 0 d_M_payOut_17 rfl rfl ?_
    refine G_cVV g (pc := 18) (As := []) (st := []) cc_M_192 (c_M_keep l hw M4) (hw.mm 145 (Nat.le_of_ble_eq_true rfl) (Nat.le_of_ble_eq_true rfl)) (hw.k (zk145 rr)) rfl (by decide) rfl ⟨(Nat.le_of_ble_eq_true rfl), (Nat.le_of_ble_eq_true rfl)⟩ ⟨(Nat.le_of_ble_eq_true rfl), (Nat.le_of_ble_eq_true rfl)⟩ (Nat.le_of_ble_eq_true rfl) d_M_payOut_18 (fun M6 => ?_)
    refine G_aload_n g (pc := 21) 0 d_M_payOut_21 rfl rfl ?_
    refine G_aload_n g (pc := 22) 0 d_M_payOut_22 rfl rfl ?_
    refine G_iload_n g (pc := 23) 1 d_M_payOut_23 rfl rfl ?_
    refine G_cVI g (pc := 24) (As := [.int a1]) (st := [.ref (wad w 145)]) cc_M_201 (c_M_doOut l hw a1 M6) (hw.mm 145 (Nat.le_of_ble_eq_true rfl) (Nat.le_of_ble_eq_true rfl)) (hw.k (zk145 rr)) rfl (by decide) rfl ⟨(Nat.le_of_ble_eq_true rfl), (Nat.le_of_ble_eq_true rfl)⟩ ⟨(Nat.le_of_ble_eq_true rfl), (Nat.le_of_ble_eq_true rfl)⟩ (Nat.le_of_ble_eq_true rfl) d_M_payOut_24 (fun x7 M8 => ?_)
    refine G_cVI g (pc := 27) (As := [.int x7]) (st := []) cc_M_198 (c_M_ends l N hw x7 M8) (hw.mm 145 (Nat.le_of_ble_eq_true rfl) (Nat.le_of_ble_eq_true rfl)) (hw.k (zk145 rr)) rfl (by decide) rfl ⟨(Nat.le_of_ble_eq_true rfl), (Nat.le_of_ble_eq_true rfl)⟩ ⟨(Nat.le_of_ble_eq_true rfl), (Nat.le_of_ble_eq_true rfl)⟩ (Nat.le_of_ble_eq_true rfl) d_M_payOut_27 (fun x9 M10 => ?_)
    exact G_ireturn g (pc := 30) hret (Nat.le_of_ble_eq_true rfl) (Nat.le_of_ble_eq_true rfl) d_M_payOut_30

theorem d_M_reelIn_0 : decode b_M_reelIn 0 = .ok (.aload_n 0, 1) := by decide +kernel
theorem d_M_reelIn_1 : decode b_M_reelIn 1 = .ok (.iload_n 1, 1) := by decide +kernel
theorem d_M_reelIn_2 : decode b_M_reelIn 2 = .ok (.iconst 1, 1) := by decide +kernel
theorem d_M_reelIn_3 : decode b_M_reelIn 3 = .ok (.sipush 200, 3) := by decide +kernel
theorem d_M_reelIn_6 : decode b_M_reelIn 6 = .ok (.invokestatic 83, 3) := by decide +kernel
theorem d_M_reelIn_9 : decode b_M_reelIn 9 = .ok (.invokevirtual 87, 3) := by decide +kernel
theorem d_M_reelIn_12 : decode b_M_reelIn 12 = .ok (.ifCond .eq 5, 3) := by decide +kernel
theorem d_M_reelIn_15 : decode b_M_reelIn 15 = .ok (.iconst 0, 1) := by decide +kernel
theorem d_M_reelIn_16 : decode b_M_reelIn 16 = .ok (.ireturn, 1) := by decide +kernel
theorem d_M_reelIn_17 : decode b_M_reelIn 17 = .ok (.aload_n 0, 1) := by decide +kernel
theorem d_M_reelIn_18 : decode b_M_reelIn 18 = .ok (.invokevirtual 192, 3) := by decide +kernel
theorem d_M_reelIn_21 : decode b_M_reelIn 21 = .ok (.aload_n 0, 1) := by decide +kernel
theorem d_M_reelIn_22 : decode b_M_reelIn 22 = .ok (.aload_n 0, 1) := by decide +kernel
theorem d_M_reelIn_23 : decode b_M_reelIn 23 = .ok (.iload_n 1, 1) := by decide +kernel
theorem d_M_reelIn_24 : decode b_M_reelIn 24 = .ok (.invokevirtual 204, 3) := by decide +kernel
theorem d_M_reelIn_27 : decode b_M_reelIn 27 = .ok (.invokevirtual 198, 3) := by decide +kernel
theorem d_M_reelIn_30 : decode b_M_reelIn 30 = .ok (.ireturn, 1) := by decide +kernel
theorem cc_M_204 : CV "KiteLoggerModel" 204 y_M_doIn b_M_doIn 2 (some .int) 1 := ⟨TT_in (i := 1770) (by decide +kernel) (by decide +kernel), TT_in (i := 1772) (by decide +kernel) (by decide +kernel), TT_in (i := 54) (by decide +kernel) (by decide +kernel), TT_in (i := 100) (by decide +kernel) (by decide +kernel), TT_in (i := 1773) (by decide +kernel) (by decide +kernel), ⟨by decide +kernel, by decide +kernel, by decide +kernel⟩⟩
def f_M_reelIn (N : Nat) (rr : Nat) (a1 : Int32) (M : Mem) : Option (Int32 × Mem) :=
  bnd (f_M_inRange a1 (1 : Int32) (200 : Int32) M) fun (x1 : Bool) (M2 : Mem) => bnd (f_M_lacks x1 M2) fun (x3 : Bool) (M4 : Mem) => if x3 = true then (some ((0 : Int32), M4)) else (bndM (f_M_keep M4) fun (M6 : Mem) => bnd (f_M_doIn rr a1 M6) fun (x7 : Int32) (M8 : Mem) => bnd (f_M_ends N rr x7 M8) fun (x9 : Int32) (M10 : Mem) => some (x9, M10))
set_option maxHeartbeats 4000000 in
set_option maxRecDepth 100000 in
theorem c_M_reelIn (l : Launch) (N : Nat) {w : Wc} {rr : Nat} (hw : WM w rr) (a1 : Int32) (M : Mem) : Ct QI l y_M_reelIn b_M_reelIn 2 (some .int) (rmL 4) w [.ref (wad w 145), .int a1] M (f_M_reelIn N rr a1 M) := by
  refine Ct.go (by decide) (L := [(0, .ref (wad w 145)), (1, .int a1)]) rfl (Nat.le_of_ble_eq_true rfl) (fun p0 e s m args below meth c g hret => ?_)
  unfold f_M_reelIn
  refine G_aload_n g (pc := 0) 0 d_M_reelIn_0 rfl rfl ?_
  refine G_iload_n g (pc := 1) 1 d_M_reelIn_1 rfl rfl ?_
  refine G_iconst g (pc := 2) (1 : Int32) d_M_reelIn_2 rfl ?_
  refine G_sipush g (pc := 3) (200 : Int32) d_M_reelIn_3 rfl ?_
  refine G_cSZ g (pc := 6) (As := [.int a1, .int (1 : Int32), .int (200 : Int32)]) (st := [.ref (wad w 145)]) cc_M_83 (c_M_inRange l hw a1 (1 : Int32) (200 : Int32) M) rfl ⟨(Nat.le_of_ble_eq_true rfl), (Nat.le_of_ble_eq_true rfl)⟩ ⟨(Nat.le_of_ble_eq_true rfl), (Nat.le_of_ble_eq_true rfl)⟩ (Nat.le_of_ble_eq_true rfl) d_M_reelIn_6 (fun x1 M2 => ?_)
  refine G_cVZ g (pc := 9) (As := [.int (b2i x1)]) (st := []) cc_M_87 (c_M_lacks l hw x1 M2) (hw.mm 145 (Nat.le_of_ble_eq_true rfl) (Nat.le_of_ble_eq_true rfl)) (hw.k (zk145 rr)) rfl (by decide) rfl ⟨(Nat.le_of_ble_eq_true rfl), (Nat.le_of_ble_eq_true rfl)⟩ ⟨(Nat.le_of_ble_eq_true rfl), (Nat.le_of_ble_eq_true rfl)⟩ (Nat.le_of_ble_eq_true rfl) d_M_reelIn_9 (fun x3 M4 => ?_)
  refine G_if_eqB g (pc := 12) 17 d_M_reelIn_12 (by decide) ?_ ?_
  · refine G_iconst g (pc := 15) (0 : Int32) d_M_reelIn_15 rfl ?_
    exact G_ireturn g (pc := 16) hret (Nat.le_of_ble_eq_true rfl) (Nat.le_of_ble_eq_true rfl) d_M_reelIn_16
  · refine G_aload_n g (pc := 17) 0 d_M_reelIn_17 rfl rfl ?_
    refine G_cVV g (pc := 18) (As := []) (st := []) cc_M_192 (c_M_keep l hw M4) (hw.mm 145 (Nat.le_of_ble_eq_true rfl) (Nat.le_of_ble_eq_true rfl)) (hw.k (zk145 rr)) rfl (by decide) rfl ⟨(Nat.le_of_ble_eq_true rfl), (Nat.le_of_ble_eq_true rfl)⟩ ⟨(Nat.le_of_ble_eq_true rfl), (Nat.le_of_ble_eq_true rfl)⟩ (Nat.le_of_ble_eq_true rfl) d_M_reelIn_18 (fun M6 => ?_)
    refine G_aload_n g (pc := 21) 0 d_M_reelIn_21 rfl rfl ?_
    refine G_aload_n g (pc := 22) 0 d_M_reelIn_22 rfl rfl ?_
    refine G_iload_n g (pc := 23) 1 d_M_reelIn_23 rfl rfl ?_
    refine G_cVI g (pc := 24) (As := [.int a1]) (st := [.ref (wad w 145)]) cc_M_204 (c_M_doIn l hw a1 M6) (hw.mm 145 (Nat.le_of_ble_eq_true rfl) (Nat.le_of_ble_eq_true rfl)) (hw.k (zk145 rr)) rfl (by decide) rfl ⟨(Nat.le_of_ble_eq_true rfl), (Nat.le_of_ble_eq_true rfl)⟩ ⟨(Nat.le_of_ble_eq_true rfl), (Nat.le_of_ble_eq_true rfl)⟩ (Nat.le_of_ble_eq_true rfl) d_M_reelIn_24 (fun x7 M8 => ?_)
    refine G_cVI g (pc := 27) (As := [.int x7]) (st := []) cc_M_198 (c_M_ends l N hw x7 M8) (hw.mm 145 (Nat.le_of_ble_eq_true rfl) (Nat.le_of_ble_eq_true rfl)) (hw.k (zk145 rr)) rfl (by decide) rfl ⟨(Nat.le_of_ble_eq_true rfl), (Nat.le_of_ble_eq_true rfl)⟩ ⟨(Nat.le_of_ble_eq_true rfl), (Nat.le_of_ble_eq_true rfl)⟩ (Nat.le_of_ble_eq_true rfl) d_M_reelIn_27 (fun x9 M10 => ?_)
    exact G_ireturn g (pc := 30) hret (Nat.le_of_ble_eq_true rfl) (Nat.le_of_ble_eq_true rfl) d_M_reelIn_30

theorem d_M_replaceBridle_0 : decode b_M_replaceBridle 0 = .ok (.aload_n 0, 1) := by decide +kernel
theorem d_M_replaceBridle_1 : decode b_M_replaceBridle 1 = .ok (.iload_n 1, 1) := by decide +kernel
theorem d_M_replaceBridle_2 : decode b_M_replaceBridle 2 = .ok (.iconst 1, 1) := by decide +kernel
theorem d_M_replaceBridle_3 : decode b_M_replaceBridle 3 = .ok (.sipush 999, 3) := by decide +kernel
theorem d_M_replaceBridle_6 : decode b_M_replaceBridle 6 = .ok (.invokestatic 83, 3) := by decide +kernel
theorem d_M_replaceBridle_9 : decode b_M_replaceBridle 9 = .ok (.ifCond .eq 18, 3) := by decide +kernel
theorem d_M_replaceBridle_12 : decode b_M_replaceBridle 12 = .ok (.iload_n 2, 1) := by decide +kernel
theorem d_M_replaceBridle_13 : decode b_M_replaceBridle 13 = .ok (.iconst 1, 1) := by decide +kernel
theorem d_M_replaceBridle_14 : decode b_M_replaceBridle 14 = .ok (.sipush 9999, 3) := by decide +kernel
theorem d_M_replaceBridle_17 : decode b_M_replaceBridle 17 = .ok (.invokestatic 83, 3) := by decide +kernel
theorem d_M_replaceBridle_20 : decode b_M_replaceBridle 20 = .ok (.ifCond .eq 7, 3) := by decide +kernel
theorem d_M_replaceBridle_23 : decode b_M_replaceBridle 23 = .ok (.iconst 1, 1) := by decide +kernel
theorem d_M_replaceBridle_24 : decode b_M_replaceBridle 24 = .ok (.goto 4, 3) := by decide +kernel
theorem d_M_replaceBridle_27 : decode b_M_replaceBridle 27 = .ok (.iconst 0, 1) := by decide +kernel
theorem d_M_replaceBridle_28 : decode b_M_replaceBridle 28 = .ok (.invokevirtual 87, 3) := by decide +kernel
theorem d_M_replaceBridle_31 : decode b_M_replaceBridle 31 = .ok (.ifCond .eq 5, 3) := by decide +kernel
theorem d_M_replaceBridle_34 : decode b_M_replaceBridle 34 = .ok (.iconst 0, 1) := by decide +kernel
theorem d_M_replaceBridle_35 : decode b_M_replaceBridle 35 = .ok (.ireturn, 1) := by decide +kernel
theorem d_M_replaceBridle_36 : decode b_M_replaceBridle 36 = .ok (.aload_n 0, 1) := by decide +kernel
theorem d_M_replaceBridle_37 : decode b_M_replaceBridle 37 = .ok (.invokevirtual 192, 3) := by decide +kernel
theorem d_M_replaceBridle_40 : decode b_M_replaceBridle 40 = .ok (.aload_n 0, 1) := by decide +kernel
theorem d_M_replaceBridle_41 : decode b_M_replaceBridle 41 = .ok (.aload_n 0, 1) := by decide +kernel
theorem d_M_replaceBridle_42 : decode b_M_replaceBridle 42 = .ok (.iload_n 1, 1) := by decide +kernel
theorem d_M_replaceBridle_43 : decode b_M_replaceBridle 43 = .ok (.iload_n 2, 1) := by decide +kernel
theorem d_M_replaceBridle_44 : decode b_M_replaceBridle 44 = .ok (.invokevirtual 207, 3) := by decide +kernel
theorem d_M_replaceBridle_47 : decode b_M_replaceBridle 47 = .ok (.invokevirtual 198, 3) := by decide +kernel
theorem d_M_replaceBridle_50 : decode b_M_replaceBridle 50 = .ok (.ireturn, 1) := by decide +kernel
theorem cc_M_207 : CV "KiteLoggerModel" 207 y_M_doBridle b_M_doBridle 3 (some .int) 2 := ⟨TT_in (i := 1778) (by decide +kernel) (by decide +kernel), TT_in (i := 1780) (by decide +kernel) (by decide +kernel), TT_in (i := 55) (by decide +kernel) (by decide +kernel), TT_in (i := 100) (by decide +kernel) (by decide +kernel), TT_in (i := 1781) (by decide +kernel) (by decide +kernel), ⟨by decide +kernel, by decide +kernel, by decide +kernel⟩⟩
def f_M_replaceBridle (N : Nat) (rr : Nat) (a1 : Int32) (a2 : Int32) (M : Mem) : Option (Int32 × Mem) :=
  bnd (f_M_inRange a1 (1 : Int32) (999 : Int32) M) fun (x1 : Bool) (M2 : Mem) => jn (fun (x4 : Bool) (M5 : Mem) => bnd (f_M_lacks x4 M5) fun (x6 : Bool) (M7 : Mem) => if x6 = true then (some ((0 : Int32), M7)) else (bndM (f_M_keep M7) fun (M9 : Mem) => bnd (f_M_doBridle rr a1 a2 M9) fun (x10 : Int32) (M11 : Mem) => bnd (f_M_ends N rr x10 M11) fun (x12 : Int32) (M13 : Mem) => some (x12, M13))) (fun j3 => if x1 = true then (bnd (f_M_inRange a2 (1 : Int32) (9999 : Int32) M2) fun (x14 : Bool) (M15 : Mem) => if x14 = true then (j3 true M15) else (j3 false M15)) else (j3 false M2))
set_option maxHeartbeats 4000000 in
set_option maxRecDepth 100000 in
theorem c_M_replaceBridle (l : Launch) (N : Nat) {w : Wc} {rr : Nat} (hw : WM w rr) (a1 : Int32) (a2 : Int32) (M : Mem) : Ct QI l y_M_replaceBridle b_M_replaceBridle 3 (some .int) (rmL 4) w [.ref (wad w 145), .int a1, .int a2] M (f_M_replaceBridle N rr a1 a2 M) := by
  refine Ct.go (by decide) (L := [(0, .ref (wad w 145)), (1, .int a1), (2, .int a2)]) rfl (Nat.le_of_ble_eq_true rfl) (fun p0 e s m args below meth c g hret => ?_)
  unfold f_M_replaceBridle
  refine G_aload_n g (pc := 0) 0 d_M_replaceBridle_0 rfl rfl ?_
  refine G_iload_n g (pc := 1) 1 d_M_replaceBridle_1 rfl rfl ?_
  refine G_iconst g (pc := 2) (1 : Int32) d_M_replaceBridle_2 rfl ?_
  refine G_sipush g (pc := 3) (999 : Int32) d_M_replaceBridle_3 rfl ?_
  refine G_cSZ g (pc := 6) (As := [.int a1, .int (1 : Int32), .int (999 : Int32)]) (st := [.ref (wad w 145)]) cc_M_83 (c_M_inRange l hw a1 (1 : Int32) (999 : Int32) M) rfl ⟨(Nat.le_of_ble_eq_true rfl), (Nat.le_of_ble_eq_true rfl)⟩ ⟨(Nat.le_of_ble_eq_true rfl), (Nat.le_of_ble_eq_true rfl)⟩ (Nat.le_of_ble_eq_true rfl) d_M_replaceBridle_6 (fun x1 M2 => ?_)
  refine G_jn 28 (fun _ => [(0, .ref (wad w 145)), (1, .int a1), (2, .int a2)]) (fun (x4 : Bool) => [.int (b2i x4), .ref (wad w 145)]) (fun x4 M5 => ?_) (fun j3 hj3 => ?_)
  · refine G_cVZ g (pc := 28) (As := [.int (b2i x4)]) (st := []) cc_M_87 (c_M_lacks l hw x4 M5) (hw.mm 145 (Nat.le_of_ble_eq_true rfl) (Nat.le_of_ble_eq_true rfl)) (hw.k (zk145 rr)) rfl (by decide) rfl ⟨(Nat.le_of_ble_eq_true rfl), (Nat.le_of_ble_eq_true rfl)⟩ ⟨(Nat.le_of_ble_eq_true rfl), (Nat.le_of_ble_eq_true rfl)⟩ (Nat.le_of_ble_eq_true rfl) d_M_replaceBridle_28 (fun x6 M7 => ?_)
    refine G_if_eqB g (pc := 31) 36 d_M_replaceBridle_31 (by decide) ?_ ?_
    · refine G_iconst g (pc := 34) (0 : Int32) d_M_replaceBridle_34 rfl ?_
      exact G_ireturn g (pc := 35) hret (Nat.le_of_ble_eq_true rfl) (Nat.le_of_ble_eq_true rfl) d_M_replaceBridle_35
    · refine G_aload_n g (pc := 36) 0 d_M_replaceBridle_36 rfl rfl ?_
      refine G_cVV g (pc := 37) (As := []) (st := []) cc_M_192 (c_M_keep l hw M7) (hw.mm 145 (Nat.le_of_ble_eq_true rfl) (Nat.le_of_ble_eq_true rfl)) (hw.k (zk145 rr)) rfl (by decide) rfl ⟨(Nat.le_of_ble_eq_true rfl), (Nat.le_of_ble_eq_true rfl)⟩ ⟨(Nat.le_of_ble_eq_true rfl), (Nat.le_of_ble_eq_true rfl)⟩ (Nat.le_of_ble_eq_true rfl) d_M_replaceBridle_37 (fun M9 => ?_)
      refine G_aload_n g (pc := 40) 0 d_M_replaceBridle_40 rfl rfl ?_
      refine G_aload_n g (pc := 41) 0 d_M_replaceBridle_41 rfl rfl ?_
      refine G_iload_n g (pc := 42) 1 d_M_replaceBridle_42 rfl rfl ?_
      refine G_iload_n g (pc := 43) 2 d_M_replaceBridle_43 rfl rfl ?_
      refine G_cVI g (pc := 44) (As := [.int a1, .int a2]) (st := [.ref (wad w 145)]) cc_M_207 (c_M_doBridle l hw a1 a2 M9) (hw.mm 145 (Nat.le_of_ble_eq_true rfl) (Nat.le_of_ble_eq_true rfl)) (hw.k (zk145 rr)) rfl (by decide) rfl ⟨(Nat.le_of_ble_eq_true rfl), (Nat.le_of_ble_eq_true rfl)⟩ ⟨(Nat.le_of_ble_eq_true rfl), (Nat.le_of_ble_eq_true rfl)⟩ (Nat.le_of_ble_eq_true rfl) d_M_replaceBridle_44 (fun x10 M11 => ?_)
      refine G_cVI g (pc := 47) (As := [.int x10]) (st := []) cc_M_198 (c_M_ends l N hw x10 M11) (hw.mm 145 (Nat.le_of_ble_eq_true rfl) (Nat.le_of_ble_eq_true rfl)) (hw.k (zk145 rr)) rfl (by decide) rfl ⟨(Nat.le_of_ble_eq_true rfl), (Nat.le_of_ble_eq_true rfl)⟩ ⟨(Nat.le_of_ble_eq_true rfl), (Nat.le_of_ble_eq_true rfl)⟩ (Nat.le_of_ble_eq_true rfl) d_M_replaceBridle_47 (fun x12 M13 => ?_)
      exact G_ireturn g (pc := 50) hret (Nat.le_of_ble_eq_true rfl) (Nat.le_of_ble_eq_true rfl) d_M_replaceBridle_50
  · refine G_if_eqB g (pc := 9) 27 d_M_replaceBridle_9 (by decide) ?_ ?_
    · refine G_iload_n g (pc := 12) 2 d_M_replaceBridle_12 rfl rfl ?_
      refine G_iconst g (pc := 13) (1 : Int32) d_M_replaceBridle_13 rfl ?_
      refine G_sipush g (pc := 14) (9999 : Int32) d_M_replaceBridle_14 rfl ?_
      refine G_cSZ g (pc := 17) (As := [.int a2, .int (1 : Int32), .int (9999 : Int32)]) (st := [.ref (wad w 145)]) cc_M_83 (c_M_inRange l hw a2 (1 : Int32) (9999 : Int32) M2) rfl ⟨(Nat.le_of_ble_eq_true rfl), (Nat.le_of_ble_eq_true rfl)⟩ ⟨(Nat.le_of_ble_eq_true rfl), (Nat.le_of_ble_eq_true rfl)⟩ (Nat.le_of_ble_eq_true rfl) d_M_replaceBridle_17 (fun x14 M15 => ?_)
      refine G_if_eqB g (pc := 20) 27 d_M_replaceBridle_20 (by decide) ?_ ?_
      · refine G_iconst g (pc := 23) (1 : Int32) d_M_replaceBridle_23 rfl ?_
        refine G_goto g (pc := 24) 28 d_M_replaceBridle_24 (by decide) ?_
        refine G_sub [0, 1, 2] _ rfl ?_
        exact hj3 true M15
      · refine G_iconst g (pc := 27) (0 : Int32) d_M_replaceBridle_27 rfl ?_
        refine G_sub [0, 1, 2] _ rfl ?_
        exact hj3 false M15
    · refine G_iconst g (pc := 27) (0 : Int32) d_M_replaceBridle_27 rfl ?_
      refine G_sub [0, 1, 2] _ rfl ?_
      exact hj3 false M2

theorem d_M_setInterval_0 : decode b_M_setInterval 0 = .ok (.aload_n 0, 1) := by decide +kernel
theorem d_M_setInterval_1 : decode b_M_setInterval 1 = .ok (.iload_n 1, 1) := by decide +kernel
theorem d_M_setInterval_2 : decode b_M_setInterval 2 = .ok (.iconst 1, 1) := by decide +kernel
theorem d_M_setInterval_3 : decode b_M_setInterval 3 = .ok (.bipush 20, 2) := by decide +kernel
theorem d_M_setInterval_5 : decode b_M_setInterval 5 = .ok (.invokestatic 83, 3) := by decide +kernel
theorem d_M_setInterval_8 : decode b_M_setInterval 8 = .ok (.invokevirtual 87, 3) := by decide +kernel
theorem d_M_setInterval_11 : decode b_M_setInterval 11 = .ok (.ifCond .eq 5, 3) := by decide +kernel
theorem d_M_setInterval_14 : decode b_M_setInterval 14 = .ok (.iconst 0, 1) := by decide +kernel
theorem d_M_setInterval_15 : decode b_M_setInterval 15 = .ok (.ireturn, 1) := by decide +kernel
theorem d_M_setInterval_16 : decode b_M_setInterval 16 = .ok (.aload_n 0, 1) := by decide +kernel
theorem d_M_setInterval_17 : decode b_M_setInterval 17 = .ok (.invokevirtual 192, 3) := by decide +kernel
theorem d_M_setInterval_20 : decode b_M_setInterval 20 = .ok (.aload_n 0, 1) := by decide +kernel
theorem d_M_setInterval_21 : decode b_M_setInterval 21 = .ok (.aload_n 0, 1) := by decide +kernel
theorem d_M_setInterval_22 : decode b_M_setInterval 22 = .ok (.iload_n 1, 1) := by decide +kernel
theorem d_M_setInterval_23 : decode b_M_setInterval 23 = .ok (.invokevirtual 210, 3) := by decide +kernel
theorem d_M_setInterval_26 : decode b_M_setInterval 26 = .ok (.invokevirtual 198, 3) := by decide +kernel
theorem d_M_setInterval_29 : decode b_M_setInterval 29 = .ok (.ireturn, 1) := by decide +kernel
theorem cc_M_210 : CV "KiteLoggerModel" 210 y_M_doEvery b_M_doEvery 2 (some .int) 1 := ⟨TT_in (i := 1786) (by decide +kernel) (by decide +kernel), TT_in (i := 1788) (by decide +kernel) (by decide +kernel), TT_in (i := 56) (by decide +kernel) (by decide +kernel), TT_in (i := 100) (by decide +kernel) (by decide +kernel), TT_in (i := 1789) (by decide +kernel) (by decide +kernel), ⟨by decide +kernel, by decide +kernel, by decide +kernel⟩⟩
def f_M_setInterval (N : Nat) (rr : Nat) (a1 : Int32) (M : Mem) : Option (Int32 × Mem) :=
  bnd (f_M_inRange a1 (1 : Int32) (20 : Int32) M) fun (x1 : Bool) (M2 : Mem) => bnd (f_M_lacks x1 M2) fun (x3 : Bool) (M4 : Mem) => if x3 = true then (some ((0 : Int32), M4)) else (bndM (f_M_keep M4) fun (M6 : Mem) => bnd (f_M_doEvery rr a1 M6) fun (x7 : Int32) (M8 : Mem) => bnd (f_M_ends N rr x7 M8) fun (x9 : Int32) (M10 : Mem) => some (x9, M10))
set_option maxHeartbeats 4000000 in
set_option maxRecDepth 100000 in
theorem c_M_setInterval (l : Launch) (N : Nat) {w : Wc} {rr : Nat} (hw : WM w rr) (a1 : Int32) (M : Mem) : Ct QI l y_M_setInterval b_M_setInterval 2 (some .int) (rmL 4) w [.ref (wad w 145), .int a1] M (f_M_setInterval N rr a1 M) := by
  refine Ct.go (by decide) (L := [(0, .ref (wad w 145)), (1, .int a1)]) rfl (Nat.le_of_ble_eq_true rfl) (fun p0 e s m args below meth c g hret => ?_)
  unfold f_M_setInterval
  refine G_aload_n g (pc := 0) 0 d_M_setInterval_0 rfl rfl ?_
  refine G_iload_n g (pc := 1) 1 d_M_setInterval_1 rfl rfl ?_
  refine G_iconst g (pc := 2) (1 : Int32) d_M_setInterval_2 rfl ?_
  refine G_bipush g (pc := 3) (20 : Int32) d_M_setInterval_3 rfl ?_
  refine G_cSZ g (pc := 5) (As := [.int a1, .int (1 : Int32), .int (20 : Int32)]) (st := [.ref (wad w 145)]) cc_M_83 (c_M_inRange l hw a1 (1 : Int32) (20 : Int32) M) rfl ⟨(Nat.le_of_ble_eq_true rfl), (Nat.le_of_ble_eq_true rfl)⟩ ⟨(Nat.le_of_ble_eq_true rfl), (Nat.le_of_ble_eq_true rfl)⟩ (Nat.le_of_ble_eq_true rfl) d_M_setInterval_5 (fun x1 M2 => ?_)
  refine G_cVZ g (pc := 8) (As := [.int (b2i x1)]) (st := []) cc_M_87 (c_M_lacks l hw x1 M2) (hw.mm 145 (Nat.le_of_ble_eq_true rfl) (Nat.le_of_ble_eq_true rfl)) (hw.k (zk145 rr)) rfl (by decide) rfl ⟨(Nat.le_of_ble_eq_true rfl), (Nat.le_of_ble_eq_true rfl)⟩ ⟨(Nat.le_of_ble_eq_true rfl), (Nat.le_of_ble_eq_true rfl)⟩ (Nat.le_of_ble_eq_true rfl) d_M_setInterval_8 (fun x3 M4 => ?_)
  refine G_if_eqB g (pc := 11) 16 d_M_setInterval_11 (by decide) ?_ ?_
  · refine G_iconst g (pc := 14) (0 : Int32) d_M_setInterval_14 rfl ?_
    exact G_ireturn g (pc := 15) hret (Nat.le_of_ble_eq_true rfl) (Nat.le_of_ble_eq_true rfl) d_M_setInterval_15
  · refine G_aload_n g (pc := 16) 0 d_M_setInterval_16 rfl rfl ?_
    refine G_cVV g (pc := 17) (As := []) (st := []) cc_M_192 (c_M_keep l hw M4) (hw.mm 145 (Nat.le_of_ble_eq_true rfl) (Nat.le_of_ble_eq_true rfl)) (hw.k (zk145 rr)) rfl (by decide) rfl ⟨(Nat.le_of_ble_eq_true rfl), (Nat.le_of_ble_eq_true rfl)⟩ ⟨(Nat.le_of_ble_eq_true rfl), (Nat.le_of_ble_eq_true rfl)⟩ (Nat.le_of_ble_eq_true rfl) d_M_setInterval_17 (fun M6 => ?_)
    refine G_aload_n g (pc := 20) 0 d_M_setInterval_20 rfl rfl ?_
    refine G_aload_n g (pc := 21) 0 d_M_setInterval_21 rfl rfl ?_
    refine G_iload_n g (pc := 22) 1 d_M_setInterval_22 rfl rfl ?_
    refine G_cVI g (pc := 23) (As := [.int a1]) (st := [.ref (wad w 145)]) cc_M_210 (c_M_doEvery l hw a1 M6) (hw.mm 145 (Nat.le_of_ble_eq_true rfl) (Nat.le_of_ble_eq_true rfl)) (hw.k (zk145 rr)) rfl (by decide) rfl ⟨(Nat.le_of_ble_eq_true rfl), (Nat.le_of_ble_eq_true rfl)⟩ ⟨(Nat.le_of_ble_eq_true rfl), (Nat.le_of_ble_eq_true rfl)⟩ (Nat.le_of_ble_eq_true rfl) d_M_setInterval_23 (fun x7 M8 => ?_)
    refine G_cVI g (pc := 26) (As := [.int x7]) (st := []) cc_M_198 (c_M_ends l N hw x7 M8) (hw.mm 145 (Nat.le_of_ble_eq_true rfl) (Nat.le_of_ble_eq_true rfl)) (hw.k (zk145 rr)) rfl (by decide) rfl ⟨(Nat.le_of_ble_eq_true rfl), (Nat.le_of_ble_eq_true rfl)⟩ ⟨(Nat.le_of_ble_eq_true rfl), (Nat.le_of_ble_eq_true rfl)⟩ (Nat.le_of_ble_eq_true rfl) d_M_setInterval_26 (fun x9 M10 => ?_)
    exact G_ireturn g (pc := 29) hret (Nat.le_of_ble_eq_true rfl) (Nat.le_of_ble_eq_true rfl) d_M_setInterval_29

theorem d_M_search_0 : decode b_M_search 0 = .ok (.aload_n 0, 1) := by decide +kernel
theorem d_M_search_1 : decode b_M_search 1 = .ok (.iload_n 1, 1) := by decide +kernel
theorem d_M_search_2 : decode b_M_search 2 = .ok (.iconst 0, 1) := by decide +kernel
theorem d_M_search_3 : decode b_M_search 3 = .ok (.sipush 2200, 3) := by decide +kernel
theorem d_M_search_6 : decode b_M_search 6 = .ok (.invokestatic 83, 3) := by decide +kernel
theorem d_M_search_9 : decode b_M_search 9 = .ok (.invokevirtual 87, 3) := by decide +kernel
theorem d_M_search_12 : decode b_M_search 12 = .ok (.ifCond .eq 5, 3) := by decide +kernel
theorem d_M_search_15 : decode b_M_search 15 = .ok (.iconst 0, 1) := by decide +kernel
theorem d_M_search_16 : decode b_M_search 16 = .ok (.ireturn, 1) := by decide +kernel
theorem d_M_search_17 : decode b_M_search 17 = .ok (.aload_n 0, 1) := by decide +kernel
theorem d_M_search_18 : decode b_M_search 18 = .ok (.invokevirtual 192, 3) := by decide +kernel
theorem d_M_search_21 : decode b_M_search 21 = .ok (.aload_n 0, 1) := by decide +kernel
theorem d_M_search_22 : decode b_M_search 22 = .ok (.aload_n 0, 1) := by decide +kernel
theorem d_M_search_23 : decode b_M_search 23 = .ok (.iload_n 1, 1) := by decide +kernel
theorem d_M_search_24 : decode b_M_search 24 = .ok (.invokevirtual 213, 3) := by decide +kernel
theorem d_M_search_27 : decode b_M_search 27 = .ok (.invokevirtual 198, 3) := by decide +kernel
theorem d_M_search_30 : decode b_M_search 30 = .ok (.ireturn, 1) := by decide +kernel
theorem cc_M_213 : CV "KiteLoggerModel" 213 y_M_doSearch b_M_doSearch 4 (some .int) 1 := ⟨TT_in (i := 1794) (by decide +kernel) (by decide +kernel), TT_in (i := 1796) (by decide +kernel) (by decide +kernel), TT_in (i := 57) (by decide +kernel) (by decide +kernel), TT_in (i := 100) (by decide +kernel) (by decide +kernel), TT_in (i := 1797) (by decide +kernel) (by decide +kernel), ⟨by decide +kernel, by decide +kernel, by decide +kernel⟩⟩
def f_M_search (N : Nat) (rr : Nat) (a1 : Int32) (M : Mem) : Option (Int32 × Mem) :=
  bnd (f_M_inRange a1 (0 : Int32) (2200 : Int32) M) fun (x1 : Bool) (M2 : Mem) => bnd (f_M_lacks x1 M2) fun (x3 : Bool) (M4 : Mem) => if x3 = true then (some ((0 : Int32), M4)) else (bndM (f_M_keep M4) fun (M6 : Mem) => bnd (f_M_doSearch rr a1 M6) fun (x7 : Int32) (M8 : Mem) => bnd (f_M_ends N rr x7 M8) fun (x9 : Int32) (M10 : Mem) => some (x9, M10))
set_option maxHeartbeats 4000000 in
set_option maxRecDepth 100000 in
theorem c_M_search (l : Launch) (N : Nat) {w : Wc} {rr : Nat} (hw : WM w rr) (a1 : Int32) (M : Mem) : Ct QI l y_M_search b_M_search 2 (some .int) (rmL 4) w [.ref (wad w 145), .int a1] M (f_M_search N rr a1 M) := by
  refine Ct.go (by decide) (L := [(0, .ref (wad w 145)), (1, .int a1)]) rfl (Nat.le_of_ble_eq_true rfl) (fun p0 e s m args below meth c g hret => ?_)
  unfold f_M_search
  refine G_aload_n g (pc := 0) 0 d_M_search_0 rfl rfl ?_
  refine G_iload_n g (pc := 1) 1 d_M_search_1 rfl rfl ?_
  refine G_iconst g (pc := 2) (0 : Int32) d_M_search_2 rfl ?_
  refine G_sipush g (pc := 3) (2200 : Int32) d_M_search_3 rfl ?_
  refine G_cSZ g (pc := 6) (As := [.int a1, .int (0 : Int32), .int (2200 : Int32)]) (st := [.ref (wad w 145)]) cc_M_83 (c_M_inRange l hw a1 (0 : Int32) (2200 : Int32) M) rfl ⟨(Nat.le_of_ble_eq_true rfl), (Nat.le_of_ble_eq_true rfl)⟩ ⟨(Nat.le_of_ble_eq_true rfl), (Nat.le_of_ble_eq_true rfl)⟩ (Nat.le_of_ble_eq_true rfl) d_M_search_6 (fun x1 M2 => ?_)
  refine G_cVZ g (pc := 9) (As := [.int (b2i x1)]) (st := []) cc_M_87 (c_M_lacks l hw x1 M2) (hw.mm 145 (Nat.le_of_ble_eq_true rfl) (Nat.le_of_ble_eq_true rfl)) (hw.k (zk145 rr)) rfl (by decide) rfl ⟨(Nat.le_of_ble_eq_true rfl), (Nat.le_of_ble_eq_true rfl)⟩ ⟨(Nat.le_of_ble_eq_true rfl), (Nat.le_of_ble_eq_true rfl)⟩ (Nat.le_of_ble_eq_true rfl) d_M_search_9 (fun x3 M4 => ?_)
  refine G_if_eqB g (pc := 12) 17 d_M_search_12 (by decide) ?_ ?_
  · refine G_iconst g (pc := 15) (0 : Int32) d_M_search_15 rfl ?_
    exact G_ireturn g (pc := 16) hret (Nat.le_of_ble_eq_true rfl) (Nat.le_of_ble_eq_true rfl) d_M_search_16
  · refine G_aload_n g (pc := 17) 0 d_M_search_17 rfl rfl ?_
    refine G_cVV g (pc := 18) (As := []) (st := []) cc_M_192 (c_M_keep l hw M4) (hw.mm 145 (Nat.le_of_ble_eq_true rfl) (Nat.le_of_ble_eq_true rfl)) (hw.k (zk145 rr)) rfl (by decide) rfl ⟨(Nat.le_of_ble_eq_true rfl), (Nat.le_of_ble_eq_true rfl)⟩ ⟨(Nat.le_of_ble_eq_true rfl), (Nat.le_of_ble_eq_true rfl)⟩ (Nat.le_of_ble_eq_true rfl) d_M_search_18 (fun M6 => ?_)
    refine G_aload_n g (pc := 21) 0 d_M_search_21 rfl rfl ?_
    refine G_aload_n g (pc := 22) 0 d_M_search_22 rfl rfl ?_
    refine G_iload_n g (pc := 23) 1 d_M_search_23 rfl rfl ?_
    refine G_cVI g (pc := 24) (As := [.int a1]) (st := [.ref (wad w 145)]) cc_M_213 (c_M_doSearch l hw a1 M6) (hw.mm 145 (Nat.le_of_ble_eq_true rfl) (Nat.le_of_ble_eq_true rfl)) (hw.k (zk145 rr)) rfl (by decide) rfl ⟨(Nat.le_of_ble_eq_true rfl), (Nat.le_of_ble_eq_true rfl)⟩ ⟨(Nat.le_of_ble_eq_true rfl), (Nat.le_of_ble_eq_true rfl)⟩ (Nat.le_of_ble_eq_true rfl) d_M_search_24 (fun x7 M8 => ?_)
    refine G_cVI g (pc := 27) (As := [.int x7]) (st := []) cc_M_198 (c_M_ends l N hw x7 M8) (hw.mm 145 (Nat.le_of_ble_eq_true rfl) (Nat.le_of_ble_eq_true rfl)) (hw.k (zk145 rr)) rfl (by decide) rfl ⟨(Nat.le_of_ble_eq_true rfl), (Nat.le_of_ble_eq_true rfl)⟩ ⟨(Nat.le_of_ble_eq_true rfl), (Nat.le_of_ble_eq_true rfl)⟩ (Nat.le_of_ble_eq_true rfl) d_M_search_27 (fun x9 M10 => ?_)
    exact G_ireturn g (pc := 30) hret (Nat.le_of_ble_eq_true rfl) (Nat.le_of_ble_eq_true rfl) d_M_search_30

theorem d_M_archive_0 : decode b_M_archive 0 = .ok (.aload_n 0, 1) := by decide +kernel
theorem d_M_archive_1 : decode b_M_archive 1 = .ok (.invokevirtual 192, 3) := by decide +kernel
theorem d_M_archive_4 : decode b_M_archive 4 = .ok (.aload_n 0, 1) := by decide +kernel
theorem d_M_archive_5 : decode b_M_archive 5 = .ok (.aload_n 0, 1) := by decide +kernel
theorem d_M_archive_6 : decode b_M_archive 6 = .ok (.invokevirtual 216, 3) := by decide +kernel
theorem d_M_archive_9 : decode b_M_archive 9 = .ok (.invokevirtual 198, 3) := by decide +kernel
theorem d_M_archive_12 : decode b_M_archive 12 = .ok (.ireturn, 1) := by decide +kernel
theorem cc_M_216 : CV "KiteLoggerModel" 216 y_M_doArchive b_M_doArchive 1 (some .int) 0 := ⟨TT_in (i := 1802) (by decide +kernel) (by decide +kernel), TT_in (i := 1804) (by decide +kernel) (by decide +kernel), TT_in (i := 58) (by decide +kernel) (by decide +kernel), TT_in (i := 100) (by decide +kernel) (by decide +kernel), TT_in (i := 1805) (by decide +kernel) (by decide +kernel), ⟨by decide +kernel, by decide +kernel, by decide +kernel⟩⟩
def f_M_archive (N : Nat) (rr : Nat) (M : Mem) : Option (Int32 × Mem) :=
  bndM (f_M_keep M) fun (M2 : Mem) => bnd (f_M_doArchive rr M2) fun (x3 : Int32) (M4 : Mem) => bnd (f_M_ends N rr x3 M4) fun (x5 : Int32) (M6 : Mem) => some (x5, M6)
set_option maxHeartbeats 4000000 in
set_option maxRecDepth 100000 in
theorem c_M_archive (l : Launch) (N : Nat) {w : Wc} {rr : Nat} (hw : WM w rr)  (M : Mem) : Ct QI l y_M_archive b_M_archive 1 (some .int) (rmL 4) w [.ref (wad w 145)] M (f_M_archive N rr M) := by
  refine Ct.go (by decide) (L := [(0, .ref (wad w 145))]) rfl (Nat.le_of_ble_eq_true rfl) (fun p0 e s m args below meth c g hret => ?_)
  unfold f_M_archive
  refine G_aload_n g (pc := 0) 0 d_M_archive_0 rfl rfl ?_
  refine G_cVV g (pc := 1) (As := []) (st := []) cc_M_192 (c_M_keep l hw M) (hw.mm 145 (Nat.le_of_ble_eq_true rfl) (Nat.le_of_ble_eq_true rfl)) (hw.k (zk145 rr)) rfl (by decide) rfl ⟨(Nat.le_of_ble_eq_true rfl), (Nat.le_of_ble_eq_true rfl)⟩ ⟨(Nat.le_of_ble_eq_true rfl), (Nat.le_of_ble_eq_true rfl)⟩ (Nat.le_of_ble_eq_true rfl) d_M_archive_1 (fun M2 => ?_)
  refine G_aload_n g (pc := 4) 0 d_M_archive_4 rfl rfl ?_
  refine G_aload_n g (pc := 5) 0 d_M_archive_5 rfl rfl ?_
  refine G_cVI g (pc := 6) (As := []) (st := [.ref (wad w 145)]) cc_M_216 (c_M_doArchive l hw M2) (hw.mm 145 (Nat.le_of_ble_eq_true rfl) (Nat.le_of_ble_eq_true rfl)) (hw.k (zk145 rr)) rfl (by decide) rfl ⟨(Nat.le_of_ble_eq_true rfl), (Nat.le_of_ble_eq_true rfl)⟩ ⟨(Nat.le_of_ble_eq_true rfl), (Nat.le_of_ble_eq_true rfl)⟩ (Nat.le_of_ble_eq_true rfl) d_M_archive_6 (fun x3 M4 => ?_)
  refine G_cVI g (pc := 9) (As := [.int x3]) (st := []) cc_M_198 (c_M_ends l N hw x3 M4) (hw.mm 145 (Nat.le_of_ble_eq_true rfl) (Nat.le_of_ble_eq_true rfl)) (hw.k (zk145 rr)) rfl (by decide) rfl ⟨(Nat.le_of_ble_eq_true rfl), (Nat.le_of_ble_eq_true rfl)⟩ ⟨(Nat.le_of_ble_eq_true rfl), (Nat.le_of_ble_eq_true rfl)⟩ (Nat.le_of_ble_eq_true rfl) d_M_archive_9 (fun x5 M6 => ?_)
  exact G_ireturn g (pc := 12) hret (Nat.le_of_ble_eq_true rfl) (Nat.le_of_ble_eq_true rfl) d_M_archive_12

theorem d_M_passTicks_0 : decode b_M_passTicks 0 = .ok (.aload_n 0, 1) := by decide +kernel
theorem d_M_passTicks_1 : decode b_M_passTicks 1 = .ok (.iload_n 1, 1) := by decide +kernel
theorem d_M_passTicks_2 : decode b_M_passTicks 2 = .ok (.iconst 1, 1) := by decide +kernel
theorem d_M_passTicks_3 : decode b_M_passTicks 3 = .ok (.bipush 60, 2) := by decide +kernel
theorem d_M_passTicks_5 : decode b_M_passTicks 5 = .ok (.invokestatic 83, 3) := by decide +kernel
theorem d_M_passTicks_8 : decode b_M_passTicks 8 = .ok (.invokevirtual 87, 3) := by decide +kernel
theorem d_M_passTicks_11 : decode b_M_passTicks 11 = .ok (.ifCond .eq 5, 3) := by decide +kernel
theorem d_M_passTicks_14 : decode b_M_passTicks 14 = .ok (.iconst 0, 1) := by decide +kernel
theorem d_M_passTicks_15 : decode b_M_passTicks 15 = .ok (.ireturn, 1) := by decide +kernel
theorem d_M_passTicks_16 : decode b_M_passTicks 16 = .ok (.aload_n 0, 1) := by decide +kernel
theorem d_M_passTicks_17 : decode b_M_passTicks 17 = .ok (.invokevirtual 192, 3) := by decide +kernel
theorem d_M_passTicks_20 : decode b_M_passTicks 20 = .ok (.aload_n 0, 1) := by decide +kernel
theorem d_M_passTicks_21 : decode b_M_passTicks 21 = .ok (.aload_n 0, 1) := by decide +kernel
theorem d_M_passTicks_22 : decode b_M_passTicks 22 = .ok (.iload_n 1, 1) := by decide +kernel
theorem d_M_passTicks_23 : decode b_M_passTicks 23 = .ok (.invokevirtual 219, 3) := by decide +kernel
theorem d_M_passTicks_26 : decode b_M_passTicks 26 = .ok (.invokevirtual 198, 3) := by decide +kernel
theorem d_M_passTicks_29 : decode b_M_passTicks 29 = .ok (.ireturn, 1) := by decide +kernel
theorem cc_M_219 : CV "KiteLoggerModel" 219 y_M_doWait b_M_doWait 3 (some .int) 1 := ⟨TT_in (i := 1810) (by decide +kernel) (by decide +kernel), TT_in (i := 1812) (by decide +kernel) (by decide +kernel), TT_in (i := 59) (by decide +kernel) (by decide +kernel), TT_in (i := 100) (by decide +kernel) (by decide +kernel), TT_in (i := 1813) (by decide +kernel) (by decide +kernel), ⟨by decide +kernel, by decide +kernel, by decide +kernel⟩⟩
def f_M_passTicks (N : Nat) (rr : Nat) (a1 : Int32) (M : Mem) : Option (Int32 × Mem) :=
  bnd (f_M_inRange a1 (1 : Int32) (60 : Int32) M) fun (x1 : Bool) (M2 : Mem) => bnd (f_M_lacks x1 M2) fun (x3 : Bool) (M4 : Mem) => if x3 = true then (some ((0 : Int32), M4)) else (bndM (f_M_keep M4) fun (M6 : Mem) => bnd (f_M_doWait N rr a1 M6) fun (x7 : Int32) (M8 : Mem) => bnd (f_M_ends N rr x7 M8) fun (x9 : Int32) (M10 : Mem) => some (x9, M10))
set_option maxHeartbeats 4000000 in
set_option maxRecDepth 100000 in
theorem c_M_passTicks (l : Launch) (N : Nat) {w : Wc} {rr : Nat} (hw : WM w rr) (a1 : Int32) (M : Mem) : Ct QI l y_M_passTicks b_M_passTicks 2 (some .int) (rmL 7) w [.ref (wad w 145), .int a1] M (f_M_passTicks N rr a1 M) := by
  refine Ct.go (by decide) (L := [(0, .ref (wad w 145)), (1, .int a1)]) rfl (Nat.le_of_ble_eq_true rfl) (fun p0 e s m args below meth c g hret => ?_)
  unfold f_M_passTicks
  refine G_aload_n g (pc := 0) 0 d_M_passTicks_0 rfl rfl ?_
  refine G_iload_n g (pc := 1) 1 d_M_passTicks_1 rfl rfl ?_
  refine G_iconst g (pc := 2) (1 : Int32) d_M_passTicks_2 rfl ?_
  refine G_bipush g (pc := 3) (60 : Int32) d_M_passTicks_3 rfl ?_
  refine G_cSZ g (pc := 5) (As := [.int a1, .int (1 : Int32), .int (60 : Int32)]) (st := [.ref (wad w 145)]) cc_M_83 (c_M_inRange l hw a1 (1 : Int32) (60 : Int32) M) rfl ⟨(Nat.le_of_ble_eq_true rfl), (Nat.le_of_ble_eq_true rfl)⟩ ⟨(Nat.le_of_ble_eq_true rfl), (Nat.le_of_ble_eq_true rfl)⟩ (Nat.le_of_ble_eq_true rfl) d_M_passTicks_5 (fun x1 M2 => ?_)
  refine G_cVZ g (pc := 8) (As := [.int (b2i x1)]) (st := []) cc_M_87 (c_M_lacks l hw x1 M2) (hw.mm 145 (Nat.le_of_ble_eq_true rfl) (Nat.le_of_ble_eq_true rfl)) (hw.k (zk145 rr)) rfl (by decide) rfl ⟨(Nat.le_of_ble_eq_true rfl), (Nat.le_of_ble_eq_true rfl)⟩ ⟨(Nat.le_of_ble_eq_true rfl), (Nat.le_of_ble_eq_true rfl)⟩ (Nat.le_of_ble_eq_true rfl) d_M_passTicks_8 (fun x3 M4 => ?_)
  refine G_if_eqB g (pc := 11) 16 d_M_passTicks_11 (by decide) ?_ ?_
  · refine G_iconst g (pc := 14) (0 : Int32) d_M_passTicks_14 rfl ?_
    exact G_ireturn g (pc := 15) hret (Nat.le_of_ble_eq_true rfl) (Nat.le_of_ble_eq_true rfl) d_M_passTicks_15
  · refine G_aload_n g (pc := 16) 0 d_M_passTicks_16 rfl rfl ?_
    refine G_cVV g (pc := 17) (As := []) (st := []) cc_M_192 (c_M_keep l hw M4) (hw.mm 145 (Nat.le_of_ble_eq_true rfl) (Nat.le_of_ble_eq_true rfl)) (hw.k (zk145 rr)) rfl (by decide) rfl ⟨(Nat.le_of_ble_eq_true rfl), (Nat.le_of_ble_eq_true rfl)⟩ ⟨(Nat.le_of_ble_eq_true rfl), (Nat.le_of_ble_eq_true rfl)⟩ (Nat.le_of_ble_eq_true rfl) d_M_passTicks_17 (fun M6 => ?_)
    refine G_aload_n g (pc := 20) 0 d_M_passTicks_20 rfl rfl ?_
    refine G_aload_n g (pc := 21) 0 d_M_passTicks_21 rfl rfl ?_
    refine G_iload_n g (pc := 22) 1 d_M_passTicks_22 rfl rfl ?_
    refine G_cVI g (pc := 23) (As := [.int a1]) (st := [.ref (wad w 145)]) cc_M_219 (c_M_doWait l N hw a1 M6) (hw.mm 145 (Nat.le_of_ble_eq_true rfl) (Nat.le_of_ble_eq_true rfl)) (hw.k (zk145 rr)) rfl (by decide) rfl ⟨(Nat.le_of_ble_eq_true rfl), (Nat.le_of_ble_eq_true rfl)⟩ ⟨(Nat.le_of_ble_eq_true rfl), (Nat.le_of_ble_eq_true rfl)⟩ (Nat.le_of_ble_eq_true rfl) d_M_passTicks_23 (fun x7 M8 => ?_)
    refine G_cVI g (pc := 26) (As := [.int x7]) (st := []) cc_M_198 (c_M_ends l N hw x7 M8) (hw.mm 145 (Nat.le_of_ble_eq_true rfl) (Nat.le_of_ble_eq_true rfl)) (hw.k (zk145 rr)) rfl (by decide) rfl ⟨(Nat.le_of_ble_eq_true rfl), (Nat.le_of_ble_eq_true rfl)⟩ ⟨(Nat.le_of_ble_eq_true rfl), (Nat.le_of_ble_eq_true rfl)⟩ (Nat.le_of_ble_eq_true rfl) d_M_passTicks_26 (fun x9 M10 => ?_)
    exact G_ireturn g (pc := 29) hret (Nat.le_of_ble_eq_true rfl) (Nat.le_of_ble_eq_true rfl) d_M_passTicks_29
