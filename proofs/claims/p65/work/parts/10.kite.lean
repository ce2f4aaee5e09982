theorem d_G_isOutside_0 : decode b_G_isOutside 0 = .ok (.iload_n 0, 1) := by decide +kernel
theorem d_G_isOutside_1 : decode b_G_isOutside 1 = .ok (.iload_n 1, 1) := by decide +kernel
theorem d_G_isOutside_2 : decode b_G_isOutside 2 = .ok (.if_icmp .lt 8, 3) := by decide +kernel
theorem d_G_isOutside_5 : decode b_G_isOutside 5 = .ok (.iload_n 0, 1) := by decide +kernel
theorem d_G_isOutside_6 : decode b_G_isOutside 6 = .ok (.iload_n 2, 1) := by decide +kernel
theorem d_G_isOutside_7 : decode b_G_isOutside 7 = .ok (.if_icmp .le 7, 3) := by decide +kernel
theorem d_G_isOutside_10 : decode b_G_isOutside 10 = .ok (.iconst 1, 1) := by decide +kernel
theorem d_G_isOutside_11 : decode b_G_isOutside 11 = .ok (.goto 4, 3) := by decide +kernel
theorem d_G_isOutside_14 : decode b_G_isOutside 14 = .ok (.iconst 0, 1) := by decide +kernel
theorem d_G_isOutside_15 : decode b_G_isOutside 15 = .ok (.ireturn, 1) := by decide +kernel
def f_G_isOutside (a1 : Int32) (a2 : Int32) (a3 : Int32) (M : Mem) : Option (Bool × Mem) :=
  if a1 < a2 then (some (true, M)) else (if a3 < a1 then (some (true, M)) else (some (false, M)))
set_option maxHeartbeats 4000000 in
set_option maxRecDepth 100000 in
theorem c_G_isOutside (l : Launch) {w : Wc} {rr : Nat} (hw : WK w rr) (a1 : Int32) (a2 : Int32) (a3 : Int32) (M : Mem) : Ct QZ l y_G_isOutside b_G_isOutside 3 (some .boolean) (rmL 0) w [.int a1, .int a2, .int a3] M (f_G_isOutside a1 a2 a3 M) := by
  refine Ct.go (by decide) (L := [(0, .int a1), (1, .int a2), (2, .int a3)]) rfl (Nat.le_of_ble_eq_true rfl) (fun p0 e s m args below meth c g hret => ?_)
  unfold f_G_isOutside
  refine G_iload_n g (pc := 0) 0 d_G_isOutside_0 rfl rfl ?_
  refine G_iload_n g (pc := 1) 1 d_G_isOutside_1 rfl rfl ?_
  refine G_icmp_lt g (pc := 2) 10 d_G_isOutside_2 (by decide) ?_ ?_
  · refine G_iconst g (pc := 10) (1 : Int32) d_G_isOutside_10 rfl ?_
    refine G_goto g (pc := 11) 15 d_G_isOutside_11 (by decide) ?_
    exact G_zreturn g (pc := 15) true rfl hret (Nat.le_of_ble_eq_true rfl) (Nat.le_of_ble_eq_true rfl) d_G_isOutside_15
  · refine G_iload_n g (pc := 5) 0 d_G_isOutside_5 rfl rfl ?_
    refine G_iload_n g (pc := 6) 2 d_G_isOutside_6 rfl rfl ?_
    refine G_icmp_le g (pc := 7) 14 d_G_isOutside_7 (by decide) ?_ ?_
    · refine G_iconst g (pc := 10) (1 : Int32) d_G_isOutside_10 rfl ?_
      refine G_goto g (pc := 11) 15 d_G_isOutside_11 (by decide) ?_
      exact G_zreturn g (pc := 15) true rfl hret (Nat.le_of_ble_eq_true rfl) (Nat.le_of_ble_eq_true rfl) d_G_isOutside_15
    · refine G_iconst g (pc := 14) (0 : Int32) d_G_isOutside_14 rfl ?_
      exact G_zreturn g (pc := 15) false rfl hret (Nat.le_of_ble_eq_true rfl) (Nat.le_of_ble_eq_true rfl) d_G_isOutside_15

theorem d_G_valueAt_0 : decode b_G_valueAt 0 = .ok (.iload_n 1, 1) := by decide +kernel
theorem d_G_valueAt_1 : decode b_G_valueAt 1 = .ok (.ifCond .lt 15, 3) := by decide +kernel
theorem d_G_valueAt_4 : decode b_G_valueAt 4 = .ok (.iload_n 1, 1) := by decide +kernel
theorem d_G_valueAt_5 : decode b_G_valueAt 5 = .ok (.aload_n 0, 1) := by decide +kernel
theorem d_G_valueAt_6 : decode b_G_valueAt 6 = .ok (.arraylength, 1) := by decide +kernel
theorem d_G_valueAt_7 : decode b_G_valueAt 7 = .ok (.if_icmp .ge 9, 3) := by decide +kernel
theorem d_G_valueAt_10 : decode b_G_valueAt 10 = .ok (.aload_n 0, 1) := by decide +kernel
theorem d_G_valueAt_11 : decode b_G_valueAt 11 = .ok (.iload_n 1, 1) := by decide +kernel
theorem d_G_valueAt_12 : decode b_G_valueAt 12 = .ok (.iaload, 1) := by decide +kernel
theorem d_G_valueAt_13 : decode b_G_valueAt 13 = .ok (.goto 4, 3) := by decide +kernel
theorem d_G_valueAt_16 : decode b_G_valueAt 16 = .ok (.iconst 0, 1) := by decide +kernel
theorem d_G_valueAt_17 : decode b_G_valueAt 17 = .ok (.ireturn, 1) := by decide +kernel
def f_G_valueAt (a1 : Nat) (a2 : Int32) (M : Mem) : Option (Int32 × Mem) :=
  if a2 < 0 then (some ((0 : Int32), M)) else (if a2 < (nI (zn a1)) then (grd (inB a2 (zn a1)) (some (M a1 a2.toNatClampNeg, M))) else (some ((0 : Int32), M)))
set_option maxHeartbeats 4000000 in
set_option maxRecDepth 100000 in
theorem c_G_valueAt (l : Launch) {w : Wc} {rr : Nat} (hw : WK w rr) (a1 : Nat) (hma1 : a1 ∈ wL w) (hka1 : (wZ w a1).1 = 20) (hla1 : a1 < 145) (a2 : Int32) (M : Mem) : Ct QI l y_G_valueAt b_G_valueAt 2 (some .int) (rmL 0) w [.ref (wad w a1), .int a2] M (f_G_valueAt a1 a2 M) := by
  refine Ct.go (by decide) (L := [(0, .ref (wad w a1)), (1, .int a2)]) rfl (Nat.le_of_ble_eq_true rfl) (fun p0 e s m args below meth c g hret => ?_)
  unfold f_G_valueAt
  refine G_iload_n g (pc := 0) 1 d_G_valueAt_0 rfl rfl ?_
  refine G_if_lt g (pc := 1) 16 d_G_valueAt_1 (by decide) ?_ ?_
  · refine G_iconst g (pc := 16) (0 : Int32) d_G_valueAt_16 rfl ?_
    exact G_ireturn g (pc := 17) hret (Nat.le_of_ble_eq_true rfl) (Nat.le_of_ble_eq_true rfl) d_G_valueAt_17
  · refine G_iload_n g (pc := 4) 1 d_G_valueAt_4 rfl rfl ?_
    refine G_aload_n g (pc := 5) 0 d_G_valueAt_5 rfl rfl ?_
    refine G_alen g (pc := 6) (nI (zn a1)) hma1 hka1 (by rw [(hw.n hla1 rfl)]; rfl) d_G_valueAt_6 ?_
    refine G_icmp_ge g (pc := 7) 16 d_G_valueAt_7 (by decide) ?_ ?_
    · refine G_aload_n g (pc := 10) 0 d_G_valueAt_10 rfl rfl ?_
      refine G_iload_n g (pc := 11) 1 d_G_valueAt_11 rfl rfl ?_
      refine G_iald g (pc := 12) (nn := (zn a1)) hma1 hka1 (hw.n hla1 rfl) d_G_valueAt_12 ?_
      refine G_goto g (pc := 13) 17 d_G_valueAt_13 (by decide) ?_
      exact G_ireturn g (pc := 17) hret (Nat.le_of_ble_eq_true rfl) (Nat.le_of_ble_eq_true rfl) d_G_valueAt_17
    · refine G_iconst g (pc := 16) (0 : Int32) d_G_valueAt_16 rfl ?_
      exact G_ireturn g (pc := 17) hret (Nat.le_of_ble_eq_true rfl) (Nat.le_of_ble_eq_true rfl) d_G_valueAt_17

theorem d_G_putAt_0 : decode b_G_putAt 0 = .ok (.iload_n 1, 1) := by decide +kernel
theorem d_G_putAt_1 : decode b_G_putAt 1 = .ok (.ifCond .lt 13, 3) := by decide +kernel
theorem d_G_putAt_4 : decode b_G_putAt 4 = .ok (.iload_n 1, 1) := by decide +kernel
theorem d_G_putAt_5 : decode b_G_putAt 5 = .ok (.aload_n 0, 1) := by decide +kernel
theorem d_G_putAt_6 : decode b_G_putAt 6 = .ok (.arraylength, 1) := by decide +kernel
theorem d_G_putAt_7 : decode b_G_putAt 7 = .ok (.if_icmp .ge 7, 3) := by decide +kernel
theorem d_G_putAt_10 : decode b_G_putAt 10 = .ok (.aload_n 0, 1) := by decide +kernel
theorem d_G_putAt_11 : decode b_G_putAt 11 = .ok (.iload_n 1, 1) := by decide +kernel
theorem d_G_putAt_12 : decode b_G_putAt 12 = .ok (.iload_n 2, 1) := by decide +kernel
theorem d_G_putAt_13 : decode b_G_putAt 13 = .ok (.iastore, 1) := by decide +kernel
theorem d_G_putAt_14 : decode b_G_putAt 14 = .ok (.return_, 1) := by decide +kernel
def f_G_putAt (a1 : Nat) (a2 : Int32) (a3 : Int32) (M : Mem) : Option (Mem) :=
  if a2 < 0 then (some M) else (if a2 < (nI (zn a1)) then (grd (inB a2 (zn a1)) (nm (put M a1 a2.toNatClampNeg a3) fun (M1 : Mem) => some M1)) else (some M))
set_option maxHeartbeats 4000000 in
set_option maxRecDepth 100000 in
theorem c_G_putAt (l : Launch) {w : Wc} {rr : Nat} (hw : WK w rr) (a1 : Nat) (hma1 : a1 ∈ wL w) (hka1 : (wZ w a1).1 = 20) (hla1 : a1 < 145) (a2 : Int32) (a3 : Int32) (M : Mem) : Ct QV l y_G_putAt b_G_putAt 3 none (rmL 0) w [.ref (wad w a1), .int a2, .int a3] M (f_G_putAt a1 a2 a3 M) := by
  refine Ct.go (by decide) (L := [(0, .ref (wad w a1)), (1, .int a2), (2, .int a3)]) rfl (Nat.le_of_ble_eq_true rfl) (fun p0 e s m args below meth c g hret => ?_)
  unfold f_G_putAt
  refine G_iload_n g (pc := 0) 1 d_G_putAt_0 rfl rfl ?_
  refine G_if_lt g (pc := 1) 14 d_G_putAt_1 (by decide) ?_ ?_
  · exact G_return g (pc := 14) hret (Nat.le_of_ble_eq_true rfl) (Nat.le_of_ble_eq_true rfl) d_G_putAt_14
  · refine G_iload_n g (pc := 4) 1 d_G_putAt_4 rfl rfl ?_
    refine G_aload_n g (pc := 5) 0 d_G_putAt_5 rfl rfl ?_
    refine G_alen g (pc := 6) (nI (zn a1)) hma1 hka1 (by rw [(hw.n hla1 rfl)]; rfl) d_G_putAt_6 ?_
    refine G_icmp_ge g (pc := 7) 14 d_G_putAt_7 (by decide) ?_ ?_
    · refine G_aload_n g (pc := 10) 0 d_G_putAt_10 rfl rfl ?_
      refine G_iload_n g (pc := 11) 1 d_G_putAt_11 rfl rfl ?_
      refine G_iload_n g (pc := 12) 2 d_G_putAt_12 rfl rfl ?_
      refine G_iast g (pc := 13) (nn := (zn a1)) hma1 hka1 (hw.n hla1 rfl) d_G_putAt_13 ?_
      refine G_nmM (fun M1 => ?_)
      exact G_return g (pc := 14) hret (Nat.le_of_ble_eq_true rfl) (Nat.le_of_ble_eq_true rfl) d_G_putAt_14
    · exact G_return g (pc := 14) hret (Nat.le_of_ble_eq_true rfl) (Nat.le_of_ble_eq_true rfl) d_G_putAt_14

theorem d_G_copyRow_0 : decode b_G_copyRow 0 = .ok (.aload_n 0, 1) := by decide +kernel
theorem d_G_copyRow_1 : decode b_G_copyRow 1 = .ok (.iconst 0, 1) := by decide +kernel
theorem d_G_copyRow_2 : decode b_G_copyRow 2 = .ok (.aload_n 1, 1) := by decide +kernel
theorem d_G_copyRow_3 : decode b_G_copyRow 3 = .ok (.iconst 0, 1) := by decide +kernel
theorem d_G_copyRow_4 : decode b_G_copyRow 4 = .ok (.aload_n 0, 1) := by decide +kernel
theorem d_G_copyRow_5 : decode b_G_copyRow 5 = .ok (.arraylength, 1) := by decide +kernel
theorem d_G_copyRow_6 : decode b_G_copyRow 6 = .ok (.aload_n 1, 1) := by decide +kernel
theorem d_G_copyRow_7 : decode b_G_copyRow 7 = .ok (.arraylength, 1) := by decide +kernel
theorem d_G_copyRow_8 : decode b_G_copyRow 8 = .ok (.invokestatic 245, 3) := by decide +kernel
theorem d_G_copyRow_11 : decode b_G_copyRow 11 = .ok (.invokestatic 315, 3) := by decide +kernel
theorem d_G_copyRow_14 : decode b_G_copyRow 14 = .ok (.return_, 1) := by decide +kernel
theorem ma_G_245 : Cond.methodLink "KiteLogger" 245 Lib.Math.min.name ∈ TT ∧ Cond.static Lib.Math.min.name ∈ TT ∧ Cond.initialized "java/lang/Math" ∈ TT ∧ Cond.code Lib.Math.min.name Lib.Math.min.code 2 (some .int) ∈ TT := ⟨TT_in (i := 106) (by decide +kernel) (by decide +kernel), TT_in (i := 107) (by decide +kernel) (by decide +kernel), TT_in (i := 21) (by decide +kernel) (by decide +kernel), TT_in (i := 108) (by decide +kernel) (by decide +kernel)⟩
theorem ma_G_315 : Cond.methodLink "KiteLogger" 315 arraycopyName ∈ TT ∧ Cond.native arraycopyName ∈ TT ∧ Cond.static arraycopyName ∈ TT ∧ Cond.initialized "java/lang/System" ∈ TT := ⟨TT_in (i := 109) (by decide +kernel) (by decide +kernel), TT_in (i := 111) (by decide +kernel) (by decide +kernel), TT_in (i := 110) (by decide +kernel) (by decide +kernel), TT_in (i := 22) (by decide +kernel) (by decide +kernel)⟩
def f_G_copyRow (a1 : Nat) (a2 : Nat) (M : Mem) : Option (Mem) :=
  grd (cpB (0 : Int32) (0 : Int32) (imin (nI (zn a1)) (nI (zn a2))) (zn a1) (zn a2)) (nm (setR M a2 (va_cpy (M a1) (M a2) (0 : Int32).toNatClampNeg (0 : Int32).toNatClampNeg (imin (nI (zn a1)) (nI (zn a2))).toNatClampNeg)) fun (M1 : Mem) => some M1)
set_option maxHeartbeats 4000000 in
set_option maxRecDepth 100000 in
theorem c_G_copyRow (l : Launch) {w : Wc} {rr : Nat} (hw : WK w rr) (a1 : Nat) (hma1 : a1 ∈ wL w) (hka1 : (wZ w a1).1 = 20) (hla1 : a1 < 145) (a2 : Nat) (hma2 : a2 ∈ wL w) (hka2 : (wZ w a2).1 = 20) (hla2 : a2 < 145) (M : Mem) : Ct QV l y_G_copyRow b_G_copyRow 2 none (rmL 1) w [.ref (wad w a1), .ref (wad w a2)] M (f_G_copyRow a1 a2 M) := by
  refine Ct.go (by decide) (L := [(0, .ref (wad w a1)), (1, .ref (wad w a2))]) rfl (Nat.le_of_ble_eq_true rfl) (fun p0 e s m args below meth c g hret => ?_)
  unfold f_G_copyRow
  refine G_aload_n g (pc := 0) 0 d_G_copyRow_0 rfl rfl ?_
  refine G_iconst g (pc := 1) (0 : Int32) d_G_copyRow_1 rfl ?_
  refine G_aload_n g (pc := 2) 1 d_G_copyRow_2 rfl rfl ?_
  refine G_iconst g (pc := 3) (0 : Int32) d_G_copyRow_3 rfl ?_
  refine G_aload_n g (pc := 4) 0 d_G_copyRow_4 rfl rfl ?_
  refine G_alen g (pc := 5) (nI (zn a1)) hma1 hka1 (by rw [(hw.n hla1 rfl)]; rfl) d_G_copyRow_5 ?_
  refine G_aload_n g (pc := 6) 1 d_G_copyRow_6 rfl rfl ?_
  refine G_alen g (pc := 7) (nI (zn a2)) hma2 hka2 (by rw [(hw.n hla2 rfl)]; rfl) d_G_copyRow_7 ?_
  refine G_mmin g (pc := 8) ma_G_245 ⟨(Nat.le_of_ble_eq_true rfl), (Nat.le_of_ble_eq_true rfl), (Nat.le_of_ble_eq_true rfl), (Nat.le_of_ble_eq_true rfl)⟩ d_G_copyRow_8 ?_
  refine G_copy g (pc := 11) (n0 := (zn a1)) (n1 := (zn a2)) ma_G_315 ⟨(Nat.le_of_ble_eq_true rfl), (Nat.le_of_ble_eq_true rfl)⟩ hma1 hka1 (hw.n hla1 rfl) hma2 hka2 (hw.n hla2 rfl) d_G_copyRow_11 ?_
  refine G_nmM (fun M1 => ?_)
  exact G_return g (pc := 14) hret (Nat.le_of_ble_eq_true rfl) (Nat.le_of_ble_eq_true rfl) d_G_copyRow_14

theorem d_G_meanOf_0 : decode b_G_meanOf 0 = .ok (.iload_n 1, 1) := by decide +kernel
theorem d_G_meanOf_1 : decode b_G_meanOf 1 = .ok (.iconst 1, 1) := by decide +kernel
theorem d_G_meanOf_2 : decode b_G_meanOf 2 = .ok (.if_icmp .ge 7, 3) := by decide +kernel
theorem d_G_meanOf_5 : decode b_G_meanOf 5 = .ok (.dconst 0, 1) := by decide +kernel
theorem d_G_meanOf_6 : decode b_G_meanOf 6 = .ok (.goto 8, 3) := by decide +kernel
theorem d_G_meanOf_9 : decode b_G_meanOf 9 = .ok (.iload_n 0, 1) := by decide +kernel
theorem d_G_meanOf_10 : decode b_G_meanOf 10 = .ok (.i2d, 1) := by decide +kernel
theorem d_G_meanOf_11 : decode b_G_meanOf 11 = .ok (.iload_n 1, 1) := by decide +kernel
theorem d_G_meanOf_12 : decode b_G_meanOf 12 = .ok (.i2d, 1) := by decide +kernel
theorem d_G_meanOf_13 : decode b_G_meanOf 13 = .ok (.ddiv, 1) := by decide +kernel
theorem d_G_meanOf_14 : decode b_G_meanOf 14 = .ok (.dreturn, 1) := by decide +kernel
def f_G_meanOf (a1 : Int32) (a2 : Int32) (M : Mem) : Option (UInt64 × Mem) :=
  if a2 < (1 : Int32) then (some (0, M)) else (grd (nn64 (FP.ddiv (FP.i2d a1) (FP.i2d a2))) (some (FP.ddiv (FP.i2d a1) (FP.i2d a2), M)))
set_option maxHeartbeats 4000000 in
set_option maxRecDepth 100000 in
theorem c_G_meanOf (l : Launch) {w : Wc} {rr : Nat} (hw : WK w rr) (a1 : Int32) (a2 : Int32) (M : Mem) : Ct QD l y_G_meanOf b_G_meanOf 2 (some .double) (rmL 0) w [.int a1, .int a2] M (f_G_meanOf a1 a2 M) := by
  refine Ct.go (by decide) (L := [(0, .int a1), (1, .int a2)]) rfl (Nat.le_of_ble_eq_true rfl) (fun p0 e s m args below meth c g hret => ?_)
  unfold f_G_meanOf
  refine G_iload_n g (pc := 0) 1 d_G_meanOf_0 rfl rfl ?_
  refine G_iconst g (pc := 1) (1 : Int32) d_G_meanOf_1 rfl ?_
  refine G_icmp_ge g (pc := 2) 9 d_G_meanOf_2 (by decide) ?_ ?_
  · refine G_dconst0 g (pc := 5) d_G_meanOf_5 ?_
    refine G_goto g (pc := 6) 14 d_G_meanOf_6 (by decide) ?_
    exact G_dreturn g (pc := 14) hret (Nat.le_of_ble_eq_true rfl) (Nat.le_of_ble_eq_true rfl) d_G_meanOf_14
  · refine G_iload_n g (pc := 9) 0 d_G_meanOf_9 rfl rfl ?_
    refine G_i2d g (pc := 10) d_G_meanOf_10 ?_
    refine G_iload_n g (pc := 11) 1 d_G_meanOf_11 rfl rfl ?_
    refine G_i2d g (pc := 12) d_G_meanOf_12 ?_
    refine G_ddiv g (pc := 13) d_G_meanOf_13 ?_
    exact G_dreturn g (pc := 14) hret (Nat.le_of_ble_eq_true rfl) (Nat.le_of_ble_eq_true rfl) d_G_meanOf_14

theorem d_K_setUp_0 : decode b_K_setUp 0 = .ok (.aload_n 0, 1) := by decide +kernel
theorem d_K_setUp_1 : decode b_K_setUp 1 = .ok (.iconst 0, 1) := by decide +kernel
theorem d_K_setUp_2 : decode b_K_setUp 2 = .ok (.putfield 9, 3) := by decide +kernel
theorem d_K_setUp_5 : decode b_K_setUp 5 = .ok (.aload_n 0, 1) := by decide +kernel
theorem d_K_setUp_6 : decode b_K_setUp 6 = .ok (.iconst 0, 1) := by decide +kernel
theorem d_K_setUp_7 : decode b_K_setUp 7 = .ok (.putfield 15, 3) := by decide +kernel
theorem d_K_setUp_10 : decode b_K_setUp 10 = .ok (.aload_n 0, 1) := by decide +kernel
theorem d_K_setUp_11 : decode b_K_setUp 11 = .ok (.iconst 0, 1) := by decide +kernel
theorem d_K_setUp_12 : decode b_K_setUp 12 = .ok (.putfield 18, 3) := by decide +kernel
theorem d_K_setUp_15 : decode b_K_setUp 15 = .ok (.aload_n 0, 1) := by decide +kernel
theorem d_K_setUp_16 : decode b_K_setUp 16 = .ok (.iload_n 1, 1) := by decide +kernel
theorem d_K_setUp_17 : decode b_K_setUp 17 = .ok (.putfield 21, 3) := by decide +kernel
theorem d_K_setUp_20 : decode b_K_setUp 20 = .ok (.aload_n 0, 1) := by decide +kernel
theorem d_K_setUp_21 : decode b_K_setUp 21 = .ok (.iload_n 2, 1) := by decide +kernel
theorem d_K_setUp_22 : decode b_K_setUp 22 = .ok (.putfield 24, 3) := by decide +kernel
theorem d_K_setUp_25 : decode b_K_setUp 25 = .ok (.aload_n 0, 1) := by decide +kernel
theorem d_K_setUp_26 : decode b_K_setUp 26 = .ok (.iload_n 3, 1) := by decide +kernel
theorem d_K_setUp_27 : decode b_K_setUp 27 = .ok (.putfield 27, 3) := by decide +kernel
theorem d_K_setUp_30 : decode b_K_setUp 30 = .ok (.aload_n 0, 1) := by decide +kernel
theorem d_K_setUp_31 : decode b_K_setUp 31 = .ok (.iconst 0, 1) := by decide +kernel
theorem d_K_setUp_32 : decode b_K_setUp 32 = .ok (.putfield 30, 3) := by decide +kernel
theorem d_K_setUp_35 : decode b_K_setUp 35 = .ok (.aload_n 0, 1) := by decide +kernel
theorem d_K_setUp_36 : decode b_K_setUp 36 = .ok (.iconst 0, 1) := by decide +kernel
theorem d_K_setUp_37 : decode b_K_setUp 37 = .ok (.putfield 33, 3) := by decide +kernel
theorem d_K_setUp_40 : decode b_K_setUp 40 = .ok (.aload_n 0, 1) := by decide +kernel
theorem d_K_setUp_41 : decode b_K_setUp 41 = .ok (.iconst 0, 1) := by decide +kernel
theorem d_K_setUp_42 : decode b_K_setUp 42 = .ok (.putfield 36, 3) := by decide +kernel
theorem d_K_setUp_45 : decode b_K_setUp 45 = .ok (.aload_n 0, 1) := by decide +kernel
theorem d_K_setUp_46 : decode b_K_setUp 46 = .ok (.iconst 0, 1) := by decide +kernel
theorem d_K_setUp_47 : decode b_K_setUp 47 = .ok (.putfield 39, 3) := by decide +kernel
theorem d_K_setUp_50 : decode b_K_setUp 50 = .ok (.aload_n 0, 1) := by decide +kernel
theorem d_K_setUp_51 : decode b_K_setUp 51 = .ok (.iconst 0, 1) := by decide +kernel
theorem d_K_setUp_52 : decode b_K_setUp 52 = .ok (.putfield 42, 3) := by decide +kernel
theorem d_K_setUp_55 : decode b_K_setUp 55 = .ok (.aload_n 0, 1) := by decide +kernel
theorem d_K_setUp_56 : decode b_K_setUp 56 = .ok (.iconst 0, 1) := by decide +kernel
theorem d_K_setUp_57 : decode b_K_setUp 57 = .ok (.putfield 45, 3) := by decide +kernel
theorem d_K_setUp_60 : decode b_K_setUp 60 = .ok (.aload_n 0, 1) := by decide +kernel
theorem d_K_setUp_61 : decode b_K_setUp 61 = .ok (.iconst 0, 1) := by decide +kernel
theorem d_K_setUp_62 : decode b_K_setUp 62 = .ok (.putfield 48, 3) := by decide +kernel
theorem d_K_setUp_65 : decode b_K_setUp 65 = .ok (.return_, 1) := by decide +kernel
def f_K_setUp (p : Nat) (a1 : Int32) (a2 : Int32) (a3 : Int32) (M : Mem) : Option (Mem) :=
  nm (put M p 0 (0 : Int32)) fun (M1 : Mem) => nm (put M1 p 1 (0 : Int32)) fun (M2 : Mem) => nm (put M2 p 2 (0 : Int32)) fun (M3 : Mem) => nm (put M3 p 3 a1) fun (M4 : Mem) => nm (put M4 p 4 a2) fun (M5 : Mem) => nm (put M5 p 5 a3) fun (M6 : Mem) => nm (put M6 p 6 (0 : Int32)) fun (M7 : Mem) => nm (put M7 p 7 (0 : Int32)) fun (M8 : Mem) => nm (put M8 p 8 (0 : Int32)) fun (M9 : Mem) => nm (put M9 p 9 (0 : Int32)) fun (M10 : Mem) => nm (put M10 p 10 (0 : Int32)) fun (M11 : Mem) => nm (put M11 p 11 (0 : Int32)) fun (M12 : Mem) => nm (put M12 p 12 (0 : Int32)) fun (M13 : Mem) => some M13
set_option maxHeartbeats 4000000 in
set_option maxRecDepth 100000 in
theorem c_K_setUp (l : Launch) {w : Wc} {rr : Nat} (hw : WK w rr) (p : Nat) (hp : p ∈ kiL) (a1 : Int32) (a2 : Int32) (a3 : Int32) (M : Mem) : Ct QV l y_K_setUp b_K_setUp 4 none (rmL 0) w [.ref (wad w p), .int a1, .int a2, .int a3] M (f_K_setUp p a1 a2 a3 M) := by
  refine Ct.go (by decide) (L := [(0, .ref (wad w p)), (1, .int a1), (2, .int a2), (3, .int a3)]) rfl (Nat.le_of_ble_eq_true rfl) (fun p0 e s m args below meth c g hret => ?_)
  unfold f_K_setUp
  refine G_aload_n g (pc := 0) 0 d_K_setUp_0 rfl rfl ?_
  refine G_iconst g (pc := 1) (0 : Int32) d_K_setUp_1 rfl ?_
  refine G_put g (pc := 2) fa_K_9 fw_1_0 rfl rfl (hw.m _ (ki_lt0 hp)) (hw.k (ki_lt0 hp) (ki_k0 hp)) d_K_setUp_2 ?_
  refine G_nmM (fun M1 => ?_)
  refine G_aload_n g (pc := 5) 0 d_K_setUp_5 rfl rfl ?_
  refine G_iconst g (pc := 6) (0 : Int32) d_K_setUp_6 rfl ?_
  refine G_put g (pc := 7) fa_K_15 fw_1_1 rfl rfl (hw.m _ (ki_lt0 hp)) (hw.k (ki_lt0 hp) (ki_k0 hp)) d_K_setUp_7 ?_
  refine G_nmM (fun M2 => ?_)
  refine G_aload_n g (pc := 10) 0 d_K_setUp_10 rfl rfl ?_
  refine G_iconst g (pc := 11) (0 : Int32) d_K_setUp_11 rfl ?_
  refine G_put g (pc := 12) fa_K_18 fw_1_2 rfl rfl (hw.m _ (ki_lt0 hp)) (hw.k (ki_lt0 hp) (ki_k0 hp)) d_K_setUp_12 ?_
  refine G_nmM (fun M3 => ?_)
  refine G_aload_n g (pc := 15) 0 d_K_setUp_15 rfl rfl ?_
  refine G_iload_n g (pc := 16) 1 d_K_setUp_16 rfl rfl ?_
  refine G_put g (pc := 17) fa_K_21 fw_1_3 rfl rfl (hw.m _ (ki_lt0 hp)) (hw.k (ki_lt0 hp) (ki_k0 hp)) d_K_setUp_17 ?_
  refine G_nmM (fun M4 => ?_)
  refine G_aload_n g (pc := 20) 0 d_K_setUp_20 rfl rfl ?_
  refine G_iload_n g (pc := 21) 2 d_K_setUp_21 rfl rfl ?_
  refine G_put g (pc := 22) fa_K_24 fw_1_4 rfl rfl (hw.m _ (ki_lt0 hp)) (hw.k (ki_lt0 hp) (ki_k0 hp)) d_K_setUp_22 ?_
  refine G_nmM (fun M5 => ?_)
  refine G_aload_n g (pc := 25) 0 d_K_setUp_25 rfl rfl ?_
  refine G_iload_n g (pc := 26) 3 d_K_setUp_26 rfl rfl ?_
  refine G_put g (pc := 27) fa_K_27 fw_1_5 rfl rfl (hw.m _ (ki_lt0 hp)) (hw.k (ki_lt0 hp) (ki_k0 hp)) d_K_setUp_27 ?_
  refine G_nmM (fun M6 => ?_)
  refine G_aload_n g (pc := 30) 0 d_K_setUp_30 rfl rfl ?_
  refine G_iconst g (pc := 31) (0 : Int32) d_K_setUp_31 rfl ?_
  refine G_put g (pc := 32) fa_K_30 fw_1_6 rfl rfl (hw.m _ (ki_lt0 hp)) (hw.k (ki_lt0 hp) (ki_k0 hp)) d_K_setUp_32 ?_
  refine G_nmM (fun M7 => ?_)
  refine G_aload_n g (pc := 35) 0 d_K_setUp_35 rfl rfl ?_
  refine G_iconst g (pc := 36) (0 : Int32) d_K_setUp_36 rfl ?_
  refine G_put g (pc := 37) fa_K_33 fw_1_7 rfl rfl (hw.m _ (ki_lt0 hp)) (hw.k (ki_lt0 hp) (ki_k0 hp)) d_K_setUp_37 ?_
  refine G_nmM (fun M8 => ?_)
  refine G_aload_n g (pc := 40) 0 d_K_setUp_40 rfl rfl ?_
  refine G_iconst g (pc := 41) (0 : Int32) d_K_setUp_41 rfl ?_
  refine G_put g (pc := 42) fa_K_36 fw_1_8 rfl rfl (hw.m _ (ki_lt0 hp)) (hw.k (ki_lt0 hp) (ki_k0 hp)) d_K_setUp_42 ?_
  refine G_nmM (fun M9 => ?_)
  refine G_aload_n g (pc := 45) 0 d_K_setUp_45 rfl rfl ?_
  refine G_iconst g (pc := 46) (0 : Int32) d_K_setUp_46 rfl ?_
  refine G_put g (pc := 47) fa_K_39 fw_1_9 rfl rfl (hw.m _ (ki_lt0 hp)) (hw.k (ki_lt0 hp) (ki_k0 hp)) d_K_setUp_47 ?_
  refine G_nmM (fun M10 => ?_)
  refine G_aload_n g (pc := 50) 0 d_K_setUp_50 rfl rfl ?_
  refine G_iconst g (pc := 51) (0 : Int32) d_K_setUp_51 rfl ?_
  refine G_put g (pc := 52) fa_K_42 fw_1_10 rfl rfl (hw.m _ (ki_lt0 hp)) (hw.k (ki_lt0 hp) (ki_k0 hp)) d_K_setUp_52 ?_
  refine G_nmM (fun M11 => ?_)
  refine G_aload_n g (pc := 55) 0 d_K_setUp_55 rfl rfl ?_
  refine G_iconst g (pc := 56) (0 : Int32) d_K_setUp_56 rfl ?_
  refine G_put g (pc := 57) fa_K_45 fw_1_11 rfl rfl (hw.m _ (ki_lt0 hp)) (hw.k (ki_lt0 hp) (ki_k0 hp)) d_K_setUp_57 ?_
  refine G_nmM (fun M12 => ?_)
  refine G_aload_n g (pc := 60) 0 d_K_setUp_60 rfl rfl ?_
  refine G_iconst g (pc := 61) (0 : Int32) d_K_setUp_61 rfl ?_
  refine G_put g (pc := 62) fa_K_48 fw_1_12 rfl rfl (hw.m _ (ki_lt0 hp)) (hw.k (ki_lt0 hp) (ki_k0 hp)) d_K_setUp_62 ?_
  refine G_nmM (fun M13 => ?_)
  exact G_return g (pc := 65) hret (Nat.le_of_ble_eq_true rfl) (Nat.le_of_ble_eq_true rfl) d_K_setUp_65

theorem d_K_copyFrom_0 : decode b_K_copyFrom 0 = .ok (.aload_n 0, 1) := by decide +kernel
theorem d_K_copyFrom_1 : decode b_K_copyFrom 1 = .ok (.aload_n 1, 1) := by decide +kernel
theorem d_K_copyFrom_2 : decode b_K_copyFrom 2 = .ok (.getfield 9, 3) := by decide +kernel
theorem d_K_copyFrom_5 : decode b_K_copyFrom 5 = .ok (.putfield 9, 3) := by decide +kernel
theorem d_K_copyFrom_8 : decode b_K_copyFrom 8 = .ok (.aload_n 0, 1) := by decide +kernel
theorem d_K_copyFrom_9 : decode b_K_copyFrom 9 = .ok (.aload_n 1, 1) := by decide +kernel
theorem d_K_copyFrom_10 : decode b_K_copyFrom 10 = .ok (.getfield 15, 3) := by decide +kernel
theorem d_K_copyFrom_13 : decode b_K_copyFrom 13 = .ok (.putfield 15, 3) := by decide +kernel
theorem d_K_copyFrom_16 : decode b_K_copyFrom 16 = .ok (.aload_n 0, 1) := by decide +kernel
theorem d_K_copyFrom_17 : decode b_K_copyFrom 17 = .ok (.aload_n 1, 1) := by decide +kernel
theorem d_K_copyFrom_18 : decode b_K_copyFrom 18 = .ok (.getfield 18, 3) := by decide +kernel
theorem d_K_copyFrom_21 : decode b_K_copyFrom 21 = .ok (.putfield 18, 3) := by decide +kernel
theorem d_K_copyFrom_24 : decode b_K_copyFrom 24 = .ok (.aload_n 0, 1) := by decide +kernel
theorem d_K_copyFrom_25 : decode b_K_copyFrom 25 = .ok (.aload_n 1, 1) := by decide +kernel
theorem d_K_copyFrom_26 : decode b_K_copyFrom 26 = .ok (.getfield 21, 3) := by decide +kernel
theorem d_K_copyFrom_29 : decode b_K_copyFrom 29 = .ok (.putfield 21, 3) := by decide +kernel
theorem d_K_copyFrom_32 : decode b_K_copyFrom 32 = .ok (.aload_n 0, 1) := by decide +kernel
theorem d_K_copyFrom_33 : decode b_K_copyFrom 33 = .ok (.aload_n 1, 1) := by decide +kernel
theorem d_K_copyFrom_34 : decode b_K_copyFrom 34 = .ok (.getfield 24, 3) := by decide +kernel
theorem d_K_copyFrom_37 : decode b_K_copyFrom 37 = .ok (.putfield 24, 3) := by decide +kernel
theorem d_K_copyFrom_40 : decode b_K_copyFrom 40 = .ok (.aload_n 0, 1) := by decide +kernel
theorem d_K_copyFrom_41 : decode b_K_copyFrom 41 = .ok (.aload_n 1, 1) := by decide +kernel
theorem d_K_copyFrom_42 : decode b_K_copyFrom 42 = .ok (.getfield 27, 3) := by decide +kernel
theorem d_K_copyFrom_45 : decode b_K_copyFrom 45 = .ok (.putfield 27, 3) := by decide +kernel
theorem d_K_copyFrom_48 : decode b_K_copyFrom 48 = .ok (.aload_n 0, 1) := by decide +kernel
theorem d_K_copyFrom_49 : decode b_K_copyFrom 49 = .ok (.aload_n 1, 1) := by decide +kernel
theorem d_K_copyFrom_50 : decode b_K_copyFrom 50 = .ok (.getfield 30, 3) := by decide +kernel
theorem d_K_copyFrom_53 : decode b_K_copyFrom 53 = .ok (.putfield 30, 3) := by decide +kernel
theorem d_K_copyFrom_56 : decode b_K_copyFrom 56 = .ok (.aload_n 0, 1) := by decide +kernel
theorem d_K_copyFrom_57 : decode b_K_copyFrom 57 = .ok (.aload_n 1, 1) := by decide +kernel
theorem d_K_copyFrom_58 : decode b_K_copyFrom 58 = .ok (.getfield 33, 3) := by decide +kernel
theorem d_K_copyFrom_61 : decode b_K_copyFrom 61 = .ok (.putfield 33, 3) := by decide +kernel
theorem d_K_copyFrom_64 : decode b_K_copyFrom 64 = .ok (.aload_n 0, 1) := by decide +kernel
theorem d_K_copyFrom_65 : decode b_K_copyFrom 65 = .ok (.aload_n 1, 1) := by decide +kernel
theorem d_K_copyFrom_66 : decode b_K_copyFrom 66 = .ok (.getfield 36, 3) := by decide +kernel
theorem d_K_copyFrom_69 : decode b_K_copyFrom 69 = .ok (.putfield 36, 3) := by decide +kernel
theorem d_K_copyFrom_72 : decode b_K_copyFrom 72 = .ok (.aload_n 0, 1) := by decide +kernel
theorem d_K_copyFrom_73 : decode b_K_copyFrom 73 = .ok (.aload_n 1, 1) := by decide +kernel
theorem d_K_copyFrom_74 : decode b_K_copyFrom 74 = .ok (.getfield 39, 3) := by decide +kernel
theorem d_K_copyFrom_77 : decode b_K_copyFrom 77 = .ok (.putfield 39, 3) := by decide +kernel
theorem d_K_copyFrom_80 : decode b_K_copyFrom 80 = .ok (.aload_n 0, 1) := by decide +kernel
theorem d_K_copyFrom_81 : decode b_K_copyFrom 81 = .ok (.aload_n 1, 1) := by decide +kernel
theorem d_K_copyFrom_82 : decode b_K_copyFrom 82 = .ok (.getfield 42, 3) := by decide +kernel
theorem d_K_copyFrom_85 : decode b_K_copyFrom 85 = .ok (.putfield 42, 3) := by decide +kernel
theorem d_K_copyFrom_88 : decode b_K_copyFrom 88 = .ok (.aload_n 0, 1) := by decide +kernel
theorem d_K_copyFrom_89 : decode b_K_copyFrom 89 = .ok (.aload_n 1, 1) := by decide +kernel
theorem d_K_copyFrom_90 : decode b_K_copyFrom 90 = .ok (.getfield 45, 3) := by decide +kernel
theorem d_K_copyFrom_93 : decode b_K_copyFrom 93 = .ok (.putfield 45, 3) := by decide +kernel
theorem d_K_copyFrom_96 : decode b_K_copyFrom 96 = .ok (.aload_n 0, 1) := by decide +kernel
theorem d_K_copyFrom_97 : decode b_K_copyFrom 97 = .ok (.aload_n 1, 1) := by decide +kernel
theorem d_K_copyFrom_98 : decode b_K_copyFrom 98 = .ok (.getfield 48, 3) := by decide +kernel
theorem d_K_copyFrom_101 : decode b_K_copyFrom 101 = .ok (.putfield 48, 3) := by decide +kernel
theorem d_K_copyFrom_104 : decode b_K_copyFrom 104 = .ok (.return_, 1) := by decide +kernel
def f_K_copyFrom (p : Nat) (a1 : Nat) (M : Mem) : Option (Mem) :=
  nm (put M p 0 (M a1 0)) fun (M1 : Mem) => nm (put M1 p 1 (M1 a1 1)) fun (M2 : Mem) => nm (put M2 p 2 (M2 a1 2)) fun (M3 : Mem) => nm (put M3 p 3 (M3 a1 3)) fun (M4 : Mem) => nm (put M4 p 4 (M4 a1 4)) fun (M5 : Mem) => nm (put M5 p 5 (M5 a1 5)) fun (M6 : Mem) => nm (put M6 p 6 (M6 a1 6)) fun (M7 : Mem) => nm (put M7 p 7 (M7 a1 7)) fun (M8 : Mem) => nm (put M8 p 8 (M8 a1 8)) fun (M9 : Mem) => nm (put M9 p 9 (M9 a1 9)) fun (M10 : Mem) => nm (put M10 p 10 (M10 a1 10)) fun (M11 : Mem) => nm (put M11 p 11 (M11 a1 11)) fun (M12 : Mem) => nm (put M12 p 12 (M12 a1 12)) fun (M13 : Mem) => some M13
set_option maxHeartbeats 4000000 in
set_option maxRecDepth 100000 in
theorem c_K_copyFrom (l : Launch) {w : Wc} {rr : Nat} (hw : WK w rr) (p : Nat) (hp : p ∈ kiL) (a1 : Nat) (ha1 : a1 ∈ kiL) (M : Mem) : Ct QV l y_K_copyFrom b_K_copyFrom 2 none (rmL 0) w [.ref (wad w p), .ref (wad w a1)] M (f_K_copyFrom p a1 M) := by
  refine Ct.go (by decide) (L := [(0, .ref (wad w p)), (1, .ref (wad w a1))]) rfl (Nat.le_of_ble_eq_true rfl) (fun p0 e s m args below meth c g hret => ?_)
  unfold f_K_copyFrom
  refine G_aload_n g (pc := 0) 0 d_K_copyFrom_0 rfl rfl ?_
  refine G_aload_n g (pc := 1) 1 d_K_copyFrom_1 rfl rfl ?_
  refine G_get g (pc := 2) fa_K_9 (hw.m _ (ki_lt0 ha1)) (hw.k (ki_lt0 ha1) (ki_k0 ha1)) d_K_copyFrom_2 ?_
  refine G_put g (pc := 5) fa_K_9 fw_1_0 rfl rfl (hw.m _ (ki_lt0 hp)) (hw.k (ki_lt0 hp) (ki_k0 hp)) d_K_copyFrom_5 ?_
  refine G_nmM (fun M1 => ?_)
  refine G_aload_n g (pc := 8) 0 d_K_copyFrom_8 rfl rfl ?_
  refine G_aload_n g (pc := 9) 1 d_K_copyFrom_9 rfl rfl ?_
  refine G_get g (pc := 10) fa_K_15 (hw.m _ (ki_lt0 ha1)) (hw.k (ki_lt0 ha1) (ki_k0 ha1)) d_K_copyFrom_10 ?_
  refine G_put g (pc := 13) fa_K_15 fw_1_1 rfl rfl (hw.m _ (ki_lt0 hp)) (hw.k (ki_lt0 hp) (ki_k0 hp)) d_K_copyFrom_13 ?_
  refine G_nmM (fun M2 => ?_)
  refine G_aload_n g (pc := 16) 0 d_K_copyFrom_16 rfl rfl ?_
  refine G_aload_n g (pc := 17) 1 d_K_copyFrom_17 rfl rfl ?_
  refine G_get g (pc := 18) fa_K_18 (hw.m _ (ki_lt0 ha1)) (hw.k (ki_lt0 ha1) (ki_k0 ha1)) d_K_copyFrom_18 ?_
  refine G_put g (pc := 21) fa_K_18 fw_1_2 rfl rfl (hw.m _ (ki_lt0 hp)) (hw.k (ki_lt0 hp) (ki_k0 hp)) d_K_copyFrom_21 ?_
  refine G_nmM (fun M3 => ?_)
  refine G_aload_n g (pc := 24) 0 d_K_copyFrom_24 rfl rfl ?_
  refine G_aload_n g (pc := 25) 1 d_K_copyFrom_25 rfl rfl ?_
  refine G_get g (pc := 26) fa_K_21 (hw.m _ (ki_lt0 ha1)) (hw.k (ki_lt0 ha1) (ki_k0 ha1)) d_K_copyFrom_26 ?_
  refine G_put g (pc := 29) fa_K_21 fw_1_3 rfl rfl (hw.m _ (ki_lt0 hp)) (hw.k (ki_lt0 hp) (ki_k0 hp)) d_K_copyFrom_29 ?_
  refine G_nmM (fun M4 => ?_)
  refine G_aload_n g (pc := 32) 0 d_K_copyFrom_32 rfl rfl ?_
  refine G_aload_n g (pc := 33) 1 d_K_copyFrom_33 rfl rfl ?_
  refine G_get g (pc := 34) fa_K_24 (hw.m _ (ki_lt0 ha1)) (hw.k (ki_lt0 ha1) (ki_k0 ha1)) d_K_copyFrom_34 ?_
  refine G_put g (pc := 37) fa_K_24 fw_1_4 rfl rfl (hw.m _ (ki_lt0 hp)) (hw.k (ki_lt0 hp) (ki_k0 hp)) d_K_copyFrom_37 ?_
  refine G_nmM (fun M5 => ?_)
  refine G_aload_n g (pc := 40) 0 d_K_copyFrom_40 rfl rfl ?_
  refine G_aload_n g (pc := 41) 1 d_K_copyFrom_41 rfl rfl ?_
  refine G_get g (pc := 42) fa_K_27 (hw.m _ (ki_lt0 ha1)) (hw.k (ki_lt0 ha1) (ki_k0 ha1)) d_K_copyFrom_42 ?_
  refine G_put g (pc := 45) fa_K_27 fw_1_5 rfl rfl (hw.m _ (ki_lt0 hp)) (hw.k (ki_lt0 hp) (ki_k0 hp)) d_K_copyFrom_45 ?_
  refine G_nmM (fun M6 => ?_)
  refine G_aload_n g (pc := 48) 0 d_K_copyFrom_48 rfl rfl ?_
  refine G_aload_n g (pc := 49) 1 d_K_copyFrom_49 rfl rfl ?_
  refine G_get g (pc := 50) fa_K_30 (hw.m _ (ki_lt0 ha1)) (hw.k (ki_lt0 ha1) (ki_k0 ha1)) d_K_copyFrom_50 ?_
  refine G_put g (pc := 53) fa_K_30 fw_1_6 rfl rfl (hw.m _ (ki_lt0 hp)) (hw.k (ki_lt0 hp) (ki_k0 hp)) d_K_copyFrom_53 ?_
  refine G_nmM (fun M7 => ?_)
  refine G_aload_n g (pc := 56) 0 d_K_copyFrom_56 rfl rfl ?_
  refine G_aload_n g (pc := 57) 1 d_K_copyFrom_57 rfl rfl ?_
  refine G_get g (pc := 58) fa_K_33 (hw.m _ (ki_lt0 ha1)) (hw.k (ki_lt0 ha1) (ki_k0 ha1)) d_K_copyFrom_58 ?_
  refine G_put g (pc := 61) fa_K_33 fw_1_7 rfl rfl (hw.m _ (ki_lt0 hp)) (hw.k (ki_lt0 hp) (ki_k0 hp)) d_K_copyFrom_61 ?_
  refine G_nmM (fun M8 => ?_)
  refine G_aload_n g (pc := 64) 0 d_K_copyFrom_64 rfl rfl ?_
  refine G_aload_n g (pc := 65) 1 d_K_copyFrom_65 rfl rfl ?_
  refine G_get g (pc := 66) fa_K_36 (hw.m _ (ki_lt0 ha1)) (hw.k (ki_lt0 ha1) (ki_k0 ha1)) d_K_copyFrom_66 ?_
  refine G_put g (pc := 69) fa_K_36 fw_1_8 rfl rfl (hw.m _ (ki_lt0 hp)) (hw.k (ki_lt0 hp) (ki_k0 hp)) d_K_copyFrom_69 ?_
  refine G_nmM (fun M9 => ?_)
  refine G_aload_n g (pc := 72) 0 d_K_copyFrom_72 rfl rfl ?_
  refine G_aload_n g (pc := 73) 1 d_K_copyFrom_73 rfl rfl ?_
  refine G_get g (pc := 74) fa_K_39 (hw.m _ (ki_lt0 ha1)) (hw.k (ki_lt0 ha1) (ki_k0 ha1)) d_K_copyFrom_74 ?_
  refine G_put g (pc := 77) fa_K_39 fw_1_9 rfl rfl (hw.m _ (ki_lt0 hp)) (hw.k (ki_lt0 hp) (ki_k0 hp)) d_K_copyFrom_77 ?_
  refine G_nmM (fun M10 => ?_)
  refine G_aload_n g (pc := 80) 0 d_K_copyFrom_80 rfl rfl ?_
  refine G_aload_n g (pc := 81) 1 d_K_copyFrom_81 rfl rfl ?_
  refine G_get g (pc := 82) fa_K_42 (hw.m _ (ki_lt0 ha1)) (hw.k (ki_lt0 ha1) (ki_k0 ha1)) d_K_copyFrom_82 ?_
  refine G_put g (pc := 85) fa_K_42 fw_1_10 rfl rfl (hw.m _ (ki_lt0 hp)) (hw.k (ki_lt0 hp) (ki_k0 hp)) d_K_copyFrom_85 ?_
  refine G_nmM (fun M11 => ?_)
  refine G_aload_n g (pc := 88) 0 d_K_copyFrom_88 rfl rfl ?_
  refine G_aload_n g (pc := 89) 1 d_K_copyFrom_89 rfl rfl ?_
  refine G_get g (pc := 90) fa_K_45 (hw.m _ (ki_lt0 ha1)) (hw.k (ki_lt0 ha1) (ki_k0 ha1)) d_K_copyFrom_90 ?_
  refine G_put g (pc := 93) fa_K_45 fw_1_11 rfl rfl (hw.m _ (ki_lt0 hp)) (hw.k (ki_lt0 hp) (ki_k0 hp)) d_K_copyFrom_93 ?_
  refine G_nmM (fun M12 => ?_)
  refine G_aload_n g (pc := 96) 0 d_K_copyFrom_96 rfl rfl ?_
  refine G_aload_n g (pc := 97) 1 d_K_copyFrom_97 rfl rfl ?_
  refine G_get g (pc := 98) fa_K_48 (hw.m _ (ki_lt0 ha1)) (hw.k (ki_lt0 ha1) (ki_k0 ha1)) d_K_copyFrom_98 ?_
  refine G_put g (pc := 101) fa_K_48 fw_1_12 rfl rfl (hw.m _ (ki_lt0 hp)) (hw.k (ki_lt0 hp) (ki_k0 hp)) d_K_copyFrom_101 ?_
  refine G_nmM (fun M13 => ?_)
  exact G_return g (pc := 104) hret (Nat.le_of_ble_eq_true rfl) (Nat.le_of_ble_eq_true rfl) d_K_copyFrom_104

theorem d_K_windOver_0 : decode b_K_windOver 0 = .ok (.iload_n 1, 1) := by decide +kernel
theorem d_K_windOver_1 : decode b_K_windOver 1 = .ok (.aload_n 0, 1) := by decide +kernel
theorem d_K_windOver_2 : decode b_K_windOver 2 = .ok (.getfield 15, 3) := by decide +kernel
theorem d_K_windOver_5 : decode b_K_windOver 5 = .ok (.bipush 100, 2) := by decide +kernel
theorem d_K_windOver_7 : decode b_K_windOver 7 = .ok (.idiv, 1) := by decide +kernel
theorem d_K_windOver_8 : decode b_K_windOver 8 = .ok (.iadd, 1) := by decide +kernel
theorem d_K_windOver_9 : decode b_K_windOver 9 = .ok (.ireturn, 1) := by decide +kernel
def f_K_windOver (p : Nat) (a1 : Int32) (M : Mem) : Option (Int32 × Mem) :=
  some (a1 + ((M p 1) / (100 : Int32)), M)
set_option maxHeartbeats 4000000 in
set_option maxRecDepth 100000 in
theorem c_K_windOver (l : Launch) {w : Wc} {rr : Nat} (hw : WK w rr) (p : Nat) (hp : p ∈ kiL) (a1 : Int32) (M : Mem) : Ct QI l y_K_windOver b_K_windOver 2 (some .int) (rmL 0) w [.ref (wad w p), .int a1] M (f_K_windOver p a1 M) := by
  refine Ct.go (by decide) (L := [(0, .ref (wad w p)), (1, .int a1)]) rfl (Nat.le_of_ble_eq_true rfl) (fun p0 e s m args below meth c g hret => ?_)
  unfold f_K_windOver
  refine G_iload_n g (pc := 0) 1 d_K_windOver_0 rfl rfl ?_
  refine G_aload_n g (pc := 1) 0 d_K_windOver_1 rfl rfl ?_
  refine G_get g (pc := 2) fa_K_15 (hw.m _ (ki_lt0 hp)) (hw.k (ki_lt0 hp) (ki_k0 hp)) d_K_windOver_2 ?_
  refine G_bipush g (pc := 5) (100 : Int32) d_K_windOver_5 rfl ?_
  refine G_idivK g (pc := 7) (by decide) d_K_windOver_7 ?_
  refine G_iadd g (pc := 8) d_K_windOver_8 ?_
  exact G_ireturn g (pc := 9) hret (Nat.le_of_ble_eq_true rfl) (Nat.le_of_ble_eq_true rfl) d_K_windOver_9

theorem d_K_loadUnder_0 : decode b_K_loadUnder 0 = .ok (.aload_n 0, 1) := by decide +kernel
theorem d_K_loadUnder_1 : decode b_K_loadUnder 1 = .ok (.getfield 21, 3) := by decide +kernel
theorem d_K_loadUnder_4 : decode b_K_loadUnder 4 = .ok (.iload_n 1, 1) := by decide +kernel
theorem d_K_loadUnder_5 : decode b_K_loadUnder 5 = .ok (.imul, 1) := by decide +kernel
theorem d_K_loadUnder_6 : decode b_K_loadUnder 6 = .ok (.iload_n 1, 1) := by decide +kernel
theorem d_K_loadUnder_7 : decode b_K_loadUnder 7 = .ok (.imul, 1) := by decide +kernel
theorem d_K_loadUnder_8 : decode b_K_loadUnder 8 = .ok (.bipush 8, 2) := by decide +kernel
theorem d_K_loadUnder_10 : decode b_K_loadUnder 10 = .ok (.idiv, 1) := by decide +kernel
theorem d_K_loadUnder_11 : decode b_K_loadUnder 11 = .ok (.ireturn, 1) := by decide +kernel
def f_K_loadUnder (p : Nat) (a1 : Int32) (M : Mem) : Option (Int32 × Mem) :=
  some ((((M p 3) * a1) * a1) / (8 : Int32), M)
set_option maxHeartbeats 4000000 in
set_option maxRecDepth 100000 in
theorem c_K_loadUnder (l : Launch) {w : Wc} {rr : Nat} (hw : WK w rr) (p : Nat) (hp : p ∈ kiL) (a1 : Int32) (M : Mem) : Ct QI l y_K_loadUnder b_K_loadUnder 2 (some .int) (rmL 0) w [.ref (wad w p), .int a1] M (f_K_loadUnder p a1 M) := by
  refine Ct.go (by decide) (L := [(0, .ref (wad w p)), (1, .int a1)]) rfl (Nat.le_of_ble_eq_true rfl) (fun p0 e s m args below meth c g hret => ?_)
  unfold f_K_loadUnder
  refine G_aload_n g (pc := 0) 0 d_K_loadUnder_0 rfl rfl ?_
  refine G_get g (pc := 1) fa_K_21 (hw.m _ (ki_lt0 hp)) (hw.k (ki_lt0 hp) (ki_k0 hp)) d_K_loadUnder_1 ?_
  refine G_iload_n g (pc := 4) 1 d_K_loadUnder_4 rfl rfl ?_
  refine G_imul g (pc := 5) d_K_loadUnder_5 ?_
  refine G_iload_n g (pc := 6) 1 d_K_loadUnder_6 rfl rfl ?_
  refine G_imul g (pc := 7) d_K_loadUnder_7 ?_
  refine G_bipush g (pc := 8) (8 : Int32) d_K_loadUnder_8 rfl ?_
  refine G_idivK g (pc := 10) (by decide) d_K_loadUnder_10 ?_
  exact G_ireturn g (pc := 11) hret (Nat.le_of_ble_eq_true rfl) (Nat.le_of_ble_eq_true rfl) d_K_loadUnder_11

theorem d_K_landOnGround_0 : decode b_K_landOnGround 0 = .ok (.aload_n 0, 1) := by decide +kernel
theorem d_K_landOnGround_1 : decode b_K_landOnGround 1 = .ok (.getfield 9, 3) := by decide +kernel
theorem d_K_landOnGround_4 : decode b_K_landOnGround 4 = .ok (.iconst 1, 1) := by decide +kernel
theorem d_K_landOnGround_5 : decode b_K_landOnGround 5 = .ok (.if_icmp .ne 20, 3) := by decide +kernel
theorem d_K_landOnGround_8 : decode b_K_landOnGround 8 = .ok (.aload_n 0, 1) := by decide +kernel
theorem d_K_landOnGround_9 : decode b_K_landOnGround 9 = .ok (.getfield 15, 3) := by decide +kernel
theorem d_K_landOnGround_12 : decode b_K_landOnGround 12 = .ok (.ifCond .ne 13, 3) := by decide +kernel
theorem d_K_landOnGround_15 : decode b_K_landOnGround 15 = .ok (.aload_n 0, 1) := by decide +kernel
theorem d_K_landOnGround_16 : decode b_K_landOnGround 16 = .ok (.iconst 0, 1) := by decide +kernel
theorem d_K_landOnGround_17 : decode b_K_landOnGround 17 = .ok (.putfield 9, 3) := by decide +kernel
theorem d_K_landOnGround_20 : decode b_K_landOnGround 20 = .ok (.aload_n 0, 1) := by decide +kernel
theorem d_K_landOnGround_21 : decode b_K_landOnGround 21 = .ok (.iconst 0, 1) := by decide +kernel
theorem d_K_landOnGround_22 : decode b_K_landOnGround 22 = .ok (.putfield 39, 3) := by decide +kernel
theorem d_K_landOnGround_25 : decode b_K_landOnGround 25 = .ok (.return_, 1) := by decide +kernel
def f_K_landOnGround (p : Nat) (M : Mem) : Option (Mem) :=
  if (M p 0) = (1 : Int32) then (if (M p 1) = 0 then (nm (put M p 0 (0 : Int32)) fun (M1 : Mem) => nm (put M1 p 9 (0 : Int32)) fun (M2 : Mem) => some M2) else (some M)) else (some M)
set_option maxHeartbeats 4000000 in
set_option maxRecDepth 100000 in
theorem c_K_landOnGround (l : Launch) {w : Wc} {rr : Nat} (hw : WK w rr) (p : Nat) (hp : p ∈ kiL) (M : Mem) : Ct QV l y_K_landOnGround b_K_landOnGround 1 none (rmL 0) w [.ref (wad w p)] M (f_K_landOnGround p M) := by
  refine Ct.go (by decide) (L := [(0, .ref (wad w p))]) rfl (Nat.le_of_ble_eq_true rfl) (fun p0 e s m args below meth c g hret => ?_)
  unfold f_K_landOnGround
  refine G_aload_n g (pc := 0) 0 d_K_landOnGround_0 rfl rfl ?_
  refine G_get g (pc := 1) fa_K_9 (hw.m _ (ki_lt0 hp)) (hw.k (ki_lt0 hp) (ki_k0 hp)) d_K_landOnGround_1 ?_
  refine G_iconst g (pc := 4) (1 : Int32) d_K_landOnGround_4 rfl ?_
  refine G_icmp_ne g (pc := 5) 25 d_K_landOnGround_5 (by decide) ?_ ?_
  · refine G_aload_n g (pc := 8) 0 d_K_landOnGround_8 rfl rfl ?_
    refine G_get g (pc := 9) fa_K_15 (hw.m _ (ki_lt0 hp)) (hw.k (ki_lt0 hp) (ki_k0 hp)) d_K_landOnGround_9 ?_
    refine G_if_ne g (pc := 12) 25 d_K_landOnGround_12 (by decide) ?_ ?_
    · refine G_aload_n g (pc := 15) 0 d_K_landOnGround_15 rfl rfl ?_
      refine G_iconst g (pc := 16) (0 : Int32) d_K_landOnGround_16 rfl ?_
      refine G_put g (pc := 17) fa_K_9 fw_1_0 rfl rfl (hw.m _ (ki_lt0 hp)) (hw.k (ki_lt0 hp) (ki_k0 hp)) d_K_landOnGround_17 ?_
      refine G_nmM (fun M1 => ?_)
      refine G_aload_n g (pc := 20) 0 d_K_landOnGround_20 rfl rfl ?_
      refine G_iconst g (pc := 21) (0 : Int32) d_K_landOnGround_21 rfl ?_
      refine G_put g (pc := 22) fa_K_39 fw_1_9 rfl rfl (hw.m _ (ki_lt0 hp)) (hw.k (ki_lt0 hp) (ki_k0 hp)) d_K_landOnGround_22 ?_
      refine G_nmM (fun M2 => ?_)
      exact G_return g (pc := 25) hret (Nat.le_of_ble_eq_true rfl) (Nat.le_of_ble_eq_true rfl) d_K_landOnGround_25
    · exact G_return g (pc := 25) hret (Nat.le_of_ble_eq_true rfl) (Nat.le_of_ble_eq_true rfl) d_K_landOnGround_25
  · exact G_return g (pc := 25) hret (Nat.le_of_ble_eq_true rfl) (Nat.le_of_ble_eq_true rfl) d_K_landOnGround_25

theorem d_K_fall_0 : decode b_K_fall 0 = .ok (.aload_n 0, 1) := by decide +kernel
theorem d_K_fall_1 : decode b_K_fall 1 = .ok (.iconst 2, 1) := by decide +kernel
theorem d_K_fall_2 : decode b_K_fall 2 = .ok (.putfield 9, 3) := by decide +kernel
theorem d_K_fall_5 : decode b_K_fall 5 = .ok (.aload_n 0, 1) := by decide +kernel
theorem d_K_fall_6 : decode b_K_fall 6 = .ok (.iload_n 1, 1) := by decide +kernel
theorem d_K_fall_7 : decode b_K_fall 7 = .ok (.aload_n 0, 1) := by decide +kernel
theorem d_K_fall_8 : decode b_K_fall 8 = .ok (.getfield 15, 3) := by decide +kernel
theorem d_K_fall_11 : decode b_K_fall 11 = .ok (.imul, 1) := by decide +kernel
theorem d_K_fall_12 : decode b_K_fall 12 = .ok (.bipush 10, 2) := by decide +kernel
theorem d_K_fall_14 : decode b_K_fall 14 = .ok (.idiv, 1) := by decide +kernel
theorem d_K_fall_15 : decode b_K_fall 15 = .ok (.putfield 33, 3) := by decide +kernel
theorem d_K_fall_18 : decode b_K_fall 18 = .ok (.aload_n 0, 1) := by decide +kernel
theorem d_K_fall_19 : decode b_K_fall 19 = .ok (.iconst 0, 1) := by decide +kernel
theorem d_K_fall_20 : decode b_K_fall 20 = .ok (.putfield 15, 3) := by decide +kernel
theorem d_K_fall_23 : decode b_K_fall 23 = .ok (.aload_n 0, 1) := by decide +kernel
theorem d_K_fall_24 : decode b_K_fall 24 = .ok (.iconst 0, 1) := by decide +kernel
theorem d_K_fall_25 : decode b_K_fall 25 = .ok (.putfield 18, 3) := by decide +kernel
theorem d_K_fall_28 : decode b_K_fall 28 = .ok (.aload_n 0, 1) := by decide +kernel
theorem d_K_fall_29 : decode b_K_fall 29 = .ok (.iconst 0, 1) := by decide +kernel
theorem d_K_fall_30 : decode b_K_fall 30 = .ok (.putfield 39, 3) := by decide +kernel
theorem d_K_fall_33 : decode b_K_fall 33 = .ok (.aload_n 0, 1) := by decide +kernel
theorem d_K_fall_34 : decode b_K_fall 34 = .ok (.bipush 120, 2) := by decide +kernel
theorem d_K_fall_36 : decode b_K_fall 36 = .ok (.putfield 36, 3) := by decide +kernel
theorem d_K_fall_39 : decode b_K_fall 39 = .ok (.aload_n 0, 1) := by decide +kernel
theorem d_K_fall_40 : decode b_K_fall 40 = .ok (.dup, 1) := by decide +kernel
theorem d_K_fall_41 : decode b_K_fall 41 = .ok (.getfield 45, 3) := by decide +kernel
theorem d_K_fall_44 : decode b_K_fall 44 = .ok (.iconst 1, 1) := by decide +kernel
theorem d_K_fall_45 : decode b_K_fall 45 = .ok (.iadd, 1) := by decide +kernel
theorem d_K_fall_46 : decode b_K_fall 46 = .ok (.putfield 45, 3) := by decide +kernel
theorem d_K_fall_49 : decode b_K_fall 49 = .ok (.return_, 1) := by decide +kernel
def f_K_fall (p : Nat) (a1 : Int32) (M : Mem) : Option (Mem) :=
  nm (put M p 0 (2 : Int32)) fun (M1 : Mem) => nm (put M1 p 7 ((a1 * (M1 p 1)) / (10 : Int32))) fun (M2 : Mem) => nm (put M2 p 1 (0 : Int32)) fun (M3 : Mem) => nm (put M3 p 2 (0 : Int32)) fun (M4 : Mem) => nm (put M4 p 9 (0 : Int32)) fun (M5 : Mem) => nm (put M5 p 8 (120 : Int32)) fun (M6 : Mem) => nm (put M6 p 11 ((M6 p 11) + (1 : Int32))) fun (M7 : Mem) => some M7
set_option maxHeartbeats 4000000 in
set_option maxRecDepth 100000 in
theorem c_K_fall (l : Launch) {w : Wc} {rr : Nat} (hw : WK w rr) (p : Nat) (hp : p ∈ kiL) (a1 : Int32) (M : Mem) : Ct QV l y_K_fall b_K_fall 2 none (rmL 0) w [.ref (wad w p), .int a1] M (f_K_fall p a1 M) := by
  refine Ct.go (by decide) (L := [(0, .ref (wad w p)), (1, .int a1)]) rfl (Nat.le_of_ble_eq_true rfl) (fun p0 e s m args below meth c g hret => ?_)
  unfold f_K_fall
  refine G_aload_n g (pc := 0) 0 d_K_fall_0 rfl rfl ?_
  refine G_iconst g (pc := 1) (2 : Int32) d_K_fall_1 rfl ?_
  refine G_put g (pc := 2) fa_K_9 fw_1_0 rfl rfl (hw.m _ (ki_lt0 hp)) (hw.k (ki_lt0 hp) (ki_k0 hp)) d_K_fall_2 ?_
  refine G_nmM (fun M1 => ?_)
  refine G_aload_n g (pc := 5) 0 d_K_fall_5 rfl rfl ?_
  refine G_iload_n g (pc := 6) 1 d_K_fall_6 rfl rfl ?_
  refine G_aload_n g (pc := 7) 0 d_K_fall_7 rfl rfl ?_
  refine G_get g (pc := 8) fa_K_15 (hw.m _ (ki_lt0 hp)) (hw.k (ki_lt0 hp) (ki_k0 hp)) d_K_fall_8 ?_
  refine G_imul g (pc := 11) d_K_fall_11 ?_
  refine G_bipush g (pc := 12) (10 : Int32) d_K_fall_12 rfl ?_
  refine G_idivK g (pc := 14) (by decide) d_K_fall_14 ?_
  refine G_put g (pc := 15) fa_K_33 fw_1_7 rfl rfl (hw.m _ (ki_lt0 hp)) (hw.k (ki_lt0 hp) (ki_k0 hp)) d_K_fall_15 ?_
  refine G_nmM (fun M2 => ?_)
  refine G_aload_n g (pc := 18) 0 d_K_fall_18 rfl rfl ?_
  refine G_iconst g (pc := 19) (0 : Int32) d_K_fall_19 rfl ?_
  refine G_put g (pc := 20) fa_K_15 fw_1_1 rfl rfl (hw.m _ (ki_lt0 hp)) (hw.k (ki_lt0 hp) (ki_k0 hp)) d_K_fall_20 ?_
  refine G_nmM (fun M3 => ?_)
  refine G_aload_n g (pc := 23) 0 d_K_fall_23 rfl rfl ?_
  refine G_iconst g (pc := 24) (0 : Int32) d_K_fall_24 rfl ?_
  refine G_put g (pc := 25) fa_K_18 fw_1_2 rfl rfl (hw.m _ (ki_lt0 hp)) (hw.k (ki_lt0 hp) (ki_k0 hp)) d_K_fall_25 ?_
  refine G_nmM (fun M4 => ?_)
  refine G_aload_n g (pc := 28) 0 d_K_fall_28 rfl rfl ?_
  refine G_iconst g (pc := 29) (0 : Int32) d_K_fall_29 rfl ?_
  refine G_put g (pc := 30) fa_K_39 fw_1_9 rfl rfl (hw.m _ (ki_lt0 hp)) (hw.k (ki_lt0 hp) (ki_k0 hp)) d_K_fall_30 ?_
  refine G_nmM (fun M5 => ?_)
  refine G_aload_n g (pc := 33) 0 d_K_fall_33 rfl rfl ?_
  refine G_bipush g (pc := 34) (120 : Int32) d_K_fall_34 rfl ?_
  refine G_put g (pc := 36) fa_K_36 fw_1_8 rfl rfl (hw.m _ (ki_lt0 hp)) (hw.k (ki_lt0 hp) (ki_k0 hp)) d_K_fall_36 ?_
  refine G_nmM (fun M6 => ?_)
  refine G_aload_n g (pc := 39) 0 d_K_fall_39 rfl rfl ?_
  refine G_dup g (pc := 40) d_K_fall_40 rfl ?_
  refine G_get g (pc := 41) fa_K_45 (hw.m _ (ki_lt0 hp)) (hw.k (ki_lt0 hp) (ki_k0 hp)) d_K_fall_41 ?_
  refine G_iconst g (pc := 44) (1 : Int32) d_K_fall_44 rfl ?_
  refine G_iadd g (pc := 45) d_K_fall_45 ?_
  refine G_put g (pc := 46) fa_K_45 fw_1_11 rfl rfl (hw.m _ (ki_lt0 hp)) (hw.k (ki_lt0 hp) (ki_k0 hp)) d_K_fall_46 ?_
  refine G_nmM (fun M7 => ?_)
  exact G_return g (pc := 49) hret (Nat.le_of_ble_eq_true rfl) (Nat.le_of_ble_eq_true rfl) d_K_fall_49

theorem d_K_fly_0 : decode b_K_fly 0 = .ok (.aload_n 0, 1) := by decide +kernel
theorem d_K_fly_1 : decode b_K_fly 1 = .ok (.dup, 1) := by decide +kernel
theorem d_K_fly_2 : decode b_K_fly 2 = .ok (.getfield 39, 3) := by decide +kernel
theorem d_K_fly_5 : decode b_K_fly 5 = .ok (.iconst 1, 1) := by decide +kernel
theorem d_K_fly_6 : decode b_K_fly 6 = .ok (.iadd, 1) := by decide +kernel
theorem d_K_fly_7 : decode b_K_fly 7 = .ok (.putfield 39, 3) := by decide +kernel
theorem d_K_fly_10 : decode b_K_fly 10 = .ok (.aload_n 0, 1) := by decide +kernel
theorem d_K_fly_11 : decode b_K_fly 11 = .ok (.iload_n 1, 1) := by decide +kernel
theorem d_K_fly_12 : decode b_K_fly 12 = .ok (.invokevirtual 59, 3) := by decide +kernel
theorem d_K_fly_15 : decode b_K_fly 15 = .ok (.aload_n 0, 1) := by decide +kernel
theorem d_K_fly_16 : decode b_K_fly 16 = .ok (.getfield 24, 3) := by decide +kernel
theorem d_K_fly_19 : decode b_K_fly 19 = .ok (.isub, 1) := by decide +kernel
theorem d_K_fly_20 : decode b_K_fly 20 = .ok (.istore_n 2, 1) := by decide +kernel
theorem d_K_fly_21 : decode b_K_fly 21 = .ok (.iload_n 2, 1) := by decide +kernel
theorem d_K_fly_22 : decode b_K_fly 22 = .ok (.ifCond .le 13, 3) := by decide +kernel
theorem d_K_fly_25 : decode b_K_fly 25 = .ok (.aload_n 0, 1) := by decide +kernel
theorem d_K_fly_26 : decode b_K_fly 26 = .ok (.dup, 1) := by decide +kernel
theorem d_K_fly_27 : decode b_K_fly 27 = .ok (.getfield 30, 3) := by decide +kernel
theorem d_K_fly_30 : decode b_K_fly 30 = .ok (.iload_n 2, 1) := by decide +kernel
theorem d_K_fly_31 : decode b_K_fly 31 = .ok (.iadd, 1) := by decide +kernel
theorem d_K_fly_32 : decode b_K_fly 32 = .ok (.putfield 30, 3) := by decide +kernel
theorem d_K_fly_35 : decode b_K_fly 35 = .ok (.aload_n 0, 1) := by decide +kernel
theorem d_K_fly_36 : decode b_K_fly 36 = .ok (.getfield 30, 3) := by decide +kernel
theorem d_K_fly_39 : decode b_K_fly 39 = .ok (.aload_n 0, 1) := by decide +kernel
theorem d_K_fly_40 : decode b_K_fly 40 = .ok (.getfield 27, 3) := by decide +kernel
theorem d_K_fly_43 : decode b_K_fly 43 = .ok (.if_icmp .lt 9, 3) := by decide +kernel
theorem d_K_fly_46 : decode b_K_fly 46 = .ok (.aload_n 0, 1) := by decide +kernel
theorem d_K_fly_47 : decode b_K_fly 47 = .ok (.iload_n 1, 1) := by decide +kernel
theorem d_K_fly_48 : decode b_K_fly 48 = .ok (.invokevirtual 62, 3) := by decide +kernel
theorem d_K_fly_51 : decode b_K_fly 51 = .ok (.return_, 1) := by decide +kernel
theorem d_K_fly_52 : decode b_K_fly 52 = .ok (.iload_n 1, 1) := by decide +kernel
theorem d_K_fly_53 : decode b_K_fly 53 = .ok (.iconst 5, 1) := by decide +kernel
theorem d_K_fly_54 : decode b_K_fly 54 = .ok (.if_icmp .lt 23, 3) := by decide +kernel
theorem d_K_fly_57 : decode b_K_fly 57 = .ok (.aload_n 0, 1) := by decide +kernel
theorem d_K_fly_58 : decode b_K_fly 58 = .ok (.aload_n 0, 1) := by decide +kernel
theorem d_K_fly_59 : decode b_K_fly 59 = .ok (.getfield 15, 3) := by decide +kernel
theorem d_K_fly_62 : decode b_K_fly 62 = .ok (.iload_n 1, 1) := by decide +kernel
theorem d_K_fly_63 : decode b_K_fly 63 = .ok (.iadd, 1) := by decide +kernel
theorem d_K_fly_64 : decode b_K_fly 64 = .ok (.aload_n 0, 1) := by decide +kernel
theorem d_K_fly_65 : decode b_K_fly 65 = .ok (.getfield 18, 3) := by decide +kernel
theorem d_K_fly_68 : decode b_K_fly 68 = .ok (.invokestatic 65, 3) := by decide +kernel
theorem d_K_fly_71 : decode b_K_fly 71 = .ok (.putfield 15, 3) := by decide +kernel
theorem d_K_fly_74 : decode b_K_fly 74 = .ok (.goto 20, 3) := by decide +kernel
theorem d_K_fly_77 : decode b_K_fly 77 = .ok (.aload_n 0, 1) := by decide +kernel
theorem d_K_fly_78 : decode b_K_fly 78 = .ok (.aload_n 0, 1) := by decide +kernel
theorem d_K_fly_79 : decode b_K_fly 79 = .ok (.getfield 15, 3) := by decide +kernel
theorem d_K_fly_82 : decode b_K_fly 82 = .ok (.bipush 6, 2) := by decide +kernel
theorem d_K_fly_84 : decode b_K_fly 84 = .ok (.iload_n 1, 1) := by decide +kernel
theorem d_K_fly_85 : decode b_K_fly 85 = .ok (.isub, 1) := by decide +kernel
theorem d_K_fly_86 : decode b_K_fly 86 = .ok (.isub, 1) := by decide +kernel
theorem d_K_fly_87 : decode b_K_fly 87 = .ok (.iconst 0, 1) := by decide +kernel
theorem d_K_fly_88 : decode b_K_fly 88 = .ok (.invokestatic 71, 3) := by decide +kernel
theorem d_K_fly_91 : decode b_K_fly 91 = .ok (.putfield 15, 3) := by decide +kernel
theorem d_K_fly_94 : decode b_K_fly 94 = .ok (.aload_n 0, 1) := by decide +kernel
theorem d_K_fly_95 : decode b_K_fly 95 = .ok (.invokevirtual 74, 3) := by decide +kernel
theorem d_K_fly_98 : decode b_K_fly 98 = .ok (.return_, 1) := by decide +kernel
theorem cc_K_59 : CV "KiteLogger$Kite" 59 y_K_loadUnder b_K_loadUnder 2 (some .int) 1 := ⟨TT_in (i := 962) (by decide +kernel) (by decide +kernel), TT_in (i := 917) (by decide +kernel) (by decide +kernel), TT_in (i := 918) (by decide +kernel) (by decide +kernel), TT_in (i := 25) (by decide +kernel) (by decide +kernel), TT_in (i := 919) (by decide +kernel) (by decide +kernel), ⟨by decide +kernel, by decide +kernel, by decide +kernel⟩⟩
theorem ma_K_71 : Cond.methodLink "KiteLogger$Kite" 71 Lib.Math.max.name ∈ TT ∧ Cond.static Lib.Math.max.name ∈ TT ∧ Cond.initialized "java/lang/Math" ∈ TT ∧ Cond.code Lib.Math.max.name Lib.Math.max.code 2 (some .int) ∈ TT := ⟨TT_in (i := 968) (by decide +kernel) (by decide +kernel), TT_in (i := 255) (by decide +kernel) (by decide +kernel), TT_in (i := 21) (by decide +kernel) (by decide +kernel), TT_in (i := 256) (by decide +kernel) (by decide +kernel)⟩
theorem cc_K_74 : CV "KiteLogger$Kite" 74 y_K_landOnGround b_K_landOnGround 1 none 0 := ⟨TT_in (i := 969) (by decide +kernel) (by decide +kernel), TT_in (i := 971) (by decide +kernel) (by decide +kernel), TT_in (i := 10) (by decide +kernel) (by decide +kernel), TT_in (i := 25) (by decide +kernel) (by decide +kernel), TT_in (i := 972) (by decide +kernel) (by decide +kernel), ⟨by decide +kernel, by decide +kernel, by decide +kernel⟩⟩
theorem ma_K_65 : Cond.methodLink "KiteLogger$Kite" 65 Lib.Math.min.name ∈ TT ∧ Cond.static Lib.Math.min.name ∈ TT ∧ Cond.initialized "java/lang/Math" ∈ TT ∧ Cond.code Lib.Math.min.name Lib.Math.min.code 2 (some .int) ∈ TT := ⟨TT_in (i := 967) (by decide +kernel) (by decide +kernel), TT_in (i := 107) (by decide +kernel) (by decide +kernel), TT_in (i := 21) (by decide +kernel) (by decide +kernel), TT_in (i := 108) (by decide +kernel) (by decide +kernel)⟩
theorem cc_K_62 : CV "KiteLogger$Kite" 62 y_K_fall b_K_fall 2 none 1 := ⟨TT_in (i := 963) (by decide +kernel) (by decide +kernel), TT_in (i := 965) (by decide +kernel) (by decide +kernel), TT_in (i := 9) (by decide +kernel) (by decide +kernel), TT_in (i := 25) (by decide +kernel) (by decide +kernel), TT_in (i := 966) (by decide +kernel) (by decide +kernel), ⟨by decide +kernel, by decide +kernel, by decide +kernel⟩⟩
def f_K_fly (p : Nat) (a1 : Int32) (M : Mem) : Option (Mem) :=
  nm (put M p 9 ((M p 9) + (1 : Int32))) fun (M1 : Mem) => bnd (f_K_loadUnder p a1 M1) fun (x2 : Int32) (M3 : Mem) => nm (x2 - (M3 p 4)) fun (x4 : Int32) => if 0 < x4 then (nm (put M3 p 6 ((M3 p 6) + x4)) fun (M5 : Mem) => if (M5 p 6) < (M5 p 5) then (if a1 < (5 : Int32) then (nm (put M5 p 1 (imax ((M5 p 1) - ((6 : Int32) - a1)) (0 : Int32))) fun (M6 : Mem) => bndM (f_K_landOnGround p M6) fun (M8 : Mem) => some M8) else (nm (put M5 p 1 (imin ((M5 p 1) + a1) (M5 p 2))) fun (M9 : Mem) => bndM (f_K_landOnGround p M9) fun (M11 : Mem) => some M11)) else (bndM (f_K_fall p a1 M5) fun (M13 : Mem) => some M13)) else (if (M3 p 6) < (M3 p 5) then (if a1 < (5 : Int32) then (nm (put M3 p 1 (imax ((M3 p 1) - ((6 : Int32) - a1)) (0 : Int32))) fun (M14 : Mem) => bndM (f_K_landOnGround p M14) fun (M16 : Mem) => some M16) else (nm (put M3 p 1 (imin ((M3 p 1) + a1) (M3 p 2))) fun (M17 : Mem) => bndM (f_K_landOnGround p M17) fun (M19 : Mem) => some M19)) else (bndM (f_K_fall p a1 M3) fun (M21 : Mem) => some M21))
set_option maxHeartbeats 4000000 in
set_option maxRecDepth 100000 in
theorem c_K_fly (l : Launch) {w : Wc} {rr : Nat} (hw : WK w rr) (p : Nat) (hp : p ∈ kiL) (a1 : Int32) (M : Mem) : Ct QV l y_K_fly b_K_fly 3 none (rmL 1) w [.ref (wad w p), .int a1] M (f_K_fly p a1 M) := by
  refine Ct.go (by decide) (L := [(0, .ref (wad w p)), (1, .int a1)]) rfl (Nat.le_of_ble_eq_true rfl) (fun p0 e s m args below meth c g hret => ?_)
  unfold f_K_fly
  refine G_aload_n g (pc := 0) 0 d_K_fly_0 rfl rfl ?_
  refine G_dup g (pc := 1) d_K_fly_1 rfl ?_
  refine G_get g (pc := 2) fa_K_39 (hw.m _ (ki_lt0 hp)) (hw.k (ki_lt0 hp) (ki_k0 hp)) d_K_fly_2 ?_
  refine G_iconst g (pc := 5) (1 : Int32) d_K_fly_5 rfl ?_
  refine G_iadd g (pc := 6) d_K_fly_6 ?_
  refine G_put g (pc := 7) fa_K_39 fw_1_9 rfl rfl (hw.m _ (ki_lt0 hp)) (hw.k (ki_lt0 hp) (ki_k0 hp)) d_K_fly_7 ?_
  refine G_nmM (fun M1 => ?_)
  refine G_aload_n g (pc := 10) 0 d_K_fly_10 rfl rfl ?_
  refine G_iload_n g (pc := 11) 1 d_K_fly_11 rfl rfl ?_
  refine G_cVI g (pc := 12) (As := [.int a1]) (st := []) cc_K_59 (c_K_loadUnder l hw p hp a1 M1) (hw.m _ (ki_lt0 hp)) (hw.k (ki_lt0 hp) (ki_k0 hp)) rfl (by decide) rfl ⟨(Nat.le_of_ble_eq_true rfl), (Nat.le_of_ble_eq_true rfl)⟩ ⟨(Nat.le_of_ble_eq_true rfl), (Nat.le_of_ble_eq_true rfl)⟩ (Nat.le_of_ble_eq_true rfl) d_K_fly_12 (fun x2 M3 => ?_)
  refine G_aload_n g (pc := 15) 0 d_K_fly_15 rfl rfl ?_
  refine G_get g (pc := 16) fa_K_24 (hw.m _ (ki_lt0 hp)) (hw.k (ki_lt0 hp) (ki_k0 hp)) d_K_fly_16 ?_
  refine G_isub g (pc := 19) d_K_fly_19 ?_
  refine G_nmI (fun x4 => ?_)
  refine G_istore_n g (pc := 20) _ d_K_fly_20 rfl (Nat.le_of_ble_eq_true rfl) rfl ?_
  refine G_iload_n g (pc := 21) 0 d_K_fly_21 rfl rfl ?_
  refine G_if_le g (pc := 22) 35 d_K_fly_22 (by decide) ?_ ?_
  · refine G_aload_n g (pc := 25) 1 d_K_fly_25 rfl rfl ?_
    refine G_dup g (pc := 26) d_K_fly_26 rfl ?_
    refine G_get g (pc := 27) fa_K_30 (hw.m _ (ki_lt0 hp)) (hw.k (ki_lt0 hp) (ki_k0 hp)) d_K_fly_27 ?_
    refine G_iload_n g (pc := 30) 0 d_K_fly_30 rfl rfl ?_
    refine G_iadd g (pc := 31) d_K_fly_31 ?_
    refine G_put g (pc := 32) fa_K_30 fw_1_6 rfl rfl (hw.m _ (ki_lt0 hp)) (hw.k (ki_lt0 hp) (ki_k0 hp)) d_K_fly_32 ?_
    refine G_nmM (fun M5 => ?_)
    refine G_aload_n g (pc := 35) 1 d_K_fly_35 rfl rfl ?_
    refine G_get g (pc := 36) fa_K_30 (hw.m _ (ki_lt0 hp)) (hw.k (ki_lt0 hp) (ki_k0 hp)) d_K_fly_36 ?_
    refine G_aload_n g (pc := 39) 1 d_K_fly_39 rfl rfl ?_
    refine G_get g (pc := 40) fa_K_27 (hw.m _ (ki_lt0 hp)) (hw.k (ki_lt0 hp) (ki_k0 hp)) d_K_fly_40 ?_
    refine G_icmp_lt g (pc := 43) 52 d_K_fly_43 (by decide) ?_ ?_
    · refine G_iload_n g (pc := 52) 2 d_K_fly_52 rfl rfl ?_
      refine G_iconst g (pc := 53) (5 : Int32) d_K_fly_53 rfl ?_
      refine G_icmp_lt g (pc := 54) 77 d_K_fly_54 (by decide) ?_ ?_
      · refine G_aload_n g (pc := 77) 1 d_K_fly_77 rfl rfl ?_
        refine G_aload_n g (pc := 78) 1 d_K_fly_78 rfl rfl ?_
        refine G_get g (pc := 79) fa_K_15 (hw.m _ (ki_lt0 hp)) (hw.k (ki_lt0 hp) (ki_k0 hp)) d_K_fly_79 ?_
        refine G_bipush g (pc := 82) (6 : Int32) d_K_fly_82 rfl ?_
        refine G_iload_n g (pc := 84) 2 d_K_fly_84 rfl rfl ?_
        refine G_isub g (pc := 85) d_K_fly_85 ?_
        refine G_isub g (pc := 86) d_K_fly_86 ?_
        refine G_iconst g (pc := 87) (0 : Int32) d_K_fly_87 rfl ?_
        refine G_mmax g (pc := 88) ma_K_71 ⟨(Nat.le_of_ble_eq_true rfl), (Nat.le_of_ble_eq_true rfl), (Nat.le_of_ble_eq_true rfl), (Nat.le_of_ble_eq_true rfl)⟩ d_K_fly_88 ?_
        refine G_put g (pc := 91) fa_K_15 fw_1_1 rfl rfl (hw.m _ (ki_lt0 hp)) (hw.k (ki_lt0 hp) (ki_k0 hp)) d_K_fly_91 ?_
        refine G_nmM (fun M6 => ?_)
        refine G_aload_n g (pc := 94) 1 d_K_fly_94 rfl rfl ?_
        refine G_cVV g (pc := 95) (As := []) (st := []) cc_K_74 (c_K_landOnGround l hw p hp M6) (hw.m _ (ki_lt0 hp)) (hw.k (ki_lt0 hp) (ki_k0 hp)) rfl (by decide) rfl ⟨(Nat.le_of_ble_eq_true rfl), (Nat.le_of_ble_eq_true rfl)⟩ ⟨(Nat.le_of_ble_eq_true rfl), (Nat.le_of_ble_eq_true rfl)⟩ (Nat.le_of_ble_eq_true rfl) d_K_fly_95 (fun M8 => ?_)
        exact G_return g (pc := 98) hret (Nat.le_of_ble_eq_true rfl) (Nat.le_of_ble_eq_true rfl) d_K_fly_98
      · refine G_aload_n g (pc := 57) 1 d_K_fly_57 rfl rfl ?_
        refine G_aload_n g (pc := 58) 1 d_K_fly_58 rfl rfl ?_
        refine G_get g (pc := 59) fa_K_15 (hw.m _ (ki_lt0 hp)) (hw.k (ki_lt0 hp) (ki_k0 hp)) d_K_fly_59 ?_
        refine G_iload_n g (pc := 62) 2 d_K_fly_62 rfl rfl ?_
        refine G_iadd g (pc := 63) d_K_fly_63 ?_
        refine G_aload_n g (pc := 64) 1 d_K_fly_64 rfl rfl ?_
        refine G_get g (pc := 65) fa_K_18 (hw.m _ (ki_lt0 hp)) (hw.k (ki_lt0 hp) (ki_k0 hp)) d_K_fly_65 ?_
        refine G_mmin g (pc := 68) ma_K_65 ⟨(Nat.le_of_ble_eq_true rfl), (Nat.le_of_ble_eq_true rfl), (Nat.le_of_ble_eq_true rfl), (Nat.le_of_ble_eq_true rfl)⟩ d_K_fly_68 ?_
        refine G_put g (pc := 71) fa_K_15 fw_1_1 rfl rfl (hw.m _ (ki_lt0 hp)) (hw.k (ki_lt0 hp) (ki_k0 hp)) d_K_fly_71 ?_
        refine G_nmM (fun M9 => ?_)
        refine G_goto g (pc := 74) 94 d_K_fly_74 (by decide) ?_
        refine G_aload_n g (pc := 94) 1 d_K_fly_94 rfl rfl ?_
        refine G_cVV g (pc := 95) (As := []) (st := []) cc_K_74 (c_K_landOnGround l hw p hp M9) (hw.m _ (ki_lt0 hp)) (hw.k (ki_lt0 hp) (ki_k0 hp)) rfl (by decide) rfl ⟨(Nat.le_of_ble_eq_true rfl), (Nat.le_of_ble_eq_true rfl)⟩ ⟨(Nat.le_of_ble_eq_true rfl), (Nat.le_of_ble_eq_true rfl)⟩ (Nat.le_of_ble_eq_true rfl) d_K_fly_95 (fun M11 => ?_)
        exact G_return g (pc := 98) hret (Nat.le_of_ble_eq_true rfl) (Nat.le_of_ble_eq_true rfl) d_K_fly_98
    · refine G_aload_n g (pc := 46) 1 d_K_fly_46 rfl rfl ?_
      refine G_iload_n g (pc := 47) 2 d_K_fly_47 rfl rfl ?_
      refine G_cVV g (pc := 48) (As := [.int a1]) (st := []) cc_K_62 (c_K_fall l hw p hp a1 M5) (hw.m _ (ki_lt0 hp)) (hw.k (ki_lt0 hp) (ki_k0 hp)) rfl (by decide) rfl ⟨(Nat.le_of_ble_eq_true rfl), (Nat.le_of_ble_eq_true rfl)⟩ ⟨(Nat.le_of_ble_eq_true rfl), (Nat.le_of_ble_eq_true rfl)⟩ (Nat.le_of_ble_eq_true rfl) d_K_fly_48 (fun M13 => ?_)
      exact G_return g (pc := 51) hret (Nat.le_of_ble_eq_true rfl) (Nat.le_of_ble_eq_true rfl) d_K_fly_51
  · refine G_aload_n g (pc := 35) 1 d_K_fly_35 rfl rfl ?_
    refine G_get g (pc := 36) fa_K_30 (hw.m _ (ki_lt0 hp)) (hw.k (ki_lt0 hp) (ki_k0 hp)) d_K_fly_36 ?_
    refine G_aload_n g (pc := 39) 1 d_K_fly_39 rfl rfl ?_
    refine G_get g (pc := 40) fa_K_27 (hw.m _ (ki_lt0 hp)) (hw.k (ki_lt0 hp) (ki_k0 hp)) d_K_fly_40 ?_
    refine G_icmp_lt g (pc := 43) 52 d_K_fly_43 (by decide) ?_ ?_
    · refine G_iload_n g (pc := 52) 2 d_K_fly_52 rfl rfl ?_
      refine G_iconst g (pc := 53) (5 : Int32) d_K_fly_53 rfl ?_
      refine G_icmp_lt g (pc := 54) 77 d_K_fly_54 (by decide) ?_ ?_
      · refine G_aload_n g (pc := 77) 1 d_K_fly_77 rfl rfl ?_
        refine G_aload_n g (pc := 78) 1 d_K_fly_78 rfl rfl ?_
        refine G_get g (pc := 79) fa_K_15 (hw.m _ (ki_lt0 hp)) (hw.k (ki_lt0 hp) (ki_k0 hp)) d_K_fly_79 ?_
        refine G_bipush g (pc := 82) (6 : Int32) d_K_fly_82 rfl ?_
        refine G_iload_n g (pc := 84) 2 d_K_fly_84 rfl rfl ?_
        refine G_isub g (pc := 85) d_K_fly_85 ?_
        refine G_isub g (pc := 86) d_K_fly_86 ?_
        refine G_iconst g (pc := 87) (0 : Int32) d_K_fly_87 rfl ?_
        refine G_mmax g (pc := 88) ma_K_71 ⟨(Nat.le_of_ble_eq_true rfl), (Nat.le_of_ble_eq_true rfl), (Nat.le_of_ble_eq_true rfl), (Nat.le_of_ble_eq_true rfl)⟩ d_K_fly_88 ?_
        refine G_put g (pc := 91) fa_K_15 fw_1_1 rfl rfl (hw.m _ (ki_lt0 hp)) (hw.k (ki_lt0 hp) (ki_k0 hp)) d_K_fly_91 ?_
        refine G_nmM (fun M14 => ?_)
        refine G_aload_n g (pc := 94) 1 d_K_fly_94 rfl rfl ?_
        refine G_cVV g (pc := 95) (As := []) (st := []) cc_K_74 (c_K_landOnGround l hw p hp M14) (hw.m _ (ki_lt0 hp)) (hw.k (ki_lt0 hp) (ki_k0 hp)) rfl (by decide) rfl ⟨(Nat.le_of_ble_eq_true rfl), (Nat.le_of_ble_eq_true rfl)⟩ ⟨(Nat.le_of_ble_eq_true rfl), (Nat.le_of_ble_eq_true rfl)⟩ (Nat.le_of_ble_eq_true rfl) d_K_fly_95 (fun M16 => ?_)
        exact G_return g (pc := 98) hret (Nat.le_of_ble_eq_true rfl) (Nat.le_of_ble_eq_true rfl) d_K_fly_98
      · refine G_aload_n g (pc := 57) 1 d_K_fly_57 rfl rfl ?_
        refine G_aload_n g (pc := 58) 1 d_K_fly_58 rfl rfl ?_
        refine G_get g (pc := 59) fa_K_15 (hw.m _ (ki_lt0 hp)) (hw.k (ki_lt0 hp) (ki_k0 hp)) d_K_fly_59 ?_
        refine G_iload_n g (pc := 62) 2 d_K_fly_62 rfl rfl ?_
        refine G_iadd g (pc := 63) d_K_fly_63 ?_
        refine G_aload_n g (pc := 64) 1 d_K_fly_64 rfl rfl ?_
        refine G_get g (pc := 65) fa_K_18 (hw.m _ (ki_lt0 hp)) (hw.k (ki_lt0 hp) (ki_k0 hp)) d_K_fly_65 ?_
        refine G_mmin g (pc := 68) ma_K_65 ⟨(Nat.le_of_ble_eq_true rfl), (Nat.le_of_ble_eq_true rfl), (Nat.le_of_ble_eq_true rfl), (Nat.le_of_ble_eq_true rfl)⟩ d_K_fly_68 ?_
        refine G_put g (pc := 71) fa_K_15 fw_1_1 rfl rfl (hw.m _ (ki_lt0 hp)) (hw.k (ki_lt0 hp) (ki_k0 hp)) d_K_fly_71 ?_
        refine G_nmM (fun M17 => ?_)
        refine G_goto g (pc := 74) 94 d_K_fly_74 (by decide) ?_
        refine G_aload_n g (pc := 94) 1 d_K_fly_94 rfl rfl ?_
        refine G_cVV g (pc := 95) (As := []) (st := []) cc_K_74 (c_K_landOnGround l hw p hp M17) (hw.m _ (ki_lt0 hp)) (hw.k (ki_lt0 hp) (ki_k0 hp)) rfl (by decide) rfl ⟨(Nat.le_of_ble_eq_true rfl), (Nat.le_of_ble_eq_true rfl)⟩ ⟨(Nat.le_of_ble_eq_true rfl), (Nat.le_of_ble_eq_true rfl)⟩ (Nat.le_of_ble_eq_true rfl) d_K_fly_95 (fun M19 => ?_)
        exact G_return g (pc := 98) hret (Nat.le_of_ble_eq_true rfl) (Nat.le_of_ble_eq_true rfl) d_K_fly_98
    · refine G_aload_n g (pc := 46) 1 d_K_fly_46 rfl rfl ?_
      refine G_iload_n g (pc := 47) 2 d_K_fly_47 rfl rfl ?_
      refine G_cVV g (pc := 48) (As := [.int a1]) (st := []) cc_K_62 (c_K_fall l hw p hp a1 M3) (hw.m _ (ki_lt0 hp)) (hw.k (ki_lt0 hp) (ki_k0 hp)) rfl (by decide) rfl ⟨(Nat.le_of_ble_eq_true rfl), (Nat.le_of_ble_eq_true rfl)⟩ ⟨(Nat.le_of_ble_eq_true rfl), (Nat.le_of_ble_eq_true rfl)⟩ (Nat.le_of_ble_eq_true rfl) d_K_fly_48 (fun M21 => ?_)
      exact G_return g (pc := 51) hret (Nat.le_of_ble_eq_true rfl) (Nat.le_of_ble_eq_true rfl) d_K_fly_51

theorem d_K_passTick_0 : decode b_K_passTick 0 = .ok (.aload_n 0, 1) := by decide +kernel
theorem d_K_passTick_1 : decode b_K_passTick 1 = .ok (.getfield 9, 3) := by decide +kernel
theorem d_K_passTick_4 : decode b_K_passTick 4 = .ok (.iconst 1, 1) := by decide +kernel
theorem d_K_passTick_5 : decode b_K_passTick 5 = .ok (.if_icmp .ne 15, 3) := by decide +kernel
theorem d_K_passTick_8 : decode b_K_passTick 8 = .ok (.aload_n 0, 1) := by decide +kernel
theorem d_K_passTick_9 : decode b_K_passTick 9 = .ok (.aload_n 0, 1) := by decide +kernel
theorem d_K_passTick_10 : decode b_K_passTick 10 = .ok (.iload_n 1, 1) := by decide +kernel
theorem d_K_passTick_11 : decode b_K_passTick 11 = .ok (.invokevirtual 51, 3) := by decide +kernel
theorem d_K_passTick_14 : decode b_K_passTick 14 = .ok (.invokevirtual 55, 3) := by decide +kernel
theorem d_K_passTick_17 : decode b_K_passTick 17 = .ok (.goto 28, 3) := by decide +kernel
theorem d_K_passTick_20 : decode b_K_passTick 20 = .ok (.aload_n 0, 1) := by decide +kernel
theorem d_K_passTick_21 : decode b_K_passTick 21 = .ok (.getfield 9, 3) := by decide +kernel
theorem d_K_passTick_24 : decode b_K_passTick 24 = .ok (.iconst 2, 1) := by decide +kernel
theorem d_K_passTick_25 : decode b_K_passTick 25 = .ok (.if_icmp .ne 20, 3) := by decide +kernel
theorem d_K_passTick_28 : decode b_K_passTick 28 = .ok (.aload_n 0, 1) := by decide +kernel
theorem d_K_passTick_29 : decode b_K_passTick 29 = .ok (.getfield 36, 3) := by decide +kernel
theorem d_K_passTick_32 : decode b_K_passTick 32 = .ok (.ifCond .le 13, 3) := by decide +kernel
theorem d_K_passTick_35 : decode b_K_passTick 35 = .ok (.aload_n 0, 1) := by decide +kernel
theorem d_K_passTick_36 : decode b_K_passTick 36 = .ok (.dup, 1) := by decide +kernel
theorem d_K_passTick_37 : decode b_K_passTick 37 = .ok (.getfield 36, 3) := by decide +kernel
theorem d_K_passTick_40 : decode b_K_passTick 40 = .ok (.iconst 1, 1) := by decide +kernel
theorem d_K_passTick_41 : decode b_K_passTick 41 = .ok (.isub, 1) := by decide +kernel
theorem d_K_passTick_42 : decode b_K_passTick 42 = .ok (.putfield 36, 3) := by decide +kernel
theorem d_K_passTick_45 : decode b_K_passTick 45 = .ok (.return_, 1) := by decide +kernel
theorem cc_K_51 : CV "KiteLogger$Kite" 51 y_K_windOver b_K_windOver 2 (some .int) 1 := ⟨TT_in (i := 954) (by decide +kernel) (by decide +kernel), TT_in (i := 955) (by decide +kernel) (by decide +kernel), TT_in (i := 956) (by decide +kernel) (by decide +kernel), TT_in (i := 25) (by decide +kernel) (by decide +kernel), TT_in (i := 957) (by decide +kernel) (by decide +kernel), ⟨by decide +kernel, by decide +kernel, by decide +kernel⟩⟩
theorem cc_K_55 : CV "KiteLogger$Kite" 55 y_K_fly b_K_fly 3 none 1 := ⟨TT_in (i := 958) (by decide +kernel) (by decide +kernel), TT_in (i := 960) (by decide +kernel) (by decide +kernel), TT_in (i := 8) (by decide +kernel) (by decide +kernel), TT_in (i := 25) (by decide +kernel) (by decide +kernel), TT_in (i := 961) (by decide +kernel) (by decide +kernel), ⟨by decide +kernel, by decide +kernel, by decide +kernel⟩⟩
def f_K_passTick (p : Nat) (a1 : Int32) (M : Mem) : Option (Mem) :=
  if (M p 0) = (1 : Int32) then (bnd (f_K_windOver p a1 M) fun (x1 : Int32) (M2 : Mem) => bndM (f_K_fly p x1 M2) fun (M4 : Mem) => some M4) else (if (M p 0) = (2 : Int32) then (if 0 < (M p 8) then (nm (put M p 8 ((M p 8) - (1 : Int32))) fun (M5 : Mem) => some M5) else (some M)) else (some M))
set_option maxHeartbeats 4000000 in
set_option maxRecDepth 100000 in
theorem c_K_passTick (l : Launch) {w : Wc} {rr : Nat} (hw : WK w rr) (p : Nat) (hp : p ∈ kiL) (a1 : Int32) (M : Mem) : Ct QV l y_K_passTick b_K_passTick 2 none (rmL 2) w [.ref (wad w p), .int a1] M (f_K_passTick p a1 M) := by
  refine Ct.go (by decide) (L := [(0, .ref (wad w p)), (1, .int a1)]) rfl (Nat.le_of_ble_eq_true rfl) (fun p0 e s m args below meth c g hret => ?_)
  unfold f_K_passTick
  refine G_aload_n g (pc := 0) 0 d_K_passTick_0 rfl rfl ?_
  refine G_get g (pc := 1) fa_K_9 (hw.m _ (ki_lt0 hp)) (hw.k (ki_lt0 hp) (ki_k0 hp)) d_K_passTick_1 ?_
  refine G_iconst g (pc := 4) (1 : Int32) d_K_passTick_4 rfl ?_
  refine G_icmp_ne g (pc := 5) 20 d_K_passTick_5 (by decide) ?_ ?_
  · refine G_aload_n g (pc := 8) 0 d_K_passTick_8 rfl rfl ?_
    refine G_aload_n g (pc := 9) 0 d_K_passTick_9 rfl rfl ?_
    refine G_iload_n g (pc := 10) 1 d_K_passTick_10 rfl rfl ?_
    refine G_cVI g (pc := 11) (As := [.int a1]) (st := [.ref (wad w p)]) cc_K_51 (c_K_windOver l hw p hp a1 M) (hw.m _ (ki_lt0 hp)) (hw.k (ki_lt0 hp) (ki_k0 hp)) rfl (by decide) rfl ⟨(Nat.le_of_ble_eq_true rfl), (Nat.le_of_ble_eq_true rfl)⟩ ⟨(Nat.le_of_ble_eq_true rfl), (Nat.le_of_ble_eq_true rfl)⟩ (Nat.le_of_ble_eq_true rfl) d_K_passTick_11 (fun x1 M2 => ?_)
    refine G_cVV g (pc := 14) (As := [.int x1]) (st := []) cc_K_55 (c_K_fly l hw p hp x1 M2) (hw.m _ (ki_lt0 hp)) (hw.k (ki_lt0 hp) (ki_k0 hp)) rfl (by decide) rfl ⟨(Nat.le_of_ble_eq_true rfl), (Nat.le_of_ble_eq_true rfl)⟩ ⟨(Nat.le_of_ble_eq_true rfl), (Nat.le_of_ble_eq_true rfl)⟩ (Nat.le_of_ble_eq_true rfl) d_K_passTick_14 (fun M4 => ?_)
    refine G_goto g (pc := 17) 45 d_K_passTick_17 (by decide) ?_
    exact G_return g (pc := 45) hret (Nat.le_of_ble_eq_true rfl) (Nat.le_of_ble_eq_true rfl) d_K_passTick_45
  · refine G_aload_n g (pc := 20) 0 d_K_passTick_20 rfl rfl ?_
    refine G_get g (pc := 21) fa_K_9 (hw.m _ (ki_lt0 hp)) (hw.k (ki_lt0 hp) (ki_k0 hp)) d_K_passTick_21 ?_
    refine G_iconst g (pc := 24) (2 : Int32) d_K_passTick_24 rfl ?_
    refine G_icmp_ne g (pc := 25) 45 d_K_passTick_25 (by decide) ?_ ?_
    · refine G_aload_n g (pc := 28) 0 d_K_passTick_28 rfl rfl ?_
      refine G_get g (pc := 29) fa_K_36 (hw.m _ (ki_lt0 hp)) (hw.k (ki_lt0 hp) (ki_k0 hp)) d_K_passTick_29 ?_
      refine G_if_le g (pc := 32) 45 d_K_passTick_32 (by decide) ?_ ?_
      · refine G_aload_n g (pc := 35) 0 d_K_passTick_35 rfl rfl ?_
        refine G_dup g (pc := 36) d_K_passTick_36 rfl ?_
        refine G_get g (pc := 37) fa_K_36 (hw.m _ (ki_lt0 hp)) (hw.k (ki_lt0 hp) (ki_k0 hp)) d_K_passTick_37 ?_
        refine G_iconst g (pc := 40) (1 : Int32) d_K_passTick_40 rfl ?_
        refine G_isub g (pc := 41) d_K_passTick_41 ?_
        refine G_put g (pc := 42) fa_K_36 fw_1_8 rfl rfl (hw.m _ (ki_lt0 hp)) (hw.k (ki_lt0 hp) (ki_k0 hp)) d_K_passTick_42 ?_
        refine G_nmM (fun M5 => ?_)
        exact G_return g (pc := 45) hret (Nat.le_of_ble_eq_true rfl) (Nat.le_of_ble_eq_true rfl) d_K_passTick_45
      · exact G_return g (pc := 45) hret (Nat.le_of_ble_eq_true rfl) (Nat.le_of_ble_eq_true rfl) d_K_passTick_45
    · exact G_return g (pc := 45) hret (Nat.le_of_ble_eq_true rfl) (Nat.le_of_ble_eq_true rfl) d_K_passTick_45

theorem d_K_rise_0 : decode b_K_rise 0 = .ok (.aload_n 0, 1) := by decide +kernel
theorem d_K_rise_1 : decode b_K_rise 1 = .ok (.iconst 1, 1) := by decide +kernel
theorem d_K_rise_2 : decode b_K_rise 2 = .ok (.putfield 9, 3) := by decide +kernel
theorem d_K_rise_5 : decode b_K_rise 5 = .ok (.aload_n 0, 1) := by decide +kernel
theorem d_K_rise_6 : decode b_K_rise 6 = .ok (.bipush 10, 2) := by decide +kernel
theorem d_K_rise_8 : decode b_K_rise 8 = .ok (.putfield 15, 3) := by decide +kernel
theorem d_K_rise_11 : decode b_K_rise 11 = .ok (.aload_n 0, 1) := by decide +kernel
theorem d_K_rise_12 : decode b_K_rise 12 = .ok (.iconst 0, 1) := by decide +kernel
theorem d_K_rise_13 : decode b_K_rise 13 = .ok (.putfield 39, 3) := by decide +kernel
theorem d_K_rise_16 : decode b_K_rise 16 = .ok (.aload_n 0, 1) := by decide +kernel
theorem d_K_rise_17 : decode b_K_rise 17 = .ok (.dup, 1) := by decide +kernel
theorem d_K_rise_18 : decode b_K_rise 18 = .ok (.getfield 42, 3) := by decide +kernel
theorem d_K_rise_21 : decode b_K_rise 21 = .ok (.iconst 1, 1) := by decide +kernel
theorem d_K_rise_22 : decode b_K_rise 22 = .ok (.iadd, 1) := by decide +kernel
theorem d_K_rise_23 : decode b_K_rise 23 = .ok (.putfield 42, 3) := by decide +kernel
theorem d_K_rise_26 : decode b_K_rise 26 = .ok (.aload_n 0, 1) := by decide +kernel
theorem d_K_rise_27 : decode b_K_rise 27 = .ok (.getfield 42, 3) := by decide +kernel
theorem d_K_rise_30 : decode b_K_rise 30 = .ok (.ireturn, 1) := by decide +kernel
def f_K_rise (p : Nat) (M : Mem) : Option (Int32 × Mem) :=
  nm (put M p 0 (1 : Int32)) fun (M1 : Mem) => nm (put M1 p 1 (10 : Int32)) fun (M2 : Mem) => nm (put M2 p 9 (0 : Int32)) fun (M3 : Mem) => nm (put M3 p 10 ((M3 p 10) + (1 : Int32))) fun (M4 : Mem) => some (M4 p 10, M4)
set_option maxHeartbeats 4000000 in
set_option maxRecDepth 100000 in
theorem c_K_rise (l : Launch) {w : Wc} {rr : Nat} (hw : WK w rr) (p : Nat) (hp : p ∈ kiL) (M : Mem) : Ct QI l y_K_rise b_K_rise 1 (some .int) (rmL 0) w [.ref (wad w p)] M (f_K_rise p M) := by
  refine Ct.go (by decide) (L := [(0, .ref (wad w p))]) rfl (Nat.le_of_ble_eq_true rfl) (fun p0 e s m args below meth c g hret => ?_)
  unfold f_K_rise
  refine G_aload_n g (pc := 0) 0 d_K_rise_0 rfl rfl ?_
  refine G_iconst g (pc := 1) (1 : Int32) d_K_rise_1 rfl ?_
  refine G_put g (pc := 2) fa_K_9 fw_1_0 rfl rfl (hw.m _ (ki_lt0 hp)) (hw.k (ki_lt0 hp) (ki_k0 hp)) d_K_rise_2 ?_
  refine G_nmM (fun M1 => ?_)
  refine G_aload_n g (pc := 5) 0 d_K_rise_5 rfl rfl ?_
  refine G_bipush g (pc := 6) (10 : Int32) d_K_rise_6 rfl ?_
  refine G_put g (pc := 8) fa_K_15 fw_1_1 rfl rfl (hw.m _ (ki_lt0 hp)) (hw.k (ki_lt0 hp) (ki_k0 hp)) d_K_rise_8 ?_
  refine G_nmM (fun M2 => ?_)
  refine G_aload_n g (pc := 11) 0 d_K_rise_11 rfl rfl ?_
  refine G_iconst g (pc := 12) (0 : Int32) d_K_rise_12 rfl ?_
  refine G_put g (pc := 13) fa_K_39 fw_1_9 rfl rfl (hw.m _ (ki_lt0 hp)) (hw.k (ki_lt0 hp) (ki_k0 hp)) d_K_rise_13 ?_
  refine G_nmM (fun M3 => ?_)
  refine G_aload_n g (pc := 16) 0 d_K_rise_16 rfl rfl ?_
  refine G_dup g (pc := 17) d_K_rise_17 rfl ?_
  refine G_get g (pc := 18) fa_K_42 (hw.m _ (ki_lt0 hp)) (hw.k (ki_lt0 hp) (ki_k0 hp)) d_K_rise_18 ?_
  refine G_iconst g (pc := 21) (1 : Int32) d_K_rise_21 rfl ?_
  refine G_iadd g (pc := 22) d_K_rise_22 ?_
  refine G_put g (pc := 23) fa_K_42 fw_1_10 rfl rfl (hw.m _ (ki_lt0 hp)) (hw.k (ki_lt0 hp) (ki_k0 hp)) d_K_rise_23 ?_
  refine G_nmM (fun M4 => ?_)
  refine G_aload_n g (pc := 26) 0 d_K_rise_26 rfl rfl ?_
  refine G_get g (pc := 27) fa_K_42 (hw.m _ (ki_lt0 hp)) (hw.k (ki_lt0 hp) (ki_k0 hp)) d_K_rise_27 ?_
  exact G_ireturn g (pc := 30) hret (Nat.le_of_ble_eq_true rfl) (Nat.le_of_ble_eq_true rfl) d_K_rise_30

theorem d_K_lengthen_0 : decode b_K_lengthen 0 = .ok (.aload_n 0, 1) := by decide +kernel
theorem d_K_lengthen_1 : decode b_K_lengthen 1 = .ok (.dup, 1) := by decide +kernel
theorem d_K_lengthen_2 : decode b_K_lengthen 2 = .ok (.getfield 18, 3) := by decide +kernel
theorem d_K_lengthen_5 : decode b_K_lengthen 5 = .ok (.iload_n 1, 1) := by decide +kernel
theorem d_K_lengthen_6 : decode b_K_lengthen 6 = .ok (.iadd, 1) := by decide +kernel
theorem d_K_lengthen_7 : decode b_K_lengthen 7 = .ok (.putfield 18, 3) := by decide +kernel
theorem d_K_lengthen_10 : decode b_K_lengthen 10 = .ok (.aload_n 0, 1) := by decide +kernel
theorem d_K_lengthen_11 : decode b_K_lengthen 11 = .ok (.getfield 18, 3) := by decide +kernel
theorem d_K_lengthen_14 : decode b_K_lengthen 14 = .ok (.ireturn, 1) := by decide +kernel
def f_K_lengthen (p : Nat) (a1 : Int32) (M : Mem) : Option (Int32 × Mem) :=
  nm (put M p 2 ((M p 2) + a1)) fun (M1 : Mem) => some (M1 p 2, M1)
set_option maxHeartbeats 4000000 in
set_option maxRecDepth 100000 in
theorem c_K_lengthen (l : Launch) {w : Wc} {rr : Nat} (hw : WK w rr) (p : Nat) (hp : p ∈ kiL) (a1 : Int32) (M : Mem) : Ct QI l y_K_lengthen b_K_lengthen 2 (some .int) (rmL 0) w [.ref (wad w p), .int a1] M (f_K_lengthen p a1 M) := by
  refine Ct.go (by decide) (L := [(0, .ref (wad w p)), (1, .int a1)]) rfl (Nat.le_of_ble_eq_true rfl) (fun p0 e s m args below meth c g hret => ?_)
  unfold f_K_lengthen
  refine G_aload_n g (pc := 0) 0 d_K_lengthen_0 rfl rfl ?_
  refine G_dup g (pc := 1) d_K_lengthen_1 rfl ?_
  refine G_get g (pc := 2) fa_K_18 (hw.m _ (ki_lt0 hp)) (hw.k (ki_lt0 hp) (ki_k0 hp)) d_K_lengthen_2 ?_
  refine G_iload_n g (pc := 5) 1 d_K_lengthen_5 rfl rfl ?_
  refine G_iadd g (pc := 6) d_K_lengthen_6 ?_
  refine G_put g (pc := 7) fa_K_18 fw_1_2 rfl rfl (hw.m _ (ki_lt0 hp)) (hw.k (ki_lt0 hp) (ki_k0 hp)) d_K_lengthen_7 ?_
  refine G_nmM (fun M1 => ?_)
  refine G_aload_n g (pc := 10) 0 d_K_lengthen_10 rfl rfl ?_
  refine G_get g (pc := 11) fa_K_18 (hw.m _ (ki_lt0 hp)) (hw.k (ki_lt0 hp) (ki_k0 hp)) d_K_lengthen_11 ?_
  exact G_ireturn g (pc := 14) hret (Nat.le_of_ble_eq_true rfl) (Nat.le_of_ble_eq_true rfl) d_K_lengthen_14

theorem d_K_shorten_0 : decode b_K_shorten 0 = .ok (.aload_n 0, 1) := by decide +kernel
theorem d_K_shorten_1 : decode b_K_shorten 1 = .ok (.aload_n 0, 1) := by decide +kernel
theorem d_K_shorten_2 : decode b_K_shorten 2 = .ok (.getfield 18, 3) := by decide +kernel
theorem d_K_shorten_5 : decode b_K_shorten 5 = .ok (.iload_n 1, 1) := by decide +kernel
theorem d_K_shorten_6 : decode b_K_shorten 6 = .ok (.isub, 1) := by decide +kernel
theorem d_K_shorten_7 : decode b_K_shorten 7 = .ok (.iconst 0, 1) := by decide +kernel
theorem d_K_shorten_8 : decode b_K_shorten 8 = .ok (.invokestatic 71, 3) := by decide +kernel
theorem d_K_shorten_11 : decode b_K_shorten 11 = .ok (.putfield 18, 3) := by decide +kernel
theorem d_K_shorten_14 : decode b_K_shorten 14 = .ok (.aload_n 0, 1) := by decide +kernel
theorem d_K_shorten_15 : decode b_K_shorten 15 = .ok (.aload_n 0, 1) := by decide +kernel
theorem d_K_shorten_16 : decode b_K_shorten 16 = .ok (.getfield 15, 3) := by decide +kernel
theorem d_K_shorten_19 : decode b_K_shorten 19 = .ok (.aload_n 0, 1) := by decide +kernel
theorem d_K_shorten_20 : decode b_K_shorten 20 = .ok (.getfield 18, 3) := by decide +kernel
theorem d_K_shorten_23 : decode b_K_shorten 23 = .ok (.invokestatic 65, 3) := by decide +kernel
theorem d_K_shorten_26 : decode b_K_shorten 26 = .ok (.putfield 15, 3) := by decide +kernel
theorem d_K_shorten_29 : decode b_K_shorten 29 = .ok (.aload_n 0, 1) := by decide +kernel
theorem d_K_shorten_30 : decode b_K_shorten 30 = .ok (.invokevirtual 74, 3) := by decide +kernel
theorem d_K_shorten_33 : decode b_K_shorten 33 = .ok (.aload_n 0, 1) := by decide +kernel
theorem d_K_shorten_34 : decode b_K_shorten 34 = .ok (.getfield 18, 3) := by decide +kernel
theorem d_K_shorten_37 : decode b_K_shorten 37 = .ok (.ireturn, 1) := by decide +kernel
def f_K_shorten (p : Nat) (a1 : Int32) (M : Mem) : Option (Int32 × Mem) :=
  nm (put M p 2 (imax ((M p 2) - a1) (0 : Int32))) fun (M1 : Mem) => nm (put M1 p 1 (imin (M1 p 1) (M1 p 2))) fun (M2 : Mem) => bndM (f_K_landOnGround p M2) fun (M4 : Mem) => some (M4 p 2, M4)
set_option maxHeartbeats 4000000 in
set_option maxRecDepth 100000 in
theorem c_K_shorten (l : Launch) {w : Wc} {rr : Nat} (hw : WK w rr) (p : Nat) (hp : p ∈ kiL) (a1 : Int32) (M : Mem) : Ct QI l y_K_shorten b_K_shorten 2 (some .int) (rmL 1) w [.ref (wad w p), .int a1] M (f_K_shorten p a1 M) := by
  refine Ct.go (by decide) (L := [(0, .ref (wad w p)), (1, .int a1)]) rfl (Nat.le_of_ble_eq_true rfl) (fun p0 e s m args below meth c g hret => ?_)
  unfold f_K_shorten
  refine G_aload_n g (pc := 0) 0 d_K_shorten_0 rfl rfl ?_
  refine G_aload_n g (pc := 1) 0 d_K_shorten_1 rfl rfl ?_
  refine G_get g (pc := 2) fa_K_18 (hw.m _ (ki_lt0 hp)) (hw.k (ki_lt0 hp) (ki_k0 hp)) d_K_shorten_2 ?_
  refine G_iload_n g (pc := 5) 1 d_K_shorten_5 rfl rfl ?_
  refine G_isub g (pc := 6) d_K_shorten_6 ?_
  refine G_iconst g (pc := 7) (0 : Int32) d_K_shorten_7 rfl ?_
  refine G_mmax g (pc := 8) ma_K_71 ⟨(Nat.le_of_ble_eq_true rfl), (Nat.le_of_ble_eq_true rfl), (Nat.le_of_ble_eq_true rfl), (Nat.le_of_ble_eq_true rfl)⟩ d_K_shorten_8 ?_
  refine G_put g (pc := 11) fa_K_18 fw_1_2 rfl rfl (hw.m _ (ki_lt0 hp)) (hw.k (ki_lt0 hp) (ki_k0 hp)) d_K_shorten_11 ?_
  refine G_nmM (fun M1 => ?_)
  refine G_aload_n g (pc := 14) 0 d_K_shorten_14 rfl rfl ?_
  refine G_aload_n g (pc := 15) 0 d_K_shorten_15 rfl rfl ?_
  refine G_get g (pc := 16) fa_K_15 (hw.m _ (ki_lt0 hp)) (hw.k (ki_lt0 hp) (ki_k0 hp)) d_K_shorten_16 ?_
  refine G_aload_n g (pc := 19) 0 d_K_shorten_19 rfl rfl ?_
  refine G_get g (pc := 20) fa_K_18 (hw.m _ (ki_lt0 hp)) (hw.k (ki_lt0 hp) (ki_k0 hp)) d_K_shorten_20 ?_
  refine G_mmin g (pc := 23) ma_K_65 ⟨(Nat.le_of_ble_eq_true rfl), (Nat.le_of_ble_eq_true rfl), (Nat.le_of_ble_eq_true rfl), (Nat.le_of_ble_eq_true rfl)⟩ d_K_shorten_23 ?_
  refine G_put g (pc := 26) fa_K_15 fw_1_1 rfl rfl (hw.m _ (ki_lt0 hp)) (hw.k (ki_lt0 hp) (ki_k0 hp)) d_K_shorten_26 ?_
  refine G_nmM (fun M2 => ?_)
  refine G_aload_n g (pc := 29) 0 d_K_shorten_29 rfl rfl ?_
  refine G_cVV g (pc := 30) (As := []) (st := []) cc_K_74 (c_K_landOnGround l hw p hp M2) (hw.m _ (ki_lt0 hp)) (hw.k (ki_lt0 hp) (ki_k0 hp)) rfl (by decide) rfl ⟨(Nat.le_of_ble_eq_true rfl), (Nat.le_of_ble_eq_true rfl)⟩ ⟨(Nat.le_of_ble_eq_true rfl), (Nat.le_of_ble_eq_true rfl)⟩ (Nat.le_of_ble_eq_true rfl) d_K_shorten_30 (fun M4 => ?_)
  refine G_aload_n g (pc := 33) 0 d_K_shorten_33 rfl rfl ?_
  refine G_get g (pc := 34) fa_K_18 (hw.m _ (ki_lt0 hp)) (hw.k (ki_lt0 hp) (ki_k0 hp)) d_K_shorten_34 ?_
  exact G_ireturn g (pc := 37) hret (Nat.le_of_ble_eq_true rfl) (Nat.le_of_ble_eq_true rfl) d_K_shorten_37

theorem d_K_renewBridle_0 : decode b_K_renewBridle 0 = .ok (.aload_n 0, 1) := by decide +kernel
theorem d_K_renewBridle_1 : decode b_K_renewBridle 1 = .ok (.getfield 30, 3) := by decide +kernel
theorem d_K_renewBridle_4 : decode b_K_renewBridle 4 = .ok (.istore_n 3, 1) := by decide +kernel
theorem d_K_renewBridle_5 : decode b_K_renewBridle 5 = .ok (.aload_n 0, 1) := by decide +kernel
theorem d_K_renewBridle_6 : decode b_K_renewBridle 6 = .ok (.iload_n 1, 1) := by decide +kernel
theorem d_K_renewBridle_7 : decode b_K_renewBridle 7 = .ok (.putfield 24, 3) := by decide +kernel
theorem d_K_renewBridle_10 : decode b_K_renewBridle 10 = .ok (.aload_n 0, 1) := by decide +kernel
theorem d_K_renewBridle_11 : decode b_K_renewBridle 11 = .ok (.iload_n 2, 1) := by decide +kernel
theorem d_K_renewBridle_12 : decode b_K_renewBridle 12 = .ok (.putfield 27, 3) := by decide +kernel
theorem d_K_renewBridle_15 : decode b_K_renewBridle 15 = .ok (.aload_n 0, 1) := by decide +kernel
theorem d_K_renewBridle_16 : decode b_K_renewBridle 16 = .ok (.iconst 0, 1) := by decide +kernel
theorem d_K_renewBridle_17 : decode b_K_renewBridle 17 = .ok (.putfield 30, 3) := by decide +kernel
theorem d_K_renewBridle_20 : decode b_K_renewBridle 20 = .ok (.iload_n 3, 1) := by decide +kernel
theorem d_K_renewBridle_21 : decode b_K_renewBridle 21 = .ok (.ireturn, 1) := by decide +kernel
def f_K_renewBridle (p : Nat) (a1 : Int32) (a2 : Int32) (M : Mem) : Option (Int32 × Mem) :=
  nm (M p 6) fun (x1 : Int32) => nm (put M p 4 a1) fun (M2 : Mem) => nm (put M2 p 5 a2) fun (M3 : Mem) => nm (put M3 p 6 (0 : Int32)) fun (M4 : Mem) => some (x1, M4)
set_option maxHeartbeats 4000000 in
set_option maxRecDepth 100000 in
theorem c_K_renewBridle (l : Launch) {w : Wc} {rr : Nat} (hw : WK w rr) (p : Nat) (hp : p ∈ kiL) (a1 : Int32) (a2 : Int32) (M : Mem) : Ct QI l y_K_renewBridle b_K_renewBridle 4 (some .int) (rmL 0) w [.ref (wad w p), .int a1, .int a2] M (f_K_renewBridle p a1 a2 M) := by
  refine Ct.go (by decide) (L := [(0, .ref (wad w p)), (1, .int a1), (2, .int a2)]) rfl (Nat.le_of_ble_eq_true rfl) (fun p0 e s m args below meth c g hret => ?_)
  unfold f_K_renewBridle
  refine G_aload_n g (pc := 0) 0 d_K_renewBridle_0 rfl rfl ?_
  refine G_get g (pc := 1) fa_K_30 (hw.m _ (ki_lt0 hp)) (hw.k (ki_lt0 hp) (ki_k0 hp)) d_K_renewBridle_1 ?_
  refine G_nmI (fun x1 => ?_)
  refine G_istore_n g (pc := 4) _ d_K_renewBridle_4 rfl (Nat.le_of_ble_eq_true rfl) rfl ?_
  refine G_aload_n g (pc := 5) 1 d_K_renewBridle_5 rfl rfl ?_
  refine G_iload_n g (pc := 6) 2 d_K_renewBridle_6 rfl rfl ?_
  refine G_put g (pc := 7) fa_K_24 fw_1_4 rfl rfl (hw.m _ (ki_lt0 hp)) (hw.k (ki_lt0 hp) (ki_k0 hp)) d_K_renewBridle_7 ?_
  refine G_nmM (fun M2 => ?_)
  refine G_aload_n g (pc := 10) 1 d_K_renewBridle_10 rfl rfl ?_
  refine G_iload_n g (pc := 11) 3 d_K_renewBridle_11 rfl rfl ?_
  refine G_put g (pc := 12) fa_K_27 fw_1_5 rfl rfl (hw.m _ (ki_lt0 hp)) (hw.k (ki_lt0 hp) (ki_k0 hp)) d_K_renewBridle_12 ?_
  refine G_nmM (fun M3 => ?_)
  refine G_aload_n g (pc := 15) 1 d_K_renewBridle_15 rfl rfl ?_
  refine G_iconst g (pc := 16) (0 : Int32) d_K_renewBridle_16 rfl ?_
  refine G_put g (pc := 17) fa_K_30 fw_1_6 rfl rfl (hw.m _ (ki_lt0 hp)) (hw.k (ki_lt0 hp) (ki_k0 hp)) d_K_renewBridle_17 ?_
  refine G_nmM (fun M4 => ?_)
  refine G_iload_n g (pc := 20) 0 d_K_renewBridle_20 rfl rfl ?_
  exact G_ireturn g (pc := 21) hret (Nat.le_of_ble_eq_true rfl) (Nat.le_of_ble_eq_true rfl) d_K_renewBridle_21

theorem d_K_searchAt_0 : decode b_K_searchAt 0 = .ok (.aload_n 0, 1) := by decide +kernel
theorem d_K_searchAt_1 : decode b_K_searchAt 1 = .ok (.dup, 1) := by decide +kernel
theorem d_K_searchAt_2 : decode b_K_searchAt 2 = .ok (.getfield 48, 3) := by decide +kernel
theorem d_K_searchAt_5 : decode b_K_searchAt 5 = .ok (.iconst 1, 1) := by decide +kernel
theorem d_K_searchAt_6 : decode b_K_searchAt 6 = .ok (.iadd, 1) := by decide +kernel
theorem d_K_searchAt_7 : decode b_K_searchAt 7 = .ok (.putfield 48, 3) := by decide +kernel
theorem d_K_searchAt_10 : decode b_K_searchAt 10 = .ok (.iload_n 1, 1) := by decide +kernel
theorem d_K_searchAt_11 : decode b_K_searchAt 11 = .ok (.aload_n 0, 1) := by decide +kernel
theorem d_K_searchAt_12 : decode b_K_searchAt 12 = .ok (.getfield 33, 3) := by decide +kernel
theorem d_K_searchAt_15 : decode b_K_searchAt 15 = .ok (.isub, 1) := by decide +kernel
theorem d_K_searchAt_16 : decode b_K_searchAt 16 = .ok (.invokestatic 77, 3) := by decide +kernel
theorem d_K_searchAt_19 : decode b_K_searchAt 19 = .ok (.istore_n 2, 1) := by decide +kernel
theorem d_K_searchAt_20 : decode b_K_searchAt 20 = .ok (.aload_n 0, 1) := by decide +kernel
theorem d_K_searchAt_21 : decode b_K_searchAt 21 = .ok (.getfield 36, 3) := by decide +kernel
theorem d_K_searchAt_24 : decode b_K_searchAt 24 = .ok (.iconst 1, 1) := by decide +kernel
theorem d_K_searchAt_25 : decode b_K_searchAt 25 = .ok (.if_icmp .ge 7, 3) := by decide +kernel
theorem d_K_searchAt_28 : decode b_K_searchAt 28 = .ok (.iconst 1, 1) := by decide +kernel
theorem d_K_searchAt_29 : decode b_K_searchAt 29 = .ok (.goto 4, 3) := by decide +kernel
theorem d_K_searchAt_32 : decode b_K_searchAt 32 = .ok (.iconst 0, 1) := by decide +kernel
theorem d_K_searchAt_33 : decode b_K_searchAt 33 = .ok (.istore_n 3, 1) := by decide +kernel
theorem d_K_searchAt_34 : decode b_K_searchAt 34 = .ok (.iload_n 2, 1) := by decide +kernel
theorem d_K_searchAt_35 : decode b_K_searchAt 35 = .ok (.iload_n 3, 1) := by decide +kernel
theorem d_K_searchAt_36 : decode b_K_searchAt 36 = .ok (.ifCond .eq 7, 3) := by decide +kernel
theorem d_K_searchAt_39 : decode b_K_searchAt 39 = .ok (.iconst 3, 1) := by decide +kernel
theorem d_K_searchAt_40 : decode b_K_searchAt 40 = .ok (.goto 5, 3) := by decide +kernel
theorem d_K_searchAt_43 : decode b_K_searchAt 43 = .ok (.bipush 20, 2) := by decide +kernel
theorem d_K_searchAt_45 : decode b_K_searchAt 45 = .ok (.if_icmp .gt 15, 3) := by decide +kernel
theorem d_K_searchAt_48 : decode b_K_searchAt 48 = .ok (.aload_n 0, 1) := by decide +kernel
theorem d_K_searchAt_49 : decode b_K_searchAt 49 = .ok (.iconst 0, 1) := by decide +kernel
theorem d_K_searchAt_50 : decode b_K_searchAt 50 = .ok (.putfield 9, 3) := by decide +kernel
theorem d_K_searchAt_53 : decode b_K_searchAt 53 = .ok (.aload_n 0, 1) := by decide +kernel
theorem d_K_searchAt_54 : decode b_K_searchAt 54 = .ok (.iconst 0, 1) := by decide +kernel
theorem d_K_searchAt_55 : decode b_K_searchAt 55 = .ok (.putfield 36, 3) := by decide +kernel
theorem d_K_searchAt_58 : decode b_K_searchAt 58 = .ok (.iconst 0, 1) := by decide +kernel
theorem d_K_searchAt_59 : decode b_K_searchAt 59 = .ok (.ireturn, 1) := by decide +kernel
theorem d_K_searchAt_60 : decode b_K_searchAt 60 = .ok (.iload_n 3, 1) := by decide +kernel
theorem d_K_searchAt_61 : decode b_K_searchAt 61 = .ok (.ifCond .eq 7, 3) := by decide +kernel
theorem d_K_searchAt_64 : decode b_K_searchAt 64 = .ok (.iconst (-1), 1) := by decide +kernel
theorem d_K_searchAt_65 : decode b_K_searchAt 65 = .ok (.goto 7, 3) := by decide +kernel
theorem d_K_searchAt_68 : decode b_K_searchAt 68 = .ok (.iload_n 2, 1) := by decide +kernel
theorem d_K_searchAt_69 : decode b_K_searchAt 69 = .ok (.bipush 20, 2) := by decide +kernel
theorem d_K_searchAt_71 : decode b_K_searchAt 71 = .ok (.idiv, 1) := by decide +kernel
theorem d_K_searchAt_72 : decode b_K_searchAt 72 = .ok (.ireturn, 1) := by decide +kernel
theorem ma_K_77 : Cond.methodLink "KiteLogger$Kite" 77 Lib.Math.abs.name ∈ TT ∧ Cond.static Lib.Math.abs.name ∈ TT ∧ Cond.initialized "java/lang/Math" ∈ TT ∧ Cond.code Lib.Math.abs.name Lib.Math.abs.code 1 (some .int) ∈ TT := ⟨TT_in (i := 1073) (by decide +kernel) (by decide +kernel), TT_in (i := 1009) (by decide +kernel) (by decide +kernel), TT_in (i := 21) (by decide +kernel) (by decide +kernel), TT_in (i := 1010) (by decide +kernel) (by decide +kernel)⟩
def f_K_searchAt (p : Nat) (a1 : Int32) (M : Mem) : Option (Int32 × Mem) :=
  nm (put M p 12 ((M p 12) + (1 : Int32))) fun (M1 : Mem) => nm (iabs (a1 - (M1 p 7))) fun (x2 : Int32) => jn (fun (x4 : Bool) (M5 : Mem) => jn (fun (x7 : Int32) (M8 : Mem) => if x2 ≤ x7 then (nm (put M8 p 0 (0 : Int32)) fun (M9 : Mem) => nm (put M9 p 8 (0 : Int32)) fun (M10 : Mem) => some ((0 : Int32), M10)) else (if x4 = true then (some ((-1 : Int32), M8)) else (some (x2 / (20 : Int32), M8)))) (fun j6 => if x4 = true then (j6 (3 : Int32) M5) else (j6 (20 : Int32) M5))) (fun j3 => if (M1 p 8) < (1 : Int32) then (j3 true M1) else (j3 false M1))
set_option maxHeartbeats 4000000 in
set_option maxRecDepth 100000 in
theorem c_K_searchAt (l : Launch) {w : Wc} {rr : Nat} (hw : WK w rr) (p : Nat) (hp : p ∈ kiL) (a1 : Int32) (M : Mem) : Ct QI l y_K_searchAt b_K_searchAt 4 (some .int) (rmL 1) w [.ref (wad w p), .int a1] M (f_K_searchAt p a1 M) := by
  refine Ct.go (by decide) (L := [(0, .ref (wad w p)), (1, .int a1)]) rfl (Nat.le_of_ble_eq_true rfl) (fun p0 e s m args below meth c g hret => ?_)
  unfold f_K_searchAt
  refine G_aload_n g (pc := 0) 0 d_K_searchAt_0 rfl rfl ?_
  refine G_dup g (pc := 1) d_K_searchAt_1 rfl ?_
  refine G_get g (pc := 2) fa_K_48 (hw.m _ (ki_lt0 hp)) (hw.k (ki_lt0 hp) (ki_k0 hp)) d_K_searchAt_2 ?_
  refine G_iconst g (pc := 5) (1 : Int32) d_K_searchAt_5 rfl ?_
  refine G_iadd g (pc := 6) d_K_searchAt_6 ?_
  refine G_put g (pc := 7) fa_K_48 fw_1_12 rfl rfl (hw.m _ (ki_lt0 hp)) (hw.k (ki_lt0 hp) (ki_k0 hp)) d_K_searchAt_7 ?_
  refine G_nmM (fun M1 => ?_)
  refine G_iload_n g (pc := 10) 1 d_K_searchAt_10 rfl rfl ?_
  refine G_aload_n g (pc := 11) 0 d_K_searchAt_11 rfl rfl ?_
  refine G_get g (pc := 12) fa_K_33 (hw.m _ (ki_lt0 hp)) (hw.k (ki_lt0 hp) (ki_k0 hp)) d_K_searchAt_12 ?_
  refine G_isub g (pc := 15) d_K_searchAt_15 ?_
  refine G_mabs g (pc := 16) ma_K_77 ⟨(Nat.le_of_ble_eq_true rfl), (Nat.le_of_ble_eq_true rfl), (Nat.le_of_ble_eq_true rfl), (Nat.le_of_ble_eq_true rfl)⟩ d_K_searchAt_16 ?_
  refine G_nmI (fun x2 => ?_)
  refine G_istore_n g (pc := 19) _ d_K_searchAt_19 rfl (Nat.le_of_ble_eq_true rfl) rfl ?_
  refine G_aload_n g (pc := 20) 1 d_K_searchAt_20 rfl rfl ?_
  refine G_get g (pc := 21) fa_K_36 (hw.m _ (ki_lt0 hp)) (hw.k (ki_lt0 hp) (ki_k0 hp)) d_K_searchAt_21 ?_
  refine G_iconst g (pc := 24) (1 : Int32) d_K_searchAt_24 rfl ?_
  refine G_jn 33 (fun _ => [(2, .int x2), (0, .ref (wad w p)), (1, .int a1)]) (fun (x4 : Bool) => [.int (b2i x4)]) (fun x4 M5 => ?_) (fun j3 hj3 => ?_)
  · refine G_istore_n g (pc := 33) _ d_K_searchAt_33 rfl (Nat.le_of_ble_eq_true rfl) rfl ?_
    refine G_iload_n g (pc := 34) 1 d_K_searchAt_34 rfl rfl ?_
    refine G_iload_n g (pc := 35) 0 d_K_searchAt_35 rfl rfl ?_
    refine G_jn 45 (fun _ => [(3, .int (b2i x4)), (2, .int x2), (0, .ref (wad w p)), (1, .int a1)]) (fun (x7 : Int32) => [.int x7, .int x2]) (fun x7 M8 => ?_) (fun j6 hj6 => ?_)
    · refine G_icmp_gt g (pc := 45) 60 d_K_searchAt_45 (by decide) ?_ ?_
      · refine G_aload_n g (pc := 48) 2 d_K_searchAt_48 rfl rfl ?_
        refine G_iconst g (pc := 49) (0 : Int32) d_K_searchAt_49 rfl ?_
        refine G_put g (pc := 50) fa_K_9 fw_1_0 rfl rfl (hw.m _ (ki_lt0 hp)) (hw.k (ki_lt0 hp) (ki_k0 hp)) d_K_searchAt_50 ?_
        refine G_nmM (fun M9 => ?_)
        refine G_aload_n g (pc := 53) 2 d_K_searchAt_53 rfl rfl ?_
        refine G_iconst g (pc := 54) (0 : Int32) d_K_searchAt_54 rfl ?_
        refine G_put g (pc := 55) fa_K_36 fw_1_8 rfl rfl (hw.m _ (ki_lt0 hp)) (hw.k (ki_lt0 hp) (ki_k0 hp)) d_K_searchAt_55 ?_
        refine G_nmM (fun M10 => ?_)
        refine G_iconst g (pc := 58) (0 : Int32) d_K_searchAt_58 rfl ?_
        exact G_ireturn g (pc := 59) hret (Nat.le_of_ble_eq_true rfl) (Nat.le_of_ble_eq_true rfl) d_K_searchAt_59
      · refine G_iload_n g (pc := 60) 0 d_K_searchAt_60 rfl rfl ?_
        refine G_if_eqB g (pc := 61) 68 d_K_searchAt_61 (by decide) ?_ ?_
        · refine G_iconst g (pc := 64) (-1 : Int32) d_K_searchAt_64 rfl ?_
          refine G_goto g (pc := 65) 72 d_K_searchAt_65 (by decide) ?_
          exact G_ireturn g (pc := 72) hret (Nat.le_of_ble_eq_true rfl) (Nat.le_of_ble_eq_true rfl) d_K_searchAt_72
        · refine G_iload_n g (pc := 68) 1 d_K_searchAt_68 rfl rfl ?_
          refine G_bipush g (pc := 69) (20 : Int32) d_K_searchAt_69 rfl ?_
          refine G_idivK g (pc := 71) (by decide) d_K_searchAt_71 ?_
          exact G_ireturn g (pc := 72) hret (Nat.le_of_ble_eq_true rfl) (Nat.le_of_ble_eq_true rfl) d_K_searchAt_72
    · refine G_if_eqB g (pc := 36) 43 d_K_searchAt_36 (by decide) ?_ ?_
      · refine G_iconst g (pc := 39) (3 : Int32) d_K_searchAt_39 rfl ?_
        refine G_goto g (pc := 40) 45 d_K_searchAt_40 (by decide) ?_
        refine G_sub [0, 1, 2, 3] _ rfl ?_
        exact hj6 (3 : Int32) M5
      · refine G_bipush g (pc := 43) (20 : Int32) d_K_searchAt_43 rfl ?_
        refine G_sub [0, 1, 2, 3] _ rfl ?_
        exact hj6 (20 : Int32) M5
  · refine G_icmp_ge g (pc := 25) 32 d_K_searchAt_25 (by decide) ?_ ?_
    · refine G_iconst g (pc := 28) (1 : Int32) d_K_searchAt_28 rfl ?_
      refine G_goto g (pc := 29) 33 d_K_searchAt_29 (by decide) ?_
      refine G_sub [0, 1, 2] _ rfl ?_
      exact hj3 true M1
    · refine G_iconst g (pc := 32) (0 : Int32) d_K_searchAt_32 rfl ?_
      refine G_sub [0, 1, 2] _ rfl ?_
      exact hj3 false M1
