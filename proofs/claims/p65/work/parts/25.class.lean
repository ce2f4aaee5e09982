theorem d_G_refuseLength_0 : decode b_G_refuseLength 0 = .ok (.iload_n 1, 1) := by decide +kernel
theorem d_G_refuseLength_1 : decode b_G_refuseLength 1 = .ok (.ifCond .lt 14, 3) := by decide +kernel
theorem d_G_refuseLength_4 : decode b_G_refuseLength 4 = .ok (.iload_n 1, 1) := by decide +kernel
theorem d_G_refuseLength_5 : decode b_G_refuseLength 5 = .ok (.aload_n 0, 1) := by decide +kernel
theorem d_G_refuseLength_6 : decode b_G_refuseLength 6 = .ok (.getfield 12, 3) := by decide +kernel
theorem d_G_refuseLength_9 : decode b_G_refuseLength 9 = .ok (.getfield 77, 3) := by decide +kernel
theorem d_G_refuseLength_12 : decode b_G_refuseLength 12 = .ok (.if_icmp .le 14, 3) := by decide +kernel
theorem d_G_refuseLength_15 : decode b_G_refuseLength 15 = .ok (.new 296, 3) := by decide +kernel
theorem d_G_refuseLength_18 : decode b_G_refuseLength 18 = .ok (.dup, 1) := by decide +kernel
theorem d_G_refuseLength_19 : decode b_G_refuseLength 19 = .ok (.ldc_w 306, 3) := by decide +kernel
theorem d_G_refuseLength_22 : decode b_G_refuseLength 22 = .ok (.invokespecial 300, 3) := by decide +kernel
theorem d_G_refuseLength_25 : decode b_G_refuseLength 25 = .ok (.athrow, 1) := by decide +kernel
theorem d_G_refuseLength_26 : decode b_G_refuseLength 26 = .ok (.return_, 1) := by decide +kernel
def f_G_refuseLength (a1 : Int32) (M : Mem) : Option (Mem) :=
  if a1 < 0 then (none) else (if (M 1 1) < a1 then (none) else (some M))
set_option maxHeartbeats 4000000 in
set_option maxRecDepth 100000 in
theorem c_G_refuseLength (l : Launch) {w : Wc} {rr : Nat} (hw : WK w rr) (a1 : Int32) (M : Mem) : Ct QV l y_G_refuseLength b_G_refuseLength 2 none (rmL 0) w [.ref (wad w 0), .int a1] M (f_G_refuseLength a1 M) := by
  refine Ct.go (by decide) (L := [(0, .ref (wad w 0)), (1, .int a1)]) rfl (Nat.le_of_ble_eq_true rfl) (fun p0 e s m args below meth c g hret => ?_)
  unfold f_G_refuseLength
  refine G_iload_n g (pc := 0) 1 d_G_refuseLength_0 rfl rfl ?_
  refine G_if_lt g (pc := 1) 15 d_G_refuseLength_1 (by decide) ?_ ?_
  · exact G_none
  · refine G_iload_n g (pc := 4) 1 d_G_refuseLength_4 rfl rfl ?_
    refine G_aload_n g (pc := 5) 0 d_G_refuseLength_5 rfl rfl ?_
    refine G_getR g (pc := 6) fa_G_12 (hw.m 0 (Nat.le_of_ble_eq_true rfl)) (hw.k (Nat.le_of_ble_eq_true rfl) (zk0 rr)) (hw.r (Nat.le_of_ble_eq_true rfl) (zr0_0 rr)) d_G_refuseLength_6 ?_
    refine G_getN g (pc := 9) fa_G_77 (hw.m 1 (Nat.le_of_ble_eq_true rfl)) (hw.k (Nat.le_of_ble_eq_true rfl) (zk1 rr)) d_G_refuseLength_9 ?_
    refine G_icmp_le g (pc := 12) 26 d_G_refuseLength_12 (by decide) ?_ ?_
    · exact G_none
    · exact G_return g (pc := 26) hret (Nat.le_of_ble_eq_true rfl) (Nat.le_of_ble_eq_true rfl) d_G_refuseLength_26

theorem d_G_refuseOutside_0 : decode b_G_refuseOutside 0 = .ok (.iload_n 0, 1) := by decide +kernel
theorem d_G_refuseOutside_1 : decode b_G_refuseOutside 1 = .ok (.iload_n 1, 1) := by decide +kernel
theorem d_G_refuseOutside_2 : decode b_G_refuseOutside 2 = .ok (.iload_n 2, 1) := by decide +kernel
theorem d_G_refuseOutside_3 : decode b_G_refuseOutside 3 = .ok (.invokestatic 308, 3) := by decide +kernel
theorem d_G_refuseOutside_6 : decode b_G_refuseOutside 6 = .ok (.ifCond .eq 14, 3) := by decide +kernel
theorem d_G_refuseOutside_9 : decode b_G_refuseOutside 9 = .ok (.new 296, 3) := by decide +kernel
theorem d_G_refuseOutside_12 : decode b_G_refuseOutside 12 = .ok (.dup, 1) := by decide +kernel
theorem d_G_refuseOutside_13 : decode b_G_refuseOutside 13 = .ok (.ldc_w 298, 3) := by decide +kernel
theorem d_G_refuseOutside_16 : decode b_G_refuseOutside 16 = .ok (.invokespecial 300, 3) := by decide +kernel
theorem d_G_refuseOutside_19 : decode b_G_refuseOutside 19 = .ok (.athrow, 1) := by decide +kernel
theorem d_G_refuseOutside_20 : decode b_G_refuseOutside 20 = .ok (.return_, 1) := by decide +kernel
theorem cc_G_308 : CS "KiteLogger" 308 y_G_isOutside b_G_isOutside 3 (some .boolean) 3 := ⟨TT_in (i := 895) (by decide +kernel) (by decide +kernel), TT_in (i := 575) (by decide +kernel) (by decide +kernel), TT_in (i := 18) (by decide +kernel) (by decide +kernel), TT_in (i := 576) (by decide +kernel) (by decide +kernel), ⟨by decide +kernel, by decide +kernel, by decide +kernel⟩⟩
def f_G_refuseOutside (a1 : Int32) (a2 : Int32) (a3 : Int32) (M : Mem) : Option (Mem) :=
  bnd (f_G_isOutside a1 a2 a3 M) fun (x1 : Bool) (M2 : Mem) => if x1 = true then (none) else (some M2)
set_option maxHeartbeats 4000000 in
set_option maxRecDepth 100000 in
theorem c_G_refuseOutside (l : Launch) {w : Wc} {rr : Nat} (hw : WK w rr) (a1 : Int32) (a2 : Int32) (a3 : Int32) (M : Mem) : Ct QV l y_G_refuseOutside b_G_refuseOutside 3 none (rmL 1) w [.int a1, .int a2, .int a3] M (f_G_refuseOutside a1 a2 a3 M) := by
  refine Ct.go (by decide) (L := [(0, .int a1), (1, .int a2), (2, .int a3)]) rfl (Nat.le_of_ble_eq_true rfl) (fun p0 e s m args below meth c g hret => ?_)
  unfold f_G_refuseOutside
  refine G_iload_n g (pc := 0) 0 d_G_refuseOutside_0 rfl rfl ?_
  refine G_iload_n g (pc := 1) 1 d_G_refuseOutside_1 rfl rfl ?_
  refine G_iload_n g (pc := 2) 2 d_G_refuseOutside_2 rfl rfl ?_
  refine G_cSZ g (pc := 3) (As := [.int a1, .int a2, .int a3]) (st := []) cc_G_308 (c_G_isOutside l hw a1 a2 a3 M) rfl ⟨(Nat.le_of_ble_eq_true rfl), (Nat.le_of_ble_eq_true rfl)⟩ ⟨(Nat.le_of_ble_eq_true rfl), (Nat.le_of_ble_eq_true rfl)⟩ (Nat.le_of_ble_eq_true rfl) d_G_refuseOutside_3 (fun x1 M2 => ?_)
  refine G_if_eqB g (pc := 6) 20 d_G_refuseOutside_6 (by decide) ?_ ?_
  · exact G_none
  · exact G_return g (pc := 20) hret (Nat.le_of_ble_eq_true rfl) (Nat.le_of_ble_eq_true rfl) d_G_refuseOutside_20

theorem d_G_refuseMissing_0 : decode b_G_refuseMissing 0 = .ok (.aload_n 0, 1) := by decide +kernel
theorem d_G_refuseMissing_1 : decode b_G_refuseMissing 1 = .ok (.iload_n 1, 1) := by decide +kernel
theorem d_G_refuseMissing_2 : decode b_G_refuseMissing 2 = .ok (.invokevirtual 312, 3) := by decide +kernel
theorem d_G_refuseMissing_5 : decode b_G_refuseMissing 5 = .ok (.ifCond .ne 14, 3) := by decide +kernel
theorem d_G_refuseMissing_8 : decode b_G_refuseMissing 8 = .ok (.new 272, 3) := by decide +kernel
theorem d_G_refuseMissing_11 : decode b_G_refuseMissing 11 = .ok (.dup, 1) := by decide +kernel
theorem d_G_refuseMissing_12 : decode b_G_refuseMissing 12 = .ok (.ldc_w 313, 3) := by decide +kernel
theorem d_G_refuseMissing_15 : decode b_G_refuseMissing 15 = .ok (.invokespecial 276, 3) := by decide +kernel
theorem d_G_refuseMissing_18 : decode b_G_refuseMissing 18 = .ok (.athrow, 1) := by decide +kernel
theorem d_G_refuseMissing_19 : decode b_G_refuseMissing 19 = .ok (.return_, 1) := by decide +kernel
theorem cc_G_312 : CV "KiteLogger" 312 y_S_has b_S_has 2 (some .boolean) 1 := ⟨TT_in (i := 797) (by decide +kernel) (by decide +kernel), TT_in (i := 798) (by decide +kernel) (by decide +kernel), TT_in (i := 799) (by decide +kernel) (by decide +kernel), TT_in (i := 27) (by decide +kernel) (by decide +kernel), TT_in (i := 800) (by decide +kernel) (by decide +kernel), ⟨by decide +kernel, by decide +kernel, by decide +kernel⟩⟩
def f_G_refuseMissing (a1 : Nat) (a2 : Int32) (M : Mem) : Option (Mem) :=
  bnd (f_S_has a1 a2 M) fun (x1 : Bool) (M2 : Mem) => if x1 = true then (some M2) else (none)
set_option maxHeartbeats 4000000 in
set_option maxRecDepth 100000 in
theorem c_G_refuseMissing (l : Launch) {w : Wc} {rr : Nat} (hw : WK w rr) (a1 : Nat) (ha1 : a1 ∈ saL) (a2 : Int32) (M : Mem) : Ct QV l y_G_refuseMissing b_G_refuseMissing 2 none (rmL 1) w [.ref (wad w a1), .int a2] M (f_G_refuseMissing a1 a2 M) := by
  refine Ct.go (by decide) (L := [(0, .ref (wad w a1)), (1, .int a2)]) rfl (Nat.le_of_ble_eq_true rfl) (fun p0 e s m args below meth c g hret => ?_)
  unfold f_G_refuseMissing
  refine G_aload_n g (pc := 0) 0 d_G_refuseMissing_0 rfl rfl ?_
  refine G_iload_n g (pc := 1) 1 d_G_refuseMissing_1 rfl rfl ?_
  refine G_cVZ g (pc := 2) (As := [.int a2]) (st := []) cc_G_312 (c_S_has l hw a1 ha1 a2 M) (hw.m _ (sa_lt0 ha1)) (hw.k (sa_lt0 ha1) (sa_k0 ha1)) rfl (by decide) rfl ⟨(Nat.le_of_ble_eq_true rfl), (Nat.le_of_ble_eq_true rfl)⟩ ⟨(Nat.le_of_ble_eq_true rfl), (Nat.le_of_ble_eq_true rfl)⟩ (Nat.le_of_ble_eq_true rfl) d_G_refuseMissing_2 (fun x1 M2 => ?_)
  refine G_if_neB g (pc := 5) 19 d_G_refuseMissing_5 (by decide) ?_ ?_
  · exact G_return g (pc := 19) hret (Nat.le_of_ble_eq_true rfl) (Nat.le_of_ble_eq_true rfl) d_G_refuseMissing_19
  · exact G_none

theorem d_G_change_0 : decode b_G_change 0 = .ok (.aload_n 0, 1) := by decide +kernel
theorem d_G_change_1 : decode b_G_change 1 = .ok (.getfield 33, 3) := by decide +kernel
theorem d_G_change_4 : decode b_G_change 4 = .ok (.iload_n 1, 1) := by decide +kernel
theorem d_G_change_5 : decode b_G_change 5 = .ok (.iload_n 2, 1) := by decide +kernel
theorem d_G_change_6 : decode b_G_change 6 = .ok (.iload_n 3, 1) := by decide +kernel
theorem d_G_change_7 : decode b_G_change 7 = .ok (.invokevirtual 293, 3) := by decide +kernel
theorem d_G_change_10 : decode b_G_change 10 = .ok (.istore 4, 2) := by decide +kernel
theorem d_G_change_12 : decode b_G_change 12 = .ok (.iload 4, 2) := by decide +kernel
theorem d_G_change_14 : decode b_G_change 14 = .ok (.iconst 1, 1) := by decide +kernel
theorem d_G_change_15 : decode b_G_change 15 = .ok (.if_icmp .ne 14, 3) := by decide +kernel
theorem d_G_change_18 : decode b_G_change 18 = .ok (.new 296, 3) := by decide +kernel
theorem d_G_change_21 : decode b_G_change 21 = .ok (.dup, 1) := by decide +kernel
theorem d_G_change_22 : decode b_G_change 22 = .ok (.ldc_w 298, 3) := by decide +kernel
theorem d_G_change_25 : decode b_G_change 25 = .ok (.invokespecial 300, 3) := by decide +kernel
theorem d_G_change_28 : decode b_G_change 28 = .ok (.athrow, 1) := by decide +kernel
theorem d_G_change_29 : decode b_G_change 29 = .ok (.iload 4, 2) := by decide +kernel
theorem d_G_change_31 : decode b_G_change 31 = .ok (.iconst 2, 1) := by decide +kernel
theorem d_G_change_32 : decode b_G_change 32 = .ok (.if_icmp .ne 14, 3) := by decide +kernel
theorem d_G_change_35 : decode b_G_change 35 = .ok (.new 281, 3) := by decide +kernel
theorem d_G_change_38 : decode b_G_change 38 = .ok (.dup, 1) := by decide +kernel
theorem d_G_change_39 : decode b_G_change 39 = .ok (.ldc_w 301, 3) := by decide +kernel
theorem d_G_change_42 : decode b_G_change 42 = .ok (.invokespecial 285, 3) := by decide +kernel
theorem d_G_change_45 : decode b_G_change 45 = .ok (.athrow, 1) := by decide +kernel
theorem d_G_change_46 : decode b_G_change 46 = .ok (.aload_n 0, 1) := by decide +kernel
theorem d_G_change_47 : decode b_G_change 47 = .ok (.getfield 47, 3) := by decide +kernel
theorem d_G_change_50 : decode b_G_change 50 = .ok (.aload_n 0, 1) := by decide +kernel
theorem d_G_change_51 : decode b_G_change 51 = .ok (.getfield 33, 3) := by decide +kernel
theorem d_G_change_54 : decode b_G_change 54 = .ok (.invokevirtual 253, 3) := by decide +kernel
theorem d_G_change_57 : decode b_G_change 57 = .ok (.aload_n 0, 1) := by decide +kernel
theorem d_G_change_58 : decode b_G_change 58 = .ok (.getfield 33, 3) := by decide +kernel
theorem d_G_change_61 : decode b_G_change 61 = .ok (.iload_n 1, 1) := by decide +kernel
theorem d_G_change_62 : decode b_G_change 62 = .ok (.iload_n 2, 1) := by decide +kernel
theorem d_G_change_63 : decode b_G_change 63 = .ok (.iload_n 3, 1) := by decide +kernel
theorem d_G_change_64 : decode b_G_change 64 = .ok (.invokevirtual 303, 3) := by decide +kernel
theorem d_G_change_67 : decode b_G_change 67 = .ok (.ireturn, 1) := by decide +kernel
theorem cc_G_293 : CV "KiteLogger" 293 y_T_faultOf b_T_faultOf 4 (some .int) 3 := ⟨TT_in (i := 1026) (by decide +kernel) (by decide +kernel), TT_in (i := 1027) (by decide +kernel) (by decide +kernel), TT_in (i := 1028) (by decide +kernel) (by decide +kernel), TT_in (i := 24) (by decide +kernel) (by decide +kernel), TT_in (i := 1029) (by decide +kernel) (by decide +kernel), ⟨by decide +kernel, by decide +kernel, by decide +kernel⟩⟩
theorem cc_G_253 : CV "KiteLogger" 253 y_H_remember b_H_remember 3 none 1 := ⟨TT_in (i := 1040) (by decide +kernel) (by decide +kernel), TT_in (i := 1041) (by decide +kernel) (by decide +kernel), TT_in (i := 1042) (by decide +kernel) (by decide +kernel), TT_in (i := 28) (by decide +kernel) (by decide +kernel), TT_in (i := 1043) (by decide +kernel) (by decide +kernel), ⟨by decide +kernel, by decide +kernel, by decide +kernel⟩⟩
theorem cc_G_303 : CV "KiteLogger" 303 y_T_perform b_T_perform 4 (some .int) 3 := ⟨TT_in (i := 1045) (by decide +kernel) (by decide +kernel), TT_in (i := 1046) (by decide +kernel) (by decide +kernel), TT_in (i := 1047) (by decide +kernel) (by decide +kernel), TT_in (i := 24) (by decide +kernel) (by decide +kernel), TT_in (i := 1048) (by decide +kernel) (by decide +kernel), ⟨by decide +kernel, by decide +kernel, by decide +kernel⟩⟩
def f_G_change (N : Nat) (rr : Nat) (a1 : Int32) (a2 : Int32) (a3 : Int32) (M : Mem) : Option (Int32 × Mem) :=
  bnd (f_T_faultOf 10 a1 a2 a3 M) fun (x1 : Int32) (M2 : Mem) => if x1 = (1 : Int32) then (none) else (if x1 = (2 : Int32) then (none) else (bndM (f_H_remember rr 10 M2) fun (M4 : Mem) => bnd (f_T_perform N rr 10 a1 a2 a3 M4) fun (x5 : Int32) (M6 : Mem) => some (x5, M6)))
set_option maxHeartbeats 4000000 in
set_option maxRecDepth 100000 in
theorem c_G_change (l : Launch) (N : Nat) {w : Wc} {rr : Nat} (hw : WK w rr) (a1 : Int32) (a2 : Int32) (a3 : Int32) (M : Mem) : Ct QI l y_G_change b_G_change 5 (some .int) (rmL 6) w [.ref (wad w 0), .int a1, .int a2, .int a3] M (f_G_change N rr a1 a2 a3 M) := by
  refine Ct.go (by decide) (L := [(0, .ref (wad w 0)), (1, .int a1), (2, .int a2), (3, .int a3)]) rfl (Nat.le_of_ble_eq_true rfl) (fun p0 e s m args below meth c g hret => ?_)
  unfold f_G_change
  refine G_aload_n g (pc := 0) 0 d_G_change_0 rfl rfl ?_
  refine G_getR g (pc := 1) fa_G_33 (hw.m 0 (Nat.le_of_ble_eq_true rfl)) (hw.k (Nat.le_of_ble_eq_true rfl) (zk0 rr)) (hw.r (Nat.le_of_ble_eq_true rfl) (zr0_3 rr)) d_G_change_1 ?_
  refine G_iload_n g (pc := 4) 1 d_G_change_4 rfl rfl ?_
  refine G_iload_n g (pc := 5) 2 d_G_change_5 rfl rfl ?_
  refine G_iload_n g (pc := 6) 3 d_G_change_6 rfl rfl ?_
  refine G_cVI g (pc := 7) (As := [.int a1, .int a2, .int a3]) (st := []) cc_G_293 (c_T_faultOf l hw 10 (List.elem_iff.mp (rfl : List.elem 10 stL = true)) a1 a2 a3 M) (hw.m 10 (Nat.le_of_ble_eq_true rfl)) (hw.k (Nat.le_of_ble_eq_true rfl) (zk10 rr)) rfl (by decide) rfl ⟨(Nat.le_of_ble_eq_true rfl), (Nat.le_of_ble_eq_true rfl)⟩ ⟨(Nat.le_of_ble_eq_true rfl), (Nat.le_of_ble_eq_true rfl)⟩ (Nat.le_of_ble_eq_true rfl) d_G_change_7 (fun x1 M2 => ?_)
  refine G_istore g (pc := 10) _ d_G_change_10 (Nat.le_of_ble_eq_true rfl) rfl ?_
  refine G_iload g (pc := 12) 0 d_G_change_12 rfl ?_
  refine G_iconst g (pc := 14) (1 : Int32) d_G_change_14 rfl ?_
  refine G_icmp_ne g (pc := 15) 29 d_G_change_15 (by decide) ?_ ?_
  · exact G_none
  · refine G_iload g (pc := 29) 0 d_G_change_29 rfl ?_
    refine G_iconst g (pc := 31) (2 : Int32) d_G_change_31 rfl ?_
    refine G_icmp_ne g (pc := 32) 46 d_G_change_32 (by decide) ?_ ?_
    · exact G_none
    · refine G_aload_n g (pc := 46) 1 d_G_change_46 rfl rfl ?_
      refine G_getR g (pc := 47) fa_G_47 (hw.m 0 (Nat.le_of_ble_eq_true rfl)) (hw.k (Nat.le_of_ble_eq_true rfl) (zk0 rr)) (hw.r (Nat.le_of_ble_eq_true rfl) (zr0_5 rr)) d_G_change_47 ?_
      refine G_aload_n g (pc := 50) 1 d_G_change_50 rfl rfl ?_
      refine G_getR g (pc := 51) fa_G_33 (hw.m 0 (Nat.le_of_ble_eq_true rfl)) (hw.k (Nat.le_of_ble_eq_true rfl) (zk0 rr)) (hw.r (Nat.le_of_ble_eq_true rfl) (zr0_3 rr)) d_G_change_51 ?_
      refine G_cVV g (pc := 54) (As := [.ref (wad w 10)]) (st := []) cc_G_253 (c_H_remember l hw 10 (List.elem_iff.mp (rfl : List.elem 10 stL = true)) M2) (hw.m 24 (Nat.le_of_ble_eq_true rfl)) (hw.k (Nat.le_of_ble_eq_true rfl) (zk24 rr)) rfl (by decide) rfl ⟨(Nat.le_of_ble_eq_true rfl), (Nat.le_of_ble_eq_true rfl)⟩ ⟨(Nat.le_of_ble_eq_true rfl), (Nat.le_of_ble_eq_true rfl)⟩ (Nat.le_of_ble_eq_true rfl) d_G_change_54 (fun M4 => ?_)
      refine G_aload_n g (pc := 57) 1 d_G_change_57 rfl rfl ?_
      refine G_getR g (pc := 58) fa_G_33 (hw.m 0 (Nat.le_of_ble_eq_true rfl)) (hw.k (Nat.le_of_ble_eq_true rfl) (zk0 rr)) (hw.r (Nat.le_of_ble_eq_true rfl) (zr0_3 rr)) d_G_change_58 ?_
      refine G_iload_n g (pc := 61) 2 d_G_change_61 rfl rfl ?_
      refine G_iload_n g (pc := 62) 3 d_G_change_62 rfl rfl ?_
      refine G_iload_n g (pc := 63) 4 d_G_change_63 rfl rfl ?_
      refine G_cVI g (pc := 64) (As := [.int a1, .int a2, .int a3]) (st := []) cc_G_303 (c_T_perform l N hw 10 (List.elem_iff.mp (rfl : List.elem 10 stL = true)) a1 a2 a3 M4) (hw.m 10 (Nat.le_of_ble_eq_true rfl)) (hw.k (Nat.le_of_ble_eq_true rfl) (zk10 rr)) rfl (by decide) rfl ⟨(Nat.le_of_ble_eq_true rfl), (Nat.le_of_ble_eq_true rfl)⟩ ⟨(Nat.le_of_ble_eq_true rfl), (Nat.le_of_ble_eq_true rfl)⟩ (Nat.le_of_ble_eq_true rfl) d_G_change_64 (fun x5 M6 => ?_)
      exact G_ireturn g (pc := 67) hret (Nat.le_of_ble_eq_true rfl) (Nat.le_of_ble_eq_true rfl) d_G_change_67

theorem d_G_appendText_0 : decode b_G_appendText 0 = .ok (.aload_n 0, 1) := by decide +kernel
theorem d_G_appendText_1 : decode b_G_appendText 1 = .ok (.getfield 12, 3) := by decide +kernel
theorem d_G_appendText_4 : decode b_G_appendText 4 = .ok (.bipush 20, 2) := by decide +kernel
theorem d_G_appendText_6 : decode b_G_appendText 6 = .ok (.invokevirtual 69, 3) := by decide +kernel
theorem d_G_appendText_9 : decode b_G_appendText 9 = .ok (.ifCond .ne 5, 3) := by decide +kernel
theorem d_G_appendText_12 : decode b_G_appendText 12 = .ok (.iconst (-1), 1) := by decide +kernel
theorem d_G_appendText_13 : decode b_G_appendText 13 = .ok (.ireturn, 1) := by decide +kernel
theorem d_G_appendText_14 : decode b_G_appendText 14 = .ok (.aload_n 0, 1) := by decide +kernel
theorem d_G_appendText_15 : decode b_G_appendText 15 = .ok (.getfield 12, 3) := by decide +kernel
theorem d_G_appendText_18 : decode b_G_appendText 18 = .ok (.iload_n 1, 1) := by decide +kernel
theorem d_G_appendText_19 : decode b_G_appendText 19 = .ok (.invokevirtual 73, 3) := by decide +kernel
theorem d_G_appendText_22 : decode b_G_appendText 22 = .ok (.aload_n 0, 1) := by decide +kernel
theorem d_G_appendText_23 : decode b_G_appendText 23 = .ok (.getfield 12, 3) := by decide +kernel
theorem d_G_appendText_26 : decode b_G_appendText 26 = .ok (.iload_n 2, 1) := by decide +kernel
theorem d_G_appendText_27 : decode b_G_appendText 27 = .ok (.invokevirtual 73, 3) := by decide +kernel
theorem d_G_appendText_30 : decode b_G_appendText 30 = .ok (.aload_n 0, 1) := by decide +kernel
theorem d_G_appendText_31 : decode b_G_appendText 31 = .ok (.getfield 12, 3) := by decide +kernel
theorem d_G_appendText_34 : decode b_G_appendText 34 = .ok (.iload_n 3, 1) := by decide +kernel
theorem d_G_appendText_35 : decode b_G_appendText 35 = .ok (.invokevirtual 73, 3) := by decide +kernel
theorem d_G_appendText_38 : decode b_G_appendText 38 = .ok (.aload_n 0, 1) := by decide +kernel
theorem d_G_appendText_39 : decode b_G_appendText 39 = .ok (.getfield 12, 3) := by decide +kernel
theorem d_G_appendText_42 : decode b_G_appendText 42 = .ok (.iload 4, 2) := by decide +kernel
theorem d_G_appendText_44 : decode b_G_appendText 44 = .ok (.invokevirtual 73, 3) := by decide +kernel
theorem d_G_appendText_47 : decode b_G_appendText 47 = .ok (.aload_n 0, 1) := by decide +kernel
theorem d_G_appendText_48 : decode b_G_appendText 48 = .ok (.getfield 12, 3) := by decide +kernel
theorem d_G_appendText_51 : decode b_G_appendText 51 = .ok (.iload 5, 2) := by decide +kernel
theorem d_G_appendText_53 : decode b_G_appendText 53 = .ok (.invokevirtual 73, 3) := by decide +kernel
theorem d_G_appendText_56 : decode b_G_appendText 56 = .ok (.aload_n 0, 1) := by decide +kernel
theorem d_G_appendText_57 : decode b_G_appendText 57 = .ok (.getfield 12, 3) := by decide +kernel
theorem d_G_appendText_60 : decode b_G_appendText 60 = .ok (.getfield 77, 3) := by decide +kernel
theorem d_G_appendText_63 : decode b_G_appendText 63 = .ok (.ireturn, 1) := by decide +kernel
theorem cc_G_69 : CV "KiteLogger" 69 y_X_hasRoomFor b_X_hasRoomFor 2 (some .boolean) 1 := ⟨TT_in (i := 681) (by decide +kernel) (by decide +kernel), TT_in (i := 682) (by decide +kernel) (by decide +kernel), TT_in (i := 683) (by decide +kernel) (by decide +kernel), TT_in (i := 19) (by decide +kernel) (by decide +kernel), TT_in (i := 684) (by decide +kernel) (by decide +kernel), ⟨by decide +kernel, by decide +kernel, by decide +kernel⟩⟩
theorem cc_G_73 : CV "KiteLogger" 73 y_X_appendFour b_X_appendFour 3 none 1 := ⟨TT_in (i := 685) (by decide +kernel) (by decide +kernel), TT_in (i := 686) (by decide +kernel) (by decide +kernel), TT_in (i := 687) (by decide +kernel) (by decide +kernel), TT_in (i := 19) (by decide +kernel) (by decide +kernel), TT_in (i := 688) (by decide +kernel) (by decide +kernel), ⟨by decide +kernel, by decide +kernel, by decide +kernel⟩⟩
def f_G_appendText (N : Nat) (rr : Nat) (a1 : Int32) (a2 : Int32) (a3 : Int32) (a4 : Int32) (a5 : Int32) (M : Mem) : Option (Int32 × Mem) :=
  bnd (f_X_hasRoomFor (20 : Int32) M) fun (x1 : Bool) (M2 : Mem) => if x1 = true then (bndM (f_X_appendFour N rr a1 M2) fun (M4 : Mem) => bndM (f_X_appendFour N rr a2 M4) fun (M6 : Mem) => bndM (f_X_appendFour N rr a3 M6) fun (M8 : Mem) => bndM (f_X_appendFour N rr a4 M8) fun (M10 : Mem) => bndM (f_X_appendFour N rr a5 M10) fun (M12 : Mem) => some (M12 1 1, M12)) else (some ((-1 : Int32), M2))
set_option maxHeartbeats 4000000 in
set_option maxRecDepth 100000 in
theorem c_G_appendText (l : Launch) (N : Nat) {w : Wc} {rr : Nat} (hw : WK w rr) (a1 : Int32) (a2 : Int32) (a3 : Int32) (a4 : Int32) (a5 : Int32) (M : Mem) : Ct QI l y_G_appendText b_G_appendText 6 (some .int) (rmL 1) w [.ref (wad w 0), .int a1, .int a2, .int a3, .int a4, .int a5] M (f_G_appendText N rr a1 a2 a3 a4 a5 M) := by
  refine Ct.go (by decide) (L := [(0, .ref (wad w 0)), (1, .int a1), (2, .int a2), (3, .int a3), (4, .int a4), (5, .int a5)]) rfl (Nat.le_of_ble_eq_true rfl) (fun p0 e s m args below meth c g hret => ?_)
  unfold f_G_appendText
  refine G_aload_n g (pc := 0) 0 d_G_appendText_0 rfl rfl ?_
  refine G_getR g (pc := 1) fa_G_12 (hw.m 0 (Nat.le_of_ble_eq_true rfl)) (hw.k (Nat.le_of_ble_eq_true rfl) (zk0 rr)) (hw.r (Nat.le_of_ble_eq_true rfl) (zr0_0 rr)) d_G_appendText_1 ?_
  refine G_bipush g (pc := 4) (20 : Int32) d_G_appendText_4 rfl ?_
  refine G_cVZ g (pc := 6) (As := [.int (20 : Int32)]) (st := []) cc_G_69 (c_X_hasRoomFor l hw (20 : Int32) M) (hw.m 1 (Nat.le_of_ble_eq_true rfl)) (hw.k (Nat.le_of_ble_eq_true rfl) (zk1 rr)) rfl (by decide) rfl ⟨(Nat.le_of_ble_eq_true rfl), (Nat.le_of_ble_eq_true rfl)⟩ ⟨(Nat.le_of_ble_eq_true rfl), (Nat.le_of_ble_eq_true rfl)⟩ (Nat.le_of_ble_eq_true rfl) d_G_appendText_6 (fun x1 M2 => ?_)
  refine G_if_neB g (pc := 9) 14 d_G_appendText_9 (by decide) ?_ ?_
  · refine G_aload_n g (pc := 14) 0 d_G_appendText_14 rfl rfl ?_
    refine G_getR g (pc := 15) fa_G_12 (hw.m 0 (Nat.le_of_ble_eq_true rfl)) (hw.k (Nat.le_of_ble_eq_true rfl) (zk0 rr)) (hw.r (Nat.le_of_ble_eq_true rfl) (zr0_0 rr)) d_G_appendText_15 ?_
    refine G_iload_n g (pc := 18) 1 d_G_appendText_18 rfl rfl ?_
    refine G_cVV g (pc := 19) (As := [.int a1]) (st := []) cc_G_73 (c_X_appendFour l N hw a1 M2) (hw.m 1 (Nat.le_of_ble_eq_true rfl)) (hw.k (Nat.le_of_ble_eq_true rfl) (zk1 rr)) rfl (by decide) rfl ⟨(Nat.le_of_ble_eq_true rfl), (Nat.le_of_ble_eq_true rfl)⟩ ⟨(Nat.le_of_ble_eq_true rfl), (Nat.le_of_ble_eq_true rfl)⟩ (Nat.le_of_ble_eq_true rfl) d_G_appendText_19 (fun M4 => ?_)
    refine G_aload_n g (pc := 22) 0 d_G_appendText_22 rfl rfl ?_
    refine G_getR g (pc := 23) fa_G_12 (hw.m 0 (Nat.le_of_ble_eq_true rfl)) (hw.k (Nat.le_of_ble_eq_true rfl) (zk0 rr)) (hw.r (Nat.le_of_ble_eq_true rfl) (zr0_0 rr)) d_G_appendText_23 ?_
    refine G_iload_n g (pc := 26) 2 d_G_appendText_26 rfl rfl ?_
    refine G_cVV g (pc := 27) (As := [.int a2]) (st := []) cc_G_73 (c_X_appendFour l N hw a2 M4) (hw.m 1 (Nat.le_of_ble_eq_true rfl)) (hw.k (Nat.le_of_ble_eq_true rfl) (zk1 rr)) rfl (by decide) rfl ⟨(Nat.le_of_ble_eq_true rfl), (Nat.le_of_ble_eq_true rfl)⟩ ⟨(Nat.le_of_ble_eq_true rfl), (Nat.le_of_ble_eq_true rfl)⟩ (Nat.le_of_ble_eq_true rfl) d_G_appendText_27 (fun M6 => ?_)
    refine G_aload_n g (pc := 30) 0 d_G_appendText_30 rfl rfl ?_
    refine G_getR g (pc := 31) fa_G_12 (hw.m 0 (Nat.le_of_ble_eq_true rfl)) (hw.k (Nat.le_of_ble_eq_true rfl) (zk0 rr)) (hw.r (Nat.le_of_ble_eq_true rfl) (zr0_0 rr)) d_G_appendText_31 ?_
    refine G_iload_n g (pc := 34) 3 d_G_appendText_34 rfl rfl ?_
    refine G_cVV g (pc := 35) (As := [.int a3]) (st := []) cc_G_73 (c_X_appendFour l N hw a3 M6) (hw.m 1 (Nat.le_of_ble_eq_true rfl)) (hw.k (Nat.le_of_ble_eq_true rfl) (zk1 rr)) rfl (by decide) rfl ⟨(Nat.le_of_ble_eq_true rfl), (Nat.le_of_ble_eq_true rfl)⟩ ⟨(Nat.le_of_ble_eq_true rfl), (Nat.le_of_ble_eq_true rfl)⟩ (Nat.le_of_ble_eq_true rfl) d_G_appendText_35 (fun M8 => ?_)
    refine G_aload_n g (pc := 38) 0 d_G_appendText_38 rfl rfl ?_
    refine G_getR g (pc := 39) fa_G_12 (hw.m 0 (Nat.le_of_ble_eq_true rfl)) (hw.k (Nat.le_of_ble_eq_true rfl) (zk0 rr)) (hw.r (Nat.le_of_ble_eq_true rfl) (zr0_0 rr)) d_G_appendText_39 ?_
    refine G_iload g (pc := 42) 4 d_G_appendText_42 rfl ?_
    refine G_cVV g (pc := 44) (As := [.int a4]) (st := []) cc_G_73 (c_X_appendFour l N hw a4 M8) (hw.m 1 (Nat.le_of_ble_eq_true rfl)) (hw.k (Nat.le_of_ble_eq_true rfl) (zk1 rr)) rfl (by decide) rfl ⟨(Nat.le_of_ble_eq_true rfl), (Nat.le_of_ble_eq_true rfl)⟩ ⟨(Nat.le_of_ble_eq_true rfl), (Nat.le_of_ble_eq_true rfl)⟩ (Nat.le_of_ble_eq_true rfl) d_G_appendText_44 (fun M10 => ?_)
    refine G_aload_n g (pc := 47) 0 d_G_appendText_47 rfl rfl ?_
    refine G_getR g (pc := 48) fa_G_12 (hw.m 0 (Nat.le_of_ble_eq_true rfl)) (hw.k (Nat.le_of_ble_eq_true rfl) (zk0 rr)) (hw.r (Nat.le_of_ble_eq_true rfl) (zr0_0 rr)) d_G_appendText_48 ?_
    refine G_iload g (pc := 51) 5 d_G_appendText_51 rfl ?_
    refine G_cVV g (pc := 53) (As := [.int a5]) (st := []) cc_G_73 (c_X_appendFour l N hw a5 M10) (hw.m 1 (Nat.le_of_ble_eq_true rfl)) (hw.k (Nat.le_of_ble_eq_true rfl) (zk1 rr)) rfl (by decide) rfl ⟨(Nat.le_of_ble_eq_true rfl), (Nat.le_of_ble_eq_true rfl)⟩ ⟨(Nat.le_of_ble_eq_true rfl), (Nat.le_of_ble_eq_true rfl)⟩ (Nat.le_of_ble_eq_true rfl) d_G_appendText_53 (fun M12 => ?_)
    refine G_aload_n g (pc := 56) 0 d_G_appendText_56 rfl rfl ?_
    refine G_getR g (pc := 57) fa_G_12 (hw.m 0 (Nat.le_of_ble_eq_true rfl)) (hw.k (Nat.le_of_ble_eq_true rfl) (zk0 rr)) (hw.r (Nat.le_of_ble_eq_true rfl) (zr0_0 rr)) d_G_appendText_57 ?_
    refine G_getN g (pc := 60) fa_G_77 (hw.m 1 (Nat.le_of_ble_eq_true rfl)) (hw.k (Nat.le_of_ble_eq_true rfl) (zk1 rr)) d_G_appendText_60 ?_
    exact G_ireturn g (pc := 63) hret (Nat.le_of_ble_eq_true rfl) (Nat.le_of_ble_eq_true rfl) d_G_appendText_63
  · refine G_iconst g (pc := 12) (-1 : Int32) d_G_appendText_12 rfl ?_
    exact G_ireturn g (pc := 13) hret (Nat.le_of_ble_eq_true rfl) (Nat.le_of_ble_eq_true rfl) d_G_appendText_13

theorem d_G_loadStation_0 : decode b_G_loadStation 0 = .ok (.aload_n 0, 1) := by decide +kernel
theorem d_G_loadStation_1 : decode b_G_loadStation 1 = .ok (.iload_n 1, 1) := by decide +kernel
theorem d_G_loadStation_2 : decode b_G_loadStation 2 = .ok (.invokevirtual 81, 3) := by decide +kernel
theorem d_G_loadStation_5 : decode b_G_loadStation 5 = .ok (.aload_n 0, 1) := by decide +kernel
theorem d_G_loadStation_6 : decode b_G_loadStation 6 = .ok (.getfield 19, 3) := by decide +kernel
theorem d_G_loadStation_9 : decode b_G_loadStation 9 = .ok (.aload_n 0, 1) := by decide +kernel
theorem d_G_loadStation_10 : decode b_G_loadStation 10 = .ok (.getfield 12, 3) := by decide +kernel
theorem d_G_loadStation_13 : decode b_G_loadStation 13 = .ok (.iload_n 1, 1) := by decide +kernel
theorem d_G_loadStation_14 : decode b_G_loadStation 14 = .ok (.invokevirtual 84, 3) := by decide +kernel
theorem d_G_loadStation_17 : decode b_G_loadStation 17 = .ok (.istore_n 2, 1) := by decide +kernel
theorem d_G_loadStation_18 : decode b_G_loadStation 18 = .ok (.aload_n 0, 1) := by decide +kernel
theorem d_G_loadStation_19 : decode b_G_loadStation 19 = .ok (.getfield 12, 3) := by decide +kernel
theorem d_G_loadStation_22 : decode b_G_loadStation 22 = .ok (.iconst 0, 1) := by decide +kernel
theorem d_G_loadStation_23 : decode b_G_loadStation 23 = .ok (.putfield 77, 3) := by decide +kernel
theorem d_G_loadStation_26 : decode b_G_loadStation 26 = .ok (.iload_n 2, 1) := by decide +kernel
theorem d_G_loadStation_27 : decode b_G_loadStation 27 = .ok (.ifCond .ne 5, 3) := by decide +kernel
theorem d_G_loadStation_30 : decode b_G_loadStation 30 = .ok (.iconst (-1), 1) := by decide +kernel
theorem d_G_loadStation_31 : decode b_G_loadStation 31 = .ok (.ireturn, 1) := by decide +kernel
theorem d_G_loadStation_32 : decode b_G_loadStation 32 = .ok (.aload_n 0, 1) := by decide +kernel
theorem d_G_loadStation_33 : decode b_G_loadStation 33 = .ok (.getfield 33, 3) := by decide +kernel
theorem d_G_loadStation_36 : decode b_G_loadStation 36 = .ok (.aload_n 0, 1) := by decide +kernel
theorem d_G_loadStation_37 : decode b_G_loadStation 37 = .ok (.getfield 19, 3) := by decide +kernel
theorem d_G_loadStation_40 : decode b_G_loadStation 40 = .ok (.invokevirtual 65, 3) := by decide +kernel
theorem d_G_loadStation_43 : decode b_G_loadStation 43 = .ok (.aload_n 0, 1) := by decide +kernel
theorem d_G_loadStation_44 : decode b_G_loadStation 44 = .ok (.getfield 47, 3) := by decide +kernel
theorem d_G_loadStation_47 : decode b_G_loadStation 47 = .ok (.invokevirtual 88, 3) := by decide +kernel
theorem d_G_loadStation_50 : decode b_G_loadStation 50 = .ok (.aload_n 0, 1) := by decide +kernel
theorem d_G_loadStation_51 : decode b_G_loadStation 51 = .ok (.iconst 0, 1) := by decide +kernel
theorem d_G_loadStation_52 : decode b_G_loadStation 52 = .ok (.putfield 54, 3) := by decide +kernel
theorem d_G_loadStation_55 : decode b_G_loadStation 55 = .ok (.aload_n 0, 1) := by decide +kernel
theorem d_G_loadStation_56 : decode b_G_loadStation 56 = .ok (.getfield 33, 3) := by decide +kernel
theorem d_G_loadStation_59 : decode b_G_loadStation 59 = .ok (.getfield 91, 3) := by decide +kernel
theorem d_G_loadStation_62 : decode b_G_loadStation 62 = .ok (.ireturn, 1) := by decide +kernel
theorem cc_G_81 : CV "KiteLogger" 81 y_G_refuseLength b_G_refuseLength 2 none 1 := ⟨TT_in (i := 406) (by decide +kernel) (by decide +kernel), TT_in (i := 408) (by decide +kernel) (by decide +kernel), TT_in (i := 0) (by decide +kernel) (by decide +kernel), TT_in (i := 18) (by decide +kernel) (by decide +kernel), TT_in (i := 409) (by decide +kernel) (by decide +kernel), ⟨by decide +kernel, by decide +kernel, by decide +kernel⟩⟩
theorem cc_G_84 : CV "KiteLogger" 84 y_P_read b_P_read 3 (some .boolean) 2 := ⟨TT_in (i := 477) (by decide +kernel) (by decide +kernel), TT_in (i := 478) (by decide +kernel) (by decide +kernel), TT_in (i := 479) (by decide +kernel) (by decide +kernel), TT_in (i := 20) (by decide +kernel) (by decide +kernel), TT_in (i := 480) (by decide +kernel) (by decide +kernel), ⟨by decide +kernel, by decide +kernel, by decide +kernel⟩⟩
theorem cc_G_65 : CV "KiteLogger" 65 y_T_setUp b_T_setUp 2 none 1 := ⟨TT_in (i := 353) (by decide +kernel) (by decide +kernel), TT_in (i := 354) (by decide +kernel) (by decide +kernel), TT_in (i := 355) (by decide +kernel) (by decide +kernel), TT_in (i := 24) (by decide +kernel) (by decide +kernel), TT_in (i := 356) (by decide +kernel) (by decide +kernel), ⟨by decide +kernel, by decide +kernel, by decide +kernel⟩⟩
theorem cc_G_88 : CV "KiteLogger" 88 y_H_forget b_H_forget 1 none 0 := ⟨TT_in (i := 597) (by decide +kernel) (by decide +kernel), TT_in (i := 598) (by decide +kernel) (by decide +kernel), TT_in (i := 599) (by decide +kernel) (by decide +kernel), TT_in (i := 28) (by decide +kernel) (by decide +kernel), TT_in (i := 600) (by decide +kernel) (by decide +kernel), ⟨by decide +kernel, by decide +kernel, by decide +kernel⟩⟩
def f_G_loadStation (N : Nat) (rr : Nat) (a1 : Int32) (M : Mem) : Option (Int32 × Mem) :=
  bndM (f_G_refuseLength a1 M) fun (M2 : Mem) => bnd (f_P_read N rr a1 M2) fun (x3 : Bool) (M4 : Mem) => nm (put M4 1 1 (0 : Int32)) fun (M5 : Mem) => if x3 = true then (bndM (f_T_setUp 10 M5) fun (M7 : Mem) => bndM (f_H_forget M7) fun (M9 : Mem) => nm (put M9 0 7 (0 : Int32)) fun (M10 : Mem) => some (M10 10 2, M10)) else (some ((-1 : Int32), M5))
set_option maxHeartbeats 4000000 in
set_option maxRecDepth 100000 in
theorem c_G_loadStation (l : Launch) (N : Nat) {w : Wc} {rr : Nat} (hw : WK w rr) (a1 : Int32) (M : Mem) : Ct QI l y_G_loadStation b_G_loadStation 3 (some .int) (rmL 8) w [.ref (wad w 0), .int a1] M (f_G_loadStation N rr a1 M) := by
  refine Ct.go (by decide) (L := [(0, .ref (wad w 0)), (1, .int a1)]) rfl (Nat.le_of_ble_eq_true rfl) (fun p0 e s m args below meth c g hret => ?_)
  unfold f_G_loadStation
  refine G_aload_n g (pc := 0) 0 d_G_loadStation_0 rfl rfl ?_
  refine G_iload_n g (pc := 1) 1 d_G_loadStation_1 rfl rfl ?_
  refine G_cVV g (pc := 2) (As := [.int a1]) (st := []) cc_G_81 (c_G_refuseLength l hw a1 M) (hw.m 0 (Nat.le_of_ble_eq_true rfl)) (hw.k (Nat.le_of_ble_eq_true rfl) (zk0 rr)) rfl (by decide) rfl ⟨(Nat.le_of_ble_eq_true rfl), (Nat.le_of_ble_eq_true rfl)⟩ ⟨(Nat.le_of_ble_eq_true rfl), (Nat.le_of_ble_eq_true rfl)⟩ (Nat.le_of_ble_eq_true rfl) d_G_loadStation_2 (fun M2 => ?_)
  refine G_aload_n g (pc := 5) 0 d_G_loadStation_5 rfl rfl ?_
  refine G_getR g (pc := 6) fa_G_19 (hw.m 0 (Nat.le_of_ble_eq_true rfl)) (hw.k (Nat.le_of_ble_eq_true rfl) (zk0 rr)) (hw.r (Nat.le_of_ble_eq_true rfl) (zr0_1 rr)) d_G_loadStation_6 ?_
  refine G_aload_n g (pc := 9) 0 d_G_loadStation_9 rfl rfl ?_
  refine G_getR g (pc := 10) fa_G_12 (hw.m 0 (Nat.le_of_ble_eq_true rfl)) (hw.k (Nat.le_of_ble_eq_true rfl) (zk0 rr)) (hw.r (Nat.le_of_ble_eq_true rfl) (zr0_0 rr)) d_G_loadStation_10 ?_
  refine G_iload_n g (pc := 13) 1 d_G_loadStation_13 rfl rfl ?_
  refine G_cVZ g (pc := 14) (As := [.ref (wad w 1), .int a1]) (st := []) cc_G_84 (c_P_read l N hw a1 M2) (hw.m 3 (Nat.le_of_ble_eq_true rfl)) (hw.k (Nat.le_of_ble_eq_true rfl) (zk3 rr)) rfl (by decide) rfl ⟨(Nat.le_of_ble_eq_true rfl), (Nat.le_of_ble_eq_true rfl)⟩ ⟨(Nat.le_of_ble_eq_true rfl), (Nat.le_of_ble_eq_true rfl)⟩ (Nat.le_of_ble_eq_true rfl) d_G_loadStation_14 (fun x3 M4 => ?_)
  refine G_istore_n g (pc := 17) _ d_G_loadStation_17 rfl (Nat.le_of_ble_eq_true rfl) rfl ?_
  refine G_aload_n g (pc := 18) 1 d_G_loadStation_18 rfl rfl ?_
  refine G_getR g (pc := 19) fa_G_12 (hw.m 0 (Nat.le_of_ble_eq_true rfl)) (hw.k (Nat.le_of_ble_eq_true rfl) (zk0 rr)) (hw.r (Nat.le_of_ble_eq_true rfl) (zr0_0 rr)) d_G_loadStation_19 ?_
  refine G_iconst g (pc := 22) (0 : Int32) d_G_loadStation_22 rfl ?_
  refine G_putN g (pc := 23) fa_G_77 fw_7_1 rfl rfl (hw.m 1 (Nat.le_of_ble_eq_true rfl)) (hw.k (Nat.le_of_ble_eq_true rfl) (zk1 rr)) d_G_loadStation_23 ?_
  refine G_nmM (fun M5 => ?_)
  refine G_iload_n g (pc := 26) 0 d_G_loadStation_26 rfl rfl ?_
  refine G_if_neB g (pc := 27) 32 d_G_loadStation_27 (by decide) ?_ ?_
  · refine G_aload_n g (pc := 32) 1 d_G_loadStation_32 rfl rfl ?_
    refine G_getR g (pc := 33) fa_G_33 (hw.m 0 (Nat.le_of_ble_eq_true rfl)) (hw.k (Nat.le_of_ble_eq_true rfl) (zk0 rr)) (hw.r (Nat.le_of_ble_eq_true rfl) (zr0_3 rr)) d_G_loadStation_33 ?_
    refine G_aload_n g (pc := 36) 1 d_G_loadStation_36 rfl rfl ?_
    refine G_getR g (pc := 37) fa_G_19 (hw.m 0 (Nat.le_of_ble_eq_true rfl)) (hw.k (Nat.le_of_ble_eq_true rfl) (zk0 rr)) (hw.r (Nat.le_of_ble_eq_true rfl) (zr0_1 rr)) d_G_loadStation_37 ?_
    refine G_cVV g (pc := 40) (As := [.ref (wad w 3)]) (st := []) cc_G_65 (c_T_setUp l hw 10 (List.elem_iff.mp (rfl : List.elem 10 stL = true)) M5) (hw.m 10 (Nat.le_of_ble_eq_true rfl)) (hw.k (Nat.le_of_ble_eq_true rfl) (zk10 rr)) rfl (by decide) rfl ⟨(Nat.le_of_ble_eq_true rfl), (Nat.le_of_ble_eq_true rfl)⟩ ⟨(Nat.le_of_ble_eq_true rfl), (Nat.le_of_ble_eq_true rfl)⟩ (Nat.le_of_ble_eq_true rfl) d_G_loadStation_40 (fun M7 => ?_)
    refine G_aload_n g (pc := 43) 1 d_G_loadStation_43 rfl rfl ?_
    refine G_getR g (pc := 44) fa_G_47 (hw.m 0 (Nat.le_of_ble_eq_true rfl)) (hw.k (Nat.le_of_ble_eq_true rfl) (zk0 rr)) (hw.r (Nat.le_of_ble_eq_true rfl) (zr0_5 rr)) d_G_loadStation_44 ?_
    refine G_cVV g (pc := 47) (As := []) (st := []) cc_G_88 (c_H_forget l hw M7) (hw.m 24 (Nat.le_of_ble_eq_true rfl)) (hw.k (Nat.le_of_ble_eq_true rfl) (zk24 rr)) rfl (by decide) rfl ⟨(Nat.le_of_ble_eq_true rfl), (Nat.le_of_ble_eq_true rfl)⟩ ⟨(Nat.le_of_ble_eq_true rfl), (Nat.le_of_ble_eq_true rfl)⟩ (Nat.le_of_ble_eq_true rfl) d_G_loadStation_47 (fun M9 => ?_)
    refine G_aload_n g (pc := 50) 1 d_G_loadStation_50 rfl rfl ?_
    refine G_iconst g (pc := 51) (0 : Int32) d_G_loadStation_51 rfl ?_
    refine G_put g (pc := 52) fa_G_54 fw_9_7 rfl rfl (hw.m 0 (Nat.le_of_ble_eq_true rfl)) (hw.k (Nat.le_of_ble_eq_true rfl) (zk0 rr)) d_G_loadStation_52 ?_
    refine G_nmM (fun M10 => ?_)
    refine G_aload_n g (pc := 55) 1 d_G_loadStation_55 rfl rfl ?_
    refine G_getR g (pc := 56) fa_G_33 (hw.m 0 (Nat.le_of_ble_eq_true rfl)) (hw.k (Nat.le_of_ble_eq_true rfl) (zk0 rr)) (hw.r (Nat.le_of_ble_eq_true rfl) (zr0_3 rr)) d_G_loadStation_56 ?_
    refine G_getN g (pc := 59) fa_G_91 (hw.m 10 (Nat.le_of_ble_eq_true rfl)) (hw.k (Nat.le_of_ble_eq_true rfl) (zk10 rr)) d_G_loadStation_59 ?_
    exact G_ireturn g (pc := 62) hret (Nat.le_of_ble_eq_true rfl) (Nat.le_of_ble_eq_true rfl) d_G_loadStation_62
  · refine G_iconst g (pc := 30) (-1 : Int32) d_G_loadStation_30 rfl ?_
    exact G_ireturn g (pc := 31) hret (Nat.le_of_ble_eq_true rfl) (Nat.le_of_ble_eq_true rfl) d_G_loadStation_31

theorem d_G_tick_0 : decode b_G_tick 0 = .ok (.aload_n 0, 1) := by decide +kernel
theorem d_G_tick_1 : decode b_G_tick 1 = .ok (.getfield 33, 3) := by decide +kernel
theorem d_G_tick_4 : decode b_G_tick 4 = .ok (.getfield 100, 3) := by decide +kernel
theorem d_G_tick_7 : decode b_G_tick 7 = .ok (.ireturn, 1) := by decide +kernel
def f_G_tick  (M : Mem) : Option (Int32 × Mem) :=
  some (M 10 7, M)
set_option maxHeartbeats 4000000 in
set_option maxRecDepth 100000 in
theorem c_G_tick (l : Launch) {w : Wc} {rr : Nat} (hw : WK w rr)  (M : Mem) : Ct QI l y_G_tick b_G_tick 1 (some .int) (rmL 0) w [.ref (wad w 0)] M (f_G_tick  M) := by
  refine Ct.go (by decide) (L := [(0, .ref (wad w 0))]) rfl (Nat.le_of_ble_eq_true rfl) (fun p0 e s m args below meth c g hret => ?_)
  unfold f_G_tick
  refine G_aload_n g (pc := 0) 0 d_G_tick_0 rfl rfl ?_
  refine G_getR g (pc := 1) fa_G_33 (hw.m 0 (Nat.le_of_ble_eq_true rfl)) (hw.k (Nat.le_of_ble_eq_true rfl) (zk0 rr)) (hw.r (Nat.le_of_ble_eq_true rfl) (zr0_3 rr)) d_G_tick_1 ?_
  refine G_getN g (pc := 4) fa_G_100 (hw.m 10 (Nat.le_of_ble_eq_true rfl)) (hw.k (Nat.le_of_ble_eq_true rfl) (zk10 rr)) d_G_tick_4 ?_
  exact G_ireturn g (pc := 7) hret (Nat.le_of_ble_eq_true rfl) (Nat.le_of_ble_eq_true rfl) d_G_tick_7

theorem d_G_patternLength_0 : decode b_G_patternLength 0 = .ok (.aload_n 0, 1) := by decide +kernel
theorem d_G_patternLength_1 : decode b_G_patternLength 1 = .ok (.getfield 33, 3) := by decide +kernel
theorem d_G_patternLength_4 : decode b_G_patternLength 4 = .ok (.getfield 91, 3) := by decide +kernel
theorem d_G_patternLength_7 : decode b_G_patternLength 7 = .ok (.ireturn, 1) := by decide +kernel
def f_G_patternLength  (M : Mem) : Option (Int32 × Mem) :=
  some (M 10 2, M)
set_option maxHeartbeats 4000000 in
set_option maxRecDepth 100000 in
theorem c_G_patternLength (l : Launch) {w : Wc} {rr : Nat} (hw : WK w rr)  (M : Mem) : Ct QI l y_G_patternLength b_G_patternLength 1 (some .int) (rmL 0) w [.ref (wad w 0)] M (f_G_patternLength  M) := by
  refine Ct.go (by decide) (L := [(0, .ref (wad w 0))]) rfl (Nat.le_of_ble_eq_true rfl) (fun p0 e s m args below meth c g hret => ?_)
  unfold f_G_patternLength
  refine G_aload_n g (pc := 0) 0 d_G_patternLength_0 rfl rfl ?_
  refine G_getR g (pc := 1) fa_G_33 (hw.m 0 (Nat.le_of_ble_eq_true rfl)) (hw.k (Nat.le_of_ble_eq_true rfl) (zk0 rr)) (hw.r (Nat.le_of_ble_eq_true rfl) (zr0_3 rr)) d_G_patternLength_1 ?_
  refine G_getN g (pc := 4) fa_G_91 (hw.m 10 (Nat.le_of_ble_eq_true rfl)) (hw.k (Nat.le_of_ble_eq_true rfl) (zk10 rr)) d_G_patternLength_4 ?_
  exact G_ireturn g (pc := 7) hret (Nat.le_of_ble_eq_true rfl) (Nat.le_of_ble_eq_true rfl) d_G_patternLength_7

theorem d_G_gust_0 : decode b_G_gust 0 = .ok (.iload_n 1, 1) := by decide +kernel
theorem d_G_gust_1 : decode b_G_gust 1 = .ok (.iconst 0, 1) := by decide +kernel
theorem d_G_gust_2 : decode b_G_gust 2 = .ok (.sipush 9999, 3) := by decide +kernel
theorem d_G_gust_5 : decode b_G_gust 5 = .ok (.invokestatic 103, 3) := by decide +kernel
theorem d_G_gust_8 : decode b_G_gust 8 = .ok (.aload_n 0, 1) := by decide +kernel
theorem d_G_gust_9 : decode b_G_gust 9 = .ok (.getfield 33, 3) := by decide +kernel
theorem d_G_gust_12 : decode b_G_gust 12 = .ok (.iload_n 1, 1) := by decide +kernel
theorem d_G_gust_13 : decode b_G_gust 13 = .ok (.invokevirtual 107, 3) := by decide +kernel
theorem d_G_gust_16 : decode b_G_gust 16 = .ok (.ireturn, 1) := by decide +kernel
theorem cc_G_103 : CS "KiteLogger" 103 y_G_refuseOutside b_G_refuseOutside 3 none 3 := ⟨TT_in (i := 892) (by decide +kernel) (by decide +kernel), TT_in (i := 893) (by decide +kernel) (by decide +kernel), TT_in (i := 18) (by decide +kernel) (by decide +kernel), TT_in (i := 894) (by decide +kernel) (by decide +kernel), ⟨by decide +kernel, by decide +kernel, by decide +kernel⟩⟩
theorem cc_G_107 : CV "KiteLogger" 107 y_T_gustOf b_T_gustOf 2 (some .int) 1 := ⟨TT_in (i := 940) (by decide +kernel) (by decide +kernel), TT_in (i := 929) (by decide +kernel) (by decide +kernel), TT_in (i := 930) (by decide +kernel) (by decide +kernel), TT_in (i := 24) (by decide +kernel) (by decide +kernel), TT_in (i := 931) (by decide +kernel) (by decide +kernel), ⟨by decide +kernel, by decide +kernel, by decide +kernel⟩⟩
def f_G_gust (a1 : Int32) (M : Mem) : Option (Int32 × Mem) :=
  bndM (f_G_refuseOutside a1 (0 : Int32) (9999 : Int32) M) fun (M2 : Mem) => bnd (f_T_gustOf 10 a1 M2) fun (x3 : Int32) (M4 : Mem) => some (x3, M4)
set_option maxHeartbeats 4000000 in
set_option maxRecDepth 100000 in
theorem c_G_gust (l : Launch) {w : Wc} {rr : Nat} (hw : WK w rr) (a1 : Int32) (M : Mem) : Ct QI l y_G_gust b_G_gust 2 (some .int) (rmL 2) w [.ref (wad w 0), .int a1] M (f_G_gust a1 M) := by
  refine Ct.go (by decide) (L := [(0, .ref (wad w 0)), (1, .int a1)]) rfl (Nat.le_of_ble_eq_true rfl) (fun p0 e s m args below meth c g hret => ?_)
  unfold f_G_gust
  refine G_iload_n g (pc := 0) 1 d_G_gust_0 rfl rfl ?_
  refine G_iconst g (pc := 1) (0 : Int32) d_G_gust_1 rfl ?_
  refine G_sipush g (pc := 2) (9999 : Int32) d_G_gust_2 rfl ?_
  refine G_cSV g (pc := 5) (As := [.int a1, .int (0 : Int32), .int (9999 : Int32)]) (st := []) cc_G_103 (c_G_refuseOutside l hw a1 (0 : Int32) (9999 : Int32) M) rfl ⟨(Nat.le_of_ble_eq_true rfl), (Nat.le_of_ble_eq_true rfl)⟩ ⟨(Nat.le_of_ble_eq_true rfl), (Nat.le_of_ble_eq_true rfl)⟩ (Nat.le_of_ble_eq_true rfl) d_G_gust_5 (fun M2 => ?_)
  refine G_aload_n g (pc := 8) 0 d_G_gust_8 rfl rfl ?_
  refine G_getR g (pc := 9) fa_G_33 (hw.m 0 (Nat.le_of_ble_eq_true rfl)) (hw.k (Nat.le_of_ble_eq_true rfl) (zk0 rr)) (hw.r (Nat.le_of_ble_eq_true rfl) (zr0_3 rr)) d_G_gust_9 ?_
  refine G_iload_n g (pc := 12) 1 d_G_gust_12 rfl rfl ?_
  refine G_cVI g (pc := 13) (As := [.int a1]) (st := []) cc_G_107 (c_T_gustOf l hw 10 (List.elem_iff.mp (rfl : List.elem 10 stL = true)) a1 M2) (hw.m 10 (Nat.le_of_ble_eq_true rfl)) (hw.k (Nat.le_of_ble_eq_true rfl) (zk10 rr)) rfl (by decide) rfl ⟨(Nat.le_of_ble_eq_true rfl), (Nat.le_of_ble_eq_true rfl)⟩ ⟨(Nat.le_of_ble_eq_true rfl), (Nat.le_of_ble_eq_true rfl)⟩ (Nat.le_of_ble_eq_true rfl) d_G_gust_13 (fun x3 M4 => ?_)
  exact G_ireturn g (pc := 16) hret (Nat.le_of_ble_eq_true rfl) (Nat.le_of_ble_eq_true rfl) d_G_gust_16

theorem d_G_windAt_0 : decode b_G_windAt 0 = .ok (.iload_n 1, 1) := by decide +kernel
theorem d_G_windAt_1 : decode b_G_windAt 1 = .ok (.iconst 0, 1) := by decide +kernel
theorem d_G_windAt_2 : decode b_G_windAt 2 = .ok (.sipush 600, 3) := by decide +kernel
theorem d_G_windAt_5 : decode b_G_windAt 5 = .ok (.invokestatic 103, 3) := by decide +kernel
theorem d_G_windAt_8 : decode b_G_windAt 8 = .ok (.aload_n 0, 1) := by decide +kernel
theorem d_G_windAt_9 : decode b_G_windAt 9 = .ok (.getfield 33, 3) := by decide +kernel
theorem d_G_windAt_12 : decode b_G_windAt 12 = .ok (.aload_n 0, 1) := by decide +kernel
theorem d_G_windAt_13 : decode b_G_windAt 13 = .ok (.getfield 33, 3) := by decide +kernel
theorem d_G_windAt_16 : decode b_G_windAt 16 = .ok (.getfield 100, 3) := by decide +kernel
theorem d_G_windAt_19 : decode b_G_windAt 19 = .ok (.invokevirtual 107, 3) := by decide +kernel
theorem d_G_windAt_22 : decode b_G_windAt 22 = .ok (.iload_n 1, 1) := by decide +kernel
theorem d_G_windAt_23 : decode b_G_windAt 23 = .ok (.bipush 100, 2) := by decide +kernel
theorem d_G_windAt_25 : decode b_G_windAt 25 = .ok (.idiv, 1) := by decide +kernel
theorem d_G_windAt_26 : decode b_G_windAt 26 = .ok (.iadd, 1) := by decide +kernel
theorem d_G_windAt_27 : decode b_G_windAt 27 = .ok (.ireturn, 1) := by decide +kernel
def f_G_windAt (a1 : Int32) (M : Mem) : Option (Int32 × Mem) :=
  bndM (f_G_refuseOutside a1 (0 : Int32) (600 : Int32) M) fun (M2 : Mem) => bnd (f_T_gustOf 10 (M2 10 7) M2) fun (x3 : Int32) (M4 : Mem) => some (x3 + (a1 / (100 : Int32)), M4)
set_option maxHeartbeats 4000000 in
set_option maxRecDepth 100000 in
theorem c_G_windAt (l : Launch) {w : Wc} {rr : Nat} (hw : WK w rr) (a1 : Int32) (M : Mem) : Ct QI l y_G_windAt b_G_windAt 2 (some .int) (rmL 2) w [.ref (wad w 0), .int a1] M (f_G_windAt a1 M) := by
  refine Ct.go (by decide) (L := [(0, .ref (wad w 0)), (1, .int a1)]) rfl (Nat.le_of_ble_eq_true rfl) (fun p0 e s m args below meth c g hret => ?_)
  unfold f_G_windAt
  refine G_iload_n g (pc := 0) 1 d_G_windAt_0 rfl rfl ?_
  refine G_iconst g (pc := 1) (0 : Int32) d_G_windAt_1 rfl ?_
  refine G_sipush g (pc := 2) (600 : Int32) d_G_windAt_2 rfl ?_
  refine G_cSV g (pc := 5) (As := [.int a1, .int (0 : Int32), .int (600 : Int32)]) (st := []) cc_G_103 (c_G_refuseOutside l hw a1 (0 : Int32) (600 : Int32) M) rfl ⟨(Nat.le_of_ble_eq_true rfl), (Nat.le_of_ble_eq_true rfl)⟩ ⟨(Nat.le_of_ble_eq_true rfl), (Nat.le_of_ble_eq_true rfl)⟩ (Nat.le_of_ble_eq_true rfl) d_G_windAt_5 (fun M2 => ?_)
  refine G_aload_n g (pc := 8) 0 d_G_windAt_8 rfl rfl ?_
  refine G_getR g (pc := 9) fa_G_33 (hw.m 0 (Nat.le_of_ble_eq_true rfl)) (hw.k (Nat.le_of_ble_eq_true rfl) (zk0 rr)) (hw.r (Nat.le_of_ble_eq_true rfl) (zr0_3 rr)) d_G_windAt_9 ?_
  refine G_aload_n g (pc := 12) 0 d_G_windAt_12 rfl rfl ?_
  refine G_getR g (pc := 13) fa_G_33 (hw.m 0 (Nat.le_of_ble_eq_true rfl)) (hw.k (Nat.le_of_ble_eq_true rfl) (zk0 rr)) (hw.r (Nat.le_of_ble_eq_true rfl) (zr0_3 rr)) d_G_windAt_13 ?_
  refine G_getN g (pc := 16) fa_G_100 (hw.m 10 (Nat.le_of_ble_eq_true rfl)) (hw.k (Nat.le_of_ble_eq_true rfl) (zk10 rr)) d_G_windAt_16 ?_
  refine G_cVI g (pc := 19) (As := [.int (M2 10 7)]) (st := []) cc_G_107 (c_T_gustOf l hw 10 (List.elem_iff.mp (rfl : List.elem 10 stL = true)) (M2 10 7) M2) (hw.m 10 (Nat.le_of_ble_eq_true rfl)) (hw.k (Nat.le_of_ble_eq_true rfl) (zk10 rr)) rfl (by decide) rfl ⟨(Nat.le_of_ble_eq_true rfl), (Nat.le_of_ble_eq_true rfl)⟩ ⟨(Nat.le_of_ble_eq_true rfl), (Nat.le_of_ble_eq_true rfl)⟩ (Nat.le_of_ble_eq_true rfl) d_G_windAt_19 (fun x3 M4 => ?_)
  refine G_iload_n g (pc := 22) 1 d_G_windAt_22 rfl rfl ?_
  refine G_bipush g (pc := 23) (100 : Int32) d_G_windAt_23 rfl ?_
  refine G_idivK g (pc := 25) (by decide) d_G_windAt_25 ?_
  refine G_iadd g (pc := 26) d_G_windAt_26 ?_
  exact G_ireturn g (pc := 27) hret (Nat.le_of_ble_eq_true rfl) (Nat.le_of_ble_eq_true rfl) d_G_windAt_27

theorem d_G_bufferSize_0 : decode b_G_bufferSize 0 = .ok (.aload_n 0, 1) := by decide +kernel
theorem d_G_bufferSize_1 : decode b_G_bufferSize 1 = .ok (.getfield 33, 3) := by decide +kernel
theorem d_G_bufferSize_4 : decode b_G_bufferSize 4 = .ok (.getfield 111, 3) := by decide +kernel
theorem d_G_bufferSize_7 : decode b_G_bufferSize 7 = .ok (.getfield 115, 3) := by decide +kernel
theorem d_G_bufferSize_10 : decode b_G_bufferSize 10 = .ok (.ireturn, 1) := by decide +kernel
def f_G_bufferSize  (M : Mem) : Option (Int32 × Mem) :=
  some (M 13 2, M)
set_option maxHeartbeats 4000000 in
set_option maxRecDepth 100000 in
theorem c_G_bufferSize (l : Launch) {w : Wc} {rr : Nat} (hw : WK w rr)  (M : Mem) : Ct QI l y_G_bufferSize b_G_bufferSize 1 (some .int) (rmL 0) w [.ref (wad w 0)] M (f_G_bufferSize  M) := by
  refine Ct.go (by decide) (L := [(0, .ref (wad w 0))]) rfl (Nat.le_of_ble_eq_true rfl) (fun p0 e s m args below meth c g hret => ?_)
  unfold f_G_bufferSize
  refine G_aload_n g (pc := 0) 0 d_G_bufferSize_0 rfl rfl ?_
  refine G_getR g (pc := 1) fa_G_33 (hw.m 0 (Nat.le_of_ble_eq_true rfl)) (hw.k (Nat.le_of_ble_eq_true rfl) (zk0 rr)) (hw.r (Nat.le_of_ble_eq_true rfl) (zr0_3 rr)) d_G_bufferSize_1 ?_
  refine G_getRN g (pc := 4) fa_G_111 (hw.m 10 (Nat.le_of_ble_eq_true rfl)) (hw.k (Nat.le_of_ble_eq_true rfl) (zk10 rr)) (hw.r (Nat.le_of_ble_eq_true rfl) (zr10_3 rr)) d_G_bufferSize_4 ?_
  refine G_getN g (pc := 7) fa_G_115 (hw.m 13 (Nat.le_of_ble_eq_true rfl)) (hw.k (Nat.le_of_ble_eq_true rfl) (zk13 rr)) d_G_bufferSize_7 ?_
  exact G_ireturn g (pc := 10) hret (Nat.le_of_ble_eq_true rfl) (Nat.le_of_ble_eq_true rfl) d_G_bufferSize_10

theorem d_G_bufferedWind_0 : decode b_G_bufferedWind 0 = .ok (.aload_n 0, 1) := by decide +kernel
theorem d_G_bufferedWind_1 : decode b_G_bufferedWind 1 = .ok (.getfield 33, 3) := by decide +kernel
theorem d_G_bufferedWind_4 : decode b_G_bufferedWind 4 = .ok (.getfield 111, 3) := by decide +kernel
theorem d_G_bufferedWind_7 : decode b_G_bufferedWind 7 = .ok (.iload_n 1, 1) := by decide +kernel
theorem d_G_bufferedWind_8 : decode b_G_bufferedWind 8 = .ok (.invokevirtual 120, 3) := by decide +kernel
theorem d_G_bufferedWind_11 : decode b_G_bufferedWind 11 = .ok (.ifCond .eq 17, 3) := by decide +kernel
theorem d_G_bufferedWind_14 : decode b_G_bufferedWind 14 = .ok (.aload_n 0, 1) := by decide +kernel
theorem d_G_bufferedWind_15 : decode b_G_bufferedWind 15 = .ok (.getfield 33, 3) := by decide +kernel
theorem d_G_bufferedWind_18 : decode b_G_bufferedWind 18 = .ok (.getfield 111, 3) := by decide +kernel
theorem d_G_bufferedWind_21 : decode b_G_bufferedWind 21 = .ok (.iload_n 1, 1) := by decide +kernel
theorem d_G_bufferedWind_22 : decode b_G_bufferedWind 22 = .ok (.invokevirtual 123, 3) := by decide +kernel
theorem d_G_bufferedWind_25 : decode b_G_bufferedWind 25 = .ok (.goto 4, 3) := by decide +kernel
theorem d_G_bufferedWind_28 : decode b_G_bufferedWind 28 = .ok (.iconst (-1), 1) := by decide +kernel
theorem d_G_bufferedWind_29 : decode b_G_bufferedWind 29 = .ok (.ireturn, 1) := by decide +kernel
theorem cc_G_120 : CV "KiteLogger" 120 y_B_has b_B_has 2 (some .boolean) 1 := ⟨TT_in (i := 779) (by decide +kernel) (by decide +kernel), TT_in (i := 780) (by decide +kernel) (by decide +kernel), TT_in (i := 781) (by decide +kernel) (by decide +kernel), TT_in (i := 26) (by decide +kernel) (by decide +kernel), TT_in (i := 782) (by decide +kernel) (by decide +kernel), ⟨by decide +kernel, by decide +kernel, by decide +kernel⟩⟩
theorem cc_G_123 : CV "KiteLogger" 123 y_B_at b_B_at 2 (some .int) 1 := ⟨TT_in (i := 783) (by decide +kernel) (by decide +kernel), TT_in (i := 784) (by decide +kernel) (by decide +kernel), TT_in (i := 785) (by decide +kernel) (by decide +kernel), TT_in (i := 26) (by decide +kernel) (by decide +kernel), TT_in (i := 786) (by decide +kernel) (by decide +kernel), ⟨by decide +kernel, by decide +kernel, by decide +kernel⟩⟩
def f_G_bufferedWind (a1 : Int32) (M : Mem) : Option (Int32 × Mem) :=
  bnd (f_B_has 13 a1 M) fun (x1 : Bool) (M2 : Mem) => if x1 = true then (bnd (f_B_at 13 a1 M2) fun (x3 : Int32) (M4 : Mem) => some (x3, M4)) else (some ((-1 : Int32), M2))
set_option maxHeartbeats 4000000 in
set_option maxRecDepth 100000 in
theorem c_G_bufferedWind (l : Launch) {w : Wc} {rr : Nat} (hw : WK w rr) (a1 : Int32) (M : Mem) : Ct QI l y_G_bufferedWind b_G_bufferedWind 2 (some .int) (rmL 2) w [.ref (wad w 0), .int a1] M (f_G_bufferedWind a1 M) := by
  refine Ct.go (by decide) (L := [(0, .ref (wad w 0)), (1, .int a1)]) rfl (Nat.le_of_ble_eq_true rfl) (fun p0 e s m args below meth c g hret => ?_)
  unfold f_G_bufferedWind
  refine G_aload_n g (pc := 0) 0 d_G_bufferedWind_0 rfl rfl ?_
  refine G_getR g (pc := 1) fa_G_33 (hw.m 0 (Nat.le_of_ble_eq_true rfl)) (hw.k (Nat.le_of_ble_eq_true rfl) (zk0 rr)) (hw.r (Nat.le_of_ble_eq_true rfl) (zr0_3 rr)) d_G_bufferedWind_1 ?_
  refine G_getRN g (pc := 4) fa_G_111 (hw.m 10 (Nat.le_of_ble_eq_true rfl)) (hw.k (Nat.le_of_ble_eq_true rfl) (zk10 rr)) (hw.r (Nat.le_of_ble_eq_true rfl) (zr10_3 rr)) d_G_bufferedWind_4 ?_
  refine G_iload_n g (pc := 7) 1 d_G_bufferedWind_7 rfl rfl ?_
  refine G_cVZ g (pc := 8) (As := [.int a1]) (st := []) cc_G_120 (c_B_has l hw 13 (List.elem_iff.mp (rfl : List.elem 13 wbL = true)) a1 M) (hw.m 13 (Nat.le_of_ble_eq_true rfl)) (hw.k (Nat.le_of_ble_eq_true rfl) (zk13 rr)) rfl (by decide) rfl ⟨(Nat.le_of_ble_eq_true rfl), (Nat.le_of_ble_eq_true rfl)⟩ ⟨(Nat.le_of_ble_eq_true rfl), (Nat.le_of_ble_eq_true rfl)⟩ (Nat.le_of_ble_eq_true rfl) d_G_bufferedWind_8 (fun x1 M2 => ?_)
  refine G_if_eqB g (pc := 11) 28 d_G_bufferedWind_11 (by decide) ?_ ?_
  · refine G_aload_n g (pc := 14) 0 d_G_bufferedWind_14 rfl rfl ?_
    refine G_getR g (pc := 15) fa_G_33 (hw.m 0 (Nat.le_of_ble_eq_true rfl)) (hw.k (Nat.le_of_ble_eq_true rfl) (zk0 rr)) (hw.r (Nat.le_of_ble_eq_true rfl) (zr0_3 rr)) d_G_bufferedWind_15 ?_
    refine G_getRN g (pc := 18) fa_G_111 (hw.m 10 (Nat.le_of_ble_eq_true rfl)) (hw.k (Nat.le_of_ble_eq_true rfl) (zk10 rr)) (hw.r (Nat.le_of_ble_eq_true rfl) (zr10_3 rr)) d_G_bufferedWind_18 ?_
    refine G_iload_n g (pc := 21) 1 d_G_bufferedWind_21 rfl rfl ?_
    refine G_cVI g (pc := 22) (As := [.int a1]) (st := []) cc_G_123 (c_B_at l hw 13 (List.elem_iff.mp (rfl : List.elem 13 wbL = true)) a1 M2) (hw.m 13 (Nat.le_of_ble_eq_true rfl)) (hw.k (Nat.le_of_ble_eq_true rfl) (zk13 rr)) rfl (by decide) rfl ⟨(Nat.le_of_ble_eq_true rfl), (Nat.le_of_ble_eq_true rfl)⟩ ⟨(Nat.le_of_ble_eq_true rfl), (Nat.le_of_ble_eq_true rfl)⟩ (Nat.le_of_ble_eq_true rfl) d_G_bufferedWind_22 (fun x3 M4 => ?_)
    refine G_goto g (pc := 25) 29 d_G_bufferedWind_25 (by decide) ?_
    exact G_ireturn g (pc := 29) hret (Nat.le_of_ble_eq_true rfl) (Nat.le_of_ble_eq_true rfl) d_G_bufferedWind_29
  · refine G_iconst g (pc := 28) (-1 : Int32) d_G_bufferedWind_28 rfl ?_
    exact G_ireturn g (pc := 29) hret (Nat.le_of_ble_eq_true rfl) (Nat.le_of_ble_eq_true rfl) d_G_bufferedWind_29

theorem d_G_greatestWind_0 : decode b_G_greatestWind 0 = .ok (.aload_n 0, 1) := by decide +kernel
theorem d_G_greatestWind_1 : decode b_G_greatestWind 1 = .ok (.getfield 33, 3) := by decide +kernel
theorem d_G_greatestWind_4 : decode b_G_greatestWind 4 = .ok (.getfield 111, 3) := by decide +kernel
theorem d_G_greatestWind_7 : decode b_G_greatestWind 7 = .ok (.invokevirtual 126, 3) := by decide +kernel
theorem d_G_greatestWind_10 : decode b_G_greatestWind 10 = .ok (.ireturn, 1) := by decide +kernel
theorem cc_G_126 : CV "KiteLogger" 126 y_B_greatest b_B_greatest 3 (some .int) 0 := ⟨TT_in (i := 982) (by decide +kernel) (by decide +kernel), TT_in (i := 983) (by decide +kernel) (by decide +kernel), TT_in (i := 984) (by decide +kernel) (by decide +kernel), TT_in (i := 26) (by decide +kernel) (by decide +kernel), TT_in (i := 985) (by decide +kernel) (by decide +kernel), ⟨by decide +kernel, by decide +kernel, by decide +kernel⟩⟩
def f_G_greatestWind (N : Nat) (rr : Nat) (M : Mem) : Option (Int32 × Mem) :=
  bnd (f_B_greatest N rr 13 M) fun (x1 : Int32) (M2 : Mem) => some (x1, M2)
set_option maxHeartbeats 4000000 in
set_option maxRecDepth 100000 in
theorem c_G_greatestWind (l : Launch) (N : Nat) {w : Wc} {rr : Nat} (hw : WK w rr)  (M : Mem) : Ct QI l y_G_greatestWind b_G_greatestWind 1 (some .int) (rmL 3) w [.ref (wad w 0)] M (f_G_greatestWind N rr M) := by
  refine Ct.go (by decide) (L := [(0, .ref (wad w 0))]) rfl (Nat.le_of_ble_eq_true rfl) (fun p0 e s m args below meth c g hret => ?_)
  unfold f_G_greatestWind
  refine G_aload_n g (pc := 0) 0 d_G_greatestWind_0 rfl rfl ?_
  refine G_getR g (pc := 1) fa_G_33 (hw.m 0 (Nat.le_of_ble_eq_true rfl)) (hw.k (Nat.le_of_ble_eq_true rfl) (zk0 rr)) (hw.r (Nat.le_of_ble_eq_true rfl) (zr0_3 rr)) d_G_greatestWind_1 ?_
  refine G_getRN g (pc := 4) fa_G_111 (hw.m 10 (Nat.le_of_ble_eq_true rfl)) (hw.k (Nat.le_of_ble_eq_true rfl) (zk10 rr)) (hw.r (Nat.le_of_ble_eq_true rfl) (zr10_3 rr)) d_G_greatestWind_4 ?_
  refine G_cVI g (pc := 7) (As := []) (st := []) cc_G_126 (c_B_greatest l N hw 13 (List.elem_iff.mp (rfl : List.elem 13 wbL = true)) M) (hw.m 13 (Nat.le_of_ble_eq_true rfl)) (hw.k (Nat.le_of_ble_eq_true rfl) (zk13 rr)) rfl (by decide) rfl ⟨(Nat.le_of_ble_eq_true rfl), (Nat.le_of_ble_eq_true rfl)⟩ ⟨(Nat.le_of_ble_eq_true rfl), (Nat.le_of_ble_eq_true rfl)⟩ (Nat.le_of_ble_eq_true rfl) d_G_greatestWind_7 (fun x1 M2 => ?_)
  exact G_ireturn g (pc := 10) hret (Nat.le_of_ble_eq_true rfl) (Nat.le_of_ble_eq_true rfl) d_G_greatestWind_10

theorem d_G_meanWind_0 : decode b_G_meanWind 0 = .ok (.aload_n 0, 1) := by decide +kernel
theorem d_G_meanWind_1 : decode b_G_meanWind 1 = .ok (.getfield 33, 3) := by decide +kernel
theorem d_G_meanWind_4 : decode b_G_meanWind 4 = .ok (.getfield 111, 3) := by decide +kernel
theorem d_G_meanWind_7 : decode b_G_meanWind 7 = .ok (.invokevirtual 130, 3) := by decide +kernel
theorem d_G_meanWind_10 : decode b_G_meanWind 10 = .ok (.aload_n 0, 1) := by decide +kernel
theorem d_G_meanWind_11 : decode b_G_meanWind 11 = .ok (.getfield 33, 3) := by decide +kernel
theorem d_G_meanWind_14 : decode b_G_meanWind 14 = .ok (.getfield 111, 3) := by decide +kernel
theorem d_G_meanWind_17 : decode b_G_meanWind 17 = .ok (.getfield 115, 3) := by decide +kernel
theorem d_G_meanWind_20 : decode b_G_meanWind 20 = .ok (.invokestatic 133, 3) := by decide +kernel
theorem d_G_meanWind_23 : decode b_G_meanWind 23 = .ok (.dreturn, 1) := by decide +kernel
theorem cc_G_130 : CV "KiteLogger" 130 y_B_sum b_B_sum 3 (some .int) 0 := ⟨TT_in (i := 992) (by decide +kernel) (by decide +kernel), TT_in (i := 993) (by decide +kernel) (by decide +kernel), TT_in (i := 994) (by decide +kernel) (by decide +kernel), TT_in (i := 26) (by decide +kernel) (by decide +kernel), TT_in (i := 995) (by decide +kernel) (by decide +kernel), ⟨by decide +kernel, by decide +kernel, by decide +kernel⟩⟩
theorem cc_G_133 : CS "KiteLogger" 133 y_G_meanOf b_G_meanOf 2 (some .double) 2 := ⟨TT_in (i := 902) (by decide +kernel) (by decide +kernel), TT_in (i := 903) (by decide +kernel) (by decide +kernel), TT_in (i := 18) (by decide +kernel) (by decide +kernel), TT_in (i := 904) (by decide +kernel) (by decide +kernel), ⟨by decide +kernel, by decide +kernel, by decide +kernel⟩⟩
def f_G_meanWind (N : Nat) (rr : Nat) (M : Mem) : Option (UInt64 × Mem) :=
  bnd (f_B_sum N rr 13 M) fun (x1 : Int32) (M2 : Mem) => bnd (f_G_meanOf x1 (M2 13 2) M2) fun (x3 : UInt64) (M4 : Mem) => some (x3, M4)
set_option maxHeartbeats 4000000 in
set_option maxRecDepth 100000 in
theorem c_G_meanWind (l : Launch) (N : Nat) {w : Wc} {rr : Nat} (hw : WK w rr)  (M : Mem) : Ct QD l y_G_meanWind b_G_meanWind 1 (some .double) (rmL 3) w [.ref (wad w 0)] M (f_G_meanWind N rr M) := by
  refine Ct.go (by decide) (L := [(0, .ref (wad w 0))]) rfl (Nat.le_of_ble_eq_true rfl) (fun p0 e s m args below meth c g hret => ?_)
  unfold f_G_meanWind
  refine G_aload_n g (pc := 0) 0 d_G_meanWind_0 rfl rfl ?_
  refine G_getR g (pc := 1) fa_G_33 (hw.m 0 (Nat.le_of_ble_eq_true rfl)) (hw.k (Nat.le_of_ble_eq_true rfl) (zk0 rr)) (hw.r (Nat.le_of_ble_eq_true rfl) (zr0_3 rr)) d_G_meanWind_1 ?_
  refine G_getRN g (pc := 4) fa_G_111 (hw.m 10 (Nat.le_of_ble_eq_true rfl)) (hw.k (Nat.le_of_ble_eq_true rfl) (zk10 rr)) (hw.r (Nat.le_of_ble_eq_true rfl) (zr10_3 rr)) d_G_meanWind_4 ?_
  refine G_cVI g (pc := 7) (As := []) (st := []) cc_G_130 (c_B_sum l N hw 13 (List.elem_iff.mp (rfl : List.elem 13 wbL = true)) M) (hw.m 13 (Nat.le_of_ble_eq_true rfl)) (hw.k (Nat.le_of_ble_eq_true rfl) (zk13 rr)) rfl (by decide) rfl ⟨(Nat.le_of_ble_eq_true rfl), (Nat.le_of_ble_eq_true rfl)⟩ ⟨(Nat.le_of_ble_eq_true rfl), (Nat.le_of_ble_eq_true rfl)⟩ (Nat.le_of_ble_eq_true rfl) d_G_meanWind_7 (fun x1 M2 => ?_)
  refine G_aload_n g (pc := 10) 0 d_G_meanWind_10 rfl rfl ?_
  refine G_getR g (pc := 11) fa_G_33 (hw.m 0 (Nat.le_of_ble_eq_true rfl)) (hw.k (Nat.le_of_ble_eq_true rfl) (zk0 rr)) (hw.r (Nat.le_of_ble_eq_true rfl) (zr0_3 rr)) d_G_meanWind_11 ?_
  refine G_getRN g (pc := 14) fa_G_111 (hw.m 10 (Nat.le_of_ble_eq_true rfl)) (hw.k (Nat.le_of_ble_eq_true rfl) (zk10 rr)) (hw.r (Nat.le_of_ble_eq_true rfl) (zr10_3 rr)) d_G_meanWind_14 ?_
  refine G_getN g (pc := 17) fa_G_115 (hw.m 13 (Nat.le_of_ble_eq_true rfl)) (hw.k (Nat.le_of_ble_eq_true rfl) (zk13 rr)) d_G_meanWind_17 ?_
  refine G_cSD g (pc := 20) (As := [.int x1, .int (M2 13 2)]) (st := []) cc_G_133 (c_G_meanOf l hw x1 (M2 13 2) M2) rfl ⟨(Nat.le_of_ble_eq_true rfl), (Nat.le_of_ble_eq_true rfl)⟩ ⟨(Nat.le_of_ble_eq_true rfl), (Nat.le_of_ble_eq_true rfl)⟩ (Nat.le_of_ble_eq_true rfl) d_G_meanWind_20 (fun x3 M4 => ?_)
  exact G_dreturn g (pc := 23) hret (Nat.le_of_ble_eq_true rfl) (Nat.le_of_ble_eq_true rfl) d_G_meanWind_23

theorem d_G_isLanded_0 : decode b_G_isLanded 0 = .ok (.aload_n 0, 1) := by decide +kernel
theorem d_G_isLanded_1 : decode b_G_isLanded 1 = .ok (.getfield 33, 3) := by decide +kernel
theorem d_G_isLanded_4 : decode b_G_isLanded 4 = .ok (.getfield 137, 3) := by decide +kernel
theorem d_G_isLanded_7 : decode b_G_isLanded 7 = .ok (.getfield 140, 3) := by decide +kernel
theorem d_G_isLanded_10 : decode b_G_isLanded 10 = .ok (.ifCond .ne 7, 3) := by decide +kernel
theorem d_G_isLanded_13 : decode b_G_isLanded 13 = .ok (.iconst 1, 1) := by decide +kernel
theorem d_G_isLanded_14 : decode b_G_isLanded 14 = .ok (.goto 4, 3) := by decide +kernel
theorem d_G_isLanded_17 : decode b_G_isLanded 17 = .ok (.iconst 0, 1) := by decide +kernel
theorem d_G_isLanded_18 : decode b_G_isLanded 18 = .ok (.ireturn, 1) := by decide +kernel
def f_G_isLanded  (M : Mem) : Option (Bool × Mem) :=
  if (M 11 0) = 0 then (some (true, M)) else (some (false, M))
set_option maxHeartbeats 4000000 in
set_option maxRecDepth 100000 in
theorem c_G_isLanded (l : Launch) {w : Wc} {rr : Nat} (hw : WK w rr)  (M : Mem) : Ct QZ l y_G_isLanded b_G_isLanded 1 (some .boolean) (rmL 0) w [.ref (wad w 0)] M (f_G_isLanded  M) := by
  refine Ct.go (by decide) (L := [(0, .ref (wad w 0))]) rfl (Nat.le_of_ble_eq_true rfl) (fun p0 e s m args below meth c g hret => ?_)
  unfold f_G_isLanded
  refine G_aload_n g (pc := 0) 0 d_G_isLanded_0 rfl rfl ?_
  refine G_getR g (pc := 1) fa_G_33 (hw.m 0 (Nat.le_of_ble_eq_true rfl)) (hw.k (Nat.le_of_ble_eq_true rfl) (zk0 rr)) (hw.r (Nat.le_of_ble_eq_true rfl) (zr0_3 rr)) d_G_isLanded_1 ?_
  refine G_getRN g (pc := 4) fa_G_137 (hw.m 10 (Nat.le_of_ble_eq_true rfl)) (hw.k (Nat.le_of_ble_eq_true rfl) (zk10 rr)) (hw.r (Nat.le_of_ble_eq_true rfl) (zr10_0 rr)) d_G_isLanded_4 ?_
  refine G_getN g (pc := 7) fa_G_140 (hw.m 11 (Nat.le_of_ble_eq_true rfl)) (hw.k (Nat.le_of_ble_eq_true rfl) (zk11 rr)) d_G_isLanded_7 ?_
  refine G_if_ne g (pc := 10) 17 d_G_isLanded_10 (by decide) ?_ ?_
  · refine G_iconst g (pc := 13) (1 : Int32) d_G_isLanded_13 rfl ?_
    refine G_goto g (pc := 14) 18 d_G_isLanded_14 (by decide) ?_
    exact G_zreturn g (pc := 18) true rfl hret (Nat.le_of_ble_eq_true rfl) (Nat.le_of_ble_eq_true rfl) d_G_isLanded_18
  · refine G_iconst g (pc := 17) (0 : Int32) d_G_isLanded_17 rfl ?_
    exact G_zreturn g (pc := 18) false rfl hret (Nat.le_of_ble_eq_true rfl) (Nat.le_of_ble_eq_true rfl) d_G_isLanded_18

theorem d_G_isFlying_0 : decode b_G_isFlying 0 = .ok (.aload_n 0, 1) := by decide +kernel
theorem d_G_isFlying_1 : decode b_G_isFlying 1 = .ok (.getfield 33, 3) := by decide +kernel
theorem d_G_isFlying_4 : decode b_G_isFlying 4 = .ok (.getfield 137, 3) := by decide +kernel
theorem d_G_isFlying_7 : decode b_G_isFlying 7 = .ok (.getfield 140, 3) := by decide +kernel
theorem d_G_isFlying_10 : decode b_G_isFlying 10 = .ok (.iconst 1, 1) := by decide +kernel
theorem d_G_isFlying_11 : decode b_G_isFlying 11 = .ok (.if_icmp .ne 7, 3) := by decide +kernel
theorem d_G_isFlying_14 : decode b_G_isFlying 14 = .ok (.iconst 1, 1) := by decide +kernel
theorem d_G_isFlying_15 : decode b_G_isFlying 15 = .ok (.goto 4, 3) := by decide +kernel
theorem d_G_isFlying_18 : decode b_G_isFlying 18 = .ok (.iconst 0, 1) := by decide +kernel
theorem d_G_isFlying_19 : decode b_G_isFlying 19 = .ok (.ireturn, 1) := by decide +kernel
def f_G_isFlying  (M : Mem) : Option (Bool × Mem) :=
  if (M 11 0) = (1 : Int32) then (some (true, M)) else (some (false, M))
set_option maxHeartbeats 4000000 in
set_option maxRecDepth 100000 in
theorem c_G_isFlying (l : Launch) {w : Wc} {rr : Nat} (hw : WK w rr)  (M : Mem) : Ct QZ l y_G_isFlying b_G_isFlying 1 (some .boolean) (rmL 0) w [.ref (wad w 0)] M (f_G_isFlying  M) := by
  refine Ct.go (by decide) (L := [(0, .ref (wad w 0))]) rfl (Nat.le_of_ble_eq_true rfl) (fun p0 e s m args below meth c g hret => ?_)
  unfold f_G_isFlying
  refine G_aload_n g (pc := 0) 0 d_G_isFlying_0 rfl rfl ?_
  refine G_getR g (pc := 1) fa_G_33 (hw.m 0 (Nat.le_of_ble_eq_true rfl)) (hw.k (Nat.le_of_ble_eq_true rfl) (zk0 rr)) (hw.r (Nat.le_of_ble_eq_true rfl) (zr0_3 rr)) d_G_isFlying_1 ?_
  refine G_getRN g (pc := 4) fa_G_137 (hw.m 10 (Nat.le_of_ble_eq_true rfl)) (hw.k (Nat.le_of_ble_eq_true rfl) (zk10 rr)) (hw.r (Nat.le_of_ble_eq_true rfl) (zr10_0 rr)) d_G_isFlying_4 ?_
  refine G_getN g (pc := 7) fa_G_140 (hw.m 11 (Nat.le_of_ble_eq_true rfl)) (hw.k (Nat.le_of_ble_eq_true rfl) (zk11 rr)) d_G_isFlying_7 ?_
  refine G_iconst g (pc := 10) (1 : Int32) d_G_isFlying_10 rfl ?_
  refine G_icmp_ne g (pc := 11) 18 d_G_isFlying_11 (by decide) ?_ ?_
  · refine G_iconst g (pc := 14) (1 : Int32) d_G_isFlying_14 rfl ?_
    refine G_goto g (pc := 15) 19 d_G_isFlying_15 (by decide) ?_
    exact G_zreturn g (pc := 19) true rfl hret (Nat.le_of_ble_eq_true rfl) (Nat.le_of_ble_eq_true rfl) d_G_isFlying_19
  · refine G_iconst g (pc := 18) (0 : Int32) d_G_isFlying_18 rfl ?_
    exact G_zreturn g (pc := 19) false rfl hret (Nat.le_of_ble_eq_true rfl) (Nat.le_of_ble_eq_true rfl) d_G_isFlying_19

theorem d_G_isFallen_0 : decode b_G_isFallen 0 = .ok (.aload_n 0, 1) := by decide +kernel
theorem d_G_isFallen_1 : decode b_G_isFallen 1 = .ok (.getfield 33, 3) := by decide +kernel
theorem d_G_isFallen_4 : decode b_G_isFallen 4 = .ok (.getfield 137, 3) := by decide +kernel
theorem d_G_isFallen_7 : decode b_G_isFallen 7 = .ok (.getfield 140, 3) := by decide +kernel
theorem d_G_isFallen_10 : decode b_G_isFallen 10 = .ok (.iconst 2, 1) := by decide +kernel
theorem d_G_isFallen_11 : decode b_G_isFallen 11 = .ok (.if_icmp .ne 7, 3) := by decide +kernel
theorem d_G_isFallen_14 : decode b_G_isFallen 14 = .ok (.iconst 1, 1) := by decide +kernel
theorem d_G_isFallen_15 : decode b_G_isFallen 15 = .ok (.goto 4, 3) := by decide +kernel
theorem d_G_isFallen_18 : decode b_G_isFallen 18 = .ok (.iconst 0, 1) := by decide +kernel
theorem d_G_isFallen_19 : decode b_G_isFallen 19 = .ok (.ireturn, 1) := by decide +kernel
def f_G_isFallen  (M : Mem) : Option (Bool × Mem) :=
  if (M 11 0) = (2 : Int32) then (some (true, M)) else (some (false, M))
set_option maxHeartbeats 4000000 in
set_option maxRecDepth 100000 in
theorem c_G_isFallen (l : Launch) {w : Wc} {rr : Nat} (hw : WK w rr)  (M : Mem) : Ct QZ l y_G_isFallen b_G_isFallen 1 (some .boolean) (rmL 0) w [.ref (wad w 0)] M (f_G_isFallen  M) := by
  refine Ct.go (by decide) (L := [(0, .ref (wad w 0))]) rfl (Nat.le_of_ble_eq_true rfl) (fun p0 e s m args below meth c g hret => ?_)
  unfold f_G_isFallen
  refine G_aload_n g (pc := 0) 0 d_G_isFallen_0 rfl rfl ?_
  refine G_getR g (pc := 1) fa_G_33 (hw.m 0 (Nat.le_of_ble_eq_true rfl)) (hw.k (Nat.le_of_ble_eq_true rfl) (zk0 rr)) (hw.r (Nat.le_of_ble_eq_true rfl) (zr0_3 rr)) d_G_isFallen_1 ?_
  refine G_getRN g (pc := 4) fa_G_137 (hw.m 10 (Nat.le_of_ble_eq_true rfl)) (hw.k (Nat.le_of_ble_eq_true rfl) (zk10 rr)) (hw.r (Nat.le_of_ble_eq_true rfl) (zr10_0 rr)) d_G_isFallen_4 ?_
  refine G_getN g (pc := 7) fa_G_140 (hw.m 11 (Nat.le_of_ble_eq_true rfl)) (hw.k (Nat.le_of_ble_eq_true rfl) (zk11 rr)) d_G_isFallen_7 ?_
  refine G_iconst g (pc := 10) (2 : Int32) d_G_isFallen_10 rfl ?_
  refine G_icmp_ne g (pc := 11) 18 d_G_isFallen_11 (by decide) ?_ ?_
  · refine G_iconst g (pc := 14) (1 : Int32) d_G_isFallen_14 rfl ?_
    refine G_goto g (pc := 15) 19 d_G_isFallen_15 (by decide) ?_
    exact G_zreturn g (pc := 19) true rfl hret (Nat.le_of_ble_eq_true rfl) (Nat.le_of_ble_eq_true rfl) d_G_isFallen_19
  · refine G_iconst g (pc := 18) (0 : Int32) d_G_isFallen_18 rfl ?_
    exact G_zreturn g (pc := 19) false rfl hret (Nat.le_of_ble_eq_true rfl) (Nat.le_of_ble_eq_true rfl) d_G_isFallen_19

theorem d_G_height_0 : decode b_G_height 0 = .ok (.aload_n 0, 1) := by decide +kernel
theorem d_G_height_1 : decode b_G_height 1 = .ok (.getfield 33, 3) := by decide +kernel
theorem d_G_height_4 : decode b_G_height 4 = .ok (.getfield 137, 3) := by decide +kernel
theorem d_G_height_7 : decode b_G_height 7 = .ok (.getfield 143, 3) := by decide +kernel
theorem d_G_height_10 : decode b_G_height 10 = .ok (.ireturn, 1) := by decide +kernel
def f_G_height  (M : Mem) : Option (Int32 × Mem) :=
  some (M 11 1, M)
set_option maxHeartbeats 4000000 in
set_option maxRecDepth 100000 in
theorem c_G_height (l : Launch) {w : Wc} {rr : Nat} (hw : WK w rr)  (M : Mem) : Ct QI l y_G_height b_G_height 1 (some .int) (rmL 0) w [.ref (wad w 0)] M (f_G_height  M) := by
  refine Ct.go (by decide) (L := [(0, .ref (wad w 0))]) rfl (Nat.le_of_ble_eq_true rfl) (fun p0 e s m args below meth c g hret => ?_)
  unfold f_G_height
  refine G_aload_n g (pc := 0) 0 d_G_height_0 rfl rfl ?_
  refine G_getR g (pc := 1) fa_G_33 (hw.m 0 (Nat.le_of_ble_eq_true rfl)) (hw.k (Nat.le_of_ble_eq_true rfl) (zk0 rr)) (hw.r (Nat.le_of_ble_eq_true rfl) (zr0_3 rr)) d_G_height_1 ?_
  refine G_getRN g (pc := 4) fa_G_137 (hw.m 10 (Nat.le_of_ble_eq_true rfl)) (hw.k (Nat.le_of_ble_eq_true rfl) (zk10 rr)) (hw.r (Nat.le_of_ble_eq_true rfl) (zr10_0 rr)) d_G_height_4 ?_
  refine G_getN g (pc := 7) fa_G_143 (hw.m 11 (Nat.le_of_ble_eq_true rfl)) (hw.k (Nat.le_of_ble_eq_true rfl) (zk11 rr)) d_G_height_7 ?_
  exact G_ireturn g (pc := 10) hret (Nat.le_of_ble_eq_true rfl) (Nat.le_of_ble_eq_true rfl) d_G_height_10

theorem d_G_tether_0 : decode b_G_tether 0 = .ok (.aload_n 0, 1) := by decide +kernel
theorem d_G_tether_1 : decode b_G_tether 1 = .ok (.getfield 33, 3) := by decide +kernel
theorem d_G_tether_4 : decode b_G_tether 4 = .ok (.getfield 137, 3) := by decide +kernel
theorem d_G_tether_7 : decode b_G_tether 7 = .ok (.getfield 146, 3) := by decide +kernel
theorem d_G_tether_10 : decode b_G_tether 10 = .ok (.ireturn, 1) := by decide +kernel
def f_G_tether  (M : Mem) : Option (Int32 × Mem) :=
  some (M 11 2, M)
set_option maxHeartbeats 4000000 in
set_option maxRecDepth 100000 in
theorem c_G_tether (l : Launch) {w : Wc} {rr : Nat} (hw : WK w rr)  (M : Mem) : Ct QI l y_G_tether b_G_tether 1 (some .int) (rmL 0) w [.ref (wad w 0)] M (f_G_tether  M) := by
  refine Ct.go (by decide) (L := [(0, .ref (wad w 0))]) rfl (Nat.le_of_ble_eq_true rfl) (fun p0 e s m args below meth c g hret => ?_)
  unfold f_G_tether
  refine G_aload_n g (pc := 0) 0 d_G_tether_0 rfl rfl ?_
  refine G_getR g (pc := 1) fa_G_33 (hw.m 0 (Nat.le_of_ble_eq_true rfl)) (hw.k (Nat.le_of_ble_eq_true rfl) (zk0 rr)) (hw.r (Nat.le_of_ble_eq_true rfl) (zr0_3 rr)) d_G_tether_1 ?_
  refine G_getRN g (pc := 4) fa_G_137 (hw.m 10 (Nat.le_of_ble_eq_true rfl)) (hw.k (Nat.le_of_ble_eq_true rfl) (zk10 rr)) (hw.r (Nat.le_of_ble_eq_true rfl) (zr10_0 rr)) d_G_tether_4 ?_
  refine G_getN g (pc := 7) fa_G_146 (hw.m 11 (Nat.le_of_ble_eq_true rfl)) (hw.k (Nat.le_of_ble_eq_true rfl) (zk11 rr)) d_G_tether_7 ?_
  exact G_ireturn g (pc := 10) hret (Nat.le_of_ble_eq_true rfl) (Nat.le_of_ble_eq_true rfl) d_G_tether_10

theorem d_G_area_0 : decode b_G_area 0 = .ok (.aload_n 0, 1) := by decide +kernel
theorem d_G_area_1 : decode b_G_area 1 = .ok (.getfield 33, 3) := by decide +kernel
theorem d_G_area_4 : decode b_G_area 4 = .ok (.getfield 137, 3) := by decide +kernel
theorem d_G_area_7 : decode b_G_area 7 = .ok (.getfield 149, 3) := by decide +kernel
theorem d_G_area_10 : decode b_G_area 10 = .ok (.ireturn, 1) := by decide +kernel
def f_G_area  (M : Mem) : Option (Int32 × Mem) :=
  some (M 11 3, M)
set_option maxHeartbeats 4000000 in
set_option maxRecDepth 100000 in
theorem c_G_area (l : Launch) {w : Wc} {rr : Nat} (hw : WK w rr)  (M : Mem) : Ct QI l y_G_area b_G_area 1 (some .int) (rmL 0) w [.ref (wad w 0)] M (f_G_area  M) := by
  refine Ct.go (by decide) (L := [(0, .ref (wad w 0))]) rfl (Nat.le_of_ble_eq_true rfl) (fun p0 e s m args below meth c g hret => ?_)
  unfold f_G_area
  refine G_aload_n g (pc := 0) 0 d_G_area_0 rfl rfl ?_
  refine G_getR g (pc := 1) fa_G_33 (hw.m 0 (Nat.le_of_ble_eq_true rfl)) (hw.k (Nat.le_of_ble_eq_true rfl) (zk0 rr)) (hw.r (Nat.le_of_ble_eq_true rfl) (zr0_3 rr)) d_G_area_1 ?_
  refine G_getRN g (pc := 4) fa_G_137 (hw.m 10 (Nat.le_of_ble_eq_true rfl)) (hw.k (Nat.le_of_ble_eq_true rfl) (zk10 rr)) (hw.r (Nat.le_of_ble_eq_true rfl) (zr10_0 rr)) d_G_area_4 ?_
  refine G_getN g (pc := 7) fa_G_149 (hw.m 11 (Nat.le_of_ble_eq_true rfl)) (hw.k (Nat.le_of_ble_eq_true rfl) (zk11 rr)) d_G_area_7 ?_
  exact G_ireturn g (pc := 10) hret (Nat.le_of_ble_eq_true rfl) (Nat.le_of_ble_eq_true rfl) d_G_area_10

theorem d_G_limit_0 : decode b_G_limit 0 = .ok (.aload_n 0, 1) := by decide +kernel
theorem d_G_limit_1 : decode b_G_limit 1 = .ok (.getfield 33, 3) := by decide +kernel
theorem d_G_limit_4 : decode b_G_limit 4 = .ok (.getfield 137, 3) := by decide +kernel
theorem d_G_limit_7 : decode b_G_limit 7 = .ok (.getfield 152, 3) := by decide +kernel
theorem d_G_limit_10 : decode b_G_limit 10 = .ok (.ireturn, 1) := by decide +kernel
def f_G_limit  (M : Mem) : Option (Int32 × Mem) :=
  some (M 11 4, M)
set_option maxHeartbeats 4000000 in
set_option maxRecDepth 100000 in
theorem c_G_limit (l : Launch) {w : Wc} {rr : Nat} (hw : WK w rr)  (M : Mem) : Ct QI l y_G_limit b_G_limit 1 (some .int) (rmL 0) w [.ref (wad w 0)] M (f_G_limit  M) := by
  refine Ct.go (by decide) (L := [(0, .ref (wad w 0))]) rfl (Nat.le_of_ble_eq_true rfl) (fun p0 e s m args below meth c g hret => ?_)
  unfold f_G_limit
  refine G_aload_n g (pc := 0) 0 d_G_limit_0 rfl rfl ?_
  refine G_getR g (pc := 1) fa_G_33 (hw.m 0 (Nat.le_of_ble_eq_true rfl)) (hw.k (Nat.le_of_ble_eq_true rfl) (zk0 rr)) (hw.r (Nat.le_of_ble_eq_true rfl) (zr0_3 rr)) d_G_limit_1 ?_
  refine G_getRN g (pc := 4) fa_G_137 (hw.m 10 (Nat.le_of_ble_eq_true rfl)) (hw.k (Nat.le_of_ble_eq_true rfl) (zk10 rr)) (hw.r (Nat.le_of_ble_eq_true rfl) (zr10_0 rr)) d_G_limit_4 ?_
  refine G_getN g (pc := 7) fa_G_152 (hw.m 11 (Nat.le_of_ble_eq_true rfl)) (hw.k (Nat.le_of_ble_eq_true rfl) (zk11 rr)) d_G_limit_7 ?_
  exact G_ireturn g (pc := 10) hret (Nat.le_of_ble_eq_true rfl) (Nat.le_of_ble_eq_true rfl) d_G_limit_10

theorem d_G_endurance_0 : decode b_G_endurance 0 = .ok (.aload_n 0, 1) := by decide +kernel
theorem d_G_endurance_1 : decode b_G_endurance 1 = .ok (.getfield 33, 3) := by decide +kernel
theorem d_G_endurance_4 : decode b_G_endurance 4 = .ok (.getfield 137, 3) := by decide +kernel
theorem d_G_endurance_7 : decode b_G_endurance 7 = .ok (.getfield 155, 3) := by decide +kernel
theorem d_G_endurance_10 : decode b_G_endurance 10 = .ok (.ireturn, 1) := by decide +kernel
def f_G_endurance  (M : Mem) : Option (Int32 × Mem) :=
  some (M 11 5, M)
set_option maxHeartbeats 4000000 in
set_option maxRecDepth 100000 in
theorem c_G_endurance (l : Launch) {w : Wc} {rr : Nat} (hw : WK w rr)  (M : Mem) : Ct QI l y_G_endurance b_G_endurance 1 (some .int) (rmL 0) w [.ref (wad w 0)] M (f_G_endurance  M) := by
  refine Ct.go (by decide) (L := [(0, .ref (wad w 0))]) rfl (Nat.le_of_ble_eq_true rfl) (fun p0 e s m args below meth c g hret => ?_)
  unfold f_G_endurance
  refine G_aload_n g (pc := 0) 0 d_G_endurance_0 rfl rfl ?_
  refine G_getR g (pc := 1) fa_G_33 (hw.m 0 (Nat.le_of_ble_eq_true rfl)) (hw.k (Nat.le_of_ble_eq_true rfl) (zk0 rr)) (hw.r (Nat.le_of_ble_eq_true rfl) (zr0_3 rr)) d_G_endurance_1 ?_
  refine G_getRN g (pc := 4) fa_G_137 (hw.m 10 (Nat.le_of_ble_eq_true rfl)) (hw.k (Nat.le_of_ble_eq_true rfl) (zk10 rr)) (hw.r (Nat.le_of_ble_eq_true rfl) (zr10_0 rr)) d_G_endurance_4 ?_
  refine G_getN g (pc := 7) fa_G_155 (hw.m 11 (Nat.le_of_ble_eq_true rfl)) (hw.k (Nat.le_of_ble_eq_true rfl) (zk11 rr)) d_G_endurance_7 ?_
  exact G_ireturn g (pc := 10) hret (Nat.le_of_ble_eq_true rfl) (Nat.le_of_ble_eq_true rfl) d_G_endurance_10

theorem d_G_wear_0 : decode b_G_wear 0 = .ok (.aload_n 0, 1) := by decide +kernel
theorem d_G_wear_1 : decode b_G_wear 1 = .ok (.getfield 33, 3) := by decide +kernel
theorem d_G_wear_4 : decode b_G_wear 4 = .ok (.getfield 137, 3) := by decide +kernel
theorem d_G_wear_7 : decode b_G_wear 7 = .ok (.getfield 158, 3) := by decide +kernel
theorem d_G_wear_10 : decode b_G_wear 10 = .ok (.ireturn, 1) := by decide +kernel
def f_G_wear  (M : Mem) : Option (Int32 × Mem) :=
  some (M 11 6, M)
set_option maxHeartbeats 4000000 in
set_option maxRecDepth 100000 in
theorem c_G_wear (l : Launch) {w : Wc} {rr : Nat} (hw : WK w rr)  (M : Mem) : Ct QI l y_G_wear b_G_wear 1 (some .int) (rmL 0) w [.ref (wad w 0)] M (f_G_wear  M) := by
  refine Ct.go (by decide) (L := [(0, .ref (wad w 0))]) rfl (Nat.le_of_ble_eq_true rfl) (fun p0 e s m args below meth c g hret => ?_)
  unfold f_G_wear
  refine G_aload_n g (pc := 0) 0 d_G_wear_0 rfl rfl ?_
  refine G_getR g (pc := 1) fa_G_33 (hw.m 0 (Nat.le_of_ble_eq_true rfl)) (hw.k (Nat.le_of_ble_eq_true rfl) (zk0 rr)) (hw.r (Nat.le_of_ble_eq_true rfl) (zr0_3 rr)) d_G_wear_1 ?_
  refine G_getRN g (pc := 4) fa_G_137 (hw.m 10 (Nat.le_of_ble_eq_true rfl)) (hw.k (Nat.le_of_ble_eq_true rfl) (zk10 rr)) (hw.r (Nat.le_of_ble_eq_true rfl) (zr10_0 rr)) d_G_wear_4 ?_
  refine G_getN g (pc := 7) fa_G_158 (hw.m 11 (Nat.le_of_ble_eq_true rfl)) (hw.k (Nat.le_of_ble_eq_true rfl) (zk11 rr)) d_G_wear_7 ?_
  exact G_ireturn g (pc := 10) hret (Nat.le_of_ble_eq_true rfl) (Nat.le_of_ble_eq_true rfl) d_G_wear_10

theorem d_G_loadOf_0 : decode b_G_loadOf 0 = .ok (.iload_n 1, 1) := by decide +kernel
theorem d_G_loadOf_1 : decode b_G_loadOf 1 = .ok (.iconst 0, 1) := by decide +kernel
theorem d_G_loadOf_2 : decode b_G_loadOf 2 = .ok (.bipush 36, 2) := by decide +kernel
theorem d_G_loadOf_4 : decode b_G_loadOf 4 = .ok (.invokestatic 103, 3) := by decide +kernel
theorem d_G_loadOf_7 : decode b_G_loadOf 7 = .ok (.aload_n 0, 1) := by decide +kernel
theorem d_G_loadOf_8 : decode b_G_loadOf 8 = .ok (.getfield 33, 3) := by decide +kernel
theorem d_G_loadOf_11 : decode b_G_loadOf 11 = .ok (.getfield 137, 3) := by decide +kernel
theorem d_G_loadOf_14 : decode b_G_loadOf 14 = .ok (.iload_n 1, 1) := by decide +kernel
theorem d_G_loadOf_15 : decode b_G_loadOf 15 = .ok (.invokevirtual 161, 3) := by decide +kernel
theorem d_G_loadOf_18 : decode b_G_loadOf 18 = .ok (.ireturn, 1) := by decide +kernel
theorem cc_G_161 : CV "KiteLogger" 161 y_K_loadUnder b_K_loadUnder 2 (some .int) 1 := ⟨TT_in (i := 916) (by decide +kernel) (by decide +kernel), TT_in (i := 917) (by decide +kernel) (by decide +kernel), TT_in (i := 918) (by decide +kernel) (by decide +kernel), TT_in (i := 25) (by decide +kernel) (by decide +kernel), TT_in (i := 919) (by decide +kernel) (by decide +kernel), ⟨by decide +kernel, by decide +kernel, by decide +kernel⟩⟩
def f_G_loadOf (a1 : Int32) (M : Mem) : Option (Int32 × Mem) :=
  bndM (f_G_refuseOutside a1 (0 : Int32) (36 : Int32) M) fun (M2 : Mem) => bnd (f_K_loadUnder 11 a1 M2) fun (x3 : Int32) (M4 : Mem) => some (x3, M4)
set_option maxHeartbeats 4000000 in
set_option maxRecDepth 100000 in
theorem c_G_loadOf (l : Launch) {w : Wc} {rr : Nat} (hw : WK w rr) (a1 : Int32) (M : Mem) : Ct QI l y_G_loadOf b_G_loadOf 2 (some .int) (rmL 2) w [.ref (wad w 0), .int a1] M (f_G_loadOf a1 M) := by
  refine Ct.go (by decide) (L := [(0, .ref (wad w 0)), (1, .int a1)]) rfl (Nat.le_of_ble_eq_true rfl) (fun p0 e s m args below meth c g hret => ?_)
  unfold f_G_loadOf
  refine G_iload_n g (pc := 0) 1 d_G_loadOf_0 rfl rfl ?_
  refine G_iconst g (pc := 1) (0 : Int32) d_G_loadOf_1 rfl ?_
  refine G_bipush g (pc := 2) (36 : Int32) d_G_loadOf_2 rfl ?_
  refine G_cSV g (pc := 4) (As := [.int a1, .int (0 : Int32), .int (36 : Int32)]) (st := []) cc_G_103 (c_G_refuseOutside l hw a1 (0 : Int32) (36 : Int32) M) rfl ⟨(Nat.le_of_ble_eq_true rfl), (Nat.le_of_ble_eq_true rfl)⟩ ⟨(Nat.le_of_ble_eq_true rfl), (Nat.le_of_ble_eq_true rfl)⟩ (Nat.le_of_ble_eq_true rfl) d_G_loadOf_4 (fun M2 => ?_)
  refine G_aload_n g (pc := 7) 0 d_G_loadOf_7 rfl rfl ?_
  refine G_getR g (pc := 8) fa_G_33 (hw.m 0 (Nat.le_of_ble_eq_true rfl)) (hw.k (Nat.le_of_ble_eq_true rfl) (zk0 rr)) (hw.r (Nat.le_of_ble_eq_true rfl) (zr0_3 rr)) d_G_loadOf_8 ?_
  refine G_getRN g (pc := 11) fa_G_137 (hw.m 10 (Nat.le_of_ble_eq_true rfl)) (hw.k (Nat.le_of_ble_eq_true rfl) (zk10 rr)) (hw.r (Nat.le_of_ble_eq_true rfl) (zr10_0 rr)) d_G_loadOf_11 ?_
  refine G_iload_n g (pc := 14) 1 d_G_loadOf_14 rfl rfl ?_
  refine G_cVI g (pc := 15) (As := [.int a1]) (st := []) cc_G_161 (c_K_loadUnder l hw 11 (List.elem_iff.mp (rfl : List.elem 11 kiL = true)) a1 M2) (hw.m 11 (Nat.le_of_ble_eq_true rfl)) (hw.k (Nat.le_of_ble_eq_true rfl) (zk11 rr)) rfl (by decide) rfl ⟨(Nat.le_of_ble_eq_true rfl), (Nat.le_of_ble_eq_true rfl)⟩ ⟨(Nat.le_of_ble_eq_true rfl), (Nat.le_of_ble_eq_true rfl)⟩ (Nat.le_of_ble_eq_true rfl) d_G_loadOf_15 (fun x3 M4 => ?_)
  exact G_ireturn g (pc := 18) hret (Nat.le_of_ble_eq_true rfl) (Nat.le_of_ble_eq_true rfl) d_G_loadOf_18

theorem d_G_flightTime_0 : decode b_G_flightTime 0 = .ok (.aload_n 0, 1) := by decide +kernel
theorem d_G_flightTime_1 : decode b_G_flightTime 1 = .ok (.getfield 33, 3) := by decide +kernel
theorem d_G_flightTime_4 : decode b_G_flightTime 4 = .ok (.getfield 137, 3) := by decide +kernel
theorem d_G_flightTime_7 : decode b_G_flightTime 7 = .ok (.getfield 164, 3) := by decide +kernel
theorem d_G_flightTime_10 : decode b_G_flightTime 10 = .ok (.ireturn, 1) := by decide +kernel
def f_G_flightTime  (M : Mem) : Option (Int32 × Mem) :=
  some (M 11 9, M)
set_option maxHeartbeats 4000000 in
set_option maxRecDepth 100000 in
theorem c_G_flightTime (l : Launch) {w : Wc} {rr : Nat} (hw : WK w rr)  (M : Mem) : Ct QI l y_G_flightTime b_G_flightTime 1 (some .int) (rmL 0) w [.ref (wad w 0)] M (f_G_flightTime  M) := by
  refine Ct.go (by decide) (L := [(0, .ref (wad w 0))]) rfl (Nat.le_of_ble_eq_true rfl) (fun p0 e s m args below meth c g hret => ?_)
  unfold f_G_flightTime
  refine G_aload_n g (pc := 0) 0 d_G_flightTime_0 rfl rfl ?_
  refine G_getR g (pc := 1) fa_G_33 (hw.m 0 (Nat.le_of_ble_eq_true rfl)) (hw.k (Nat.le_of_ble_eq_true rfl) (zk0 rr)) (hw.r (Nat.le_of_ble_eq_true rfl) (zr0_3 rr)) d_G_flightTime_1 ?_
  refine G_getRN g (pc := 4) fa_G_137 (hw.m 10 (Nat.le_of_ble_eq_true rfl)) (hw.k (Nat.le_of_ble_eq_true rfl) (zk10 rr)) (hw.r (Nat.le_of_ble_eq_true rfl) (zr10_0 rr)) d_G_flightTime_4 ?_
  refine G_getN g (pc := 7) fa_G_164 (hw.m 11 (Nat.le_of_ble_eq_true rfl)) (hw.k (Nat.le_of_ble_eq_true rfl) (zk11 rr)) d_G_flightTime_7 ?_
  exact G_ireturn g (pc := 10) hret (Nat.le_of_ble_eq_true rfl) (Nat.le_of_ble_eq_true rfl) d_G_flightTime_10

theorem d_G_beaconTime_0 : decode b_G_beaconTime 0 = .ok (.aload_n 0, 1) := by decide +kernel
theorem d_G_beaconTime_1 : decode b_G_beaconTime 1 = .ok (.getfield 33, 3) := by decide +kernel
theorem d_G_beaconTime_4 : decode b_G_beaconTime 4 = .ok (.getfield 137, 3) := by decide +kernel
theorem d_G_beaconTime_7 : decode b_G_beaconTime 7 = .ok (.getfield 167, 3) := by decide +kernel
theorem d_G_beaconTime_10 : decode b_G_beaconTime 10 = .ok (.ireturn, 1) := by decide +kernel
def f_G_beaconTime  (M : Mem) : Option (Int32 × Mem) :=
  some (M 11 8, M)
set_option maxHeartbeats 4000000 in
set_option maxRecDepth 100000 in
theorem c_G_beaconTime (l : Launch) {w : Wc} {rr : Nat} (hw : WK w rr)  (M : Mem) : Ct QI l y_G_beaconTime b_G_beaconTime 1 (some .int) (rmL 0) w [.ref (wad w 0)] M (f_G_beaconTime  M) := by
  refine Ct.go (by decide) (L := [(0, .ref (wad w 0))]) rfl (Nat.le_of_ble_eq_true rfl) (fun p0 e s m args below meth c g hret => ?_)
  unfold f_G_beaconTime
  refine G_aload_n g (pc := 0) 0 d_G_beaconTime_0 rfl rfl ?_
  refine G_getR g (pc := 1) fa_G_33 (hw.m 0 (Nat.le_of_ble_eq_true rfl)) (hw.k (Nat.le_of_ble_eq_true rfl) (zk0 rr)) (hw.r (Nat.le_of_ble_eq_true rfl) (zr0_3 rr)) d_G_beaconTime_1 ?_
  refine G_getRN g (pc := 4) fa_G_137 (hw.m 10 (Nat.le_of_ble_eq_true rfl)) (hw.k (Nat.le_of_ble_eq_true rfl) (zk10 rr)) (hw.r (Nat.le_of_ble_eq_true rfl) (zr10_0 rr)) d_G_beaconTime_4 ?_
  refine G_getN g (pc := 7) fa_G_167 (hw.m 11 (Nat.le_of_ble_eq_true rfl)) (hw.k (Nat.le_of_ble_eq_true rfl) (zk11 rr)) d_G_beaconTime_7 ?_
  exact G_ireturn g (pc := 10) hret (Nat.le_of_ble_eq_true rfl) (Nat.le_of_ble_eq_true rfl) d_G_beaconTime_10

theorem d_G_launches_0 : decode b_G_launches 0 = .ok (.aload_n 0, 1) := by decide +kernel
theorem d_G_launches_1 : decode b_G_launches 1 = .ok (.getfield 33, 3) := by decide +kernel
theorem d_G_launches_4 : decode b_G_launches 4 = .ok (.getfield 137, 3) := by decide +kernel
theorem d_G_launches_7 : decode b_G_launches 7 = .ok (.getfield 170, 3) := by decide +kernel
theorem d_G_launches_10 : decode b_G_launches 10 = .ok (.ireturn, 1) := by decide +kernel
def f_G_launches  (M : Mem) : Option (Int32 × Mem) :=
  some (M 11 10, M)
set_option maxHeartbeats 4000000 in
set_option maxRecDepth 100000 in
theorem c_G_launches (l : Launch) {w : Wc} {rr : Nat} (hw : WK w rr)  (M : Mem) : Ct QI l y_G_launches b_G_launches 1 (some .int) (rmL 0) w [.ref (wad w 0)] M (f_G_launches  M) := by
  refine Ct.go (by decide) (L := [(0, .ref (wad w 0))]) rfl (Nat.le_of_ble_eq_true rfl) (fun p0 e s m args below meth c g hret => ?_)
  unfold f_G_launches
  refine G_aload_n g (pc := 0) 0 d_G_launches_0 rfl rfl ?_
  refine G_getR g (pc := 1) fa_G_33 (hw.m 0 (Nat.le_of_ble_eq_true rfl)) (hw.k (Nat.le_of_ble_eq_true rfl) (zk0 rr)) (hw.r (Nat.le_of_ble_eq_true rfl) (zr0_3 rr)) d_G_launches_1 ?_
  refine G_getRN g (pc := 4) fa_G_137 (hw.m 10 (Nat.le_of_ble_eq_true rfl)) (hw.k (Nat.le_of_ble_eq_true rfl) (zk10 rr)) (hw.r (Nat.le_of_ble_eq_true rfl) (zr10_0 rr)) d_G_launches_4 ?_
  refine G_getN g (pc := 7) fa_G_170 (hw.m 11 (Nat.le_of_ble_eq_true rfl)) (hw.k (Nat.le_of_ble_eq_true rfl) (zk11 rr)) d_G_launches_7 ?_
  exact G_ireturn g (pc := 10) hret (Nat.le_of_ble_eq_true rfl) (Nat.le_of_ble_eq_true rfl) d_G_launches_10

theorem d_G_snaps_0 : decode b_G_snaps 0 = .ok (.aload_n 0, 1) := by decide +kernel
theorem d_G_snaps_1 : decode b_G_snaps 1 = .ok (.getfield 33, 3) := by decide +kernel
theorem d_G_snaps_4 : decode b_G_snaps 4 = .ok (.getfield 137, 3) := by decide +kernel
theorem d_G_snaps_7 : decode b_G_snaps 7 = .ok (.getfield 173, 3) := by decide +kernel
theorem d_G_snaps_10 : decode b_G_snaps 10 = .ok (.ireturn, 1) := by decide +kernel
def f_G_snaps  (M : Mem) : Option (Int32 × Mem) :=
  some (M 11 11, M)
set_option maxHeartbeats 4000000 in
set_option maxRecDepth 100000 in
theorem c_G_snaps (l : Launch) {w : Wc} {rr : Nat} (hw : WK w rr)  (M : Mem) : Ct QI l y_G_snaps b_G_snaps 1 (some .int) (rmL 0) w [.ref (wad w 0)] M (f_G_snaps  M) := by
  refine Ct.go (by decide) (L := [(0, .ref (wad w 0))]) rfl (Nat.le_of_ble_eq_true rfl) (fun p0 e s m args below meth c g hret => ?_)
  unfold f_G_snaps
  refine G_aload_n g (pc := 0) 0 d_G_snaps_0 rfl rfl ?_
  refine G_getR g (pc := 1) fa_G_33 (hw.m 0 (Nat.le_of_ble_eq_true rfl)) (hw.k (Nat.le_of_ble_eq_true rfl) (zk0 rr)) (hw.r (Nat.le_of_ble_eq_true rfl) (zr0_3 rr)) d_G_snaps_1 ?_
  refine G_getRN g (pc := 4) fa_G_137 (hw.m 10 (Nat.le_of_ble_eq_true rfl)) (hw.k (Nat.le_of_ble_eq_true rfl) (zk10 rr)) (hw.r (Nat.le_of_ble_eq_true rfl) (zr10_0 rr)) d_G_snaps_4 ?_
  refine G_getN g (pc := 7) fa_G_173 (hw.m 11 (Nat.le_of_ble_eq_true rfl)) (hw.k (Nat.le_of_ble_eq_true rfl) (zk11 rr)) d_G_snaps_7 ?_
  exact G_ireturn g (pc := 10) hret (Nat.le_of_ble_eq_true rfl) (Nat.le_of_ble_eq_true rfl) d_G_snaps_10

theorem d_G_searches_0 : decode b_G_searches 0 = .ok (.aload_n 0, 1) := by decide +kernel
theorem d_G_searches_1 : decode b_G_searches 1 = .ok (.getfield 33, 3) := by decide +kernel
theorem d_G_searches_4 : decode b_G_searches 4 = .ok (.getfield 137, 3) := by decide +kernel
theorem d_G_searches_7 : decode b_G_searches 7 = .ok (.getfield 176, 3) := by decide +kernel
theorem d_G_searches_10 : decode b_G_searches 10 = .ok (.ireturn, 1) := by decide +kernel
def f_G_searches  (M : Mem) : Option (Int32 × Mem) :=
  some (M 11 12, M)
set_option maxHeartbeats 4000000 in
set_option maxRecDepth 100000 in
theorem c_G_searches (l : Launch) {w : Wc} {rr : Nat} (hw : WK w rr)  (M : Mem) : Ct QI l y_G_searches b_G_searches 1 (some .int) (rmL 0) w [.ref (wad w 0)] M (f_G_searches  M) := by
  refine Ct.go (by decide) (L := [(0, .ref (wad w 0))]) rfl (Nat.le_of_ble_eq_true rfl) (fun p0 e s m args below meth c g hret => ?_)
  unfold f_G_searches
  refine G_aload_n g (pc := 0) 0 d_G_searches_0 rfl rfl ?_
  refine G_getR g (pc := 1) fa_G_33 (hw.m 0 (Nat.le_of_ble_eq_true rfl)) (hw.k (Nat.le_of_ble_eq_true rfl) (zk0 rr)) (hw.r (Nat.le_of_ble_eq_true rfl) (zr0_3 rr)) d_G_searches_1 ?_
  refine G_getRN g (pc := 4) fa_G_137 (hw.m 10 (Nat.le_of_ble_eq_true rfl)) (hw.k (Nat.le_of_ble_eq_true rfl) (zk10 rr)) (hw.r (Nat.le_of_ble_eq_true rfl) (zr10_0 rr)) d_G_searches_4 ?_
  refine G_getN g (pc := 7) fa_G_176 (hw.m 11 (Nat.le_of_ble_eq_true rfl)) (hw.k (Nat.le_of_ble_eq_true rfl) (zk11 rr)) d_G_searches_7 ?_
  exact G_ireturn g (pc := 10) hret (Nat.le_of_ble_eq_true rfl) (Nat.le_of_ble_eq_true rfl) d_G_searches_10

theorem d_G_interval_0 : decode b_G_interval 0 = .ok (.aload_n 0, 1) := by decide +kernel
theorem d_G_interval_1 : decode b_G_interval 1 = .ok (.getfield 33, 3) := by decide +kernel
theorem d_G_interval_4 : decode b_G_interval 4 = .ok (.getfield 179, 3) := by decide +kernel
theorem d_G_interval_7 : decode b_G_interval 7 = .ok (.ireturn, 1) := by decide +kernel
def f_G_interval  (M : Mem) : Option (Int32 × Mem) :=
  some (M 10 6, M)
set_option maxHeartbeats 4000000 in
set_option maxRecDepth 100000 in
theorem c_G_interval (l : Launch) {w : Wc} {rr : Nat} (hw : WK w rr)  (M : Mem) : Ct QI l y_G_interval b_G_interval 1 (some .int) (rmL 0) w [.ref (wad w 0)] M (f_G_interval  M) := by
  refine Ct.go (by decide) (L := [(0, .ref (wad w 0))]) rfl (Nat.le_of_ble_eq_true rfl) (fun p0 e s m args below meth c g hret => ?_)
  unfold f_G_interval
  refine G_aload_n g (pc := 0) 0 d_G_interval_0 rfl rfl ?_
  refine G_getR g (pc := 1) fa_G_33 (hw.m 0 (Nat.le_of_ble_eq_true rfl)) (hw.k (Nat.le_of_ble_eq_true rfl) (zk0 rr)) (hw.r (Nat.le_of_ble_eq_true rfl) (zr0_3 rr)) d_G_interval_1 ?_
  refine G_getN g (pc := 4) fa_G_179 (hw.m 10 (Nat.le_of_ble_eq_true rfl)) (hw.k (Nat.le_of_ble_eq_true rfl) (zk10 rr)) d_G_interval_4 ?_
  exact G_ireturn g (pc := 7) hret (Nat.le_of_ble_eq_true rfl) (Nat.le_of_ble_eq_true rfl) d_G_interval_7

theorem d_G_loggedCount_0 : decode b_G_loggedCount 0 = .ok (.aload_n 0, 1) := by decide +kernel
theorem d_G_loggedCount_1 : decode b_G_loggedCount 1 = .ok (.getfield 33, 3) := by decide +kernel
theorem d_G_loggedCount_4 : decode b_G_loggedCount 4 = .ok (.getfield 182, 3) := by decide +kernel
theorem d_G_loggedCount_7 : decode b_G_loggedCount 7 = .ok (.getfield 186, 3) := by decide +kernel
theorem d_G_loggedCount_10 : decode b_G_loggedCount 10 = .ok (.ireturn, 1) := by decide +kernel
def f_G_loggedCount  (M : Mem) : Option (Int32 × Mem) :=
  some (M 15 5, M)
set_option maxHeartbeats 4000000 in
set_option maxRecDepth 100000 in
theorem c_G_loggedCount (l : Launch) {w : Wc} {rr : Nat} (hw : WK w rr)  (M : Mem) : Ct QI l y_G_loggedCount b_G_loggedCount 1 (some .int) (rmL 0) w [.ref (wad w 0)] M (f_G_loggedCount  M) := by
  refine Ct.go (by decide) (L := [(0, .ref (wad w 0))]) rfl (Nat.le_of_ble_eq_true rfl) (fun p0 e s m args below meth c g hret => ?_)
  unfold f_G_loggedCount
  refine G_aload_n g (pc := 0) 0 d_G_loggedCount_0 rfl rfl ?_
  refine G_getR g (pc := 1) fa_G_33 (hw.m 0 (Nat.le_of_ble_eq_true rfl)) (hw.k (Nat.le_of_ble_eq_true rfl) (zk0 rr)) (hw.r (Nat.le_of_ble_eq_true rfl) (zr0_3 rr)) d_G_loggedCount_1 ?_
  refine G_getRN g (pc := 4) fa_G_182 (hw.m 10 (Nat.le_of_ble_eq_true rfl)) (hw.k (Nat.le_of_ble_eq_true rfl) (zk10 rr)) (hw.r (Nat.le_of_ble_eq_true rfl) (zr10_4 rr)) d_G_loggedCount_4 ?_
  refine G_getN g (pc := 7) fa_G_186 (hw.m 15 (Nat.le_of_ble_eq_true rfl)) (hw.k (Nat.le_of_ble_eq_true rfl) (zk15 rr)) d_G_loggedCount_7 ?_
  exact G_ireturn g (pc := 10) hret (Nat.le_of_ble_eq_true rfl) (Nat.le_of_ble_eq_true rfl) d_G_loggedCount_10

theorem d_G_loggedTick_0 : decode b_G_loggedTick 0 = .ok (.aload_n 0, 1) := by decide +kernel
theorem d_G_loggedTick_1 : decode b_G_loggedTick 1 = .ok (.getfield 33, 3) := by decide +kernel
theorem d_G_loggedTick_4 : decode b_G_loggedTick 4 = .ok (.getfield 182, 3) := by decide +kernel
theorem d_G_loggedTick_7 : decode b_G_loggedTick 7 = .ok (.iload_n 1, 1) := by decide +kernel
theorem d_G_loggedTick_8 : decode b_G_loggedTick 8 = .ok (.invokestatic 189, 3) := by decide +kernel
theorem d_G_loggedTick_11 : decode b_G_loggedTick 11 = .ok (.aload_n 0, 1) := by decide +kernel
theorem d_G_loggedTick_12 : decode b_G_loggedTick 12 = .ok (.getfield 33, 3) := by decide +kernel
theorem d_G_loggedTick_15 : decode b_G_loggedTick 15 = .ok (.getfield 182, 3) := by decide +kernel
theorem d_G_loggedTick_18 : decode b_G_loggedTick 18 = .ok (.iload_n 1, 1) := by decide +kernel
theorem d_G_loggedTick_19 : decode b_G_loggedTick 19 = .ok (.invokevirtual 193, 3) := by decide +kernel
theorem d_G_loggedTick_22 : decode b_G_loggedTick 22 = .ok (.ireturn, 1) := by decide +kernel
theorem cc_G_189 : CS "KiteLogger" 189 y_G_refuseMissing b_G_refuseMissing 2 none 2 := ⟨TT_in (i := 794) (by decide +kernel) (by decide +kernel), TT_in (i := 795) (by decide +kernel) (by decide +kernel), TT_in (i := 18) (by decide +kernel) (by decide +kernel), TT_in (i := 796) (by decide +kernel) (by decide +kernel), ⟨by decide +kernel, by decide +kernel, by decide +kernel⟩⟩
theorem cc_G_193 : CV "KiteLogger" 193 y_S_tickAt b_S_tickAt 2 (some .int) 1 := ⟨TT_in (i := 817) (by decide +kernel) (by decide +kernel), TT_in (i := 818) (by decide +kernel) (by decide +kernel), TT_in (i := 819) (by decide +kernel) (by decide +kernel), TT_in (i := 27) (by decide +kernel) (by decide +kernel), TT_in (i := 820) (by decide +kernel) (by decide +kernel), ⟨by decide +kernel, by decide +kernel, by decide +kernel⟩⟩
def f_G_loggedTick (a1 : Int32) (M : Mem) : Option (Int32 × Mem) :=
  bndM (f_G_refuseMissing 15 a1 M) fun (M2 : Mem) => bnd (f_S_tickAt 15 a1 M2) fun (x3 : Int32) (M4 : Mem) => some (x3, M4)
set_option maxHeartbeats 4000000 in
set_option maxRecDepth 100000 in
theorem c_G_loggedTick (l : Launch) {w : Wc} {rr : Nat} (hw : WK w rr) (a1 : Int32) (M : Mem) : Ct QI l y_G_loggedTick b_G_loggedTick 2 (some .int) (rmL 2) w [.ref (wad w 0), .int a1] M (f_G_loggedTick a1 M) := by
  refine Ct.go (by decide) (L := [(0, .ref (wad w 0)), (1, .int a1)]) rfl (Nat.le_of_ble_eq_true rfl) (fun p0 e s m args below meth c g hret => ?_)
  unfold f_G_loggedTick
  refine G_aload_n g (pc := 0) 0 d_G_loggedTick_0 rfl rfl ?_
  refine G_getR g (pc := 1) fa_G_33 (hw.m 0 (Nat.le_of_ble_eq_true rfl)) (hw.k (Nat.le_of_ble_eq_true rfl) (zk0 rr)) (hw.r (Nat.le_of_ble_eq_true rfl) (zr0_3 rr)) d_G_loggedTick_1 ?_
  refine G_getRN g (pc := 4) fa_G_182 (hw.m 10 (Nat.le_of_ble_eq_true rfl)) (hw.k (Nat.le_of_ble_eq_true rfl) (zk10 rr)) (hw.r (Nat.le_of_ble_eq_true rfl) (zr10_4 rr)) d_G_loggedTick_4 ?_
  refine G_iload_n g (pc := 7) 1 d_G_loggedTick_7 rfl rfl ?_
  refine G_cSV g (pc := 8) (As := [.ref (wad w 15), .int a1]) (st := []) cc_G_189 (c_G_refuseMissing l hw 15 (List.elem_iff.mp (rfl : List.elem 15 saL = true)) a1 M) rfl ⟨(Nat.le_of_ble_eq_true rfl), (Nat.le_of_ble_eq_true rfl)⟩ ⟨(Nat.le_of_ble_eq_true rfl), (Nat.le_of_ble_eq_true rfl)⟩ (Nat.le_of_ble_eq_true rfl) d_G_loggedTick_8 (fun M2 => ?_)
  refine G_aload_n g (pc := 11) 0 d_G_loggedTick_11 rfl rfl ?_
  refine G_getR g (pc := 12) fa_G_33 (hw.m 0 (Nat.le_of_ble_eq_true rfl)) (hw.k (Nat.le_of_ble_eq_true rfl) (zk0 rr)) (hw.r (Nat.le_of_ble_eq_true rfl) (zr0_3 rr)) d_G_loggedTick_12 ?_
  refine G_getRN g (pc := 15) fa_G_182 (hw.m 10 (Nat.le_of_ble_eq_true rfl)) (hw.k (Nat.le_of_ble_eq_true rfl) (zk10 rr)) (hw.r (Nat.le_of_ble_eq_true rfl) (zr10_4 rr)) d_G_loggedTick_15 ?_
  refine G_iload_n g (pc := 18) 1 d_G_loggedTick_18 rfl rfl ?_
  refine G_cVI g (pc := 19) (As := [.int a1]) (st := []) cc_G_193 (c_S_tickAt l hw 15 (List.elem_iff.mp (rfl : List.elem 15 saL = true)) a1 M2) (hw.m 15 (Nat.le_of_ble_eq_true rfl)) (hw.k (Nat.le_of_ble_eq_true rfl) (zk15 rr)) rfl (by decide) rfl ⟨(Nat.le_of_ble_eq_true rfl), (Nat.le_of_ble_eq_true rfl)⟩ ⟨(Nat.le_of_ble_eq_true rfl), (Nat.le_of_ble_eq_true rfl)⟩ (Nat.le_of_ble_eq_true rfl) d_G_loggedTick_19 (fun x3 M4 => ?_)
  exact G_ireturn g (pc := 22) hret (Nat.le_of_ble_eq_true rfl) (Nat.le_of_ble_eq_true rfl) d_G_loggedTick_22

theorem d_G_loggedHeight_0 : decode b_G_loggedHeight 0 = .ok (.aload_n 0, 1) := by decide +kernel
theorem d_G_loggedHeight_1 : decode b_G_loggedHeight 1 = .ok (.getfield 33, 3) := by decide +kernel
theorem d_G_loggedHeight_4 : decode b_G_loggedHeight 4 = .ok (.getfield 182, 3) := by decide +kernel
theorem d_G_loggedHeight_7 : decode b_G_loggedHeight 7 = .ok (.iload_n 1, 1) := by decide +kernel
theorem d_G_loggedHeight_8 : decode b_G_loggedHeight 8 = .ok (.invokestatic 189, 3) := by decide +kernel
theorem d_G_loggedHeight_11 : decode b_G_loggedHeight 11 = .ok (.aload_n 0, 1) := by decide +kernel
theorem d_G_loggedHeight_12 : decode b_G_loggedHeight 12 = .ok (.getfield 33, 3) := by decide +kernel
theorem d_G_loggedHeight_15 : decode b_G_loggedHeight 15 = .ok (.getfield 182, 3) := by decide +kernel
theorem d_G_loggedHeight_18 : decode b_G_loggedHeight 18 = .ok (.iload_n 1, 1) := by decide +kernel
theorem d_G_loggedHeight_19 : decode b_G_loggedHeight 19 = .ok (.invokevirtual 196, 3) := by decide +kernel
theorem d_G_loggedHeight_22 : decode b_G_loggedHeight 22 = .ok (.ireturn, 1) := by decide +kernel
theorem cc_G_196 : CV "KiteLogger" 196 y_S_heightAt b_S_heightAt 2 (some .int) 1 := ⟨TT_in (i := 830) (by decide +kernel) (by decide +kernel), TT_in (i := 831) (by decide +kernel) (by decide +kernel), TT_in (i := 832) (by decide +kernel) (by decide +kernel), TT_in (i := 27) (by decide +kernel) (by decide +kernel), TT_in (i := 833) (by decide +kernel) (by decide +kernel), ⟨by decide +kernel, by decide +kernel, by decide +kernel⟩⟩
def f_G_loggedHeight (a1 : Int32) (M : Mem) : Option (Int32 × Mem) :=
  bndM (f_G_refuseMissing 15 a1 M) fun (M2 : Mem) => bnd (f_S_heightAt 15 a1 M2) fun (x3 : Int32) (M4 : Mem) => some (x3, M4)
set_option maxHeartbeats 4000000 in
set_option maxRecDepth 100000 in
theorem c_G_loggedHeight (l : Launch) {w : Wc} {rr : Nat} (hw : WK w rr) (a1 : Int32) (M : Mem) : Ct QI l y_G_loggedHeight b_G_loggedHeight 2 (some .int) (rmL 2) w [.ref (wad w 0), .int a1] M (f_G_loggedHeight a1 M) := by
  refine Ct.go (by decide) (L := [(0, .ref (wad w 0)), (1, .int a1)]) rfl (Nat.le_of_ble_eq_true rfl) (fun p0 e s m args below meth c g hret => ?_)
  unfold f_G_loggedHeight
  refine G_aload_n g (pc := 0) 0 d_G_loggedHeight_0 rfl rfl ?_
  refine G_getR g (pc := 1) fa_G_33 (hw.m 0 (Nat.le_of_ble_eq_true rfl)) (hw.k (Nat.le_of_ble_eq_true rfl) (zk0 rr)) (hw.r (Nat.le_of_ble_eq_true rfl) (zr0_3 rr)) d_G_loggedHeight_1 ?_
  refine G_getRN g (pc := 4) fa_G_182 (hw.m 10 (Nat.le_of_ble_eq_true rfl)) (hw.k (Nat.le_of_ble_eq_true rfl) (zk10 rr)) (hw.r (Nat.le_of_ble_eq_true rfl) (zr10_4 rr)) d_G_loggedHeight_4 ?_
  refine G_iload_n g (pc := 7) 1 d_G_loggedHeight_7 rfl rfl ?_
  refine G_cSV g (pc := 8) (As := [.ref (wad w 15), .int a1]) (st := []) cc_G_189 (c_G_refuseMissing l hw 15 (List.elem_iff.mp (rfl : List.elem 15 saL = true)) a1 M) rfl ⟨(Nat.le_of_ble_eq_true rfl), (Nat.le_of_ble_eq_true rfl)⟩ ⟨(Nat.le_of_ble_eq_true rfl), (Nat.le_of_ble_eq_true rfl)⟩ (Nat.le_of_ble_eq_true rfl) d_G_loggedHeight_8 (fun M2 => ?_)
  refine G_aload_n g (pc := 11) 0 d_G_loggedHeight_11 rfl rfl ?_
  refine G_getR g (pc := 12) fa_G_33 (hw.m 0 (Nat.le_of_ble_eq_true rfl)) (hw.k (Nat.le_of_ble_eq_true rfl) (zk0 rr)) (hw.r (Nat.le_of_ble_eq_true rfl) (zr0_3 rr)) d_G_loggedHeight_12 ?_
  refine G_getRN g (pc := 15) fa_G_182 (hw.m 10 (Nat.le_of_ble_eq_true rfl)) (hw.k (Nat.le_of_ble_eq_true rfl) (zk10 rr)) (hw.r (Nat.le_of_ble_eq_true rfl) (zr10_4 rr)) d_G_loggedHeight_15 ?_
  refine G_iload_n g (pc := 18) 1 d_G_loggedHeight_18 rfl rfl ?_
  refine G_cVI g (pc := 19) (As := [.int a1]) (st := []) cc_G_196 (c_S_heightAt l hw 15 (List.elem_iff.mp (rfl : List.elem 15 saL = true)) a1 M2) (hw.m 15 (Nat.le_of_ble_eq_true rfl)) (hw.k (Nat.le_of_ble_eq_true rfl) (zk15 rr)) rfl (by decide) rfl ⟨(Nat.le_of_ble_eq_true rfl), (Nat.le_of_ble_eq_true rfl)⟩ ⟨(Nat.le_of_ble_eq_true rfl), (Nat.le_of_ble_eq_true rfl)⟩ (Nat.le_of_ble_eq_true rfl) d_G_loggedHeight_19 (fun x3 M4 => ?_)
  exact G_ireturn g (pc := 22) hret (Nat.le_of_ble_eq_true rfl) (Nat.le_of_ble_eq_true rfl) d_G_loggedHeight_22

theorem d_G_loggedGust_0 : decode b_G_loggedGust 0 = .ok (.aload_n 0, 1) := by decide +kernel
theorem d_G_loggedGust_1 : decode b_G_loggedGust 1 = .ok (.getfield 33, 3) := by decide +kernel
theorem d_G_loggedGust_4 : decode b_G_loggedGust 4 = .ok (.getfield 182, 3) := by decide +kernel
theorem d_G_loggedGust_7 : decode b_G_loggedGust 7 = .ok (.iload_n 1, 1) := by decide +kernel
theorem d_G_loggedGust_8 : decode b_G_loggedGust 8 = .ok (.invokestatic 189, 3) := by decide +kernel
theorem d_G_loggedGust_11 : decode b_G_loggedGust 11 = .ok (.aload_n 0, 1) := by decide +kernel
theorem d_G_loggedGust_12 : decode b_G_loggedGust 12 = .ok (.getfield 33, 3) := by decide +kernel
theorem d_G_loggedGust_15 : decode b_G_loggedGust 15 = .ok (.getfield 182, 3) := by decide +kernel
theorem d_G_loggedGust_18 : decode b_G_loggedGust 18 = .ok (.iload_n 1, 1) := by decide +kernel
theorem d_G_loggedGust_19 : decode b_G_loggedGust 19 = .ok (.invokevirtual 199, 3) := by decide +kernel
theorem d_G_loggedGust_22 : decode b_G_loggedGust 22 = .ok (.ireturn, 1) := by decide +kernel
theorem cc_G_199 : CV "KiteLogger" 199 y_S_gustAt b_S_gustAt 2 (some .int) 1 := ⟨TT_in (i := 838) (by decide +kernel) (by decide +kernel), TT_in (i := 839) (by decide +kernel) (by decide +kernel), TT_in (i := 840) (by decide +kernel) (by decide +kernel), TT_in (i := 27) (by decide +kernel) (by decide +kernel), TT_in (i := 841) (by decide +kernel) (by decide +kernel), ⟨by decide +kernel, by decide +kernel, by decide +kernel⟩⟩
def f_G_loggedGust (a1 : Int32) (M : Mem) : Option (Int32 × Mem) :=
  bndM (f_G_refuseMissing 15 a1 M) fun (M2 : Mem) => bnd (f_S_gustAt 15 a1 M2) fun (x3 : Int32) (M4 : Mem) => some (x3, M4)
set_option maxHeartbeats 4000000 in
set_option maxRecDepth 100000 in
theorem c_G_loggedGust (l : Launch) {w : Wc} {rr : Nat} (hw : WK w rr) (a1 : Int32) (M : Mem) : Ct QI l y_G_loggedGust b_G_loggedGust 2 (some .int) (rmL 2) w [.ref (wad w 0), .int a1] M (f_G_loggedGust a1 M) := by
  refine Ct.go (by decide) (L := [(0, .ref (wad w 0)), (1, .int a1)]) rfl (Nat.le_of_ble_eq_true rfl) (fun p0 e s m args below meth c g hret => ?_)
  unfold f_G_loggedGust
  refine G_aload_n g (pc := 0) 0 d_G_loggedGust_0 rfl rfl ?_
  refine G_getR g (pc := 1) fa_G_33 (hw.m 0 (Nat.le_of_ble_eq_true rfl)) (hw.k (Nat.le_of_ble_eq_true rfl) (zk0 rr)) (hw.r (Nat.le_of_ble_eq_true rfl) (zr0_3 rr)) d_G_loggedGust_1 ?_
  refine G_getRN g (pc := 4) fa_G_182 (hw.m 10 (Nat.le_of_ble_eq_true rfl)) (hw.k (Nat.le_of_ble_eq_true rfl) (zk10 rr)) (hw.r (Nat.le_of_ble_eq_true rfl) (zr10_4 rr)) d_G_loggedGust_4 ?_
  refine G_iload_n g (pc := 7) 1 d_G_loggedGust_7 rfl rfl ?_
  refine G_cSV g (pc := 8) (As := [.ref (wad w 15), .int a1]) (st := []) cc_G_189 (c_G_refuseMissing l hw 15 (List.elem_iff.mp (rfl : List.elem 15 saL = true)) a1 M) rfl ⟨(Nat.le_of_ble_eq_true rfl), (Nat.le_of_ble_eq_true rfl)⟩ ⟨(Nat.le_of_ble_eq_true rfl), (Nat.le_of_ble_eq_true rfl)⟩ (Nat.le_of_ble_eq_true rfl) d_G_loggedGust_8 (fun M2 => ?_)
  refine G_aload_n g (pc := 11) 0 d_G_loggedGust_11 rfl rfl ?_
  refine G_getR g (pc := 12) fa_G_33 (hw.m 0 (Nat.le_of_ble_eq_true rfl)) (hw.k (Nat.le_of_ble_eq_true rfl) (zk0 rr)) (hw.r (Nat.le_of_ble_eq_true rfl) (zr0_3 rr)) d_G_loggedGust_12 ?_
  refine G_getRN g (pc := 15) fa_G_182 (hw.m 10 (Nat.le_of_ble_eq_true rfl)) (hw.k (Nat.le_of_ble_eq_true rfl) (zk10 rr)) (hw.r (Nat.le_of_ble_eq_true rfl) (zr10_4 rr)) d_G_loggedGust_15 ?_
  refine G_iload_n g (pc := 18) 1 d_G_loggedGust_18 rfl rfl ?_
  refine G_cVI g (pc := 19) (As := [.int a1]) (st := []) cc_G_199 (c_S_gustAt l hw 15 (List.elem_iff.mp (rfl : List.elem 15 saL = true)) a1 M2) (hw.m 15 (Nat.le_of_ble_eq_true rfl)) (hw.k (Nat.le_of_ble_eq_true rfl) (zk15 rr)) rfl (by decide) rfl ⟨(Nat.le_of_ble_eq_true rfl), (Nat.le_of_ble_eq_true rfl)⟩ ⟨(Nat.le_of_ble_eq_true rfl), (Nat.le_of_ble_eq_true rfl)⟩ (Nat.le_of_ble_eq_true rfl) d_G_loggedGust_19 (fun x3 M4 => ?_)
  exact G_ireturn g (pc := 22) hret (Nat.le_of_ble_eq_true rfl) (Nat.le_of_ble_eq_true rfl) d_G_loggedGust_22

theorem d_G_droppedCount_0 : decode b_G_droppedCount 0 = .ok (.aload_n 0, 1) := by decide +kernel
theorem d_G_droppedCount_1 : decode b_G_droppedCount 1 = .ok (.getfield 33, 3) := by decide +kernel
theorem d_G_droppedCount_4 : decode b_G_droppedCount 4 = .ok (.getfield 182, 3) := by decide +kernel
theorem d_G_droppedCount_7 : decode b_G_droppedCount 7 = .ok (.getfield 202, 3) := by decide +kernel
theorem d_G_droppedCount_10 : decode b_G_droppedCount 10 = .ok (.ireturn, 1) := by decide +kernel
def f_G_droppedCount  (M : Mem) : Option (Int32 × Mem) :=
  some (M 15 6, M)
set_option maxHeartbeats 4000000 in
set_option maxRecDepth 100000 in
theorem c_G_droppedCount (l : Launch) {w : Wc} {rr : Nat} (hw : WK w rr)  (M : Mem) : Ct QI l y_G_droppedCount b_G_droppedCount 1 (some .int) (rmL 0) w [.ref (wad w 0)] M (f_G_droppedCount  M) := by
  refine Ct.go (by decide) (L := [(0, .ref (wad w 0))]) rfl (Nat.le_of_ble_eq_true rfl) (fun p0 e s m args below meth c g hret => ?_)
  unfold f_G_droppedCount
  refine G_aload_n g (pc := 0) 0 d_G_droppedCount_0 rfl rfl ?_
  refine G_getR g (pc := 1) fa_G_33 (hw.m 0 (Nat.le_of_ble_eq_true rfl)) (hw.k (Nat.le_of_ble_eq_true rfl) (zk0 rr)) (hw.r (Nat.le_of_ble_eq_true rfl) (zr0_3 rr)) d_G_droppedCount_1 ?_
  refine G_getRN g (pc := 4) fa_G_182 (hw.m 10 (Nat.le_of_ble_eq_true rfl)) (hw.k (Nat.le_of_ble_eq_true rfl) (zk10 rr)) (hw.r (Nat.le_of_ble_eq_true rfl) (zr10_4 rr)) d_G_droppedCount_4 ?_
  refine G_getN g (pc := 7) fa_G_202 (hw.m 15 (Nat.le_of_ble_eq_true rfl)) (hw.k (Nat.le_of_ble_eq_true rfl) (zk15 rr)) d_G_droppedCount_7 ?_
  exact G_ireturn g (pc := 10) hret (Nat.le_of_ble_eq_true rfl) (Nat.le_of_ble_eq_true rfl) d_G_droppedCount_10

theorem d_G_archivedCount_0 : decode b_G_archivedCount 0 = .ok (.aload_n 0, 1) := by decide +kernel
theorem d_G_archivedCount_1 : decode b_G_archivedCount 1 = .ok (.getfield 33, 3) := by decide +kernel
theorem d_G_archivedCount_4 : decode b_G_archivedCount 4 = .ok (.getfield 205, 3) := by decide +kernel
theorem d_G_archivedCount_7 : decode b_G_archivedCount 7 = .ok (.getfield 186, 3) := by decide +kernel
theorem d_G_archivedCount_10 : decode b_G_archivedCount 10 = .ok (.ireturn, 1) := by decide +kernel
def f_G_archivedCount  (M : Mem) : Option (Int32 × Mem) :=
  some (M 19 5, M)
set_option maxHeartbeats 4000000 in
set_option maxRecDepth 100000 in
theorem c_G_archivedCount (l : Launch) {w : Wc} {rr : Nat} (hw : WK w rr)  (M : Mem) : Ct QI l y_G_archivedCount b_G_archivedCount 1 (some .int) (rmL 0) w [.ref (wad w 0)] M (f_G_archivedCount  M) := by
  refine Ct.go (by decide) (L := [(0, .ref (wad w 0))]) rfl (Nat.le_of_ble_eq_true rfl) (fun p0 e s m args below meth c g hret => ?_)
  unfold f_G_archivedCount
  refine G_aload_n g (pc := 0) 0 d_G_archivedCount_0 rfl rfl ?_
  refine G_getR g (pc := 1) fa_G_33 (hw.m 0 (Nat.le_of_ble_eq_true rfl)) (hw.k (Nat.le_of_ble_eq_true rfl) (zk0 rr)) (hw.r (Nat.le_of_ble_eq_true rfl) (zr0_3 rr)) d_G_archivedCount_1 ?_
  refine G_getRN g (pc := 4) fa_G_205 (hw.m 10 (Nat.le_of_ble_eq_true rfl)) (hw.k (Nat.le_of_ble_eq_true rfl) (zk10 rr)) (hw.r (Nat.le_of_ble_eq_true rfl) (zr10_5 rr)) d_G_archivedCount_4 ?_
  refine G_getN g (pc := 7) fa_G_186 (hw.m 19 (Nat.le_of_ble_eq_true rfl)) (hw.k (Nat.le_of_ble_eq_true rfl) (zk19 rr)) d_G_archivedCount_7 ?_
  exact G_ireturn g (pc := 10) hret (Nat.le_of_ble_eq_true rfl) (Nat.le_of_ble_eq_true rfl) d_G_archivedCount_10

theorem d_G_archivedTick_0 : decode b_G_archivedTick 0 = .ok (.aload_n 0, 1) := by decide +kernel
theorem d_G_archivedTick_1 : decode b_G_archivedTick 1 = .ok (.getfield 33, 3) := by decide +kernel
theorem d_G_archivedTick_4 : decode b_G_archivedTick 4 = .ok (.getfield 205, 3) := by decide +kernel
theorem d_G_archivedTick_7 : decode b_G_archivedTick 7 = .ok (.iload_n 1, 1) := by decide +kernel
theorem d_G_archivedTick_8 : decode b_G_archivedTick 8 = .ok (.invokestatic 189, 3) := by decide +kernel
theorem d_G_archivedTick_11 : decode b_G_archivedTick 11 = .ok (.aload_n 0, 1) := by decide +kernel
theorem d_G_archivedTick_12 : decode b_G_archivedTick 12 = .ok (.getfield 33, 3) := by decide +kernel
theorem d_G_archivedTick_15 : decode b_G_archivedTick 15 = .ok (.getfield 205, 3) := by decide +kernel
theorem d_G_archivedTick_18 : decode b_G_archivedTick 18 = .ok (.iload_n 1, 1) := by decide +kernel
theorem d_G_archivedTick_19 : decode b_G_archivedTick 19 = .ok (.invokevirtual 193, 3) := by decide +kernel
theorem d_G_archivedTick_22 : decode b_G_archivedTick 22 = .ok (.ireturn, 1) := by decide +kernel
def f_G_archivedTick (a1 : Int32) (M : Mem) : Option (Int32 × Mem) :=
  bndM (f_G_refuseMissing 19 a1 M) fun (M2 : Mem) => bnd (f_S_tickAt 19 a1 M2) fun (x3 : Int32) (M4 : Mem) => some (x3, M4)
set_option maxHeartbeats 4000000 in
set_option maxRecDepth 100000 in
theorem c_G_archivedTick (l : Launch) {w : Wc} {rr : Nat} (hw : WK w rr) (a1 : Int32) (M : Mem) : Ct QI l y_G_archivedTick b_G_archivedTick 2 (some .int) (rmL 2) w [.ref (wad w 0), .int a1] M (f_G_archivedTick a1 M) := by
  refine Ct.go (by decide) (L := [(0, .ref (wad w 0)), (1, .int a1)]) rfl (Nat.le_of_ble_eq_true rfl) (fun p0 e s m args below meth c g hret => ?_)
  unfold f_G_archivedTick
  refine G_aload_n g (pc := 0) 0 d_G_archivedTick_0 rfl rfl ?_
  refine G_getR g (pc := 1) fa_G_33 (hw.m 0 (Nat.le_of_ble_eq_true rfl)) (hw.k (Nat.le_of_ble_eq_true rfl) (zk0 rr)) (hw.r (Nat.le_of_ble_eq_true rfl) (zr0_3 rr)) d_G_archivedTick_1 ?_
  refine G_getRN g (pc := 4) fa_G_205 (hw.m 10 (Nat.le_of_ble_eq_true rfl)) (hw.k (Nat.le_of_ble_eq_true rfl) (zk10 rr)) (hw.r (Nat.le_of_ble_eq_true rfl) (zr10_5 rr)) d_G_archivedTick_4 ?_
  refine G_iload_n g (pc := 7) 1 d_G_archivedTick_7 rfl rfl ?_
  refine G_cSV g (pc := 8) (As := [.ref (wad w 19), .int a1]) (st := []) cc_G_189 (c_G_refuseMissing l hw 19 (List.elem_iff.mp (rfl : List.elem 19 saL = true)) a1 M) rfl ⟨(Nat.le_of_ble_eq_true rfl), (Nat.le_of_ble_eq_true rfl)⟩ ⟨(Nat.le_of_ble_eq_true rfl), (Nat.le_of_ble_eq_true rfl)⟩ (Nat.le_of_ble_eq_true rfl) d_G_archivedTick_8 (fun M2 => ?_)
  refine G_aload_n g (pc := 11) 0 d_G_archivedTick_11 rfl rfl ?_
  refine G_getR g (pc := 12) fa_G_33 (hw.m 0 (Nat.le_of_ble_eq_true rfl)) (hw.k (Nat.le_of_ble_eq_true rfl) (zk0 rr)) (hw.r (Nat.le_of_ble_eq_true rfl) (zr0_3 rr)) d_G_archivedTick_12 ?_
  refine G_getRN g (pc := 15) fa_G_205 (hw.m 10 (Nat.le_of_ble_eq_true rfl)) (hw.k (Nat.le_of_ble_eq_true rfl) (zk10 rr)) (hw.r (Nat.le_of_ble_eq_true rfl) (zr10_5 rr)) d_G_archivedTick_15 ?_
  refine G_iload_n g (pc := 18) 1 d_G_archivedTick_18 rfl rfl ?_
  refine G_cVI g (pc := 19) (As := [.int a1]) (st := []) cc_G_193 (c_S_tickAt l hw 19 (List.elem_iff.mp (rfl : List.elem 19 saL = true)) a1 M2) (hw.m 19 (Nat.le_of_ble_eq_true rfl)) (hw.k (Nat.le_of_ble_eq_true rfl) (zk19 rr)) rfl (by decide) rfl ⟨(Nat.le_of_ble_eq_true rfl), (Nat.le_of_ble_eq_true rfl)⟩ ⟨(Nat.le_of_ble_eq_true rfl), (Nat.le_of_ble_eq_true rfl)⟩ (Nat.le_of_ble_eq_true rfl) d_G_archivedTick_19 (fun x3 M4 => ?_)
  exact G_ireturn g (pc := 22) hret (Nat.le_of_ble_eq_true rfl) (Nat.le_of_ble_eq_true rfl) d_G_archivedTick_22

theorem d_G_archivedHeight_0 : decode b_G_archivedHeight 0 = .ok (.aload_n 0, 1) := by decide +kernel
theorem d_G_archivedHeight_1 : decode b_G_archivedHeight 1 = .ok (.getfield 33, 3) := by decide +kernel
theorem d_G_archivedHeight_4 : decode b_G_archivedHeight 4 = .ok (.getfield 205, 3) := by decide +kernel
theorem d_G_archivedHeight_7 : decode b_G_archivedHeight 7 = .ok (.iload_n 1, 1) := by decide +kernel
theorem d_G_archivedHeight_8 : decode b_G_archivedHeight 8 = .ok (.invokestatic 189, 3) := by decide +kernel
theorem d_G_archivedHeight_11 : decode b_G_archivedHeight 11 = .ok (.aload_n 0, 1) := by decide +kernel
theorem d_G_archivedHeight_12 : decode b_G_archivedHeight 12 = .ok (.getfield 33, 3) := by decide +kernel
theorem d_G_archivedHeight_15 : decode b_G_archivedHeight 15 = .ok (.getfield 205, 3) := by decide +kernel
theorem d_G_archivedHeight_18 : decode b_G_archivedHeight 18 = .ok (.iload_n 1, 1) := by decide +kernel
theorem d_G_archivedHeight_19 : decode b_G_archivedHeight 19 = .ok (.invokevirtual 196, 3) := by decide +kernel
theorem d_G_archivedHeight_22 : decode b_G_archivedHeight 22 = .ok (.ireturn, 1) := by decide +kernel
def f_G_archivedHeight (a1 : Int32) (M : Mem) : Option (Int32 × Mem) :=
  bndM (f_G_refuseMissing 19 a1 M) fun (M2 : Mem) => bnd (f_S_heightAt 19 a1 M2) fun (x3 : Int32) (M4 : Mem) => some (x3, M4)
set_option maxHeartbeats 4000000 in
set_option maxRecDepth 100000 in
theorem c_G_archivedHeight (l : Launch) {w : Wc} {rr : Nat} (hw : WK w rr) (a1 : Int32) (M : Mem) : Ct QI l y_G_archivedHeight b_G_archivedHeight 2 (some .int) (rmL 2) w [.ref (wad w 0), .int a1] M (f_G_archivedHeight a1 M) := by
  refine Ct.go (by decide) (L := [(0, .ref (wad w 0)), (1, .int a1)]) rfl (Nat.le_of_ble_eq_true rfl) (fun p0 e s m args below meth c g hret => ?_)
  unfold f_G_archivedHeight
  refine G_aload_n g (pc := 0) 0 d_G_archivedHeight_0 rfl rfl ?_
  refine G_getR g (pc := 1) fa_G_33 (hw.m 0 (Nat.le_of_ble_eq_true rfl)) (hw.k (Nat.le_of_ble_eq_true rfl) (zk0 rr)) (hw.r (Nat.le_of_ble_eq_true rfl) (zr0_3 rr)) d_G_archivedHeight_1 ?_
  refine G_getRN g (pc := 4) fa_G_205 (hw.m 10 (Nat.le_of_ble_eq_true rfl)) (hw.k (Nat.le_of_ble_eq_true rfl) (zk10 rr)) (hw.r (Nat.le_of_ble_eq_true rfl) (zr10_5 rr)) d_G_archivedHeight_4 ?_
  refine G_iload_n g (pc := 7) 1 d_G_archivedHeight_7 rfl rfl ?_
  refine G_cSV g (pc := 8) (As := [.ref (wad w 19), .int a1]) (st := []) cc_G_189 (c_G_refuseMissing l hw 19 (List.elem_iff.mp (rfl : List.elem 19 saL = true)) a1 M) rfl ⟨(Nat.le_of_ble_eq_true rfl), (Nat.le_of_ble_eq_true rfl)⟩ ⟨(Nat.le_of_ble_eq_true rfl), (Nat.le_of_ble_eq_true rfl)⟩ (Nat.le_of_ble_eq_true rfl) d_G_archivedHeight_8 (fun M2 => ?_)
  refine G_aload_n g (pc := 11) 0 d_G_archivedHeight_11 rfl rfl ?_
  refine G_getR g (pc := 12) fa_G_33 (hw.m 0 (Nat.le_of_ble_eq_true rfl)) (hw.k (Nat.le_of_ble_eq_true rfl) (zk0 rr)) (hw.r (Nat.le_of_ble_eq_true rfl) (zr0_3 rr)) d_G_archivedHeight_12 ?_
  refine G_getRN g (pc := 15) fa_G_205 (hw.m 10 (Nat.le_of_ble_eq_true rfl)) (hw.k (Nat.le_of_ble_eq_true rfl) (zk10 rr)) (hw.r (Nat.le_of_ble_eq_true rfl) (zr10_5 rr)) d_G_archivedHeight_15 ?_
  refine G_iload_n g (pc := 18) 1 d_G_archivedHeight_18 rfl rfl ?_
  refine G_cVI g (pc := 19) (As := [.int a1]) (st := []) cc_G_196 (c_S_heightAt l hw 19 (List.elem_iff.mp (rfl : List.elem 19 saL = true)) a1 M2) (hw.m 19 (Nat.le_of_ble_eq_true rfl)) (hw.k (Nat.le_of_ble_eq_true rfl) (zk19 rr)) rfl (by decide) rfl ⟨(Nat.le_of_ble_eq_true rfl), (Nat.le_of_ble_eq_true rfl)⟩ ⟨(Nat.le_of_ble_eq_true rfl), (Nat.le_of_ble_eq_true rfl)⟩ (Nat.le_of_ble_eq_true rfl) d_G_archivedHeight_19 (fun x3 M4 => ?_)
  exact G_ireturn g (pc := 22) hret (Nat.le_of_ble_eq_true rfl) (Nat.le_of_ble_eq_true rfl) d_G_archivedHeight_22

theorem d_G_archivedGust_0 : decode b_G_archivedGust 0 = .ok (.aload_n 0, 1) := by decide +kernel
theorem d_G_archivedGust_1 : decode b_G_archivedGust 1 = .ok (.getfield 33, 3) := by decide +kernel
theorem d_G_archivedGust_4 : decode b_G_archivedGust 4 = .ok (.getfield 205, 3) := by decide +kernel
theorem d_G_archivedGust_7 : decode b_G_archivedGust 7 = .ok (.iload_n 1, 1) := by decide +kernel
theorem d_G_archivedGust_8 : decode b_G_archivedGust 8 = .ok (.invokestatic 189, 3) := by decide +kernel
theorem d_G_archivedGust_11 : decode b_G_archivedGust 11 = .ok (.aload_n 0, 1) := by decide +kernel
theorem d_G_archivedGust_12 : decode b_G_archivedGust 12 = .ok (.getfield 33, 3) := by decide +kernel
theorem d_G_archivedGust_15 : decode b_G_archivedGust 15 = .ok (.getfield 205, 3) := by decide +kernel
theorem d_G_archivedGust_18 : decode b_G_archivedGust 18 = .ok (.iload_n 1, 1) := by decide +kernel
theorem d_G_archivedGust_19 : decode b_G_archivedGust 19 = .ok (.invokevirtual 199, 3) := by decide +kernel
theorem d_G_archivedGust_22 : decode b_G_archivedGust 22 = .ok (.ireturn, 1) := by decide +kernel
def f_G_archivedGust (a1 : Int32) (M : Mem) : Option (Int32 × Mem) :=
  bndM (f_G_refuseMissing 19 a1 M) fun (M2 : Mem) => bnd (f_S_gustAt 19 a1 M2) fun (x3 : Int32) (M4 : Mem) => some (x3, M4)
set_option maxHeartbeats 4000000 in
set_option maxRecDepth 100000 in
theorem c_G_archivedGust (l : Launch) {w : Wc} {rr : Nat} (hw : WK w rr) (a1 : Int32) (M : Mem) : Ct QI l y_G_archivedGust b_G_archivedGust 2 (some .int) (rmL 2) w [.ref (wad w 0), .int a1] M (f_G_archivedGust a1 M) := by
  refine Ct.go (by decide) (L := [(0, .ref (wad w 0)), (1, .int a1)]) rfl (Nat.le_of_ble_eq_true rfl) (fun p0 e s m args below meth c g hret => ?_)
  unfold f_G_archivedGust
  refine G_aload_n g (pc := 0) 0 d_G_archivedGust_0 rfl rfl ?_
  refine G_getR g (pc := 1) fa_G_33 (hw.m 0 (Nat.le_of_ble_eq_true rfl)) (hw.k (Nat.le_of_ble_eq_true rfl) (zk0 rr)) (hw.r (Nat.le_of_ble_eq_true rfl) (zr0_3 rr)) d_G_archivedGust_1 ?_
  refine G_getRN g (pc := 4) fa_G_205 (hw.m 10 (Nat.le_of_ble_eq_true rfl)) (hw.k (Nat.le_of_ble_eq_true rfl) (zk10 rr)) (hw.r (Nat.le_of_ble_eq_true rfl) (zr10_5 rr)) d_G_archivedGust_4 ?_
  refine G_iload_n g (pc := 7) 1 d_G_archivedGust_7 rfl rfl ?_
  refine G_cSV g (pc := 8) (As := [.ref (wad w 19), .int a1]) (st := []) cc_G_189 (c_G_refuseMissing l hw 19 (List.elem_iff.mp (rfl : List.elem 19 saL = true)) a1 M) rfl ⟨(Nat.le_of_ble_eq_true rfl), (Nat.le_of_ble_eq_true rfl)⟩ ⟨(Nat.le_of_ble_eq_true rfl), (Nat.le_of_ble_eq_true rfl)⟩ (Nat.le_of_ble_eq_true rfl) d_G_archivedGust_8 (fun M2 => ?_)
  refine G_aload_n g (pc := 11) 0 d_G_archivedGust_11 rfl rfl ?_
  refine G_getR g (pc := 12) fa_G_33 (hw.m 0 (Nat.le_of_ble_eq_true rfl)) (hw.k (Nat.le_of_ble_eq_true rfl) (zk0 rr)) (hw.r (Nat.le_of_ble_eq_true rfl) (zr0_3 rr)) d_G_archivedGust_12 ?_
  refine G_getRN g (pc := 15) fa_G_205 (hw.m 10 (Nat.le_of_ble_eq_true rfl)) (hw.k (Nat.le_of_ble_eq_true rfl) (zk10 rr)) (hw.r (Nat.le_of_ble_eq_true rfl) (zr10_5 rr)) d_G_archivedGust_15 ?_
  refine G_iload_n g (pc := 18) 1 d_G_archivedGust_18 rfl rfl ?_
  refine G_cVI g (pc := 19) (As := [.int a1]) (st := []) cc_G_199 (c_S_gustAt l hw 19 (List.elem_iff.mp (rfl : List.elem 19 saL = true)) a1 M2) (hw.m 19 (Nat.le_of_ble_eq_true rfl)) (hw.k (Nat.le_of_ble_eq_true rfl) (zk19 rr)) rfl (by decide) rfl ⟨(Nat.le_of_ble_eq_true rfl), (Nat.le_of_ble_eq_true rfl)⟩ ⟨(Nat.le_of_ble_eq_true rfl), (Nat.le_of_ble_eq_true rfl)⟩ (Nat.le_of_ble_eq_true rfl) d_G_archivedGust_19 (fun x3 M4 => ?_)
  exact G_ireturn g (pc := 22) hret (Nat.le_of_ble_eq_true rfl) (Nat.le_of_ble_eq_true rfl) d_G_archivedGust_22

theorem d_G_archivedBetween_0 : decode b_G_archivedBetween 0 = .ok (.aload_n 0, 1) := by decide +kernel
theorem d_G_archivedBetween_1 : decode b_G_archivedBetween 1 = .ok (.getfield 33, 3) := by decide +kernel
theorem d_G_archivedBetween_4 : decode b_G_archivedBetween 4 = .ok (.getfield 205, 3) := by decide +kernel
theorem d_G_archivedBetween_7 : decode b_G_archivedBetween 7 = .ok (.iload_n 1, 1) := by decide +kernel
theorem d_G_archivedBetween_8 : decode b_G_archivedBetween 8 = .ok (.iload_n 2, 1) := by decide +kernel
theorem d_G_archivedBetween_9 : decode b_G_archivedBetween 9 = .ok (.invokevirtual 208, 3) := by decide +kernel
theorem d_G_archivedBetween_12 : decode b_G_archivedBetween 12 = .ok (.ireturn, 1) := by decide +kernel
theorem cc_G_208 : CV "KiteLogger" 208 y_S_countBetween b_S_countBetween 5 (some .int) 2 := ⟨TT_in (i := 883) (by decide +kernel) (by decide +kernel), TT_in (i := 884) (by decide +kernel) (by decide +kernel), TT_in (i := 885) (by decide +kernel) (by decide +kernel), TT_in (i := 27) (by decide +kernel) (by decide +kernel), TT_in (i := 886) (by decide +kernel) (by decide +kernel), ⟨by decide +kernel, by decide +kernel, by decide +kernel⟩⟩
def f_G_archivedBetween (N : Nat) (rr : Nat) (a1 : Int32) (a2 : Int32) (M : Mem) : Option (Int32 × Mem) :=
  bnd (f_S_countBetween N rr 19 a1 a2 M) fun (x1 : Int32) (M2 : Mem) => some (x1, M2)
set_option maxHeartbeats 4000000 in
set_option maxRecDepth 100000 in
theorem c_G_archivedBetween (l : Launch) (N : Nat) {w : Wc} {rr : Nat} (hw : WK w rr) (a1 : Int32) (a2 : Int32) (M : Mem) : Ct QI l y_G_archivedBetween b_G_archivedBetween 3 (some .int) (rmL 3) w [.ref (wad w 0), .int a1, .int a2] M (f_G_archivedBetween N rr a1 a2 M) := by
  refine Ct.go (by decide) (L := [(0, .ref (wad w 0)), (1, .int a1), (2, .int a2)]) rfl (Nat.le_of_ble_eq_true rfl) (fun p0 e s m args below meth c g hret => ?_)
  unfold f_G_archivedBetween
  refine G_aload_n g (pc := 0) 0 d_G_archivedBetween_0 rfl rfl ?_
  refine G_getR g (pc := 1) fa_G_33 (hw.m 0 (Nat.le_of_ble_eq_true rfl)) (hw.k (Nat.le_of_ble_eq_true rfl) (zk0 rr)) (hw.r (Nat.le_of_ble_eq_true rfl) (zr0_3 rr)) d_G_archivedBetween_1 ?_
  refine G_getRN g (pc := 4) fa_G_205 (hw.m 10 (Nat.le_of_ble_eq_true rfl)) (hw.k (Nat.le_of_ble_eq_true rfl) (zk10 rr)) (hw.r (Nat.le_of_ble_eq_true rfl) (zr10_5 rr)) d_G_archivedBetween_4 ?_
  refine G_iload_n g (pc := 7) 1 d_G_archivedBetween_7 rfl rfl ?_
  refine G_iload_n g (pc := 8) 2 d_G_archivedBetween_8 rfl rfl ?_
  refine G_cVI g (pc := 9) (As := [.int a1, .int a2]) (st := []) cc_G_208 (c_S_countBetween l N hw 19 (List.elem_iff.mp (rfl : List.elem 19 saL = true)) a1 a2 M) (hw.m 19 (Nat.le_of_ble_eq_true rfl)) (hw.k (Nat.le_of_ble_eq_true rfl) (zk19 rr)) rfl (by decide) rfl ⟨(Nat.le_of_ble_eq_true rfl), (Nat.le_of_ble_eq_true rfl)⟩ ⟨(Nat.le_of_ble_eq_true rfl), (Nat.le_of_ble_eq_true rfl)⟩ (Nat.le_of_ble_eq_true rfl) d_G_archivedBetween_9 (fun x1 M2 => ?_)
  exact G_ireturn g (pc := 12) hret (Nat.le_of_ble_eq_true rfl) (Nat.le_of_ble_eq_true rfl) d_G_archivedBetween_12

theorem d_G_highestArchived_0 : decode b_G_highestArchived 0 = .ok (.aload_n 0, 1) := by decide +kernel
theorem d_G_highestArchived_1 : decode b_G_highestArchived 1 = .ok (.getfield 33, 3) := by decide +kernel
theorem d_G_highestArchived_4 : decode b_G_highestArchived 4 = .ok (.getfield 205, 3) := by decide +kernel
theorem d_G_highestArchived_7 : decode b_G_highestArchived 7 = .ok (.invokevirtual 212, 3) := by decide +kernel
theorem d_G_highestArchived_10 : decode b_G_highestArchived 10 = .ok (.ireturn, 1) := by decide +kernel
theorem cc_G_212 : CV "KiteLogger" 212 y_S_highest b_S_highest 3 (some .int) 0 := ⟨TT_in (i := 874) (by decide +kernel) (by decide +kernel), TT_in (i := 875) (by decide +kernel) (by decide +kernel), TT_in (i := 876) (by decide +kernel) (by decide +kernel), TT_in (i := 27) (by decide +kernel) (by decide +kernel), TT_in (i := 877) (by decide +kernel) (by decide +kernel), ⟨by decide +kernel, by decide +kernel, by decide +kernel⟩⟩
def f_G_highestArchived (N : Nat) (rr : Nat) (M : Mem) : Option (Int32 × Mem) :=
  bnd (f_S_highest N rr 19 M) fun (x1 : Int32) (M2 : Mem) => some (x1, M2)
set_option maxHeartbeats 4000000 in
set_option maxRecDepth 100000 in
theorem c_G_highestArchived (l : Launch) (N : Nat) {w : Wc} {rr : Nat} (hw : WK w rr)  (M : Mem) : Ct QI l y_G_highestArchived b_G_highestArchived 1 (some .int) (rmL 3) w [.ref (wad w 0)] M (f_G_highestArchived N rr M) := by
  refine Ct.go (by decide) (L := [(0, .ref (wad w 0))]) rfl (Nat.le_of_ble_eq_true rfl) (fun p0 e s m args below meth c g hret => ?_)
  unfold f_G_highestArchived
  refine G_aload_n g (pc := 0) 0 d_G_highestArchived_0 rfl rfl ?_
  refine G_getR g (pc := 1) fa_G_33 (hw.m 0 (Nat.le_of_ble_eq_true rfl)) (hw.k (Nat.le_of_ble_eq_true rfl) (zk0 rr)) (hw.r (Nat.le_of_ble_eq_true rfl) (zr0_3 rr)) d_G_highestArchived_1 ?_
  refine G_getRN g (pc := 4) fa_G_205 (hw.m 10 (Nat.le_of_ble_eq_true rfl)) (hw.k (Nat.le_of_ble_eq_true rfl) (zk10 rr)) (hw.r (Nat.le_of_ble_eq_true rfl) (zr10_5 rr)) d_G_highestArchived_4 ?_
  refine G_cVI g (pc := 7) (As := []) (st := []) cc_G_212 (c_S_highest l N hw 19 (List.elem_iff.mp (rfl : List.elem 19 saL = true)) M) (hw.m 19 (Nat.le_of_ble_eq_true rfl)) (hw.k (Nat.le_of_ble_eq_true rfl) (zk19 rr)) rfl (by decide) rfl ⟨(Nat.le_of_ble_eq_true rfl), (Nat.le_of_ble_eq_true rfl)⟩ ⟨(Nat.le_of_ble_eq_true rfl), (Nat.le_of_ble_eq_true rfl)⟩ (Nat.le_of_ble_eq_true rfl) d_G_highestArchived_7 (fun x1 M2 => ?_)
  exact G_ireturn g (pc := 10) hret (Nat.le_of_ble_eq_true rfl) (Nat.le_of_ble_eq_true rfl) d_G_highestArchived_10

theorem d_G_archivedBefore_0 : decode b_G_archivedBefore 0 = .ok (.aload_n 0, 1) := by decide +kernel
theorem d_G_archivedBefore_1 : decode b_G_archivedBefore 1 = .ok (.getfield 33, 3) := by decide +kernel
theorem d_G_archivedBefore_4 : decode b_G_archivedBefore 4 = .ok (.getfield 205, 3) := by decide +kernel
theorem d_G_archivedBefore_7 : decode b_G_archivedBefore 7 = .ok (.iload_n 1, 1) := by decide +kernel
theorem d_G_archivedBefore_8 : decode b_G_archivedBefore 8 = .ok (.invokevirtual 215, 3) := by decide +kernel
theorem d_G_archivedBefore_11 : decode b_G_archivedBefore 11 = .ok (.ireturn, 1) := by decide +kernel
theorem cc_G_215 : CV "KiteLogger" 215 y_S_lastUntil b_S_lastUntil 3 (some .int) 1 := ⟨TT_in (i := 865) (by decide +kernel) (by decide +kernel), TT_in (i := 866) (by decide +kernel) (by decide +kernel), TT_in (i := 867) (by decide +kernel) (by decide +kernel), TT_in (i := 27) (by decide +kernel) (by decide +kernel), TT_in (i := 868) (by decide +kernel) (by decide +kernel), ⟨by decide +kernel, by decide +kernel, by decide +kernel⟩⟩
def f_G_archivedBefore (N : Nat) (rr : Nat) (a1 : Int32) (M : Mem) : Option (Int32 × Mem) :=
  bnd (f_S_lastUntil N rr 19 a1 M) fun (x1 : Int32) (M2 : Mem) => some (x1, M2)
set_option maxHeartbeats 4000000 in
set_option maxRecDepth 100000 in
theorem c_G_archivedBefore (l : Launch) (N : Nat) {w : Wc} {rr : Nat} (hw : WK w rr) (a1 : Int32) (M : Mem) : Ct QI l y_G_archivedBefore b_G_archivedBefore 2 (some .int) (rmL 3) w [.ref (wad w 0), .int a1] M (f_G_archivedBefore N rr a1 M) := by
  refine Ct.go (by decide) (L := [(0, .ref (wad w 0)), (1, .int a1)]) rfl (Nat.le_of_ble_eq_true rfl) (fun p0 e s m args below meth c g hret => ?_)
  unfold f_G_archivedBefore
  refine G_aload_n g (pc := 0) 0 d_G_archivedBefore_0 rfl rfl ?_
  refine G_getR g (pc := 1) fa_G_33 (hw.m 0 (Nat.le_of_ble_eq_true rfl)) (hw.k (Nat.le_of_ble_eq_true rfl) (zk0 rr)) (hw.r (Nat.le_of_ble_eq_true rfl) (zr0_3 rr)) d_G_archivedBefore_1 ?_
  refine G_getRN g (pc := 4) fa_G_205 (hw.m 10 (Nat.le_of_ble_eq_true rfl)) (hw.k (Nat.le_of_ble_eq_true rfl) (zk10 rr)) (hw.r (Nat.le_of_ble_eq_true rfl) (zr10_5 rr)) d_G_archivedBefore_4 ?_
  refine G_iload_n g (pc := 7) 1 d_G_archivedBefore_7 rfl rfl ?_
  refine G_cVI g (pc := 8) (As := [.int a1]) (st := []) cc_G_215 (c_S_lastUntil l N hw 19 (List.elem_iff.mp (rfl : List.elem 19 saL = true)) a1 M) (hw.m 19 (Nat.le_of_ble_eq_true rfl)) (hw.k (Nat.le_of_ble_eq_true rfl) (zk19 rr)) rfl (by decide) rfl ⟨(Nat.le_of_ble_eq_true rfl), (Nat.le_of_ble_eq_true rfl)⟩ ⟨(Nat.le_of_ble_eq_true rfl), (Nat.le_of_ble_eq_true rfl)⟩ (Nat.le_of_ble_eq_true rfl) d_G_archivedBefore_8 (fun x1 M2 => ?_)
  exact G_ireturn g (pc := 11) hret (Nat.le_of_ble_eq_true rfl) (Nat.le_of_ble_eq_true rfl) d_G_archivedBefore_11

theorem d_G_meanGust_0 : decode b_G_meanGust 0 = .ok (.iload_n 1, 1) := by decide +kernel
theorem d_G_meanGust_1 : decode b_G_meanGust 1 = .ok (.iconst 0, 1) := by decide +kernel
theorem d_G_meanGust_2 : decode b_G_meanGust 2 = .ok (.bipush 6, 2) := by decide +kernel
theorem d_G_meanGust_4 : decode b_G_meanGust 4 = .ok (.invokestatic 103, 3) := by decide +kernel
theorem d_G_meanGust_7 : decode b_G_meanGust 7 = .ok (.iload_n 1, 1) := by decide +kernel
theorem d_G_meanGust_8 : decode b_G_meanGust 8 = .ok (.bipush 100, 2) := by decide +kernel
theorem d_G_meanGust_10 : decode b_G_meanGust 10 = .ok (.imul, 1) := by decide +kernel
theorem d_G_meanGust_11 : decode b_G_meanGust 11 = .ok (.istore_n 2, 1) := by decide +kernel
theorem d_G_meanGust_12 : decode b_G_meanGust 12 = .ok (.iload_n 2, 1) := by decide +kernel
theorem d_G_meanGust_13 : decode b_G_meanGust 13 = .ok (.bipush 100, 2) := by decide +kernel
theorem d_G_meanGust_15 : decode b_G_meanGust 15 = .ok (.iadd, 1) := by decide +kernel
theorem d_G_meanGust_16 : decode b_G_meanGust 16 = .ok (.iconst 1, 1) := by decide +kernel
theorem d_G_meanGust_17 : decode b_G_meanGust 17 = .ok (.isub, 1) := by decide +kernel
theorem d_G_meanGust_18 : decode b_G_meanGust 18 = .ok (.istore_n 3, 1) := by decide +kernel
theorem d_G_meanGust_19 : decode b_G_meanGust 19 = .ok (.aload_n 0, 1) := by decide +kernel
theorem d_G_meanGust_20 : decode b_G_meanGust 20 = .ok (.getfield 33, 3) := by decide +kernel
theorem d_G_meanGust_23 : decode b_G_meanGust 23 = .ok (.getfield 205, 3) := by decide +kernel
theorem d_G_meanGust_26 : decode b_G_meanGust 26 = .ok (.iload_n 2, 1) := by decide +kernel
theorem d_G_meanGust_27 : decode b_G_meanGust 27 = .ok (.iload_n 3, 1) := by decide +kernel
theorem d_G_meanGust_28 : decode b_G_meanGust 28 = .ok (.invokevirtual 218, 3) := by decide +kernel
theorem d_G_meanGust_31 : decode b_G_meanGust 31 = .ok (.aload_n 0, 1) := by decide +kernel
theorem d_G_meanGust_32 : decode b_G_meanGust 32 = .ok (.getfield 33, 3) := by decide +kernel
theorem d_G_meanGust_35 : decode b_G_meanGust 35 = .ok (.getfield 205, 3) := by decide +kernel
theorem d_G_meanGust_38 : decode b_G_meanGust 38 = .ok (.iload_n 2, 1) := by decide +kernel
theorem d_G_meanGust_39 : decode b_G_meanGust 39 = .ok (.iload_n 3, 1) := by decide +kernel
theorem d_G_meanGust_40 : decode b_G_meanGust 40 = .ok (.invokevirtual 208, 3) := by decide +kernel
theorem d_G_meanGust_43 : decode b_G_meanGust 43 = .ok (.invokestatic 133, 3) := by decide +kernel
theorem d_G_meanGust_46 : decode b_G_meanGust 46 = .ok (.dreturn, 1) := by decide +kernel
theorem cc_G_218 : CV "KiteLogger" 218 y_S_gustsBetween b_S_gustsBetween 5 (some .int) 2 := ⟨TT_in (i := 897) (by decide +kernel) (by decide +kernel), TT_in (i := 898) (by decide +kernel) (by decide +kernel), TT_in (i := 899) (by decide +kernel) (by decide +kernel), TT_in (i := 27) (by decide +kernel) (by decide +kernel), TT_in (i := 900) (by decide +kernel) (by decide +kernel), ⟨by decide +kernel, by decide +kernel, by decide +kernel⟩⟩
def f_G_meanGust (N : Nat) (rr : Nat) (a1 : Int32) (M : Mem) : Option (UInt64 × Mem) :=
  bndM (f_G_refuseOutside a1 (0 : Int32) (6 : Int32) M) fun (M2 : Mem) => nm (a1 * (100 : Int32)) fun (x3 : Int32) => nm ((x3 + (100 : Int32)) - (1 : Int32)) fun (x4 : Int32) => bnd (f_S_gustsBetween N rr 19 x3 x4 M2) fun (x5 : Int32) (M6 : Mem) => bnd (f_S_countBetween N rr 19 x3 x4 M6) fun (x7 : Int32) (M8 : Mem) => bnd (f_G_meanOf x5 x7 M8) fun (x9 : UInt64) (M10 : Mem) => some (x9, M10)
set_option maxHeartbeats 4000000 in
set_option maxRecDepth 100000 in
theorem c_G_meanGust (l : Launch) (N : Nat) {w : Wc} {rr : Nat} (hw : WK w rr) (a1 : Int32) (M : Mem) : Ct QD l y_G_meanGust b_G_meanGust 4 (some .double) (rmL 3) w [.ref (wad w 0), .int a1] M (f_G_meanGust N rr a1 M) := by
  refine Ct.go (by decide) (L := [(0, .ref (wad w 0)), (1, .int a1)]) rfl (Nat.le_of_ble_eq_true rfl) (fun p0 e s m args below meth c g hret => ?_)
  unfold f_G_meanGust
  refine G_iload_n g (pc := 0) 1 d_G_meanGust_0 rfl rfl ?_
  refine G_iconst g (pc := 1) (0 : Int32) d_G_meanGust_1 rfl ?_
  refine G_bipush g (pc := 2) (6 : Int32) d_G_meanGust_2 rfl ?_
  refine G_cSV g (pc := 4) (As := [.int a1, .int (0 : Int32), .int (6 : Int32)]) (st := []) cc_G_103 (c_G_refuseOutside l hw a1 (0 : Int32) (6 : Int32) M) rfl ⟨(Nat.le_of_ble_eq_true rfl), (Nat.le_of_ble_eq_true rfl)⟩ ⟨(Nat.le_of_ble_eq_true rfl), (Nat.le_of_ble_eq_true rfl)⟩ (Nat.le_of_ble_eq_true rfl) d_G_meanGust_4 (fun M2 => ?_)
  refine G_iload_n g (pc := 7) 1 d_G_meanGust_7 rfl rfl ?_
  refine G_bipush g (pc := 8) (100 : Int32) d_G_meanGust_8 rfl ?_
  refine G_imul g (pc := 10) d_G_meanGust_10 ?_
  refine G_nmI (fun x3 => ?_)
  refine G_istore_n g (pc := 11) _ d_G_meanGust_11 rfl (Nat.le_of_ble_eq_true rfl) rfl ?_
  refine G_iload_n g (pc := 12) 0 d_G_meanGust_12 rfl rfl ?_
  refine G_bipush g (pc := 13) (100 : Int32) d_G_meanGust_13 rfl ?_
  refine G_iadd g (pc := 15) d_G_meanGust_15 ?_
  refine G_iconst g (pc := 16) (1 : Int32) d_G_meanGust_16 rfl ?_
  refine G_isub g (pc := 17) d_G_meanGust_17 ?_
  refine G_nmI (fun x4 => ?_)
  refine G_istore_n g (pc := 18) _ d_G_meanGust_18 rfl (Nat.le_of_ble_eq_true rfl) rfl ?_
  refine G_aload_n g (pc := 19) 2 d_G_meanGust_19 rfl rfl ?_
  refine G_getR g (pc := 20) fa_G_33 (hw.m 0 (Nat.le_of_ble_eq_true rfl)) (hw.k (Nat.le_of_ble_eq_true rfl) (zk0 rr)) (hw.r (Nat.le_of_ble_eq_true rfl) (zr0_3 rr)) d_G_meanGust_20 ?_
  refine G_getRN g (pc := 23) fa_G_205 (hw.m 10 (Nat.le_of_ble_eq_true rfl)) (hw.k (Nat.le_of_ble_eq_true rfl) (zk10 rr)) (hw.r (Nat.le_of_ble_eq_true rfl) (zr10_5 rr)) d_G_meanGust_23 ?_
  refine G_iload_n g (pc := 26) 1 d_G_meanGust_26 rfl rfl ?_
  refine G_iload_n g (pc := 27) 0 d_G_meanGust_27 rfl rfl ?_
  refine G_cVI g (pc := 28) (As := [.int x3, .int x4]) (st := []) cc_G_218 (c_S_gustsBetween l N hw 19 (List.elem_iff.mp (rfl : List.elem 19 saL = true)) x3 x4 M2) (hw.m 19 (Nat.le_of_ble_eq_true rfl)) (hw.k (Nat.le_of_ble_eq_true rfl) (zk19 rr)) rfl (by decide) rfl ⟨(Nat.le_of_ble_eq_true rfl), (Nat.le_of_ble_eq_true rfl)⟩ ⟨(Nat.le_of_ble_eq_true rfl), (Nat.le_of_ble_eq_true rfl)⟩ (Nat.le_of_ble_eq_true rfl) d_G_meanGust_28 (fun x5 M6 => ?_)
  refine G_aload_n g (pc := 31) 2 d_G_meanGust_31 rfl rfl ?_
  refine G_getR g (pc := 32) fa_G_33 (hw.m 0 (Nat.le_of_ble_eq_true rfl)) (hw.k (Nat.le_of_ble_eq_true rfl) (zk0 rr)) (hw.r (Nat.le_of_ble_eq_true rfl) (zr0_3 rr)) d_G_meanGust_32 ?_
  refine G_getRN g (pc := 35) fa_G_205 (hw.m 10 (Nat.le_of_ble_eq_true rfl)) (hw.k (Nat.le_of_ble_eq_true rfl) (zk10 rr)) (hw.r (Nat.le_of_ble_eq_true rfl) (zr10_5 rr)) d_G_meanGust_35 ?_
  refine G_iload_n g (pc := 38) 1 d_G_meanGust_38 rfl rfl ?_
  refine G_iload_n g (pc := 39) 0 d_G_meanGust_39 rfl rfl ?_
  refine G_cVI g (pc := 40) (As := [.int x3, .int x4]) (st := [.int x5]) cc_G_208 (c_S_countBetween l N hw 19 (List.elem_iff.mp (rfl : List.elem 19 saL = true)) x3 x4 M6) (hw.m 19 (Nat.le_of_ble_eq_true rfl)) (hw.k (Nat.le_of_ble_eq_true rfl) (zk19 rr)) rfl (by decide) rfl ⟨(Nat.le_of_ble_eq_true rfl), (Nat.le_of_ble_eq_true rfl)⟩ ⟨(Nat.le_of_ble_eq_true rfl), (Nat.le_of_ble_eq_true rfl)⟩ (Nat.le_of_ble_eq_true rfl) d_G_meanGust_40 (fun x7 M8 => ?_)
  refine G_cSD g (pc := 43) (As := [.int x5, .int x7]) (st := []) cc_G_133 (c_G_meanOf l hw x5 x7 M8) rfl ⟨(Nat.le_of_ble_eq_true rfl), (Nat.le_of_ble_eq_true rfl)⟩ ⟨(Nat.le_of_ble_eq_true rfl), (Nat.le_of_ble_eq_true rfl)⟩ (Nat.le_of_ble_eq_true rfl) d_G_meanGust_43 (fun x9 M10 => ?_)
  exact G_dreturn g (pc := 46) hret (Nat.le_of_ble_eq_true rfl) (Nat.le_of_ble_eq_true rfl) d_G_meanGust_46

theorem d_G_archivedShare_0 : decode b_G_archivedShare 0 = .ok (.aload_n 0, 1) := by decide +kernel
theorem d_G_archivedShare_1 : decode b_G_archivedShare 1 = .ok (.getfield 33, 3) := by decide +kernel
theorem d_G_archivedShare_4 : decode b_G_archivedShare 4 = .ok (.getfield 221, 3) := by decide +kernel
theorem d_G_archivedShare_7 : decode b_G_archivedShare 7 = .ok (.iconst 1, 1) := by decide +kernel
theorem d_G_archivedShare_8 : decode b_G_archivedShare 8 = .ok (.if_icmp .ge 5, 3) := by decide +kernel
theorem d_G_archivedShare_11 : decode b_G_archivedShare 11 = .ok (.fconst 0, 1) := by decide +kernel
theorem d_G_archivedShare_12 : decode b_G_archivedShare 12 = .ok (.freturn, 1) := by decide +kernel
theorem d_G_archivedShare_13 : decode b_G_archivedShare 13 = .ok (.aload_n 0, 1) := by decide +kernel
theorem d_G_archivedShare_14 : decode b_G_archivedShare 14 = .ok (.getfield 33, 3) := by decide +kernel
theorem d_G_archivedShare_17 : decode b_G_archivedShare 17 = .ok (.getfield 205, 3) := by decide +kernel
theorem d_G_archivedShare_20 : decode b_G_archivedShare 20 = .ok (.getfield 186, 3) := by decide +kernel
theorem d_G_archivedShare_23 : decode b_G_archivedShare 23 = .ok (.i2f, 1) := by decide +kernel
theorem d_G_archivedShare_24 : decode b_G_archivedShare 24 = .ok (.aload_n 0, 1) := by decide +kernel
theorem d_G_archivedShare_25 : decode b_G_archivedShare 25 = .ok (.getfield 33, 3) := by decide +kernel
theorem d_G_archivedShare_28 : decode b_G_archivedShare 28 = .ok (.getfield 221, 3) := by decide +kernel
theorem d_G_archivedShare_31 : decode b_G_archivedShare 31 = .ok (.i2f, 1) := by decide +kernel
theorem d_G_archivedShare_32 : decode b_G_archivedShare 32 = .ok (.fdiv, 1) := by decide +kernel
theorem d_G_archivedShare_33 : decode b_G_archivedShare 33 = .ok (.freturn, 1) := by decide +kernel
def f_G_archivedShare  (M : Mem) : Option (UInt32 × Mem) :=
  if (M 10 8) < (1 : Int32) then (some (0, M)) else (grd (nn32 (FP.fdiv (FP.i2f (M 19 5)) (FP.i2f (M 10 8)))) (some (FP.fdiv (FP.i2f (M 19 5)) (FP.i2f (M 10 8)), M)))
set_option maxHeartbeats 4000000 in
set_option maxRecDepth 100000 in
theorem c_G_archivedShare (l : Launch) {w : Wc} {rr : Nat} (hw : WK w rr)  (M : Mem) : Ct QF l y_G_archivedShare b_G_archivedShare 1 (some .float) (rmL 0) w [.ref (wad w 0)] M (f_G_archivedShare  M) := by
  refine Ct.go (by decide) (L := [(0, .ref (wad w 0))]) rfl (Nat.le_of_ble_eq_true rfl) (fun p0 e s m args below meth c g hret => ?_)
  unfold f_G_archivedShare
  refine G_aload_n g (pc := 0) 0 d_G_archivedShare_0 rfl rfl ?_
  refine G_getR g (pc := 1) fa_G_33 (hw.m 0 (Nat.le_of_ble_eq_true rfl)) (hw.k (Nat.le_of_ble_eq_true rfl) (zk0 rr)) (hw.r (Nat.le_of_ble_eq_true rfl) (zr0_3 rr)) d_G_archivedShare_1 ?_
  refine G_getN g (pc := 4) fa_G_221 (hw.m 10 (Nat.le_of_ble_eq_true rfl)) (hw.k (Nat.le_of_ble_eq_true rfl) (zk10 rr)) d_G_archivedShare_4 ?_
  refine G_iconst g (pc := 7) (1 : Int32) d_G_archivedShare_7 rfl ?_
  refine G_icmp_ge g (pc := 8) 13 d_G_archivedShare_8 (by decide) ?_ ?_
  · refine G_fconst0 g (pc := 11) d_G_archivedShare_11 ?_
    exact G_freturn g (pc := 12) hret (Nat.le_of_ble_eq_true rfl) (Nat.le_of_ble_eq_true rfl) d_G_archivedShare_12
  · refine G_aload_n g (pc := 13) 0 d_G_archivedShare_13 rfl rfl ?_
    refine G_getR g (pc := 14) fa_G_33 (hw.m 0 (Nat.le_of_ble_eq_true rfl)) (hw.k (Nat.le_of_ble_eq_true rfl) (zk0 rr)) (hw.r (Nat.le_of_ble_eq_true rfl) (zr0_3 rr)) d_G_archivedShare_14 ?_
    refine G_getRN g (pc := 17) fa_G_205 (hw.m 10 (Nat.le_of_ble_eq_true rfl)) (hw.k (Nat.le_of_ble_eq_true rfl) (zk10 rr)) (hw.r (Nat.le_of_ble_eq_true rfl) (zr10_5 rr)) d_G_archivedShare_17 ?_
    refine G_getN g (pc := 20) fa_G_186 (hw.m 19 (Nat.le_of_ble_eq_true rfl)) (hw.k (Nat.le_of_ble_eq_true rfl) (zk19 rr)) d_G_archivedShare_20 ?_
    refine G_i2f g (pc := 23) d_G_archivedShare_23 ?_
    refine G_aload_n g (pc := 24) 0 d_G_archivedShare_24 rfl rfl ?_
    refine G_getR g (pc := 25) fa_G_33 (hw.m 0 (Nat.le_of_ble_eq_true rfl)) (hw.k (Nat.le_of_ble_eq_true rfl) (zk0 rr)) (hw.r (Nat.le_of_ble_eq_true rfl) (zr0_3 rr)) d_G_archivedShare_25 ?_
    refine G_getN g (pc := 28) fa_G_221 (hw.m 10 (Nat.le_of_ble_eq_true rfl)) (hw.k (Nat.le_of_ble_eq_true rfl) (zk10 rr)) d_G_archivedShare_28 ?_
    refine G_i2f g (pc := 31) d_G_archivedShare_31 ?_
    refine G_fdiv g (pc := 32) d_G_archivedShare_32 ?_
    exact G_freturn g (pc := 33) hret (Nat.le_of_ble_eq_true rfl) (Nat.le_of_ble_eq_true rfl) d_G_archivedShare_33

theorem d_G_gap_0 : decode b_G_gap 0 = .ok (.aload_n 0, 1) := by decide +kernel
theorem d_G_gap_1 : decode b_G_gap 1 = .ok (.getfield 33, 3) := by decide +kernel
theorem d_G_gap_4 : decode b_G_gap 4 = .ok (.getfield 182, 3) := by decide +kernel
theorem d_G_gap_7 : decode b_G_gap 7 = .ok (.getfield 186, 3) := by decide +kernel
theorem d_G_gap_10 : decode b_G_gap 10 = .ok (.aload_n 0, 1) := by decide +kernel
theorem d_G_gap_11 : decode b_G_gap 11 = .ok (.getfield 33, 3) := by decide +kernel
theorem d_G_gap_14 : decode b_G_gap 14 = .ok (.getfield 205, 3) := by decide +kernel
theorem d_G_gap_17 : decode b_G_gap 17 = .ok (.getfield 186, 3) := by decide +kernel
theorem d_G_gap_20 : decode b_G_gap 20 = .ok (.iadd, 1) := by decide +kernel
theorem d_G_gap_21 : decode b_G_gap 21 = .ok (.aload_n 0, 1) := by decide +kernel
theorem d_G_gap_22 : decode b_G_gap 22 = .ok (.getfield 33, 3) := by decide +kernel
theorem d_G_gap_25 : decode b_G_gap 25 = .ok (.getfield 182, 3) := by decide +kernel
theorem d_G_gap_28 : decode b_G_gap 28 = .ok (.getfield 202, 3) := by decide +kernel
theorem d_G_gap_31 : decode b_G_gap 31 = .ok (.iadd, 1) := by decide +kernel
theorem d_G_gap_32 : decode b_G_gap 32 = .ok (.istore_n 1, 1) := by decide +kernel
theorem d_G_gap_33 : decode b_G_gap 33 = .ok (.aload_n 0, 1) := by decide +kernel
theorem d_G_gap_34 : decode b_G_gap 34 = .ok (.getfield 33, 3) := by decide +kernel
theorem d_G_gap_37 : decode b_G_gap 37 = .ok (.getfield 221, 3) := by decide +kernel
theorem d_G_gap_40 : decode b_G_gap 40 = .ok (.iload_n 1, 1) := by decide +kernel
theorem d_G_gap_41 : decode b_G_gap 41 = .ok (.isub, 1) := by decide +kernel
theorem d_G_gap_42 : decode b_G_gap 42 = .ok (.invokestatic 224, 3) := by decide +kernel
theorem d_G_gap_45 : decode b_G_gap 45 = .ok (.aload_n 0, 1) := by decide +kernel
theorem d_G_gap_46 : decode b_G_gap 46 = .ok (.getfield 33, 3) := by decide +kernel
theorem d_G_gap_49 : decode b_G_gap 49 = .ok (.getfield 182, 3) := by decide +kernel
theorem d_G_gap_52 : decode b_G_gap 52 = .ok (.invokevirtual 229, 3) := by decide +kernel
theorem d_G_gap_55 : decode b_G_gap 55 = .ok (.iadd, 1) := by decide +kernel
theorem d_G_gap_56 : decode b_G_gap 56 = .ok (.aload_n 0, 1) := by decide +kernel
theorem d_G_gap_57 : decode b_G_gap 57 = .ok (.getfield 33, 3) := by decide +kernel
theorem d_G_gap_60 : decode b_G_gap 60 = .ok (.getfield 205, 3) := by decide +kernel
theorem d_G_gap_63 : decode b_G_gap 63 = .ok (.invokevirtual 229, 3) := by decide +kernel
theorem d_G_gap_66 : decode b_G_gap 66 = .ok (.iadd, 1) := by decide +kernel
theorem d_G_gap_67 : decode b_G_gap 67 = .ok (.ireturn, 1) := by decide +kernel
theorem ma_G_224 : Cond.methodLink "KiteLogger" 224 Lib.Math.abs.name ∈ TT ∧ Cond.static Lib.Math.abs.name ∈ TT ∧ Cond.initialized "java/lang/Math" ∈ TT ∧ Cond.code Lib.Math.abs.name Lib.Math.abs.code 1 (some .int) ∈ TT := ⟨TT_in (i := 1008) (by decide +kernel) (by decide +kernel), TT_in (i := 1009) (by decide +kernel) (by decide +kernel), TT_in (i := 21) (by decide +kernel) (by decide +kernel), TT_in (i := 1010) (by decide +kernel) (by decide +kernel)⟩
theorem cc_G_229 : CV "KiteLogger" 229 y_S_misplaced b_S_misplaced 3 (some .int) 0 := ⟨TT_in (i := 1011) (by decide +kernel) (by decide +kernel), TT_in (i := 1012) (by decide +kernel) (by decide +kernel), TT_in (i := 1013) (by decide +kernel) (by decide +kernel), TT_in (i := 27) (by decide +kernel) (by decide +kernel), TT_in (i := 1014) (by decide +kernel) (by decide +kernel), ⟨by decide +kernel, by decide +kernel, by decide +kernel⟩⟩
def f_G_gap (N : Nat) (rr : Nat) (M : Mem) : Option (Int32 × Mem) :=
  nm (((M 15 5) + (M 19 5)) + (M 15 6)) fun (x1 : Int32) => bnd (f_S_misplaced N rr 15 M) fun (x2 : Int32) (M3 : Mem) => bnd (f_S_misplaced N rr 19 M3) fun (x4 : Int32) (M5 : Mem) => some (((iabs ((M 10 8) - x1)) + x2) + x4, M5)
set_option maxHeartbeats 4000000 in
set_option maxRecDepth 100000 in
theorem c_G_gap (l : Launch) (N : Nat) {w : Wc} {rr : Nat} (hw : WK w rr)  (M : Mem) : Ct QI l y_G_gap b_G_gap 2 (some .int) (rmL 3) w [.ref (wad w 0)] M (f_G_gap N rr M) := by
  refine Ct.go (by decide) (L := [(0, .ref (wad w 0))]) rfl (Nat.le_of_ble_eq_true rfl) (fun p0 e s m args below meth c g hret => ?_)
  unfold f_G_gap
  refine G_aload_n g (pc := 0) 0 d_G_gap_0 rfl rfl ?_
  refine G_getR g (pc := 1) fa_G_33 (hw.m 0 (Nat.le_of_ble_eq_true rfl)) (hw.k (Nat.le_of_ble_eq_true rfl) (zk0 rr)) (hw.r (Nat.le_of_ble_eq_true rfl) (zr0_3 rr)) d_G_gap_1 ?_
  refine G_getRN g (pc := 4) fa_G_182 (hw.m 10 (Nat.le_of_ble_eq_true rfl)) (hw.k (Nat.le_of_ble_eq_true rfl) (zk10 rr)) (hw.r (Nat.le_of_ble_eq_true rfl) (zr10_4 rr)) d_G_gap_4 ?_
  refine G_getN g (pc := 7) fa_G_186 (hw.m 15 (Nat.le_of_ble_eq_true rfl)) (hw.k (Nat.le_of_ble_eq_true rfl) (zk15 rr)) d_G_gap_7 ?_
  refine G_aload_n g (pc := 10) 0 d_G_gap_10 rfl rfl ?_
  refine G_getR g (pc := 11) fa_G_33 (hw.m 0 (Nat.le_of_ble_eq_true rfl)) (hw.k (Nat.le_of_ble_eq_true rfl) (zk0 rr)) (hw.r (Nat.le_of_ble_eq_true rfl) (zr0_3 rr)) d_G_gap_11 ?_
  refine G_getRN g (pc := 14) fa_G_205 (hw.m 10 (Nat.le_of_ble_eq_true rfl)) (hw.k (Nat.le_of_ble_eq_true rfl) (zk10 rr)) (hw.r (Nat.le_of_ble_eq_true rfl) (zr10_5 rr)) d_G_gap_14 ?_
  refine G_getN g (pc := 17) fa_G_186 (hw.m 19 (Nat.le_of_ble_eq_true rfl)) (hw.k (Nat.le_of_ble_eq_true rfl) (zk19 rr)) d_G_gap_17 ?_
  refine G_iadd g (pc := 20) d_G_gap_20 ?_
  refine G_aload_n g (pc := 21) 0 d_G_gap_21 rfl rfl ?_
  refine G_getR g (pc := 22) fa_G_33 (hw.m 0 (Nat.le_of_ble_eq_true rfl)) (hw.k (Nat.le_of_ble_eq_true rfl) (zk0 rr)) (hw.r (Nat.le_of_ble_eq_true rfl) (zr0_3 rr)) d_G_gap_22 ?_
  refine G_getRN g (pc := 25) fa_G_182 (hw.m 10 (Nat.le_of_ble_eq_true rfl)) (hw.k (Nat.le_of_ble_eq_true rfl) (zk10 rr)) (hw.r (Nat.le_of_ble_eq_true rfl) (zr10_4 rr)) d_G_gap_25 ?_
  refine G_getN g (pc := 28) fa_G_202 (hw.m 15 (Nat.le_of_ble_eq_true rfl)) (hw.k (Nat.le_of_ble_eq_true rfl) (zk15 rr)) d_G_gap_28 ?_
  refine G_iadd g (pc := 31) d_G_gap_31 ?_
  refine G_nmI (fun x1 => ?_)
  refine G_istore_n g (pc := 32) _ d_G_gap_32 rfl (Nat.le_of_ble_eq_true rfl) rfl ?_
  refine G_aload_n g (pc := 33) 1 d_G_gap_33 rfl rfl ?_
  refine G_getR g (pc := 34) fa_G_33 (hw.m 0 (Nat.le_of_ble_eq_true rfl)) (hw.k (Nat.le_of_ble_eq_true rfl) (zk0 rr)) (hw.r (Nat.le_of_ble_eq_true rfl) (zr0_3 rr)) d_G_gap_34 ?_
  refine G_getN g (pc := 37) fa_G_221 (hw.m 10 (Nat.le_of_ble_eq_true rfl)) (hw.k (Nat.le_of_ble_eq_true rfl) (zk10 rr)) d_G_gap_37 ?_
  refine G_iload_n g (pc := 40) 0 d_G_gap_40 rfl rfl ?_
  refine G_isub g (pc := 41) d_G_gap_41 ?_
  refine G_mabs g (pc := 42) ma_G_224 ⟨(Nat.le_of_ble_eq_true rfl), (Nat.le_of_ble_eq_true rfl), (Nat.le_of_ble_eq_true rfl), (Nat.le_of_ble_eq_true rfl)⟩ d_G_gap_42 ?_
  refine G_aload_n g (pc := 45) 1 d_G_gap_45 rfl rfl ?_
  refine G_getR g (pc := 46) fa_G_33 (hw.m 0 (Nat.le_of_ble_eq_true rfl)) (hw.k (Nat.le_of_ble_eq_true rfl) (zk0 rr)) (hw.r (Nat.le_of_ble_eq_true rfl) (zr0_3 rr)) d_G_gap_46 ?_
  refine G_getRN g (pc := 49) fa_G_182 (hw.m 10 (Nat.le_of_ble_eq_true rfl)) (hw.k (Nat.le_of_ble_eq_true rfl) (zk10 rr)) (hw.r (Nat.le_of_ble_eq_true rfl) (zr10_4 rr)) d_G_gap_49 ?_
  refine G_cVI g (pc := 52) (As := []) (st := [.int (iabs ((M 10 8) - x1))]) cc_G_229 (c_S_misplaced l N hw 15 (List.elem_iff.mp (rfl : List.elem 15 saL = true)) M) (hw.m 15 (Nat.le_of_ble_eq_true rfl)) (hw.k (Nat.le_of_ble_eq_true rfl) (zk15 rr)) rfl (by decide) rfl ⟨(Nat.le_of_ble_eq_true rfl), (Nat.le_of_ble_eq_true rfl)⟩ ⟨(Nat.le_of_ble_eq_true rfl), (Nat.le_of_ble_eq_true rfl)⟩ (Nat.le_of_ble_eq_true rfl) d_G_gap_52 (fun x2 M3 => ?_)
  refine G_iadd g (pc := 55) d_G_gap_55 ?_
  refine G_aload_n g (pc := 56) 1 d_G_gap_56 rfl rfl ?_
  refine G_getR g (pc := 57) fa_G_33 (hw.m 0 (Nat.le_of_ble_eq_true rfl)) (hw.k (Nat.le_of_ble_eq_true rfl) (zk0 rr)) (hw.r (Nat.le_of_ble_eq_true rfl) (zr0_3 rr)) d_G_gap_57 ?_
  refine G_getRN g (pc := 60) fa_G_205 (hw.m 10 (Nat.le_of_ble_eq_true rfl)) (hw.k (Nat.le_of_ble_eq_true rfl) (zk10 rr)) (hw.r (Nat.le_of_ble_eq_true rfl) (zr10_5 rr)) d_G_gap_60 ?_
  refine G_cVI g (pc := 63) (As := []) (st := [.int ((iabs ((M 10 8) - x1)) + x2)]) cc_G_229 (c_S_misplaced l N hw 19 (List.elem_iff.mp (rfl : List.elem 19 saL = true)) M3) (hw.m 19 (Nat.le_of_ble_eq_true rfl)) (hw.k (Nat.le_of_ble_eq_true rfl) (zk19 rr)) rfl (by decide) rfl ⟨(Nat.le_of_ble_eq_true rfl), (Nat.le_of_ble_eq_true rfl)⟩ ⟨(Nat.le_of_ble_eq_true rfl), (Nat.le_of_ble_eq_true rfl)⟩ (Nat.le_of_ble_eq_true rfl) d_G_gap_63 (fun x4 M5 => ?_)
  refine G_iadd g (pc := 66) d_G_gap_66 ?_
  exact G_ireturn g (pc := 67) hret (Nat.le_of_ble_eq_true rfl) (Nat.le_of_ble_eq_true rfl) d_G_gap_67
