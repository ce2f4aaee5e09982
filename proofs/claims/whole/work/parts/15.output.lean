theorem d_O_at_0 : decode b_O_at 0 = .ok (.iload_n 1, 1) := by decide +kernel
theorem d_O_at_1 : decode b_O_at 1 = .ok (.ifCond .lt 21, 3) := by decide +kernel
theorem d_O_at_4 : decode b_O_at 4 = .ok (.iload_n 1, 1) := by decide +kernel
theorem d_O_at_5 : decode b_O_at 5 = .ok (.aload_n 0, 1) := by decide +kernel
theorem d_O_at_6 : decode b_O_at 6 = .ok (.getfield 9, 3) := by decide +kernel
theorem d_O_at_9 : decode b_O_at 9 = .ok (.arraylength, 1) := by decide +kernel
theorem d_O_at_10 : decode b_O_at 10 = .ok (.if_icmp .ge 12, 3) := by decide +kernel
theorem d_O_at_13 : decode b_O_at 13 = .ok (.aload_n 0, 1) := by decide +kernel
theorem d_O_at_14 : decode b_O_at 14 = .ok (.getfield 9, 3) := by decide +kernel
theorem d_O_at_17 : decode b_O_at 17 = .ok (.iload_n 1, 1) := by decide +kernel
theorem d_O_at_18 : decode b_O_at 18 = .ok (.baload, 1) := by decide +kernel
theorem d_O_at_19 : decode b_O_at 19 = .ok (.goto 4, 3) := by decide +kernel
theorem d_O_at_22 : decode b_O_at 22 = .ok (.iconst 0, 1) := by decide +kernel
theorem d_O_at_23 : decode b_O_at 23 = .ok (.ireturn, 1) := by decide +kernel
def f_O_at (a1 : Int32) (M : Mem) : Option (Int32 × Mem) :=
  if a1 < 0 then (some ((0 : Int32), M)) else (if a1 < (360 : Int32) then (grd (inB a1 360) (some (M 144 a1.toNatClampNeg, M))) else (some ((0 : Int32), M)))
set_option maxHeartbeats 4000000 in
set_option maxRecDepth 100000 in
theorem c_O_at (l : Launch) {w : Wc} {rr : Nat} (hw : WK w rr) (a1 : Int32) (M : Mem) : Ct QI l y_O_at b_O_at 2 (some .int) (rmL 0) w [.ref (wad w 143), .int a1] M (f_O_at a1 M) := by
  refine Ct.go (by decide) (L := [(0, .ref (wad w 143)), (1, .int a1)]) rfl (Nat.le_of_ble_eq_true rfl) (fun p0 e s m args below meth c g hret => ?_)
  unfold f_O_at
  refine G_iload_n g (pc := 0) 1 d_O_at_0 rfl rfl ?_
  refine G_if_lt g (pc := 1) 22 d_O_at_1 (by decide) ?_ ?_
  · refine G_iconst g (pc := 22) (0 : Int32) d_O_at_22 rfl ?_
    exact G_ireturn g (pc := 23) hret (Nat.le_of_ble_eq_true rfl) (Nat.le_of_ble_eq_true rfl) d_O_at_23
  · refine G_iload_n g (pc := 4) 1 d_O_at_4 rfl rfl ?_
    refine G_aload_n g (pc := 5) 0 d_O_at_5 rfl rfl ?_
    refine G_getR g (pc := 6) fa_O_9 (hw.m 143 (Nat.le_of_ble_eq_true rfl)) (hw.k (zk143 rr)) (hw.r (zr143_0 rr)) d_O_at_6 ?_
    refine G_alenB g (pc := 9) (360 : Int32) (hw.m 144 (Nat.le_of_ble_eq_true rfl)) (hw.k (zk144 rr)) (by rw [(hw.n (zn144 rr))]; rfl) d_O_at_9 ?_
    refine G_icmp_ge g (pc := 10) 22 d_O_at_10 (by decide) ?_ ?_
    · refine G_aload_n g (pc := 13) 0 d_O_at_13 rfl rfl ?_
      refine G_getR g (pc := 14) fa_O_9 (hw.m 143 (Nat.le_of_ble_eq_true rfl)) (hw.k (zk143 rr)) (hw.r (zr143_0 rr)) d_O_at_14 ?_
      refine G_iload_n g (pc := 17) 1 d_O_at_17 rfl rfl ?_
      refine G_bald g (pc := 18) (nn := 360) (hw.m 144 (Nat.le_of_ble_eq_true rfl)) (hw.k (zk144 rr)) (hw.n (zn144 rr)) d_O_at_18 ?_
      refine G_goto g (pc := 19) 23 d_O_at_19 (by decide) ?_
      exact G_ireturn g (pc := 23) hret (Nat.le_of_ble_eq_true rfl) (Nat.le_of_ble_eq_true rfl) d_O_at_23
    · refine G_iconst g (pc := 22) (0 : Int32) d_O_at_22 rfl ?_
      exact G_ireturn g (pc := 23) hret (Nat.le_of_ble_eq_true rfl) (Nat.le_of_ble_eq_true rfl) d_O_at_23

theorem d_O_addSign_0 : decode b_O_addSign 0 = .ok (.aload_n 0, 1) := by decide +kernel
theorem d_O_addSign_1 : decode b_O_addSign 1 = .ok (.getfield 15, 3) := by decide +kernel
theorem d_O_addSign_4 : decode b_O_addSign 4 = .ok (.ifCond .lt 36, 3) := by decide +kernel
theorem d_O_addSign_7 : decode b_O_addSign 7 = .ok (.aload_n 0, 1) := by decide +kernel
theorem d_O_addSign_8 : decode b_O_addSign 8 = .ok (.getfield 15, 3) := by decide +kernel
theorem d_O_addSign_11 : decode b_O_addSign 11 = .ok (.aload_n 0, 1) := by decide +kernel
theorem d_O_addSign_12 : decode b_O_addSign 12 = .ok (.getfield 9, 3) := by decide +kernel
theorem d_O_addSign_15 : decode b_O_addSign 15 = .ok (.arraylength, 1) := by decide +kernel
theorem d_O_addSign_16 : decode b_O_addSign 16 = .ok (.if_icmp .ge 24, 3) := by decide +kernel
theorem d_O_addSign_19 : decode b_O_addSign 19 = .ok (.aload_n 0, 1) := by decide +kernel
theorem d_O_addSign_20 : decode b_O_addSign 20 = .ok (.getfield 9, 3) := by decide +kernel
theorem d_O_addSign_23 : decode b_O_addSign 23 = .ok (.aload_n 0, 1) := by decide +kernel
theorem d_O_addSign_24 : decode b_O_addSign 24 = .ok (.getfield 15, 3) := by decide +kernel
theorem d_O_addSign_27 : decode b_O_addSign 27 = .ok (.iload_n 1, 1) := by decide +kernel
theorem d_O_addSign_28 : decode b_O_addSign 28 = .ok (.i2b, 1) := by decide +kernel
theorem d_O_addSign_29 : decode b_O_addSign 29 = .ok (.bastore, 1) := by decide +kernel
theorem d_O_addSign_30 : decode b_O_addSign 30 = .ok (.aload_n 0, 1) := by decide +kernel
theorem d_O_addSign_31 : decode b_O_addSign 31 = .ok (.dup, 1) := by decide +kernel
theorem d_O_addSign_32 : decode b_O_addSign 32 = .ok (.getfield 15, 3) := by decide +kernel
theorem d_O_addSign_35 : decode b_O_addSign 35 = .ok (.iconst 1, 1) := by decide +kernel
theorem d_O_addSign_36 : decode b_O_addSign 36 = .ok (.iadd, 1) := by decide +kernel
theorem d_O_addSign_37 : decode b_O_addSign 37 = .ok (.putfield 15, 3) := by decide +kernel
theorem d_O_addSign_40 : decode b_O_addSign 40 = .ok (.return_, 1) := by decide +kernel
def f_O_addSign (a1 : Int32) (M : Mem) : Option (Mem) :=
  if (M 143 1) < 0 then (some M) else (if (M 143 1) < (360 : Int32) then (grd (inB (M 143 1) 360) (nm (put M 144 (M 143 1).toNatClampNeg (vp_nar .byte a1.toInt8.toInt32)) fun (M1 : Mem) => nm (put M1 143 1 ((M1 143 1) + (1 : Int32))) fun (M2 : Mem) => some M2)) else (some M))
set_option maxHeartbeats 4000000 in
set_option maxRecDepth 100000 in
theorem c_O_addSign (l : Launch) {w : Wc} {rr : Nat} (hw : WK w rr) (a1 : Int32) (M : Mem) : Ct QV l y_O_addSign b_O_addSign 2 none (rmL 0) w [.ref (wad w 143), .int a1] M (f_O_addSign a1 M) := by
  refine Ct.go (by decide) (L := [(0, .ref (wad w 143)), (1, .int a1)]) rfl (Nat.le_of_ble_eq_true rfl) (fun p0 e s m args below meth c g hret => ?_)
  unfold f_O_addSign
  refine G_aload_n g (pc := 0) 0 d_O_addSign_0 rfl rfl ?_
  refine G_get g (pc := 1) fa_O_15 (hw.m 143 (Nat.le_of_ble_eq_true rfl)) (hw.k (zk143 rr)) d_O_addSign_1 ?_
  refine G_if_lt g (pc := 4) 40 d_O_addSign_4 (by decide) ?_ ?_
  · exact G_return g (pc := 40) hret (Nat.le_of_ble_eq_true rfl) (Nat.le_of_ble_eq_true rfl) d_O_addSign_40
  · refine G_aload_n g (pc := 7) 0 d_O_addSign_7 rfl rfl ?_
    refine G_get g (pc := 8) fa_O_15 (hw.m 143 (Nat.le_of_ble_eq_true rfl)) (hw.k (zk143 rr)) d_O_addSign_8 ?_
    refine G_aload_n g (pc := 11) 0 d_O_addSign_11 rfl rfl ?_
    refine G_getR g (pc := 12) fa_O_9 (hw.m 143 (Nat.le_of_ble_eq_true rfl)) (hw.k (zk143 rr)) (hw.r (zr143_0 rr)) d_O_addSign_12 ?_
    refine G_alenB g (pc := 15) (360 : Int32) (hw.m 144 (Nat.le_of_ble_eq_true rfl)) (hw.k (zk144 rr)) (by rw [(hw.n (zn144 rr))]; rfl) d_O_addSign_15 ?_
    refine G_icmp_ge g (pc := 16) 40 d_O_addSign_16 (by decide) ?_ ?_
    · refine G_aload_n g (pc := 19) 0 d_O_addSign_19 rfl rfl ?_
      refine G_getR g (pc := 20) fa_O_9 (hw.m 143 (Nat.le_of_ble_eq_true rfl)) (hw.k (zk143 rr)) (hw.r (zr143_0 rr)) d_O_addSign_20 ?_
      refine G_aload_n g (pc := 23) 0 d_O_addSign_23 rfl rfl ?_
      refine G_get g (pc := 24) fa_O_15 (hw.m 143 (Nat.le_of_ble_eq_true rfl)) (hw.k (zk143 rr)) d_O_addSign_24 ?_
      refine G_iload_n g (pc := 27) 1 d_O_addSign_27 rfl rfl ?_
      refine G_i2b g (pc := 28) d_O_addSign_28 ?_
      refine G_bast g (pc := 29) (nn := 360) (hw.m 144 (Nat.le_of_ble_eq_true rfl)) (hw.k (zk144 rr)) (hw.n (zn144 rr)) d_O_addSign_29 ?_
      refine G_nmM (fun M1 => ?_)
      refine G_aload_n g (pc := 30) 0 d_O_addSign_30 rfl rfl ?_
      refine G_dup g (pc := 31) d_O_addSign_31 rfl ?_
      refine G_get g (pc := 32) fa_O_15 (hw.m 143 (Nat.le_of_ble_eq_true rfl)) (hw.k (zk143 rr)) d_O_addSign_32 ?_
      refine G_iconst g (pc := 35) (1 : Int32) d_O_addSign_35 rfl ?_
      refine G_iadd g (pc := 36) d_O_addSign_36 ?_
      refine G_put g (pc := 37) fa_O_15 fw_2_1 rfl rfl (hw.m 143 (Nat.le_of_ble_eq_true rfl)) (hw.k (zk143 rr)) d_O_addSign_37 ?_
      refine G_nmM (fun M2 => ?_)
      exact G_return g (pc := 40) hret (Nat.le_of_ble_eq_true rfl) (Nat.le_of_ble_eq_true rfl) d_O_addSign_40
    · exact G_return g (pc := 40) hret (Nat.le_of_ble_eq_true rfl) (Nat.le_of_ble_eq_true rfl) d_O_addSign_40

theorem d_O_addNumber_0 : decode b_O_addNumber 0 = .ok (.iconst 0, 1) := by decide +kernel
theorem d_O_addNumber_1 : decode b_O_addNumber 1 = .ok (.istore_n 2, 1) := by decide +kernel
theorem d_O_addNumber_2 : decode b_O_addNumber 2 = .ok (.sipush 1000, 3) := by decide +kernel
theorem d_O_addNumber_5 : decode b_O_addNumber 5 = .ok (.istore_n 3, 1) := by decide +kernel
theorem d_O_addNumber_6 : decode b_O_addNumber 6 = .ok (.iload_n 3, 1) := by decide +kernel
theorem d_O_addNumber_7 : decode b_O_addNumber 7 = .ok (.ifCond .le 45, 3) := by decide +kernel
theorem d_O_addNumber_10 : decode b_O_addNumber 10 = .ok (.iload_n 1, 1) := by decide +kernel
theorem d_O_addNumber_11 : decode b_O_addNumber 11 = .ok (.iload_n 3, 1) := by decide +kernel
theorem d_O_addNumber_12 : decode b_O_addNumber 12 = .ok (.idiv, 1) := by decide +kernel
theorem d_O_addNumber_13 : decode b_O_addNumber 13 = .ok (.bipush 10, 2) := by decide +kernel
theorem d_O_addNumber_15 : decode b_O_addNumber 15 = .ok (.irem, 1) := by decide +kernel
theorem d_O_addNumber_16 : decode b_O_addNumber 16 = .ok (.istore 4, 2) := by decide +kernel
theorem d_O_addNumber_18 : decode b_O_addNumber 18 = .ok (.iload 4, 2) := by decide +kernel
theorem d_O_addNumber_20 : decode b_O_addNumber 20 = .ok (.ifCond .gt 12, 3) := by decide +kernel
theorem d_O_addNumber_23 : decode b_O_addNumber 23 = .ok (.iload_n 2, 1) := by decide +kernel
theorem d_O_addNumber_24 : decode b_O_addNumber 24 = .ok (.ifCond .ne 8, 3) := by decide +kernel
theorem d_O_addNumber_27 : decode b_O_addNumber 27 = .ok (.iload_n 3, 1) := by decide +kernel
theorem d_O_addNumber_28 : decode b_O_addNumber 28 = .ok (.iconst 1, 1) := by decide +kernel
theorem d_O_addNumber_29 : decode b_O_addNumber 29 = .ok (.if_icmp .ne 15, 3) := by decide +kernel
theorem d_O_addNumber_32 : decode b_O_addNumber 32 = .ok (.aload_n 0, 1) := by decide +kernel
theorem d_O_addNumber_33 : decode b_O_addNumber 33 = .ok (.bipush 48, 2) := by decide +kernel
theorem d_O_addNumber_35 : decode b_O_addNumber 35 = .ok (.iload 4, 2) := by decide +kernel
theorem d_O_addNumber_37 : decode b_O_addNumber 37 = .ok (.iadd, 1) := by decide +kernel
theorem d_O_addNumber_38 : decode b_O_addNumber 38 = .ok (.i2c, 1) := by decide +kernel
theorem d_O_addNumber_39 : decode b_O_addNumber 39 = .ok (.invokevirtual 24, 3) := by decide +kernel
theorem d_O_addNumber_42 : decode b_O_addNumber 42 = .ok (.iconst 1, 1) := by decide +kernel
theorem d_O_addNumber_43 : decode b_O_addNumber 43 = .ok (.istore_n 2, 1) := by decide +kernel
theorem d_O_addNumber_44 : decode b_O_addNumber 44 = .ok (.iload_n 3, 1) := by decide +kernel
theorem d_O_addNumber_45 : decode b_O_addNumber 45 = .ok (.bipush 10, 2) := by decide +kernel
theorem d_O_addNumber_47 : decode b_O_addNumber 47 = .ok (.idiv, 1) := by decide +kernel
theorem d_O_addNumber_48 : decode b_O_addNumber 48 = .ok (.istore_n 3, 1) := by decide +kernel
theorem d_O_addNumber_49 : decode b_O_addNumber 49 = .ok (.goto (-43), 3) := by decide +kernel
theorem d_O_addNumber_52 : decode b_O_addNumber 52 = .ok (.return_, 1) := by decide +kernel
theorem cc_O_24 : CV "KiteLogger$Output" 24 y_O_addSign b_O_addSign 2 none 1 := ⟨TT_in (i := 737) (by decide +kernel) (by decide +kernel), TT_in (i := 739) (by decide +kernel) (by decide +kernel), TT_in (i := 4) (by decide +kernel) (by decide +kernel), TT_in (i := 99) (by decide +kernel) (by decide +kernel), TT_in (i := 740) (by decide +kernel) (by decide +kernel), ⟨by decide +kernel, by decide +kernel, by decide +kernel⟩⟩
def lp_O_addNumber_6 (N0 rr : Nat) (a1 : Int32)  : Nat → Int32 × Int32 → Mem → (Int32 × Int32 → Mem → Option (Mem)) → Option (Mem)
  | 0, _, _, _ => none
  | N + 1, v6, M, k6 => if 0 < v6.2 then (grd (nzB v6.2) (nm (irm (a1 / v6.2) (10 : Int32)) fun (x1 : Int32) => if x1 ≤ 0 then (if v6.1 = 0 then (if v6.2 = (1 : Int32) then (bndM (f_O_addSign ((((48 : Int32) + x1).toUInt32 % 65536).toInt32) M) fun (M3 : Mem) => nm (v6.2 / (10 : Int32)) fun (x4 : Int32) => lp_O_addNumber_6 N0 rr a1 N ((1 : Int32), x4) M3 k6) else (nm (v6.2 / (10 : Int32)) fun (x5 : Int32) => lp_O_addNumber_6 N0 rr a1 N (v6.1, x5) M k6)) else (bndM (f_O_addSign ((((48 : Int32) + x1).toUInt32 % 65536).toInt32) M) fun (M7 : Mem) => nm (v6.2 / (10 : Int32)) fun (x8 : Int32) => lp_O_addNumber_6 N0 rr a1 N ((1 : Int32), x8) M7 k6)) else (bndM (f_O_addSign ((((48 : Int32) + x1).toUInt32 % 65536).toInt32) M) fun (M10 : Mem) => nm (v6.2 / (10 : Int32)) fun (x11 : Int32) => lp_O_addNumber_6 N0 rr a1 N ((1 : Int32), x11) M10 k6))) else (k6 (v6.1, v6.2) M)
def f_O_addNumber (N : Nat) (rr : Nat) (a1 : Int32) (M : Mem) : Option (Mem) :=
  lp_O_addNumber_6 N rr a1 N ((0 : Int32), (1000 : Int32)) M (fun (a13 : Int32 × Int32) (M12 : Mem) => some M12)
set_option maxHeartbeats 4000000 in
set_option maxRecDepth 100000 in
theorem c_O_addNumber (l : Launch) (N : Nat) {w : Wc} {rr : Nat} (hw : WK w rr) (a1 : Int32) (M : Mem) : Ct QV l y_O_addNumber b_O_addNumber 5 none (rmL 1) w [.ref (wad w 143), .int a1] M (f_O_addNumber N rr a1 M) := by
  refine Ct.go (by decide) (L := [(0, .ref (wad w 143)), (1, .int a1)]) rfl (Nat.le_of_ble_eq_true rfl) (fun p0 e s m args below meth c g hret => ?_)
  unfold f_O_addNumber
  refine G_iconst g (pc := 0) (0 : Int32) d_O_addNumber_0 rfl ?_
  refine G_istore_n g (pc := 1) _ d_O_addNumber_1 rfl (Nat.le_of_ble_eq_true rfl) rfl ?_
  refine G_sipush g (pc := 2) (1000 : Int32) d_O_addNumber_2 rfl ?_
  refine G_istore_n g (pc := 5) _ d_O_addNumber_5 rfl (Nat.le_of_ble_eq_true rfl) rfl ?_
  refine G_sub [2, 3, 1, 0] _ rfl ?_
  refine G_loop (F := lp_O_addNumber_6 N rr a1) 6 52 (fun (v6 : Int32 × Int32) => [(0, .ref (wad w 143)), (1, .int a1), (2, .int v6.1), (3, .int v6.2)]) (fun (v6 : Int32 × Int32) => [(0, .ref (wad w 143)), (1, .int a1), (2, .int v6.1), (3, .int v6.2)]) (fun _ _ _ => rfl) (fun a13 M12 => ?_) (fun k6 hk6 Nl6 ih6 v6 M => ?_) N ((0 : Int32), (1000 : Int32)) M
  · exact G_return g (pc := 52) hret (Nat.le_of_ble_eq_true rfl) (Nat.le_of_ble_eq_true rfl) d_O_addNumber_52
  · show Go p0 l e _ s m args below meth c w _ _ _ _ (lp_O_addNumber_6 N rr a1 (Nl6 + 1) v6 M k6) 6 _ _ M
    unfold lp_O_addNumber_6
    refine G_iload_n g (pc := 6) 3 d_O_addNumber_6 rfl rfl ?_
    refine G_if_le g (pc := 7) 52 d_O_addNumber_7 (by decide) ?_ ?_
    · refine G_iload_n g (pc := 10) 1 d_O_addNumber_10 rfl rfl ?_
      refine G_iload_n g (pc := 11) 3 d_O_addNumber_11 rfl rfl ?_
      refine G_idiv g (pc := 12) d_O_addNumber_12 ?_
      refine G_bipush g (pc := 13) (10 : Int32) d_O_addNumber_13 rfl ?_
      refine G_iremK g (pc := 15) (by decide) d_O_addNumber_15 ?_
      refine G_nmI (fun x1 => ?_)
      refine G_istore g (pc := 16) _ d_O_addNumber_16 (Nat.le_of_ble_eq_true rfl) rfl ?_
      refine G_iload g (pc := 18) 0 d_O_addNumber_18 rfl ?_
      refine G_if_gt g (pc := 20) 32 d_O_addNumber_20 (by decide) ?_ ?_
      · refine G_iload_n g (pc := 23) 3 d_O_addNumber_23 rfl rfl ?_
        refine G_if_ne g (pc := 24) 32 d_O_addNumber_24 (by decide) ?_ ?_
        · refine G_iload_n g (pc := 27) 4 d_O_addNumber_27 rfl rfl ?_
          refine G_iconst g (pc := 28) (1 : Int32) d_O_addNumber_28 rfl ?_
          refine G_icmp_ne g (pc := 29) 44 d_O_addNumber_29 (by decide) ?_ ?_
          · refine G_aload_n g (pc := 32) 1 d_O_addNumber_32 rfl rfl ?_
            refine G_bipush g (pc := 33) (48 : Int32) d_O_addNumber_33 rfl ?_
            refine G_iload g (pc := 35) 0 d_O_addNumber_35 rfl ?_
            refine G_iadd g (pc := 37) d_O_addNumber_37 ?_
            refine G_i2c g (pc := 38) d_O_addNumber_38 ?_
            refine G_cVV g (pc := 39) (As := [.int ((((48 : Int32) + x1).toUInt32 % 65536).toInt32)]) (st := []) cc_O_24 (c_O_addSign l hw ((((48 : Int32) + x1).toUInt32 % 65536).toInt32) M) (hw.m 143 (Nat.le_of_ble_eq_true rfl)) (hw.k (zk143 rr)) rfl (by decide) rfl ⟨(Nat.le_of_ble_eq_true rfl), (Nat.le_of_ble_eq_true rfl)⟩ ⟨(Nat.le_of_ble_eq_true rfl), (Nat.le_of_ble_eq_true rfl)⟩ (Nat.le_of_ble_eq_true rfl) d_O_addNumber_39 (fun M3 => ?_)
            refine G_iconst g (pc := 42) (1 : Int32) d_O_addNumber_42 rfl ?_
            refine G_istore_n g (pc := 43) _ d_O_addNumber_43 rfl (Nat.le_of_ble_eq_true rfl) rfl ?_
            refine G_iload_n g (pc := 44) 4 d_O_addNumber_44 rfl rfl ?_
            refine G_bipush g (pc := 45) (10 : Int32) d_O_addNumber_45 rfl ?_
            refine G_idivK g (pc := 47) (by decide) d_O_addNumber_47 ?_
            refine G_nmI (fun x4 => ?_)
            refine G_istore_n g (pc := 48) _ d_O_addNumber_48 rfl (Nat.le_of_ble_eq_true rfl) rfl ?_
            refine G_goto g (pc := 49) 6 d_O_addNumber_49 (by decide) ?_
            refine G_sub [3, 4, 1, 0] _ rfl ?_
            exact ih6 ((1 : Int32), x4) M3
          · refine G_iload_n g (pc := 44) 4 d_O_addNumber_44 rfl rfl ?_
            refine G_bipush g (pc := 45) (10 : Int32) d_O_addNumber_45 rfl ?_
            refine G_idivK g (pc := 47) (by decide) d_O_addNumber_47 ?_
            refine G_nmI (fun x5 => ?_)
            refine G_istore_n g (pc := 48) _ d_O_addNumber_48 rfl (Nat.le_of_ble_eq_true rfl) rfl ?_
            refine G_goto g (pc := 49) 6 d_O_addNumber_49 (by decide) ?_
            refine G_sub [2, 3, 4, 0] _ rfl ?_
            exact ih6 (v6.1, x5) M
        · refine G_aload_n g (pc := 32) 1 d_O_addNumber_32 rfl rfl ?_
          refine G_bipush g (pc := 33) (48 : Int32) d_O_addNumber_33 rfl ?_
          refine G_iload g (pc := 35) 0 d_O_addNumber_35 rfl ?_
          refine G_iadd g (pc := 37) d_O_addNumber_37 ?_
          refine G_i2c g (pc := 38) d_O_addNumber_38 ?_
          refine G_cVV g (pc := 39) (As := [.int ((((48 : Int32) + x1).toUInt32 % 65536).toInt32)]) (st := []) cc_O_24 (c_O_addSign l hw ((((48 : Int32) + x1).toUInt32 % 65536).toInt32) M) (hw.m 143 (Nat.le_of_ble_eq_true rfl)) (hw.k (zk143 rr)) rfl (by decide) rfl ⟨(Nat.le_of_ble_eq_true rfl), (Nat.le_of_ble_eq_true rfl)⟩ ⟨(Nat.le_of_ble_eq_true rfl), (Nat.le_of_ble_eq_true rfl)⟩ (Nat.le_of_ble_eq_true rfl) d_O_addNumber_39 (fun M7 => ?_)
          refine G_iconst g (pc := 42) (1 : Int32) d_O_addNumber_42 rfl ?_
          refine G_istore_n g (pc := 43) _ d_O_addNumber_43 rfl (Nat.le_of_ble_eq_true rfl) rfl ?_
          refine G_iload_n g (pc := 44) 4 d_O_addNumber_44 rfl rfl ?_
          refine G_bipush g (pc := 45) (10 : Int32) d_O_addNumber_45 rfl ?_
          refine G_idivK g (pc := 47) (by decide) d_O_addNumber_47 ?_
          refine G_nmI (fun x8 => ?_)
          refine G_istore_n g (pc := 48) _ d_O_addNumber_48 rfl (Nat.le_of_ble_eq_true rfl) rfl ?_
          refine G_goto g (pc := 49) 6 d_O_addNumber_49 (by decide) ?_
          refine G_sub [3, 4, 1, 0] _ rfl ?_
          exact ih6 ((1 : Int32), x8) M7
      · refine G_aload_n g (pc := 32) 1 d_O_addNumber_32 rfl rfl ?_
        refine G_bipush g (pc := 33) (48 : Int32) d_O_addNumber_33 rfl ?_
        refine G_iload g (pc := 35) 0 d_O_addNumber_35 rfl ?_
        refine G_iadd g (pc := 37) d_O_addNumber_37 ?_
        refine G_i2c g (pc := 38) d_O_addNumber_38 ?_
        refine G_cVV g (pc := 39) (As := [.int ((((48 : Int32) + x1).toUInt32 % 65536).toInt32)]) (st := []) cc_O_24 (c_O_addSign l hw ((((48 : Int32) + x1).toUInt32 % 65536).toInt32) M) (hw.m 143 (Nat.le_of_ble_eq_true rfl)) (hw.k (zk143 rr)) rfl (by decide) rfl ⟨(Nat.le_of_ble_eq_true rfl), (Nat.le_of_ble_eq_true rfl)⟩ ⟨(Nat.le_of_ble_eq_true rfl), (Nat.le_of_ble_eq_true rfl)⟩ (Nat.le_of_ble_eq_true rfl) d_O_addNumber_39 (fun M10 => ?_)
        refine G_iconst g (pc := 42) (1 : Int32) d_O_addNumber_42 rfl ?_
        refine G_istore_n g (pc := 43) _ d_O_addNumber_43 rfl (Nat.le_of_ble_eq_true rfl) rfl ?_
        refine G_iload_n g (pc := 44) 4 d_O_addNumber_44 rfl rfl ?_
        refine G_bipush g (pc := 45) (10 : Int32) d_O_addNumber_45 rfl ?_
        refine G_idivK g (pc := 47) (by decide) d_O_addNumber_47 ?_
        refine G_nmI (fun x11 => ?_)
        refine G_istore_n g (pc := 48) _ d_O_addNumber_48 rfl (Nat.le_of_ble_eq_true rfl) rfl ?_
        refine G_goto g (pc := 49) 6 d_O_addNumber_49 (by decide) ?_
        refine G_sub [3, 4, 1, 0] _ rfl ?_
        exact ih6 ((1 : Int32), x11) M10
    · refine G_sub [0, 1, 2, 3] _ rfl ?_
      exact hk6 (v6.1, v6.2) M

theorem d_O_writeSamples_0 : decode b_O_writeSamples 0 = .ok (.aload_n 0, 1) := by decide +kernel
theorem d_O_writeSamples_1 : decode b_O_writeSamples 1 = .ok (.iconst 0, 1) := by decide +kernel
theorem d_O_writeSamples_2 : decode b_O_writeSamples 2 = .ok (.putfield 15, 3) := by decide +kernel
theorem d_O_writeSamples_5 : decode b_O_writeSamples 5 = .ok (.iconst 0, 1) := by decide +kernel
theorem d_O_writeSamples_6 : decode b_O_writeSamples 6 = .ok (.istore_n 2, 1) := by decide +kernel
theorem d_O_writeSamples_7 : decode b_O_writeSamples 7 = .ok (.iload_n 2, 1) := by decide +kernel
theorem d_O_writeSamples_8 : decode b_O_writeSamples 8 = .ok (.aload_n 1, 1) := by decide +kernel
theorem d_O_writeSamples_9 : decode b_O_writeSamples 9 = .ok (.getfield 19, 3) := by decide +kernel
theorem d_O_writeSamples_12 : decode b_O_writeSamples 12 = .ok (.if_icmp .ge 58, 3) := by decide +kernel
theorem d_O_writeSamples_15 : decode b_O_writeSamples 15 = .ok (.iload_n 2, 1) := by decide +kernel
theorem d_O_writeSamples_16 : decode b_O_writeSamples 16 = .ok (.ifCond .le 9, 3) := by decide +kernel
theorem d_O_writeSamples_19 : decode b_O_writeSamples 19 = .ok (.aload_n 0, 1) := by decide +kernel
theorem d_O_writeSamples_20 : decode b_O_writeSamples 20 = .ok (.bipush 32, 2) := by decide +kernel
theorem d_O_writeSamples_22 : decode b_O_writeSamples 22 = .ok (.invokevirtual 24, 3) := by decide +kernel
theorem d_O_writeSamples_25 : decode b_O_writeSamples 25 = .ok (.aload_n 0, 1) := by decide +kernel
theorem d_O_writeSamples_26 : decode b_O_writeSamples 26 = .ok (.aload_n 1, 1) := by decide +kernel
theorem d_O_writeSamples_27 : decode b_O_writeSamples 27 = .ok (.iload_n 2, 1) := by decide +kernel
theorem d_O_writeSamples_28 : decode b_O_writeSamples 28 = .ok (.invokevirtual 28, 3) := by decide +kernel
theorem d_O_writeSamples_31 : decode b_O_writeSamples 31 = .ok (.invokevirtual 32, 3) := by decide +kernel
theorem d_O_writeSamples_34 : decode b_O_writeSamples 34 = .ok (.aload_n 0, 1) := by decide +kernel
theorem d_O_writeSamples_35 : decode b_O_writeSamples 35 = .ok (.bipush 64, 2) := by decide +kernel
theorem d_O_writeSamples_37 : decode b_O_writeSamples 37 = .ok (.invokevirtual 24, 3) := by decide +kernel
theorem d_O_writeSamples_40 : decode b_O_writeSamples 40 = .ok (.aload_n 0, 1) := by decide +kernel
theorem d_O_writeSamples_41 : decode b_O_writeSamples 41 = .ok (.aload_n 1, 1) := by decide +kernel
theorem d_O_writeSamples_42 : decode b_O_writeSamples 42 = .ok (.iload_n 2, 1) := by decide +kernel
theorem d_O_writeSamples_43 : decode b_O_writeSamples 43 = .ok (.invokevirtual 36, 3) := by decide +kernel
theorem d_O_writeSamples_46 : decode b_O_writeSamples 46 = .ok (.invokevirtual 32, 3) := by decide +kernel
theorem d_O_writeSamples_49 : decode b_O_writeSamples 49 = .ok (.aload_n 0, 1) := by decide +kernel
theorem d_O_writeSamples_50 : decode b_O_writeSamples 50 = .ok (.bipush 44, 2) := by decide +kernel
theorem d_O_writeSamples_52 : decode b_O_writeSamples 52 = .ok (.invokevirtual 24, 3) := by decide +kernel
theorem d_O_writeSamples_55 : decode b_O_writeSamples 55 = .ok (.aload_n 0, 1) := by decide +kernel
theorem d_O_writeSamples_56 : decode b_O_writeSamples 56 = .ok (.aload_n 1, 1) := by decide +kernel
theorem d_O_writeSamples_57 : decode b_O_writeSamples 57 = .ok (.iload_n 2, 1) := by decide +kernel
theorem d_O_writeSamples_58 : decode b_O_writeSamples 58 = .ok (.invokevirtual 39, 3) := by decide +kernel
theorem d_O_writeSamples_61 : decode b_O_writeSamples 61 = .ok (.invokevirtual 32, 3) := by decide +kernel
theorem d_O_writeSamples_64 : decode b_O_writeSamples 64 = .ok (.iinc 2 1, 3) := by decide +kernel
theorem d_O_writeSamples_67 : decode b_O_writeSamples 67 = .ok (.goto (-60), 3) := by decide +kernel
theorem d_O_writeSamples_70 : decode b_O_writeSamples 70 = .ok (.aload_n 0, 1) := by decide +kernel
theorem d_O_writeSamples_71 : decode b_O_writeSamples 71 = .ok (.getfield 15, 3) := by decide +kernel
theorem d_O_writeSamples_74 : decode b_O_writeSamples 74 = .ok (.ireturn, 1) := by decide +kernel
theorem cc_O_28 : CV "KiteLogger$Output" 28 y_S_tickAt b_S_tickAt 2 (some .int) 1 := ⟨TT_in (i := 741) (by decide +kernel) (by decide +kernel), TT_in (i := 653) (by decide +kernel) (by decide +kernel), TT_in (i := 654) (by decide +kernel) (by decide +kernel), TT_in (i := 97) (by decide +kernel) (by decide +kernel), TT_in (i := 655) (by decide +kernel) (by decide +kernel), ⟨by decide +kernel, by decide +kernel, by decide +kernel⟩⟩
theorem cc_O_32 : CV "KiteLogger$Output" 32 y_O_addNumber b_O_addNumber 5 none 1 := ⟨TT_in (i := 742) (by decide +kernel) (by decide +kernel), TT_in (i := 744) (by decide +kernel) (by decide +kernel), TT_in (i := 5) (by decide +kernel) (by decide +kernel), TT_in (i := 99) (by decide +kernel) (by decide +kernel), TT_in (i := 745) (by decide +kernel) (by decide +kernel), ⟨by decide +kernel, by decide +kernel, by decide +kernel⟩⟩
theorem cc_O_36 : CV "KiteLogger$Output" 36 y_S_heightAt b_S_heightAt 2 (some .int) 1 := ⟨TT_in (i := 746) (by decide +kernel) (by decide +kernel), TT_in (i := 625) (by decide +kernel) (by decide +kernel), TT_in (i := 626) (by decide +kernel) (by decide +kernel), TT_in (i := 97) (by decide +kernel) (by decide +kernel), TT_in (i := 627) (by decide +kernel) (by decide +kernel), ⟨by decide +kernel, by decide +kernel, by decide +kernel⟩⟩
theorem cc_O_39 : CV "KiteLogger$Output" 39 y_S_gustAt b_S_gustAt 2 (some .int) 1 := ⟨TT_in (i := 747) (by decide +kernel) (by decide +kernel), TT_in (i := 748) (by decide +kernel) (by decide +kernel), TT_in (i := 749) (by decide +kernel) (by decide +kernel), TT_in (i := 97) (by decide +kernel) (by decide +kernel), TT_in (i := 750) (by decide +kernel) (by decide +kernel), ⟨by decide +kernel, by decide +kernel, by decide +kernel⟩⟩
def lp_O_writeSamples_7 (N0 rr : Nat) (a1 : Nat)  : Nat → Int32 → Mem → (Int32 → Mem → Option (Int32 × Mem)) → Option (Int32 × Mem)
  | 0, _, _, _ => none
  | N + 1, v7, M, k7 => if v7 < (M a1 5) then (if 0 < v7 then (bndM (f_O_addSign (32 : Int32) M) fun (M3 : Mem) => bnd (f_S_tickAt a1 v7 M3) fun (x4 : Int32) (M5 : Mem) => bndM (f_O_addNumber N0 rr x4 M5) fun (M7 : Mem) => bndM (f_O_addSign (64 : Int32) M7) fun (M9 : Mem) => bnd (f_S_heightAt a1 v7 M9) fun (x10 : Int32) (M11 : Mem) => bndM (f_O_addNumber N0 rr x10 M11) fun (M13 : Mem) => bndM (f_O_addSign (44 : Int32) M13) fun (M15 : Mem) => bnd (f_S_gustAt a1 v7 M15) fun (x16 : Int32) (M17 : Mem) => bndM (f_O_addNumber N0 rr x16 M17) fun (M19 : Mem) => nm (v7 + (1 : Int32)) fun (x20 : Int32) => lp_O_writeSamples_7 N0 rr a1 N x20 M19 k7) else (bnd (f_S_tickAt a1 v7 M) fun (x21 : Int32) (M22 : Mem) => bndM (f_O_addNumber N0 rr x21 M22) fun (M24 : Mem) => bndM (f_O_addSign (64 : Int32) M24) fun (M26 : Mem) => bnd (f_S_heightAt a1 v7 M26) fun (x27 : Int32) (M28 : Mem) => bndM (f_O_addNumber N0 rr x27 M28) fun (M30 : Mem) => bndM (f_O_addSign (44 : Int32) M30) fun (M32 : Mem) => bnd (f_S_gustAt a1 v7 M32) fun (x33 : Int32) (M34 : Mem) => bndM (f_O_addNumber N0 rr x33 M34) fun (M36 : Mem) => nm (v7 + (1 : Int32)) fun (x37 : Int32) => lp_O_writeSamples_7 N0 rr a1 N x37 M36 k7)) else (k7 v7 M)
def f_O_writeSamples (N : Nat) (rr : Nat) (a1 : Nat) (M : Mem) : Option (Int32 × Mem) :=
  nm (put M 143 1 (0 : Int32)) fun (M1 : Mem) => lp_O_writeSamples_7 N rr a1 N (0 : Int32) M1 (fun (a39 : Int32) (M38 : Mem) => some (M38 143 1, M38))
set_option maxHeartbeats 4000000 in
set_option maxRecDepth 100000 in
theorem c_O_writeSamples (l : Launch) (N : Nat) {w : Wc} {rr : Nat} (hw : WK w rr) (a1 : Nat) (ha1 : a1 ∈ saL) (M : Mem) : Ct QI l y_O_writeSamples b_O_writeSamples 3 (some .int) (rmL 2) w [.ref (wad w 143), .ref (wad w a1)] M (f_O_writeSamples N rr a1 M) := by
  refine Ct.go (by decide) (L := [(0, .ref (wad w 143)), (1, .ref (wad w a1))]) rfl (Nat.le_of_ble_eq_true rfl) (fun p0 e s m args below meth c g hret => ?_)
  unfold f_O_writeSamples
  refine G_aload_n g (pc := 0) 0 d_O_writeSamples_0 rfl rfl ?_
  refine G_iconst g (pc := 1) (0 : Int32) d_O_writeSamples_1 rfl ?_
  refine G_put g (pc := 2) fa_O_15 fw_2_1 rfl rfl (hw.m 143 (Nat.le_of_ble_eq_true rfl)) (hw.k (zk143 rr)) d_O_writeSamples_2 ?_
  refine G_nmM (fun M1 => ?_)
  refine G_iconst g (pc := 5) (0 : Int32) d_O_writeSamples_5 rfl ?_
  refine G_istore_n g (pc := 6) _ d_O_writeSamples_6 rfl (Nat.le_of_ble_eq_true rfl) rfl ?_
  refine G_sub [1, 2, 0] _ rfl ?_
  refine G_loop (F := lp_O_writeSamples_7 N rr a1) 7 70 (fun (v7 : Int32) => [(0, .ref (wad w 143)), (1, .ref (wad w a1)), (2, .int v7)]) (fun (v7 : Int32) => [(0, .ref (wad w 143)), (1, .ref (wad w a1)), (2, .int v7)]) (fun _ _ _ => rfl) (fun a39 M38 => ?_) (fun k7 hk7 Nl7 ih7 v7 M => ?_) N (0 : Int32) M1
  · refine G_aload_n g (pc := 70) 0 d_O_writeSamples_70 rfl rfl ?_
    refine G_get g (pc := 71) fa_O_15 (hw.m 143 (Nat.le_of_ble_eq_true rfl)) (hw.k (zk143 rr)) d_O_writeSamples_71 ?_
    exact G_ireturn g (pc := 74) hret (Nat.le_of_ble_eq_true rfl) (Nat.le_of_ble_eq_true rfl) d_O_writeSamples_74
  · show Go p0 l e _ s m args below meth c w _ _ _ _ (lp_O_writeSamples_7 N rr a1 (Nl7 + 1) v7 M k7) 7 _ _ M
    unfold lp_O_writeSamples_7
    refine G_iload_n g (pc := 7) 2 d_O_writeSamples_7 rfl rfl ?_
    refine G_aload_n g (pc := 8) 1 d_O_writeSamples_8 rfl rfl ?_
    refine G_getN g (pc := 9) fa_O_19 (hw.m _ (sa_lt0 ha1)) (hw.k (sa_k0 ha1)) d_O_writeSamples_9 ?_
    refine G_icmp_ge g (pc := 12) 70 d_O_writeSamples_12 (by decide) ?_ ?_
    · refine G_iload_n g (pc := 15) 2 d_O_writeSamples_15 rfl rfl ?_
      refine G_if_le g (pc := 16) 25 d_O_writeSamples_16 (by decide) ?_ ?_
      · refine G_aload_n g (pc := 19) 0 d_O_writeSamples_19 rfl rfl ?_
        refine G_bipush g (pc := 20) (32 : Int32) d_O_writeSamples_20 rfl ?_
        refine G_cVV g (pc := 22) (As := [.int (32 : Int32)]) (st := []) cc_O_24 (c_O_addSign l hw (32 : Int32) M) (hw.m 143 (Nat.le_of_ble_eq_true rfl)) (hw.k (zk143 rr)) rfl (by decide) rfl ⟨(Nat.le_of_ble_eq_true rfl), (Nat.le_of_ble_eq_true rfl)⟩ ⟨(Nat.le_of_ble_eq_true rfl), (Nat.le_of_ble_eq_true rfl)⟩ (Nat.le_of_ble_eq_true rfl) d_O_writeSamples_22 (fun M3 => ?_)
        refine G_aload_n g (pc := 25) 0 d_O_writeSamples_25 rfl rfl ?_
        refine G_aload_n g (pc := 26) 1 d_O_writeSamples_26 rfl rfl ?_
        refine G_iload_n g (pc := 27) 2 d_O_writeSamples_27 rfl rfl ?_
        refine G_cVI g (pc := 28) (As := [.int v7]) (st := [.ref (wad w 143)]) cc_O_28 (c_S_tickAt l hw a1 ha1 v7 M3) (hw.m _ (sa_lt0 ha1)) (hw.k (sa_k0 ha1)) rfl (by decide) rfl ⟨(Nat.le_of_ble_eq_true rfl), (Nat.le_of_ble_eq_true rfl)⟩ ⟨(Nat.le_of_ble_eq_true rfl), (Nat.le_of_ble_eq_true rfl)⟩ (Nat.le_of_ble_eq_true rfl) d_O_writeSamples_28 (fun x4 M5 => ?_)
        refine G_cVV g (pc := 31) (As := [.int x4]) (st := []) cc_O_32 (c_O_addNumber l N hw x4 M5) (hw.m 143 (Nat.le_of_ble_eq_true rfl)) (hw.k (zk143 rr)) rfl (by decide) rfl ⟨(Nat.le_of_ble_eq_true rfl), (Nat.le_of_ble_eq_true rfl)⟩ ⟨(Nat.le_of_ble_eq_true rfl), (Nat.le_of_ble_eq_true rfl)⟩ (Nat.le_of_ble_eq_true rfl) d_O_writeSamples_31 (fun M7 => ?_)
        refine G_aload_n g (pc := 34) 0 d_O_writeSamples_34 rfl rfl ?_
        refine G_bipush g (pc := 35) (64 : Int32) d_O_writeSamples_35 rfl ?_
        refine G_cVV g (pc := 37) (As := [.int (64 : Int32)]) (st := []) cc_O_24 (c_O_addSign l hw (64 : Int32) M7) (hw.m 143 (Nat.le_of_ble_eq_true rfl)) (hw.k (zk143 rr)) rfl (by decide) rfl ⟨(Nat.le_of_ble_eq_true rfl), (Nat.le_of_ble_eq_true rfl)⟩ ⟨(Nat.le_of_ble_eq_true rfl), (Nat.le_of_ble_eq_true rfl)⟩ (Nat.le_of_ble_eq_true rfl) d_O_writeSamples_37 (fun M9 => ?_)
        refine G_aload_n g (pc := 40) 0 d_O_writeSamples_40 rfl rfl ?_
        refine G_aload_n g (pc := 41) 1 d_O_writeSamples_41 rfl rfl ?_
        refine G_iload_n g (pc := 42) 2 d_O_writeSamples_42 rfl rfl ?_
        refine G_cVI g (pc := 43) (As := [.int v7]) (st := [.ref (wad w 143)]) cc_O_36 (c_S_heightAt l hw a1 ha1 v7 M9) (hw.m _ (sa_lt0 ha1)) (hw.k (sa_k0 ha1)) rfl (by decide) rfl ⟨(Nat.le_of_ble_eq_true rfl), (Nat.le_of_ble_eq_true rfl)⟩ ⟨(Nat.le_of_ble_eq_true rfl), (Nat.le_of_ble_eq_true rfl)⟩ (Nat.le_of_ble_eq_true rfl) d_O_writeSamples_43 (fun x10 M11 => ?_)
        refine G_cVV g (pc := 46) (As := [.int x10]) (st := []) cc_O_32 (c_O_addNumber l N hw x10 M11) (hw.m 143 (Nat.le_of_ble_eq_true rfl)) (hw.k (zk143 rr)) rfl (by decide) rfl ⟨(Nat.le_of_ble_eq_true rfl), (Nat.le_of_ble_eq_true rfl)⟩ ⟨(Nat.le_of_ble_eq_true rfl), (Nat.le_of_ble_eq_true rfl)⟩ (Nat.le_of_ble_eq_true rfl) d_O_writeSamples_46 (fun M13 => ?_)
        refine G_aload_n g (pc := 49) 0 d_O_writeSamples_49 rfl rfl ?_
        refine G_bipush g (pc := 50) (44 : Int32) d_O_writeSamples_50 rfl ?_
        refine G_cVV g (pc := 52) (As := [.int (44 : Int32)]) (st := []) cc_O_24 (c_O_addSign l hw (44 : Int32) M13) (hw.m 143 (Nat.le_of_ble_eq_true rfl)) (hw.k (zk143 rr)) rfl (by decide) rfl ⟨(Nat.le_of_ble_eq_true rfl), (Nat.le_of_ble_eq_true rfl)⟩ ⟨(Nat.le_of_ble_eq_true rfl), (Nat.le_of_ble_eq_true rfl)⟩ (Nat.le_of_ble_eq_true rfl) d_O_writeSamples_52 (fun M15 => ?_)
        refine G_aload_n g (pc := 55) 0 d_O_writeSamples_55 rfl rfl ?_
        refine G_aload_n g (pc := 56) 1 d_O_writeSamples_56 rfl rfl ?_
        refine G_iload_n g (pc := 57) 2 d_O_writeSamples_57 rfl rfl ?_
        refine G_cVI g (pc := 58) (As := [.int v7]) (st := [.ref (wad w 143)]) cc_O_39 (c_S_gustAt l hw a1 ha1 v7 M15) (hw.m _ (sa_lt0 ha1)) (hw.k (sa_k0 ha1)) rfl (by decide) rfl ⟨(Nat.le_of_ble_eq_true rfl), (Nat.le_of_ble_eq_true rfl)⟩ ⟨(Nat.le_of_ble_eq_true rfl), (Nat.le_of_ble_eq_true rfl)⟩ (Nat.le_of_ble_eq_true rfl) d_O_writeSamples_58 (fun x16 M17 => ?_)
        refine G_cVV g (pc := 61) (As := [.int x16]) (st := []) cc_O_32 (c_O_addNumber l N hw x16 M17) (hw.m 143 (Nat.le_of_ble_eq_true rfl)) (hw.k (zk143 rr)) rfl (by decide) rfl ⟨(Nat.le_of_ble_eq_true rfl), (Nat.le_of_ble_eq_true rfl)⟩ ⟨(Nat.le_of_ble_eq_true rfl), (Nat.le_of_ble_eq_true rfl)⟩ (Nat.le_of_ble_eq_true rfl) d_O_writeSamples_61 (fun M19 => ?_)
        refine G_nmX (v7 + (1 : Int32)) (fun x20 e_x20 => ?_)
        refine G_iinc g (pc := 64) x20 _ 2 d_O_writeSamples_64 rfl e_x20.symm (Nat.le_of_ble_eq_true rfl) rfl ?_
        refine G_goto g (pc := 67) 7 d_O_writeSamples_67 (by decide) ?_
        refine G_sub [1, 2, 0] _ rfl ?_
        exact ih7 x20 M19
      · refine G_aload_n g (pc := 25) 0 d_O_writeSamples_25 rfl rfl ?_
        refine G_aload_n g (pc := 26) 1 d_O_writeSamples_26 rfl rfl ?_
        refine G_iload_n g (pc := 27) 2 d_O_writeSamples_27 rfl rfl ?_
        refine G_cVI g (pc := 28) (As := [.int v7]) (st := [.ref (wad w 143)]) cc_O_28 (c_S_tickAt l hw a1 ha1 v7 M) (hw.m _ (sa_lt0 ha1)) (hw.k (sa_k0 ha1)) rfl (by decide) rfl ⟨(Nat.le_of_ble_eq_true rfl), (Nat.le_of_ble_eq_true rfl)⟩ ⟨(Nat.le_of_ble_eq_true rfl), (Nat.le_of_ble_eq_true rfl)⟩ (Nat.le_of_ble_eq_true rfl) d_O_writeSamples_28 (fun x21 M22 => ?_)
        refine G_cVV g (pc := 31) (As := [.int x21]) (st := []) cc_O_32 (c_O_addNumber l N hw x21 M22) (hw.m 143 (Nat.le_of_ble_eq_true rfl)) (hw.k (zk143 rr)) rfl (by decide) rfl ⟨(Nat.le_of_ble_eq_true rfl), (Nat.le_of_ble_eq_true rfl)⟩ ⟨(Nat.le_of_ble_eq_true rfl), (Nat.le_of_ble_eq_true rfl)⟩ (Nat.le_of_ble_eq_true rfl) d_O_writeSamples_31 (fun M24 => ?_)
        refine G_aload_n g (pc := 34) 0 d_O_writeSamples_34 rfl rfl ?_
        refine G_bipush g (pc := 35) (64 : Int32) d_O_writeSamples_35 rfl ?_
        refine G_cVV g (pc := 37) (As := [.int (64 : Int32)]) (st := []) cc_O_24 (c_O_addSign l hw (64 : Int32) M24) (hw.m 143 (Nat.le_of_ble_eq_true rfl)) (hw.k (zk143 rr)) rfl (by decide) rfl ⟨(Nat.le_of_ble_eq_true rfl), (Nat.le_of_ble_eq_true rfl)⟩ ⟨(Nat.le_of_ble_eq_true rfl), (Nat.le_of_ble_eq_true rfl)⟩ (Nat.le_of_ble_eq_true rfl) d_O_writeSamples_37 (fun M26 => ?_)
        refine G_aload_n g (pc := 40) 0 d_O_writeSamples_40 rfl rfl ?_
        refine G_aload_n g (pc := 41) 1 d_O_writeSamples_41 rfl rfl ?_
        refine G_iload_n g (pc := 42) 2 d_O_writeSamples_42 rfl rfl ?_
        refine G_cVI g (pc := 43) (As := [.int v7]) (st := [.ref (wad w 143)]) cc_O_36 (c_S_heightAt l hw a1 ha1 v7 M26) (hw.m _ (sa_lt0 ha1)) (hw.k (sa_k0 ha1)) rfl (by decide) rfl ⟨(Nat.le_of_ble_eq_true rfl), (Nat.le_of_ble_eq_true rfl)⟩ ⟨(Nat.le_of_ble_eq_true rfl), (Nat.le_of_ble_eq_true rfl)⟩ (Nat.le_of_ble_eq_true rfl) d_O_writeSamples_43 (fun x27 M28 => ?_)
        refine G_cVV g (pc := 46) (As := [.int x27]) (st := []) cc_O_32 (c_O_addNumber l N hw x27 M28) (hw.m 143 (Nat.le_of_ble_eq_true rfl)) (hw.k (zk143 rr)) rfl (by decide) rfl ⟨(Nat.le_of_ble_eq_true rfl), (Nat.le_of_ble_eq_true rfl)⟩ ⟨(Nat.le_of_ble_eq_true rfl), (Nat.le_of_ble_eq_true rfl)⟩ (Nat.le_of_ble_eq_true rfl) d_O_writeSamples_46 (fun M30 => ?_)
        refine G_aload_n g (pc := 49) 0 d_O_writeSamples_49 rfl rfl ?_
        refine G_bipush g (pc := 50) (44 : Int32) d_O_writeSamples_50 rfl ?_
        refine G_cVV g (pc := 52) (As := [.int (44 : Int32)]) (st := []) cc_O_24 (c_O_addSign l hw (44 : Int32) M30) (hw.m 143 (Nat.le_of_ble_eq_true rfl)) (hw.k (zk143 rr)) rfl (by decide) rfl ⟨(Nat.le_of_ble_eq_true rfl), (Nat.le_of_ble_eq_true rfl)⟩ ⟨(Nat.le_of_ble_eq_true rfl), (Nat.le_of_ble_eq_true rfl)⟩ (Nat.le_of_ble_eq_true rfl) d_O_writeSamples_52 (fun M32 => ?_)
        refine G_aload_n g (pc := 55) 0 d_O_writeSamples_55 rfl rfl ?_
        refine G_aload_n g (pc := 56) 1 d_O_writeSamples_56 rfl rfl ?_
        refine G_iload_n g (pc := 57) 2 d_O_writeSamples_57 rfl rfl ?_
        refine G_cVI g (pc := 58) (As := [.int v7]) (st := [.ref (wad w 143)]) cc_O_39 (c_S_gustAt l hw a1 ha1 v7 M32) (hw.m _ (sa_lt0 ha1)) (hw.k (sa_k0 ha1)) rfl (by decide) rfl ⟨(Nat.le_of_ble_eq_true rfl), (Nat.le_of_ble_eq_true rfl)⟩ ⟨(Nat.le_of_ble_eq_true rfl), (Nat.le_of_ble_eq_true rfl)⟩ (Nat.le_of_ble_eq_true rfl) d_O_writeSamples_58 (fun x33 M34 => ?_)
        refine G_cVV g (pc := 61) (As := [.int x33]) (st := []) cc_O_32 (c_O_addNumber l N hw x33 M34) (hw.m 143 (Nat.le_of_ble_eq_true rfl)) (hw.k (zk143 rr)) rfl (by decide) rfl ⟨(Nat.le_of_ble_eq_true rfl), (Nat.le_of_ble_eq_true rfl)⟩ ⟨(Nat.le_of_ble_eq_true rfl), (Nat.le_of_ble_eq_true rfl)⟩ (Nat.le_of_ble_eq_true rfl) d_O_writeSamples_61 (fun M36 => ?_)
        refine G_nmX (v7 + (1 : Int32)) (fun x37 e_x37 => ?_)
        refine G_iinc g (pc := 64) x37 _ 2 d_O_writeSamples_64 rfl e_x37.symm (Nat.le_of_ble_eq_true rfl) rfl ?_
        refine G_goto g (pc := 67) 7 d_O_writeSamples_67 (by decide) ?_
        refine G_sub [1, 2, 0] _ rfl ?_
        exact ih7 x37 M36
    · refine G_sub [0, 1, 2] _ rfl ?_
      exact hk7 v7 M
