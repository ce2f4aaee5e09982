theorem d_X_hasRoomFor_0 : decode b_X_hasRoomFor 0 = .ok (.aload_n 0, 1) := by decide +kernel
theorem d_X_hasRoomFor_1 : decode b_X_hasRoomFor 1 = .ok (.getfield 15, 3) := by decide +kernel
theorem d_X_hasRoomFor_4 : decode b_X_hasRoomFor 4 = .ok (.iload_n 1, 1) := by decide +kernel
theorem d_X_hasRoomFor_5 : decode b_X_hasRoomFor 5 = .ok (.iadd, 1) := by decide +kernel
theorem d_X_hasRoomFor_6 : decode b_X_hasRoomFor 6 = .ok (.sipush 500, 3) := by decide +kernel
theorem d_X_hasRoomFor_9 : decode b_X_hasRoomFor 9 = .ok (.if_icmp .gt 7, 3) := by decide +kernel
theorem d_X_hasRoomFor_12 : decode b_X_hasRoomFor 12 = .ok (.iconst 1, 1) := by decide +kernel
theorem d_X_hasRoomFor_13 : decode b_X_hasRoomFor 13 = .ok (.goto 4, 3) := by decide +kernel
theorem d_X_hasRoomFor_16 : decode b_X_hasRoomFor 16 = .ok (.iconst 0, 1) := by decide +kernel
theorem d_X_hasRoomFor_17 : decode b_X_hasRoomFor 17 = .ok (.ireturn, 1) := by decide +kernel
def f_X_hasRoomFor (a1 : Int32) (M : Mem) : Option (Bool × Mem) :=
  if ((M 1 1) + a1) ≤ (500 : Int32) then (some (true, M)) else (some (false, M))
set_option maxHeartbeats 4000000 in
set_option maxRecDepth 100000 in
theorem c_X_hasRoomFor (l : Launch) {w : Wc} {rr : Nat} (hw : WK w rr) (a1 : Int32) (M : Mem) : Ct QZ l y_X_hasRoomFor b_X_hasRoomFor 2 (some .boolean) (rmL 0) w [.ref (wad w 1), .int a1] M (f_X_hasRoomFor a1 M) := by
  refine Ct.go (by decide) (L := [(0, .ref (wad w 1)), (1, .int a1)]) rfl (Nat.le_of_ble_eq_true rfl) (fun p0 e s m args below meth c g hret => ?_)
  unfold f_X_hasRoomFor
  refine G_aload_n g (pc := 0) 0 d_X_hasRoomFor_0 rfl rfl ?_
  refine G_get g (pc := 1) fa_X_15 (hw.m 1 (Nat.le_of_ble_eq_true rfl)) (hw.k (Nat.le_of_ble_eq_true rfl) (zk1 rr)) d_X_hasRoomFor_1 ?_
  refine G_iload_n g (pc := 4) 1 d_X_hasRoomFor_4 rfl rfl ?_
  refine G_iadd g (pc := 5) d_X_hasRoomFor_5 ?_
  refine G_sipush g (pc := 6) (500 : Int32) d_X_hasRoomFor_6 rfl ?_
  refine G_icmp_gt g (pc := 9) 16 d_X_hasRoomFor_9 (by decide) ?_ ?_
  · refine G_iconst g (pc := 12) (1 : Int32) d_X_hasRoomFor_12 rfl ?_
    refine G_goto g (pc := 13) 17 d_X_hasRoomFor_13 (by decide) ?_
    exact G_zreturn g (pc := 17) true rfl hret (Nat.le_of_ble_eq_true rfl) (Nat.le_of_ble_eq_true rfl) d_X_hasRoomFor_17
  · refine G_iconst g (pc := 16) (0 : Int32) d_X_hasRoomFor_16 rfl ?_
    exact G_zreturn g (pc := 17) false rfl hret (Nat.le_of_ble_eq_true rfl) (Nat.le_of_ble_eq_true rfl) d_X_hasRoomFor_17

theorem d_X_appendFour_0 : decode b_X_appendFour 0 = .ok (.bipush 24, 2) := by decide +kernel
theorem d_X_appendFour_2 : decode b_X_appendFour 2 = .ok (.istore_n 2, 1) := by decide +kernel
theorem d_X_appendFour_3 : decode b_X_appendFour 3 = .ok (.iload_n 2, 1) := by decide +kernel
theorem d_X_appendFour_4 : decode b_X_appendFour 4 = .ok (.ifCond .lt 51, 3) := by decide +kernel
theorem d_X_appendFour_7 : decode b_X_appendFour 7 = .ok (.aload_n 0, 1) := by decide +kernel
theorem d_X_appendFour_8 : decode b_X_appendFour 8 = .ok (.getfield 15, 3) := by decide +kernel
theorem d_X_appendFour_11 : decode b_X_appendFour 11 = .ok (.ifCond .lt 38, 3) := by decide +kernel
theorem d_X_appendFour_14 : decode b_X_appendFour 14 = .ok (.aload_n 0, 1) := by decide +kernel
theorem d_X_appendFour_15 : decode b_X_appendFour 15 = .ok (.getfield 15, 3) := by decide +kernel
theorem d_X_appendFour_18 : decode b_X_appendFour 18 = .ok (.aload_n 0, 1) := by decide +kernel
theorem d_X_appendFour_19 : decode b_X_appendFour 19 = .ok (.getfield 9, 3) := by decide +kernel
theorem d_X_appendFour_22 : decode b_X_appendFour 22 = .ok (.arraylength, 1) := by decide +kernel
theorem d_X_appendFour_23 : decode b_X_appendFour 23 = .ok (.if_icmp .ge 26, 3) := by decide +kernel
theorem d_X_appendFour_26 : decode b_X_appendFour 26 = .ok (.aload_n 0, 1) := by decide +kernel
theorem d_X_appendFour_27 : decode b_X_appendFour 27 = .ok (.getfield 9, 3) := by decide +kernel
theorem d_X_appendFour_30 : decode b_X_appendFour 30 = .ok (.aload_n 0, 1) := by decide +kernel
theorem d_X_appendFour_31 : decode b_X_appendFour 31 = .ok (.getfield 15, 3) := by decide +kernel
theorem d_X_appendFour_34 : decode b_X_appendFour 34 = .ok (.iload_n 1, 1) := by decide +kernel
theorem d_X_appendFour_35 : decode b_X_appendFour 35 = .ok (.iload_n 2, 1) := by decide +kernel
theorem d_X_appendFour_36 : decode b_X_appendFour 36 = .ok (.iushr, 1) := by decide +kernel
theorem d_X_appendFour_37 : decode b_X_appendFour 37 = .ok (.i2b, 1) := by decide +kernel
theorem d_X_appendFour_38 : decode b_X_appendFour 38 = .ok (.bastore, 1) := by decide +kernel
theorem d_X_appendFour_39 : decode b_X_appendFour 39 = .ok (.aload_n 0, 1) := by decide +kernel
theorem d_X_appendFour_40 : decode b_X_appendFour 40 = .ok (.dup, 1) := by decide +kernel
theorem d_X_appendFour_41 : decode b_X_appendFour 41 = .ok (.getfield 15, 3) := by decide +kernel
theorem d_X_appendFour_44 : decode b_X_appendFour 44 = .ok (.iconst 1, 1) := by decide +kernel
theorem d_X_appendFour_45 : decode b_X_appendFour 45 = .ok (.iadd, 1) := by decide +kernel
theorem d_X_appendFour_46 : decode b_X_appendFour 46 = .ok (.putfield 15, 3) := by decide +kernel
theorem d_X_appendFour_49 : decode b_X_appendFour 49 = .ok (.iinc 2 (-8), 3) := by decide +kernel
theorem d_X_appendFour_52 : decode b_X_appendFour 52 = .ok (.goto (-49), 3) := by decide +kernel
theorem d_X_appendFour_55 : decode b_X_appendFour 55 = .ok (.return_, 1) := by decide +kernel
def lp_X_appendFour_3 (N0 rr : Nat) (a1 : Int32)  : Nat → Int32 → Mem → (Int32 → Mem → Option (Mem)) → Option (Mem)
  | 0, _, _, _ => none
  | N + 1, v3, M, k3 => if v3 < 0 then (k3 v3 M) else (if (M 1 1) < 0 then (nm (v3 + (-8 : Int32)) fun (x1 : Int32) => lp_X_appendFour_3 N0 rr a1 N x1 M k3) else (if (M 1 1) < (500 : Int32) then (grd (inB (M 1 1) 500) (nm (put M 2 (M 1 1).toNatClampNeg (vp_nar .byte (((a1.toUInt32 >>> (v3.toUInt32 &&& Int32.toUInt32 31)).toInt32).toInt8.toInt32))) fun (M2 : Mem) => nm (put M2 1 1 ((M2 1 1) + (1 : Int32))) fun (M3 : Mem) => nm (v3 + (-8 : Int32)) fun (x4 : Int32) => lp_X_appendFour_3 N0 rr a1 N x4 M3 k3)) else (nm (v3 + (-8 : Int32)) fun (x5 : Int32) => lp_X_appendFour_3 N0 rr a1 N x5 M k3)))
def f_X_appendFour (N : Nat) (rr : Nat) (a1 : Int32) (M : Mem) : Option (Mem) :=
  lp_X_appendFour_3 N rr a1 N (24 : Int32) M (fun (a7 : Int32) (M6 : Mem) => some M6)
set_option maxHeartbeats 4000000 in
set_option maxRecDepth 100000 in
theorem c_X_appendFour (l : Launch) (N : Nat) {w : Wc} {rr : Nat} (hw : WK w rr) (a1 : Int32) (M : Mem) : Ct QV l y_X_appendFour b_X_appendFour 3 none (rmL 0) w [.ref (wad w 1), .int a1] M (f_X_appendFour N rr a1 M) := by
  refine Ct.go (by decide) (L := [(0, .ref (wad w 1)), (1, .int a1)]) rfl (Nat.le_of_ble_eq_true rfl) (fun p0 e s m args below meth c g hret => ?_)
  unfold f_X_appendFour
  refine G_bipush g (pc := 0) (24 : Int32) d_X_appendFour_0 rfl ?_
  refine G_istore_n g (pc := 2) _ d_X_appendFour_2 rfl (Nat.le_of_ble_eq_true rfl) rfl ?_
  refine G_sub [1, 2, 0] _ rfl ?_
  refine G_loop (F := lp_X_appendFour_3 N rr a1) 3 55 (fun (v3 : Int32) => [(0, .ref (wad w 1)), (1, .int a1), (2, .int v3)]) (fun (v3 : Int32) => [(0, .ref (wad w 1)), (1, .int a1), (2, .int v3)]) (fun _ _ _ => rfl) (fun a7 M6 => ?_) (fun k3 hk3 Nl3 ih3 v3 M => ?_) N (24 : Int32) M
  · exact G_return g (pc := 55) hret (Nat.le_of_ble_eq_true rfl) (Nat.le_of_ble_eq_true rfl) d_X_appendFour_55
  · show Go p0 l e _ s m args below meth c w _ _ _ _ (lp_X_appendFour_3 N rr a1 (Nl3 + 1) v3 M k3) 3 _ _ M
    unfold lp_X_appendFour_3
    refine G_iload_n g (pc := 3) 2 d_X_appendFour_3 rfl rfl ?_
    refine G_if_lt g (pc := 4) 55 d_X_appendFour_4 (by decide) ?_ ?_
    · refine G_sub [0, 1, 2] _ rfl ?_
      exact hk3 v3 M
    · refine G_aload_n g (pc := 7) 0 d_X_appendFour_7 rfl rfl ?_
      refine G_get g (pc := 8) fa_X_15 (hw.m 1 (Nat.le_of_ble_eq_true rfl)) (hw.k (Nat.le_of_ble_eq_true rfl) (zk1 rr)) d_X_appendFour_8 ?_
      refine G_if_lt g (pc := 11) 49 d_X_appendFour_11 (by decide) ?_ ?_
      · refine G_nmX (v3 + (-8 : Int32)) (fun x1 e_x1 => ?_)
        refine G_iinc g (pc := 49) x1 _ 2 d_X_appendFour_49 rfl e_x1.symm (Nat.le_of_ble_eq_true rfl) rfl ?_
        refine G_goto g (pc := 52) 3 d_X_appendFour_52 (by decide) ?_
        refine G_sub [1, 2, 0] _ rfl ?_
        exact ih3 x1 M
      · refine G_aload_n g (pc := 14) 0 d_X_appendFour_14 rfl rfl ?_
        refine G_get g (pc := 15) fa_X_15 (hw.m 1 (Nat.le_of_ble_eq_true rfl)) (hw.k (Nat.le_of_ble_eq_true rfl) (zk1 rr)) d_X_appendFour_15 ?_
        refine G_aload_n g (pc := 18) 0 d_X_appendFour_18 rfl rfl ?_
        refine G_getR g (pc := 19) fa_X_9 (hw.m 1 (Nat.le_of_ble_eq_true rfl)) (hw.k (Nat.le_of_ble_eq_true rfl) (zk1 rr)) (hw.r (Nat.le_of_ble_eq_true rfl) (zr1_0 rr)) d_X_appendFour_19 ?_
        refine G_alenB g (pc := 22) (500 : Int32) (hw.m 2 (Nat.le_of_ble_eq_true rfl)) (hw.k (Nat.le_of_ble_eq_true rfl) (zk2 rr)) (by rw [(hw.n (Nat.le_of_ble_eq_true rfl) (zn2 rr))]; rfl) d_X_appendFour_22 ?_
        refine G_icmp_ge g (pc := 23) 49 d_X_appendFour_23 (by decide) ?_ ?_
        · refine G_aload_n g (pc := 26) 0 d_X_appendFour_26 rfl rfl ?_
          refine G_getR g (pc := 27) fa_X_9 (hw.m 1 (Nat.le_of_ble_eq_true rfl)) (hw.k (Nat.le_of_ble_eq_true rfl) (zk1 rr)) (hw.r (Nat.le_of_ble_eq_true rfl) (zr1_0 rr)) d_X_appendFour_27 ?_
          refine G_aload_n g (pc := 30) 0 d_X_appendFour_30 rfl rfl ?_
          refine G_get g (pc := 31) fa_X_15 (hw.m 1 (Nat.le_of_ble_eq_true rfl)) (hw.k (Nat.le_of_ble_eq_true rfl) (zk1 rr)) d_X_appendFour_31 ?_
          refine G_iload_n g (pc := 34) 1 d_X_appendFour_34 rfl rfl ?_
          refine G_iload_n g (pc := 35) 2 d_X_appendFour_35 rfl rfl ?_
          refine G_iushr g (pc := 36) d_X_appendFour_36 ?_
          refine G_i2b g (pc := 37) d_X_appendFour_37 ?_
          refine G_bast g (pc := 38) (nn := 500) (hw.m 2 (Nat.le_of_ble_eq_true rfl)) (hw.k (Nat.le_of_ble_eq_true rfl) (zk2 rr)) (hw.n (Nat.le_of_ble_eq_true rfl) (zn2 rr)) d_X_appendFour_38 ?_
          refine G_nmM (fun M2 => ?_)
          refine G_aload_n g (pc := 39) 0 d_X_appendFour_39 rfl rfl ?_
          refine G_dup g (pc := 40) d_X_appendFour_40 rfl ?_
          refine G_get g (pc := 41) fa_X_15 (hw.m 1 (Nat.le_of_ble_eq_true rfl)) (hw.k (Nat.le_of_ble_eq_true rfl) (zk1 rr)) d_X_appendFour_41 ?_
          refine G_iconst g (pc := 44) (1 : Int32) d_X_appendFour_44 rfl ?_
          refine G_iadd g (pc := 45) d_X_appendFour_45 ?_
          refine G_put g (pc := 46) fa_X_15 fw_7_1 rfl rfl (hw.m 1 (Nat.le_of_ble_eq_true rfl)) (hw.k (Nat.le_of_ble_eq_true rfl) (zk1 rr)) d_X_appendFour_46 ?_
          refine G_nmM (fun M3 => ?_)
          refine G_nmX (v3 + (-8 : Int32)) (fun x4 e_x4 => ?_)
          refine G_iinc g (pc := 49) x4 _ 2 d_X_appendFour_49 rfl e_x4.symm (Nat.le_of_ble_eq_true rfl) rfl ?_
          refine G_goto g (pc := 52) 3 d_X_appendFour_52 (by decide) ?_
          refine G_sub [1, 2, 0] _ rfl ?_
          exact ih3 x4 M3
        · refine G_nmX (v3 + (-8 : Int32)) (fun x5 e_x5 => ?_)
          refine G_iinc g (pc := 49) x5 _ 2 d_X_appendFour_49 rfl e_x5.symm (Nat.le_of_ble_eq_true rfl) rfl ?_
          refine G_goto g (pc := 52) 3 d_X_appendFour_52 (by decide) ?_
          refine G_sub [1, 2, 0] _ rfl ?_
          exact ih3 x5 M

theorem d_X_byteAt_0 : decode b_X_byteAt 0 = .ok (.iload_n 1, 1) := by decide +kernel
theorem d_X_byteAt_1 : decode b_X_byteAt 1 = .ok (.ifCond .lt 33, 3) := by decide +kernel
theorem d_X_byteAt_4 : decode b_X_byteAt 4 = .ok (.iload_n 1, 1) := by decide +kernel
theorem d_X_byteAt_5 : decode b_X_byteAt 5 = .ok (.aload_n 0, 1) := by decide +kernel
theorem d_X_byteAt_6 : decode b_X_byteAt 6 = .ok (.getfield 19, 3) := by decide +kernel
theorem d_X_byteAt_9 : decode b_X_byteAt 9 = .ok (.if_icmp .ge 25, 3) := by decide +kernel
theorem d_X_byteAt_12 : decode b_X_byteAt 12 = .ok (.iload_n 1, 1) := by decide +kernel
theorem d_X_byteAt_13 : decode b_X_byteAt 13 = .ok (.aload_n 0, 1) := by decide +kernel
theorem d_X_byteAt_14 : decode b_X_byteAt 14 = .ok (.getfield 9, 3) := by decide +kernel
theorem d_X_byteAt_17 : decode b_X_byteAt 17 = .ok (.arraylength, 1) := by decide +kernel
theorem d_X_byteAt_18 : decode b_X_byteAt 18 = .ok (.if_icmp .ge 16, 3) := by decide +kernel
theorem d_X_byteAt_21 : decode b_X_byteAt 21 = .ok (.aload_n 0, 1) := by decide +kernel
theorem d_X_byteAt_22 : decode b_X_byteAt 22 = .ok (.getfield 9, 3) := by decide +kernel
theorem d_X_byteAt_25 : decode b_X_byteAt 25 = .ok (.iload_n 1, 1) := by decide +kernel
theorem d_X_byteAt_26 : decode b_X_byteAt 26 = .ok (.baload, 1) := by decide +kernel
theorem d_X_byteAt_27 : decode b_X_byteAt 27 = .ok (.sipush 255, 3) := by decide +kernel
theorem d_X_byteAt_30 : decode b_X_byteAt 30 = .ok (.iand, 1) := by decide +kernel
theorem d_X_byteAt_31 : decode b_X_byteAt 31 = .ok (.goto 4, 3) := by decide +kernel
theorem d_X_byteAt_34 : decode b_X_byteAt 34 = .ok (.iconst (-1), 1) := by decide +kernel
theorem d_X_byteAt_35 : decode b_X_byteAt 35 = .ok (.ireturn, 1) := by decide +kernel
def f_X_byteAt (a1 : Int32) (M : Mem) : Option (Int32 × Mem) :=
  if a1 < 0 then (some ((-1 : Int32), M)) else (if a1 < (M 1 2) then (if a1 < (500 : Int32) then (grd (inB a1 500) (some ((M 2 a1.toNatClampNeg) &&& (255 : Int32), M))) else (some ((-1 : Int32), M))) else (some ((-1 : Int32), M)))
set_option maxHeartbeats 4000000 in
set_option maxRecDepth 100000 in
theorem c_X_byteAt (l : Launch) {w : Wc} {rr : Nat} (hw : WK w rr) (a1 : Int32) (M : Mem) : Ct QI l y_X_byteAt b_X_byteAt 2 (some .int) (rmL 0) w [.ref (wad w 1), .int a1] M (f_X_byteAt a1 M) := by
  refine Ct.go (by decide) (L := [(0, .ref (wad w 1)), (1, .int a1)]) rfl (Nat.le_of_ble_eq_true rfl) (fun p0 e s m args below meth c g hret => ?_)
  unfold f_X_byteAt
  refine G_iload_n g (pc := 0) 1 d_X_byteAt_0 rfl rfl ?_
  refine G_if_lt g (pc := 1) 34 d_X_byteAt_1 (by decide) ?_ ?_
  · refine G_iconst g (pc := 34) (-1 : Int32) d_X_byteAt_34 rfl ?_
    exact G_ireturn g (pc := 35) hret (Nat.le_of_ble_eq_true rfl) (Nat.le_of_ble_eq_true rfl) d_X_byteAt_35
  · refine G_iload_n g (pc := 4) 1 d_X_byteAt_4 rfl rfl ?_
    refine G_aload_n g (pc := 5) 0 d_X_byteAt_5 rfl rfl ?_
    refine G_get g (pc := 6) fa_X_19 (hw.m 1 (Nat.le_of_ble_eq_true rfl)) (hw.k (Nat.le_of_ble_eq_true rfl) (zk1 rr)) d_X_byteAt_6 ?_
    refine G_icmp_ge g (pc := 9) 34 d_X_byteAt_9 (by decide) ?_ ?_
    · refine G_iload_n g (pc := 12) 1 d_X_byteAt_12 rfl rfl ?_
      refine G_aload_n g (pc := 13) 0 d_X_byteAt_13 rfl rfl ?_
      refine G_getR g (pc := 14) fa_X_9 (hw.m 1 (Nat.le_of_ble_eq_true rfl)) (hw.k (Nat.le_of_ble_eq_true rfl) (zk1 rr)) (hw.r (Nat.le_of_ble_eq_true rfl) (zr1_0 rr)) d_X_byteAt_14 ?_
      refine G_alenB g (pc := 17) (500 : Int32) (hw.m 2 (Nat.le_of_ble_eq_true rfl)) (hw.k (Nat.le_of_ble_eq_true rfl) (zk2 rr)) (by rw [(hw.n (Nat.le_of_ble_eq_true rfl) (zn2 rr))]; rfl) d_X_byteAt_17 ?_
      refine G_icmp_ge g (pc := 18) 34 d_X_byteAt_18 (by decide) ?_ ?_
      · refine G_aload_n g (pc := 21) 0 d_X_byteAt_21 rfl rfl ?_
        refine G_getR g (pc := 22) fa_X_9 (hw.m 1 (Nat.le_of_ble_eq_true rfl)) (hw.k (Nat.le_of_ble_eq_true rfl) (zk1 rr)) (hw.r (Nat.le_of_ble_eq_true rfl) (zr1_0 rr)) d_X_byteAt_22 ?_
        refine G_iload_n g (pc := 25) 1 d_X_byteAt_25 rfl rfl ?_
        refine G_bald g (pc := 26) (nn := 500) (hw.m 2 (Nat.le_of_ble_eq_true rfl)) (hw.k (Nat.le_of_ble_eq_true rfl) (zk2 rr)) (hw.n (Nat.le_of_ble_eq_true rfl) (zn2 rr)) d_X_byteAt_26 ?_
        refine G_sipush g (pc := 27) (255 : Int32) d_X_byteAt_27 rfl ?_
        refine G_iand g (pc := 30) d_X_byteAt_30 ?_
        refine G_goto g (pc := 31) 35 d_X_byteAt_31 (by decide) ?_
        exact G_ireturn g (pc := 35) hret (Nat.le_of_ble_eq_true rfl) (Nat.le_of_ble_eq_true rfl) d_X_byteAt_35
      · refine G_iconst g (pc := 34) (-1 : Int32) d_X_byteAt_34 rfl ?_
        exact G_ireturn g (pc := 35) hret (Nat.le_of_ble_eq_true rfl) (Nat.le_of_ble_eq_true rfl) d_X_byteAt_35
    · refine G_iconst g (pc := 34) (-1 : Int32) d_X_byteAt_34 rfl ?_
      exact G_ireturn g (pc := 35) hret (Nat.le_of_ble_eq_true rfl) (Nat.le_of_ble_eq_true rfl) d_X_byteAt_35

theorem d_X_isBlank_0 : decode b_X_isBlank 0 = .ok (.iload_n 0, 1) := by decide +kernel
theorem d_X_isBlank_1 : decode b_X_isBlank 1 = .ok (.bipush 32, 2) := by decide +kernel
theorem d_X_isBlank_3 : decode b_X_isBlank 3 = .ok (.if_icmp .eq 9, 3) := by decide +kernel
theorem d_X_isBlank_6 : decode b_X_isBlank 6 = .ok (.iload_n 0, 1) := by decide +kernel
theorem d_X_isBlank_7 : decode b_X_isBlank 7 = .ok (.bipush 10, 2) := by decide +kernel
theorem d_X_isBlank_9 : decode b_X_isBlank 9 = .ok (.if_icmp .ne 7, 3) := by decide +kernel
theorem d_X_isBlank_12 : decode b_X_isBlank 12 = .ok (.iconst 1, 1) := by decide +kernel
theorem d_X_isBlank_13 : decode b_X_isBlank 13 = .ok (.goto 4, 3) := by decide +kernel
theorem d_X_isBlank_16 : decode b_X_isBlank 16 = .ok (.iconst 0, 1) := by decide +kernel
theorem d_X_isBlank_17 : decode b_X_isBlank 17 = .ok (.ireturn, 1) := by decide +kernel
def f_X_isBlank (a1 : Int32) (M : Mem) : Option (Bool × Mem) :=
  if a1 = (32 : Int32) then (some (true, M)) else (if a1 = (10 : Int32) then (some (true, M)) else (some (false, M)))
set_option maxHeartbeats 4000000 in
set_option maxRecDepth 100000 in
theorem c_X_isBlank (l : Launch) {w : Wc} {rr : Nat} (hw : WK w rr) (a1 : Int32) (M : Mem) : Ct QZ l y_X_isBlank b_X_isBlank 1 (some .boolean) (rmL 0) w [.int a1] M (f_X_isBlank a1 M) := by
  refine Ct.go (by decide) (L := [(0, .int a1)]) rfl (Nat.le_of_ble_eq_true rfl) (fun p0 e s m args below meth c g hret => ?_)
  unfold f_X_isBlank
  refine G_iload_n g (pc := 0) 0 d_X_isBlank_0 rfl rfl ?_
  refine G_bipush g (pc := 1) (32 : Int32) d_X_isBlank_1 rfl ?_
  refine G_icmp_eq g (pc := 3) 12 d_X_isBlank_3 (by decide) ?_ ?_
  · refine G_iconst g (pc := 12) (1 : Int32) d_X_isBlank_12 rfl ?_
    refine G_goto g (pc := 13) 17 d_X_isBlank_13 (by decide) ?_
    exact G_zreturn g (pc := 17) true rfl hret (Nat.le_of_ble_eq_true rfl) (Nat.le_of_ble_eq_true rfl) d_X_isBlank_17
  · refine G_iload_n g (pc := 6) 0 d_X_isBlank_6 rfl rfl ?_
    refine G_bipush g (pc := 7) (10 : Int32) d_X_isBlank_7 rfl ?_
    refine G_icmp_ne g (pc := 9) 16 d_X_isBlank_9 (by decide) ?_ ?_
    · refine G_iconst g (pc := 12) (1 : Int32) d_X_isBlank_12 rfl ?_
      refine G_goto g (pc := 13) 17 d_X_isBlank_13 (by decide) ?_
      exact G_zreturn g (pc := 17) true rfl hret (Nat.le_of_ble_eq_true rfl) (Nat.le_of_ble_eq_true rfl) d_X_isBlank_17
    · refine G_iconst g (pc := 16) (0 : Int32) d_X_isBlank_16 rfl ?_
      exact G_zreturn g (pc := 17) false rfl hret (Nat.le_of_ble_eq_true rfl) (Nat.le_of_ble_eq_true rfl) d_X_isBlank_17

theorem d_X_kindOf_0 : decode b_X_kindOf 0 = .ok (.iload_n 0, 1) := by decide +kernel
theorem d_X_kindOf_1 : decode b_X_kindOf 1 = .ok (.bipush 97, 2) := by decide +kernel
theorem d_X_kindOf_3 : decode b_X_kindOf 3 = .ok (.if_icmp .lt 11, 3) := by decide +kernel
theorem d_X_kindOf_6 : decode b_X_kindOf 6 = .ok (.iload_n 0, 1) := by decide +kernel
theorem d_X_kindOf_7 : decode b_X_kindOf 7 = .ok (.bipush 122, 2) := by decide +kernel
theorem d_X_kindOf_9 : decode b_X_kindOf 9 = .ok (.if_icmp .gt 5, 3) := by decide +kernel
theorem d_X_kindOf_12 : decode b_X_kindOf 12 = .ok (.iconst 1, 1) := by decide +kernel
theorem d_X_kindOf_13 : decode b_X_kindOf 13 = .ok (.ireturn, 1) := by decide +kernel
theorem d_X_kindOf_14 : decode b_X_kindOf 14 = .ok (.iload_n 0, 1) := by decide +kernel
theorem d_X_kindOf_15 : decode b_X_kindOf 15 = .ok (.bipush 48, 2) := by decide +kernel
theorem d_X_kindOf_17 : decode b_X_kindOf 17 = .ok (.if_icmp .lt 11, 3) := by decide +kernel
theorem d_X_kindOf_20 : decode b_X_kindOf 20 = .ok (.iload_n 0, 1) := by decide +kernel
theorem d_X_kindOf_21 : decode b_X_kindOf 21 = .ok (.bipush 57, 2) := by decide +kernel
theorem d_X_kindOf_23 : decode b_X_kindOf 23 = .ok (.if_icmp .gt 5, 3) := by decide +kernel
theorem d_X_kindOf_26 : decode b_X_kindOf 26 = .ok (.iconst 2, 1) := by decide +kernel
theorem d_X_kindOf_27 : decode b_X_kindOf 27 = .ok (.ireturn, 1) := by decide +kernel
theorem d_X_kindOf_28 : decode b_X_kindOf 28 = .ok (.iload_n 0, 1) := by decide +kernel
theorem d_X_kindOf_29 : decode b_X_kindOf 29 = .ok (.lookupswitch 51 #[(-1, 43), (40, 47), (41, 49), (59, 45)], 43) := by decide +kernel
theorem d_X_kindOf_72 : decode b_X_kindOf 72 = .ok (.iconst 0, 1) := by decide +kernel
theorem d_X_kindOf_73 : decode b_X_kindOf 73 = .ok (.ireturn, 1) := by decide +kernel
theorem d_X_kindOf_74 : decode b_X_kindOf 74 = .ok (.iconst 3, 1) := by decide +kernel
theorem d_X_kindOf_75 : decode b_X_kindOf 75 = .ok (.ireturn, 1) := by decide +kernel
theorem d_X_kindOf_76 : decode b_X_kindOf 76 = .ok (.iconst 4, 1) := by decide +kernel
theorem d_X_kindOf_77 : decode b_X_kindOf 77 = .ok (.ireturn, 1) := by decide +kernel
theorem d_X_kindOf_78 : decode b_X_kindOf 78 = .ok (.iconst 5, 1) := by decide +kernel
theorem d_X_kindOf_79 : decode b_X_kindOf 79 = .ok (.ireturn, 1) := by decide +kernel
theorem d_X_kindOf_80 : decode b_X_kindOf 80 = .ok (.bipush 6, 2) := by decide +kernel
theorem d_X_kindOf_82 : decode b_X_kindOf 82 = .ok (.ireturn, 1) := by decide +kernel
def f_X_kindOf (a1 : Int32) (M : Mem) : Option (Int32 × Mem) :=
  if a1 < (97 : Int32) then (if a1 < (48 : Int32) then (if a1 = (-1 : Int32) then (some ((0 : Int32), M)) else (if a1 = (40 : Int32) then (some ((4 : Int32), M)) else (if a1 = (41 : Int32) then (some ((5 : Int32), M)) else (if a1 = (59 : Int32) then (some ((3 : Int32), M)) else (some ((6 : Int32), M)))))) else (if a1 ≤ (57 : Int32) then (some ((2 : Int32), M)) else (if a1 = (-1 : Int32) then (some ((0 : Int32), M)) else (if a1 = (40 : Int32) then (some ((4 : Int32), M)) else (if a1 = (41 : Int32) then (some ((5 : Int32), M)) else (if a1 = (59 : Int32) then (some ((3 : Int32), M)) else (some ((6 : Int32), M)))))))) else (if a1 ≤ (122 : Int32) then (some ((1 : Int32), M)) else (if a1 < (48 : Int32) then (if a1 = (-1 : Int32) then (some ((0 : Int32), M)) else (if a1 = (40 : Int32) then (some ((4 : Int32), M)) else (if a1 = (41 : Int32) then (some ((5 : Int32), M)) else (if a1 = (59 : Int32) then (some ((3 : Int32), M)) else (some ((6 : Int32), M)))))) else (if a1 ≤ (57 : Int32) then (some ((2 : Int32), M)) else (if a1 = (-1 : Int32) then (some ((0 : Int32), M)) else (if a1 = (40 : Int32) then (some ((4 : Int32), M)) else (if a1 = (41 : Int32) then (some ((5 : Int32), M)) else (if a1 = (59 : Int32) then (some ((3 : Int32), M)) else (some ((6 : Int32), M)))))))))
set_option maxHeartbeats 4000000 in
set_option maxRecDepth 100000 in
theorem c_X_kindOf (l : Launch) {w : Wc} {rr : Nat} (hw : WK w rr) (a1 : Int32) (M : Mem) : Ct QI l y_X_kindOf b_X_kindOf 1 (some .int) (rmL 0) w [.int a1] M (f_X_kindOf a1 M) := by
  refine Ct.go (by decide) (L := [(0, .int a1)]) rfl (Nat.le_of_ble_eq_true rfl) (fun p0 e s m args below meth c g hret => ?_)
  unfold f_X_kindOf
  refine G_iload_n g (pc := 0) 0 d_X_kindOf_0 rfl rfl ?_
  refine G_bipush g (pc := 1) (97 : Int32) d_X_kindOf_1 rfl ?_
  refine G_icmp_lt g (pc := 3) 14 d_X_kindOf_3 (by decide) ?_ ?_
  · refine G_iload_n g (pc := 14) 0 d_X_kindOf_14 rfl rfl ?_
    refine G_bipush g (pc := 15) (48 : Int32) d_X_kindOf_15 rfl ?_
    refine G_icmp_lt g (pc := 17) 28 d_X_kindOf_17 (by decide) ?_ ?_
    · refine G_iload_n g (pc := 28) 0 d_X_kindOf_28 rfl rfl ?_
      refine G_case (v := (-1 : Int32)) ?_ (fun nem1 => ?_)
      · refine G_lkp g (pc := 29) (off := 43) 72 d_X_kindOf_29 (by decide) (by decide) (by decide) ?_
        refine G_iconst g (pc := 72) (0 : Int32) d_X_kindOf_72 rfl ?_
        exact G_ireturn g (pc := 73) hret (Nat.le_of_ble_eq_true rfl) (Nat.le_of_ble_eq_true rfl) d_X_kindOf_73
      refine G_case (v := (40 : Int32)) ?_ (fun ne40 => ?_)
      · refine G_lkp g (pc := 29) (off := 47) 76 d_X_kindOf_29 (by decide) (by decide) (by decide) ?_
        refine G_iconst g (pc := 76) (4 : Int32) d_X_kindOf_76 rfl ?_
        exact G_ireturn g (pc := 77) hret (Nat.le_of_ble_eq_true rfl) (Nat.le_of_ble_eq_true rfl) d_X_kindOf_77
      refine G_case (v := (41 : Int32)) ?_ (fun ne41 => ?_)
      · refine G_lkp g (pc := 29) (off := 49) 78 d_X_kindOf_29 (by decide) (by decide) (by decide) ?_
        refine G_iconst g (pc := 78) (5 : Int32) d_X_kindOf_78 rfl ?_
        exact G_ireturn g (pc := 79) hret (Nat.le_of_ble_eq_true rfl) (Nat.le_of_ble_eq_true rfl) d_X_kindOf_79
      refine G_case (v := (59 : Int32)) ?_ (fun ne59 => ?_)
      · refine G_lkp g (pc := 29) (off := 45) 74 d_X_kindOf_29 (by decide) (by decide) (by decide) ?_
        refine G_iconst g (pc := 74) (3 : Int32) d_X_kindOf_74 rfl ?_
        exact G_ireturn g (pc := 75) hret (Nat.le_of_ble_eq_true rfl) (Nat.le_of_ble_eq_true rfl) d_X_kindOf_75
      refine G_lkp g (pc := 29) (off := 51) 80 d_X_kindOf_29 (by decide) (by show Op.lookupswitch.offset [(-1, 43), (40, 47), (41, 49), (59, 45)] _ _ = _; rw [lv_osw (a := (-1)) nem1 rfl]; rw [lv_osw (a := (40)) ne40 rfl]; rw [lv_osw (a := (41)) ne41 rfl]; rw [lv_osw (a := (59)) ne59 rfl]; rfl) (by decide) ?_
      refine G_bipush g (pc := 80) (6 : Int32) d_X_kindOf_80 rfl ?_
      exact G_ireturn g (pc := 82) hret (Nat.le_of_ble_eq_true rfl) (Nat.le_of_ble_eq_true rfl) d_X_kindOf_82
    · refine G_iload_n g (pc := 20) 0 d_X_kindOf_20 rfl rfl ?_
      refine G_bipush g (pc := 21) (57 : Int32) d_X_kindOf_21 rfl ?_
      refine G_icmp_gt g (pc := 23) 28 d_X_kindOf_23 (by decide) ?_ ?_
      · refine G_iconst g (pc := 26) (2 : Int32) d_X_kindOf_26 rfl ?_
        exact G_ireturn g (pc := 27) hret (Nat.le_of_ble_eq_true rfl) (Nat.le_of_ble_eq_true rfl) d_X_kindOf_27
      · refine G_iload_n g (pc := 28) 0 d_X_kindOf_28 rfl rfl ?_
        refine G_case (v := (-1 : Int32)) ?_ (fun nem1 => ?_)
        · refine G_lkp g (pc := 29) (off := 43) 72 d_X_kindOf_29 (by decide) (by decide) (by decide) ?_
          refine G_iconst g (pc := 72) (0 : Int32) d_X_kindOf_72 rfl ?_
          exact G_ireturn g (pc := 73) hret (Nat.le_of_ble_eq_true rfl) (Nat.le_of_ble_eq_true rfl) d_X_kindOf_73
        refine G_case (v := (40 : Int32)) ?_ (fun ne40 => ?_)
        · refine G_lkp g (pc := 29) (off := 47) 76 d_X_kindOf_29 (by decide) (by decide) (by decide) ?_
          refine G_iconst g (pc := 76) (4 : Int32) d_X_kindOf_76 rfl ?_
          exact G_ireturn g (pc := 77) hret (Nat.le_of_ble_eq_true rfl) (Nat.le_of_ble_eq_true rfl) d_X_kindOf_77
        refine G_case (v := (41 : Int32)) ?_ (fun ne41 => ?_)
        · refine G_lkp g (pc := 29) (off := 49) 78 d_X_kindOf_29 (by decide) (by decide) (by decide) ?_
          refine G_iconst g (pc := 78) (5 : Int32) d_X_kindOf_78 rfl ?_
          exact G_ireturn g (pc := 79) hret (Nat.le_of_ble_eq_true rfl) (Nat.le_of_ble_eq_true rfl) d_X_kindOf_79
        refine G_case (v := (59 : Int32)) ?_ (fun ne59 => ?_)
        · refine G_lkp g (pc := 29) (off := 45) 74 d_X_kindOf_29 (by decide) (by decide) (by decide) ?_
          refine G_iconst g (pc := 74) (3 : Int32) d_X_kindOf_74 rfl ?_
          exact G_ireturn g (pc := 75) hret (Nat.le_of_ble_eq_true rfl) (Nat.le_of_ble_eq_true rfl) d_X_kindOf_75
        refine G_lkp g (pc := 29) (off := 51) 80 d_X_kindOf_29 (by decide) (by show Op.lookupswitch.offset [(-1, 43), (40, 47), (41, 49), (59, 45)] _ _ = _; rw [lv_osw (a := (-1)) nem1 rfl]; rw [lv_osw (a := (40)) ne40 rfl]; rw [lv_osw (a := (41)) ne41 rfl]; rw [lv_osw (a := (59)) ne59 rfl]; rfl) (by decide) ?_
        refine G_bipush g (pc := 80) (6 : Int32) d_X_kindOf_80 rfl ?_
        exact G_ireturn g (pc := 82) hret (Nat.le_of_ble_eq_true rfl) (Nat.le_of_ble_eq_true rfl) d_X_kindOf_82
  · refine G_iload_n g (pc := 6) 0 d_X_kindOf_6 rfl rfl ?_
    refine G_bipush g (pc := 7) (122 : Int32) d_X_kindOf_7 rfl ?_
    refine G_icmp_gt g (pc := 9) 14 d_X_kindOf_9 (by decide) ?_ ?_
    · refine G_iconst g (pc := 12) (1 : Int32) d_X_kindOf_12 rfl ?_
      exact G_ireturn g (pc := 13) hret (Nat.le_of_ble_eq_true rfl) (Nat.le_of_ble_eq_true rfl) d_X_kindOf_13
    · refine G_iload_n g (pc := 14) 0 d_X_kindOf_14 rfl rfl ?_
      refine G_bipush g (pc := 15) (48 : Int32) d_X_kindOf_15 rfl ?_
      refine G_icmp_lt g (pc := 17) 28 d_X_kindOf_17 (by decide) ?_ ?_
      · refine G_iload_n g (pc := 28) 0 d_X_kindOf_28 rfl rfl ?_
        refine G_case (v := (-1 : Int32)) ?_ (fun nem1 => ?_)
        · refine G_lkp g (pc := 29) (off := 43) 72 d_X_kindOf_29 (by decide) (by decide) (by decide) ?_
          refine G_iconst g (pc := 72) (0 : Int32) d_X_kindOf_72 rfl ?_
          exact G_ireturn g (pc := 73) hret (Nat.le_of_ble_eq_true rfl) (Nat.le_of_ble_eq_true rfl) d_X_kindOf_73
        refine G_case (v := (40 : Int32)) ?_ (fun ne40 => ?_)
        · refine G_lkp g (pc := 29) (off := 47) 76 d_X_kindOf_29 (by decide) (by decide) (by decide) ?_
          refine G_iconst g (pc := 76) (4 : Int32) d_X_kindOf_76 rfl ?_
          exact G_ireturn g (pc := 77) hret (Nat.le_of_ble_eq_true rfl) (Nat.le_of_ble_eq_true rfl) d_X_kindOf_77
        refine G_case (v := (41 : Int32)) ?_ (fun ne41 => ?_)
        · refine G_lkp g (pc := 29) (off := 49) 78 d_X_kindOf_29 (by decide) (by decide) (by decide) ?_
          refine G_iconst g (pc := 78) (5 : Int32) d_X_kindOf_78 rfl ?_
          exact G_ireturn g (pc := 79) hret (Nat.le_of_ble_eq_true rfl) (Nat.le_of_ble_eq_true rfl) d_X_kindOf_79
        refine G_case (v := (59 : Int32)) ?_ (fun ne59 => ?_)
        · refine G_lkp g (pc := 29) (off := 45) 74 d_X_kindOf_29 (by decide) (by decide) (by decide) ?_
          refine G_iconst g (pc := 74) (3 : Int32) d_X_kindOf_74 rfl ?_
          exact G_ireturn g (pc := 75) hret (Nat.le_of_ble_eq_true rfl) (Nat.le_of_ble_eq_true rfl) d_X_kindOf_75
        refine G_lkp g (pc := 29) (off := 51) 80 d_X_kindOf_29 (by decide) (by show Op.lookupswitch.offset [(-1, 43), (40, 47), (41, 49), (59, 45)] _ _ = _; rw [lv_osw (a := (-1)) nem1 rfl]; rw [lv_osw (a := (40)) ne40 rfl]; rw [lv_osw (a := (41)) ne41 rfl]; rw [lv_osw (a := (59)) ne59 rfl]; rfl) (by decide) ?_
        refine G_bipush g (pc := 80) (6 : Int32) d_X_kindOf_80 rfl ?_
        exact G_ireturn g (pc := 82) hret (Nat.le_of_ble_eq_true rfl) (Nat.le_of_ble_eq_true rfl) d_X_kindOf_82
      · refine G_iload_n g (pc := 20) 0 d_X_kindOf_20 rfl rfl ?_
        refine G_bipush g (pc := 21) (57 : Int32) d_X_kindOf_21 rfl ?_
        refine G_icmp_gt g (pc := 23) 28 d_X_kindOf_23 (by decide) ?_ ?_
        · refine G_iconst g (pc := 26) (2 : Int32) d_X_kindOf_26 rfl ?_
          exact G_ireturn g (pc := 27) hret (Nat.le_of_ble_eq_true rfl) (Nat.le_of_ble_eq_true rfl) d_X_kindOf_27
        · refine G_iload_n g (pc := 28) 0 d_X_kindOf_28 rfl rfl ?_
          refine G_case (v := (-1 : Int32)) ?_ (fun nem1 => ?_)
          · refine G_lkp g (pc := 29) (off := 43) 72 d_X_kindOf_29 (by decide) (by decide) (by decide) ?_
            refine G_iconst g (pc := 72) (0 : Int32) d_X_kindOf_72 rfl ?_
            exact G_ireturn g (pc := 73) hret (Nat.le_of_ble_eq_true rfl) (Nat.le_of_ble_eq_true rfl) d_X_kindOf_73
          refine G_case (v := (40 : Int32)) ?_ (fun ne40 => ?_)
          · refine G_lkp g (pc := 29) (off := 47) 76 d_X_kindOf_29 (by decide) (by decide) (by decide) ?_
            refine G_iconst g (pc := 76) (4 : Int32) d_X_kindOf_76 rfl ?_
            exact G_ireturn g (pc := 77) hret (Nat.le_of_ble_eq_true rfl) (Nat.le_of_ble_eq_true rfl) d_X_kindOf_77
          refine G_case (v := (41 : Int32)) ?_ (fun ne41 => ?_)
          · refine G_lkp g (pc := 29) (off := 49) 78 d_X_kindOf_29 (by decide) (by decide) (by decide) ?_
            refine G_iconst g (pc := 78) (5 : Int32) d_X_kindOf_78 rfl ?_
            exact G_ireturn g (pc := 79) hret (Nat.le_of_ble_eq_true rfl) (Nat.le_of_ble_eq_true rfl) d_X_kindOf_79
          refine G_case (v := (59 : Int32)) ?_ (fun ne59 => ?_)
          · refine G_lkp g (pc := 29) (off := 45) 74 d_X_kindOf_29 (by decide) (by decide) (by decide) ?_
            refine G_iconst g (pc := 74) (3 : Int32) d_X_kindOf_74 rfl ?_
            exact G_ireturn g (pc := 75) hret (Nat.le_of_ble_eq_true rfl) (Nat.le_of_ble_eq_true rfl) d_X_kindOf_75
          refine G_lkp g (pc := 29) (off := 51) 80 d_X_kindOf_29 (by decide) (by show Op.lookupswitch.offset [(-1, 43), (40, 47), (41, 49), (59, 45)] _ _ = _; rw [lv_osw (a := (-1)) nem1 rfl]; rw [lv_osw (a := (40)) ne40 rfl]; rw [lv_osw (a := (41)) ne41 rfl]; rw [lv_osw (a := (59)) ne59 rfl]; rfl) (by decide) ?_
          refine G_bipush g (pc := 80) (6 : Int32) d_X_kindOf_80 rfl ?_
          exact G_ireturn g (pc := 82) hret (Nat.le_of_ble_eq_true rfl) (Nat.le_of_ble_eq_true rfl) d_X_kindOf_82

theorem d_X_advance_0 : decode b_X_advance 0 = .ok (.aload_n 0, 1) := by decide +kernel
theorem d_X_advance_1 : decode b_X_advance 1 = .ok (.getfield 28, 3) := by decide +kernel
theorem d_X_advance_4 : decode b_X_advance 4 = .ok (.aload_n 0, 1) := by decide +kernel
theorem d_X_advance_5 : decode b_X_advance 5 = .ok (.getfield 19, 3) := by decide +kernel
theorem d_X_advance_8 : decode b_X_advance 8 = .ok (.if_icmp .ge 30, 3) := by decide +kernel
theorem d_X_advance_11 : decode b_X_advance 11 = .ok (.aload_n 0, 1) := by decide +kernel
theorem d_X_advance_12 : decode b_X_advance 12 = .ok (.aload_n 0, 1) := by decide +kernel
theorem d_X_advance_13 : decode b_X_advance 13 = .ok (.getfield 28, 3) := by decide +kernel
theorem d_X_advance_16 : decode b_X_advance 16 = .ok (.invokevirtual 46, 3) := by decide +kernel
theorem d_X_advance_19 : decode b_X_advance 19 = .ok (.invokestatic 50, 3) := by decide +kernel
theorem d_X_advance_22 : decode b_X_advance 22 = .ok (.ifCond .eq 16, 3) := by decide +kernel
theorem d_X_advance_25 : decode b_X_advance 25 = .ok (.aload_n 0, 1) := by decide +kernel
theorem d_X_advance_26 : decode b_X_advance 26 = .ok (.dup, 1) := by decide +kernel
theorem d_X_advance_27 : decode b_X_advance 27 = .ok (.getfield 28, 3) := by decide +kernel
theorem d_X_advance_30 : decode b_X_advance 30 = .ok (.iconst 1, 1) := by decide +kernel
theorem d_X_advance_31 : decode b_X_advance 31 = .ok (.iadd, 1) := by decide +kernel
theorem d_X_advance_32 : decode b_X_advance 32 = .ok (.putfield 28, 3) := by decide +kernel
theorem d_X_advance_35 : decode b_X_advance 35 = .ok (.goto (-35), 3) := by decide +kernel
theorem d_X_advance_38 : decode b_X_advance 38 = .ok (.aload_n 0, 1) := by decide +kernel
theorem d_X_advance_39 : decode b_X_advance 39 = .ok (.aload_n 0, 1) := by decide +kernel
theorem d_X_advance_40 : decode b_X_advance 40 = .ok (.getfield 28, 3) := by decide +kernel
theorem d_X_advance_43 : decode b_X_advance 43 = .ok (.putfield 25, 3) := by decide +kernel
theorem d_X_advance_46 : decode b_X_advance 46 = .ok (.aload_n 0, 1) := by decide +kernel
theorem d_X_advance_47 : decode b_X_advance 47 = .ok (.aload_n 0, 1) := by decide +kernel
theorem d_X_advance_48 : decode b_X_advance 48 = .ok (.aload_n 0, 1) := by decide +kernel
theorem d_X_advance_49 : decode b_X_advance 49 = .ok (.getfield 25, 3) := by decide +kernel
theorem d_X_advance_52 : decode b_X_advance 52 = .ok (.invokevirtual 46, 3) := by decide +kernel
theorem d_X_advance_55 : decode b_X_advance 55 = .ok (.invokestatic 54, 3) := by decide +kernel
theorem d_X_advance_58 : decode b_X_advance 58 = .ok (.putfield 22, 3) := by decide +kernel
theorem d_X_advance_61 : decode b_X_advance 61 = .ok (.aload_n 0, 1) := by decide +kernel
theorem d_X_advance_62 : decode b_X_advance 62 = .ok (.getfield 22, 3) := by decide +kernel
theorem d_X_advance_65 : decode b_X_advance 65 = .ok (.iconst 1, 1) := by decide +kernel
theorem d_X_advance_66 : decode b_X_advance 66 = .ok (.if_icmp .ne 42, 3) := by decide +kernel
theorem d_X_advance_69 : decode b_X_advance 69 = .ok (.aload_n 0, 1) := by decide +kernel
theorem d_X_advance_70 : decode b_X_advance 70 = .ok (.getfield 28, 3) := by decide +kernel
theorem d_X_advance_73 : decode b_X_advance 73 = .ok (.aload_n 0, 1) := by decide +kernel
theorem d_X_advance_74 : decode b_X_advance 74 = .ok (.getfield 19, 3) := by decide +kernel
theorem d_X_advance_77 : decode b_X_advance 77 = .ok (.if_icmp .ge 128, 3) := by decide +kernel
theorem d_X_advance_80 : decode b_X_advance 80 = .ok (.aload_n 0, 1) := by decide +kernel
theorem d_X_advance_81 : decode b_X_advance 81 = .ok (.aload_n 0, 1) := by decide +kernel
theorem d_X_advance_82 : decode b_X_advance 82 = .ok (.getfield 28, 3) := by decide +kernel
theorem d_X_advance_85 : decode b_X_advance 85 = .ok (.invokevirtual 46, 3) := by decide +kernel
theorem d_X_advance_88 : decode b_X_advance 88 = .ok (.invokestatic 54, 3) := by decide +kernel
theorem d_X_advance_91 : decode b_X_advance 91 = .ok (.iconst 1, 1) := by decide +kernel
theorem d_X_advance_92 : decode b_X_advance 92 = .ok (.if_icmp .ne 113, 3) := by decide +kernel
theorem d_X_advance_95 : decode b_X_advance 95 = .ok (.aload_n 0, 1) := by decide +kernel
theorem d_X_advance_96 : decode b_X_advance 96 = .ok (.dup, 1) := by decide +kernel
theorem d_X_advance_97 : decode b_X_advance 97 = .ok (.getfield 28, 3) := by decide +kernel
theorem d_X_advance_100 : decode b_X_advance 100 = .ok (.iconst 1, 1) := by decide +kernel
theorem d_X_advance_101 : decode b_X_advance 101 = .ok (.iadd, 1) := by decide +kernel
theorem d_X_advance_102 : decode b_X_advance 102 = .ok (.putfield 28, 3) := by decide +kernel
theorem d_X_advance_105 : decode b_X_advance 105 = .ok (.goto (-36), 3) := by decide +kernel
theorem d_X_advance_108 : decode b_X_advance 108 = .ok (.aload_n 0, 1) := by decide +kernel
theorem d_X_advance_109 : decode b_X_advance 109 = .ok (.getfield 22, 3) := by decide +kernel
theorem d_X_advance_112 : decode b_X_advance 112 = .ok (.iconst 2, 1) := by decide +kernel
theorem d_X_advance_113 : decode b_X_advance 113 = .ok (.if_icmp .ne 75, 3) := by decide +kernel
theorem d_X_advance_116 : decode b_X_advance 116 = .ok (.aload_n 0, 1) := by decide +kernel
theorem d_X_advance_117 : decode b_X_advance 117 = .ok (.iconst 0, 1) := by decide +kernel
theorem d_X_advance_118 : decode b_X_advance 118 = .ok (.putfield 31, 3) := by decide +kernel
theorem d_X_advance_121 : decode b_X_advance 121 = .ok (.aload_n 0, 1) := by decide +kernel
theorem d_X_advance_122 : decode b_X_advance 122 = .ok (.getfield 28, 3) := by decide +kernel
theorem d_X_advance_125 : decode b_X_advance 125 = .ok (.aload_n 0, 1) := by decide +kernel
theorem d_X_advance_126 : decode b_X_advance 126 = .ok (.getfield 19, 3) := by decide +kernel
theorem d_X_advance_129 : decode b_X_advance 129 = .ok (.if_icmp .ge 76, 3) := by decide +kernel
theorem d_X_advance_132 : decode b_X_advance 132 = .ok (.aload_n 0, 1) := by decide +kernel
theorem d_X_advance_133 : decode b_X_advance 133 = .ok (.aload_n 0, 1) := by decide +kernel
theorem d_X_advance_134 : decode b_X_advance 134 = .ok (.getfield 28, 3) := by decide +kernel
theorem d_X_advance_137 : decode b_X_advance 137 = .ok (.invokevirtual 46, 3) := by decide +kernel
theorem d_X_advance_140 : decode b_X_advance 140 = .ok (.invokestatic 54, 3) := by decide +kernel
theorem d_X_advance_143 : decode b_X_advance 143 = .ok (.iconst 2, 1) := by decide +kernel
theorem d_X_advance_144 : decode b_X_advance 144 = .ok (.if_icmp .ne 61, 3) := by decide +kernel
theorem d_X_advance_147 : decode b_X_advance 147 = .ok (.aload_n 0, 1) := by decide +kernel
theorem d_X_advance_148 : decode b_X_advance 148 = .ok (.aload_n 0, 1) := by decide +kernel
theorem d_X_advance_149 : decode b_X_advance 149 = .ok (.getfield 31, 3) := by decide +kernel
theorem d_X_advance_152 : decode b_X_advance 152 = .ok (.bipush 10, 2) := by decide +kernel
theorem d_X_advance_154 : decode b_X_advance 154 = .ok (.imul, 1) := by decide +kernel
theorem d_X_advance_155 : decode b_X_advance 155 = .ok (.aload_n 0, 1) := by decide +kernel
theorem d_X_advance_156 : decode b_X_advance 156 = .ok (.aload_n 0, 1) := by decide +kernel
theorem d_X_advance_157 : decode b_X_advance 157 = .ok (.getfield 28, 3) := by decide +kernel
theorem d_X_advance_160 : decode b_X_advance 160 = .ok (.invokevirtual 46, 3) := by decide +kernel
theorem d_X_advance_163 : decode b_X_advance 163 = .ok (.iadd, 1) := by decide +kernel
theorem d_X_advance_164 : decode b_X_advance 164 = .ok (.bipush 48, 2) := by decide +kernel
theorem d_X_advance_166 : decode b_X_advance 166 = .ok (.isub, 1) := by decide +kernel
theorem d_X_advance_167 : decode b_X_advance 167 = .ok (.ldc 57, 2) := by decide +kernel
theorem d_X_advance_169 : decode b_X_advance 169 = .ok (.invokestatic 58, 3) := by decide +kernel
theorem d_X_advance_172 : decode b_X_advance 172 = .ok (.putfield 31, 3) := by decide +kernel
theorem d_X_advance_175 : decode b_X_advance 175 = .ok (.aload_n 0, 1) := by decide +kernel
theorem d_X_advance_176 : decode b_X_advance 176 = .ok (.dup, 1) := by decide +kernel
theorem d_X_advance_177 : decode b_X_advance 177 = .ok (.getfield 28, 3) := by decide +kernel
theorem d_X_advance_180 : decode b_X_advance 180 = .ok (.iconst 1, 1) := by decide +kernel
theorem d_X_advance_181 : decode b_X_advance 181 = .ok (.iadd, 1) := by decide +kernel
theorem d_X_advance_182 : decode b_X_advance 182 = .ok (.putfield 28, 3) := by decide +kernel
theorem d_X_advance_185 : decode b_X_advance 185 = .ok (.goto (-64), 3) := by decide +kernel
theorem d_X_advance_188 : decode b_X_advance 188 = .ok (.aload_n 0, 1) := by decide +kernel
theorem d_X_advance_189 : decode b_X_advance 189 = .ok (.getfield 22, 3) := by decide +kernel
theorem d_X_advance_192 : decode b_X_advance 192 = .ok (.ifCond .eq 13, 3) := by decide +kernel
theorem d_X_advance_195 : decode b_X_advance 195 = .ok (.aload_n 0, 1) := by decide +kernel
theorem d_X_advance_196 : decode b_X_advance 196 = .ok (.dup, 1) := by decide +kernel
theorem d_X_advance_197 : decode b_X_advance 197 = .ok (.getfield 28, 3) := by decide +kernel
theorem d_X_advance_200 : decode b_X_advance 200 = .ok (.iconst 1, 1) := by decide +kernel
theorem d_X_advance_201 : decode b_X_advance 201 = .ok (.iadd, 1) := by decide +kernel
theorem d_X_advance_202 : decode b_X_advance 202 = .ok (.putfield 28, 3) := by decide +kernel
theorem d_X_advance_205 : decode b_X_advance 205 = .ok (.return_, 1) := by decide +kernel
theorem cc_X_46 : CV "KiteLogger$TextReader" 46 y_X_byteAt b_X_byteAt 2 (some .int) 1 := ⟨TT_in (i := 489) (by decide +kernel) (by decide +kernel), TT_in (i := 491) (by decide +kernel) (by decide +kernel), TT_in (i := 2) (by decide +kernel) (by decide +kernel), TT_in (i := 19) (by decide +kernel) (by decide +kernel), TT_in (i := 492) (by decide +kernel) (by decide +kernel), ⟨by decide +kernel, by decide +kernel, by decide +kernel⟩⟩
theorem cc_X_50 : CS "KiteLogger$TextReader" 50 y_X_isBlank b_X_isBlank 1 (some .boolean) 1 := ⟨TT_in (i := 493) (by decide +kernel) (by decide +kernel), TT_in (i := 494) (by decide +kernel) (by decide +kernel), TT_in (i := 19) (by decide +kernel) (by decide +kernel), TT_in (i := 495) (by decide +kernel) (by decide +kernel), ⟨by decide +kernel, by decide +kernel, by decide +kernel⟩⟩
theorem cc_X_54 : CS "KiteLogger$TextReader" 54 y_X_kindOf b_X_kindOf 1 (some .int) 1 := ⟨TT_in (i := 496) (by decide +kernel) (by decide +kernel), TT_in (i := 497) (by decide +kernel) (by decide +kernel), TT_in (i := 19) (by decide +kernel) (by decide +kernel), TT_in (i := 498) (by decide +kernel) (by decide +kernel), ⟨by decide +kernel, by decide +kernel, by decide +kernel⟩⟩
theorem ma_X_58 : Cond.methodLink "KiteLogger$TextReader" 58 Lib.Math.min.name ∈ TT ∧ Cond.static Lib.Math.min.name ∈ TT ∧ Cond.initialized "java/lang/Math" ∈ TT ∧ Cond.code Lib.Math.min.name Lib.Math.min.code 2 (some .int) ∈ TT := ⟨TT_in (i := 500) (by decide +kernel) (by decide +kernel), TT_in (i := 107) (by decide +kernel) (by decide +kernel), TT_in (i := 21) (by decide +kernel) (by decide +kernel), TT_in (i := 108) (by decide +kernel) (by decide +kernel)⟩
def lp_X_advance_0 (N0 rr : Nat)   : Nat → Unit → Mem → (Unit → Mem → Option (Mem)) → Option (Mem)
  | 0, _, _, _ => none
  | N + 1, v0, M, k0 => if (M 1 5) < (M 1 2) then (bnd (f_X_byteAt (M 1 5) M) fun (x1 : Int32) (M2 : Mem) => bnd (f_X_isBlank x1 M2) fun (x3 : Bool) (M4 : Mem) => if x3 = true then (nm (put M4 1 5 ((M4 1 5) + (1 : Int32))) fun (M5 : Mem) => lp_X_advance_0 N0 rr N () M5 k0) else (k0 () M4)) else (k0 () M)
def lp_X_advance_69 (N0 rr : Nat)   : Nat → Unit → Mem → (Unit → Mem → Option (Mem)) → Option (Mem)
  | 0, _, _, _ => none
  | N + 1, v69, M, k69 => if (M 1 5) < (M 1 2) then (bnd (f_X_byteAt (M 1 5) M) fun (x14 : Int32) (M15 : Mem) => bnd (f_X_kindOf x14 M15) fun (x16 : Int32) (M17 : Mem) => if x16 = (1 : Int32) then (nm (put M17 1 5 ((M17 1 5) + (1 : Int32))) fun (M18 : Mem) => lp_X_advance_69 N0 rr N () M18 k69) else (k69 () M17)) else (k69 () M)
def lp_X_advance_121 (N0 rr : Nat)   : Nat → Unit → Mem → (Unit → Mem → Option (Mem)) → Option (Mem)
  | 0, _, _, _ => none
  | N + 1, v121, M, k121 => if (M 1 5) < (M 1 2) then (bnd (f_X_byteAt (M 1 5) M) fun (x22 : Int32) (M23 : Mem) => bnd (f_X_kindOf x22 M23) fun (x24 : Int32) (M25 : Mem) => if x24 = (2 : Int32) then (bnd (f_X_byteAt (M25 1 5) M25) fun (x26 : Int32) (M27 : Mem) => nm (put M27 1 6 (imin ((((M25 1 6) * (10 : Int32)) + x26) - (48 : Int32)) (1000000 : Int32))) fun (M28 : Mem) => nm (put M28 1 5 ((M28 1 5) + (1 : Int32))) fun (M29 : Mem) => lp_X_advance_121 N0 rr N () M29 k121) else (k121 () M25)) else (k121 () M)
def f_X_advance (N : Nat) (rr : Nat) (M : Mem) : Option (Mem) :=
  lp_X_advance_0 N rr N () M (fun (a7 : Unit) (M6 : Mem) => nm (put M6 1 4 (M6 1 5)) fun (M8 : Mem) => bnd (f_X_byteAt (M8 1 4) M8) fun (x9 : Int32) (M10 : Mem) => bnd (f_X_kindOf x9 M10) fun (x11 : Int32) (M12 : Mem) => nm (put M12 1 3 x11) fun (M13 : Mem) => if (M13 1 3) = (1 : Int32) then (lp_X_advance_69 N rr N () M13 (fun (a20 : Unit) (M19 : Mem) => some M19)) else (if (M13 1 3) = (2 : Int32) then (nm (put M13 1 6 (0 : Int32)) fun (M21 : Mem) => lp_X_advance_121 N rr N () M21 (fun (a31 : Unit) (M30 : Mem) => some M30)) else (if (M13 1 3) = 0 then (some M13) else (nm (put M13 1 5 ((M13 1 5) + (1 : Int32))) fun (M32 : Mem) => some M32))))
set_option maxHeartbeats 4000000 in
set_option maxRecDepth 100000 in
theorem c_X_advance (l : Launch) (N : Nat) {w : Wc} {rr : Nat} (hw : WK w rr)  (M : Mem) : Ct QV l y_X_advance b_X_advance 1 none (rmL 1) w [.ref (wad w 1)] M (f_X_advance N rr M) := by
  refine Ct.go (by decide) (L := [(0, .ref (wad w 1))]) rfl (Nat.le_of_ble_eq_true rfl) (fun p0 e s m args below meth c g hret => ?_)
  unfold f_X_advance
  refine G_sub [0] _ rfl ?_
  refine G_loop (F := lp_X_advance_0 N rr) 0 38 (fun (v0 : Unit) => [(0, .ref (wad w 1))]) (fun (v0 : Unit) => [(0, .ref (wad w 1))]) (fun _ _ _ => rfl) (fun a7 M6 => ?_) (fun k0 hk0 Nl0 ih0 v0 M => ?_) N () M
  · refine G_aload_n g (pc := 38) 0 d_X_advance_38 rfl rfl ?_
    refine G_aload_n g (pc := 39) 0 d_X_advance_39 rfl rfl ?_
    refine G_get g (pc := 40) fa_X_28 (hw.m 1 (Nat.le_of_ble_eq_true rfl)) (hw.k (Nat.le_of_ble_eq_true rfl) (zk1 rr)) d_X_advance_40 ?_
    refine G_put g (pc := 43) fa_X_25 fw_7_4 rfl rfl (hw.m 1 (Nat.le_of_ble_eq_true rfl)) (hw.k (Nat.le_of_ble_eq_true rfl) (zk1 rr)) d_X_advance_43 ?_
    refine G_nmM (fun M8 => ?_)
    refine G_aload_n g (pc := 46) 0 d_X_advance_46 rfl rfl ?_
    refine G_aload_n g (pc := 47) 0 d_X_advance_47 rfl rfl ?_
    refine G_aload_n g (pc := 48) 0 d_X_advance_48 rfl rfl ?_
    refine G_get g (pc := 49) fa_X_25 (hw.m 1 (Nat.le_of_ble_eq_true rfl)) (hw.k (Nat.le_of_ble_eq_true rfl) (zk1 rr)) d_X_advance_49 ?_
    refine G_cVI g (pc := 52) (As := [.int (M8 1 4)]) (st := [.ref (wad w 1)]) cc_X_46 (c_X_byteAt l hw (M8 1 4) M8) (hw.m 1 (Nat.le_of_ble_eq_true rfl)) (hw.k (Nat.le_of_ble_eq_true rfl) (zk1 rr)) rfl (by decide) rfl ⟨(Nat.le_of_ble_eq_true rfl), (Nat.le_of_ble_eq_true rfl)⟩ ⟨(Nat.le_of_ble_eq_true rfl), (Nat.le_of_ble_eq_true rfl)⟩ (Nat.le_of_ble_eq_true rfl) d_X_advance_52 (fun x9 M10 => ?_)
    refine G_cSI g (pc := 55) (As := [.int x9]) (st := [.ref (wad w 1)]) cc_X_54 (c_X_kindOf l hw x9 M10) rfl ⟨(Nat.le_of_ble_eq_true rfl), (Nat.le_of_ble_eq_true rfl)⟩ ⟨(Nat.le_of_ble_eq_true rfl), (Nat.le_of_ble_eq_true rfl)⟩ (Nat.le_of_ble_eq_true rfl) d_X_advance_55 (fun x11 M12 => ?_)
    refine G_put g (pc := 58) fa_X_22 fw_7_3 rfl rfl (hw.m 1 (Nat.le_of_ble_eq_true rfl)) (hw.k (Nat.le_of_ble_eq_true rfl) (zk1 rr)) d_X_advance_58 ?_
    refine G_nmM (fun M13 => ?_)
    refine G_aload_n g (pc := 61) 0 d_X_advance_61 rfl rfl ?_
    refine G_get g (pc := 62) fa_X_22 (hw.m 1 (Nat.le_of_ble_eq_true rfl)) (hw.k (Nat.le_of_ble_eq_true rfl) (zk1 rr)) d_X_advance_62 ?_
    refine G_iconst g (pc := 65) (1 : Int32) d_X_advance_65 rfl ?_
    refine G_icmp_ne g (pc := 66) 108 d_X_advance_66 (by decide) ?_ ?_
    · refine G_sub [0] _ rfl ?_
      refine G_loop (F := lp_X_advance_69 N rr) 69 205 (fun (v69 : Unit) => [(0, .ref (wad w 1))]) (fun (v69 : Unit) => [(0, .ref (wad w 1))]) (fun _ _ _ => rfl) (fun a20 M19 => ?_) (fun k69 hk69 Nl69 ih69 v69 M => ?_) N () M13
      · exact G_return g (pc := 205) hret (Nat.le_of_ble_eq_true rfl) (Nat.le_of_ble_eq_true rfl) d_X_advance_205
      · show Go p0 l e _ s m args below meth c w _ _ _ _ (lp_X_advance_69 N rr (Nl69 + 1) v69 M k69) 69 _ _ M
        unfold lp_X_advance_69
        refine G_aload_n g (pc := 69) 0 d_X_advance_69 rfl rfl ?_
        refine G_get g (pc := 70) fa_X_28 (hw.m 1 (Nat.le_of_ble_eq_true rfl)) (hw.k (Nat.le_of_ble_eq_true rfl) (zk1 rr)) d_X_advance_70 ?_
        refine G_aload_n g (pc := 73) 0 d_X_advance_73 rfl rfl ?_
        refine G_get g (pc := 74) fa_X_19 (hw.m 1 (Nat.le_of_ble_eq_true rfl)) (hw.k (Nat.le_of_ble_eq_true rfl) (zk1 rr)) d_X_advance_74 ?_
        refine G_icmp_ge g (pc := 77) 205 d_X_advance_77 (by decide) ?_ ?_
        · refine G_aload_n g (pc := 80) 0 d_X_advance_80 rfl rfl ?_
          refine G_aload_n g (pc := 81) 0 d_X_advance_81 rfl rfl ?_
          refine G_get g (pc := 82) fa_X_28 (hw.m 1 (Nat.le_of_ble_eq_true rfl)) (hw.k (Nat.le_of_ble_eq_true rfl) (zk1 rr)) d_X_advance_82 ?_
          refine G_cVI g (pc := 85) (As := [.int (M 1 5)]) (st := []) cc_X_46 (c_X_byteAt l hw (M 1 5) M) (hw.m 1 (Nat.le_of_ble_eq_true rfl)) (hw.k (Nat.le_of_ble_eq_true rfl) (zk1 rr)) rfl (by decide) rfl ⟨(Nat.le_of_ble_eq_true rfl), (Nat.le_of_ble_eq_true rfl)⟩ ⟨(Nat.le_of_ble_eq_true rfl), (Nat.le_of_ble_eq_true rfl)⟩ (Nat.le_of_ble_eq_true rfl) d_X_advance_85 (fun x14 M15 => ?_)
          refine G_cSI g (pc := 88) (As := [.int x14]) (st := []) cc_X_54 (c_X_kindOf l hw x14 M15) rfl ⟨(Nat.le_of_ble_eq_true rfl), (Nat.le_of_ble_eq_true rfl)⟩ ⟨(Nat.le_of_ble_eq_true rfl), (Nat.le_of_ble_eq_true rfl)⟩ (Nat.le_of_ble_eq_true rfl) d_X_advance_88 (fun x16 M17 => ?_)
          refine G_iconst g (pc := 91) (1 : Int32) d_X_advance_91 rfl ?_
          refine G_icmp_ne g (pc := 92) 205 d_X_advance_92 (by decide) ?_ ?_
          · refine G_aload_n g (pc := 95) 0 d_X_advance_95 rfl rfl ?_
            refine G_dup g (pc := 96) d_X_advance_96 rfl ?_
            refine G_get g (pc := 97) fa_X_28 (hw.m 1 (Nat.le_of_ble_eq_true rfl)) (hw.k (Nat.le_of_ble_eq_true rfl) (zk1 rr)) d_X_advance_97 ?_
            refine G_iconst g (pc := 100) (1 : Int32) d_X_advance_100 rfl ?_
            refine G_iadd g (pc := 101) d_X_advance_101 ?_
            refine G_put g (pc := 102) fa_X_28 fw_7_5 rfl rfl (hw.m 1 (Nat.le_of_ble_eq_true rfl)) (hw.k (Nat.le_of_ble_eq_true rfl) (zk1 rr)) d_X_advance_102 ?_
            refine G_nmM (fun M18 => ?_)
            refine G_goto g (pc := 105) 69 d_X_advance_105 (by decide) ?_
            refine G_sub [0] _ rfl ?_
            exact ih69 () M18
          · refine G_sub [0] _ rfl ?_
            exact hk69 () M17
        · refine G_sub [0] _ rfl ?_
          exact hk69 () M
    · refine G_aload_n g (pc := 108) 0 d_X_advance_108 rfl rfl ?_
      refine G_get g (pc := 109) fa_X_22 (hw.m 1 (Nat.le_of_ble_eq_true rfl)) (hw.k (Nat.le_of_ble_eq_true rfl) (zk1 rr)) d_X_advance_109 ?_
      refine G_iconst g (pc := 112) (2 : Int32) d_X_advance_112 rfl ?_
      refine G_icmp_ne g (pc := 113) 188 d_X_advance_113 (by decide) ?_ ?_
      · refine G_aload_n g (pc := 116) 0 d_X_advance_116 rfl rfl ?_
        refine G_iconst g (pc := 117) (0 : Int32) d_X_advance_117 rfl ?_
        refine G_put g (pc := 118) fa_X_31 fw_7_6 rfl rfl (hw.m 1 (Nat.le_of_ble_eq_true rfl)) (hw.k (Nat.le_of_ble_eq_true rfl) (zk1 rr)) d_X_advance_118 ?_
        refine G_nmM (fun M21 => ?_)
        refine G_sub [0] _ rfl ?_
        refine G_loop (F := lp_X_advance_121 N rr) 121 205 (fun (v121 : Unit) => [(0, .ref (wad w 1))]) (fun (v121 : Unit) => [(0, .ref (wad w 1))]) (fun _ _ _ => rfl) (fun a31 M30 => ?_) (fun k121 hk121 Nl121 ih121 v121 M => ?_) N () M21
        · exact G_return g (pc := 205) hret (Nat.le_of_ble_eq_true rfl) (Nat.le_of_ble_eq_true rfl) d_X_advance_205
        · show Go p0 l e _ s m args below meth c w _ _ _ _ (lp_X_advance_121 N rr (Nl121 + 1) v121 M k121) 121 _ _ M
          unfold lp_X_advance_121
          refine G_aload_n g (pc := 121) 0 d_X_advance_121 rfl rfl ?_
          refine G_get g (pc := 122) fa_X_28 (hw.m 1 (Nat.le_of_ble_eq_true rfl)) (hw.k (Nat.le_of_ble_eq_true rfl) (zk1 rr)) d_X_advance_122 ?_
          refine G_aload_n g (pc := 125) 0 d_X_advance_125 rfl rfl ?_
          refine G_get g (pc := 126) fa_X_19 (hw.m 1 (Nat.le_of_ble_eq_true rfl)) (hw.k (Nat.le_of_ble_eq_true rfl) (zk1 rr)) d_X_advance_126 ?_
          refine G_icmp_ge g (pc := 129) 205 d_X_advance_129 (by decide) ?_ ?_
          · refine G_aload_n g (pc := 132) 0 d_X_advance_132 rfl rfl ?_
            refine G_aload_n g (pc := 133) 0 d_X_advance_133 rfl rfl ?_
            refine G_get g (pc := 134) fa_X_28 (hw.m 1 (Nat.le_of_ble_eq_true rfl)) (hw.k (Nat.le_of_ble_eq_true rfl) (zk1 rr)) d_X_advance_134 ?_
            refine G_cVI g (pc := 137) (As := [.int (M 1 5)]) (st := []) cc_X_46 (c_X_byteAt l hw (M 1 5) M) (hw.m 1 (Nat.le_of_ble_eq_true rfl)) (hw.k (Nat.le_of_ble_eq_true rfl) (zk1 rr)) rfl (by decide) rfl ⟨(Nat.le_of_ble_eq_true rfl), (Nat.le_of_ble_eq_true rfl)⟩ ⟨(Nat.le_of_ble_eq_true rfl), (Nat.le_of_ble_eq_true rfl)⟩ (Nat.le_of_ble_eq_true rfl) d_X_advance_137 (fun x22 M23 => ?_)
            refine G_cSI g (pc := 140) (As := [.int x22]) (st := []) cc_X_54 (c_X_kindOf l hw x22 M23) rfl ⟨(Nat.le_of_ble_eq_true rfl), (Nat.le_of_ble_eq_true rfl)⟩ ⟨(Nat.le_of_ble_eq_true rfl), (Nat.le_of_ble_eq_true rfl)⟩ (Nat.le_of_ble_eq_true rfl) d_X_advance_140 (fun x24 M25 => ?_)
            refine G_iconst g (pc := 143) (2 : Int32) d_X_advance_143 rfl ?_
            refine G_icmp_ne g (pc := 144) 205 d_X_advance_144 (by decide) ?_ ?_
            · refine G_aload_n g (pc := 147) 0 d_X_advance_147 rfl rfl ?_
              refine G_aload_n g (pc := 148) 0 d_X_advance_148 rfl rfl ?_
              refine G_get g (pc := 149) fa_X_31 (hw.m 1 (Nat.le_of_ble_eq_true rfl)) (hw.k (Nat.le_of_ble_eq_true rfl) (zk1 rr)) d_X_advance_149 ?_
              refine G_bipush g (pc := 152) (10 : Int32) d_X_advance_152 rfl ?_
              refine G_imul g (pc := 154) d_X_advance_154 ?_
              refine G_aload_n g (pc := 155) 0 d_X_advance_155 rfl rfl ?_
              refine G_aload_n g (pc := 156) 0 d_X_advance_156 rfl rfl ?_
              refine G_get g (pc := 157) fa_X_28 (hw.m 1 (Nat.le_of_ble_eq_true rfl)) (hw.k (Nat.le_of_ble_eq_true rfl) (zk1 rr)) d_X_advance_157 ?_
              refine G_cVI g (pc := 160) (As := [.int (M25 1 5)]) (st := [.int ((M25 1 6) * (10 : Int32)), .ref (wad w 1)]) cc_X_46 (c_X_byteAt l hw (M25 1 5) M25) (hw.m 1 (Nat.le_of_ble_eq_true rfl)) (hw.k (Nat.le_of_ble_eq_true rfl) (zk1 rr)) rfl (by decide) rfl ⟨(Nat.le_of_ble_eq_true rfl), (Nat.le_of_ble_eq_true rfl)⟩ ⟨(Nat.le_of_ble_eq_true rfl), (Nat.le_of_ble_eq_true rfl)⟩ (Nat.le_of_ble_eq_true rfl) d_X_advance_160 (fun x26 M27 => ?_)
              refine G_iadd g (pc := 163) d_X_advance_163 ?_
              refine G_bipush g (pc := 164) (48 : Int32) d_X_advance_164 rfl ?_
              refine G_isub g (pc := 166) d_X_advance_166 ?_
              refine G_ldcI g (pc := 167) (own := "KiteLogger$TextReader") (v := (1000000 : Int32)) (TT_in (i := 499) (by decide +kernel) (by decide +kernel)) d_X_advance_167 ?_
              refine G_mmin g (pc := 169) ma_X_58 ⟨(Nat.le_of_ble_eq_true rfl), (Nat.le_of_ble_eq_true rfl), (Nat.le_of_ble_eq_true rfl), (Nat.le_of_ble_eq_true rfl)⟩ d_X_advance_169 ?_
              refine G_put g (pc := 172) fa_X_31 fw_7_6 rfl rfl (hw.m 1 (Nat.le_of_ble_eq_true rfl)) (hw.k (Nat.le_of_ble_eq_true rfl) (zk1 rr)) d_X_advance_172 ?_
              refine G_nmM (fun M28 => ?_)
              refine G_aload_n g (pc := 175) 0 d_X_advance_175 rfl rfl ?_
              refine G_dup g (pc := 176) d_X_advance_176 rfl ?_
              refine G_get g (pc := 177) fa_X_28 (hw.m 1 (Nat.le_of_ble_eq_true rfl)) (hw.k (Nat.le_of_ble_eq_true rfl) (zk1 rr)) d_X_advance_177 ?_
              refine G_iconst g (pc := 180) (1 : Int32) d_X_advance_180 rfl ?_
              refine G_iadd g (pc := 181) d_X_advance_181 ?_
              refine G_put g (pc := 182) fa_X_28 fw_7_5 rfl rfl (hw.m 1 (Nat.le_of_ble_eq_true rfl)) (hw.k (Nat.le_of_ble_eq_true rfl) (zk1 rr)) d_X_advance_182 ?_
              refine G_nmM (fun M29 => ?_)
              refine G_goto g (pc := 185) 121 d_X_advance_185 (by decide) ?_
              refine G_sub [0] _ rfl ?_
              exact ih121 () M29
            · refine G_sub [0] _ rfl ?_
              exact hk121 () M25
          · refine G_sub [0] _ rfl ?_
            exact hk121 () M
      · refine G_aload_n g (pc := 188) 0 d_X_advance_188 rfl rfl ?_
        refine G_get g (pc := 189) fa_X_22 (hw.m 1 (Nat.le_of_ble_eq_true rfl)) (hw.k (Nat.le_of_ble_eq_true rfl) (zk1 rr)) d_X_advance_189 ?_
        refine G_if_eq g (pc := 192) 205 d_X_advance_192 (by decide) ?_ ?_
        · exact G_return g (pc := 205) hret (Nat.le_of_ble_eq_true rfl) (Nat.le_of_ble_eq_true rfl) d_X_advance_205
        · refine G_aload_n g (pc := 195) 0 d_X_advance_195 rfl rfl ?_
          refine G_dup g (pc := 196) d_X_advance_196 rfl ?_
          refine G_get g (pc := 197) fa_X_28 (hw.m 1 (Nat.le_of_ble_eq_true rfl)) (hw.k (Nat.le_of_ble_eq_true rfl) (zk1 rr)) d_X_advance_197 ?_
          refine G_iconst g (pc := 200) (1 : Int32) d_X_advance_200 rfl ?_
          refine G_iadd g (pc := 201) d_X_advance_201 ?_
          refine G_put g (pc := 202) fa_X_28 fw_7_5 rfl rfl (hw.m 1 (Nat.le_of_ble_eq_true rfl)) (hw.k (Nat.le_of_ble_eq_true rfl) (zk1 rr)) d_X_advance_202 ?_
          refine G_nmM (fun M32 => ?_)
          exact G_return g (pc := 205) hret (Nat.le_of_ble_eq_true rfl) (Nat.le_of_ble_eq_true rfl) d_X_advance_205
  · show Go p0 l e _ s m args below meth c w _ _ _ _ (lp_X_advance_0 N rr (Nl0 + 1) v0 M k0) 0 _ _ M
    unfold lp_X_advance_0
    refine G_aload_n g (pc := 0) 0 d_X_advance_0 rfl rfl ?_
    refine G_get g (pc := 1) fa_X_28 (hw.m 1 (Nat.le_of_ble_eq_true rfl)) (hw.k (Nat.le_of_ble_eq_true rfl) (zk1 rr)) d_X_advance_1 ?_
    refine G_aload_n g (pc := 4) 0 d_X_advance_4 rfl rfl ?_
    refine G_get g (pc := 5) fa_X_19 (hw.m 1 (Nat.le_of_ble_eq_true rfl)) (hw.k (Nat.le_of_ble_eq_true rfl) (zk1 rr)) d_X_advance_5 ?_
    refine G_icmp_ge g (pc := 8) 38 d_X_advance_8 (by decide) ?_ ?_
    · refine G_aload_n g (pc := 11) 0 d_X_advance_11 rfl rfl ?_
      refine G_aload_n g (pc := 12) 0 d_X_advance_12 rfl rfl ?_
      refine G_get g (pc := 13) fa_X_28 (hw.m 1 (Nat.le_of_ble_eq_true rfl)) (hw.k (Nat.le_of_ble_eq_true rfl) (zk1 rr)) d_X_advance_13 ?_
      refine G_cVI g (pc := 16) (As := [.int (M 1 5)]) (st := []) cc_X_46 (c_X_byteAt l hw (M 1 5) M) (hw.m 1 (Nat.le_of_ble_eq_true rfl)) (hw.k (Nat.le_of_ble_eq_true rfl) (zk1 rr)) rfl (by decide) rfl ⟨(Nat.le_of_ble_eq_true rfl), (Nat.le_of_ble_eq_true rfl)⟩ ⟨(Nat.le_of_ble_eq_true rfl), (Nat.le_of_ble_eq_true rfl)⟩ (Nat.le_of_ble_eq_true rfl) d_X_advance_16 (fun x1 M2 => ?_)
      refine G_cSZ g (pc := 19) (As := [.int x1]) (st := []) cc_X_50 (c_X_isBlank l hw x1 M2) rfl ⟨(Nat.le_of_ble_eq_true rfl), (Nat.le_of_ble_eq_true rfl)⟩ ⟨(Nat.le_of_ble_eq_true rfl), (Nat.le_of_ble_eq_true rfl)⟩ (Nat.le_of_ble_eq_true rfl) d_X_advance_19 (fun x3 M4 => ?_)
      refine G_if_eqB g (pc := 22) 38 d_X_advance_22 (by decide) ?_ ?_
      · refine G_aload_n g (pc := 25) 0 d_X_advance_25 rfl rfl ?_
        refine G_dup g (pc := 26) d_X_advance_26 rfl ?_
        refine G_get g (pc := 27) fa_X_28 (hw.m 1 (Nat.le_of_ble_eq_true rfl)) (hw.k (Nat.le_of_ble_eq_true rfl) (zk1 rr)) d_X_advance_27 ?_
        refine G_iconst g (pc := 30) (1 : Int32) d_X_advance_30 rfl ?_
        refine G_iadd g (pc := 31) d_X_advance_31 ?_
        refine G_put g (pc := 32) fa_X_28 fw_7_5 rfl rfl (hw.m 1 (Nat.le_of_ble_eq_true rfl)) (hw.k (Nat.le_of_ble_eq_true rfl) (zk1 rr)) d_X_advance_32 ?_
        refine G_nmM (fun M5 => ?_)
        refine G_goto g (pc := 35) 0 d_X_advance_35 (by decide) ?_
        refine G_sub [0] _ rfl ?_
        exact ih0 () M5
      · refine G_sub [0] _ rfl ?_
        exact hk0 () M4
    · refine G_sub [0] _ rfl ?_
      exact hk0 () M

theorem d_X_begin_0 : decode b_X_begin 0 = .ok (.aload_n 0, 1) := by decide +kernel
theorem d_X_begin_1 : decode b_X_begin 1 = .ok (.iload_n 1, 1) := by decide +kernel
theorem d_X_begin_2 : decode b_X_begin 2 = .ok (.putfield 19, 3) := by decide +kernel
theorem d_X_begin_5 : decode b_X_begin 5 = .ok (.aload_n 0, 1) := by decide +kernel
theorem d_X_begin_6 : decode b_X_begin 6 = .ok (.iconst 0, 1) := by decide +kernel
theorem d_X_begin_7 : decode b_X_begin 7 = .ok (.putfield 28, 3) := by decide +kernel
theorem d_X_begin_10 : decode b_X_begin 10 = .ok (.aload_n 0, 1) := by decide +kernel
theorem d_X_begin_11 : decode b_X_begin 11 = .ok (.iconst 0, 1) := by decide +kernel
theorem d_X_begin_12 : decode b_X_begin 12 = .ok (.putfield 37, 3) := by decide +kernel
theorem d_X_begin_15 : decode b_X_begin 15 = .ok (.aload_n 0, 1) := by decide +kernel
theorem d_X_begin_16 : decode b_X_begin 16 = .ok (.iconst (-1), 1) := by decide +kernel
theorem d_X_begin_17 : decode b_X_begin 17 = .ok (.putfield 40, 3) := by decide +kernel
theorem d_X_begin_20 : decode b_X_begin 20 = .ok (.aload_n 0, 1) := by decide +kernel
theorem d_X_begin_21 : decode b_X_begin 21 = .ok (.invokevirtual 43, 3) := by decide +kernel
theorem d_X_begin_24 : decode b_X_begin 24 = .ok (.return_, 1) := by decide +kernel
theorem cc_X_43 : CV "KiteLogger$TextReader" 43 y_X_advance b_X_advance 1 none 0 := ⟨TT_in (i := 485) (by decide +kernel) (by decide +kernel), TT_in (i := 486) (by decide +kernel) (by decide +kernel), TT_in (i := 487) (by decide +kernel) (by decide +kernel), TT_in (i := 19) (by decide +kernel) (by decide +kernel), TT_in (i := 488) (by decide +kernel) (by decide +kernel), ⟨by decide +kernel, by decide +kernel, by decide +kernel⟩⟩
def f_X_begin (N : Nat) (rr : Nat) (a1 : Int32) (M : Mem) : Option (Mem) :=
  nm (put M 1 2 a1) fun (M1 : Mem) => nm (put M1 1 5 (0 : Int32)) fun (M2 : Mem) => nm (put M2 1 8 (0 : Int32)) fun (M3 : Mem) => nm (put M3 1 9 (-1 : Int32)) fun (M4 : Mem) => bndM (f_X_advance N rr M4) fun (M6 : Mem) => some M6
set_option maxHeartbeats 4000000 in
set_option maxRecDepth 100000 in
theorem c_X_begin (l : Launch) (N : Nat) {w : Wc} {rr : Nat} (hw : WK w rr) (a1 : Int32) (M : Mem) : Ct QV l y_X_begin b_X_begin 2 none (rmL 2) w [.ref (wad w 1), .int a1] M (f_X_begin N rr a1 M) := by
  refine Ct.go (by decide) (L := [(0, .ref (wad w 1)), (1, .int a1)]) rfl (Nat.le_of_ble_eq_true rfl) (fun p0 e s m args below meth c g hret => ?_)
  unfold f_X_begin
  refine G_aload_n g (pc := 0) 0 d_X_begin_0 rfl rfl ?_
  refine G_iload_n g (pc := 1) 1 d_X_begin_1 rfl rfl ?_
  refine G_put g (pc := 2) fa_X_19 fw_7_2 rfl rfl (hw.m 1 (Nat.le_of_ble_eq_true rfl)) (hw.k (Nat.le_of_ble_eq_true rfl) (zk1 rr)) d_X_begin_2 ?_
  refine G_nmM (fun M1 => ?_)
  refine G_aload_n g (pc := 5) 0 d_X_begin_5 rfl rfl ?_
  refine G_iconst g (pc := 6) (0 : Int32) d_X_begin_6 rfl ?_
  refine G_put g (pc := 7) fa_X_28 fw_7_5 rfl rfl (hw.m 1 (Nat.le_of_ble_eq_true rfl)) (hw.k (Nat.le_of_ble_eq_true rfl) (zk1 rr)) d_X_begin_7 ?_
  refine G_nmM (fun M2 => ?_)
  refine G_aload_n g (pc := 10) 0 d_X_begin_10 rfl rfl ?_
  refine G_iconst g (pc := 11) (0 : Int32) d_X_begin_11 rfl ?_
  refine G_put g (pc := 12) fa_X_37 fw_7_8 rfl rfl (hw.m 1 (Nat.le_of_ble_eq_true rfl)) (hw.k (Nat.le_of_ble_eq_true rfl) (zk1 rr)) d_X_begin_12 ?_
  refine G_nmM (fun M3 => ?_)
  refine G_aload_n g (pc := 15) 0 d_X_begin_15 rfl rfl ?_
  refine G_iconst g (pc := 16) (-1 : Int32) d_X_begin_16 rfl ?_
  refine G_put g (pc := 17) fa_X_40 fw_7_9 rfl rfl (hw.m 1 (Nat.le_of_ble_eq_true rfl)) (hw.k (Nat.le_of_ble_eq_true rfl) (zk1 rr)) d_X_begin_17 ?_
  refine G_nmM (fun M4 => ?_)
  refine G_aload_n g (pc := 20) 0 d_X_begin_20 rfl rfl ?_
  refine G_cVV g (pc := 21) (As := []) (st := []) cc_X_43 (c_X_advance l N hw M4) (hw.m 1 (Nat.le_of_ble_eq_true rfl)) (hw.k (Nat.le_of_ble_eq_true rfl) (zk1 rr)) rfl (by decide) rfl ⟨(Nat.le_of_ble_eq_true rfl), (Nat.le_of_ble_eq_true rfl)⟩ ⟨(Nat.le_of_ble_eq_true rfl), (Nat.le_of_ble_eq_true rfl)⟩ (Nat.le_of_ble_eq_true rfl) d_X_begin_21 (fun M6 => ?_)
  exact G_return g (pc := 24) hret (Nat.le_of_ble_eq_true rfl) (Nat.le_of_ble_eq_true rfl) d_X_begin_24

theorem d_X_fail_0 : decode b_X_fail 0 = .ok (.aload_n 0, 1) := by decide +kernel
theorem d_X_fail_1 : decode b_X_fail 1 = .ok (.iload_n 1, 1) := by decide +kernel
theorem d_X_fail_2 : decode b_X_fail 2 = .ok (.putfield 37, 3) := by decide +kernel
theorem d_X_fail_5 : decode b_X_fail 5 = .ok (.aload_n 0, 1) := by decide +kernel
theorem d_X_fail_6 : decode b_X_fail 6 = .ok (.aload_n 0, 1) := by decide +kernel
theorem d_X_fail_7 : decode b_X_fail 7 = .ok (.getfield 25, 3) := by decide +kernel
theorem d_X_fail_10 : decode b_X_fail 10 = .ok (.putfield 40, 3) := by decide +kernel
theorem d_X_fail_13 : decode b_X_fail 13 = .ok (.iconst 0, 1) := by decide +kernel
theorem d_X_fail_14 : decode b_X_fail 14 = .ok (.ireturn, 1) := by decide +kernel
def f_X_fail (a1 : Int32) (M : Mem) : Option (Bool × Mem) :=
  nm (put M 1 8 a1) fun (M1 : Mem) => nm (put M1 1 9 (M1 1 4)) fun (M2 : Mem) => some (false, M2)
set_option maxHeartbeats 4000000 in
set_option maxRecDepth 100000 in
theorem c_X_fail (l : Launch) {w : Wc} {rr : Nat} (hw : WK w rr) (a1 : Int32) (M : Mem) : Ct QZ l y_X_fail b_X_fail 2 (some .boolean) (rmL 0) w [.ref (wad w 1), .int a1] M (f_X_fail a1 M) := by
  refine Ct.go (by decide) (L := [(0, .ref (wad w 1)), (1, .int a1)]) rfl (Nat.le_of_ble_eq_true rfl) (fun p0 e s m args below meth c g hret => ?_)
  unfold f_X_fail
  refine G_aload_n g (pc := 0) 0 d_X_fail_0 rfl rfl ?_
  refine G_iload_n g (pc := 1) 1 d_X_fail_1 rfl rfl ?_
  refine G_put g (pc := 2) fa_X_37 fw_7_8 rfl rfl (hw.m 1 (Nat.le_of_ble_eq_true rfl)) (hw.k (Nat.le_of_ble_eq_true rfl) (zk1 rr)) d_X_fail_2 ?_
  refine G_nmM (fun M1 => ?_)
  refine G_aload_n g (pc := 5) 0 d_X_fail_5 rfl rfl ?_
  refine G_aload_n g (pc := 6) 0 d_X_fail_6 rfl rfl ?_
  refine G_get g (pc := 7) fa_X_25 (hw.m 1 (Nat.le_of_ble_eq_true rfl)) (hw.k (Nat.le_of_ble_eq_true rfl) (zk1 rr)) d_X_fail_7 ?_
  refine G_put g (pc := 10) fa_X_40 fw_7_9 rfl rfl (hw.m 1 (Nat.le_of_ble_eq_true rfl)) (hw.k (Nat.le_of_ble_eq_true rfl) (zk1 rr)) d_X_fail_10 ?_
  refine G_nmM (fun M2 => ?_)
  refine G_iconst g (pc := 13) (0 : Int32) d_X_fail_13 rfl ?_
  exact G_zreturn g (pc := 14) false rfl hret (Nat.le_of_ble_eq_true rfl) (Nat.le_of_ble_eq_true rfl) d_X_fail_14

theorem d_X_takeSign_0 : decode b_X_takeSign 0 = .ok (.aload_n 0, 1) := by decide +kernel
theorem d_X_takeSign_1 : decode b_X_takeSign 1 = .ok (.getfield 22, 3) := by decide +kernel
theorem d_X_takeSign_4 : decode b_X_takeSign 4 = .ok (.iload_n 1, 1) := by decide +kernel
theorem d_X_takeSign_5 : decode b_X_takeSign 5 = .ok (.if_icmp .eq 9, 3) := by decide +kernel
theorem d_X_takeSign_8 : decode b_X_takeSign 8 = .ok (.aload_n 0, 1) := by decide +kernel
theorem d_X_takeSign_9 : decode b_X_takeSign 9 = .ok (.iconst 1, 1) := by decide +kernel
theorem d_X_takeSign_10 : decode b_X_takeSign 10 = .ok (.invokevirtual 78, 3) := by decide +kernel
theorem d_X_takeSign_13 : decode b_X_takeSign 13 = .ok (.ireturn, 1) := by decide +kernel
theorem d_X_takeSign_14 : decode b_X_takeSign 14 = .ok (.aload_n 0, 1) := by decide +kernel
theorem d_X_takeSign_15 : decode b_X_takeSign 15 = .ok (.invokevirtual 43, 3) := by decide +kernel
theorem d_X_takeSign_18 : decode b_X_takeSign 18 = .ok (.iconst 1, 1) := by decide +kernel
theorem d_X_takeSign_19 : decode b_X_takeSign 19 = .ok (.ireturn, 1) := by decide +kernel
theorem cc_X_78 : CV "KiteLogger$TextReader" 78 y_X_fail b_X_fail 2 (some .boolean) 1 := ⟨TT_in (i := 562) (by decide +kernel) (by decide +kernel), TT_in (i := 563) (by decide +kernel) (by decide +kernel), TT_in (i := 564) (by decide +kernel) (by decide +kernel), TT_in (i := 19) (by decide +kernel) (by decide +kernel), TT_in (i := 565) (by decide +kernel) (by decide +kernel), ⟨by decide +kernel, by decide +kernel, by decide +kernel⟩⟩
def f_X_takeSign (N : Nat) (rr : Nat) (a1 : Int32) (M : Mem) : Option (Bool × Mem) :=
  if (M 1 3) = a1 then (bndM (f_X_advance N rr M) fun (M2 : Mem) => some (true, M2)) else (bnd (f_X_fail (1 : Int32) M) fun (x3 : Bool) (M4 : Mem) => some (x3, M4))
set_option maxHeartbeats 4000000 in
set_option maxRecDepth 100000 in
theorem c_X_takeSign (l : Launch) (N : Nat) {w : Wc} {rr : Nat} (hw : WK w rr) (a1 : Int32) (M : Mem) : Ct QZ l y_X_takeSign b_X_takeSign 2 (some .boolean) (rmL 2) w [.ref (wad w 1), .int a1] M (f_X_takeSign N rr a1 M) := by
  refine Ct.go (by decide) (L := [(0, .ref (wad w 1)), (1, .int a1)]) rfl (Nat.le_of_ble_eq_true rfl) (fun p0 e s m args below meth c g hret => ?_)
  unfold f_X_takeSign
  refine G_aload_n g (pc := 0) 0 d_X_takeSign_0 rfl rfl ?_
  refine G_get g (pc := 1) fa_X_22 (hw.m 1 (Nat.le_of_ble_eq_true rfl)) (hw.k (Nat.le_of_ble_eq_true rfl) (zk1 rr)) d_X_takeSign_1 ?_
  refine G_iload_n g (pc := 4) 1 d_X_takeSign_4 rfl rfl ?_
  refine G_icmp_eq g (pc := 5) 14 d_X_takeSign_5 (by decide) ?_ ?_
  · refine G_aload_n g (pc := 14) 0 d_X_takeSign_14 rfl rfl ?_
    refine G_cVV g (pc := 15) (As := []) (st := []) cc_X_43 (c_X_advance l N hw M) (hw.m 1 (Nat.le_of_ble_eq_true rfl)) (hw.k (Nat.le_of_ble_eq_true rfl) (zk1 rr)) rfl (by decide) rfl ⟨(Nat.le_of_ble_eq_true rfl), (Nat.le_of_ble_eq_true rfl)⟩ ⟨(Nat.le_of_ble_eq_true rfl), (Nat.le_of_ble_eq_true rfl)⟩ (Nat.le_of_ble_eq_true rfl) d_X_takeSign_15 (fun M2 => ?_)
    refine G_iconst g (pc := 18) (1 : Int32) d_X_takeSign_18 rfl ?_
    exact G_zreturn g (pc := 19) true rfl hret (Nat.le_of_ble_eq_true rfl) (Nat.le_of_ble_eq_true rfl) d_X_takeSign_19
  · refine G_aload_n g (pc := 8) 0 d_X_takeSign_8 rfl rfl ?_
    refine G_iconst g (pc := 9) (1 : Int32) d_X_takeSign_9 rfl ?_
    refine G_cVZ g (pc := 10) (As := [.int (1 : Int32)]) (st := []) cc_X_78 (c_X_fail l hw (1 : Int32) M) (hw.m 1 (Nat.le_of_ble_eq_true rfl)) (hw.k (Nat.le_of_ble_eq_true rfl) (zk1 rr)) rfl (by decide) rfl ⟨(Nat.le_of_ble_eq_true rfl), (Nat.le_of_ble_eq_true rfl)⟩ ⟨(Nat.le_of_ble_eq_true rfl), (Nat.le_of_ble_eq_true rfl)⟩ (Nat.le_of_ble_eq_true rfl) d_X_takeSign_10 (fun x3 M4 => ?_)
    exact G_zreturn g (pc := 13) x3 rfl hret (Nat.le_of_ble_eq_true rfl) (Nat.le_of_ble_eq_true rfl) d_X_takeSign_13

theorem d_X_checkNumber_0 : decode b_X_checkNumber 0 = .ok (.aload_n 0, 1) := by decide +kernel
theorem d_X_checkNumber_1 : decode b_X_checkNumber 1 = .ok (.getfield 22, 3) := by decide +kernel
theorem d_X_checkNumber_4 : decode b_X_checkNumber 4 = .ok (.iconst 2, 1) := by decide +kernel
theorem d_X_checkNumber_5 : decode b_X_checkNumber 5 = .ok (.if_icmp .eq 9, 3) := by decide +kernel
theorem d_X_checkNumber_8 : decode b_X_checkNumber 8 = .ok (.aload_n 0, 1) := by decide +kernel
theorem d_X_checkNumber_9 : decode b_X_checkNumber 9 = .ok (.iconst 1, 1) := by decide +kernel
theorem d_X_checkNumber_10 : decode b_X_checkNumber 10 = .ok (.invokevirtual 78, 3) := by decide +kernel
theorem d_X_checkNumber_13 : decode b_X_checkNumber 13 = .ok (.ireturn, 1) := by decide +kernel
theorem d_X_checkNumber_14 : decode b_X_checkNumber 14 = .ok (.aload_n 0, 1) := by decide +kernel
theorem d_X_checkNumber_15 : decode b_X_checkNumber 15 = .ok (.getfield 31, 3) := by decide +kernel
theorem d_X_checkNumber_18 : decode b_X_checkNumber 18 = .ok (.iload_n 1, 1) := by decide +kernel
theorem d_X_checkNumber_19 : decode b_X_checkNumber 19 = .ok (.iload_n 2, 1) := by decide +kernel
theorem d_X_checkNumber_20 : decode b_X_checkNumber 20 = .ok (.invokestatic 81, 3) := by decide +kernel
theorem d_X_checkNumber_23 : decode b_X_checkNumber 23 = .ok (.ifCond .eq 11, 3) := by decide +kernel
theorem d_X_checkNumber_26 : decode b_X_checkNumber 26 = .ok (.aload_n 0, 1) := by decide +kernel
theorem d_X_checkNumber_27 : decode b_X_checkNumber 27 = .ok (.iconst 2, 1) := by decide +kernel
theorem d_X_checkNumber_28 : decode b_X_checkNumber 28 = .ok (.invokevirtual 78, 3) := by decide +kernel
theorem d_X_checkNumber_31 : decode b_X_checkNumber 31 = .ok (.ifCond .eq 7, 3) := by decide +kernel
theorem d_X_checkNumber_34 : decode b_X_checkNumber 34 = .ok (.iconst 1, 1) := by decide +kernel
theorem d_X_checkNumber_35 : decode b_X_checkNumber 35 = .ok (.goto 4, 3) := by decide +kernel
theorem d_X_checkNumber_38 : decode b_X_checkNumber 38 = .ok (.iconst 0, 1) := by decide +kernel
theorem d_X_checkNumber_39 : decode b_X_checkNumber 39 = .ok (.ireturn, 1) := by decide +kernel
theorem cc_X_81 : CSN "KiteLogger$TextReader" 81 "KiteLogger" y_G_isOutside b_G_isOutside 3 (some .boolean) 3 := ⟨NW_in (i := 574) (by decide +kernel) (by decide +kernel), TT_in (i := 575) (by decide +kernel) (by decide +kernel), TT_in (i := 18) (by decide +kernel) (by decide +kernel), TT_in (i := 576) (by decide +kernel) (by decide +kernel), ⟨by decide +kernel, by decide +kernel, by decide +kernel⟩⟩
def f_X_checkNumber (a1 : Int32) (a2 : Int32) (M : Mem) : Option (Bool × Mem) :=
  if (M 1 3) = (2 : Int32) then (bnd (f_G_isOutside (M 1 6) a1 a2 M) fun (x1 : Bool) (M2 : Mem) => if x1 = true then (bnd (f_X_fail (2 : Int32) M2) fun (x3 : Bool) (M4 : Mem) => if x3 = true then (some (true, M4)) else (some (false, M4))) else (some (true, M2))) else (bnd (f_X_fail (1 : Int32) M) fun (x5 : Bool) (M6 : Mem) => some (x5, M6))
set_option maxHeartbeats 4000000 in
set_option maxRecDepth 100000 in
theorem c_X_checkNumber (l : Launch) {w : Wc} {rr : Nat} (hw : WK w rr) (a1 : Int32) (a2 : Int32) (M : Mem) : Ct QZ l y_X_checkNumber b_X_checkNumber 3 (some .boolean) (rmL 1) w [.ref (wad w 1), .int a1, .int a2] M (f_X_checkNumber a1 a2 M) := by
  refine Ct.go (by decide) (L := [(0, .ref (wad w 1)), (1, .int a1), (2, .int a2)]) rfl (Nat.le_of_ble_eq_true rfl) (fun p0 e s m args below meth c g hret => ?_)
  unfold f_X_checkNumber
  refine G_aload_n g (pc := 0) 0 d_X_checkNumber_0 rfl rfl ?_
  refine G_get g (pc := 1) fa_X_22 (hw.m 1 (Nat.le_of_ble_eq_true rfl)) (hw.k (Nat.le_of_ble_eq_true rfl) (zk1 rr)) d_X_checkNumber_1 ?_
  refine G_iconst g (pc := 4) (2 : Int32) d_X_checkNumber_4 rfl ?_
  refine G_icmp_eq g (pc := 5) 14 d_X_checkNumber_5 (by decide) ?_ ?_
  · refine G_aload_n g (pc := 14) 0 d_X_checkNumber_14 rfl rfl ?_
    refine G_get g (pc := 15) fa_X_31 (hw.m 1 (Nat.le_of_ble_eq_true rfl)) (hw.k (Nat.le_of_ble_eq_true rfl) (zk1 rr)) d_X_checkNumber_15 ?_
    refine G_iload_n g (pc := 18) 1 d_X_checkNumber_18 rfl rfl ?_
    refine G_iload_n g (pc := 19) 2 d_X_checkNumber_19 rfl rfl ?_
    refine G_cSNZ g (pc := 20) (As := [.int (M 1 6), .int a1, .int a2]) (st := []) cc_X_81 (c_G_isOutside l hw (M 1 6) a1 a2 M) rfl ⟨(Nat.le_of_ble_eq_true rfl), (Nat.le_of_ble_eq_true rfl)⟩ ⟨(Nat.le_of_ble_eq_true rfl), (Nat.le_of_ble_eq_true rfl)⟩ (Nat.le_of_ble_eq_true rfl) d_X_checkNumber_20 (fun x1 M2 => ?_)
    refine G_if_eqB g (pc := 23) 34 d_X_checkNumber_23 (by decide) ?_ ?_
    · refine G_aload_n g (pc := 26) 0 d_X_checkNumber_26 rfl rfl ?_
      refine G_iconst g (pc := 27) (2 : Int32) d_X_checkNumber_27 rfl ?_
      refine G_cVZ g (pc := 28) (As := [.int (2 : Int32)]) (st := []) cc_X_78 (c_X_fail l hw (2 : Int32) M2) (hw.m 1 (Nat.le_of_ble_eq_true rfl)) (hw.k (Nat.le_of_ble_eq_true rfl) (zk1 rr)) rfl (by decide) rfl ⟨(Nat.le_of_ble_eq_true rfl), (Nat.le_of_ble_eq_true rfl)⟩ ⟨(Nat.le_of_ble_eq_true rfl), (Nat.le_of_ble_eq_true rfl)⟩ (Nat.le_of_ble_eq_true rfl) d_X_checkNumber_28 (fun x3 M4 => ?_)
      refine G_if_eqB g (pc := 31) 38 d_X_checkNumber_31 (by decide) ?_ ?_
      · refine G_iconst g (pc := 34) (1 : Int32) d_X_checkNumber_34 rfl ?_
        refine G_goto g (pc := 35) 39 d_X_checkNumber_35 (by decide) ?_
        exact G_zreturn g (pc := 39) true rfl hret (Nat.le_of_ble_eq_true rfl) (Nat.le_of_ble_eq_true rfl) d_X_checkNumber_39
      · refine G_iconst g (pc := 38) (0 : Int32) d_X_checkNumber_38 rfl ?_
        exact G_zreturn g (pc := 39) false rfl hret (Nat.le_of_ble_eq_true rfl) (Nat.le_of_ble_eq_true rfl) d_X_checkNumber_39
    · refine G_iconst g (pc := 34) (1 : Int32) d_X_checkNumber_34 rfl ?_
      refine G_goto g (pc := 35) 39 d_X_checkNumber_35 (by decide) ?_
      exact G_zreturn g (pc := 39) true rfl hret (Nat.le_of_ble_eq_true rfl) (Nat.le_of_ble_eq_true rfl) d_X_checkNumber_39
  · refine G_aload_n g (pc := 8) 0 d_X_checkNumber_8 rfl rfl ?_
    refine G_iconst g (pc := 9) (1 : Int32) d_X_checkNumber_9 rfl ?_
    refine G_cVZ g (pc := 10) (As := [.int (1 : Int32)]) (st := []) cc_X_78 (c_X_fail l hw (1 : Int32) M) (hw.m 1 (Nat.le_of_ble_eq_true rfl)) (hw.k (Nat.le_of_ble_eq_true rfl) (zk1 rr)) rfl (by decide) rfl ⟨(Nat.le_of_ble_eq_true rfl), (Nat.le_of_ble_eq_true rfl)⟩ ⟨(Nat.le_of_ble_eq_true rfl), (Nat.le_of_ble_eq_true rfl)⟩ (Nat.le_of_ble_eq_true rfl) d_X_checkNumber_10 (fun x5 M6 => ?_)
    exact G_zreturn g (pc := 13) x5 rfl hret (Nat.le_of_ble_eq_true rfl) (Nat.le_of_ble_eq_true rfl) d_X_checkNumber_13

theorem d_X_takeNumber_0 : decode b_X_takeNumber 0 = .ok (.aload_n 0, 1) := by decide +kernel
theorem d_X_takeNumber_1 : decode b_X_takeNumber 1 = .ok (.iload_n 1, 1) := by decide +kernel
theorem d_X_takeNumber_2 : decode b_X_takeNumber 2 = .ok (.iload_n 2, 1) := by decide +kernel
theorem d_X_takeNumber_3 : decode b_X_takeNumber 3 = .ok (.invokevirtual 85, 3) := by decide +kernel
theorem d_X_takeNumber_6 : decode b_X_takeNumber 6 = .ok (.ifCond .ne 5, 3) := by decide +kernel
theorem d_X_takeNumber_9 : decode b_X_takeNumber 9 = .ok (.iconst 0, 1) := by decide +kernel
theorem d_X_takeNumber_10 : decode b_X_takeNumber 10 = .ok (.ireturn, 1) := by decide +kernel
theorem d_X_takeNumber_11 : decode b_X_takeNumber 11 = .ok (.aload_n 0, 1) := by decide +kernel
theorem d_X_takeNumber_12 : decode b_X_takeNumber 12 = .ok (.aload_n 0, 1) := by decide +kernel
theorem d_X_takeNumber_13 : decode b_X_takeNumber 13 = .ok (.getfield 31, 3) := by decide +kernel
theorem d_X_takeNumber_16 : decode b_X_takeNumber 16 = .ok (.putfield 34, 3) := by decide +kernel
theorem d_X_takeNumber_19 : decode b_X_takeNumber 19 = .ok (.aload_n 0, 1) := by decide +kernel
theorem d_X_takeNumber_20 : decode b_X_takeNumber 20 = .ok (.invokevirtual 43, 3) := by decide +kernel
theorem d_X_takeNumber_23 : decode b_X_takeNumber 23 = .ok (.iconst 1, 1) := by decide +kernel
theorem d_X_takeNumber_24 : decode b_X_takeNumber 24 = .ok (.ireturn, 1) := by decide +kernel
theorem cc_X_85 : CV "KiteLogger$TextReader" 85 y_X_checkNumber b_X_checkNumber 3 (some .boolean) 2 := ⟨TT_in (i := 570) (by decide +kernel) (by decide +kernel), TT_in (i := 571) (by decide +kernel) (by decide +kernel), TT_in (i := 572) (by decide +kernel) (by decide +kernel), TT_in (i := 19) (by decide +kernel) (by decide +kernel), TT_in (i := 573) (by decide +kernel) (by decide +kernel), ⟨by decide +kernel, by decide +kernel, by decide +kernel⟩⟩
def f_X_takeNumber (N : Nat) (rr : Nat) (a1 : Int32) (a2 : Int32) (M : Mem) : Option (Bool × Mem) :=
  bnd (f_X_checkNumber a1 a2 M) fun (x1 : Bool) (M2 : Mem) => if x1 = true then (nm (put M2 1 7 (M2 1 6)) fun (M3 : Mem) => bndM (f_X_advance N rr M3) fun (M5 : Mem) => some (true, M5)) else (some (false, M2))
set_option maxHeartbeats 4000000 in
set_option maxRecDepth 100000 in
theorem c_X_takeNumber (l : Launch) (N : Nat) {w : Wc} {rr : Nat} (hw : WK w rr) (a1 : Int32) (a2 : Int32) (M : Mem) : Ct QZ l y_X_takeNumber b_X_takeNumber 3 (some .boolean) (rmL 2) w [.ref (wad w 1), .int a1, .int a2] M (f_X_takeNumber N rr a1 a2 M) := by
  refine Ct.go (by decide) (L := [(0, .ref (wad w 1)), (1, .int a1), (2, .int a2)]) rfl (Nat.le_of_ble_eq_true rfl) (fun p0 e s m args below meth c g hret => ?_)
  unfold f_X_takeNumber
  refine G_aload_n g (pc := 0) 0 d_X_takeNumber_0 rfl rfl ?_
  refine G_iload_n g (pc := 1) 1 d_X_takeNumber_1 rfl rfl ?_
  refine G_iload_n g (pc := 2) 2 d_X_takeNumber_2 rfl rfl ?_
  refine G_cVZ g (pc := 3) (As := [.int a1, .int a2]) (st := []) cc_X_85 (c_X_checkNumber l hw a1 a2 M) (hw.m 1 (Nat.le_of_ble_eq_true rfl)) (hw.k (Nat.le_of_ble_eq_true rfl) (zk1 rr)) rfl (by decide) rfl ⟨(Nat.le_of_ble_eq_true rfl), (Nat.le_of_ble_eq_true rfl)⟩ ⟨(Nat.le_of_ble_eq_true rfl), (Nat.le_of_ble_eq_true rfl)⟩ (Nat.le_of_ble_eq_true rfl) d_X_takeNumber_3 (fun x1 M2 => ?_)
  refine G_if_neB g (pc := 6) 11 d_X_takeNumber_6 (by decide) ?_ ?_
  · refine G_aload_n g (pc := 11) 0 d_X_takeNumber_11 rfl rfl ?_
    refine G_aload_n g (pc := 12) 0 d_X_takeNumber_12 rfl rfl ?_
    refine G_get g (pc := 13) fa_X_31 (hw.m 1 (Nat.le_of_ble_eq_true rfl)) (hw.k (Nat.le_of_ble_eq_true rfl) (zk1 rr)) d_X_takeNumber_13 ?_
    refine G_put g (pc := 16) fa_X_34 fw_7_7 rfl rfl (hw.m 1 (Nat.le_of_ble_eq_true rfl)) (hw.k (Nat.le_of_ble_eq_true rfl) (zk1 rr)) d_X_takeNumber_16 ?_
    refine G_nmM (fun M3 => ?_)
    refine G_aload_n g (pc := 19) 0 d_X_takeNumber_19 rfl rfl ?_
    refine G_cVV g (pc := 20) (As := []) (st := []) cc_X_43 (c_X_advance l N hw M3) (hw.m 1 (Nat.le_of_ble_eq_true rfl)) (hw.k (Nat.le_of_ble_eq_true rfl) (zk1 rr)) rfl (by decide) rfl ⟨(Nat.le_of_ble_eq_true rfl), (Nat.le_of_ble_eq_true rfl)⟩ ⟨(Nat.le_of_ble_eq_true rfl), (Nat.le_of_ble_eq_true rfl)⟩ (Nat.le_of_ble_eq_true rfl) d_X_takeNumber_20 (fun M5 => ?_)
    refine G_iconst g (pc := 23) (1 : Int32) d_X_takeNumber_23 rfl ?_
    exact G_zreturn g (pc := 24) true rfl hret (Nat.le_of_ble_eq_true rfl) (Nat.le_of_ble_eq_true rfl) d_X_takeNumber_24
  · refine G_iconst g (pc := 9) (0 : Int32) d_X_takeNumber_9 rfl ?_
    exact G_zreturn g (pc := 10) false rfl hret (Nat.le_of_ble_eq_true rfl) (Nat.le_of_ble_eq_true rfl) d_X_takeNumber_10
