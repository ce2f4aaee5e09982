theorem d_M_write_0 : decode b_M_write 0 = .ok (.aload_n 0, 1) := by decide +kernel
theorem d_M_write_1 : decode b_M_write 1 = .ok (.getfield 31, 3) := by decide +kernel
theorem d_M_write_4 : decode b_M_write 4 = .ok (.aload_n 0, 1) := by decide +kernel
theorem d_M_write_5 : decode b_M_write 5 = .ok (.getfield 222, 3) := by decide +kernel
theorem d_M_write_8 : decode b_M_write 8 = .ok (.iload_n 1, 1) := by decide +kernel
theorem d_M_write_9 : decode b_M_write 9 = .ok (.iastore, 1) := by decide +kernel
theorem d_M_write_10 : decode b_M_write 10 = .ok (.aload_n 0, 1) := by decide +kernel
theorem d_M_write_11 : decode b_M_write 11 = .ok (.dup, 1) := by decide +kernel
theorem d_M_write_12 : decode b_M_write 12 = .ok (.getfield 222, 3) := by decide +kernel
theorem d_M_write_15 : decode b_M_write 15 = .ok (.iconst 1, 1) := by decide +kernel
theorem d_M_write_16 : decode b_M_write 16 = .ok (.iadd, 1) := by decide +kernel
theorem d_M_write_17 : decode b_M_write 17 = .ok (.putfield 222, 3) := by decide +kernel
theorem d_M_write_20 : decode b_M_write 20 = .ok (.return_, 1) := by decide +kernel
def f_M_write (a1 : Int32) (M : Mem) : Option (Mem) :=
  grd (inB (M 145 13) 400) (nm (put M 152 (M 145 13).toNatClampNeg a1) fun (M1 : Mem) => nm (put M1 145 13 ((M1 145 13) + (1 : Int32))) fun (M2 : Mem) => some M2)
set_option maxHeartbeats 4000000 in
set_option maxRecDepth 100000 in
theorem c_M_write (l : Launch) {w : Wc} {rr : Nat} (hw : WM w rr) (a1 : Int32) (M : Mem) : Ct QV l y_M_write b_M_write 2 none (rmL 0) w [.ref (wad w 145), .int a1] M (f_M_write a1 M) := by
  refine Ct.go (by decide) (L := [(0, .ref (wad w 145)), (1, .int a1)]) rfl (Nat.le_of_ble_eq_true rfl) (fun p0 e s m args below meth c g hret => ?_)
  unfold f_M_write
  refine G_aload_n g (pc := 0) 0 d_M_write_0 rfl rfl ?_
  refine G_getR g (pc := 1) fa_M_31 (hw.mm 145 (Nat.le_of_ble_eq_true rfl) (Nat.le_of_ble_eq_true rfl)) (hw.k (zk145 rr)) (hw.r (zr145_12 rr)) d_M_write_1 ?_
  refine G_aload_n g (pc := 4) 0 d_M_write_4 rfl rfl ?_
  refine G_get g (pc := 5) fa_M_222 (hw.mm 145 (Nat.le_of_ble_eq_true rfl) (Nat.le_of_ble_eq_true rfl)) (hw.k (zk145 rr)) d_M_write_5 ?_
  refine G_iload_n g (pc := 8) 1 d_M_write_8 rfl rfl ?_
  refine G_iast g (pc := 9) (nn := 400) (hw.mm 152 (Nat.le_of_ble_eq_true rfl) (Nat.le_of_ble_eq_true rfl)) (hw.k (zk152 rr)) (hw.n (zn152 rr)) d_M_write_9 ?_
  refine G_nmM (fun M1 => ?_)
  refine G_aload_n g (pc := 10) 0 d_M_write_10 rfl rfl ?_
  refine G_dup g (pc := 11) d_M_write_11 rfl ?_
  refine G_get g (pc := 12) fa_M_222 (hw.mm 145 (Nat.le_of_ble_eq_true rfl) (Nat.le_of_ble_eq_true rfl)) (hw.k (zk145 rr)) d_M_write_12 ?_
  refine G_iconst g (pc := 15) (1 : Int32) d_M_write_15 rfl ?_
  refine G_iadd g (pc := 16) d_M_write_16 ?_
  refine G_put g (pc := 17) fa_M_222 fw_10_13 rfl rfl (hw.mm 145 (Nat.le_of_ble_eq_true rfl) (Nat.le_of_ble_eq_true rfl)) (hw.k (zk145 rr)) d_M_write_17 ?_
  refine G_nmM (fun M2 => ?_)
  exact G_return g (pc := 20) hret (Nat.le_of_ble_eq_true rfl) (Nat.le_of_ble_eq_true rfl) d_M_write_20

theorem d_M_writeNumber_0 : decode b_M_writeNumber 0 = .ok (.iconst 1, 1) := by decide +kernel
theorem d_M_writeNumber_1 : decode b_M_writeNumber 1 = .ok (.istore_n 2, 1) := by decide +kernel
theorem d_M_writeNumber_2 : decode b_M_writeNumber 2 = .ok (.iload_n 1, 1) := by decide +kernel
theorem d_M_writeNumber_3 : decode b_M_writeNumber 3 = .ok (.iload_n 2, 1) := by decide +kernel
theorem d_M_writeNumber_4 : decode b_M_writeNumber 4 = .ok (.idiv, 1) := by decide +kernel
theorem d_M_writeNumber_5 : decode b_M_writeNumber 5 = .ok (.bipush 9, 2) := by decide +kernel
theorem d_M_writeNumber_7 : decode b_M_writeNumber 7 = .ok (.if_icmp .le 11, 3) := by decide +kernel
theorem d_M_writeNumber_10 : decode b_M_writeNumber 10 = .ok (.iload_n 2, 1) := by decide +kernel
theorem d_M_writeNumber_11 : decode b_M_writeNumber 11 = .ok (.bipush 10, 2) := by decide +kernel
theorem d_M_writeNumber_13 : decode b_M_writeNumber 13 = .ok (.imul, 1) := by decide +kernel
theorem d_M_writeNumber_14 : decode b_M_writeNumber 14 = .ok (.istore_n 2, 1) := by decide +kernel
theorem d_M_writeNumber_15 : decode b_M_writeNumber 15 = .ok (.goto (-13), 3) := by decide +kernel
theorem d_M_writeNumber_18 : decode b_M_writeNumber 18 = .ok (.iload_n 2, 1) := by decide +kernel
theorem d_M_writeNumber_19 : decode b_M_writeNumber 19 = .ok (.istore_n 3, 1) := by decide +kernel
theorem d_M_writeNumber_20 : decode b_M_writeNumber 20 = .ok (.iload_n 3, 1) := by decide +kernel
theorem d_M_writeNumber_21 : decode b_M_writeNumber 21 = .ok (.ifCond .le 24, 3) := by decide +kernel
theorem d_M_writeNumber_24 : decode b_M_writeNumber 24 = .ok (.aload_n 0, 1) := by decide +kernel
theorem d_M_writeNumber_25 : decode b_M_writeNumber 25 = .ok (.bipush 48, 2) := by decide +kernel
theorem d_M_writeNumber_27 : decode b_M_writeNumber 27 = .ok (.iload_n 1, 1) := by decide +kernel
theorem d_M_writeNumber_28 : decode b_M_writeNumber 28 = .ok (.iload_n 3, 1) := by decide +kernel
theorem d_M_writeNumber_29 : decode b_M_writeNumber 29 = .ok (.idiv, 1) := by decide +kernel
theorem d_M_writeNumber_30 : decode b_M_writeNumber 30 = .ok (.bipush 10, 2) := by decide +kernel
theorem d_M_writeNumber_32 : decode b_M_writeNumber 32 = .ok (.irem, 1) := by decide +kernel
theorem d_M_writeNumber_33 : decode b_M_writeNumber 33 = .ok (.iadd, 1) := by decide +kernel
theorem d_M_writeNumber_34 : decode b_M_writeNumber 34 = .ok (.invokevirtual 225, 3) := by decide +kernel
theorem d_M_writeNumber_37 : decode b_M_writeNumber 37 = .ok (.iload_n 3, 1) := by decide +kernel
theorem d_M_writeNumber_38 : decode b_M_writeNumber 38 = .ok (.bipush 10, 2) := by decide +kernel
theorem d_M_writeNumber_40 : decode b_M_writeNumber 40 = .ok (.idiv, 1) := by decide +kernel
theorem d_M_writeNumber_41 : decode b_M_writeNumber 41 = .ok (.istore_n 3, 1) := by decide +kernel
theorem d_M_writeNumber_42 : decode b_M_writeNumber 42 = .ok (.goto (-22), 3) := by decide +kernel
theorem d_M_writeNumber_45 : decode b_M_writeNumber 45 = .ok (.return_, 1) := by decide +kernel
theorem cc_M_225 : CV "KiteLoggerModel" 225 y_M_write b_M_write 2 none 1 := ⟨TT_in (i := 1818) (by decide +kernel) (by decide +kernel), TT_in (i := 1820) (by decide +kernel) (by decide +kernel), TT_in (i := 60) (by decide +kernel) (by decide +kernel), TT_in (i := 100) (by decide +kernel) (by decide +kernel), TT_in (i := 1821) (by decide +kernel) (by decide +kernel), ⟨by decide +kernel, by decide +kernel, by decide +kernel⟩⟩
def lp_M_writeNumber_2 (N0 rr : Nat) (a1 : Int32)  : Nat → Int32 → Mem → (Int32 → Mem → Option (Mem)) → Option (Mem)
  | 0, _, _, _ => none
  | N + 1, v2, M, k2 => grd (nzB v2) (if (9 : Int32) < (a1 / v2) then (nm (v2 * (10 : Int32)) fun (x1 : Int32) => lp_M_writeNumber_2 N0 rr a1 N x1 M k2) else (k2 v2 M))
def lp_M_writeNumber_20 (N0 rr : Nat) (a1 : Int32)  : Nat → Int32 → Mem → (Int32 → Mem → Option (Mem)) → Option (Mem)
  | 0, _, _, _ => none
  | N + 1, v20, M, k20 => if 0 < v20 then (grd (nzB v20) (bndM (f_M_write ((48 : Int32) + (irm (a1 / v20) (10 : Int32))) M) fun (M5 : Mem) => nm (v20 / (10 : Int32)) fun (x6 : Int32) => lp_M_writeNumber_20 N0 rr a1 N x6 M5 k20)) else (k20 v20 M)
def f_M_writeNumber (N : Nat) (rr : Nat) (a1 : Int32) (M : Mem) : Option (Mem) :=
  lp_M_writeNumber_2 N rr a1 N (1 : Int32) M (fun (a3 : Int32) (M2 : Mem) => lp_M_writeNumber_20 N rr a1 N a3 M2 (fun (a8 : Int32) (M7 : Mem) => some M7))
set_option maxHeartbeats 4000000 in
set_option maxRecDepth 100000 in
theorem c_M_writeNumber (l : Launch) (N : Nat) {w : Wc} {rr : Nat} (hw : WM w rr) (a1 : Int32) (M : Mem) : Ct QV l y_M_writeNumber b_M_writeNumber 4 none (rmL 1) w [.ref (wad w 145), .int a1] M (f_M_writeNumber N rr a1 M) := by
  refine Ct.go (by decide) (L := [(0, .ref (wad w 145)), (1, .int a1)]) rfl (Nat.le_of_ble_eq_true rfl) (fun p0 e s m args below meth c g hret => ?_)
  unfold f_M_writeNumber
  refine G_iconst g (pc := 0) (1 : Int32) d_M_writeNumber_0 rfl ?_
  refine G_istore_n g (pc := 1) _ d_M_writeNumber_1 rfl (Nat.le_of_ble_eq_true rfl) rfl ?_
  refine G_sub [1, 2, 0] _ rfl ?_
  refine G_loop (F := lp_M_writeNumber_2 N rr a1) 2 18 (fun (v2 : Int32) => [(0, .ref (wad w 145)), (1, .int a1), (2, .int v2)]) (fun (v2 : Int32) => [(0, .ref (wad w 145)), (1, .int a1), (2, .int v2)]) (fun _ _ _ => rfl) (fun a3 M2 => ?_) (fun k2 hk2 Nl2 ih2 v2 M => ?_) N (1 : Int32) M
  · refine G_iload_n g (pc := 18) 2 d_M_writeNumber_18 rfl rfl ?_
    refine G_istore_n g (pc := 19) _ d_M_writeNumber_19 rfl (Nat.le_of_ble_eq_true rfl) rfl ?_
    refine G_sub [1, 2, 3, 0] _ rfl ?_
    refine G_loop (F := lp_M_writeNumber_20 N rr a1) 20 45 (fun (v20 : Int32) => [(0, .ref (wad w 145)), (1, .int a1), (2, .int a3), (3, .int v20)]) (fun (v20 : Int32) => [(0, .ref (wad w 145)), (1, .int a1), (2, .int a3), (3, .int v20)]) (fun _ _ _ => rfl) (fun a8 M7 => ?_) (fun k20 hk20 Nl20 ih20 v20 M => ?_) N a3 M2
    · exact G_return g (pc := 45) hret (Nat.le_of_ble_eq_true rfl) (Nat.le_of_ble_eq_true rfl) d_M_writeNumber_45
    · show Go p0 l e _ s m args below meth c w _ _ _ _ (lp_M_writeNumber_20 N rr a1 (Nl20 + 1) v20 M k20) 20 _ _ M
      unfold lp_M_writeNumber_20
      refine G_iload_n g (pc := 20) 3 d_M_writeNumber_20 rfl rfl ?_
      refine G_if_le g (pc := 21) 45 d_M_writeNumber_21 (by decide) ?_ ?_
      · refine G_aload_n g (pc := 24) 0 d_M_writeNumber_24 rfl rfl ?_
        refine G_bipush g (pc := 25) (48 : Int32) d_M_writeNumber_25 rfl ?_
        refine G_iload_n g (pc := 27) 1 d_M_writeNumber_27 rfl rfl ?_
        refine G_iload_n g (pc := 28) 3 d_M_writeNumber_28 rfl rfl ?_
        refine G_idiv g (pc := 29) d_M_writeNumber_29 ?_
        refine G_bipush g (pc := 30) (10 : Int32) d_M_writeNumber_30 rfl ?_
        refine G_iremK g (pc := 32) (by decide) d_M_writeNumber_32 ?_
        refine G_iadd g (pc := 33) d_M_writeNumber_33 ?_
        refine G_cVV g (pc := 34) (As := [.int ((48 : Int32) + (irm (a1 / v20) (10 : Int32)))]) (st := []) cc_M_225 (c_M_write l hw ((48 : Int32) + (irm (a1 / v20) (10 : Int32))) M) (hw.mm 145 (Nat.le_of_ble_eq_true rfl) (Nat.le_of_ble_eq_true rfl)) (hw.k (zk145 rr)) rfl (by decide) rfl ⟨(Nat.le_of_ble_eq_true rfl), (Nat.le_of_ble_eq_true rfl)⟩ ⟨(Nat.le_of_ble_eq_true rfl), (Nat.le_of_ble_eq_true rfl)⟩ (Nat.le_of_ble_eq_true rfl) d_M_writeNumber_34 (fun M5 => ?_)
        refine G_iload_n g (pc := 37) 3 d_M_writeNumber_37 rfl rfl ?_
        refine G_bipush g (pc := 38) (10 : Int32) d_M_writeNumber_38 rfl ?_
        refine G_idivK g (pc := 40) (by decide) d_M_writeNumber_40 ?_
        refine G_nmI (fun x6 => ?_)
        refine G_istore_n g (pc := 41) _ d_M_writeNumber_41 rfl (Nat.le_of_ble_eq_true rfl) rfl ?_
        refine G_goto g (pc := 42) 20 d_M_writeNumber_42 (by decide) ?_
        refine G_sub [1, 2, 3, 0] _ rfl ?_
        exact ih20 x6 M5
      · refine G_sub [0, 1, 2, 3] _ rfl ?_
        exact hk20 v20 M
  · show Go p0 l e _ s m args below meth c w _ _ _ _ (lp_M_writeNumber_2 N rr a1 (Nl2 + 1) v2 M k2) 2 _ _ M
    unfold lp_M_writeNumber_2
    refine G_iload_n g (pc := 2) 1 d_M_writeNumber_2 rfl rfl ?_
    refine G_iload_n g (pc := 3) 2 d_M_writeNumber_3 rfl rfl ?_
    refine G_idiv g (pc := 4) d_M_writeNumber_4 ?_
    refine G_bipush g (pc := 5) (9 : Int32) d_M_writeNumber_5 rfl ?_
    refine G_icmp_le g (pc := 7) 18 d_M_writeNumber_7 (by decide) ?_ ?_
    · refine G_iload_n g (pc := 10) 2 d_M_writeNumber_10 rfl rfl ?_
      refine G_bipush g (pc := 11) (10 : Int32) d_M_writeNumber_11 rfl ?_
      refine G_imul g (pc := 13) d_M_writeNumber_13 ?_
      refine G_nmI (fun x1 => ?_)
      refine G_istore_n g (pc := 14) _ d_M_writeNumber_14 rfl (Nat.le_of_ble_eq_true rfl) rfl ?_
      refine G_goto g (pc := 15) 2 d_M_writeNumber_15 (by decide) ?_
      refine G_sub [1, 2, 0] _ rfl ?_
      exact ih2 x1 M
    · refine G_sub [0, 1, 2] _ rfl ?_
      exact hk2 v2 M

theorem d_M_writeLogger_0 : decode b_M_writeLogger 0 = .ok (.aload_n 0, 1) := by decide +kernel
theorem d_M_writeLogger_1 : decode b_M_writeLogger 1 = .ok (.iconst 0, 1) := by decide +kernel
theorem d_M_writeLogger_2 : decode b_M_writeLogger 2 = .ok (.putfield 76, 3) := by decide +kernel
theorem d_M_writeLogger_5 : decode b_M_writeLogger 5 = .ok (.aload_n 0, 1) := by decide +kernel
theorem d_M_writeLogger_6 : decode b_M_writeLogger 6 = .ok (.iconst 0, 1) := by decide +kernel
theorem d_M_writeLogger_7 : decode b_M_writeLogger 7 = .ok (.putfield 222, 3) := by decide +kernel
theorem d_M_writeLogger_10 : decode b_M_writeLogger 10 = .ok (.iconst 0, 1) := by decide +kernel
theorem d_M_writeLogger_11 : decode b_M_writeLogger 11 = .ok (.istore_n 1, 1) := by decide +kernel
theorem d_M_writeLogger_12 : decode b_M_writeLogger 12 = .ok (.iload_n 1, 1) := by decide +kernel
theorem d_M_writeLogger_13 : decode b_M_writeLogger 13 = .ok (.aload_n 0, 1) := by decide +kernel
theorem d_M_writeLogger_14 : decode b_M_writeLogger 14 = .ok (.getfield 28, 3) := by decide +kernel
theorem d_M_writeLogger_17 : decode b_M_writeLogger 17 = .ok (.bipush 17, 2) := by decide +kernel
theorem d_M_writeLogger_19 : decode b_M_writeLogger 19 = .ok (.iaload, 1) := by decide +kernel
theorem d_M_writeLogger_20 : decode b_M_writeLogger 20 = .ok (.if_icmp .ge 74, 3) := by decide +kernel
theorem d_M_writeLogger_23 : decode b_M_writeLogger 23 = .ok (.bipush 45, 2) := by decide +kernel
theorem d_M_writeLogger_25 : decode b_M_writeLogger 25 = .ok (.iconst 3, 1) := by decide +kernel
theorem d_M_writeLogger_26 : decode b_M_writeLogger 26 = .ok (.iload_n 1, 1) := by decide +kernel
theorem d_M_writeLogger_27 : decode b_M_writeLogger 27 = .ok (.imul, 1) := by decide +kernel
theorem d_M_writeLogger_28 : decode b_M_writeLogger 28 = .ok (.iadd, 1) := by decide +kernel
theorem d_M_writeLogger_29 : decode b_M_writeLogger 29 = .ok (.istore_n 2, 1) := by decide +kernel
theorem d_M_writeLogger_30 : decode b_M_writeLogger 30 = .ok (.iload_n 1, 1) := by decide +kernel
theorem d_M_writeLogger_31 : decode b_M_writeLogger 31 = .ok (.ifCond .le 9, 3) := by decide +kernel
theorem d_M_writeLogger_34 : decode b_M_writeLogger 34 = .ok (.aload_n 0, 1) := by decide +kernel
theorem d_M_writeLogger_35 : decode b_M_writeLogger 35 = .ok (.bipush 32, 2) := by decide +kernel
theorem d_M_writeLogger_37 : decode b_M_writeLogger 37 = .ok (.invokevirtual 225, 3) := by decide +kernel
theorem d_M_writeLogger_40 : decode b_M_writeLogger 40 = .ok (.aload_n 0, 1) := by decide +kernel
theorem d_M_writeLogger_41 : decode b_M_writeLogger 41 = .ok (.aload_n 0, 1) := by decide +kernel
theorem d_M_writeLogger_42 : decode b_M_writeLogger 42 = .ok (.getfield 28, 3) := by decide +kernel
theorem d_M_writeLogger_45 : decode b_M_writeLogger 45 = .ok (.iload_n 2, 1) := by decide +kernel
theorem d_M_writeLogger_46 : decode b_M_writeLogger 46 = .ok (.iconst 0, 1) := by decide +kernel
theorem d_M_writeLogger_47 : decode b_M_writeLogger 47 = .ok (.iadd, 1) := by decide +kernel
theorem d_M_writeLogger_48 : decode b_M_writeLogger 48 = .ok (.iaload, 1) := by decide +kernel
theorem d_M_writeLogger_49 : decode b_M_writeLogger 49 = .ok (.invokevirtual 228, 3) := by decide +kernel
theorem d_M_writeLogger_52 : decode b_M_writeLogger 52 = .ok (.aload_n 0, 1) := by decide +kernel
theorem d_M_writeLogger_53 : decode b_M_writeLogger 53 = .ok (.bipush 64, 2) := by decide +kernel
theorem d_M_writeLogger_55 : decode b_M_writeLogger 55 = .ok (.invokevirtual 225, 3) := by decide +kernel
theorem d_M_writeLogger_58 : decode b_M_writeLogger 58 = .ok (.aload_n 0, 1) := by decide +kernel
theorem d_M_writeLogger_59 : decode b_M_writeLogger 59 = .ok (.aload_n 0, 1) := by decide +kernel
theorem d_M_writeLogger_60 : decode b_M_writeLogger 60 = .ok (.getfield 28, 3) := by decide +kernel
theorem d_M_writeLogger_63 : decode b_M_writeLogger 63 = .ok (.iload_n 2, 1) := by decide +kernel
theorem d_M_writeLogger_64 : decode b_M_writeLogger 64 = .ok (.iconst 1, 1) := by decide +kernel
theorem d_M_writeLogger_65 : decode b_M_writeLogger 65 = .ok (.iadd, 1) := by decide +kernel
theorem d_M_writeLogger_66 : decode b_M_writeLogger 66 = .ok (.iaload, 1) := by decide +kernel
theorem d_M_writeLogger_67 : decode b_M_writeLogger 67 = .ok (.invokevirtual 228, 3) := by decide +kernel
theorem d_M_writeLogger_70 : decode b_M_writeLogger 70 = .ok (.aload_n 0, 1) := by decide +kernel
theorem d_M_writeLogger_71 : decode b_M_writeLogger 71 = .ok (.bipush 44, 2) := by decide +kernel
theorem d_M_writeLogger_73 : decode b_M_writeLogger 73 = .ok (.invokevirtual 225, 3) := by decide +kernel
theorem d_M_writeLogger_76 : decode b_M_writeLogger 76 = .ok (.aload_n 0, 1) := by decide +kernel
theorem d_M_writeLogger_77 : decode b_M_writeLogger 77 = .ok (.aload_n 0, 1) := by decide +kernel
theorem d_M_writeLogger_78 : decode b_M_writeLogger 78 = .ok (.getfield 28, 3) := by decide +kernel
theorem d_M_writeLogger_81 : decode b_M_writeLogger 81 = .ok (.iload_n 2, 1) := by decide +kernel
theorem d_M_writeLogger_82 : decode b_M_writeLogger 82 = .ok (.iconst 2, 1) := by decide +kernel
theorem d_M_writeLogger_83 : decode b_M_writeLogger 83 = .ok (.iadd, 1) := by decide +kernel
theorem d_M_writeLogger_84 : decode b_M_writeLogger 84 = .ok (.iaload, 1) := by decide +kernel
theorem d_M_writeLogger_85 : decode b_M_writeLogger 85 = .ok (.invokevirtual 228, 3) := by decide +kernel
theorem d_M_writeLogger_88 : decode b_M_writeLogger 88 = .ok (.iinc 1 1, 3) := by decide +kernel
theorem d_M_writeLogger_91 : decode b_M_writeLogger 91 = .ok (.goto (-79), 3) := by decide +kernel
theorem d_M_writeLogger_94 : decode b_M_writeLogger 94 = .ok (.aload_n 0, 1) := by decide +kernel
theorem d_M_writeLogger_95 : decode b_M_writeLogger 95 = .ok (.getfield 222, 3) := by decide +kernel
theorem d_M_writeLogger_98 : decode b_M_writeLogger 98 = .ok (.ireturn, 1) := by decide +kernel
theorem cc_M_228 : CV "KiteLoggerModel" 228 y_M_writeNumber b_M_writeNumber 4 none 1 := ⟨TT_in (i := 1822) (by decide +kernel) (by decide +kernel), TT_in (i := 1824) (by decide +kernel) (by decide +kernel), TT_in (i := 61) (by decide +kernel) (by decide +kernel), TT_in (i := 100) (by decide +kernel) (by decide +kernel), TT_in (i := 1825) (by decide +kernel) (by decide +kernel), ⟨by decide +kernel, by decide +kernel, by decide +kernel⟩⟩
def lp_M_writeLogger_12 (N0 rr : Nat)   : Nat → Int32 → Mem → (Int32 → Mem → Option (Int32 × Mem)) → Option (Int32 × Mem)
  | 0, _, _, _ => none
  | N + 1, v12, M, k12 => if v12 < (M rr 17) then (nm ((45 : Int32) + ((3 : Int32) * v12)) fun (x3 : Int32) => if 0 < v12 then (bndM (f_M_write (32 : Int32) M) fun (M5 : Mem) => grd (inB (x3 + (0 : Int32)) 405) (bndM (f_M_writeNumber N0 rr (M5 rr (x3 + (0 : Int32)).toNatClampNeg) M5) fun (M7 : Mem) => bndM (f_M_write (64 : Int32) M7) fun (M9 : Mem) => grd (inB (x3 + (1 : Int32)) 405) (bndM (f_M_writeNumber N0 rr (M9 rr (x3 + (1 : Int32)).toNatClampNeg) M9) fun (M11 : Mem) => bndM (f_M_write (44 : Int32) M11) fun (M13 : Mem) => grd (inB (x3 + (2 : Int32)) 405) (bndM (f_M_writeNumber N0 rr (M13 rr (x3 + (2 : Int32)).toNatClampNeg) M13) fun (M15 : Mem) => nm (v12 + (1 : Int32)) fun (x16 : Int32) => lp_M_writeLogger_12 N0 rr N x16 M15 k12)))) else (grd (inB (x3 + (0 : Int32)) 405) (bndM (f_M_writeNumber N0 rr (M rr (x3 + (0 : Int32)).toNatClampNeg) M) fun (M18 : Mem) => bndM (f_M_write (64 : Int32) M18) fun (M20 : Mem) => grd (inB (x3 + (1 : Int32)) 405) (bndM (f_M_writeNumber N0 rr (M20 rr (x3 + (1 : Int32)).toNatClampNeg) M20) fun (M22 : Mem) => bndM (f_M_write (44 : Int32) M22) fun (M24 : Mem) => grd (inB (x3 + (2 : Int32)) 405) (bndM (f_M_writeNumber N0 rr (M24 rr (x3 + (2 : Int32)).toNatClampNeg) M24) fun (M26 : Mem) => nm (v12 + (1 : Int32)) fun (x27 : Int32) => lp_M_writeLogger_12 N0 rr N x27 M26 k12))))) else (k12 v12 M)
def f_M_writeLogger (N : Nat) (rr : Nat) (M : Mem) : Option (Int32 × Mem) :=
  nm (put M 145 8 (0 : Int32)) fun (M1 : Mem) => nm (put M1 145 13 (0 : Int32)) fun (M2 : Mem) => lp_M_writeLogger_12 N rr N (0 : Int32) M2 (fun (a29 : Int32) (M28 : Mem) => some (M28 145 13, M28))
set_option maxHeartbeats 4000000 in
set_option maxRecDepth 100000 in
theorem c_M_writeLogger (l : Launch) (N : Nat) {w : Wc} {rr : Nat} (hw : WM w rr)  (M : Mem) : Ct QI l y_M_writeLogger b_M_writeLogger 3 (some .int) (rmL 2) w [.ref (wad w 145)] M (f_M_writeLogger N rr M) := by
  refine Ct.go (by decide) (L := [(0, .ref (wad w 145))]) rfl (Nat.le_of_ble_eq_true rfl) (fun p0 e s m args below meth c g hret => ?_)
  unfold f_M_writeLogger
  refine G_aload_n g (pc := 0) 0 d_M_writeLogger_0 rfl rfl ?_
  refine G_iconst g (pc := 1) (0 : Int32) d_M_writeLogger_1 rfl ?_
  refine G_put g (pc := 2) fa_M_76 fw_10_8 rfl rfl (hw.mm 145 (Nat.le_of_ble_eq_true rfl) (Nat.le_of_ble_eq_true rfl)) (hw.k (zk145 rr)) d_M_writeLogger_2 ?_
  refine G_nmM (fun M1 => ?_)
  refine G_aload_n g (pc := 5) 0 d_M_writeLogger_5 rfl rfl ?_
  refine G_iconst g (pc := 6) (0 : Int32) d_M_writeLogger_6 rfl ?_
  refine G_put g (pc := 7) fa_M_222 fw_10_13 rfl rfl (hw.mm 145 (Nat.le_of_ble_eq_true rfl) (Nat.le_of_ble_eq_true rfl)) (hw.k (zk145 rr)) d_M_writeLogger_7 ?_
  refine G_nmM (fun M2 => ?_)
  refine G_iconst g (pc := 10) (0 : Int32) d_M_writeLogger_10 rfl ?_
  refine G_istore_n g (pc := 11) _ d_M_writeLogger_11 rfl (Nat.le_of_ble_eq_true rfl) rfl ?_
  refine G_sub [1, 0] _ rfl ?_
  refine G_loop (F := lp_M_writeLogger_12 N rr) 12 94 (fun (v12 : Int32) => [(0, .ref (wad w 145)), (1, .int v12)]) (fun (v12 : Int32) => [(0, .ref (wad w 145)), (1, .int v12)]) (fun _ _ _ => rfl) (fun a29 M28 => ?_) (fun k12 hk12 Nl12 ih12 v12 M => ?_) N (0 : Int32) M2
  · refine G_aload_n g (pc := 94) 0 d_M_writeLogger_94 rfl rfl ?_
    refine G_get g (pc := 95) fa_M_222 (hw.mm 145 (Nat.le_of_ble_eq_true rfl) (Nat.le_of_ble_eq_true rfl)) (hw.k (zk145 rr)) d_M_writeLogger_95 ?_
    exact G_ireturn g (pc := 98) hret (Nat.le_of_ble_eq_true rfl) (Nat.le_of_ble_eq_true rfl) d_M_writeLogger_98
  · show Go p0 l e _ s m args below meth c w _ _ _ _ (lp_M_writeLogger_12 N rr (Nl12 + 1) v12 M k12) 12 _ _ M
    unfold lp_M_writeLogger_12
    refine G_iload_n g (pc := 12) 1 d_M_writeLogger_12 rfl rfl ?_
    refine G_aload_n g (pc := 13) 0 d_M_writeLogger_13 rfl rfl ?_
    refine G_getR g (pc := 14) fa_M_28 (hw.mm 145 (Nat.le_of_ble_eq_true rfl) (Nat.le_of_ble_eq_true rfl)) (hw.k (zk145 rr)) (hw.r hw.rr) d_M_writeLogger_14 ?_
    refine G_bipush g (pc := 17) (17 : Int32) d_M_writeLogger_17 rfl ?_
    refine G_ialdK g (pc := 19) (nn := 405) 17 rfl rfl hw.mr hw.kr hw.nr d_M_writeLogger_19 ?_
    refine G_icmp_ge g (pc := 20) 94 d_M_writeLogger_20 (by decide) ?_ ?_
    · refine G_bipush g (pc := 23) (45 : Int32) d_M_writeLogger_23 rfl ?_
      refine G_iconst g (pc := 25) (3 : Int32) d_M_writeLogger_25 rfl ?_
      refine G_iload_n g (pc := 26) 1 d_M_writeLogger_26 rfl rfl ?_
      refine G_imul g (pc := 27) d_M_writeLogger_27 ?_
      refine G_iadd g (pc := 28) d_M_writeLogger_28 ?_
      refine G_nmI (fun x3 => ?_)
      refine G_istore_n g (pc := 29) _ d_M_writeLogger_29 rfl (Nat.le_of_ble_eq_true rfl) rfl ?_
      refine G_iload_n g (pc := 30) 2 d_M_writeLogger_30 rfl rfl ?_
      refine G_if_le g (pc := 31) 40 d_M_writeLogger_31 (by decide) ?_ ?_
      · refine G_aload_n g (pc := 34) 1 d_M_writeLogger_34 rfl rfl ?_
        refine G_bipush g (pc := 35) (32 : Int32) d_M_writeLogger_35 rfl ?_
        refine G_cVV g (pc := 37) (As := [.int (32 : Int32)]) (st := []) cc_M_225 (c_M_write l hw (32 : Int32) M) (hw.mm 145 (Nat.le_of_ble_eq_true rfl) (Nat.le_of_ble_eq_true rfl)) (hw.k (zk145 rr)) rfl (by decide) rfl ⟨(Nat.le_of_ble_eq_true rfl), (Nat.le_of_ble_eq_true rfl)⟩ ⟨(Nat.le_of_ble_eq_true rfl), (Nat.le_of_ble_eq_true rfl)⟩ (Nat.le_of_ble_eq_true rfl) d_M_writeLogger_37 (fun M5 => ?_)
        refine G_aload_n g (pc := 40) 1 d_M_writeLogger_40 rfl rfl ?_
        refine G_aload_n g (pc := 41) 1 d_M_writeLogger_41 rfl rfl ?_
        refine G_getR g (pc := 42) fa_M_28 (hw.mm 145 (Nat.le_of_ble_eq_true rfl) (Nat.le_of_ble_eq_true rfl)) (hw.k (zk145 rr)) (hw.r hw.rr) d_M_writeLogger_42 ?_
        refine G_iload_n g (pc := 45) 0 d_M_writeLogger_45 rfl rfl ?_
        refine G_iconst g (pc := 46) (0 : Int32) d_M_writeLogger_46 rfl ?_
        refine G_iadd g (pc := 47) d_M_writeLogger_47 ?_
        refine G_iald g (pc := 48) (nn := 405) hw.mr hw.kr hw.nr d_M_writeLogger_48 ?_
        refine G_cVV g (pc := 49) (As := [.int (M5 rr (x3 + (0 : Int32)).toNatClampNeg)]) (st := []) cc_M_228 (c_M_writeNumber l N hw (M5 rr (x3 + (0 : Int32)).toNatClampNeg) M5) (hw.mm 145 (Nat.le_of_ble_eq_true rfl) (Nat.le_of_ble_eq_true rfl)) (hw.k (zk145 rr)) rfl (by decide) rfl ⟨(Nat.le_of_ble_eq_true rfl), (Nat.le_of_ble_eq_true rfl)⟩ ⟨(Nat.le_of_ble_eq_true rfl), (Nat.le_of_ble_eq_true rfl)⟩ (Nat.le_of_ble_eq_true rfl) d_M_writeLogger_49 (fun M7 => ?_)
        refine G_aload_n g (pc := 52) 1 d_M_writeLogger_52 rfl rfl ?_
        refine G_bipush g (pc := 53) (64 : Int32) d_M_writeLogger_53 rfl ?_
        refine G_cVV g (pc := 55) (As := [.int (64 : Int32)]) (st := []) cc_M_225 (c_M_write l hw (64 : Int32) M7) (hw.mm 145 (Nat.le_of_ble_eq_true rfl) (Nat.le_of_ble_eq_true rfl)) (hw.k (zk145 rr)) rfl (by decide) rfl ⟨(Nat.le_of_ble_eq_true rfl), (Nat.le_of_ble_eq_true rfl)⟩ ⟨(Nat.le_of_ble_eq_true rfl), (Nat.le_of_ble_eq_true rfl)⟩ (Nat.le_of_ble_eq_true rfl) d_M_writeLogger_55 (fun M9 => ?_)
        refine G_aload_n g (pc := 58) 1 d_M_writeLogger_58 rfl rfl ?_
        refine G_aload_n g (pc := 59) 1 d_M_writeLogger_59 rfl rfl ?_
        refine G_getR g (pc := 60) fa_M_28 (hw.mm 145 (Nat.le_of_ble_eq_true rfl) (Nat.le_of_ble_eq_true rfl)) (hw.k (zk145 rr)) (hw.r hw.rr) d_M_writeLogger_60 ?_
        refine G_iload_n g (pc := 63) 0 d_M_writeLogger_63 rfl rfl ?_
        refine G_iconst g (pc := 64) (1 : Int32) d_M_writeLogger_64 rfl ?_
        refine G_iadd g (pc := 65) d_M_writeLogger_65 ?_
        refine G_iald g (pc := 66) (nn := 405) hw.mr hw.kr hw.nr d_M_writeLogger_66 ?_
        refine G_cVV g (pc := 67) (As := [.int (M9 rr (x3 + (1 : Int32)).toNatClampNeg)]) (st := []) cc_M_228 (c_M_writeNumber l N hw (M9 rr (x3 + (1 : Int32)).toNatClampNeg) M9) (hw.mm 145 (Nat.le_of_ble_eq_true rfl) (Nat.le_of_ble_eq_true rfl)) (hw.k (zk145 rr)) rfl (by decide) rfl ⟨(Nat.le_of_ble_eq_true rfl), (Nat.le_of_ble_eq_true rfl)⟩ ⟨(Nat.le_of_ble_eq_true rfl), (Nat.le_of_ble_eq_true rfl)⟩ (Nat.le_of_ble_eq_true rfl) d_M_writeLogger_67 (fun M11 => ?_)
        refine G_aload_n g (pc := 70) 1 d_M_writeLogger_70 rfl rfl ?_
        refine G_bipush g (pc := 71) (44 : Int32) d_M_writeLogger_71 rfl ?_
        refine G_cVV g (pc := 73) (As := [.int (44 : Int32)]) (st := []) cc_M_225 (c_M_write l hw (44 : Int32) M11) (hw.mm 145 (Nat.le_of_ble_eq_true rfl) (Nat.le_of_ble_eq_true rfl)) (hw.k (zk145 rr)) rfl (by decide) rfl ⟨(Nat.le_of_ble_eq_true rfl), (Nat.le_of_ble_eq_true rfl)⟩ ⟨(Nat.le_of_ble_eq_true rfl), (Nat.le_of_ble_eq_true rfl)⟩ (Nat.le_of_ble_eq_true rfl) d_M_writeLogger_73 (fun M13 => ?_)
        refine G_aload_n g (pc := 76) 1 d_M_writeLogger_76 rfl rfl ?_
        refine G_aload_n g (pc := 77) 1 d_M_writeLogger_77 rfl rfl ?_
        refine G_getR g (pc := 78) fa_M_28 (hw.mm 145 (Nat.le_of_ble_eq_true rfl) (Nat.le_of_ble_eq_true rfl)) (hw.k (zk145 rr)) (hw.r hw.rr) d_M_writeLogger_78 ?_
        refine G_iload_n g (pc := 81) 0 d_M_writeLogger_81 rfl rfl ?_
        refine G_iconst g (pc := 82) (2 : Int32) d_M_writeLogger_82 rfl ?_
        refine G_iadd g (pc := 83) d_M_writeLogger_83 ?_
        refine G_iald g (pc := 84) (nn := 405) hw.mr hw.kr hw.nr d_M_writeLogger_84 ?_
        refine G_cVV g (pc := 85) (As := [.int (M13 rr (x3 + (2 : Int32)).toNatClampNeg)]) (st := []) cc_M_228 (c_M_writeNumber l N hw (M13 rr (x3 + (2 : Int32)).toNatClampNeg) M13) (hw.mm 145 (Nat.le_of_ble_eq_true rfl) (Nat.le_of_ble_eq_true rfl)) (hw.k (zk145 rr)) rfl (by decide) rfl ⟨(Nat.le_of_ble_eq_true rfl), (Nat.le_of_ble_eq_true rfl)⟩ ⟨(Nat.le_of_ble_eq_true rfl), (Nat.le_of_ble_eq_true rfl)⟩ (Nat.le_of_ble_eq_true rfl) d_M_writeLogger_85 (fun M15 => ?_)
        refine G_nmX (v12 + (1 : Int32)) (fun x16 e_x16 => ?_)
        refine G_iinc g (pc := 88) x16 _ 2 d_M_writeLogger_88 rfl e_x16.symm (Nat.le_of_ble_eq_true rfl) rfl ?_
        refine G_goto g (pc := 91) 12 d_M_writeLogger_91 (by decide) ?_
        refine G_sub [2, 0] _ rfl ?_
        exact ih12 x16 M15
      · refine G_aload_n g (pc := 40) 1 d_M_writeLogger_40 rfl rfl ?_
        refine G_aload_n g (pc := 41) 1 d_M_writeLogger_41 rfl rfl ?_
        refine G_getR g (pc := 42) fa_M_28 (hw.mm 145 (Nat.le_of_ble_eq_true rfl) (Nat.le_of_ble_eq_true rfl)) (hw.k (zk145 rr)) (hw.r hw.rr) d_M_writeLogger_42 ?_
        refine G_iload_n g (pc := 45) 0 d_M_writeLogger_45 rfl rfl ?_
        refine G_iconst g (pc := 46) (0 : Int32) d_M_writeLogger_46 rfl ?_
        refine G_iadd g (pc := 47) d_M_writeLogger_47 ?_
        refine G_iald g (pc := 48) (nn := 405) hw.mr hw.kr hw.nr d_M_writeLogger_48 ?_
        refine G_cVV g (pc := 49) (As := [.int (M rr (x3 + (0 : Int32)).toNatClampNeg)]) (st := []) cc_M_228 (c_M_writeNumber l N hw (M rr (x3 + (0 : Int32)).toNatClampNeg) M) (hw.mm 145 (Nat.le_of_ble_eq_true rfl) (Nat.le_of_ble_eq_true rfl)) (hw.k (zk145 rr)) rfl (by decide) rfl ⟨(Nat.le_of_ble_eq_true rfl), (Nat.le_of_ble_eq_true rfl)⟩ ⟨(Nat.le_of_ble_eq_true rfl), (Nat.le_of_ble_eq_true rfl)⟩ (Nat.le_of_ble_eq_true rfl) d_M_writeLogger_49 (fun M18 => ?_)
        refine G_aload_n g (pc := 52) 1 d_M_writeLogger_52 rfl rfl ?_
        refine G_bipush g (pc := 53) (64 : Int32) d_M_writeLogger_53 rfl ?_
        refine G_cVV g (pc := 55) (As := [.int (64 : Int32)]) (st := []) cc_M_225 (c_M_write l hw (64 : Int32) M18) (hw.mm 145 (Nat.le_of_ble_eq_true rfl) (Nat.le_of_ble_eq_true rfl)) (hw.k (zk145 rr)) rfl (by decide) rfl ⟨(Nat.le_of_ble_eq_true rfl), (Nat.le_of_ble_eq_true rfl)⟩ ⟨(Nat.le_of_ble_eq_true rfl), (Nat.le_of_ble_eq_true rfl)⟩ (Nat.le_of_ble_eq_true rfl) d_M_writeLogger_55 (fun M20 => ?_)
        refine G_aload_n g (pc := 58) 1 d_M_writeLogger_58 rfl rfl ?_
        refine G_aload_n g (pc := 59) 1 d_M_writeLogger_59 rfl rfl ?_
        refine G_getR g (pc := 60) fa_M_28 (hw.mm 145 (Nat.le_of_ble_eq_true rfl) (Nat.le_of_ble_eq_true rfl)) (hw.k (zk145 rr)) (hw.r hw.rr) d_M_writeLogger_60 ?_
        refine G_iload_n g (pc := 63) 0 d_M_writeLogger_63 rfl rfl ?_
        refine G_iconst g (pc := 64) (1 : Int32) d_M_writeLogger_64 rfl ?_
        refine G_iadd g (pc := 65) d_M_writeLogger_65 ?_
        refine G_iald g (pc := 66) (nn := 405) hw.mr hw.kr hw.nr d_M_writeLogger_66 ?_
        refine G_cVV g (pc := 67) (As := [.int (M20 rr (x3 + (1 : Int32)).toNatClampNeg)]) (st := []) cc_M_228 (c_M_writeNumber l N hw (M20 rr (x3 + (1 : Int32)).toNatClampNeg) M20) (hw.mm 145 (Nat.le_of_ble_eq_true rfl) (Nat.le_of_ble_eq_true rfl)) (hw.k (zk145 rr)) rfl (by decide) rfl ⟨(Nat.le_of_ble_eq_true rfl), (Nat.le_of_ble_eq_true rfl)⟩ ⟨(Nat.le_of_ble_eq_true rfl), (Nat.le_of_ble_eq_true rfl)⟩ (Nat.le_of_ble_eq_true rfl) d_M_writeLogger_67 (fun M22 => ?_)
        refine G_aload_n g (pc := 70) 1 d_M_writeLogger_70 rfl rfl ?_
        refine G_bipush g (pc := 71) (44 : Int32) d_M_writeLogger_71 rfl ?_
        refine G_cVV g (pc := 73) (As := [.int (44 : Int32)]) (st := []) cc_M_225 (c_M_write l hw (44 : Int32) M22) (hw.mm 145 (Nat.le_of_ble_eq_true rfl) (Nat.le_of_ble_eq_true rfl)) (hw.k (zk145 rr)) rfl (by decide) rfl ⟨(Nat.le_of_ble_eq_true rfl), (Nat.le_of_ble_eq_true rfl)⟩ ⟨(Nat.le_of_ble_eq_true rfl), (Nat.le_of_ble_eq_true rfl)⟩ (Nat.le_of_ble_eq_true rfl) d_M_writeLogger_73 (fun M24 => ?_)
        refine G_aload_n g (pc := 76) 1 d_M_writeLogger_76 rfl rfl ?_
        refine G_aload_n g (pc := 77) 1 d_M_writeLogger_77 rfl rfl ?_
        refine G_getR g (pc := 78) fa_M_28 (hw.mm 145 (Nat.le_of_ble_eq_true rfl) (Nat.le_of_ble_eq_true rfl)) (hw.k (zk145 rr)) (hw.r hw.rr) d_M_writeLogger_78 ?_
        refine G_iload_n g (pc := 81) 0 d_M_writeLogger_81 rfl rfl ?_
        refine G_iconst g (pc := 82) (2 : Int32) d_M_writeLogger_82 rfl ?_
        refine G_iadd g (pc := 83) d_M_writeLogger_83 ?_
        refine G_iald g (pc := 84) (nn := 405) hw.mr hw.kr hw.nr d_M_writeLogger_84 ?_
        refine G_cVV g (pc := 85) (As := [.int (M24 rr (x3 + (2 : Int32)).toNatClampNeg)]) (st := []) cc_M_228 (c_M_writeNumber l N hw (M24 rr (x3 + (2 : Int32)).toNatClampNeg) M24) (hw.mm 145 (Nat.le_of_ble_eq_true rfl) (Nat.le_of_ble_eq_true rfl)) (hw.k (zk145 rr)) rfl (by decide) rfl ⟨(Nat.le_of_ble_eq_true rfl), (Nat.le_of_ble_eq_true rfl)⟩ ⟨(Nat.le_of_ble_eq_true rfl), (Nat.le_of_ble_eq_true rfl)⟩ (Nat.le_of_ble_eq_true rfl) d_M_writeLogger_85 (fun M26 => ?_)
        refine G_nmX (v12 + (1 : Int32)) (fun x27 e_x27 => ?_)
        refine G_iinc g (pc := 88) x27 _ 2 d_M_writeLogger_88 rfl e_x27.symm (Nat.le_of_ble_eq_true rfl) rfl ?_
        refine G_goto g (pc := 91) 12 d_M_writeLogger_91 (by decide) ?_
        refine G_sub [2, 0] _ rfl ?_
        exact ih12 x27 M26
    · refine G_sub [0, 1] _ rfl ?_
      exact hk12 v12 M

theorem d_M_outputByte_0 : decode b_M_outputByte 0 = .ok (.aload_n 0, 1) := by decide +kernel
theorem d_M_outputByte_1 : decode b_M_outputByte 1 = .ok (.iload_n 1, 1) := by decide +kernel
theorem d_M_outputByte_2 : decode b_M_outputByte 2 = .ok (.iconst 0, 1) := by decide +kernel
theorem d_M_outputByte_3 : decode b_M_outputByte 3 = .ok (.aload_n 0, 1) := by decide +kernel
theorem d_M_outputByte_4 : decode b_M_outputByte 4 = .ok (.getfield 222, 3) := by decide +kernel
theorem d_M_outputByte_7 : decode b_M_outputByte 7 = .ok (.iconst 1, 1) := by decide +kernel
theorem d_M_outputByte_8 : decode b_M_outputByte 8 = .ok (.isub, 1) := by decide +kernel
theorem d_M_outputByte_9 : decode b_M_outputByte 9 = .ok (.invokestatic 83, 3) := by decide +kernel
theorem d_M_outputByte_12 : decode b_M_outputByte 12 = .ok (.invokevirtual 87, 3) := by decide +kernel
theorem d_M_outputByte_15 : decode b_M_outputByte 15 = .ok (.ifCond .eq 7, 3) := by decide +kernel
theorem d_M_outputByte_18 : decode b_M_outputByte 18 = .ok (.iconst 0, 1) := by decide +kernel
theorem d_M_outputByte_19 : decode b_M_outputByte 19 = .ok (.goto 9, 3) := by decide +kernel
theorem d_M_outputByte_22 : decode b_M_outputByte 22 = .ok (.aload_n 0, 1) := by decide +kernel
theorem d_M_outputByte_23 : decode b_M_outputByte 23 = .ok (.getfield 31, 3) := by decide +kernel
theorem d_M_outputByte_26 : decode b_M_outputByte 26 = .ok (.iload_n 1, 1) := by decide +kernel
theorem d_M_outputByte_27 : decode b_M_outputByte 27 = .ok (.iaload, 1) := by decide +kernel
theorem d_M_outputByte_28 : decode b_M_outputByte 28 = .ok (.ireturn, 1) := by decide +kernel
def f_M_outputByte (a1 : Int32) (M : Mem) : Option (Int32 × Mem) :=
  bnd (f_M_inRange a1 (0 : Int32) ((M 145 13) - (1 : Int32)) M) fun (x1 : Bool) (M2 : Mem) => bnd (f_M_lacks x1 M2) fun (x3 : Bool) (M4 : Mem) => if x3 = true then (some ((0 : Int32), M4)) else (grd (inB a1 400) (some (M4 152 a1.toNatClampNeg, M4)))
set_option maxHeartbeats 4000000 in
set_option maxRecDepth 100000 in
theorem c_M_outputByte (l : Launch) {w : Wc} {rr : Nat} (hw : WM w rr) (a1 : Int32) (M : Mem) : Ct QI l y_M_outputByte b_M_outputByte 2 (some .int) (rmL 1) w [.ref (wad w 145), .int a1] M (f_M_outputByte a1 M) := by
  refine Ct.go (by decide) (L := [(0, .ref (wad w 145)), (1, .int a1)]) rfl (Nat.le_of_ble_eq_true rfl) (fun p0 e s m args below meth c g hret => ?_)
  unfold f_M_outputByte
  refine G_aload_n g (pc := 0) 0 d_M_outputByte_0 rfl rfl ?_
  refine G_iload_n g (pc := 1) 1 d_M_outputByte_1 rfl rfl ?_
  refine G_iconst g (pc := 2) (0 : Int32) d_M_outputByte_2 rfl ?_
  refine G_aload_n g (pc := 3) 0 d_M_outputByte_3 rfl rfl ?_
  refine G_get g (pc := 4) fa_M_222 (hw.mm 145 (Nat.le_of_ble_eq_true rfl) (Nat.le_of_ble_eq_true rfl)) (hw.k (zk145 rr)) d_M_outputByte_4 ?_
  refine G_iconst g (pc := 7) (1 : Int32) d_M_outputByte_7 rfl ?_
  refine G_isub g (pc := 8) d_M_outputByte_8 ?_
  refine G_cSZ g (pc := 9) (As := [.int a1, .int (0 : Int32), .int ((M 145 13) - (1 : Int32))]) (st := [.ref (wad w 145)]) cc_M_83 (c_M_inRange l hw a1 (0 : Int32) ((M 145 13) - (1 : Int32)) M) rfl ⟨(Nat.le_of_ble_eq_true rfl), (Nat.le_of_ble_eq_true rfl)⟩ ⟨(Nat.le_of_ble_eq_true rfl), (Nat.le_of_ble_eq_true rfl)⟩ (Nat.le_of_ble_eq_true rfl) d_M_outputByte_9 (fun x1 M2 => ?_)
  refine G_cVZ g (pc := 12) (As := [.int (b2i x1)]) (st := []) cc_M_87 (c_M_lacks l hw x1 M2) (hw.mm 145 (Nat.le_of_ble_eq_true rfl) (Nat.le_of_ble_eq_true rfl)) (hw.k (zk145 rr)) rfl (by decide) rfl ⟨(Nat.le_of_ble_eq_true rfl), (Nat.le_of_ble_eq_true rfl)⟩ ⟨(Nat.le_of_ble_eq_true rfl), (Nat.le_of_ble_eq_true rfl)⟩ (Nat.le_of_ble_eq_true rfl) d_M_outputByte_12 (fun x3 M4 => ?_)
  refine G_if_eqB g (pc := 15) 22 d_M_outputByte_15 (by decide) ?_ ?_
  · refine G_iconst g (pc := 18) (0 : Int32) d_M_outputByte_18 rfl ?_
    refine G_goto g (pc := 19) 28 d_M_outputByte_19 (by decide) ?_
    exact G_ireturn g (pc := 28) hret (Nat.le_of_ble_eq_true rfl) (Nat.le_of_ble_eq_true rfl) d_M_outputByte_28
  · refine G_aload_n g (pc := 22) 0 d_M_outputByte_22 rfl rfl ?_
    refine G_getR g (pc := 23) fa_M_31 (hw.mm 145 (Nat.le_of_ble_eq_true rfl) (Nat.le_of_ble_eq_true rfl)) (hw.k (zk145 rr)) (hw.r (zr145_12 rr)) d_M_outputByte_23 ?_
    refine G_iload_n g (pc := 26) 1 d_M_outputByte_26 rfl rfl ?_
    refine G_iald g (pc := 27) (nn := 400) (hw.mm 152 (Nat.le_of_ble_eq_true rfl) (Nat.le_of_ble_eq_true rfl)) (hw.k (zk152 rr)) (hw.n (zn152 rr)) d_M_outputByte_27 ?_
    exact G_ireturn g (pc := 28) hret (Nat.le_of_ble_eq_true rfl) (Nat.le_of_ble_eq_true rfl) d_M_outputByte_28

theorem d_M_undoableCount_0 : decode b_M_undoableCount 0 = .ok (.aload_n 0, 1) := by decide +kernel
theorem d_M_undoableCount_1 : decode b_M_undoableCount 1 = .ok (.iconst 0, 1) := by decide +kernel
theorem d_M_undoableCount_2 : decode b_M_undoableCount 2 = .ok (.putfield 76, 3) := by decide +kernel
theorem d_M_undoableCount_5 : decode b_M_undoableCount 5 = .ok (.aload_n 0, 1) := by decide +kernel
theorem d_M_undoableCount_6 : decode b_M_undoableCount 6 = .ok (.getfield 186, 3) := by decide +kernel
theorem d_M_undoableCount_9 : decode b_M_undoableCount 9 = .ok (.ireturn, 1) := by decide +kernel
def f_M_undoableCount  (M : Mem) : Option (Int32 × Mem) :=
  nm (put M 145 8 (0 : Int32)) fun (M1 : Mem) => some (M1 145 7, M1)
set_option maxHeartbeats 4000000 in
set_option maxRecDepth 100000 in
theorem c_M_undoableCount (l : Launch) {w : Wc} {rr : Nat} (hw : WM w rr)  (M : Mem) : Ct QI l y_M_undoableCount b_M_undoableCount 1 (some .int) (rmL 0) w [.ref (wad w 145)] M (f_M_undoableCount  M) := by
  refine Ct.go (by decide) (L := [(0, .ref (wad w 145))]) rfl (Nat.le_of_ble_eq_true rfl) (fun p0 e s m args below meth c g hret => ?_)
  unfold f_M_undoableCount
  refine G_aload_n g (pc := 0) 0 d_M_undoableCount_0 rfl rfl ?_
  refine G_iconst g (pc := 1) (0 : Int32) d_M_undoableCount_1 rfl ?_
  refine G_put g (pc := 2) fa_M_76 fw_10_8 rfl rfl (hw.mm 145 (Nat.le_of_ble_eq_true rfl) (Nat.le_of_ble_eq_true rfl)) (hw.k (zk145 rr)) d_M_undoableCount_2 ?_
  refine G_nmM (fun M1 => ?_)
  refine G_aload_n g (pc := 5) 0 d_M_undoableCount_5 rfl rfl ?_
  refine G_get g (pc := 6) fa_M_186 (hw.mm 145 (Nat.le_of_ble_eq_true rfl) (Nat.le_of_ble_eq_true rfl)) (hw.k (zk145 rr)) d_M_undoableCount_6 ?_
  exact G_ireturn g (pc := 9) hret (Nat.le_of_ble_eq_true rfl) (Nat.le_of_ble_eq_true rfl) d_M_undoableCount_9

theorem d_M_undo_0 : decode b_M_undo 0 = .ok (.aload_n 0, 1) := by decide +kernel
theorem d_M_undo_1 : decode b_M_undo 1 = .ok (.aload_n 0, 1) := by decide +kernel
theorem d_M_undo_2 : decode b_M_undo 2 = .ok (.getfield 186, 3) := by decide +kernel
theorem d_M_undo_5 : decode b_M_undo 5 = .ok (.ifCond .le 7, 3) := by decide +kernel
theorem d_M_undo_8 : decode b_M_undo 8 = .ok (.iconst 1, 1) := by decide +kernel
theorem d_M_undo_9 : decode b_M_undo 9 = .ok (.goto 4, 3) := by decide +kernel
theorem d_M_undo_12 : decode b_M_undo 12 = .ok (.iconst 0, 1) := by decide +kernel
theorem d_M_undo_13 : decode b_M_undo 13 = .ok (.invokevirtual 87, 3) := by decide +kernel
theorem d_M_undo_16 : decode b_M_undo 16 = .ok (.ifCond .eq 5, 3) := by decide +kernel
theorem d_M_undo_19 : decode b_M_undo 19 = .ok (.iconst 0, 1) := by decide +kernel
theorem d_M_undo_20 : decode b_M_undo 20 = .ok (.ireturn, 1) := by decide +kernel
theorem d_M_undo_21 : decode b_M_undo 21 = .ok (.aload_n 0, 1) := by decide +kernel
theorem d_M_undo_22 : decode b_M_undo 22 = .ok (.dup, 1) := by decide +kernel
theorem d_M_undo_23 : decode b_M_undo 23 = .ok (.getfield 186, 3) := by decide +kernel
theorem d_M_undo_26 : decode b_M_undo 26 = .ok (.iconst 1, 1) := by decide +kernel
theorem d_M_undo_27 : decode b_M_undo 27 = .ok (.isub, 1) := by decide +kernel
theorem d_M_undo_28 : decode b_M_undo 28 = .ok (.putfield 186, 3) := by decide +kernel
theorem d_M_undo_31 : decode b_M_undo 31 = .ok (.aload_n 0, 1) := by decide +kernel
theorem d_M_undo_32 : decode b_M_undo 32 = .ok (.getfield 25, 3) := by decide +kernel
theorem d_M_undo_35 : decode b_M_undo 35 = .ok (.aload_n 0, 1) := by decide +kernel
theorem d_M_undo_36 : decode b_M_undo 36 = .ok (.getfield 186, 3) := by decide +kernel
theorem d_M_undo_39 : decode b_M_undo 39 = .ok (.aload_n 0, 1) := by decide +kernel
theorem d_M_undo_40 : decode b_M_undo 40 = .ok (.getfield 9, 3) := by decide +kernel
theorem d_M_undo_43 : decode b_M_undo 43 = .ok (.iconst 0, 1) := by decide +kernel
theorem d_M_undo_44 : decode b_M_undo 44 = .ok (.invokestatic 164, 3) := by decide +kernel
theorem d_M_undo_47 : decode b_M_undo 47 = .ok (.aload_n 0, 1) := by decide +kernel
theorem d_M_undo_48 : decode b_M_undo 48 = .ok (.getfield 186, 3) := by decide +kernel
theorem d_M_undo_51 : decode b_M_undo 51 = .ok (.ireturn, 1) := by decide +kernel
def f_M_undo  (M : Mem) : Option (Int32 × Mem) :=
  jn (fun (x2 : Bool) (M3 : Mem) => bnd (f_M_lacks x2 M3) fun (x4 : Bool) (M5 : Mem) => if x4 = true then (some ((0 : Int32), M5)) else (nm (put M5 145 7 ((M5 145 7) - (1 : Int32))) fun (M6 : Mem) => bndM (f_M_copy 151 (M6 145 7) 146 (0 : Int32) M6) fun (M8 : Mem) => some (M8 145 7, M8))) (fun j1 => if 0 < (M 145 7) then (j1 true M) else (j1 false M))
set_option maxHeartbeats 4000000 in
set_option maxRecDepth 100000 in
theorem c_M_undo (l : Launch) {w : Wc} {rr : Nat} (hw : WM w rr)  (M : Mem) : Ct QI l y_M_undo b_M_undo 1 (some .int) (rmL 2) w [.ref (wad w 145)] M (f_M_undo  M) := by
  refine Ct.go (by decide) (L := [(0, .ref (wad w 145))]) rfl (Nat.le_of_ble_eq_true rfl) (fun p0 e s m args below meth c g hret => ?_)
  unfold f_M_undo
  refine G_aload_n g (pc := 0) 0 d_M_undo_0 rfl rfl ?_
  refine G_aload_n g (pc := 1) 0 d_M_undo_1 rfl rfl ?_
  refine G_get g (pc := 2) fa_M_186 (hw.mm 145 (Nat.le_of_ble_eq_true rfl) (Nat.le_of_ble_eq_true rfl)) (hw.k (zk145 rr)) d_M_undo_2 ?_
  refine G_jn 13 (fun _ => [(0, .ref (wad w 145))]) (fun (x2 : Bool) => [.int (b2i x2), .ref (wad w 145)]) (fun x2 M3 => ?_) (fun j1 hj1 => ?_)
  · refine G_cVZ g (pc := 13) (As := [.int (b2i x2)]) (st := []) cc_M_87 (c_M_lacks l hw x2 M3) (hw.mm 145 (Nat.le_of_ble_eq_true rfl) (Nat.le_of_ble_eq_true rfl)) (hw.k (zk145 rr)) rfl (by decide) rfl ⟨(Nat.le_of_ble_eq_true rfl), (Nat.le_of_ble_eq_true rfl)⟩ ⟨(Nat.le_of_ble_eq_true rfl), (Nat.le_of_ble_eq_true rfl)⟩ (Nat.le_of_ble_eq_true rfl) d_M_undo_13 (fun x4 M5 => ?_)
    refine G_if_eqB g (pc := 16) 21 d_M_undo_16 (by decide) ?_ ?_
    · refine G_iconst g (pc := 19) (0 : Int32) d_M_undo_19 rfl ?_
      exact G_ireturn g (pc := 20) hret (Nat.le_of_ble_eq_true rfl) (Nat.le_of_ble_eq_true rfl) d_M_undo_20
    · refine G_aload_n g (pc := 21) 0 d_M_undo_21 rfl rfl ?_
      refine G_dup g (pc := 22) d_M_undo_22 rfl ?_
      refine G_get g (pc := 23) fa_M_186 (hw.mm 145 (Nat.le_of_ble_eq_true rfl) (Nat.le_of_ble_eq_true rfl)) (hw.k (zk145 rr)) d_M_undo_23 ?_
      refine G_iconst g (pc := 26) (1 : Int32) d_M_undo_26 rfl ?_
      refine G_isub g (pc := 27) d_M_undo_27 ?_
      refine G_put g (pc := 28) fa_M_186 fw_10_7 rfl rfl (hw.mm 145 (Nat.le_of_ble_eq_true rfl) (Nat.le_of_ble_eq_true rfl)) (hw.k (zk145 rr)) d_M_undo_28 ?_
      refine G_nmM (fun M6 => ?_)
      refine G_aload_n g (pc := 31) 0 d_M_undo_31 rfl rfl ?_
      refine G_getR g (pc := 32) fa_M_25 (hw.mm 145 (Nat.le_of_ble_eq_true rfl) (Nat.le_of_ble_eq_true rfl)) (hw.k (zk145 rr)) (hw.r (zr145_5 rr)) d_M_undo_32 ?_
      refine G_aload_n g (pc := 35) 0 d_M_undo_35 rfl rfl ?_
      refine G_get g (pc := 36) fa_M_186 (hw.mm 145 (Nat.le_of_ble_eq_true rfl) (Nat.le_of_ble_eq_true rfl)) (hw.k (zk145 rr)) d_M_undo_36 ?_
      refine G_aload_n g (pc := 39) 0 d_M_undo_39 rfl rfl ?_
      refine G_getR g (pc := 40) fa_M_9 (hw.mm 145 (Nat.le_of_ble_eq_true rfl) (Nat.le_of_ble_eq_true rfl)) (hw.k (zk145 rr)) (hw.r (zr145_0 rr)) d_M_undo_40 ?_
      refine G_iconst g (pc := 43) (0 : Int32) d_M_undo_43 rfl ?_
      refine G_cSV g (pc := 44) (As := [.ref (wad w 151), .int (M6 145 7), .ref (wad w 146), .int (0 : Int32)]) (st := []) cc_M_164 (c_M_copy l hw 151 (hw.mm 151 (Nat.le_of_ble_eq_true rfl) (Nat.le_of_ble_eq_true rfl)) (hw.k (zk151 rr)) (M6 145 7) 146 (hw.mm 146 (Nat.le_of_ble_eq_true rfl) (Nat.le_of_ble_eq_true rfl)) (hw.k (zk146 rr)) (0 : Int32) M6) rfl ⟨(Nat.le_of_ble_eq_true rfl), (Nat.le_of_ble_eq_true rfl)⟩ ⟨(Nat.le_of_ble_eq_true rfl), (Nat.le_of_ble_eq_true rfl)⟩ (Nat.le_of_ble_eq_true rfl) d_M_undo_44 (fun M8 => ?_)
      refine G_aload_n g (pc := 47) 0 d_M_undo_47 rfl rfl ?_
      refine G_get g (pc := 48) fa_M_186 (hw.mm 145 (Nat.le_of_ble_eq_true rfl) (Nat.le_of_ble_eq_true rfl)) (hw.k (zk145 rr)) d_M_undo_48 ?_
      exact G_ireturn g (pc := 51) hret (Nat.le_of_ble_eq_true rfl) (Nat.le_of_ble_eq_true rfl) d_M_undo_51
  · refine G_if_le g (pc := 5) 12 d_M_undo_5 (by decide) ?_ ?_
    · refine G_iconst g (pc := 8) (1 : Int32) d_M_undo_8 rfl ?_
      refine G_goto g (pc := 9) 13 d_M_undo_9 (by decide) ?_
      refine G_sub [0] _ rfl ?_
      exact hj1 true M
    · refine G_iconst g (pc := 12) (0 : Int32) d_M_undo_12 rfl ?_
      refine G_sub [0] _ rfl ?_
      exact hj1 false M

theorem d_M_saveSnapshot_0 : decode b_M_saveSnapshot 0 = .ok (.aload_n 0, 1) := by decide +kernel
theorem d_M_saveSnapshot_1 : decode b_M_saveSnapshot 1 = .ok (.iconst 0, 1) := by decide +kernel
theorem d_M_saveSnapshot_2 : decode b_M_saveSnapshot 2 = .ok (.putfield 76, 3) := by decide +kernel
theorem d_M_saveSnapshot_5 : decode b_M_saveSnapshot 5 = .ok (.aload_n 0, 1) := by decide +kernel
theorem d_M_saveSnapshot_6 : decode b_M_saveSnapshot 6 = .ok (.getfield 9, 3) := by decide +kernel
theorem d_M_saveSnapshot_9 : decode b_M_saveSnapshot 9 = .ok (.iconst 0, 1) := by decide +kernel
theorem d_M_saveSnapshot_10 : decode b_M_saveSnapshot 10 = .ok (.aload_n 0, 1) := by decide +kernel
theorem d_M_saveSnapshot_11 : decode b_M_saveSnapshot 11 = .ok (.getfield 22, 3) := by decide +kernel
theorem d_M_saveSnapshot_14 : decode b_M_saveSnapshot 14 = .ok (.iconst 0, 1) := by decide +kernel
theorem d_M_saveSnapshot_15 : decode b_M_saveSnapshot 15 = .ok (.invokestatic 164, 3) := by decide +kernel
theorem d_M_saveSnapshot_18 : decode b_M_saveSnapshot 18 = .ok (.aload_n 0, 1) := by decide +kernel
theorem d_M_saveSnapshot_19 : decode b_M_saveSnapshot 19 = .ok (.iconst 1, 1) := by decide +kernel
theorem d_M_saveSnapshot_20 : decode b_M_saveSnapshot 20 = .ok (.putfield 231, 3) := by decide +kernel
theorem d_M_saveSnapshot_23 : decode b_M_saveSnapshot 23 = .ok (.return_, 1) := by decide +kernel
def f_M_saveSnapshot  (M : Mem) : Option (Mem) :=
  nm (put M 145 8 (0 : Int32)) fun (M1 : Mem) => bndM (f_M_copy 146 (0 : Int32) 150 (0 : Int32) M1) fun (M3 : Mem) => nm (put M3 145 11 (1 : Int32)) fun (M4 : Mem) => some M4
set_option maxHeartbeats 4000000 in
set_option maxRecDepth 100000 in
theorem c_M_saveSnapshot (l : Launch) {w : Wc} {rr : Nat} (hw : WM w rr)  (M : Mem) : Ct QV l y_M_saveSnapshot b_M_saveSnapshot 1 none (rmL 2) w [.ref (wad w 145)] M (f_M_saveSnapshot  M) := by
  refine Ct.go (by decide) (L := [(0, .ref (wad w 145))]) rfl (Nat.le_of_ble_eq_true rfl) (fun p0 e s m args below meth c g hret => ?_)
  unfold f_M_saveSnapshot
  refine G_aload_n g (pc := 0) 0 d_M_saveSnapshot_0 rfl rfl ?_
  refine G_iconst g (pc := 1) (0 : Int32) d_M_saveSnapshot_1 rfl ?_
  refine G_put g (pc := 2) fa_M_76 fw_10_8 rfl rfl (hw.mm 145 (Nat.le_of_ble_eq_true rfl) (Nat.le_of_ble_eq_true rfl)) (hw.k (zk145 rr)) d_M_saveSnapshot_2 ?_
  refine G_nmM (fun M1 => ?_)
  refine G_aload_n g (pc := 5) 0 d_M_saveSnapshot_5 rfl rfl ?_
  refine G_getR g (pc := 6) fa_M_9 (hw.mm 145 (Nat.le_of_ble_eq_true rfl) (Nat.le_of_ble_eq_true rfl)) (hw.k (zk145 rr)) (hw.r (zr145_0 rr)) d_M_saveSnapshot_6 ?_
  refine G_iconst g (pc := 9) (0 : Int32) d_M_saveSnapshot_9 rfl ?_
  refine G_aload_n g (pc := 10) 0 d_M_saveSnapshot_10 rfl rfl ?_
  refine G_getR g (pc := 11) fa_M_22 (hw.mm 145 (Nat.le_of_ble_eq_true rfl) (Nat.le_of_ble_eq_true rfl)) (hw.k (zk145 rr)) (hw.r (zr145_4 rr)) d_M_saveSnapshot_11 ?_
  refine G_iconst g (pc := 14) (0 : Int32) d_M_saveSnapshot_14 rfl ?_
  refine G_cSV g (pc := 15) (As := [.ref (wad w 146), .int (0 : Int32), .ref (wad w 150), .int (0 : Int32)]) (st := []) cc_M_164 (c_M_copy l hw 146 (hw.mm 146 (Nat.le_of_ble_eq_true rfl) (Nat.le_of_ble_eq_true rfl)) (hw.k (zk146 rr)) (0 : Int32) 150 (hw.mm 150 (Nat.le_of_ble_eq_true rfl) (Nat.le_of_ble_eq_true rfl)) (hw.k (zk150 rr)) (0 : Int32) M1) rfl ⟨(Nat.le_of_ble_eq_true rfl), (Nat.le_of_ble_eq_true rfl)⟩ ⟨(Nat.le_of_ble_eq_true rfl), (Nat.le_of_ble_eq_true rfl)⟩ (Nat.le_of_ble_eq_true rfl) d_M_saveSnapshot_15 (fun M3 => ?_)
  refine G_aload_n g (pc := 18) 0 d_M_saveSnapshot_18 rfl rfl ?_
  refine G_iconst g (pc := 19) (1 : Int32) d_M_saveSnapshot_19 rfl ?_
  refine G_put g (pc := 20) fa_M_231 fw_10_11 rfl rfl (hw.mm 145 (Nat.le_of_ble_eq_true rfl) (Nat.le_of_ble_eq_true rfl)) (hw.k (zk145 rr)) d_M_saveSnapshot_20 ?_
  refine G_nmM (fun M4 => ?_)
  exact G_return g (pc := 23) hret (Nat.le_of_ble_eq_true rfl) (Nat.le_of_ble_eq_true rfl) d_M_saveSnapshot_23

theorem d_M_restoreSnapshot_0 : decode b_M_restoreSnapshot 0 = .ok (.aload_n 0, 1) := by decide +kernel
theorem d_M_restoreSnapshot_1 : decode b_M_restoreSnapshot 1 = .ok (.aload_n 0, 1) := by decide +kernel
theorem d_M_restoreSnapshot_2 : decode b_M_restoreSnapshot 2 = .ok (.getfield 231, 3) := by decide +kernel
theorem d_M_restoreSnapshot_5 : decode b_M_restoreSnapshot 5 = .ok (.invokevirtual 87, 3) := by decide +kernel
theorem d_M_restoreSnapshot_8 : decode b_M_restoreSnapshot 8 = .ok (.ifCond .eq 5, 3) := by decide +kernel
theorem d_M_restoreSnapshot_11 : decode b_M_restoreSnapshot 11 = .ok (.iconst 0, 1) := by decide +kernel
theorem d_M_restoreSnapshot_12 : decode b_M_restoreSnapshot 12 = .ok (.ireturn, 1) := by decide +kernel
theorem d_M_restoreSnapshot_13 : decode b_M_restoreSnapshot 13 = .ok (.aload_n 0, 1) := by decide +kernel
theorem d_M_restoreSnapshot_14 : decode b_M_restoreSnapshot 14 = .ok (.getfield 22, 3) := by decide +kernel
theorem d_M_restoreSnapshot_17 : decode b_M_restoreSnapshot 17 = .ok (.iconst 0, 1) := by decide +kernel
theorem d_M_restoreSnapshot_18 : decode b_M_restoreSnapshot 18 = .ok (.aload_n 0, 1) := by decide +kernel
theorem d_M_restoreSnapshot_19 : decode b_M_restoreSnapshot 19 = .ok (.getfield 9, 3) := by decide +kernel
theorem d_M_restoreSnapshot_22 : decode b_M_restoreSnapshot 22 = .ok (.iconst 0, 1) := by decide +kernel
theorem d_M_restoreSnapshot_23 : decode b_M_restoreSnapshot 23 = .ok (.invokestatic 164, 3) := by decide +kernel
theorem d_M_restoreSnapshot_26 : decode b_M_restoreSnapshot 26 = .ok (.aload_n 0, 1) := by decide +kernel
theorem d_M_restoreSnapshot_27 : decode b_M_restoreSnapshot 27 = .ok (.iconst 0, 1) := by decide +kernel
theorem d_M_restoreSnapshot_28 : decode b_M_restoreSnapshot 28 = .ok (.putfield 186, 3) := by decide +kernel
theorem d_M_restoreSnapshot_31 : decode b_M_restoreSnapshot 31 = .ok (.aload_n 0, 1) := by decide +kernel
theorem d_M_restoreSnapshot_32 : decode b_M_restoreSnapshot 32 = .ok (.getfield 28, 3) := by decide +kernel
theorem d_M_restoreSnapshot_35 : decode b_M_restoreSnapshot 35 = .ok (.iconst 0, 1) := by decide +kernel
theorem d_M_restoreSnapshot_36 : decode b_M_restoreSnapshot 36 = .ok (.iaload, 1) := by decide +kernel
theorem d_M_restoreSnapshot_37 : decode b_M_restoreSnapshot 37 = .ok (.ireturn, 1) := by decide +kernel
def f_M_restoreSnapshot (rr : Nat) (M : Mem) : Option (Int32 × Mem) :=
  bcase (M 145 11) fun (b1 : Bool) => bnd (f_M_lacks b1 M) fun (x2 : Bool) (M3 : Mem) => if x2 = true then (some ((0 : Int32), M3)) else (bndM (f_M_copy 150 (0 : Int32) 146 (0 : Int32) M3) fun (M5 : Mem) => nm (put M5 145 7 (0 : Int32)) fun (M6 : Mem) => some (M6 rr 0, M6))
set_option maxHeartbeats 4000000 in
set_option maxRecDepth 100000 in
theorem c_M_restoreSnapshot (l : Launch) {w : Wc} {rr : Nat} (hw : WM w rr)  (M : Mem) : Ct QI l y_M_restoreSnapshot b_M_restoreSnapshot 1 (some .int) (rmL 2) w [.ref (wad w 145)] M (f_M_restoreSnapshot rr M) := by
  refine Ct.go (by decide) (L := [(0, .ref (wad w 145))]) rfl (Nat.le_of_ble_eq_true rfl) (fun p0 e s m args below meth c g hret => ?_)
  unfold f_M_restoreSnapshot
  refine G_aload_n g (pc := 0) 0 d_M_restoreSnapshot_0 rfl rfl ?_
  refine G_aload_n g (pc := 1) 0 d_M_restoreSnapshot_1 rfl rfl ?_
  refine G_get g (pc := 2) fa_M_231 (hw.mm 145 (Nat.le_of_ble_eq_true rfl) (Nat.le_of_ble_eq_true rfl)) (hw.k (zk145 rr)) d_M_restoreSnapshot_2 ?_
  refine G_bcase (fun b1 => ?_)
  refine G_cVZ g (pc := 5) (As := [.int (b2i b1)]) (st := []) cc_M_87 (c_M_lacks l hw b1 M) (hw.mm 145 (Nat.le_of_ble_eq_true rfl) (Nat.le_of_ble_eq_true rfl)) (hw.k (zk145 rr)) rfl (by decide) rfl ⟨(Nat.le_of_ble_eq_true rfl), (Nat.le_of_ble_eq_true rfl)⟩ ⟨(Nat.le_of_ble_eq_true rfl), (Nat.le_of_ble_eq_true rfl)⟩ (Nat.le_of_ble_eq_true rfl) d_M_restoreSnapshot_5 (fun x2 M3 => ?_)
  refine G_if_eqB g (pc := 8) 13 d_M_restoreSnapshot_8 (by decide) ?_ ?_
  · refine G_iconst g (pc := 11) (0 : Int32) d_M_restoreSnapshot_11 rfl ?_
    exact G_ireturn g (pc := 12) hret (Nat.le_of_ble_eq_true rfl) (Nat.le_of_ble_eq_true rfl) d_M_restoreSnapshot_12
  · refine G_aload_n g (pc := 13) 0 d_M_restoreSnapshot_13 rfl rfl ?_
    refine G_getR g (pc := 14) fa_M_22 (hw.mm 145 (Nat.le_of_ble_eq_true rfl) (Nat.le_of_ble_eq_true rfl)) (hw.k (zk145 rr)) (hw.r (zr145_4 rr)) d_M_restoreSnapshot_14 ?_
    refine G_iconst g (pc := 17) (0 : Int32) d_M_restoreSnapshot_17 rfl ?_
    refine G_aload_n g (pc := 18) 0 d_M_restoreSnapshot_18 rfl rfl ?_
    refine G_getR g (pc := 19) fa_M_9 (hw.mm 145 (Nat.le_of_ble_eq_true rfl) (Nat.le_of_ble_eq_true rfl)) (hw.k (zk145 rr)) (hw.r (zr145_0 rr)) d_M_restoreSnapshot_19 ?_
    refine G_iconst g (pc := 22) (0 : Int32) d_M_restoreSnapshot_22 rfl ?_
    refine G_cSV g (pc := 23) (As := [.ref (wad w 150), .int (0 : Int32), .ref (wad w 146), .int (0 : Int32)]) (st := []) cc_M_164 (c_M_copy l hw 150 (hw.mm 150 (Nat.le_of_ble_eq_true rfl) (Nat.le_of_ble_eq_true rfl)) (hw.k (zk150 rr)) (0 : Int32) 146 (hw.mm 146 (Nat.le_of_ble_eq_true rfl) (Nat.le_of_ble_eq_true rfl)) (hw.k (zk146 rr)) (0 : Int32) M3) rfl ⟨(Nat.le_of_ble_eq_true rfl), (Nat.le_of_ble_eq_true rfl)⟩ ⟨(Nat.le_of_ble_eq_true rfl), (Nat.le_of_ble_eq_true rfl)⟩ (Nat.le_of_ble_eq_true rfl) d_M_restoreSnapshot_23 (fun M5 => ?_)
    refine G_aload_n g (pc := 26) 0 d_M_restoreSnapshot_26 rfl rfl ?_
    refine G_iconst g (pc := 27) (0 : Int32) d_M_restoreSnapshot_27 rfl ?_
    refine G_put g (pc := 28) fa_M_186 fw_10_7 rfl rfl (hw.mm 145 (Nat.le_of_ble_eq_true rfl) (Nat.le_of_ble_eq_true rfl)) (hw.k (zk145 rr)) d_M_restoreSnapshot_28 ?_
    refine G_nmM (fun M6 => ?_)
    refine G_aload_n g (pc := 31) 0 d_M_restoreSnapshot_31 rfl rfl ?_
    refine G_getR g (pc := 32) fa_M_28 (hw.mm 145 (Nat.le_of_ble_eq_true rfl) (Nat.le_of_ble_eq_true rfl)) (hw.k (zk145 rr)) (hw.r hw.rr) d_M_restoreSnapshot_32 ?_
    refine G_iconst g (pc := 35) (0 : Int32) d_M_restoreSnapshot_35 rfl ?_
    refine G_ialdK g (pc := 36) (nn := 405) 0 rfl rfl hw.mr hw.kr hw.nr d_M_restoreSnapshot_36 ?_
    exact G_ireturn g (pc := 37) hret (Nat.le_of_ble_eq_true rfl) (Nat.le_of_ble_eq_true rfl) d_M_restoreSnapshot_37

theorem d_M_appendText_0 : decode b_M_appendText 0 = .ok (.aload_n 0, 1) := by decide +kernel
theorem d_M_appendText_1 : decode b_M_appendText 1 = .ok (.iconst 0, 1) := by decide +kernel
theorem d_M_appendText_2 : decode b_M_appendText 2 = .ok (.putfield 76, 3) := by decide +kernel
theorem d_M_appendText_5 : decode b_M_appendText 5 = .ok (.aload_n 0, 1) := by decide +kernel
theorem d_M_appendText_6 : decode b_M_appendText 6 = .ok (.getfield 235, 3) := by decide +kernel
theorem d_M_appendText_9 : decode b_M_appendText 9 = .ok (.bipush 20, 2) := by decide +kernel
theorem d_M_appendText_11 : decode b_M_appendText 11 = .ok (.iadd, 1) := by decide +kernel
theorem d_M_appendText_12 : decode b_M_appendText 12 = .ok (.sipush 500, 3) := by decide +kernel
theorem d_M_appendText_15 : decode b_M_appendText 15 = .ok (.if_icmp .le 5, 3) := by decide +kernel
theorem d_M_appendText_18 : decode b_M_appendText 18 = .ok (.iconst (-1), 1) := by decide +kernel
theorem d_M_appendText_19 : decode b_M_appendText 19 = .ok (.ireturn, 1) := by decide +kernel
theorem d_M_appendText_20 : decode b_M_appendText 20 = .ok (.iconst 0, 1) := by decide +kernel
theorem d_M_appendText_21 : decode b_M_appendText 21 = .ok (.istore 6, 2) := by decide +kernel
theorem d_M_appendText_23 : decode b_M_appendText 23 = .ok (.iload 6, 2) := by decide +kernel
theorem d_M_appendText_25 : decode b_M_appendText 25 = .ok (.bipush 20, 2) := by decide +kernel
theorem d_M_appendText_27 : decode b_M_appendText 27 = .ok (.if_icmp .ge 93, 3) := by decide +kernel
theorem d_M_appendText_30 : decode b_M_appendText 30 = .ok (.iload 6, 2) := by decide +kernel
theorem d_M_appendText_32 : decode b_M_appendText 32 = .ok (.iconst 4, 1) := by decide +kernel
theorem d_M_appendText_33 : decode b_M_appendText 33 = .ok (.if_icmp .ge 7, 3) := by decide +kernel
theorem d_M_appendText_36 : decode b_M_appendText 36 = .ok (.iload_n 1, 1) := by decide +kernel
theorem d_M_appendText_37 : decode b_M_appendText 37 = .ok (.goto 39, 3) := by decide +kernel
theorem d_M_appendText_40 : decode b_M_appendText 40 = .ok (.iload 6, 2) := by decide +kernel
theorem d_M_appendText_42 : decode b_M_appendText 42 = .ok (.bipush 8, 2) := by decide +kernel
theorem d_M_appendText_44 : decode b_M_appendText 44 = .ok (.if_icmp .ge 7, 3) := by decide +kernel
theorem d_M_appendText_47 : decode b_M_appendText 47 = .ok (.iload_n 2, 1) := by decide +kernel
theorem d_M_appendText_48 : decode b_M_appendText 48 = .ok (.goto 28, 3) := by decide +kernel
theorem d_M_appendText_51 : decode b_M_appendText 51 = .ok (.iload 6, 2) := by decide +kernel
theorem d_M_appendText_53 : decode b_M_appendText 53 = .ok (.bipush 12, 2) := by decide +kernel
theorem d_M_appendText_55 : decode b_M_appendText 55 = .ok (.if_icmp .ge 7, 3) := by decide +kernel
theorem d_M_appendText_58 : decode b_M_appendText 58 = .ok (.iload_n 3, 1) := by decide +kernel
theorem d_M_appendText_59 : decode b_M_appendText 59 = .ok (.goto 17, 3) := by decide +kernel
theorem d_M_appendText_62 : decode b_M_appendText 62 = .ok (.iload 6, 2) := by decide +kernel
theorem d_M_appendText_64 : decode b_M_appendText 64 = .ok (.bipush 16, 2) := by decide +kernel
theorem d_M_appendText_66 : decode b_M_appendText 66 = .ok (.if_icmp .ge 8, 3) := by decide +kernel
theorem d_M_appendText_69 : decode b_M_appendText 69 = .ok (.iload 4, 2) := by decide +kernel
theorem d_M_appendText_71 : decode b_M_appendText 71 = .ok (.goto 5, 3) := by decide +kernel
theorem d_M_appendText_74 : decode b_M_appendText 74 = .ok (.iload 5, 2) := by decide +kernel
theorem d_M_appendText_76 : decode b_M_appendText 76 = .ok (.istore 7, 2) := by decide +kernel
theorem d_M_appendText_78 : decode b_M_appendText 78 = .ok (.aload_n 0, 1) := by decide +kernel
theorem d_M_appendText_79 : decode b_M_appendText 79 = .ok (.getfield 34, 3) := by decide +kernel
theorem d_M_appendText_82 : decode b_M_appendText 82 = .ok (.aload_n 0, 1) := by decide +kernel
theorem d_M_appendText_83 : decode b_M_appendText 83 = .ok (.getfield 235, 3) := by decide +kernel
theorem d_M_appendText_86 : decode b_M_appendText 86 = .ok (.iload 7, 2) := by decide +kernel
theorem d_M_appendText_88 : decode b_M_appendText 88 = .ok (.bipush 24, 2) := by decide +kernel
theorem d_M_appendText_90 : decode b_M_appendText 90 = .ok (.bipush 8, 2) := by decide +kernel
theorem d_M_appendText_92 : decode b_M_appendText 92 = .ok (.iload 6, 2) := by decide +kernel
theorem d_M_appendText_94 : decode b_M_appendText 94 = .ok (.iconst 4, 1) := by decide +kernel
theorem d_M_appendText_95 : decode b_M_appendText 95 = .ok (.irem, 1) := by decide +kernel
theorem d_M_appendText_96 : decode b_M_appendText 96 = .ok (.imul, 1) := by decide +kernel
theorem d_M_appendText_97 : decode b_M_appendText 97 = .ok (.isub, 1) := by decide +kernel
theorem d_M_appendText_98 : decode b_M_appendText 98 = .ok (.ishr, 1) := by decide +kernel
theorem d_M_appendText_99 : decode b_M_appendText 99 = .ok (.sipush 255, 3) := by decide +kernel
theorem d_M_appendText_102 : decode b_M_appendText 102 = .ok (.iand, 1) := by decide +kernel
theorem d_M_appendText_103 : decode b_M_appendText 103 = .ok (.iastore, 1) := by decide +kernel
theorem d_M_appendText_104 : decode b_M_appendText 104 = .ok (.aload_n 0, 1) := by decide +kernel
theorem d_M_appendText_105 : decode b_M_appendText 105 = .ok (.dup, 1) := by decide +kernel
theorem d_M_appendText_106 : decode b_M_appendText 106 = .ok (.getfield 235, 3) := by decide +kernel
theorem d_M_appendText_109 : decode b_M_appendText 109 = .ok (.iconst 1, 1) := by decide +kernel
theorem d_M_appendText_110 : decode b_M_appendText 110 = .ok (.iadd, 1) := by decide +kernel
theorem d_M_appendText_111 : decode b_M_appendText 111 = .ok (.putfield 235, 3) := by decide +kernel
theorem d_M_appendText_114 : decode b_M_appendText 114 = .ok (.iinc 6 1, 3) := by decide +kernel
theorem d_M_appendText_117 : decode b_M_appendText 117 = .ok (.goto (-94), 3) := by decide +kernel
theorem d_M_appendText_120 : decode b_M_appendText 120 = .ok (.aload_n 0, 1) := by decide +kernel
theorem d_M_appendText_121 : decode b_M_appendText 121 = .ok (.getfield 235, 3) := by decide +kernel
theorem d_M_appendText_124 : decode b_M_appendText 124 = .ok (.ireturn, 1) := by decide +kernel
def lp_M_appendText_23 (N0 rr : Nat) (a1 : Int32) (a2 : Int32) (a3 : Int32) (a4 : Int32) (a5 : Int32)  : Nat → Int32 → Mem → (Int32 → Mem → Option (Int32 × Mem)) → Option (Int32 × Mem)
  | 0, _, _, _ => none
  | N + 1, v23, M, k23 => if v23 < (20 : Int32) then (jn (fun (x3 : Int32) (M4 : Mem) => grd (inB (M4 145 15) 500) (nm (put M4 153 (M4 145 15).toNatClampNeg ((x3 >>> (((24 : Int32) - ((8 : Int32) * (irm v23 (4 : Int32)))) &&& 31)) &&& (255 : Int32))) fun (M5 : Mem) => nm (put M5 145 15 ((M5 145 15) + (1 : Int32))) fun (M6 : Mem) => nm (v23 + (1 : Int32)) fun (x7 : Int32) => lp_M_appendText_23 N0 rr a1 a2 a3 a4 a5 N x7 M6 k23)) (fun j2 => if v23 < (4 : Int32) then (j2 a1 M) else (if v23 < (8 : Int32) then (j2 a2 M) else (if v23 < (12 : Int32) then (j2 a3 M) else (if v23 < (16 : Int32) then (j2 a4 M) else (j2 a5 M)))))) else (k23 v23 M)
def f_M_appendText (N : Nat) (rr : Nat) (a1 : Int32) (a2 : Int32) (a3 : Int32) (a4 : Int32) (a5 : Int32) (M : Mem) : Option (Int32 × Mem) :=
  nm (put M 145 8 (0 : Int32)) fun (M1 : Mem) => if (500 : Int32) < ((M1 145 15) + (20 : Int32)) then (some ((-1 : Int32), M1)) else (lp_M_appendText_23 N rr a1 a2 a3 a4 a5 N (0 : Int32) M1 (fun (a9 : Int32) (M8 : Mem) => some (M8 145 15, M8)))
set_option maxHeartbeats 4000000 in
set_option maxRecDepth 100000 in
theorem c_M_appendText (l : Launch) (N : Nat) {w : Wc} {rr : Nat} (hw : WM w rr) (a1 : Int32) (a2 : Int32) (a3 : Int32) (a4 : Int32) (a5 : Int32) (M : Mem) : Ct QI l y_M_appendText b_M_appendText 8 (some .int) (rmL 0) w [.ref (wad w 145), .int a1, .int a2, .int a3, .int a4, .int a5] M (f_M_appendText N rr a1 a2 a3 a4 a5 M) := by
  refine Ct.go (by decide) (L := [(0, .ref (wad w 145)), (1, .int a1), (2, .int a2), (3, .int a3), (4, .int a4), (5, .int a5)]) rfl (Nat.le_of_ble_eq_true rfl) (fun p0 e s m args below meth c g hret => ?_)
  unfold f_M_appendText
  refine G_aload_n g (pc := 0) 0 d_M_appendText_0 rfl rfl ?_
  refine G_iconst g (pc := 1) (0 : Int32) d_M_appendText_1 rfl ?_
  refine G_put g (pc := 2) fa_M_76 fw_10_8 rfl rfl (hw.mm 145 (Nat.le_of_ble_eq_true rfl) (Nat.le_of_ble_eq_true rfl)) (hw.k (zk145 rr)) d_M_appendText_2 ?_
  refine G_nmM (fun M1 => ?_)
  refine G_aload_n g (pc := 5) 0 d_M_appendText_5 rfl rfl ?_
  refine G_get g (pc := 6) fa_M_235 (hw.mm 145 (Nat.le_of_ble_eq_true rfl) (Nat.le_of_ble_eq_true rfl)) (hw.k (zk145 rr)) d_M_appendText_6 ?_
  refine G_bipush g (pc := 9) (20 : Int32) d_M_appendText_9 rfl ?_
  refine G_iadd g (pc := 11) d_M_appendText_11 ?_
  refine G_sipush g (pc := 12) (500 : Int32) d_M_appendText_12 rfl ?_
  refine G_icmp_le g (pc := 15) 20 d_M_appendText_15 (by decide) ?_ ?_
  · refine G_iconst g (pc := 18) (-1 : Int32) d_M_appendText_18 rfl ?_
    exact G_ireturn g (pc := 19) hret (Nat.le_of_ble_eq_true rfl) (Nat.le_of_ble_eq_true rfl) d_M_appendText_19
  · refine G_iconst g (pc := 20) (0 : Int32) d_M_appendText_20 rfl ?_
    refine G_istore g (pc := 21) _ d_M_appendText_21 (Nat.le_of_ble_eq_true rfl) rfl ?_
    refine G_sub [1, 2, 3, 4, 5, 6, 0] _ rfl ?_
    refine G_loop (F := lp_M_appendText_23 N rr a1 a2 a3 a4 a5) 23 120 (fun (v23 : Int32) => [(0, .ref (wad w 145)), (1, .int a1), (2, .int a2), (3, .int a3), (4, .int a4), (5, .int a5), (6, .int v23)]) (fun (v23 : Int32) => [(0, .ref (wad w 145)), (1, .int a1), (2, .int a2), (3, .int a3), (4, .int a4), (5, .int a5), (6, .int v23)]) (fun _ _ _ => rfl) (fun a9 M8 => ?_) (fun k23 hk23 Nl23 ih23 v23 M => ?_) N (0 : Int32) M1
    · refine G_aload_n g (pc := 120) 0 d_M_appendText_120 rfl rfl ?_
      refine G_get g (pc := 121) fa_M_235 (hw.mm 145 (Nat.le_of_ble_eq_true rfl) (Nat.le_of_ble_eq_true rfl)) (hw.k (zk145 rr)) d_M_appendText_121 ?_
      exact G_ireturn g (pc := 124) hret (Nat.le_of_ble_eq_true rfl) (Nat.le_of_ble_eq_true rfl) d_M_appendText_124
    · show Go p0 l e _ s m args below meth c w _ _ _ _ (lp_M_appendText_23 N rr a1 a2 a3 a4 a5 (Nl23 + 1) v23 M k23) 23 _ _ M
      unfold lp_M_appendText_23
      refine G_iload g (pc := 23) 6 d_M_appendText_23 rfl ?_
      refine G_bipush g (pc := 25) (20 : Int32) d_M_appendText_25 rfl ?_
      refine G_icmp_ge g (pc := 27) 120 d_M_appendText_27 (by decide) ?_ ?_
      · refine G_iload g (pc := 30) 6 d_M_appendText_30 rfl ?_
        refine G_iconst g (pc := 32) (4 : Int32) d_M_appendText_32 rfl ?_
        refine G_jn 76 (fun _ => [(0, .ref (wad w 145)), (1, .int a1), (2, .int a2), (3, .int a3), (4, .int a4), (5, .int a5), (6, .int v23)]) (fun (x3 : Int32) => [.int x3]) (fun x3 M4 => ?_) (fun j2 hj2 => ?_)
        · refine G_istore g (pc := 76) _ d_M_appendText_76 (Nat.le_of_ble_eq_true rfl) rfl ?_
          refine G_aload_n g (pc := 78) 1 d_M_appendText_78 rfl rfl ?_
          refine G_getR g (pc := 79) fa_M_34 (hw.mm 145 (Nat.le_of_ble_eq_true rfl) (Nat.le_of_ble_eq_true rfl)) (hw.k (zk145 rr)) (hw.r (zr145_14 rr)) d_M_appendText_79 ?_
          refine G_aload_n g (pc := 82) 1 d_M_appendText_82 rfl rfl ?_
          refine G_get g (pc := 83) fa_M_235 (hw.mm 145 (Nat.le_of_ble_eq_true rfl) (Nat.le_of_ble_eq_true rfl)) (hw.k (zk145 rr)) d_M_appendText_83 ?_
          refine G_iload g (pc := 86) 0 d_M_appendText_86 rfl ?_
          refine G_bipush g (pc := 88) (24 : Int32) d_M_appendText_88 rfl ?_
          refine G_bipush g (pc := 90) (8 : Int32) d_M_appendText_90 rfl ?_
          refine G_iload g (pc := 92) 7 d_M_appendText_92 rfl ?_
          refine G_iconst g (pc := 94) (4 : Int32) d_M_appendText_94 rfl ?_
          refine G_iremK g (pc := 95) (by decide) d_M_appendText_95 ?_
          refine G_imul g (pc := 96) d_M_appendText_96 ?_
          refine G_isub g (pc := 97) d_M_appendText_97 ?_
          refine G_ishr g (pc := 98) d_M_appendText_98 ?_
          refine G_sipush g (pc := 99) (255 : Int32) d_M_appendText_99 rfl ?_
          refine G_iand g (pc := 102) d_M_appendText_102 ?_
          refine G_iast g (pc := 103) (nn := 500) (hw.mm 153 (Nat.le_of_ble_eq_true rfl) (Nat.le_of_ble_eq_true rfl)) (hw.k (zk153 rr)) (hw.n (zn153 rr)) d_M_appendText_103 ?_
          refine G_nmM (fun M5 => ?_)
          refine G_aload_n g (pc := 104) 1 d_M_appendText_104 rfl rfl ?_
          refine G_dup g (pc := 105) d_M_appendText_105 rfl ?_
          refine G_get g (pc := 106) fa_M_235 (hw.mm 145 (Nat.le_of_ble_eq_true rfl) (Nat.le_of_ble_eq_true rfl)) (hw.k (zk145 rr)) d_M_appendText_106 ?_
          refine G_iconst g (pc := 109) (1 : Int32) d_M_appendText_109 rfl ?_
          refine G_iadd g (pc := 110) d_M_appendText_110 ?_
          refine G_put g (pc := 111) fa_M_235 fw_10_15 rfl rfl (hw.mm 145 (Nat.le_of_ble_eq_true rfl) (Nat.le_of_ble_eq_true rfl)) (hw.k (zk145 rr)) d_M_appendText_111 ?_
          refine G_nmM (fun M6 => ?_)
          refine G_nmX (v23 + (1 : Int32)) (fun x7 e_x7 => ?_)
          refine G_iinc g (pc := 114) x7 _ 7 d_M_appendText_114 rfl e_x7.symm (Nat.le_of_ble_eq_true rfl) rfl ?_
          refine G_goto g (pc := 117) 23 d_M_appendText_117 (by decide) ?_
          refine G_sub [2, 3, 4, 5, 6, 7, 0] _ rfl ?_
          exact ih23 x7 M6
        · refine G_icmp_ge g (pc := 33) 40 d_M_appendText_33 (by decide) ?_ ?_
          · refine G_iload_n g (pc := 36) 1 d_M_appendText_36 rfl rfl ?_
            refine G_goto g (pc := 37) 76 d_M_appendText_37 (by decide) ?_
            refine G_sub [0, 1, 2, 3, 4, 5, 6] _ rfl ?_
            exact hj2 a1 M
          · refine G_iload g (pc := 40) 6 d_M_appendText_40 rfl ?_
            refine G_bipush g (pc := 42) (8 : Int32) d_M_appendText_42 rfl ?_
            refine G_icmp_ge g (pc := 44) 51 d_M_appendText_44 (by decide) ?_ ?_
            · refine G_iload_n g (pc := 47) 2 d_M_appendText_47 rfl rfl ?_
              refine G_goto g (pc := 48) 76 d_M_appendText_48 (by decide) ?_
              refine G_sub [0, 1, 2, 3, 4, 5, 6] _ rfl ?_
              exact hj2 a2 M
            · refine G_iload g (pc := 51) 6 d_M_appendText_51 rfl ?_
              refine G_bipush g (pc := 53) (12 : Int32) d_M_appendText_53 rfl ?_
              refine G_icmp_ge g (pc := 55) 62 d_M_appendText_55 (by decide) ?_ ?_
              · refine G_iload_n g (pc := 58) 3 d_M_appendText_58 rfl rfl ?_
                refine G_goto g (pc := 59) 76 d_M_appendText_59 (by decide) ?_
                refine G_sub [0, 1, 2, 3, 4, 5, 6] _ rfl ?_
                exact hj2 a3 M
              · refine G_iload g (pc := 62) 6 d_M_appendText_62 rfl ?_
                refine G_bipush g (pc := 64) (16 : Int32) d_M_appendText_64 rfl ?_
                refine G_icmp_ge g (pc := 66) 74 d_M_appendText_66 (by decide) ?_ ?_
                · refine G_iload g (pc := 69) 4 d_M_appendText_69 rfl ?_
                  refine G_goto g (pc := 71) 76 d_M_appendText_71 (by decide) ?_
                  refine G_sub [0, 1, 2, 3, 4, 5, 6] _ rfl ?_
                  exact hj2 a4 M
                · refine G_iload g (pc := 74) 5 d_M_appendText_74 rfl ?_
                  refine G_sub [0, 1, 2, 3, 4, 5, 6] _ rfl ?_
                  exact hj2 a5 M
      · refine G_sub [0, 1, 2, 3, 4, 5, 6] _ rfl ?_
        exact hk23 v23 M

theorem d_M_errorOffset_0 : decode b_M_errorOffset 0 = .ok (.aload_n 0, 1) := by decide +kernel
theorem d_M_errorOffset_1 : decode b_M_errorOffset 1 = .ok (.iconst 0, 1) := by decide +kernel
theorem d_M_errorOffset_2 : decode b_M_errorOffset 2 = .ok (.putfield 76, 3) := by decide +kernel
theorem d_M_errorOffset_5 : decode b_M_errorOffset 5 = .ok (.aload_n 0, 1) := by decide +kernel
theorem d_M_errorOffset_6 : decode b_M_errorOffset 6 = .ok (.getfield 37, 3) := by decide +kernel
theorem d_M_errorOffset_9 : decode b_M_errorOffset 9 = .ok (.ireturn, 1) := by decide +kernel
def f_M_errorOffset  (M : Mem) : Option (Int32 × Mem) :=
  nm (put M 145 8 (0 : Int32)) fun (M1 : Mem) => some (M1 145 22, M1)
set_option maxHeartbeats 4000000 in
set_option maxRecDepth 100000 in
theorem c_M_errorOffset (l : Launch) {w : Wc} {rr : Nat} (hw : WM w rr)  (M : Mem) : Ct QI l y_M_errorOffset b_M_errorOffset 1 (some .int) (rmL 0) w [.ref (wad w 145)] M (f_M_errorOffset  M) := by
  refine Ct.go (by decide) (L := [(0, .ref (wad w 145))]) rfl (Nat.le_of_ble_eq_true rfl) (fun p0 e s m args below meth c g hret => ?_)
  unfold f_M_errorOffset
  refine G_aload_n g (pc := 0) 0 d_M_errorOffset_0 rfl rfl ?_
  refine G_iconst g (pc := 1) (0 : Int32) d_M_errorOffset_1 rfl ?_
  refine G_put g (pc := 2) fa_M_76 fw_10_8 rfl rfl (hw.mm 145 (Nat.le_of_ble_eq_true rfl) (Nat.le_of_ble_eq_true rfl)) (hw.k (zk145 rr)) d_M_errorOffset_2 ?_
  refine G_nmM (fun M1 => ?_)
  refine G_aload_n g (pc := 5) 0 d_M_errorOffset_5 rfl rfl ?_
  refine G_get g (pc := 6) fa_M_37 (hw.mm 145 (Nat.le_of_ble_eq_true rfl) (Nat.le_of_ble_eq_true rfl)) (hw.k (zk145 rr)) d_M_errorOffset_6 ?_
  exact G_ireturn g (pc := 9) hret (Nat.le_of_ble_eq_true rfl) (Nat.le_of_ble_eq_true rfl) d_M_errorOffset_9

theorem d_M_byteAt_0 : decode b_M_byteAt 0 = .ok (.iload_n 1, 1) := by decide +kernel
theorem d_M_byteAt_1 : decode b_M_byteAt 1 = .ok (.aload_n 0, 1) := by decide +kernel
theorem d_M_byteAt_2 : decode b_M_byteAt 2 = .ok (.getfield 238, 3) := by decide +kernel
theorem d_M_byteAt_5 : decode b_M_byteAt 5 = .ok (.if_icmp .ge 12, 3) := by decide +kernel
theorem d_M_byteAt_8 : decode b_M_byteAt 8 = .ok (.aload_n 0, 1) := by decide +kernel
theorem d_M_byteAt_9 : decode b_M_byteAt 9 = .ok (.getfield 34, 3) := by decide +kernel
theorem d_M_byteAt_12 : decode b_M_byteAt 12 = .ok (.iload_n 1, 1) := by decide +kernel
theorem d_M_byteAt_13 : decode b_M_byteAt 13 = .ok (.iaload, 1) := by decide +kernel
theorem d_M_byteAt_14 : decode b_M_byteAt 14 = .ok (.goto 4, 3) := by decide +kernel
theorem d_M_byteAt_17 : decode b_M_byteAt 17 = .ok (.iconst (-1), 1) := by decide +kernel
theorem d_M_byteAt_18 : decode b_M_byteAt 18 = .ok (.ireturn, 1) := by decide +kernel
def f_M_byteAt (a1 : Int32) (M : Mem) : Option (Int32 × Mem) :=
  if a1 < (M 145 16) then (grd (inB a1 500) (some (M 153 a1.toNatClampNeg, M))) else (some ((-1 : Int32), M))
set_option maxHeartbeats 4000000 in
set_option maxRecDepth 100000 in
theorem c_M_byteAt (l : Launch) {w : Wc} {rr : Nat} (hw : WM w rr) (a1 : Int32) (M : Mem) : Ct QI l y_M_byteAt b_M_byteAt 2 (some .int) (rmL 0) w [.ref (wad w 145), .int a1] M (f_M_byteAt a1 M) := by
  refine Ct.go (by decide) (L := [(0, .ref (wad w 145)), (1, .int a1)]) rfl (Nat.le_of_ble_eq_true rfl) (fun p0 e s m args below meth c g hret => ?_)
  unfold f_M_byteAt
  refine G_iload_n g (pc := 0) 1 d_M_byteAt_0 rfl rfl ?_
  refine G_aload_n g (pc := 1) 0 d_M_byteAt_1 rfl rfl ?_
  refine G_get g (pc := 2) fa_M_238 (hw.mm 145 (Nat.le_of_ble_eq_true rfl) (Nat.le_of_ble_eq_true rfl)) (hw.k (zk145 rr)) d_M_byteAt_2 ?_
  refine G_icmp_ge g (pc := 5) 17 d_M_byteAt_5 (by decide) ?_ ?_
  · refine G_aload_n g (pc := 8) 0 d_M_byteAt_8 rfl rfl ?_
    refine G_getR g (pc := 9) fa_M_34 (hw.mm 145 (Nat.le_of_ble_eq_true rfl) (Nat.le_of_ble_eq_true rfl)) (hw.k (zk145 rr)) (hw.r (zr145_14 rr)) d_M_byteAt_9 ?_
    refine G_iload_n g (pc := 12) 1 d_M_byteAt_12 rfl rfl ?_
    refine G_iald g (pc := 13) (nn := 500) (hw.mm 153 (Nat.le_of_ble_eq_true rfl) (Nat.le_of_ble_eq_true rfl)) (hw.k (zk153 rr)) (hw.n (zn153 rr)) d_M_byteAt_13 ?_
    refine G_goto g (pc := 14) 18 d_M_byteAt_14 (by decide) ?_
    exact G_ireturn g (pc := 18) hret (Nat.le_of_ble_eq_true rfl) (Nat.le_of_ble_eq_true rfl) d_M_byteAt_18
  · refine G_iconst g (pc := 17) (-1 : Int32) d_M_byteAt_17 rfl ?_
    exact G_ireturn g (pc := 18) hret (Nat.le_of_ble_eq_true rfl) (Nat.le_of_ble_eq_true rfl) d_M_byteAt_18

theorem d_M_isLetter_0 : decode b_M_isLetter 0 = .ok (.aload_n 0, 1) := by decide +kernel
theorem d_M_isLetter_1 : decode b_M_isLetter 1 = .ok (.iload_n 1, 1) := by decide +kernel
theorem d_M_isLetter_2 : decode b_M_isLetter 2 = .ok (.invokevirtual 241, 3) := by decide +kernel
theorem d_M_isLetter_5 : decode b_M_isLetter 5 = .ok (.bipush 97, 2) := by decide +kernel
theorem d_M_isLetter_7 : decode b_M_isLetter 7 = .ok (.if_icmp .lt 17, 3) := by decide +kernel
theorem d_M_isLetter_10 : decode b_M_isLetter 10 = .ok (.aload_n 0, 1) := by decide +kernel
theorem d_M_isLetter_11 : decode b_M_isLetter 11 = .ok (.iload_n 1, 1) := by decide +kernel
theorem d_M_isLetter_12 : decode b_M_isLetter 12 = .ok (.invokevirtual 241, 3) := by decide +kernel
theorem d_M_isLetter_15 : decode b_M_isLetter 15 = .ok (.bipush 122, 2) := by decide +kernel
theorem d_M_isLetter_17 : decode b_M_isLetter 17 = .ok (.if_icmp .gt 7, 3) := by decide +kernel
theorem d_M_isLetter_20 : decode b_M_isLetter 20 = .ok (.iconst 1, 1) := by decide +kernel
theorem d_M_isLetter_21 : decode b_M_isLetter 21 = .ok (.goto 4, 3) := by decide +kernel
theorem d_M_isLetter_24 : decode b_M_isLetter 24 = .ok (.iconst 0, 1) := by decide +kernel
theorem d_M_isLetter_25 : decode b_M_isLetter 25 = .ok (.ireturn, 1) := by decide +kernel
theorem cc_M_241 : CV "KiteLoggerModel" 241 y_M_byteAt b_M_byteAt 2 (some .int) 1 := ⟨TT_in (i := 1874) (by decide +kernel) (by decide +kernel), TT_in (i := 1876) (by decide +kernel) (by decide +kernel), TT_in (i := 65) (by decide +kernel) (by decide +kernel), TT_in (i := 100) (by decide +kernel) (by decide +kernel), TT_in (i := 1877) (by decide +kernel) (by decide +kernel), ⟨by decide +kernel, by decide +kernel, by decide +kernel⟩⟩
def f_M_isLetter (a1 : Int32) (M : Mem) : Option (Bool × Mem) :=
  bnd (f_M_byteAt a1 M) fun (x1 : Int32) (M2 : Mem) => if x1 < (97 : Int32) then (some (false, M2)) else (bnd (f_M_byteAt a1 M2) fun (x3 : Int32) (M4 : Mem) => if x3 ≤ (122 : Int32) then (some (true, M4)) else (some (false, M4)))
set_option maxHeartbeats 4000000 in
set_option maxRecDepth 100000 in
theorem c_M_isLetter (l : Launch) {w : Wc} {rr : Nat} (hw : WM w rr) (a1 : Int32) (M : Mem) : Ct QZ l y_M_isLetter b_M_isLetter 2 (some .boolean) (rmL 1) w [.ref (wad w 145), .int a1] M (f_M_isLetter a1 M) := by
  refine Ct.go (by decide) (L := [(0, .ref (wad w 145)), (1, .int a1)]) rfl (Nat.le_of_ble_eq_true rfl) (fun p0 e s m args below meth c g hret => ?_)
  unfold f_M_isLetter
  refine G_aload_n g (pc := 0) 0 d_M_isLetter_0 rfl rfl ?_
  refine G_iload_n g (pc := 1) 1 d_M_isLetter_1 rfl rfl ?_
  refine G_cVI g (pc := 2) (As := [.int a1]) (st := []) cc_M_241 (c_M_byteAt l hw a1 M) (hw.mm 145 (Nat.le_of_ble_eq_true rfl) (Nat.le_of_ble_eq_true rfl)) (hw.k (zk145 rr)) rfl (by decide) rfl ⟨(Nat.le_of_ble_eq_true rfl), (Nat.le_of_ble_eq_true rfl)⟩ ⟨(Nat.le_of_ble_eq_true rfl), (Nat.le_of_ble_eq_true rfl)⟩ (Nat.le_of_ble_eq_true rfl) d_M_isLetter_2 (fun x1 M2 => ?_)
  refine G_bipush g (pc := 5) (97 : Int32) d_M_isLetter_5 rfl ?_
  refine G_icmp_lt g (pc := 7) 24 d_M_isLetter_7 (by decide) ?_ ?_
  · refine G_iconst g (pc := 24) (0 : Int32) d_M_isLetter_24 rfl ?_
    exact G_zreturn g (pc := 25) false rfl hret (Nat.le_of_ble_eq_true rfl) (Nat.le_of_ble_eq_true rfl) d_M_isLetter_25
  · refine G_aload_n g (pc := 10) 0 d_M_isLetter_10 rfl rfl ?_
    refine G_iload_n g (pc := 11) 1 d_M_isLetter_11 rfl rfl ?_
    refine G_cVI g (pc := 12) (As := [.int a1]) (st := []) cc_M_241 (c_M_byteAt l hw a1 M2) (hw.mm 145 (Nat.le_of_ble_eq_true rfl) (Nat.le_of_ble_eq_true rfl)) (hw.k (zk145 rr)) rfl (by decide) rfl ⟨(Nat.le_of_ble_eq_true rfl), (Nat.le_of_ble_eq_true rfl)⟩ ⟨(Nat.le_of_ble_eq_true rfl), (Nat.le_of_ble_eq_true rfl)⟩ (Nat.le_of_ble_eq_true rfl) d_M_isLetter_12 (fun x3 M4 => ?_)
    refine G_bipush g (pc := 15) (122 : Int32) d_M_isLetter_15 rfl ?_
    refine G_icmp_gt g (pc := 17) 24 d_M_isLetter_17 (by decide) ?_ ?_
    · refine G_iconst g (pc := 20) (1 : Int32) d_M_isLetter_20 rfl ?_
      refine G_goto g (pc := 21) 25 d_M_isLetter_21 (by decide) ?_
      exact G_zreturn g (pc := 25) true rfl hret (Nat.le_of_ble_eq_true rfl) (Nat.le_of_ble_eq_true rfl) d_M_isLetter_25
    · refine G_iconst g (pc := 24) (0 : Int32) d_M_isLetter_24 rfl ?_
      exact G_zreturn g (pc := 25) false rfl hret (Nat.le_of_ble_eq_true rfl) (Nat.le_of_ble_eq_true rfl) d_M_isLetter_25

theorem d_M_isDigit_0 : decode b_M_isDigit 0 = .ok (.aload_n 0, 1) := by decide +kernel
theorem d_M_isDigit_1 : decode b_M_isDigit 1 = .ok (.iload_n 1, 1) := by decide +kernel
theorem d_M_isDigit_2 : decode b_M_isDigit 2 = .ok (.invokevirtual 241, 3) := by decide +kernel
theorem d_M_isDigit_5 : decode b_M_isDigit 5 = .ok (.bipush 48, 2) := by decide +kernel
theorem d_M_isDigit_7 : decode b_M_isDigit 7 = .ok (.if_icmp .lt 17, 3) := by decide +kernel
theorem d_M_isDigit_10 : decode b_M_isDigit 10 = .ok (.aload_n 0, 1) := by decide +kernel
theorem d_M_isDigit_11 : decode b_M_isDigit 11 = .ok (.iload_n 1, 1) := by decide +kernel
theorem d_M_isDigit_12 : decode b_M_isDigit 12 = .ok (.invokevirtual 241, 3) := by decide +kernel
theorem d_M_isDigit_15 : decode b_M_isDigit 15 = .ok (.bipush 57, 2) := by decide +kernel
theorem d_M_isDigit_17 : decode b_M_isDigit 17 = .ok (.if_icmp .gt 7, 3) := by decide +kernel
theorem d_M_isDigit_20 : decode b_M_isDigit 20 = .ok (.iconst 1, 1) := by decide +kernel
theorem d_M_isDigit_21 : decode b_M_isDigit 21 = .ok (.goto 4, 3) := by decide +kernel
theorem d_M_isDigit_24 : decode b_M_isDigit 24 = .ok (.iconst 0, 1) := by decide +kernel
theorem d_M_isDigit_25 : decode b_M_isDigit 25 = .ok (.ireturn, 1) := by decide +kernel
def f_M_isDigit (a1 : Int32) (M : Mem) : Option (Bool × Mem) :=
  bnd (f_M_byteAt a1 M) fun (x1 : Int32) (M2 : Mem) => if x1 < (48 : Int32) then (some (false, M2)) else (bnd (f_M_byteAt a1 M2) fun (x3 : Int32) (M4 : Mem) => if x3 ≤ (57 : Int32) then (some (true, M4)) else (some (false, M4)))
set_option maxHeartbeats 4000000 in
set_option maxRecDepth 100000 in
theorem c_M_isDigit (l : Launch) {w : Wc} {rr : Nat} (hw : WM w rr) (a1 : Int32) (M : Mem) : Ct QZ l y_M_isDigit b_M_isDigit 2 (some .boolean) (rmL 1) w [.ref (wad w 145), .int a1] M (f_M_isDigit a1 M) := by
  refine Ct.go (by decide) (L := [(0, .ref (wad w 145)), (1, .int a1)]) rfl (Nat.le_of_ble_eq_true rfl) (fun p0 e s m args below meth c g hret => ?_)
  unfold f_M_isDigit
  refine G_aload_n g (pc := 0) 0 d_M_isDigit_0 rfl rfl ?_
  refine G_iload_n g (pc := 1) 1 d_M_isDigit_1 rfl rfl ?_
  refine G_cVI g (pc := 2) (As := [.int a1]) (st := []) cc_M_241 (c_M_byteAt l hw a1 M) (hw.mm 145 (Nat.le_of_ble_eq_true rfl) (Nat.le_of_ble_eq_true rfl)) (hw.k (zk145 rr)) rfl (by decide) rfl ⟨(Nat.le_of_ble_eq_true rfl), (Nat.le_of_ble_eq_true rfl)⟩ ⟨(Nat.le_of_ble_eq_true rfl), (Nat.le_of_ble_eq_true rfl)⟩ (Nat.le_of_ble_eq_true rfl) d_M_isDigit_2 (fun x1 M2 => ?_)
  refine G_bipush g (pc := 5) (48 : Int32) d_M_isDigit_5 rfl ?_
  refine G_icmp_lt g (pc := 7) 24 d_M_isDigit_7 (by decide) ?_ ?_
  · refine G_iconst g (pc := 24) (0 : Int32) d_M_isDigit_24 rfl ?_
    exact G_zreturn g (pc := 25) false rfl hret (Nat.le_of_ble_eq_true rfl) (Nat.le_of_ble_eq_true rfl) d_M_isDigit_25
  · refine G_aload_n g (pc := 10) 0 d_M_isDigit_10 rfl rfl ?_
    refine G_iload_n g (pc := 11) 1 d_M_isDigit_11 rfl rfl ?_
    refine G_cVI g (pc := 12) (As := [.int a1]) (st := []) cc_M_241 (c_M_byteAt l hw a1 M2) (hw.mm 145 (Nat.le_of_ble_eq_true rfl) (Nat.le_of_ble_eq_true rfl)) (hw.k (zk145 rr)) rfl (by decide) rfl ⟨(Nat.le_of_ble_eq_true rfl), (Nat.le_of_ble_eq_true rfl)⟩ ⟨(Nat.le_of_ble_eq_true rfl), (Nat.le_of_ble_eq_true rfl)⟩ (Nat.le_of_ble_eq_true rfl) d_M_isDigit_12 (fun x3 M4 => ?_)
    refine G_bipush g (pc := 15) (57 : Int32) d_M_isDigit_15 rfl ?_
    refine G_icmp_gt g (pc := 17) 24 d_M_isDigit_17 (by decide) ?_ ?_
    · refine G_iconst g (pc := 20) (1 : Int32) d_M_isDigit_20 rfl ?_
      refine G_goto g (pc := 21) 25 d_M_isDigit_21 (by decide) ?_
      exact G_zreturn g (pc := 25) true rfl hret (Nat.le_of_ble_eq_true rfl) (Nat.le_of_ble_eq_true rfl) d_M_isDigit_25
    · refine G_iconst g (pc := 24) (0 : Int32) d_M_isDigit_24 rfl ?_
      exact G_zreturn g (pc := 25) false rfl hret (Nat.le_of_ble_eq_true rfl) (Nat.le_of_ble_eq_true rfl) d_M_isDigit_25

theorem d_M_scan_0 : decode b_M_scan 0 = .ok (.aload_n 0, 1) := by decide +kernel
theorem d_M_scan_1 : decode b_M_scan 1 = .ok (.aload_n 0, 1) := by decide +kernel
theorem d_M_scan_2 : decode b_M_scan 2 = .ok (.getfield 244, 3) := by decide +kernel
theorem d_M_scan_5 : decode b_M_scan 5 = .ok (.invokevirtual 241, 3) := by decide +kernel
theorem d_M_scan_8 : decode b_M_scan 8 = .ok (.bipush 32, 2) := by decide +kernel
theorem d_M_scan_10 : decode b_M_scan 10 = .ok (.if_icmp .eq 16, 3) := by decide +kernel
theorem d_M_scan_13 : decode b_M_scan 13 = .ok (.aload_n 0, 1) := by decide +kernel
theorem d_M_scan_14 : decode b_M_scan 14 = .ok (.aload_n 0, 1) := by decide +kernel
theorem d_M_scan_15 : decode b_M_scan 15 = .ok (.getfield 244, 3) := by decide +kernel
theorem d_M_scan_18 : decode b_M_scan 18 = .ok (.invokevirtual 241, 3) := by decide +kernel
theorem d_M_scan_21 : decode b_M_scan 21 = .ok (.bipush 10, 2) := by decide +kernel
theorem d_M_scan_23 : decode b_M_scan 23 = .ok (.if_icmp .ne 16, 3) := by decide +kernel
theorem d_M_scan_26 : decode b_M_scan 26 = .ok (.aload_n 0, 1) := by decide +kernel
theorem d_M_scan_27 : decode b_M_scan 27 = .ok (.dup, 1) := by decide +kernel
theorem d_M_scan_28 : decode b_M_scan 28 = .ok (.getfield 244, 3) := by decide +kernel
theorem d_M_scan_31 : decode b_M_scan 31 = .ok (.iconst 1, 1) := by decide +kernel
theorem d_M_scan_32 : decode b_M_scan 32 = .ok (.iadd, 1) := by decide +kernel
theorem d_M_scan_33 : decode b_M_scan 33 = .ok (.putfield 244, 3) := by decide +kernel
theorem d_M_scan_36 : decode b_M_scan 36 = .ok (.goto (-36), 3) := by decide +kernel
theorem d_M_scan_39 : decode b_M_scan 39 = .ok (.aload_n 0, 1) := by decide +kernel
theorem d_M_scan_40 : decode b_M_scan 40 = .ok (.aload_n 0, 1) := by decide +kernel
theorem d_M_scan_41 : decode b_M_scan 41 = .ok (.getfield 244, 3) := by decide +kernel
theorem d_M_scan_44 : decode b_M_scan 44 = .ok (.putfield 247, 3) := by decide +kernel
theorem d_M_scan_47 : decode b_M_scan 47 = .ok (.aload_n 0, 1) := by decide +kernel
theorem d_M_scan_48 : decode b_M_scan 48 = .ok (.getfield 244, 3) := by decide +kernel
theorem d_M_scan_51 : decode b_M_scan 51 = .ok (.aload_n 0, 1) := by decide +kernel
theorem d_M_scan_52 : decode b_M_scan 52 = .ok (.getfield 238, 3) := by decide +kernel
theorem d_M_scan_55 : decode b_M_scan 55 = .ok (.if_icmp .lt 11, 3) := by decide +kernel
theorem d_M_scan_58 : decode b_M_scan 58 = .ok (.aload_n 0, 1) := by decide +kernel
theorem d_M_scan_59 : decode b_M_scan 59 = .ok (.iconst 0, 1) := by decide +kernel
theorem d_M_scan_60 : decode b_M_scan 60 = .ok (.putfield 250, 3) := by decide +kernel
theorem d_M_scan_63 : decode b_M_scan 63 = .ok (.goto 104, 3) := by decide +kernel
theorem d_M_scan_66 : decode b_M_scan 66 = .ok (.aload_n 0, 1) := by decide +kernel
theorem d_M_scan_67 : decode b_M_scan 67 = .ok (.aload_n 0, 1) := by decide +kernel
theorem d_M_scan_68 : decode b_M_scan 68 = .ok (.getfield 244, 3) := by decide +kernel
theorem d_M_scan_71 : decode b_M_scan 71 = .ok (.invokevirtual 253, 3) := by decide +kernel
theorem d_M_scan_74 : decode b_M_scan 74 = .ok (.ifCond .eq 35, 3) := by decide +kernel
theorem d_M_scan_77 : decode b_M_scan 77 = .ok (.aload_n 0, 1) := by decide +kernel
theorem d_M_scan_78 : decode b_M_scan 78 = .ok (.aload_n 0, 1) := by decide +kernel
theorem d_M_scan_79 : decode b_M_scan 79 = .ok (.getfield 244, 3) := by decide +kernel
theorem d_M_scan_82 : decode b_M_scan 82 = .ok (.invokevirtual 253, 3) := by decide +kernel
theorem d_M_scan_85 : decode b_M_scan 85 = .ok (.ifCond .eq 16, 3) := by decide +kernel
theorem d_M_scan_88 : decode b_M_scan 88 = .ok (.aload_n 0, 1) := by decide +kernel
theorem d_M_scan_89 : decode b_M_scan 89 = .ok (.dup, 1) := by decide +kernel
theorem d_M_scan_90 : decode b_M_scan 90 = .ok (.getfield 244, 3) := by decide +kernel
theorem d_M_scan_93 : decode b_M_scan 93 = .ok (.iconst 1, 1) := by decide +kernel
theorem d_M_scan_94 : decode b_M_scan 94 = .ok (.iadd, 1) := by decide +kernel
theorem d_M_scan_95 : decode b_M_scan 95 = .ok (.putfield 244, 3) := by decide +kernel
theorem d_M_scan_98 : decode b_M_scan 98 = .ok (.goto (-21), 3) := by decide +kernel
theorem d_M_scan_101 : decode b_M_scan 101 = .ok (.aload_n 0, 1) := by decide +kernel
theorem d_M_scan_102 : decode b_M_scan 102 = .ok (.iconst 1, 1) := by decide +kernel
theorem d_M_scan_103 : decode b_M_scan 103 = .ok (.putfield 250, 3) := by decide +kernel
theorem d_M_scan_106 : decode b_M_scan 106 = .ok (.goto 61, 3) := by decide +kernel
theorem d_M_scan_109 : decode b_M_scan 109 = .ok (.aload_n 0, 1) := by decide +kernel
theorem d_M_scan_110 : decode b_M_scan 110 = .ok (.aload_n 0, 1) := by decide +kernel
theorem d_M_scan_111 : decode b_M_scan 111 = .ok (.getfield 244, 3) := by decide +kernel
theorem d_M_scan_114 : decode b_M_scan 114 = .ok (.invokevirtual 256, 3) := by decide +kernel
theorem d_M_scan_117 : decode b_M_scan 117 = .ok (.ifCond .eq 35, 3) := by decide +kernel
theorem d_M_scan_120 : decode b_M_scan 120 = .ok (.aload_n 0, 1) := by decide +kernel
theorem d_M_scan_121 : decode b_M_scan 121 = .ok (.aload_n 0, 1) := by decide +kernel
theorem d_M_scan_122 : decode b_M_scan 122 = .ok (.getfield 244, 3) := by decide +kernel
theorem d_M_scan_125 : decode b_M_scan 125 = .ok (.invokevirtual 256, 3) := by decide +kernel
theorem d_M_scan_128 : decode b_M_scan 128 = .ok (.ifCond .eq 16, 3) := by decide +kernel
theorem d_M_scan_131 : decode b_M_scan 131 = .ok (.aload_n 0, 1) := by decide +kernel
theorem d_M_scan_132 : decode b_M_scan 132 = .ok (.dup, 1) := by decide +kernel
theorem d_M_scan_133 : decode b_M_scan 133 = .ok (.getfield 244, 3) := by decide +kernel
theorem d_M_scan_136 : decode b_M_scan 136 = .ok (.iconst 1, 1) := by decide +kernel
theorem d_M_scan_137 : decode b_M_scan 137 = .ok (.iadd, 1) := by decide +kernel
theorem d_M_scan_138 : decode b_M_scan 138 = .ok (.putfield 244, 3) := by decide +kernel
theorem d_M_scan_141 : decode b_M_scan 141 = .ok (.goto (-21), 3) := by decide +kernel
theorem d_M_scan_144 : decode b_M_scan 144 = .ok (.aload_n 0, 1) := by decide +kernel
theorem d_M_scan_145 : decode b_M_scan 145 = .ok (.iconst 2, 1) := by decide +kernel
theorem d_M_scan_146 : decode b_M_scan 146 = .ok (.putfield 250, 3) := by decide +kernel
theorem d_M_scan_149 : decode b_M_scan 149 = .ok (.goto 18, 3) := by decide +kernel
theorem d_M_scan_152 : decode b_M_scan 152 = .ok (.aload_n 0, 1) := by decide +kernel
theorem d_M_scan_153 : decode b_M_scan 153 = .ok (.dup, 1) := by decide +kernel
theorem d_M_scan_154 : decode b_M_scan 154 = .ok (.getfield 244, 3) := by decide +kernel
theorem d_M_scan_157 : decode b_M_scan 157 = .ok (.iconst 1, 1) := by decide +kernel
theorem d_M_scan_158 : decode b_M_scan 158 = .ok (.iadd, 1) := by decide +kernel
theorem d_M_scan_159 : decode b_M_scan 159 = .ok (.putfield 244, 3) := by decide +kernel
theorem d_M_scan_162 : decode b_M_scan 162 = .ok (.aload_n 0, 1) := by decide +kernel
theorem d_M_scan_163 : decode b_M_scan 163 = .ok (.iconst 3, 1) := by decide +kernel
theorem d_M_scan_164 : decode b_M_scan 164 = .ok (.putfield 250, 3) := by decide +kernel
theorem d_M_scan_167 : decode b_M_scan 167 = .ok (.return_, 1) := by decide +kernel
theorem cc_M_253 : CV "KiteLoggerModel" 253 y_M_isLetter b_M_isLetter 2 (some .boolean) 1 := ⟨TT_in (i := 1878) (by decide +kernel) (by decide +kernel), TT_in (i := 1880) (by decide +kernel) (by decide +kernel), TT_in (i := 66) (by decide +kernel) (by decide +kernel), TT_in (i := 100) (by decide +kernel) (by decide +kernel), TT_in (i := 1881) (by decide +kernel) (by decide +kernel), ⟨by decide +kernel, by decide +kernel, by decide +kernel⟩⟩
theorem cc_M_256 : CV "KiteLoggerModel" 256 y_M_isDigit b_M_isDigit 2 (some .boolean) 1 := ⟨TT_in (i := 1882) (by decide +kernel) (by decide +kernel), TT_in (i := 1884) (by decide +kernel) (by decide +kernel), TT_in (i := 67) (by decide +kernel) (by decide +kernel), TT_in (i := 100) (by decide +kernel) (by decide +kernel), TT_in (i := 1885) (by decide +kernel) (by decide +kernel), ⟨by decide +kernel, by decide +kernel, by decide +kernel⟩⟩
def lp_M_scan_0 (N0 rr : Nat)   : Nat → Unit → Mem → (Unit → Mem → Option (Mem)) → Option (Mem)
  | 0, _, _, _ => none
  | N + 1, v0, M, k0 => bnd (f_M_byteAt (M 145 17) M) fun (x1 : Int32) (M2 : Mem) => if x1 = (32 : Int32) then (nm (put M2 145 17 ((M2 145 17) + (1 : Int32))) fun (M3 : Mem) => lp_M_scan_0 N0 rr N () M3 k0) else (bnd (f_M_byteAt (M2 145 17) M2) fun (x4 : Int32) (M5 : Mem) => if x4 = (10 : Int32) then (nm (put M5 145 17 ((M5 145 17) + (1 : Int32))) fun (M6 : Mem) => lp_M_scan_0 N0 rr N () M6 k0) else (k0 () M5))
def lp_M_scan_77 (N0 rr : Nat)   : Nat → Unit → Mem → (Unit → Mem → Option (Mem)) → Option (Mem)
  | 0, _, _, _ => none
  | N + 1, v77, M, k77 => bnd (f_M_isLetter (M 145 17) M) fun (x12 : Bool) (M13 : Mem) => if x12 = true then (nm (put M13 145 17 ((M13 145 17) + (1 : Int32))) fun (M14 : Mem) => lp_M_scan_77 N0 rr N () M14 k77) else (k77 () M13)
def lp_M_scan_120 (N0 rr : Nat)   : Nat → Unit → Mem → (Unit → Mem → Option (Mem)) → Option (Mem)
  | 0, _, _, _ => none
  | N + 1, v120, M, k120 => bnd (f_M_isDigit (M 145 17) M) fun (x20 : Bool) (M21 : Mem) => if x20 = true then (nm (put M21 145 17 ((M21 145 17) + (1 : Int32))) fun (M22 : Mem) => lp_M_scan_120 N0 rr N () M22 k120) else (k120 () M21)
def f_M_scan (N : Nat) (rr : Nat) (M : Mem) : Option (Mem) :=
  lp_M_scan_0 N rr N () M (fun (a8 : Unit) (M7 : Mem) => nm (put M7 145 18 (M7 145 17)) fun (M9 : Mem) => if (M9 145 17) < (M9 145 16) then (bnd (f_M_isLetter (M9 145 17) M9) fun (x10 : Bool) (M11 : Mem) => if x10 = true then (lp_M_scan_77 N rr N () M11 (fun (a16 : Unit) (M15 : Mem) => nm (put M15 145 19 (1 : Int32)) fun (M17 : Mem) => some M17)) else (bnd (f_M_isDigit (M11 145 17) M11) fun (x18 : Bool) (M19 : Mem) => if x18 = true then (lp_M_scan_120 N rr N () M19 (fun (a24 : Unit) (M23 : Mem) => nm (put M23 145 19 (2 : Int32)) fun (M25 : Mem) => some M25)) else (nm (put M19 145 17 ((M19 145 17) + (1 : Int32))) fun (M26 : Mem) => nm (put M26 145 19 (3 : Int32)) fun (M27 : Mem) => some M27))) else (nm (put M9 145 19 (0 : Int32)) fun (M28 : Mem) => some M28))
set_option maxHeartbeats 4000000 in
set_option maxRecDepth 100000 in
theorem c_M_scan (l : Launch) (N : Nat) {w : Wc} {rr : Nat} (hw : WM w rr)  (M : Mem) : Ct QV l y_M_scan b_M_scan 1 none (rmL 2) w [.ref (wad w 145)] M (f_M_scan N rr M) := by
  refine Ct.go (by decide) (L := [(0, .ref (wad w 145))]) rfl (Nat.le_of_ble_eq_true rfl) (fun p0 e s m args below meth c g hret => ?_)
  unfold f_M_scan
  refine G_sub [0] _ rfl ?_
  refine G_loop (F := lp_M_scan_0 N rr) 0 39 (fun (v0 : Unit) => [(0, .ref (wad w 145))]) (fun (v0 : Unit) => [(0, .ref (wad w 145))]) (fun _ _ _ => rfl) (fun a8 M7 => ?_) (fun k0 hk0 Nl0 ih0 v0 M => ?_) N () M
  · refine G_aload_n g (pc := 39) 0 d_M_scan_39 rfl rfl ?_
    refine G_aload_n g (pc := 40) 0 d_M_scan_40 rfl rfl ?_
    refine G_get g (pc := 41) fa_M_244 (hw.mm 145 (Nat.le_of_ble_eq_true rfl) (Nat.le_of_ble_eq_true rfl)) (hw.k (zk145 rr)) d_M_scan_41 ?_
    refine G_put g (pc := 44) fa_M_247 fw_10_18 rfl rfl (hw.mm 145 (Nat.le_of_ble_eq_true rfl) (Nat.le_of_ble_eq_true rfl)) (hw.k (zk145 rr)) d_M_scan_44 ?_
    refine G_nmM (fun M9 => ?_)
    refine G_aload_n g (pc := 47) 0 d_M_scan_47 rfl rfl ?_
    refine G_get g (pc := 48) fa_M_244 (hw.mm 145 (Nat.le_of_ble_eq_true rfl) (Nat.le_of_ble_eq_true rfl)) (hw.k (zk145 rr)) d_M_scan_48 ?_
    refine G_aload_n g (pc := 51) 0 d_M_scan_51 rfl rfl ?_
    refine G_get g (pc := 52) fa_M_238 (hw.mm 145 (Nat.le_of_ble_eq_true rfl) (Nat.le_of_ble_eq_true rfl)) (hw.k (zk145 rr)) d_M_scan_52 ?_
    refine G_icmp_lt g (pc := 55) 66 d_M_scan_55 (by decide) ?_ ?_
    · refine G_aload_n g (pc := 66) 0 d_M_scan_66 rfl rfl ?_
      refine G_aload_n g (pc := 67) 0 d_M_scan_67 rfl rfl ?_
      refine G_get g (pc := 68) fa_M_244 (hw.mm 145 (Nat.le_of_ble_eq_true rfl) (Nat.le_of_ble_eq_true rfl)) (hw.k (zk145 rr)) d_M_scan_68 ?_
      refine G_cVZ g (pc := 71) (As := [.int (M9 145 17)]) (st := []) cc_M_253 (c_M_isLetter l hw (M9 145 17) M9) (hw.mm 145 (Nat.le_of_ble_eq_true rfl) (Nat.le_of_ble_eq_true rfl)) (hw.k (zk145 rr)) rfl (by decide) rfl ⟨(Nat.le_of_ble_eq_true rfl), (Nat.le_of_ble_eq_true rfl)⟩ ⟨(Nat.le_of_ble_eq_true rfl), (Nat.le_of_ble_eq_true rfl)⟩ (Nat.le_of_ble_eq_true rfl) d_M_scan_71 (fun x10 M11 => ?_)
      refine G_if_eqB g (pc := 74) 109 d_M_scan_74 (by decide) ?_ ?_
      · refine G_sub [0] _ rfl ?_
        refine G_loop (F := lp_M_scan_77 N rr) 77 101 (fun (v77 : Unit) => [(0, .ref (wad w 145))]) (fun (v77 : Unit) => [(0, .ref (wad w 145))]) (fun _ _ _ => rfl) (fun a16 M15 => ?_) (fun k77 hk77 Nl77 ih77 v77 M => ?_) N () M11
        · refine G_aload_n g (pc := 101) 0 d_M_scan_101 rfl rfl ?_
          refine G_iconst g (pc := 102) (1 : Int32) d_M_scan_102 rfl ?_
          refine G_put g (pc := 103) fa_M_250 fw_10_19 rfl rfl (hw.mm 145 (Nat.le_of_ble_eq_true rfl) (Nat.le_of_ble_eq_true rfl)) (hw.k (zk145 rr)) d_M_scan_103 ?_
          refine G_nmM (fun M17 => ?_)
          refine G_goto g (pc := 106) 167 d_M_scan_106 (by decide) ?_
          exact G_return g (pc := 167) hret (Nat.le_of_ble_eq_true rfl) (Nat.le_of_ble_eq_true rfl) d_M_scan_167
        · show Go p0 l e _ s m args below meth c w _ _ _ _ (lp_M_scan_77 N rr (Nl77 + 1) v77 M k77) 77 _ _ M
          unfold lp_M_scan_77
          refine G_aload_n g (pc := 77) 0 d_M_scan_77 rfl rfl ?_
          refine G_aload_n g (pc := 78) 0 d_M_scan_78 rfl rfl ?_
          refine G_get g (pc := 79) fa_M_244 (hw.mm 145 (Nat.le_of_ble_eq_true rfl) (Nat.le_of_ble_eq_true rfl)) (hw.k (zk145 rr)) d_M_scan_79 ?_
          refine G_cVZ g (pc := 82) (As := [.int (M 145 17)]) (st := []) cc_M_253 (c_M_isLetter l hw (M 145 17) M) (hw.mm 145 (Nat.le_of_ble_eq_true rfl) (Nat.le_of_ble_eq_true rfl)) (hw.k (zk145 rr)) rfl (by decide) rfl ⟨(Nat.le_of_ble_eq_true rfl), (Nat.le_of_ble_eq_true rfl)⟩ ⟨(Nat.le_of_ble_eq_true rfl), (Nat.le_of_ble_eq_true rfl)⟩ (Nat.le_of_ble_eq_true rfl) d_M_scan_82 (fun x12 M13 => ?_)
          refine G_if_eqB g (pc := 85) 101 d_M_scan_85 (by decide) ?_ ?_
          · refine G_aload_n g (pc := 88) 0 d_M_scan_88 rfl rfl ?_
            refine G_dup g (pc := 89) d_M_scan_89 rfl ?_
            refine G_get g (pc := 90) fa_M_244 (hw.mm 145 (Nat.le_of_ble_eq_true rfl) (Nat.le_of_ble_eq_true rfl)) (hw.k (zk145 rr)) d_M_scan_90 ?_
            refine G_iconst g (pc := 93) (1 : Int32) d_M_scan_93 rfl ?_
            refine G_iadd g (pc := 94) d_M_scan_94 ?_
            refine G_put g (pc := 95) fa_M_244 fw_10_17 rfl rfl (hw.mm 145 (Nat.le_of_ble_eq_true rfl) (Nat.le_of_ble_eq_true rfl)) (hw.k (zk145 rr)) d_M_scan_95 ?_
            refine G_nmM (fun M14 => ?_)
            refine G_goto g (pc := 98) 77 d_M_scan_98 (by decide) ?_
            refine G_sub [0] _ rfl ?_
            exact ih77 () M14
          · refine G_sub [0] _ rfl ?_
            exact hk77 () M13
      · refine G_aload_n g (pc := 109) 0 d_M_scan_109 rfl rfl ?_
        refine G_aload_n g (pc := 110) 0 d_M_scan_110 rfl rfl ?_
        refine G_get g (pc := 111) fa_M_244 (hw.mm 145 (Nat.le_of_ble_eq_true rfl) (Nat.le_of_ble_eq_true rfl)) (hw.k (zk145 rr)) d_M_scan_111 ?_
        refine G_cVZ g (pc := 114) (As := [.int (M11 145 17)]) (st := []) cc_M_256 (c_M_isDigit l hw (M11 145 17) M11) (hw.mm 145 (Nat.le_of_ble_eq_true rfl) (Nat.le_of_ble_eq_true rfl)) (hw.k (zk145 rr)) rfl (by decide) rfl ⟨(Nat.le_of_ble_eq_true rfl), (Nat.le_of_ble_eq_true rfl)⟩ ⟨(Nat.le_of_ble_eq_true rfl), (Nat.le_of_ble_eq_true rfl)⟩ (Nat.le_of_ble_eq_true rfl) d_M_scan_114 (fun x18 M19 => ?_)
        refine G_if_eqB g (pc := 117) 152 d_M_scan_117 (by decide) ?_ ?_
        · refine G_sub [0] _ rfl ?_
          refine G_loop (F := lp_M_scan_120 N rr) 120 144 (fun (v120 : Unit) => [(0, .ref (wad w 145))]) (fun (v120 : Unit) => [(0, .ref (wad w 145))]) (fun _ _ _ => rfl) (fun a24 M23 => ?_) (fun k120 hk120 Nl120 ih120 v120 M => ?_) N () M19
          · refine G_aload_n g (pc := 144) 0 d_M_scan_144 rfl rfl ?_
            refine G_iconst g (pc := 145) (2 : Int32) d_M_scan_145 rfl ?_
            refine G_put g (pc := 146) fa_M_250 fw_10_19 rfl rfl (hw.mm 145 (Nat.le_of_ble_eq_true rfl) (Nat.le_of_ble_eq_true rfl)) (hw.k (zk145 rr)) d_M_scan_146 ?_
            refine G_nmM (fun M25 => ?_)
            refine G_goto g (pc := 149) 167 d_M_scan_149 (by decide) ?_
            exact G_return g (pc := 167) hret (Nat.le_of_ble_eq_true rfl) (Nat.le_of_ble_eq_true rfl) d_M_scan_167
          · show Go p0 l e _ s m args below meth c w _ _ _ _ (lp_M_scan_120 N rr (Nl120 + 1) v120 M k120) 120 _ _ M
            unfold lp_M_scan_120
            refine G_aload_n g (pc := 120) 0 d_M_scan_120 rfl rfl ?_
            refine G_aload_n g (pc := 121) 0 d_M_scan_121 rfl rfl ?_
            refine G_get g (pc := 122) fa_M_244 (hw.mm 145 (Nat.le_of_ble_eq_true rfl) (Nat.le_of_ble_eq_true rfl)) (hw.k (zk145 rr)) d_M_scan_122 ?_
            refine G_cVZ g (pc := 125) (As := [.int (M 145 17)]) (st := []) cc_M_256 (c_M_isDigit l hw (M 145 17) M) (hw.mm 145 (Nat.le_of_ble_eq_true rfl) (Nat.le_of_ble_eq_true rfl)) (hw.k (zk145 rr)) rfl (by decide) rfl ⟨(Nat.le_of_ble_eq_true rfl), (Nat.le_of_ble_eq_true rfl)⟩ ⟨(Nat.le_of_ble_eq_true rfl), (Nat.le_of_ble_eq_true rfl)⟩ (Nat.le_of_ble_eq_true rfl) d_M_scan_125 (fun x20 M21 => ?_)
            refine G_if_eqB g (pc := 128) 144 d_M_scan_128 (by decide) ?_ ?_
            · refine G_aload_n g (pc := 131) 0 d_M_scan_131 rfl rfl ?_
              refine G_dup g (pc := 132) d_M_scan_132 rfl ?_
              refine G_get g (pc := 133) fa_M_244 (hw.mm 145 (Nat.le_of_ble_eq_true rfl) (Nat.le_of_ble_eq_true rfl)) (hw.k (zk145 rr)) d_M_scan_133 ?_
              refine G_iconst g (pc := 136) (1 : Int32) d_M_scan_136 rfl ?_
              refine G_iadd g (pc := 137) d_M_scan_137 ?_
              refine G_put g (pc := 138) fa_M_244 fw_10_17 rfl rfl (hw.mm 145 (Nat.le_of_ble_eq_true rfl) (Nat.le_of_ble_eq_true rfl)) (hw.k (zk145 rr)) d_M_scan_138 ?_
              refine G_nmM (fun M22 => ?_)
              refine G_goto g (pc := 141) 120 d_M_scan_141 (by decide) ?_
              refine G_sub [0] _ rfl ?_
              exact ih120 () M22
            · refine G_sub [0] _ rfl ?_
              exact hk120 () M21
        · refine G_aload_n g (pc := 152) 0 d_M_scan_152 rfl rfl ?_
          refine G_dup g (pc := 153) d_M_scan_153 rfl ?_
          refine G_get g (pc := 154) fa_M_244 (hw.mm 145 (Nat.le_of_ble_eq_true rfl) (Nat.le_of_ble_eq_true rfl)) (hw.k (zk145 rr)) d_M_scan_154 ?_
          refine G_iconst g (pc := 157) (1 : Int32) d_M_scan_157 rfl ?_
          refine G_iadd g (pc := 158) d_M_scan_158 ?_
          refine G_put g (pc := 159) fa_M_244 fw_10_17 rfl rfl (hw.mm 145 (Nat.le_of_ble_eq_true rfl) (Nat.le_of_ble_eq_true rfl)) (hw.k (zk145 rr)) d_M_scan_159 ?_
          refine G_nmM (fun M26 => ?_)
          refine G_aload_n g (pc := 162) 0 d_M_scan_162 rfl rfl ?_
          refine G_iconst g (pc := 163) (3 : Int32) d_M_scan_163 rfl ?_
          refine G_put g (pc := 164) fa_M_250 fw_10_19 rfl rfl (hw.mm 145 (Nat.le_of_ble_eq_true rfl) (Nat.le_of_ble_eq_true rfl)) (hw.k (zk145 rr)) d_M_scan_164 ?_
          refine G_nmM (fun M27 => ?_)
          exact G_return g (pc := 167) hret (Nat.le_of_ble_eq_true rfl) (Nat.le_of_ble_eq_true rfl) d_M_scan_167
    · refine G_aload_n g (pc := 58) 0 d_M_scan_58 rfl rfl ?_
      refine G_iconst g (pc := 59) (0 : Int32) d_M_scan_59 rfl ?_
      refine G_put g (pc := 60) fa_M_250 fw_10_19 rfl rfl (hw.mm 145 (Nat.le_of_ble_eq_true rfl) (Nat.le_of_ble_eq_true rfl)) (hw.k (zk145 rr)) d_M_scan_60 ?_
      refine G_nmM (fun M28 => ?_)
      refine G_goto g (pc := 63) 167 d_M_scan_63 (by decide) ?_
      exact G_return g (pc := 167) hret (Nat.le_of_ble_eq_true rfl) (Nat.le_of_ble_eq_true rfl) d_M_scan_167
  · show Go p0 l e _ s m args below meth c w _ _ _ _ (lp_M_scan_0 N rr (Nl0 + 1) v0 M k0) 0 _ _ M
    unfold lp_M_scan_0
    refine G_aload_n g (pc := 0) 0 d_M_scan_0 rfl rfl ?_
    refine G_aload_n g (pc := 1) 0 d_M_scan_1 rfl rfl ?_
    refine G_get g (pc := 2) fa_M_244 (hw.mm 145 (Nat.le_of_ble_eq_true rfl) (Nat.le_of_ble_eq_true rfl)) (hw.k (zk145 rr)) d_M_scan_2 ?_
    refine G_cVI g (pc := 5) (As := [.int (M 145 17)]) (st := []) cc_M_241 (c_M_byteAt l hw (M 145 17) M) (hw.mm 145 (Nat.le_of_ble_eq_true rfl) (Nat.le_of_ble_eq_true rfl)) (hw.k (zk145 rr)) rfl (by decide) rfl ⟨(Nat.le_of_ble_eq_true rfl), (Nat.le_of_ble_eq_true rfl)⟩ ⟨(Nat.le_of_ble_eq_true rfl), (Nat.le_of_ble_eq_true rfl)⟩ (Nat.le_of_ble_eq_true rfl) d_M_scan_5 (fun x1 M2 => ?_)
    refine G_bipush g (pc := 8) (32 : Int32) d_M_scan_8 rfl ?_
    refine G_icmp_eq g (pc := 10) 26 d_M_scan_10 (by decide) ?_ ?_
    · refine G_aload_n g (pc := 26) 0 d_M_scan_26 rfl rfl ?_
      refine G_dup g (pc := 27) d_M_scan_27 rfl ?_
      refine G_get g (pc := 28) fa_M_244 (hw.mm 145 (Nat.le_of_ble_eq_true rfl) (Nat.le_of_ble_eq_true rfl)) (hw.k (zk145 rr)) d_M_scan_28 ?_
      refine G_iconst g (pc := 31) (1 : Int32) d_M_scan_31 rfl ?_
      refine G_iadd g (pc := 32) d_M_scan_32 ?_
      refine G_put g (pc := 33) fa_M_244 fw_10_17 rfl rfl (hw.mm 145 (Nat.le_of_ble_eq_true rfl) (Nat.le_of_ble_eq_true rfl)) (hw.k (zk145 rr)) d_M_scan_33 ?_
      refine G_nmM (fun M3 => ?_)
      refine G_goto g (pc := 36) 0 d_M_scan_36 (by decide) ?_
      refine G_sub [0] _ rfl ?_
      exact ih0 () M3
    · refine G_aload_n g (pc := 13) 0 d_M_scan_13 rfl rfl ?_
      refine G_aload_n g (pc := 14) 0 d_M_scan_14 rfl rfl ?_
      refine G_get g (pc := 15) fa_M_244 (hw.mm 145 (Nat.le_of_ble_eq_true rfl) (Nat.le_of_ble_eq_true rfl)) (hw.k (zk145 rr)) d_M_scan_15 ?_
      refine G_cVI g (pc := 18) (As := [.int (M2 145 17)]) (st := []) cc_M_241 (c_M_byteAt l hw (M2 145 17) M2) (hw.mm 145 (Nat.le_of_ble_eq_true rfl) (Nat.le_of_ble_eq_true rfl)) (hw.k (zk145 rr)) rfl (by decide) rfl ⟨(Nat.le_of_ble_eq_true rfl), (Nat.le_of_ble_eq_true rfl)⟩ ⟨(Nat.le_of_ble_eq_true rfl), (Nat.le_of_ble_eq_true rfl)⟩ (Nat.le_of_ble_eq_true rfl) d_M_scan_18 (fun x4 M5 => ?_)
      refine G_bipush g (pc := 21) (10 : Int32) d_M_scan_21 rfl ?_
      refine G_icmp_ne g (pc := 23) 39 d_M_scan_23 (by decide) ?_ ?_
      · refine G_aload_n g (pc := 26) 0 d_M_scan_26 rfl rfl ?_
        refine G_dup g (pc := 27) d_M_scan_27 rfl ?_
        refine G_get g (pc := 28) fa_M_244 (hw.mm 145 (Nat.le_of_ble_eq_true rfl) (Nat.le_of_ble_eq_true rfl)) (hw.k (zk145 rr)) d_M_scan_28 ?_
        refine G_iconst g (pc := 31) (1 : Int32) d_M_scan_31 rfl ?_
        refine G_iadd g (pc := 32) d_M_scan_32 ?_
        refine G_put g (pc := 33) fa_M_244 fw_10_17 rfl rfl (hw.mm 145 (Nat.le_of_ble_eq_true rfl) (Nat.le_of_ble_eq_true rfl)) (hw.k (zk145 rr)) d_M_scan_33 ?_
        refine G_nmM (fun M6 => ?_)
        refine G_goto g (pc := 36) 0 d_M_scan_36 (by decide) ?_
        refine G_sub [0] _ rfl ?_
        exact ih0 () M6
      · refine G_sub [0] _ rfl ?_
        exact hk0 () M5

theorem d_M_startText_0 : decode b_M_startText 0 = .ok (.aload_n 0, 1) := by decide +kernel
theorem d_M_startText_1 : decode b_M_startText 1 = .ok (.iload_n 1, 1) := by decide +kernel
theorem d_M_startText_2 : decode b_M_startText 2 = .ok (.putfield 238, 3) := by decide +kernel
theorem d_M_startText_5 : decode b_M_startText 5 = .ok (.aload_n 0, 1) := by decide +kernel
theorem d_M_startText_6 : decode b_M_startText 6 = .ok (.iconst 0, 1) := by decide +kernel
theorem d_M_startText_7 : decode b_M_startText 7 = .ok (.putfield 244, 3) := by decide +kernel
theorem d_M_startText_10 : decode b_M_startText 10 = .ok (.aload_n 0, 1) := by decide +kernel
theorem d_M_startText_11 : decode b_M_startText 11 = .ok (.iconst 0, 1) := by decide +kernel
theorem d_M_startText_12 : decode b_M_startText 12 = .ok (.putfield 259, 3) := by decide +kernel
theorem d_M_startText_15 : decode b_M_startText 15 = .ok (.aload_n 0, 1) := by decide +kernel
theorem d_M_startText_16 : decode b_M_startText 16 = .ok (.iconst 0, 1) := by decide +kernel
theorem d_M_startText_17 : decode b_M_startText 17 = .ok (.putfield 262, 3) := by decide +kernel
theorem d_M_startText_20 : decode b_M_startText 20 = .ok (.aload_n 0, 1) := by decide +kernel
theorem d_M_startText_21 : decode b_M_startText 21 = .ok (.invokevirtual 265, 3) := by decide +kernel
theorem d_M_startText_24 : decode b_M_startText 24 = .ok (.return_, 1) := by decide +kernel
theorem cc_M_265 : CV "KiteLoggerModel" 265 y_M_scan b_M_scan 1 none 0 := ⟨TT_in (i := 1870) (by decide +kernel) (by decide +kernel), TT_in (i := 1872) (by decide +kernel) (by decide +kernel), TT_in (i := 64) (by decide +kernel) (by decide +kernel), TT_in (i := 100) (by decide +kernel) (by decide +kernel), TT_in (i := 1873) (by decide +kernel) (by decide +kernel), ⟨by decide +kernel, by decide +kernel, by decide +kernel⟩⟩
def f_M_startText (N : Nat) (rr : Nat) (a1 : Int32) (M : Mem) : Option (Mem) :=
  nm (put M 145 16 a1) fun (M1 : Mem) => nm (put M1 145 17 (0 : Int32)) fun (M2 : Mem) => nm (put M2 145 20 (0 : Int32)) fun (M3 : Mem) => nm (put M3 145 23 (0 : Int32)) fun (M4 : Mem) => bndM (f_M_scan N rr M4) fun (M6 : Mem) => some M6
set_option maxHeartbeats 4000000 in
set_option maxRecDepth 100000 in
theorem c_M_startText (l : Launch) (N : Nat) {w : Wc} {rr : Nat} (hw : WM w rr) (a1 : Int32) (M : Mem) : Ct QV l y_M_startText b_M_startText 2 none (rmL 3) w [.ref (wad w 145), .int a1] M (f_M_startText N rr a1 M) := by
  refine Ct.go (by decide) (L := [(0, .ref (wad w 145)), (1, .int a1)]) rfl (Nat.le_of_ble_eq_true rfl) (fun p0 e s m args below meth c g hret => ?_)
  unfold f_M_startText
  refine G_aload_n g (pc := 0) 0 d_M_startText_0 rfl rfl ?_
  refine G_iload_n g (pc := 1) 1 d_M_startText_1 rfl rfl ?_
  refine G_put g (pc := 2) fa_M_238 fw_10_16 rfl rfl (hw.mm 145 (Nat.le_of_ble_eq_true rfl) (Nat.le_of_ble_eq_true rfl)) (hw.k (zk145 rr)) d_M_startText_2 ?_
  refine G_nmM (fun M1 => ?_)
  refine G_aload_n g (pc := 5) 0 d_M_startText_5 rfl rfl ?_
  refine G_iconst g (pc := 6) (0 : Int32) d_M_startText_6 rfl ?_
  refine G_put g (pc := 7) fa_M_244 fw_10_17 rfl rfl (hw.mm 145 (Nat.le_of_ble_eq_true rfl) (Nat.le_of_ble_eq_true rfl)) (hw.k (zk145 rr)) d_M_startText_7 ?_
  refine G_nmM (fun M2 => ?_)
  refine G_aload_n g (pc := 10) 0 d_M_startText_10 rfl rfl ?_
  refine G_iconst g (pc := 11) (0 : Int32) d_M_startText_11 rfl ?_
  refine G_put g (pc := 12) fa_M_259 fw_10_20 rfl rfl (hw.mm 145 (Nat.le_of_ble_eq_true rfl) (Nat.le_of_ble_eq_true rfl)) (hw.k (zk145 rr)) d_M_startText_12 ?_
  refine G_nmM (fun M3 => ?_)
  refine G_aload_n g (pc := 15) 0 d_M_startText_15 rfl rfl ?_
  refine G_iconst g (pc := 16) (0 : Int32) d_M_startText_16 rfl ?_
  refine G_put g (pc := 17) fa_M_262 fw_10_23 rfl rfl (hw.mm 145 (Nat.le_of_ble_eq_true rfl) (Nat.le_of_ble_eq_true rfl)) (hw.k (zk145 rr)) d_M_startText_17 ?_
  refine G_nmM (fun M4 => ?_)
  refine G_aload_n g (pc := 20) 0 d_M_startText_20 rfl rfl ?_
  refine G_cVV g (pc := 21) (As := []) (st := []) cc_M_265 (c_M_scan l N hw M4) (hw.mm 145 (Nat.le_of_ble_eq_true rfl) (Nat.le_of_ble_eq_true rfl)) (hw.k (zk145 rr)) rfl (by decide) rfl ⟨(Nat.le_of_ble_eq_true rfl), (Nat.le_of_ble_eq_true rfl)⟩ ⟨(Nat.le_of_ble_eq_true rfl), (Nat.le_of_ble_eq_true rfl)⟩ (Nat.le_of_ble_eq_true rfl) d_M_startText_21 (fun M6 => ?_)
  exact G_return g (pc := 24) hret (Nat.le_of_ble_eq_true rfl) (Nat.le_of_ble_eq_true rfl) d_M_startText_24

theorem d_M_finish_0 : decode b_M_finish 0 = .ok (.aload_n 0, 1) := by decide +kernel
theorem d_M_finish_1 : decode b_M_finish 1 = .ok (.iconst 0, 1) := by decide +kernel
theorem d_M_finish_2 : decode b_M_finish 2 = .ok (.putfield 235, 3) := by decide +kernel
theorem d_M_finish_5 : decode b_M_finish 5 = .ok (.aload_n 0, 1) := by decide +kernel
theorem d_M_finish_6 : decode b_M_finish 6 = .ok (.aload_n 0, 1) := by decide +kernel
theorem d_M_finish_7 : decode b_M_finish 7 = .ok (.getfield 259, 3) := by decide +kernel
theorem d_M_finish_10 : decode b_M_finish 10 = .ok (.ifCond .ne 7, 3) := by decide +kernel
theorem d_M_finish_13 : decode b_M_finish 13 = .ok (.iconst (-1), 1) := by decide +kernel
theorem d_M_finish_14 : decode b_M_finish 14 = .ok (.goto 7, 3) := by decide +kernel
theorem d_M_finish_17 : decode b_M_finish 17 = .ok (.aload_n 0, 1) := by decide +kernel
theorem d_M_finish_18 : decode b_M_finish 18 = .ok (.getfield 268, 3) := by decide +kernel
theorem d_M_finish_21 : decode b_M_finish 21 = .ok (.putfield 37, 3) := by decide +kernel
theorem d_M_finish_24 : decode b_M_finish 24 = .ok (.aload_n 0, 1) := by decide +kernel
theorem d_M_finish_25 : decode b_M_finish 25 = .ok (.getfield 259, 3) := by decide +kernel
theorem d_M_finish_28 : decode b_M_finish 28 = .ok (.ireturn, 1) := by decide +kernel
def f_M_finish  (M : Mem) : Option (Int32 × Mem) :=
  nm (put M 145 15 (0 : Int32)) fun (M1 : Mem) => if (M1 145 20) = 0 then (nm (put M1 145 22 (-1 : Int32)) fun (M2 : Mem) => some (M2 145 20, M2)) else (nm (put M1 145 22 (M1 145 21)) fun (M3 : Mem) => some (M3 145 20, M3))
set_option maxHeartbeats 4000000 in
set_option maxRecDepth 100000 in
theorem c_M_finish (l : Launch) {w : Wc} {rr : Nat} (hw : WM w rr)  (M : Mem) : Ct QI l y_M_finish b_M_finish 1 (some .int) (rmL 0) w [.ref (wad w 145)] M (f_M_finish  M) := by
  refine Ct.go (by decide) (L := [(0, .ref (wad w 145))]) rfl (Nat.le_of_ble_eq_true rfl) (fun p0 e s m args below meth c g hret => ?_)
  unfold f_M_finish
  refine G_aload_n g (pc := 0) 0 d_M_finish_0 rfl rfl ?_
  refine G_iconst g (pc := 1) (0 : Int32) d_M_finish_1 rfl ?_
  refine G_put g (pc := 2) fa_M_235 fw_10_15 rfl rfl (hw.mm 145 (Nat.le_of_ble_eq_true rfl) (Nat.le_of_ble_eq_true rfl)) (hw.k (zk145 rr)) d_M_finish_2 ?_
  refine G_nmM (fun M1 => ?_)
  refine G_aload_n g (pc := 5) 0 d_M_finish_5 rfl rfl ?_
  refine G_aload_n g (pc := 6) 0 d_M_finish_6 rfl rfl ?_
  refine G_get g (pc := 7) fa_M_259 (hw.mm 145 (Nat.le_of_ble_eq_true rfl) (Nat.le_of_ble_eq_true rfl)) (hw.k (zk145 rr)) d_M_finish_7 ?_
  refine G_if_ne g (pc := 10) 17 d_M_finish_10 (by decide) ?_ ?_
  · refine G_iconst g (pc := 13) (-1 : Int32) d_M_finish_13 rfl ?_
    refine G_goto g (pc := 14) 21 d_M_finish_14 (by decide) ?_
    refine G_put g (pc := 21) fa_M_37 fw_10_22 rfl rfl (hw.mm 145 (Nat.le_of_ble_eq_true rfl) (Nat.le_of_ble_eq_true rfl)) (hw.k (zk145 rr)) d_M_finish_21 ?_
    refine G_nmM (fun M2 => ?_)
    refine G_aload_n g (pc := 24) 0 d_M_finish_24 rfl rfl ?_
    refine G_get g (pc := 25) fa_M_259 (hw.mm 145 (Nat.le_of_ble_eq_true rfl) (Nat.le_of_ble_eq_true rfl)) (hw.k (zk145 rr)) d_M_finish_25 ?_
    exact G_ireturn g (pc := 28) hret (Nat.le_of_ble_eq_true rfl) (Nat.le_of_ble_eq_true rfl) d_M_finish_28
  · refine G_aload_n g (pc := 17) 0 d_M_finish_17 rfl rfl ?_
    refine G_get g (pc := 18) fa_M_268 (hw.mm 145 (Nat.le_of_ble_eq_true rfl) (Nat.le_of_ble_eq_true rfl)) (hw.k (zk145 rr)) d_M_finish_18 ?_
    refine G_put g (pc := 21) fa_M_37 fw_10_22 rfl rfl (hw.mm 145 (Nat.le_of_ble_eq_true rfl) (Nat.le_of_ble_eq_true rfl)) (hw.k (zk145 rr)) d_M_finish_21 ?_
    refine G_nmM (fun M3 => ?_)
    refine G_aload_n g (pc := 24) 0 d_M_finish_24 rfl rfl ?_
    refine G_get g (pc := 25) fa_M_259 (hw.mm 145 (Nat.le_of_ble_eq_true rfl) (Nat.le_of_ble_eq_true rfl)) (hw.k (zk145 rr)) d_M_finish_25 ?_
    exact G_ireturn g (pc := 28) hret (Nat.le_of_ble_eq_true rfl) (Nat.le_of_ble_eq_true rfl) d_M_finish_28

theorem d_M_check_0 : decode b_M_check 0 = .ok (.iload_n 1, 1) := by decide +kernel
theorem d_M_check_1 : decode b_M_check 1 = .ok (.ifCond .ne 23, 3) := by decide +kernel
theorem d_M_check_4 : decode b_M_check 4 = .ok (.aload_n 0, 1) := by decide +kernel
theorem d_M_check_5 : decode b_M_check 5 = .ok (.getfield 259, 3) := by decide +kernel
theorem d_M_check_8 : decode b_M_check 8 = .ok (.ifCond .ne 16, 3) := by decide +kernel
theorem d_M_check_11 : decode b_M_check 11 = .ok (.aload_n 0, 1) := by decide +kernel
theorem d_M_check_12 : decode b_M_check 12 = .ok (.iload_n 2, 1) := by decide +kernel
theorem d_M_check_13 : decode b_M_check 13 = .ok (.putfield 259, 3) := by decide +kernel
theorem d_M_check_16 : decode b_M_check 16 = .ok (.aload_n 0, 1) := by decide +kernel
theorem d_M_check_17 : decode b_M_check 17 = .ok (.aload_n 0, 1) := by decide +kernel
theorem d_M_check_18 : decode b_M_check 18 = .ok (.getfield 247, 3) := by decide +kernel
theorem d_M_check_21 : decode b_M_check 21 = .ok (.putfield 268, 3) := by decide +kernel
theorem d_M_check_24 : decode b_M_check 24 = .ok (.return_, 1) := by decide +kernel
def f_M_check (a1 : Bool) (a2 : Int32) (M : Mem) : Option (Mem) :=
  if a1 = true then (some M) else (if (M 145 20) = 0 then (nm (put M 145 20 a2) fun (M1 : Mem) => nm (put M1 145 21 (M1 145 18)) fun (M2 : Mem) => some M2) else (some M))
set_option maxHeartbeats 4000000 in
set_option maxRecDepth 100000 in
theorem c_M_check (l : Launch) {w : Wc} {rr : Nat} (hw : WM w rr) (a1 : Bool) (a2 : Int32) (M : Mem) : Ct QV l y_M_check b_M_check 3 none (rmL 0) w [.ref (wad w 145), .int (b2i a1), .int a2] M (f_M_check a1 a2 M) := by
  refine Ct.go (by decide) (L := [(0, .ref (wad w 145)), (1, .int (b2i a1)), (2, .int a2)]) rfl (Nat.le_of_ble_eq_true rfl) (fun p0 e s m args below meth c g hret => ?_)
  unfold f_M_check
  refine G_iload_n g (pc := 0) 1 d_M_check_0 rfl rfl ?_
  refine G_if_neB g (pc := 1) 24 d_M_check_1 (by decide) ?_ ?_
  · exact G_return g (pc := 24) hret (Nat.le_of_ble_eq_true rfl) (Nat.le_of_ble_eq_true rfl) d_M_check_24
  · refine G_aload_n g (pc := 4) 0 d_M_check_4 rfl rfl ?_
    refine G_get g (pc := 5) fa_M_259 (hw.mm 145 (Nat.le_of_ble_eq_true rfl) (Nat.le_of_ble_eq_true rfl)) (hw.k (zk145 rr)) d_M_check_5 ?_
    refine G_if_ne g (pc := 8) 24 d_M_check_8 (by decide) ?_ ?_
    · refine G_aload_n g (pc := 11) 0 d_M_check_11 rfl rfl ?_
      refine G_iload_n g (pc := 12) 2 d_M_check_12 rfl rfl ?_
      refine G_put g (pc := 13) fa_M_259 fw_10_20 rfl rfl (hw.mm 145 (Nat.le_of_ble_eq_true rfl) (Nat.le_of_ble_eq_true rfl)) (hw.k (zk145 rr)) d_M_check_13 ?_
      refine G_nmM (fun M1 => ?_)
      refine G_aload_n g (pc := 16) 0 d_M_check_16 rfl rfl ?_
      refine G_aload_n g (pc := 17) 0 d_M_check_17 rfl rfl ?_
      refine G_get g (pc := 18) fa_M_247 (hw.mm 145 (Nat.le_of_ble_eq_true rfl) (Nat.le_of_ble_eq_true rfl)) (hw.k (zk145 rr)) d_M_check_18 ?_
      refine G_put g (pc := 21) fa_M_268 fw_10_21 rfl rfl (hw.mm 145 (Nat.le_of_ble_eq_true rfl) (Nat.le_of_ble_eq_true rfl)) (hw.k (zk145 rr)) d_M_check_21 ?_
      refine G_nmM (fun M2 => ?_)
      exact G_return g (pc := 24) hret (Nat.le_of_ble_eq_true rfl) (Nat.le_of_ble_eq_true rfl) d_M_check_24
    · exact G_return g (pc := 24) hret (Nat.le_of_ble_eq_true rfl) (Nat.le_of_ble_eq_true rfl) d_M_check_24

theorem d_M_advance_0 : decode b_M_advance 0 = .ok (.aload_n 0, 1) := by decide +kernel
theorem d_M_advance_1 : decode b_M_advance 1 = .ok (.getfield 259, 3) := by decide +kernel
theorem d_M_advance_4 : decode b_M_advance 4 = .ok (.ifCond .ne 7, 3) := by decide +kernel
theorem d_M_advance_7 : decode b_M_advance 7 = .ok (.aload_n 0, 1) := by decide +kernel
theorem d_M_advance_8 : decode b_M_advance 8 = .ok (.invokevirtual 265, 3) := by decide +kernel
theorem d_M_advance_11 : decode b_M_advance 11 = .ok (.return_, 1) := by decide +kernel
def f_M_advance (N : Nat) (rr : Nat) (M : Mem) : Option (Mem) :=
  if (M 145 20) = 0 then (bndM (f_M_scan N rr M) fun (M2 : Mem) => some M2) else (some M)
set_option maxHeartbeats 4000000 in
set_option maxRecDepth 100000 in
theorem c_M_advance (l : Launch) (N : Nat) {w : Wc} {rr : Nat} (hw : WM w rr)  (M : Mem) : Ct QV l y_M_advance b_M_advance 1 none (rmL 3) w [.ref (wad w 145)] M (f_M_advance N rr M) := by
  refine Ct.go (by decide) (L := [(0, .ref (wad w 145))]) rfl (Nat.le_of_ble_eq_true rfl) (fun p0 e s m args below meth c g hret => ?_)
  unfold f_M_advance
  refine G_aload_n g (pc := 0) 0 d_M_advance_0 rfl rfl ?_
  refine G_get g (pc := 1) fa_M_259 (hw.mm 145 (Nat.le_of_ble_eq_true rfl) (Nat.le_of_ble_eq_true rfl)) (hw.k (zk145 rr)) d_M_advance_1 ?_
  refine G_if_ne g (pc := 4) 11 d_M_advance_4 (by decide) ?_ ?_
  · refine G_aload_n g (pc := 7) 0 d_M_advance_7 rfl rfl ?_
    refine G_cVV g (pc := 8) (As := []) (st := []) cc_M_265 (c_M_scan l N hw M) (hw.mm 145 (Nat.le_of_ble_eq_true rfl) (Nat.le_of_ble_eq_true rfl)) (hw.k (zk145 rr)) rfl (by decide) rfl ⟨(Nat.le_of_ble_eq_true rfl), (Nat.le_of_ble_eq_true rfl)⟩ ⟨(Nat.le_of_ble_eq_true rfl), (Nat.le_of_ble_eq_true rfl)⟩ (Nat.le_of_ble_eq_true rfl) d_M_advance_8 (fun M2 => ?_)
    exact G_return g (pc := 11) hret (Nat.le_of_ble_eq_true rfl) (Nat.le_of_ble_eq_true rfl) d_M_advance_11
  · exact G_return g (pc := 11) hret (Nat.le_of_ble_eq_true rfl) (Nat.le_of_ble_eq_true rfl) d_M_advance_11

theorem d_M_isSymbol_0 : decode b_M_isSymbol 0 = .ok (.aload_n 0, 1) := by decide +kernel
theorem d_M_isSymbol_1 : decode b_M_isSymbol 1 = .ok (.getfield 259, 3) := by decide +kernel
theorem d_M_isSymbol_4 : decode b_M_isSymbol 4 = .ok (.ifCond .ne 28, 3) := by decide +kernel
theorem d_M_isSymbol_7 : decode b_M_isSymbol 7 = .ok (.aload_n 0, 1) := by decide +kernel
theorem d_M_isSymbol_8 : decode b_M_isSymbol 8 = .ok (.getfield 250, 3) := by decide +kernel
theorem d_M_isSymbol_11 : decode b_M_isSymbol 11 = .ok (.iconst 3, 1) := by decide +kernel
theorem d_M_isSymbol_12 : decode b_M_isSymbol 12 = .ok (.if_icmp .ne 20, 3) := by decide +kernel
theorem d_M_isSymbol_15 : decode b_M_isSymbol 15 = .ok (.aload_n 0, 1) := by decide +kernel
theorem d_M_isSymbol_16 : decode b_M_isSymbol 16 = .ok (.getfield 34, 3) := by decide +kernel
theorem d_M_isSymbol_19 : decode b_M_isSymbol 19 = .ok (.aload_n 0, 1) := by decide +kernel
theorem d_M_isSymbol_20 : decode b_M_isSymbol 20 = .ok (.getfield 247, 3) := by decide +kernel
theorem d_M_isSymbol_23 : decode b_M_isSymbol 23 = .ok (.iaload, 1) := by decide +kernel
theorem d_M_isSymbol_24 : decode b_M_isSymbol 24 = .ok (.iload_n 1, 1) := by decide +kernel
theorem d_M_isSymbol_25 : decode b_M_isSymbol 25 = .ok (.if_icmp .ne 7, 3) := by decide +kernel
theorem d_M_isSymbol_28 : decode b_M_isSymbol 28 = .ok (.iconst 1, 1) := by decide +kernel
theorem d_M_isSymbol_29 : decode b_M_isSymbol 29 = .ok (.goto 4, 3) := by decide +kernel
theorem d_M_isSymbol_32 : decode b_M_isSymbol 32 = .ok (.iconst 0, 1) := by decide +kernel
theorem d_M_isSymbol_33 : decode b_M_isSymbol 33 = .ok (.ireturn, 1) := by decide +kernel
def f_M_isSymbol (a1 : Int32) (M : Mem) : Option (Bool × Mem) :=
  if (M 145 20) = 0 then (if (M 145 19) = (3 : Int32) then (grd (inB (M 145 18) 500) (if (M 153 (M 145 18).toNatClampNeg) = a1 then (some (true, M)) else (some (false, M)))) else (some (false, M))) else (some (false, M))
set_option maxHeartbeats 4000000 in
set_option maxRecDepth 100000 in
theorem c_M_isSymbol (l : Launch) {w : Wc} {rr : Nat} (hw : WM w rr) (a1 : Int32) (M : Mem) : Ct QZ l y_M_isSymbol b_M_isSymbol 2 (some .boolean) (rmL 0) w [.ref (wad w 145), .int a1] M (f_M_isSymbol a1 M) := by
  refine Ct.go (by decide) (L := [(0, .ref (wad w 145)), (1, .int a1)]) rfl (Nat.le_of_ble_eq_true rfl) (fun p0 e s m args below meth c g hret => ?_)
  unfold f_M_isSymbol
  refine G_aload_n g (pc := 0) 0 d_M_isSymbol_0 rfl rfl ?_
  refine G_get g (pc := 1) fa_M_259 (hw.mm 145 (Nat.le_of_ble_eq_true rfl) (Nat.le_of_ble_eq_true rfl)) (hw.k (zk145 rr)) d_M_isSymbol_1 ?_
  refine G_if_ne g (pc := 4) 32 d_M_isSymbol_4 (by decide) ?_ ?_
  · refine G_aload_n g (pc := 7) 0 d_M_isSymbol_7 rfl rfl ?_
    refine G_get g (pc := 8) fa_M_250 (hw.mm 145 (Nat.le_of_ble_eq_true rfl) (Nat.le_of_ble_eq_true rfl)) (hw.k (zk145 rr)) d_M_isSymbol_8 ?_
    refine G_iconst g (pc := 11) (3 : Int32) d_M_isSymbol_11 rfl ?_
    refine G_icmp_ne g (pc := 12) 32 d_M_isSymbol_12 (by decide) ?_ ?_
    · refine G_aload_n g (pc := 15) 0 d_M_isSymbol_15 rfl rfl ?_
      refine G_getR g (pc := 16) fa_M_34 (hw.mm 145 (Nat.le_of_ble_eq_true rfl) (Nat.le_of_ble_eq_true rfl)) (hw.k (zk145 rr)) (hw.r (zr145_14 rr)) d_M_isSymbol_16 ?_
      refine G_aload_n g (pc := 19) 0 d_M_isSymbol_19 rfl rfl ?_
      refine G_get g (pc := 20) fa_M_247 (hw.mm 145 (Nat.le_of_ble_eq_true rfl) (Nat.le_of_ble_eq_true rfl)) (hw.k (zk145 rr)) d_M_isSymbol_20 ?_
      refine G_iald g (pc := 23) (nn := 500) (hw.mm 153 (Nat.le_of_ble_eq_true rfl) (Nat.le_of_ble_eq_true rfl)) (hw.k (zk153 rr)) (hw.n (zn153 rr)) d_M_isSymbol_23 ?_
      refine G_iload_n g (pc := 24) 1 d_M_isSymbol_24 rfl rfl ?_
      refine G_icmp_ne g (pc := 25) 32 d_M_isSymbol_25 (by decide) ?_ ?_
      · refine G_iconst g (pc := 28) (1 : Int32) d_M_isSymbol_28 rfl ?_
        refine G_goto g (pc := 29) 33 d_M_isSymbol_29 (by decide) ?_
        exact G_zreturn g (pc := 33) true rfl hret (Nat.le_of_ble_eq_true rfl) (Nat.le_of_ble_eq_true rfl) d_M_isSymbol_33
      · refine G_iconst g (pc := 32) (0 : Int32) d_M_isSymbol_32 rfl ?_
        exact G_zreturn g (pc := 33) false rfl hret (Nat.le_of_ble_eq_true rfl) (Nat.le_of_ble_eq_true rfl) d_M_isSymbol_33
    · refine G_iconst g (pc := 32) (0 : Int32) d_M_isSymbol_32 rfl ?_
      exact G_zreturn g (pc := 33) false rfl hret (Nat.le_of_ble_eq_true rfl) (Nat.le_of_ble_eq_true rfl) d_M_isSymbol_33
  · refine G_iconst g (pc := 32) (0 : Int32) d_M_isSymbol_32 rfl ?_
    exact G_zreturn g (pc := 33) false rfl hret (Nat.le_of_ble_eq_true rfl) (Nat.le_of_ble_eq_true rfl) d_M_isSymbol_33

theorem d_M_isWord_0 : decode b_M_isWord 0 = .ok (.aload_n 0, 1) := by decide +kernel
theorem d_M_isWord_1 : decode b_M_isWord 1 = .ok (.getfield 259, 3) := by decide +kernel
theorem d_M_isWord_4 : decode b_M_isWord 4 = .ok (.ifCond .ne 31, 3) := by decide +kernel
theorem d_M_isWord_7 : decode b_M_isWord 7 = .ok (.aload_n 0, 1) := by decide +kernel
theorem d_M_isWord_8 : decode b_M_isWord 8 = .ok (.getfield 250, 3) := by decide +kernel
theorem d_M_isWord_11 : decode b_M_isWord 11 = .ok (.iconst 1, 1) := by decide +kernel
theorem d_M_isWord_12 : decode b_M_isWord 12 = .ok (.if_icmp .ne 23, 3) := by decide +kernel
theorem d_M_isWord_15 : decode b_M_isWord 15 = .ok (.aload_n 1, 1) := by decide +kernel
theorem d_M_isWord_16 : decode b_M_isWord 16 = .ok (.invokevirtual 271, 3) := by decide +kernel
theorem d_M_isWord_19 : decode b_M_isWord 19 = .ok (.aload_n 0, 1) := by decide +kernel
theorem d_M_isWord_20 : decode b_M_isWord 20 = .ok (.getfield 244, 3) := by decide +kernel
theorem d_M_isWord_23 : decode b_M_isWord 23 = .ok (.aload_n 0, 1) := by decide +kernel
theorem d_M_isWord_24 : decode b_M_isWord 24 = .ok (.getfield 247, 3) := by decide +kernel
theorem d_M_isWord_27 : decode b_M_isWord 27 = .ok (.isub, 1) := by decide +kernel
theorem d_M_isWord_28 : decode b_M_isWord 28 = .ok (.if_icmp .ne 7, 3) := by decide +kernel
theorem d_M_isWord_31 : decode b_M_isWord 31 = .ok (.iconst 1, 1) := by decide +kernel
theorem d_M_isWord_32 : decode b_M_isWord 32 = .ok (.goto 4, 3) := by decide +kernel
theorem d_M_isWord_35 : decode b_M_isWord 35 = .ok (.iconst 0, 1) := by decide +kernel
theorem d_M_isWord_36 : decode b_M_isWord 36 = .ok (.istore_n 2, 1) := by decide +kernel
theorem d_M_isWord_37 : decode b_M_isWord 37 = .ok (.iconst 0, 1) := by decide +kernel
theorem d_M_isWord_38 : decode b_M_isWord 38 = .ok (.istore_n 3, 1) := by decide +kernel
theorem d_M_isWord_39 : decode b_M_isWord 39 = .ok (.iload_n 2, 1) := by decide +kernel
theorem d_M_isWord_40 : decode b_M_isWord 40 = .ok (.ifCond .eq 42, 3) := by decide +kernel
theorem d_M_isWord_43 : decode b_M_isWord 43 = .ok (.iload_n 3, 1) := by decide +kernel
theorem d_M_isWord_44 : decode b_M_isWord 44 = .ok (.aload_n 1, 1) := by decide +kernel
theorem d_M_isWord_45 : decode b_M_isWord 45 = .ok (.invokevirtual 271, 3) := by decide +kernel
theorem d_M_isWord_48 : decode b_M_isWord 48 = .ok (.if_icmp .ge 34, 3) := by decide +kernel
theorem d_M_isWord_51 : decode b_M_isWord 51 = .ok (.aload_n 1, 1) := by decide +kernel
theorem d_M_isWord_52 : decode b_M_isWord 52 = .ok (.iload_n 3, 1) := by decide +kernel
theorem d_M_isWord_53 : decode b_M_isWord 53 = .ok (.invokevirtual 274, 3) := by decide +kernel
theorem d_M_isWord_56 : decode b_M_isWord 56 = .ok (.aload_n 0, 1) := by decide +kernel
theorem d_M_isWord_57 : decode b_M_isWord 57 = .ok (.getfield 34, 3) := by decide +kernel
theorem d_M_isWord_60 : decode b_M_isWord 60 = .ok (.aload_n 0, 1) := by decide +kernel
theorem d_M_isWord_61 : decode b_M_isWord 61 = .ok (.getfield 247, 3) := by decide +kernel
theorem d_M_isWord_64 : decode b_M_isWord 64 = .ok (.iload_n 3, 1) := by decide +kernel
theorem d_M_isWord_65 : decode b_M_isWord 65 = .ok (.iadd, 1) := by decide +kernel
theorem d_M_isWord_66 : decode b_M_isWord 66 = .ok (.iaload, 1) := by decide +kernel
theorem d_M_isWord_67 : decode b_M_isWord 67 = .ok (.if_icmp .ne 7, 3) := by decide +kernel
theorem d_M_isWord_70 : decode b_M_isWord 70 = .ok (.iconst 1, 1) := by decide +kernel
theorem d_M_isWord_71 : decode b_M_isWord 71 = .ok (.goto 4, 3) := by decide +kernel
theorem d_M_isWord_74 : decode b_M_isWord 74 = .ok (.iconst 0, 1) := by decide +kernel
theorem d_M_isWord_75 : decode b_M_isWord 75 = .ok (.istore_n 2, 1) := by decide +kernel
theorem d_M_isWord_76 : decode b_M_isWord 76 = .ok (.iinc 3 1, 3) := by decide +kernel
theorem d_M_isWord_79 : decode b_M_isWord 79 = .ok (.goto (-40), 3) := by decide +kernel
theorem d_M_isWord_82 : decode b_M_isWord 82 = .ok (.iload_n 2, 1) := by decide +kernel
theorem d_M_isWord_83 : decode b_M_isWord 83 = .ok (.ireturn, 1) := by decide +kernel
theorem cc_M_271 : CV "KiteLoggerModel" 271 y_Str_length b_Str_length 1 (some .int) 0 := ⟨TT_in (i := 1895) (by decide +kernel) (by decide +kernel), TT_in (i := 891) (by decide +kernel) (by decide +kernel), TT_in (i := 892) (by decide +kernel) (by decide +kernel), TT_in (i := 105) (by decide +kernel) (by decide +kernel), TT_in (i := 893) (by decide +kernel) (by decide +kernel), ⟨by decide +kernel, by decide +kernel, by decide +kernel⟩⟩
theorem cc_M_274 : CV "KiteLoggerModel" 274 y_Str_charAt b_Str_charAt 2 (some .char) 1 := ⟨TT_in (i := 1896) (by decide +kernel) (by decide +kernel), TT_in (i := 901) (by decide +kernel) (by decide +kernel), TT_in (i := 902) (by decide +kernel) (by decide +kernel), TT_in (i := 105) (by decide +kernel) (by decide +kernel), TT_in (i := 903) (by decide +kernel) (by decide +kernel), ⟨by decide +kernel, by decide +kernel, by decide +kernel⟩⟩
def lp_M_isWord_39 (N0 rr : Nat) (a1 : Nat)  : Nat → Bool × Int32 → Mem → (Bool × Int32 → Mem → Option (Bool × Mem)) → Option (Bool × Mem)
  | 0, _, _, _ => none
  | N + 1, v39, M, k39 => if v39.1 = true then (bnd (f_Str_length a1 M) fun (x4 : Int32) (M5 : Mem) => if v39.2 < x4 then (bnd (f_Str_charAt a1 v39.2 M5) fun (x6 : Int32) (M7 : Mem) => grd (inB ((M7 145 18) + v39.2) 500) (jn (fun (x9 : Bool) (M10 : Mem) => nm (v39.2 + (1 : Int32)) fun (x11 : Int32) => lp_M_isWord_39 N0 rr a1 N (x9, x11) M10 k39) (fun j8 => if x6 = (M7 153 ((M7 145 18) + v39.2).toNatClampNeg) then (j8 true M7) else (j8 false M7)))) else (k39 (v39.1, v39.2) M5)) else (k39 (v39.1, v39.2) M)
def f_M_isWord (N : Nat) (rr : Nat) (a1 : Nat) (M : Mem) : Option (Bool × Mem) :=
  jn (fun (x2 : Bool) (M3 : Mem) => lp_M_isWord_39 N rr a1 N (x2, (0 : Int32)) M3 (fun (a13 : Bool × Int32) (M12 : Mem) => some (a13.1, M12))) (fun j1 => if (M 145 20) = 0 then (if (M 145 19) = (1 : Int32) then (bnd (f_Str_length a1 M) fun (x14 : Int32) (M15 : Mem) => if x14 = ((M15 145 17) - (M15 145 18)) then (j1 true M15) else (j1 false M15)) else (j1 false M)) else (j1 false M))
set_option maxHeartbeats 4000000 in
set_option maxRecDepth 100000 in
theorem c_M_isWord (l : Launch) (N : Nat) {w : Wc} {rr : Nat} (hw : WM w rr) (a1 : Nat) (ha1 : a1 < 20) (M : Mem) : Ct QZ l y_M_isWord b_M_isWord 4 (some .boolean) (rmL 4) w [.ref (wad w 145), .ref (wad w (1000 + a1))] M (f_M_isWord N rr a1 M) := by
  refine Ct.go (by decide) (L := [(0, .ref (wad w 145)), (1, .ref (wad w (1000 + a1)))]) rfl (Nat.le_of_ble_eq_true rfl) (fun p0 e s m args below meth c g hret => ?_)
  unfold f_M_isWord
  refine G_aload_n g (pc := 0) 0 d_M_isWord_0 rfl rfl ?_
  refine G_get g (pc := 1) fa_M_259 (hw.mm 145 (Nat.le_of_ble_eq_true rfl) (Nat.le_of_ble_eq_true rfl)) (hw.k (zk145 rr)) d_M_isWord_1 ?_
  refine G_jn 36 (fun _ => [(0, .ref (wad w 145)), (1, .ref (wad w (1000 + a1)))]) (fun (x2 : Bool) => [.int (b2i x2)]) (fun x2 M3 => ?_) (fun j1 hj1 => ?_)
  · refine G_istore_n g (pc := 36) _ d_M_isWord_36 rfl (Nat.le_of_ble_eq_true rfl) rfl ?_
    refine G_iconst g (pc := 37) (0 : Int32) d_M_isWord_37 rfl ?_
    refine G_istore_n g (pc := 38) _ d_M_isWord_38 rfl (Nat.le_of_ble_eq_true rfl) rfl ?_
    refine G_sub [2, 3, 1, 0] _ rfl ?_
    refine G_loop (F := lp_M_isWord_39 N rr a1) 39 82 (fun (v39 : Bool × Int32) => [(0, .ref (wad w 145)), (1, .ref (wad w (1000 + a1))), (2, .int (b2i v39.1)), (3, .int v39.2)]) (fun (v39 : Bool × Int32) => [(0, .ref (wad w 145)), (1, .ref (wad w (1000 + a1))), (2, .int (b2i v39.1)), (3, .int v39.2)]) (fun _ _ _ => rfl) (fun a13 M12 => ?_) (fun k39 hk39 Nl39 ih39 v39 M => ?_) N (x2, (0 : Int32)) M3
    · refine G_iload_n g (pc := 82) 2 d_M_isWord_82 rfl rfl ?_
      exact G_zreturn g (pc := 83) a13.1 rfl hret (Nat.le_of_ble_eq_true rfl) (Nat.le_of_ble_eq_true rfl) d_M_isWord_83
    · show Go p0 l e _ s m args below meth c w _ _ _ _ (lp_M_isWord_39 N rr a1 (Nl39 + 1) v39 M k39) 39 _ _ M
      unfold lp_M_isWord_39
      refine G_iload_n g (pc := 39) 2 d_M_isWord_39 rfl rfl ?_
      refine G_if_eqB g (pc := 40) 82 d_M_isWord_40 (by decide) ?_ ?_
      · refine G_iload_n g (pc := 43) 3 d_M_isWord_43 rfl rfl ?_
        refine G_aload_n g (pc := 44) 1 d_M_isWord_44 rfl rfl ?_
        refine G_cStr g (pc := 45) (As := []) (st := [.int v39.2]) cc_M_271 rfl (c_Str_length l (w := w) a1 ha1 M) ha1 rfl ⟨(Nat.le_of_ble_eq_true rfl), (Nat.le_of_ble_eq_true rfl)⟩ ⟨(Nat.le_of_ble_eq_true rfl), (Nat.le_of_ble_eq_true rfl)⟩ (Nat.le_of_ble_eq_true rfl) d_M_isWord_45 (fun x4 M5 => ?_)
        refine G_icmp_ge g (pc := 48) 82 d_M_isWord_48 (by decide) ?_ ?_
        · refine G_aload_n g (pc := 51) 1 d_M_isWord_51 rfl rfl ?_
          refine G_iload_n g (pc := 52) 3 d_M_isWord_52 rfl rfl ?_
          refine G_cStr g (pc := 53) (As := [.int v39.2]) (st := []) cc_M_274 rfl (c_Str_charAt l (w := w) a1 ha1 v39.2 M5) ha1 rfl ⟨(Nat.le_of_ble_eq_true rfl), (Nat.le_of_ble_eq_true rfl)⟩ ⟨(Nat.le_of_ble_eq_true rfl), (Nat.le_of_ble_eq_true rfl)⟩ (Nat.le_of_ble_eq_true rfl) d_M_isWord_53 (fun x6 M7 => ?_)
          refine G_aload_n g (pc := 56) 0 d_M_isWord_56 rfl rfl ?_
          refine G_getR g (pc := 57) fa_M_34 (hw.mm 145 (Nat.le_of_ble_eq_true rfl) (Nat.le_of_ble_eq_true rfl)) (hw.k (zk145 rr)) (hw.r (zr145_14 rr)) d_M_isWord_57 ?_
          refine G_aload_n g (pc := 60) 0 d_M_isWord_60 rfl rfl ?_
          refine G_get g (pc := 61) fa_M_247 (hw.mm 145 (Nat.le_of_ble_eq_true rfl) (Nat.le_of_ble_eq_true rfl)) (hw.k (zk145 rr)) d_M_isWord_61 ?_
          refine G_iload_n g (pc := 64) 3 d_M_isWord_64 rfl rfl ?_
          refine G_iadd g (pc := 65) d_M_isWord_65 ?_
          refine G_iald g (pc := 66) (nn := 500) (hw.mm 153 (Nat.le_of_ble_eq_true rfl) (Nat.le_of_ble_eq_true rfl)) (hw.k (zk153 rr)) (hw.n (zn153 rr)) d_M_isWord_66 ?_
          refine G_jn 75 (fun _ => [(0, .ref (wad w 145)), (1, .ref (wad w (1000 + a1))), (2, .int (b2i v39.1)), (3, .int v39.2)]) (fun (x9 : Bool) => [.int (b2i x9)]) (fun x9 M10 => ?_) (fun j8 hj8 => ?_)
          · refine G_istore_n g (pc := 75) _ d_M_isWord_75 rfl (Nat.le_of_ble_eq_true rfl) rfl ?_
            refine G_nmX (v39.2 + (1 : Int32)) (fun x11 e_x11 => ?_)
            refine G_iinc g (pc := 76) x11 _ 3 d_M_isWord_76 rfl e_x11.symm (Nat.le_of_ble_eq_true rfl) rfl ?_
            refine G_goto g (pc := 79) 39 d_M_isWord_79 (by decide) ?_
            refine G_sub [2, 3, 1, 0] _ rfl ?_
            exact ih39 (x9, x11) M10
          · refine G_icmp_ne g (pc := 67) 74 d_M_isWord_67 (by decide) ?_ ?_
            · refine G_iconst g (pc := 70) (1 : Int32) d_M_isWord_70 rfl ?_
              refine G_goto g (pc := 71) 75 d_M_isWord_71 (by decide) ?_
              refine G_sub [0, 1, 2, 3] _ rfl ?_
              exact hj8 true M7
            · refine G_iconst g (pc := 74) (0 : Int32) d_M_isWord_74 rfl ?_
              refine G_sub [0, 1, 2, 3] _ rfl ?_
              exact hj8 false M7
        · refine G_sub [0, 1, 2, 3] _ rfl ?_
          exact hk39 (v39.1, v39.2) M5
      · refine G_sub [0, 1, 2, 3] _ rfl ?_
        exact hk39 (v39.1, v39.2) M
  · refine G_if_ne g (pc := 4) 35 d_M_isWord_4 (by decide) ?_ ?_
    · refine G_aload_n g (pc := 7) 0 d_M_isWord_7 rfl rfl ?_
      refine G_get g (pc := 8) fa_M_250 (hw.mm 145 (Nat.le_of_ble_eq_true rfl) (Nat.le_of_ble_eq_true rfl)) (hw.k (zk145 rr)) d_M_isWord_8 ?_
      refine G_iconst g (pc := 11) (1 : Int32) d_M_isWord_11 rfl ?_
      refine G_icmp_ne g (pc := 12) 35 d_M_isWord_12 (by decide) ?_ ?_
      · refine G_aload_n g (pc := 15) 1 d_M_isWord_15 rfl rfl ?_
        refine G_cStr g (pc := 16) (As := []) (st := []) cc_M_271 rfl (c_Str_length l (w := w) a1 ha1 M) ha1 rfl ⟨(Nat.le_of_ble_eq_true rfl), (Nat.le_of_ble_eq_true rfl)⟩ ⟨(Nat.le_of_ble_eq_true rfl), (Nat.le_of_ble_eq_true rfl)⟩ (Nat.le_of_ble_eq_true rfl) d_M_isWord_16 (fun x14 M15 => ?_)
        refine G_aload_n g (pc := 19) 0 d_M_isWord_19 rfl rfl ?_
        refine G_get g (pc := 20) fa_M_244 (hw.mm 145 (Nat.le_of_ble_eq_true rfl) (Nat.le_of_ble_eq_true rfl)) (hw.k (zk145 rr)) d_M_isWord_20 ?_
        refine G_aload_n g (pc := 23) 0 d_M_isWord_23 rfl rfl ?_
        refine G_get g (pc := 24) fa_M_247 (hw.mm 145 (Nat.le_of_ble_eq_true rfl) (Nat.le_of_ble_eq_true rfl)) (hw.k (zk145 rr)) d_M_isWord_24 ?_
        refine G_isub g (pc := 27) d_M_isWord_27 ?_
        refine G_icmp_ne g (pc := 28) 35 d_M_isWord_28 (by decide) ?_ ?_
        · refine G_iconst g (pc := 31) (1 : Int32) d_M_isWord_31 rfl ?_
          refine G_goto g (pc := 32) 36 d_M_isWord_32 (by decide) ?_
          refine G_sub [0, 1] _ rfl ?_
          exact hj1 true M15
        · refine G_iconst g (pc := 35) (0 : Int32) d_M_isWord_35 rfl ?_
          refine G_sub [0, 1] _ rfl ?_
          exact hj1 false M15
      · refine G_iconst g (pc := 35) (0 : Int32) d_M_isWord_35 rfl ?_
        refine G_sub [0, 1] _ rfl ?_
        exact hj1 false M
    · refine G_iconst g (pc := 35) (0 : Int32) d_M_isWord_35 rfl ?_
      refine G_sub [0, 1] _ rfl ?_
      exact hj1 false M

theorem d_M_expect_0 : decode b_M_expect 0 = .ok (.aload_n 0, 1) := by decide +kernel
theorem d_M_expect_1 : decode b_M_expect 1 = .ok (.aload_n 0, 1) := by decide +kernel
theorem d_M_expect_2 : decode b_M_expect 2 = .ok (.iload_n 1, 1) := by decide +kernel
theorem d_M_expect_3 : decode b_M_expect 3 = .ok (.invokevirtual 282, 3) := by decide +kernel
theorem d_M_expect_6 : decode b_M_expect 6 = .ok (.iconst 1, 1) := by decide +kernel
theorem d_M_expect_7 : decode b_M_expect 7 = .ok (.invokevirtual 285, 3) := by decide +kernel
theorem d_M_expect_10 : decode b_M_expect 10 = .ok (.aload_n 0, 1) := by decide +kernel
theorem d_M_expect_11 : decode b_M_expect 11 = .ok (.invokevirtual 289, 3) := by decide +kernel
theorem d_M_expect_14 : decode b_M_expect 14 = .ok (.return_, 1) := by decide +kernel
theorem cc_M_282 : CV "KiteLoggerModel" 282 y_M_isSymbol b_M_isSymbol 2 (some .boolean) 1 := ⟨TT_in (i := 1922) (by decide +kernel) (by decide +kernel), TT_in (i := 1924) (by decide +kernel) (by decide +kernel), TT_in (i := 76) (by decide +kernel) (by decide +kernel), TT_in (i := 100) (by decide +kernel) (by decide +kernel), TT_in (i := 1925) (by decide +kernel) (by decide +kernel), ⟨by decide +kernel, by decide +kernel, by decide +kernel⟩⟩
theorem cc_M_285 : CV "KiteLoggerModel" 285 y_M_check b_M_check 3 none 2 := ⟨TT_in (i := 1897) (by decide +kernel) (by decide +kernel), TT_in (i := 1899) (by decide +kernel) (by decide +kernel), TT_in (i := 70) (by decide +kernel) (by decide +kernel), TT_in (i := 100) (by decide +kernel) (by decide +kernel), TT_in (i := 1900) (by decide +kernel) (by decide +kernel), ⟨by decide +kernel, by decide +kernel, by decide +kernel⟩⟩
theorem cc_M_289 : CV "KiteLoggerModel" 289 y_M_advance b_M_advance 1 none 0 := ⟨TT_in (i := 1901) (by decide +kernel) (by decide +kernel), TT_in (i := 1903) (by decide +kernel) (by decide +kernel), TT_in (i := 71) (by decide +kernel) (by decide +kernel), TT_in (i := 100) (by decide +kernel) (by decide +kernel), TT_in (i := 1904) (by decide +kernel) (by decide +kernel), ⟨by decide +kernel, by decide +kernel, by decide +kernel⟩⟩
def f_M_expect (N : Nat) (rr : Nat) (a1 : Int32) (M : Mem) : Option (Mem) :=
  bnd (f_M_isSymbol a1 M) fun (x1 : Bool) (M2 : Mem) => bndM (f_M_check x1 (1 : Int32) M2) fun (M4 : Mem) => bndM (f_M_advance N rr M4) fun (M6 : Mem) => some M6
set_option maxHeartbeats 4000000 in
set_option maxRecDepth 100000 in
theorem c_M_expect (l : Launch) (N : Nat) {w : Wc} {rr : Nat} (hw : WM w rr) (a1 : Int32) (M : Mem) : Ct QV l y_M_expect b_M_expect 2 none (rmL 4) w [.ref (wad w 145), .int a1] M (f_M_expect N rr a1 M) := by
  refine Ct.go (by decide) (L := [(0, .ref (wad w 145)), (1, .int a1)]) rfl (Nat.le_of_ble_eq_true rfl) (fun p0 e s m args below meth c g hret => ?_)
  unfold f_M_expect
  refine G_aload_n g (pc := 0) 0 d_M_expect_0 rfl rfl ?_
  refine G_aload_n g (pc := 1) 0 d_M_expect_1 rfl rfl ?_
  refine G_iload_n g (pc := 2) 1 d_M_expect_2 rfl rfl ?_
  refine G_cVZ g (pc := 3) (As := [.int a1]) (st := [.ref (wad w 145)]) cc_M_282 (c_M_isSymbol l hw a1 M) (hw.mm 145 (Nat.le_of_ble_eq_true rfl) (Nat.le_of_ble_eq_true rfl)) (hw.k (zk145 rr)) rfl (by decide) rfl ⟨(Nat.le_of_ble_eq_true rfl), (Nat.le_of_ble_eq_true rfl)⟩ ⟨(Nat.le_of_ble_eq_true rfl), (Nat.le_of_ble_eq_true rfl)⟩ (Nat.le_of_ble_eq_true rfl) d_M_expect_3 (fun x1 M2 => ?_)
  refine G_iconst g (pc := 6) (1 : Int32) d_M_expect_6 rfl ?_
  refine G_cVV g (pc := 7) (As := [.int (b2i x1), .int (1 : Int32)]) (st := []) cc_M_285 (c_M_check l hw x1 (1 : Int32) M2) (hw.mm 145 (Nat.le_of_ble_eq_true rfl) (Nat.le_of_ble_eq_true rfl)) (hw.k (zk145 rr)) rfl (by decide) rfl ⟨(Nat.le_of_ble_eq_true rfl), (Nat.le_of_ble_eq_true rfl)⟩ ⟨(Nat.le_of_ble_eq_true rfl), (Nat.le_of_ble_eq_true rfl)⟩ (Nat.le_of_ble_eq_true rfl) d_M_expect_7 (fun M4 => ?_)
  refine G_aload_n g (pc := 10) 0 d_M_expect_10 rfl rfl ?_
  refine G_cVV g (pc := 11) (As := []) (st := []) cc_M_289 (c_M_advance l N hw M4) (hw.mm 145 (Nat.le_of_ble_eq_true rfl) (Nat.le_of_ble_eq_true rfl)) (hw.k (zk145 rr)) rfl (by decide) rfl ⟨(Nat.le_of_ble_eq_true rfl), (Nat.le_of_ble_eq_true rfl)⟩ ⟨(Nat.le_of_ble_eq_true rfl), (Nat.le_of_ble_eq_true rfl)⟩ (Nat.le_of_ble_eq_true rfl) d_M_expect_11 (fun M6 => ?_)
  exact G_return g (pc := 14) hret (Nat.le_of_ble_eq_true rfl) (Nat.le_of_ble_eq_true rfl) d_M_expect_14

theorem d_M_value_0 : decode b_M_value 0 = .ok (.iconst 0, 1) := by decide +kernel
theorem d_M_value_1 : decode b_M_value 1 = .ok (.istore_n 1, 1) := by decide +kernel
theorem d_M_value_2 : decode b_M_value 2 = .ok (.aload_n 0, 1) := by decide +kernel
theorem d_M_value_3 : decode b_M_value 3 = .ok (.getfield 247, 3) := by decide +kernel
theorem d_M_value_6 : decode b_M_value 6 = .ok (.istore_n 2, 1) := by decide +kernel
theorem d_M_value_7 : decode b_M_value 7 = .ok (.iload_n 2, 1) := by decide +kernel
theorem d_M_value_8 : decode b_M_value 8 = .ok (.aload_n 0, 1) := by decide +kernel
theorem d_M_value_9 : decode b_M_value 9 = .ok (.getfield 244, 3) := by decide +kernel
theorem d_M_value_12 : decode b_M_value 12 = .ok (.if_icmp .ge 43, 3) := by decide +kernel
theorem d_M_value_15 : decode b_M_value 15 = .ok (.aload_n 0, 1) := by decide +kernel
theorem d_M_value_16 : decode b_M_value 16 = .ok (.getfield 250, 3) := by decide +kernel
theorem d_M_value_19 : decode b_M_value 19 = .ok (.iconst 2, 1) := by decide +kernel
theorem d_M_value_20 : decode b_M_value 20 = .ok (.if_icmp .ne 35, 3) := by decide +kernel
theorem d_M_value_23 : decode b_M_value 23 = .ok (.iload_n 1, 1) := by decide +kernel
theorem d_M_value_24 : decode b_M_value 24 = .ok (.ldc_w 292, 3) := by decide +kernel
theorem d_M_value_27 : decode b_M_value 27 = .ok (.if_icmp .le 7, 3) := by decide +kernel
theorem d_M_value_30 : decode b_M_value 30 = .ok (.iload_n 1, 1) := by decide +kernel
theorem d_M_value_31 : decode b_M_value 31 = .ok (.goto 17, 3) := by decide +kernel
theorem d_M_value_34 : decode b_M_value 34 = .ok (.bipush 10, 2) := by decide +kernel
theorem d_M_value_36 : decode b_M_value 36 = .ok (.iload_n 1, 1) := by decide +kernel
theorem d_M_value_37 : decode b_M_value 37 = .ok (.imul, 1) := by decide +kernel
theorem d_M_value_38 : decode b_M_value 38 = .ok (.aload_n 0, 1) := by decide +kernel
theorem d_M_value_39 : decode b_M_value 39 = .ok (.getfield 34, 3) := by decide +kernel
theorem d_M_value_42 : decode b_M_value 42 = .ok (.iload_n 2, 1) := by decide +kernel
theorem d_M_value_43 : decode b_M_value 43 = .ok (.iaload, 1) := by decide +kernel
theorem d_M_value_44 : decode b_M_value 44 = .ok (.iadd, 1) := by decide +kernel
theorem d_M_value_45 : decode b_M_value 45 = .ok (.bipush 48, 2) := by decide +kernel
theorem d_M_value_47 : decode b_M_value 47 = .ok (.isub, 1) := by decide +kernel
theorem d_M_value_48 : decode b_M_value 48 = .ok (.istore_n 1, 1) := by decide +kernel
theorem d_M_value_49 : decode b_M_value 49 = .ok (.iinc 2 1, 3) := by decide +kernel
theorem d_M_value_52 : decode b_M_value 52 = .ok (.goto (-45), 3) := by decide +kernel
theorem d_M_value_55 : decode b_M_value 55 = .ok (.iload_n 1, 1) := by decide +kernel
theorem d_M_value_56 : decode b_M_value 56 = .ok (.ireturn, 1) := by decide +kernel
def lp_M_value_7 (N0 rr : Nat)   : Nat → Int32 × Int32 → Mem → (Int32 × Int32 → Mem → Option (Int32 × Mem)) → Option (Int32 × Mem)
  | 0, _, _, _ => none
  | N + 1, v7, M, k7 => if v7.2 < (M 145 17) then (if (M 145 19) = (2 : Int32) then (if (9999999 : Int32) < v7.1 then (nm (v7.2 + (1 : Int32)) fun (x2 : Int32) => lp_M_value_7 N0 rr N (v7.1, x2) M k7) else (grd (inB v7.2 500) (nm ((((10 : Int32) * v7.1) + (M 153 v7.2.toNatClampNeg)) - (48 : Int32)) fun (x3 : Int32) => nm (v7.2 + (1 : Int32)) fun (x4 : Int32) => lp_M_value_7 N0 rr N (x3, x4) M k7))) else (k7 (v7.1, v7.2) M)) else (k7 (v7.1, v7.2) M)
def f_M_value (N : Nat) (rr : Nat) (M : Mem) : Option (Int32 × Mem) :=
  nm (M 145 18) fun (x1 : Int32) => lp_M_value_7 N rr N ((0 : Int32), x1) M (fun (a6 : Int32 × Int32) (M5 : Mem) => some (a6.1, M5))
set_option maxHeartbeats 4000000 in
set_option maxRecDepth 100000 in
theorem c_M_value (l : Launch) (N : Nat) {w : Wc} {rr : Nat} (hw : WM w rr)  (M : Mem) : Ct QI l y_M_value b_M_value 3 (some .int) (rmL 0) w [.ref (wad w 145)] M (f_M_value N rr M) := by
  refine Ct.go (by decide) (L := [(0, .ref (wad w 145))]) rfl (Nat.le_of_ble_eq_true rfl) (fun p0 e s m args below meth c g hret => ?_)
  unfold f_M_value
  refine G_iconst g (pc := 0) (0 : Int32) d_M_value_0 rfl ?_
  refine G_istore_n g (pc := 1) _ d_M_value_1 rfl (Nat.le_of_ble_eq_true rfl) rfl ?_
  refine G_aload_n g (pc := 2) 1 d_M_value_2 rfl rfl ?_
  refine G_get g (pc := 3) fa_M_247 (hw.mm 145 (Nat.le_of_ble_eq_true rfl) (Nat.le_of_ble_eq_true rfl)) (hw.k (zk145 rr)) d_M_value_3 ?_
  refine G_nmI (fun x1 => ?_)
  refine G_istore_n g (pc := 6) _ d_M_value_6 rfl (Nat.le_of_ble_eq_true rfl) rfl ?_
  refine G_sub [2, 1, 0] _ rfl ?_
  refine G_loop (F := lp_M_value_7 N rr) 7 55 (fun (v7 : Int32 × Int32) => [(0, .ref (wad w 145)), (1, .int v7.1), (2, .int v7.2)]) (fun (v7 : Int32 × Int32) => [(0, .ref (wad w 145)), (1, .int v7.1), (2, .int v7.2)]) (fun _ _ _ => rfl) (fun a6 M5 => ?_) (fun k7 hk7 Nl7 ih7 v7 M => ?_) N ((0 : Int32), x1) M
  · refine G_iload_n g (pc := 55) 1 d_M_value_55 rfl rfl ?_
    exact G_ireturn g (pc := 56) hret (Nat.le_of_ble_eq_true rfl) (Nat.le_of_ble_eq_true rfl) d_M_value_56
  · show Go p0 l e _ s m args below meth c w _ _ _ _ (lp_M_value_7 N rr (Nl7 + 1) v7 M k7) 7 _ _ M
    unfold lp_M_value_7
    refine G_iload_n g (pc := 7) 2 d_M_value_7 rfl rfl ?_
    refine G_aload_n g (pc := 8) 0 d_M_value_8 rfl rfl ?_
    refine G_get g (pc := 9) fa_M_244 (hw.mm 145 (Nat.le_of_ble_eq_true rfl) (Nat.le_of_ble_eq_true rfl)) (hw.k (zk145 rr)) d_M_value_9 ?_
    refine G_icmp_ge g (pc := 12) 55 d_M_value_12 (by decide) ?_ ?_
    · refine G_aload_n g (pc := 15) 0 d_M_value_15 rfl rfl ?_
      refine G_get g (pc := 16) fa_M_250 (hw.mm 145 (Nat.le_of_ble_eq_true rfl) (Nat.le_of_ble_eq_true rfl)) (hw.k (zk145 rr)) d_M_value_16 ?_
      refine G_iconst g (pc := 19) (2 : Int32) d_M_value_19 rfl ?_
      refine G_icmp_ne g (pc := 20) 55 d_M_value_20 (by decide) ?_ ?_
      · refine G_iload_n g (pc := 23) 1 d_M_value_23 rfl rfl ?_
        refine G_ldcIW g (pc := 24) (own := "KiteLoggerModel") (v := (9999999 : Int32)) (TT_in (i := 1917) (by decide +kernel) (by decide +kernel)) d_M_value_24 ?_
        refine G_icmp_le g (pc := 27) 34 d_M_value_27 (by decide) ?_ ?_
        · refine G_iload_n g (pc := 30) 1 d_M_value_30 rfl rfl ?_
          refine G_goto g (pc := 31) 48 d_M_value_31 (by decide) ?_
          refine G_istore_n g (pc := 48) _ d_M_value_48 rfl (Nat.le_of_ble_eq_true rfl) rfl ?_
          refine G_nmX (v7.2 + (1 : Int32)) (fun x2 e_x2 => ?_)
          refine G_iinc g (pc := 49) x2 _ 2 d_M_value_49 rfl e_x2.symm (Nat.le_of_ble_eq_true rfl) rfl ?_
          refine G_goto g (pc := 52) 7 d_M_value_52 (by decide) ?_
          refine G_sub [2, 1, 0] _ rfl ?_
          exact ih7 (v7.1, x2) M
        · refine G_bipush g (pc := 34) (10 : Int32) d_M_value_34 rfl ?_
          refine G_iload_n g (pc := 36) 1 d_M_value_36 rfl rfl ?_
          refine G_imul g (pc := 37) d_M_value_37 ?_
          refine G_aload_n g (pc := 38) 0 d_M_value_38 rfl rfl ?_
          refine G_getR g (pc := 39) fa_M_34 (hw.mm 145 (Nat.le_of_ble_eq_true rfl) (Nat.le_of_ble_eq_true rfl)) (hw.k (zk145 rr)) (hw.r (zr145_14 rr)) d_M_value_39 ?_
          refine G_iload_n g (pc := 42) 2 d_M_value_42 rfl rfl ?_
          refine G_iald g (pc := 43) (nn := 500) (hw.mm 153 (Nat.le_of_ble_eq_true rfl) (Nat.le_of_ble_eq_true rfl)) (hw.k (zk153 rr)) (hw.n (zn153 rr)) d_M_value_43 ?_
          refine G_iadd g (pc := 44) d_M_value_44 ?_
          refine G_bipush g (pc := 45) (48 : Int32) d_M_value_45 rfl ?_
          refine G_isub g (pc := 47) d_M_value_47 ?_
          refine G_nmI (fun x3 => ?_)
          refine G_istore_n g (pc := 48) _ d_M_value_48 rfl (Nat.le_of_ble_eq_true rfl) rfl ?_
          refine G_nmX (v7.2 + (1 : Int32)) (fun x4 e_x4 => ?_)
          refine G_iinc g (pc := 49) x4 _ 2 d_M_value_49 rfl e_x4.symm (Nat.le_of_ble_eq_true rfl) rfl ?_
          refine G_goto g (pc := 52) 7 d_M_value_52 (by decide) ?_
          refine G_sub [2, 1, 0] _ rfl ?_
          exact ih7 (x3, x4) M
      · refine G_sub [0, 1, 2] _ rfl ?_
        exact hk7 (v7.1, v7.2) M
    · refine G_sub [0, 1, 2] _ rfl ?_
      exact hk7 (v7.1, v7.2) M

theorem d_M_look_0 : decode b_M_look 0 = .ok (.aload_n 0, 1) := by decide +kernel
theorem d_M_look_1 : decode b_M_look 1 = .ok (.aload_n 0, 1) := by decide +kernel
theorem d_M_look_2 : decode b_M_look 2 = .ok (.getfield 250, 3) := by decide +kernel
theorem d_M_look_5 : decode b_M_look 5 = .ok (.iconst 2, 1) := by decide +kernel
theorem d_M_look_6 : decode b_M_look 6 = .ok (.if_icmp .ne 7, 3) := by decide +kernel
theorem d_M_look_9 : decode b_M_look 9 = .ok (.iconst 1, 1) := by decide +kernel
theorem d_M_look_10 : decode b_M_look 10 = .ok (.goto 4, 3) := by decide +kernel
theorem d_M_look_13 : decode b_M_look 13 = .ok (.iconst 0, 1) := by decide +kernel
theorem d_M_look_14 : decode b_M_look 14 = .ok (.iconst 1, 1) := by decide +kernel
theorem d_M_look_15 : decode b_M_look 15 = .ok (.invokevirtual 285, 3) := by decide +kernel
theorem d_M_look_18 : decode b_M_look 18 = .ok (.aload_n 0, 1) := by decide +kernel
theorem d_M_look_19 : decode b_M_look 19 = .ok (.invokevirtual 293, 3) := by decide +kernel
theorem d_M_look_22 : decode b_M_look 22 = .ok (.istore_n 3, 1) := by decide +kernel
theorem d_M_look_23 : decode b_M_look 23 = .ok (.aload_n 0, 1) := by decide +kernel
theorem d_M_look_24 : decode b_M_look 24 = .ok (.iload_n 3, 1) := by decide +kernel
theorem d_M_look_25 : decode b_M_look 25 = .ok (.iload_n 1, 1) := by decide +kernel
theorem d_M_look_26 : decode b_M_look 26 = .ok (.iload_n 2, 1) := by decide +kernel
theorem d_M_look_27 : decode b_M_look 27 = .ok (.invokestatic 83, 3) := by decide +kernel
theorem d_M_look_30 : decode b_M_look 30 = .ok (.iconst 2, 1) := by decide +kernel
theorem d_M_look_31 : decode b_M_look 31 = .ok (.invokevirtual 285, 3) := by decide +kernel
theorem d_M_look_34 : decode b_M_look 34 = .ok (.aload_n 0, 1) := by decide +kernel
theorem d_M_look_35 : decode b_M_look 35 = .ok (.getfield 259, 3) := by decide +kernel
theorem d_M_look_38 : decode b_M_look 38 = .ok (.ifCond .ne 7, 3) := by decide +kernel
theorem d_M_look_41 : decode b_M_look 41 = .ok (.iload_n 3, 1) := by decide +kernel
theorem d_M_look_42 : decode b_M_look 42 = .ok (.goto 4, 3) := by decide +kernel
theorem d_M_look_45 : decode b_M_look 45 = .ok (.iload_n 1, 1) := by decide +kernel
theorem d_M_look_46 : decode b_M_look 46 = .ok (.ireturn, 1) := by decide +kernel
theorem cc_M_293 : CV "KiteLoggerModel" 293 y_M_value b_M_value 3 (some .int) 0 := ⟨TT_in (i := 1913) (by decide +kernel) (by decide +kernel), TT_in (i := 1915) (by decide +kernel) (by decide +kernel), TT_in (i := 74) (by decide +kernel) (by decide +kernel), TT_in (i := 100) (by decide +kernel) (by decide +kernel), TT_in (i := 1916) (by decide +kernel) (by decide +kernel), ⟨by decide +kernel, by decide +kernel, by decide +kernel⟩⟩
def f_M_look (N : Nat) (rr : Nat) (a1 : Int32) (a2 : Int32) (M : Mem) : Option (Int32 × Mem) :=
  jn (fun (x2 : Bool) (M3 : Mem) => bndM (f_M_check x2 (1 : Int32) M3) fun (M5 : Mem) => bnd (f_M_value N rr M5) fun (x6 : Int32) (M7 : Mem) => bnd (f_M_inRange x6 a1 a2 M7) fun (x8 : Bool) (M9 : Mem) => bndM (f_M_check x8 (2 : Int32) M9) fun (M11 : Mem) => if (M11 145 20) = 0 then (some (x6, M11)) else (some (a1, M11))) (fun j1 => if (M 145 19) = (2 : Int32) then (j1 true M) else (j1 false M))
set_option maxHeartbeats 4000000 in
set_option maxRecDepth 100000 in
theorem c_M_look (l : Launch) (N : Nat) {w : Wc} {rr : Nat} (hw : WM w rr) (a1 : Int32) (a2 : Int32) (M : Mem) : Ct QI l y_M_look b_M_look 4 (some .int) (rmL 1) w [.ref (wad w 145), .int a1, .int a2] M (f_M_look N rr a1 a2 M) := by
  refine Ct.go (by decide) (L := [(0, .ref (wad w 145)), (1, .int a1), (2, .int a2)]) rfl (Nat.le_of_ble_eq_true rfl) (fun p0 e s m args below meth c g hret => ?_)
  unfold f_M_look
  refine G_aload_n g (pc := 0) 0 d_M_look_0 rfl rfl ?_
  refine G_aload_n g (pc := 1) 0 d_M_look_1 rfl rfl ?_
  refine G_get g (pc := 2) fa_M_250 (hw.mm 145 (Nat.le_of_ble_eq_true rfl) (Nat.le_of_ble_eq_true rfl)) (hw.k (zk145 rr)) d_M_look_2 ?_
  refine G_iconst g (pc := 5) (2 : Int32) d_M_look_5 rfl ?_
  refine G_jn 14 (fun _ => [(0, .ref (wad w 145)), (1, .int a1), (2, .int a2)]) (fun (x2 : Bool) => [.int (b2i x2), .ref (wad w 145)]) (fun x2 M3 => ?_) (fun j1 hj1 => ?_)
  · refine G_iconst g (pc := 14) (1 : Int32) d_M_look_14 rfl ?_
    refine G_cVV g (pc := 15) (As := [.int (b2i x2), .int (1 : Int32)]) (st := []) cc_M_285 (c_M_check l hw x2 (1 : Int32) M3) (hw.mm 145 (Nat.le_of_ble_eq_true rfl) (Nat.le_of_ble_eq_true rfl)) (hw.k (zk145 rr)) rfl (by decide) rfl ⟨(Nat.le_of_ble_eq_true rfl), (Nat.le_of_ble_eq_true rfl)⟩ ⟨(Nat.le_of_ble_eq_true rfl), (Nat.le_of_ble_eq_true rfl)⟩ (Nat.le_of_ble_eq_true rfl) d_M_look_15 (fun M5 => ?_)
    refine G_aload_n g (pc := 18) 0 d_M_look_18 rfl rfl ?_
    refine G_cVI g (pc := 19) (As := []) (st := []) cc_M_293 (c_M_value l N hw M5) (hw.mm 145 (Nat.le_of_ble_eq_true rfl) (Nat.le_of_ble_eq_true rfl)) (hw.k (zk145 rr)) rfl (by decide) rfl ⟨(Nat.le_of_ble_eq_true rfl), (Nat.le_of_ble_eq_true rfl)⟩ ⟨(Nat.le_of_ble_eq_true rfl), (Nat.le_of_ble_eq_true rfl)⟩ (Nat.le_of_ble_eq_true rfl) d_M_look_19 (fun x6 M7 => ?_)
    refine G_istore_n g (pc := 22) _ d_M_look_22 rfl (Nat.le_of_ble_eq_true rfl) rfl ?_
    refine G_aload_n g (pc := 23) 1 d_M_look_23 rfl rfl ?_
    refine G_iload_n g (pc := 24) 0 d_M_look_24 rfl rfl ?_
    refine G_iload_n g (pc := 25) 2 d_M_look_25 rfl rfl ?_
    refine G_iload_n g (pc := 26) 3 d_M_look_26 rfl rfl ?_
    refine G_cSZ g (pc := 27) (As := [.int x6, .int a1, .int a2]) (st := [.ref (wad w 145)]) cc_M_83 (c_M_inRange l hw x6 a1 a2 M7) rfl ⟨(Nat.le_of_ble_eq_true rfl), (Nat.le_of_ble_eq_true rfl)⟩ ⟨(Nat.le_of_ble_eq_true rfl), (Nat.le_of_ble_eq_true rfl)⟩ (Nat.le_of_ble_eq_true rfl) d_M_look_27 (fun x8 M9 => ?_)
    refine G_iconst g (pc := 30) (2 : Int32) d_M_look_30 rfl ?_
    refine G_cVV g (pc := 31) (As := [.int (b2i x8), .int (2 : Int32)]) (st := []) cc_M_285 (c_M_check l hw x8 (2 : Int32) M9) (hw.mm 145 (Nat.le_of_ble_eq_true rfl) (Nat.le_of_ble_eq_true rfl)) (hw.k (zk145 rr)) rfl (by decide) rfl ⟨(Nat.le_of_ble_eq_true rfl), (Nat.le_of_ble_eq_true rfl)⟩ ⟨(Nat.le_of_ble_eq_true rfl), (Nat.le_of_ble_eq_true rfl)⟩ (Nat.le_of_ble_eq_true rfl) d_M_look_31 (fun M11 => ?_)
    refine G_aload_n g (pc := 34) 1 d_M_look_34 rfl rfl ?_
    refine G_get g (pc := 35) fa_M_259 (hw.mm 145 (Nat.le_of_ble_eq_true rfl) (Nat.le_of_ble_eq_true rfl)) (hw.k (zk145 rr)) d_M_look_35 ?_
    refine G_if_ne g (pc := 38) 45 d_M_look_38 (by decide) ?_ ?_
    · refine G_iload_n g (pc := 41) 0 d_M_look_41 rfl rfl ?_
      refine G_goto g (pc := 42) 46 d_M_look_42 (by decide) ?_
      exact G_ireturn g (pc := 46) hret (Nat.le_of_ble_eq_true rfl) (Nat.le_of_ble_eq_true rfl) d_M_look_46
    · refine G_iload_n g (pc := 45) 2 d_M_look_45 rfl rfl ?_
      exact G_ireturn g (pc := 46) hret (Nat.le_of_ble_eq_true rfl) (Nat.le_of_ble_eq_true rfl) d_M_look_46
  · refine G_icmp_ne g (pc := 6) 13 d_M_look_6 (by decide) ?_ ?_
    · refine G_iconst g (pc := 9) (1 : Int32) d_M_look_9 rfl ?_
      refine G_goto g (pc := 10) 14 d_M_look_10 (by decide) ?_
      refine G_sub [0, 1, 2] _ rfl ?_
      exact hj1 true M
    · refine G_iconst g (pc := 13) (0 : Int32) d_M_look_13 rfl ?_
      refine G_sub [0, 1, 2] _ rfl ?_
      exact hj1 false M

theorem d_M_readNumber_0 : decode b_M_readNumber 0 = .ok (.aload_n 0, 1) := by decide +kernel
theorem d_M_readNumber_1 : decode b_M_readNumber 1 = .ok (.iload_n 1, 1) := by decide +kernel
theorem d_M_readNumber_2 : decode b_M_readNumber 2 = .ok (.iload_n 2, 1) := by decide +kernel
theorem d_M_readNumber_3 : decode b_M_readNumber 3 = .ok (.invokevirtual 296, 3) := by decide +kernel
theorem d_M_readNumber_6 : decode b_M_readNumber 6 = .ok (.istore_n 3, 1) := by decide +kernel
theorem d_M_readNumber_7 : decode b_M_readNumber 7 = .ok (.aload_n 0, 1) := by decide +kernel
theorem d_M_readNumber_8 : decode b_M_readNumber 8 = .ok (.invokevirtual 289, 3) := by decide +kernel
theorem d_M_readNumber_11 : decode b_M_readNumber 11 = .ok (.iload_n 3, 1) := by decide +kernel
theorem d_M_readNumber_12 : decode b_M_readNumber 12 = .ok (.ireturn, 1) := by decide +kernel
theorem cc_M_296 : CV "KiteLoggerModel" 296 y_M_look b_M_look 4 (some .int) 2 := ⟨TT_in (i := 1909) (by decide +kernel) (by decide +kernel), TT_in (i := 1911) (by decide +kernel) (by decide +kernel), TT_in (i := 73) (by decide +kernel) (by decide +kernel), TT_in (i := 100) (by decide +kernel) (by decide +kernel), TT_in (i := 1912) (by decide +kernel) (by decide +kernel), ⟨by decide +kernel, by decide +kernel, by decide +kernel⟩⟩
def f_M_readNumber (N : Nat) (rr : Nat) (a1 : Int32) (a2 : Int32) (M : Mem) : Option (Int32 × Mem) :=
  bnd (f_M_look N rr a1 a2 M) fun (x1 : Int32) (M2 : Mem) => bndM (f_M_advance N rr M2) fun (M4 : Mem) => some (x1, M4)
set_option maxHeartbeats 4000000 in
set_option maxRecDepth 100000 in
theorem c_M_readNumber (l : Launch) (N : Nat) {w : Wc} {rr : Nat} (hw : WM w rr) (a1 : Int32) (a2 : Int32) (M : Mem) : Ct QI l y_M_readNumber b_M_readNumber 4 (some .int) (rmL 4) w [.ref (wad w 145), .int a1, .int a2] M (f_M_readNumber N rr a1 a2 M) := by
  refine Ct.go (by decide) (L := [(0, .ref (wad w 145)), (1, .int a1), (2, .int a2)]) rfl (Nat.le_of_ble_eq_true rfl) (fun p0 e s m args below meth c g hret => ?_)
  unfold f_M_readNumber
  refine G_aload_n g (pc := 0) 0 d_M_readNumber_0 rfl rfl ?_
  refine G_iload_n g (pc := 1) 1 d_M_readNumber_1 rfl rfl ?_
  refine G_iload_n g (pc := 2) 2 d_M_readNumber_2 rfl rfl ?_
  refine G_cVI g (pc := 3) (As := [.int a1, .int a2]) (st := []) cc_M_296 (c_M_look l N hw a1 a2 M) (hw.mm 145 (Nat.le_of_ble_eq_true rfl) (Nat.le_of_ble_eq_true rfl)) (hw.k (zk145 rr)) rfl (by decide) rfl ⟨(Nat.le_of_ble_eq_true rfl), (Nat.le_of_ble_eq_true rfl)⟩ ⟨(Nat.le_of_ble_eq_true rfl), (Nat.le_of_ble_eq_true rfl)⟩ (Nat.le_of_ble_eq_true rfl) d_M_readNumber_3 (fun x1 M2 => ?_)
  refine G_istore_n g (pc := 6) _ d_M_readNumber_6 rfl (Nat.le_of_ble_eq_true rfl) rfl ?_
  refine G_aload_n g (pc := 7) 1 d_M_readNumber_7 rfl rfl ?_
  refine G_cVV g (pc := 8) (As := []) (st := []) cc_M_289 (c_M_advance l N hw M2) (hw.mm 145 (Nat.le_of_ble_eq_true rfl) (Nat.le_of_ble_eq_true rfl)) (hw.k (zk145 rr)) rfl (by decide) rfl ⟨(Nat.le_of_ble_eq_true rfl), (Nat.le_of_ble_eq_true rfl)⟩ ⟨(Nat.le_of_ble_eq_true rfl), (Nat.le_of_ble_eq_true rfl)⟩ (Nat.le_of_ble_eq_true rfl) d_M_readNumber_8 (fun M4 => ?_)
  refine G_iload_n g (pc := 11) 0 d_M_readNumber_11 rfl rfl ?_
  exact G_ireturn g (pc := 12) hret (Nat.le_of_ble_eq_true rfl) (Nat.le_of_ble_eq_true rfl) d_M_readNumber_12

theorem d_M_errorCode_0 : decode b_M_errorCode 0 = .ok (.aload_n 0, 1) := by decide +kernel
theorem d_M_errorCode_1 : decode b_M_errorCode 1 = .ok (.iconst 0, 1) := by decide +kernel
theorem d_M_errorCode_2 : decode b_M_errorCode 2 = .ok (.putfield 76, 3) := by decide +kernel
theorem d_M_errorCode_5 : decode b_M_errorCode 5 = .ok (.aload_n 0, 1) := by decide +kernel
theorem d_M_errorCode_6 : decode b_M_errorCode 6 = .ok (.getfield 299, 3) := by decide +kernel
theorem d_M_errorCode_9 : decode b_M_errorCode 9 = .ok (.ireturn, 1) := by decide +kernel
def f_M_errorCode  (M : Mem) : Option (Int32 × Mem) :=
  nm (put M 145 8 (0 : Int32)) fun (M1 : Mem) => some (M1 145 9, M1)
set_option maxHeartbeats 4000000 in
set_option maxRecDepth 100000 in
theorem c_M_errorCode (l : Launch) {w : Wc} {rr : Nat} (hw : WM w rr)  (M : Mem) : Ct QI l y_M_errorCode b_M_errorCode 1 (some .int) (rmL 0) w [.ref (wad w 145)] M (f_M_errorCode  M) := by
  refine Ct.go (by decide) (L := [(0, .ref (wad w 145))]) rfl (Nat.le_of_ble_eq_true rfl) (fun p0 e s m args below meth c g hret => ?_)
  unfold f_M_errorCode
  refine G_aload_n g (pc := 0) 0 d_M_errorCode_0 rfl rfl ?_
  refine G_iconst g (pc := 1) (0 : Int32) d_M_errorCode_1 rfl ?_
  refine G_put g (pc := 2) fa_M_76 fw_10_8 rfl rfl (hw.mm 145 (Nat.le_of_ble_eq_true rfl) (Nat.le_of_ble_eq_true rfl)) (hw.k (zk145 rr)) d_M_errorCode_2 ?_
  refine G_nmM (fun M1 => ?_)
  refine G_aload_n g (pc := 5) 0 d_M_errorCode_5 rfl rfl ?_
  refine G_get g (pc := 6) fa_M_299 (hw.mm 145 (Nat.le_of_ble_eq_true rfl) (Nat.le_of_ble_eq_true rfl)) (hw.k (zk145 rr)) d_M_errorCode_6 ?_
  exact G_ireturn g (pc := 9) hret (Nat.le_of_ble_eq_true rfl) (Nat.le_of_ble_eq_true rfl) d_M_errorCode_9

theorem d_M_isFaulty_0 : decode b_M_isFaulty 0 = .ok (.aload_n 0, 1) := by decide +kernel
theorem d_M_isFaulty_1 : decode b_M_isFaulty 1 = .ok (.aload_n 0, 1) := by decide +kernel
theorem d_M_isFaulty_2 : decode b_M_isFaulty 2 = .ok (.invokevirtual 302, 3) := by decide +kernel
theorem d_M_isFaulty_5 : decode b_M_isFaulty 5 = .ok (.putfield 299, 3) := by decide +kernel
theorem d_M_isFaulty_8 : decode b_M_isFaulty 8 = .ok (.aload_n 0, 1) := by decide +kernel
theorem d_M_isFaulty_9 : decode b_M_isFaulty 9 = .ok (.getfield 299, 3) := by decide +kernel
theorem d_M_isFaulty_12 : decode b_M_isFaulty 12 = .ok (.ifCond .eq 7, 3) := by decide +kernel
theorem d_M_isFaulty_15 : decode b_M_isFaulty 15 = .ok (.iconst 1, 1) := by decide +kernel
theorem d_M_isFaulty_16 : decode b_M_isFaulty 16 = .ok (.goto 4, 3) := by decide +kernel
theorem d_M_isFaulty_19 : decode b_M_isFaulty 19 = .ok (.iconst 0, 1) := by decide +kernel
theorem d_M_isFaulty_20 : decode b_M_isFaulty 20 = .ok (.ireturn, 1) := by decide +kernel
theorem cc_M_302 : CV "KiteLoggerModel" 302 y_M_finish b_M_finish 1 (some .int) 0 := ⟨TT_in (i := 1936) (by decide +kernel) (by decide +kernel), TT_in (i := 1938) (by decide +kernel) (by decide +kernel), TT_in (i := 79) (by decide +kernel) (by decide +kernel), TT_in (i := 100) (by decide +kernel) (by decide +kernel), TT_in (i := 1939) (by decide +kernel) (by decide +kernel), ⟨by decide +kernel, by decide +kernel, by decide +kernel⟩⟩
def f_M_isFaulty  (M : Mem) : Option (Bool × Mem) :=
  bnd (f_M_finish M) fun (x1 : Int32) (M2 : Mem) => nm (put M2 145 9 x1) fun (M3 : Mem) => if (M3 145 9) = 0 then (some (false, M3)) else (some (true, M3))
set_option maxHeartbeats 4000000 in
set_option maxRecDepth 100000 in
theorem c_M_isFaulty (l : Launch) {w : Wc} {rr : Nat} (hw : WM w rr)  (M : Mem) : Ct QZ l y_M_isFaulty b_M_isFaulty 1 (some .boolean) (rmL 1) w [.ref (wad w 145)] M (f_M_isFaulty  M) := by
  refine Ct.go (by decide) (L := [(0, .ref (wad w 145))]) rfl (Nat.le_of_ble_eq_true rfl) (fun p0 e s m args below meth c g hret => ?_)
  unfold f_M_isFaulty
  refine G_aload_n g (pc := 0) 0 d_M_isFaulty_0 rfl rfl ?_
  refine G_aload_n g (pc := 1) 0 d_M_isFaulty_1 rfl rfl ?_
  refine G_cVI g (pc := 2) (As := []) (st := [.ref (wad w 145)]) cc_M_302 (c_M_finish l hw M) (hw.mm 145 (Nat.le_of_ble_eq_true rfl) (Nat.le_of_ble_eq_true rfl)) (hw.k (zk145 rr)) rfl (by decide) rfl ⟨(Nat.le_of_ble_eq_true rfl), (Nat.le_of_ble_eq_true rfl)⟩ ⟨(Nat.le_of_ble_eq_true rfl), (Nat.le_of_ble_eq_true rfl)⟩ (Nat.le_of_ble_eq_true rfl) d_M_isFaulty_2 (fun x1 M2 => ?_)
  refine G_put g (pc := 5) fa_M_299 fw_10_9 rfl rfl (hw.mm 145 (Nat.le_of_ble_eq_true rfl) (Nat.le_of_ble_eq_true rfl)) (hw.k (zk145 rr)) d_M_isFaulty_5 ?_
  refine G_nmM (fun M3 => ?_)
  refine G_aload_n g (pc := 8) 0 d_M_isFaulty_8 rfl rfl ?_
  refine G_get g (pc := 9) fa_M_299 (hw.mm 145 (Nat.le_of_ble_eq_true rfl) (Nat.le_of_ble_eq_true rfl)) (hw.k (zk145 rr)) d_M_isFaulty_9 ?_
  refine G_if_eq g (pc := 12) 19 d_M_isFaulty_12 (by decide) ?_ ?_
  · refine G_iconst g (pc := 19) (0 : Int32) d_M_isFaulty_19 rfl ?_
    exact G_zreturn g (pc := 20) false rfl hret (Nat.le_of_ble_eq_true rfl) (Nat.le_of_ble_eq_true rfl) d_M_isFaulty_20
  · refine G_iconst g (pc := 15) (1 : Int32) d_M_isFaulty_15 rfl ?_
    refine G_goto g (pc := 16) 20 d_M_isFaulty_16 (by decide) ?_
    exact G_zreturn g (pc := 20) true rfl hret (Nat.le_of_ble_eq_true rfl) (Nat.le_of_ble_eq_true rfl) d_M_isFaulty_20

theorem d_M_isLength_0 : decode b_M_isLength 0 = .ok (.iload_n 1, 1) := by decide +kernel
theorem d_M_isLength_1 : decode b_M_isLength 1 = .ok (.iconst 0, 1) := by decide +kernel
theorem d_M_isLength_2 : decode b_M_isLength 2 = .ok (.aload_n 0, 1) := by decide +kernel
theorem d_M_isLength_3 : decode b_M_isLength 3 = .ok (.getfield 235, 3) := by decide +kernel
theorem d_M_isLength_6 : decode b_M_isLength 6 = .ok (.invokestatic 83, 3) := by decide +kernel
theorem d_M_isLength_9 : decode b_M_isLength 9 = .ok (.ireturn, 1) := by decide +kernel
def f_M_isLength (a1 : Int32) (M : Mem) : Option (Bool × Mem) :=
  bnd (f_M_inRange a1 (0 : Int32) (M 145 15) M) fun (x1 : Bool) (M2 : Mem) => some (x1, M2)
set_option maxHeartbeats 4000000 in
set_option maxRecDepth 100000 in
theorem c_M_isLength (l : Launch) {w : Wc} {rr : Nat} (hw : WM w rr) (a1 : Int32) (M : Mem) : Ct QZ l y_M_isLength b_M_isLength 2 (some .boolean) (rmL 1) w [.ref (wad w 145), .int a1] M (f_M_isLength a1 M) := by
  refine Ct.go (by decide) (L := [(0, .ref (wad w 145)), (1, .int a1)]) rfl (Nat.le_of_ble_eq_true rfl) (fun p0 e s m args below meth c g hret => ?_)
  unfold f_M_isLength
  refine G_iload_n g (pc := 0) 1 d_M_isLength_0 rfl rfl ?_
  refine G_iconst g (pc := 1) (0 : Int32) d_M_isLength_1 rfl ?_
  refine G_aload_n g (pc := 2) 0 d_M_isLength_2 rfl rfl ?_
  refine G_get g (pc := 3) fa_M_235 (hw.mm 145 (Nat.le_of_ble_eq_true rfl) (Nat.le_of_ble_eq_true rfl)) (hw.k (zk145 rr)) d_M_isLength_3 ?_
  refine G_cSZ g (pc := 6) (As := [.int a1, .int (0 : Int32), .int (M 145 15)]) (st := []) cc_M_83 (c_M_inRange l hw a1 (0 : Int32) (M 145 15) M) rfl ⟨(Nat.le_of_ble_eq_true rfl), (Nat.le_of_ble_eq_true rfl)⟩ ⟨(Nat.le_of_ble_eq_true rfl), (Nat.le_of_ble_eq_true rfl)⟩ (Nat.le_of_ble_eq_true rfl) d_M_isLength_6 (fun x1 M2 => ?_)
  exact G_zreturn g (pc := 9) x1 rfl hret (Nat.le_of_ble_eq_true rfl) (Nat.le_of_ble_eq_true rfl) d_M_isLength_9

theorem d_M_readGust_0 : decode b_M_readGust 0 = .ok (.aload_n 0, 1) := by decide +kernel
theorem d_M_readGust_1 : decode b_M_readGust 1 = .ok (.iconst 0, 1) := by decide +kernel
theorem d_M_readGust_2 : decode b_M_readGust 2 = .ok (.bipush 30, 2) := by decide +kernel
theorem d_M_readGust_4 : decode b_M_readGust 4 = .ok (.invokevirtual 296, 3) := by decide +kernel
theorem d_M_readGust_7 : decode b_M_readGust 7 = .ok (.istore_n 1, 1) := by decide +kernel
theorem d_M_readGust_8 : decode b_M_readGust 8 = .ok (.aload_n 0, 1) := by decide +kernel
theorem d_M_readGust_9 : decode b_M_readGust 9 = .ok (.aload_n 0, 1) := by decide +kernel
theorem d_M_readGust_10 : decode b_M_readGust 10 = .ok (.getfield 259, 3) := by decide +kernel
theorem d_M_readGust_13 : decode b_M_readGust 13 = .ok (.ifCond .ne 14, 3) := by decide +kernel
theorem d_M_readGust_16 : decode b_M_readGust 16 = .ok (.aload_n 0, 1) := by decide +kernel
theorem d_M_readGust_17 : decode b_M_readGust 17 = .ok (.getfield 28, 3) := by decide +kernel
theorem d_M_readGust_20 : decode b_M_readGust 20 = .ok (.iconst 5, 1) := by decide +kernel
theorem d_M_readGust_21 : decode b_M_readGust 21 = .ok (.iaload, 1) := by decide +kernel
theorem d_M_readGust_22 : decode b_M_readGust 22 = .ok (.bipush 16, 2) := by decide +kernel
theorem d_M_readGust_24 : decode b_M_readGust 24 = .ok (.if_icmp .ge 7, 3) := by decide +kernel
theorem d_M_readGust_27 : decode b_M_readGust 27 = .ok (.iconst 1, 1) := by decide +kernel
theorem d_M_readGust_28 : decode b_M_readGust 28 = .ok (.goto 4, 3) := by decide +kernel
theorem d_M_readGust_31 : decode b_M_readGust 31 = .ok (.iconst 0, 1) := by decide +kernel
theorem d_M_readGust_32 : decode b_M_readGust 32 = .ok (.iconst 3, 1) := by decide +kernel
theorem d_M_readGust_33 : decode b_M_readGust 33 = .ok (.invokevirtual 285, 3) := by decide +kernel
theorem d_M_readGust_36 : decode b_M_readGust 36 = .ok (.aload_n 0, 1) := by decide +kernel
theorem d_M_readGust_37 : decode b_M_readGust 37 = .ok (.invokevirtual 289, 3) := by decide +kernel
theorem d_M_readGust_40 : decode b_M_readGust 40 = .ok (.aload_n 0, 1) := by decide +kernel
theorem d_M_readGust_41 : decode b_M_readGust 41 = .ok (.getfield 259, 3) := by decide +kernel
theorem d_M_readGust_44 : decode b_M_readGust 44 = .ok (.ifCond .ne 8, 3) := by decide +kernel
theorem d_M_readGust_47 : decode b_M_readGust 47 = .ok (.aload_n 0, 1) := by decide +kernel
theorem d_M_readGust_48 : decode b_M_readGust 48 = .ok (.iload_n 1, 1) := by decide +kernel
theorem d_M_readGust_49 : decode b_M_readGust 49 = .ok (.invokevirtual 72, 3) := by decide +kernel
theorem d_M_readGust_52 : decode b_M_readGust 52 = .ok (.return_, 1) := by decide +kernel
theorem cc_M_72 : CV "KiteLoggerModel" 72 y_M_addGust b_M_addGust 2 none 1 := ⟨TT_in (i := 1358) (by decide +kernel) (by decide +kernel), TT_in (i := 1360) (by decide +kernel) (by decide +kernel), TT_in (i := 24) (by decide +kernel) (by decide +kernel), TT_in (i := 100) (by decide +kernel) (by decide +kernel), TT_in (i := 1361) (by decide +kernel) (by decide +kernel), ⟨by decide +kernel, by decide +kernel, by decide +kernel⟩⟩
def f_M_readGust (N : Nat) (rr : Nat) (M : Mem) : Option (Mem) :=
  bnd (f_M_look N rr (0 : Int32) (30 : Int32) M) fun (x1 : Int32) (M2 : Mem) => if (M2 145 20) = 0 then (if (M2 rr 5) < (16 : Int32) then (bndM (f_M_check true (3 : Int32) M2) fun (M4 : Mem) => bndM (f_M_advance N rr M4) fun (M6 : Mem) => if (M6 145 20) = 0 then (bndM (f_M_addGust rr x1 M6) fun (M8 : Mem) => some M8) else (some M6)) else (bndM (f_M_check false (3 : Int32) M2) fun (M10 : Mem) => bndM (f_M_advance N rr M10) fun (M12 : Mem) => if (M12 145 20) = 0 then (bndM (f_M_addGust rr x1 M12) fun (M14 : Mem) => some M14) else (some M12))) else (bndM (f_M_check true (3 : Int32) M2) fun (M16 : Mem) => bndM (f_M_advance N rr M16) fun (M18 : Mem) => if (M18 145 20) = 0 then (bndM (f_M_addGust rr x1 M18) fun (M20 : Mem) => some M20) else (some M18))
set_option maxHeartbeats 4000000 in
set_option maxRecDepth 100000 in
theorem c_M_readGust (l : Launch) (N : Nat) {w : Wc} {rr : Nat} (hw : WM w rr)  (M : Mem) : Ct QV l y_M_readGust b_M_readGust 2 none (rmL 4) w [.ref (wad w 145)] M (f_M_readGust N rr M) := by
  refine Ct.go (by decide) (L := [(0, .ref (wad w 145))]) rfl (Nat.le_of_ble_eq_true rfl) (fun p0 e s m args below meth c g hret => ?_)
  unfold f_M_readGust
  refine G_aload_n g (pc := 0) 0 d_M_readGust_0 rfl rfl ?_
  refine G_iconst g (pc := 1) (0 : Int32) d_M_readGust_1 rfl ?_
  refine G_bipush g (pc := 2) (30 : Int32) d_M_readGust_2 rfl ?_
  refine G_cVI g (pc := 4) (As := [.int (0 : Int32), .int (30 : Int32)]) (st := []) cc_M_296 (c_M_look l N hw (0 : Int32) (30 : Int32) M) (hw.mm 145 (Nat.le_of_ble_eq_true rfl) (Nat.le_of_ble_eq_true rfl)) (hw.k (zk145 rr)) rfl (by decide) rfl ⟨(Nat.le_of_ble_eq_true rfl), (Nat.le_of_ble_eq_true rfl)⟩ ⟨(Nat.le_of_ble_eq_true rfl), (Nat.le_of_ble_eq_true rfl)⟩ (Nat.le_of_ble_eq_true rfl) d_M_readGust_4 (fun x1 M2 => ?_)
  refine G_istore_n g (pc := 7) _ d_M_readGust_7 rfl (Nat.le_of_ble_eq_true rfl) rfl ?_
  refine G_aload_n g (pc := 8) 1 d_M_readGust_8 rfl rfl ?_
  refine G_aload_n g (pc := 9) 1 d_M_readGust_9 rfl rfl ?_
  refine G_get g (pc := 10) fa_M_259 (hw.mm 145 (Nat.le_of_ble_eq_true rfl) (Nat.le_of_ble_eq_true rfl)) (hw.k (zk145 rr)) d_M_readGust_10 ?_
  refine G_if_ne g (pc := 13) 27 d_M_readGust_13 (by decide) ?_ ?_
  · refine G_aload_n g (pc := 16) 1 d_M_readGust_16 rfl rfl ?_
    refine G_getR g (pc := 17) fa_M_28 (hw.mm 145 (Nat.le_of_ble_eq_true rfl) (Nat.le_of_ble_eq_true rfl)) (hw.k (zk145 rr)) (hw.r hw.rr) d_M_readGust_17 ?_
    refine G_iconst g (pc := 20) (5 : Int32) d_M_readGust_20 rfl ?_
    refine G_ialdK g (pc := 21) (nn := 405) 5 rfl rfl hw.mr hw.kr hw.nr d_M_readGust_21 ?_
    refine G_bipush g (pc := 22) (16 : Int32) d_M_readGust_22 rfl ?_
    refine G_icmp_ge g (pc := 24) 31 d_M_readGust_24 (by decide) ?_ ?_
    · refine G_iconst g (pc := 27) (1 : Int32) d_M_readGust_27 rfl ?_
      refine G_goto g (pc := 28) 32 d_M_readGust_28 (by decide) ?_
      refine G_iconst g (pc := 32) (3 : Int32) d_M_readGust_32 rfl ?_
      refine G_cVV g (pc := 33) (As := [.int (b2i true), .int (3 : Int32)]) (st := []) cc_M_285 (c_M_check l hw true (3 : Int32) M2) (hw.mm 145 (Nat.le_of_ble_eq_true rfl) (Nat.le_of_ble_eq_true rfl)) (hw.k (zk145 rr)) rfl (by decide) rfl ⟨(Nat.le_of_ble_eq_true rfl), (Nat.le_of_ble_eq_true rfl)⟩ ⟨(Nat.le_of_ble_eq_true rfl), (Nat.le_of_ble_eq_true rfl)⟩ (Nat.le_of_ble_eq_true rfl) d_M_readGust_33 (fun M4 => ?_)
      refine G_aload_n g (pc := 36) 1 d_M_readGust_36 rfl rfl ?_
      refine G_cVV g (pc := 37) (As := []) (st := []) cc_M_289 (c_M_advance l N hw M4) (hw.mm 145 (Nat.le_of_ble_eq_true rfl) (Nat.le_of_ble_eq_true rfl)) (hw.k (zk145 rr)) rfl (by decide) rfl ⟨(Nat.le_of_ble_eq_true rfl), (Nat.le_of_ble_eq_true rfl)⟩ ⟨(Nat.le_of_ble_eq_true rfl), (Nat.le_of_ble_eq_true rfl)⟩ (Nat.le_of_ble_eq_true rfl) d_M_readGust_37 (fun M6 => ?_)
      refine G_aload_n g (pc := 40) 1 d_M_readGust_40 rfl rfl ?_
      refine G_get g (pc := 41) fa_M_259 (hw.mm 145 (Nat.le_of_ble_eq_true rfl) (Nat.le_of_ble_eq_true rfl)) (hw.k (zk145 rr)) d_M_readGust_41 ?_
      refine G_if_ne g (pc := 44) 52 d_M_readGust_44 (by decide) ?_ ?_
      · refine G_aload_n g (pc := 47) 1 d_M_readGust_47 rfl rfl ?_
        refine G_iload_n g (pc := 48) 0 d_M_readGust_48 rfl rfl ?_
        refine G_cVV g (pc := 49) (As := [.int x1]) (st := []) cc_M_72 (c_M_addGust l hw x1 M6) (hw.mm 145 (Nat.le_of_ble_eq_true rfl) (Nat.le_of_ble_eq_true rfl)) (hw.k (zk145 rr)) rfl (by decide) rfl ⟨(Nat.le_of_ble_eq_true rfl), (Nat.le_of_ble_eq_true rfl)⟩ ⟨(Nat.le_of_ble_eq_true rfl), (Nat.le_of_ble_eq_true rfl)⟩ (Nat.le_of_ble_eq_true rfl) d_M_readGust_49 (fun M8 => ?_)
        exact G_return g (pc := 52) hret (Nat.le_of_ble_eq_true rfl) (Nat.le_of_ble_eq_true rfl) d_M_readGust_52
      · exact G_return g (pc := 52) hret (Nat.le_of_ble_eq_true rfl) (Nat.le_of_ble_eq_true rfl) d_M_readGust_52
    · refine G_iconst g (pc := 31) (0 : Int32) d_M_readGust_31 rfl ?_
      refine G_iconst g (pc := 32) (3 : Int32) d_M_readGust_32 rfl ?_
      refine G_cVV g (pc := 33) (As := [.int (b2i false), .int (3 : Int32)]) (st := []) cc_M_285 (c_M_check l hw false (3 : Int32) M2) (hw.mm 145 (Nat.le_of_ble_eq_true rfl) (Nat.le_of_ble_eq_true rfl)) (hw.k (zk145 rr)) rfl (by decide) rfl ⟨(Nat.le_of_ble_eq_true rfl), (Nat.le_of_ble_eq_true rfl)⟩ ⟨(Nat.le_of_ble_eq_true rfl), (Nat.le_of_ble_eq_true rfl)⟩ (Nat.le_of_ble_eq_true rfl) d_M_readGust_33 (fun M10 => ?_)
      refine G_aload_n g (pc := 36) 1 d_M_readGust_36 rfl rfl ?_
      refine G_cVV g (pc := 37) (As := []) (st := []) cc_M_289 (c_M_advance l N hw M10) (hw.mm 145 (Nat.le_of_ble_eq_true rfl) (Nat.le_of_ble_eq_true rfl)) (hw.k (zk145 rr)) rfl (by decide) rfl ⟨(Nat.le_of_ble_eq_true rfl), (Nat.le_of_ble_eq_true rfl)⟩ ⟨(Nat.le_of_ble_eq_true rfl), (Nat.le_of_ble_eq_true rfl)⟩ (Nat.le_of_ble_eq_true rfl) d_M_readGust_37 (fun M12 => ?_)
      refine G_aload_n g (pc := 40) 1 d_M_readGust_40 rfl rfl ?_
      refine G_get g (pc := 41) fa_M_259 (hw.mm 145 (Nat.le_of_ble_eq_true rfl) (Nat.le_of_ble_eq_true rfl)) (hw.k (zk145 rr)) d_M_readGust_41 ?_
      refine G_if_ne g (pc := 44) 52 d_M_readGust_44 (by decide) ?_ ?_
      · refine G_aload_n g (pc := 47) 1 d_M_readGust_47 rfl rfl ?_
        refine G_iload_n g (pc := 48) 0 d_M_readGust_48 rfl rfl ?_
        refine G_cVV g (pc := 49) (As := [.int x1]) (st := []) cc_M_72 (c_M_addGust l hw x1 M12) (hw.mm 145 (Nat.le_of_ble_eq_true rfl) (Nat.le_of_ble_eq_true rfl)) (hw.k (zk145 rr)) rfl (by decide) rfl ⟨(Nat.le_of_ble_eq_true rfl), (Nat.le_of_ble_eq_true rfl)⟩ ⟨(Nat.le_of_ble_eq_true rfl), (Nat.le_of_ble_eq_true rfl)⟩ (Nat.le_of_ble_eq_true rfl) d_M_readGust_49 (fun M14 => ?_)
        exact G_return g (pc := 52) hret (Nat.le_of_ble_eq_true rfl) (Nat.le_of_ble_eq_true rfl) d_M_readGust_52
      · exact G_return g (pc := 52) hret (Nat.le_of_ble_eq_true rfl) (Nat.le_of_ble_eq_true rfl) d_M_readGust_52
  · refine G_iconst g (pc := 27) (1 : Int32) d_M_readGust_27 rfl ?_
    refine G_goto g (pc := 28) 32 d_M_readGust_28 (by decide) ?_
    refine G_iconst g (pc := 32) (3 : Int32) d_M_readGust_32 rfl ?_
    refine G_cVV g (pc := 33) (As := [.int (b2i true), .int (3 : Int32)]) (st := []) cc_M_285 (c_M_check l hw true (3 : Int32) M2) (hw.mm 145 (Nat.le_of_ble_eq_true rfl) (Nat.le_of_ble_eq_true rfl)) (hw.k (zk145 rr)) rfl (by decide) rfl ⟨(Nat.le_of_ble_eq_true rfl), (Nat.le_of_ble_eq_true rfl)⟩ ⟨(Nat.le_of_ble_eq_true rfl), (Nat.le_of_ble_eq_true rfl)⟩ (Nat.le_of_ble_eq_true rfl) d_M_readGust_33 (fun M16 => ?_)
    refine G_aload_n g (pc := 36) 1 d_M_readGust_36 rfl rfl ?_
    refine G_cVV g (pc := 37) (As := []) (st := []) cc_M_289 (c_M_advance l N hw M16) (hw.mm 145 (Nat.le_of_ble_eq_true rfl) (Nat.le_of_ble_eq_true rfl)) (hw.k (zk145 rr)) rfl (by decide) rfl ⟨(Nat.le_of_ble_eq_true rfl), (Nat.le_of_ble_eq_true rfl)⟩ ⟨(Nat.le_of_ble_eq_true rfl), (Nat.le_of_ble_eq_true rfl)⟩ (Nat.le_of_ble_eq_true rfl) d_M_readGust_37 (fun M18 => ?_)
    refine G_aload_n g (pc := 40) 1 d_M_readGust_40 rfl rfl ?_
    refine G_get g (pc := 41) fa_M_259 (hw.mm 145 (Nat.le_of_ble_eq_true rfl) (Nat.le_of_ble_eq_true rfl)) (hw.k (zk145 rr)) d_M_readGust_41 ?_
    refine G_if_ne g (pc := 44) 52 d_M_readGust_44 (by decide) ?_ ?_
    · refine G_aload_n g (pc := 47) 1 d_M_readGust_47 rfl rfl ?_
      refine G_iload_n g (pc := 48) 0 d_M_readGust_48 rfl rfl ?_
      refine G_cVV g (pc := 49) (As := [.int x1]) (st := []) cc_M_72 (c_M_addGust l hw x1 M18) (hw.mm 145 (Nat.le_of_ble_eq_true rfl) (Nat.le_of_ble_eq_true rfl)) (hw.k (zk145 rr)) rfl (by decide) rfl ⟨(Nat.le_of_ble_eq_true rfl), (Nat.le_of_ble_eq_true rfl)⟩ ⟨(Nat.le_of_ble_eq_true rfl), (Nat.le_of_ble_eq_true rfl)⟩ (Nat.le_of_ble_eq_true rfl) d_M_readGust_49 (fun M20 => ?_)
      exact G_return g (pc := 52) hret (Nat.le_of_ble_eq_true rfl) (Nat.le_of_ble_eq_true rfl) d_M_readGust_52
    · exact G_return g (pc := 52) hret (Nat.le_of_ble_eq_true rfl) (Nat.le_of_ble_eq_true rfl) d_M_readGust_52

theorem d_M_readStation_0 : decode b_M_readStation 0 = .ok (.aload_n 0, 1) := by decide +kernel
theorem d_M_readStation_1 : decode b_M_readStation 1 = .ok (.aload_n 0, 1) := by decide +kernel
theorem d_M_readStation_2 : decode b_M_readStation 2 = .ok (.ldc_w 305, 3) := by decide +kernel
theorem d_M_readStation_5 : decode b_M_readStation 5 = .ok (.invokevirtual 278, 3) := by decide +kernel
theorem d_M_readStation_8 : decode b_M_readStation 8 = .ok (.iconst 1, 1) := by decide +kernel
theorem d_M_readStation_9 : decode b_M_readStation 9 = .ok (.invokevirtual 285, 3) := by decide +kernel
theorem d_M_readStation_12 : decode b_M_readStation 12 = .ok (.aload_n 0, 1) := by decide +kernel
theorem d_M_readStation_13 : decode b_M_readStation 13 = .ok (.invokevirtual 289, 3) := by decide +kernel
theorem d_M_readStation_16 : decode b_M_readStation 16 = .ok (.aload_n 0, 1) := by decide +kernel
theorem d_M_readStation_17 : decode b_M_readStation 17 = .ok (.iconst 1, 1) := by decide +kernel
theorem d_M_readStation_18 : decode b_M_readStation 18 = .ok (.iconst 4, 1) := by decide +kernel
theorem d_M_readStation_19 : decode b_M_readStation 19 = .ok (.invokevirtual 307, 3) := by decide +kernel
theorem d_M_readStation_22 : decode b_M_readStation 22 = .ok (.istore_n 1, 1) := by decide +kernel
theorem d_M_readStation_23 : decode b_M_readStation 23 = .ok (.aload_n 0, 1) := by decide +kernel
theorem d_M_readStation_24 : decode b_M_readStation 24 = .ok (.iconst 1, 1) := by decide +kernel
theorem d_M_readStation_25 : decode b_M_readStation 25 = .ok (.sipush 999, 3) := by decide +kernel
theorem d_M_readStation_28 : decode b_M_readStation 28 = .ok (.invokevirtual 307, 3) := by decide +kernel
theorem d_M_readStation_31 : decode b_M_readStation 31 = .ok (.istore_n 2, 1) := by decide +kernel
theorem d_M_readStation_32 : decode b_M_readStation 32 = .ok (.aload_n 0, 1) := by decide +kernel
theorem d_M_readStation_33 : decode b_M_readStation 33 = .ok (.iload_n 1, 1) := by decide +kernel
theorem d_M_readStation_34 : decode b_M_readStation 34 = .ok (.iload_n 2, 1) := by decide +kernel
theorem d_M_readStation_35 : decode b_M_readStation 35 = .ok (.aload_n 0, 1) := by decide +kernel
theorem d_M_readStation_36 : decode b_M_readStation 36 = .ok (.iconst 1, 1) := by decide +kernel
theorem d_M_readStation_37 : decode b_M_readStation 37 = .ok (.sipush 9999, 3) := by decide +kernel
theorem d_M_readStation_40 : decode b_M_readStation 40 = .ok (.invokevirtual 307, 3) := by decide +kernel
theorem d_M_readStation_43 : decode b_M_readStation 43 = .ok (.invokevirtual 68, 3) := by decide +kernel
theorem d_M_readStation_46 : decode b_M_readStation 46 = .ok (.aload_n 0, 1) := by decide +kernel
theorem d_M_readStation_47 : decode b_M_readStation 47 = .ok (.bipush 59, 2) := by decide +kernel
theorem d_M_readStation_49 : decode b_M_readStation 49 = .ok (.invokevirtual 310, 3) := by decide +kernel
theorem d_M_readStation_52 : decode b_M_readStation 52 = .ok (.aload_n 0, 1) := by decide +kernel
theorem d_M_readStation_53 : decode b_M_readStation 53 = .ok (.aload_n 0, 1) := by decide +kernel
theorem d_M_readStation_54 : decode b_M_readStation 54 = .ok (.ldc_w 313, 3) := by decide +kernel
theorem d_M_readStation_57 : decode b_M_readStation 57 = .ok (.invokevirtual 278, 3) := by decide +kernel
theorem d_M_readStation_60 : decode b_M_readStation 60 = .ok (.iconst 1, 1) := by decide +kernel
theorem d_M_readStation_61 : decode b_M_readStation 61 = .ok (.invokevirtual 285, 3) := by decide +kernel
theorem d_M_readStation_64 : decode b_M_readStation 64 = .ok (.aload_n 0, 1) := by decide +kernel
theorem d_M_readStation_65 : decode b_M_readStation 65 = .ok (.invokevirtual 289, 3) := by decide +kernel
theorem d_M_readStation_68 : decode b_M_readStation 68 = .ok (.aload_n 0, 1) := by decide +kernel
theorem d_M_readStation_69 : decode b_M_readStation 69 = .ok (.invokevirtual 315, 3) := by decide +kernel
theorem d_M_readStation_72 : decode b_M_readStation 72 = .ok (.aload_n 0, 1) := by decide +kernel
theorem d_M_readStation_73 : decode b_M_readStation 73 = .ok (.getfield 259, 3) := by decide +kernel
theorem d_M_readStation_76 : decode b_M_readStation 76 = .ok (.ifCond .ne 18, 3) := by decide +kernel
theorem d_M_readStation_79 : decode b_M_readStation 79 = .ok (.aload_n 0, 1) := by decide +kernel
theorem d_M_readStation_80 : decode b_M_readStation 80 = .ok (.getfield 250, 3) := by decide +kernel
theorem d_M_readStation_83 : decode b_M_readStation 83 = .ok (.iconst 2, 1) := by decide +kernel
theorem d_M_readStation_84 : decode b_M_readStation 84 = .ok (.if_icmp .ne 10, 3) := by decide +kernel
theorem d_M_readStation_87 : decode b_M_readStation 87 = .ok (.aload_n 0, 1) := by decide +kernel
theorem d_M_readStation_88 : decode b_M_readStation 88 = .ok (.invokevirtual 315, 3) := by decide +kernel
theorem d_M_readStation_91 : decode b_M_readStation 91 = .ok (.goto (-19), 3) := by decide +kernel
theorem d_M_readStation_94 : decode b_M_readStation 94 = .ok (.aload_n 0, 1) := by decide +kernel
theorem d_M_readStation_95 : decode b_M_readStation 95 = .ok (.bipush 59, 2) := by decide +kernel
theorem d_M_readStation_97 : decode b_M_readStation 97 = .ok (.invokevirtual 310, 3) := by decide +kernel
theorem d_M_readStation_100 : decode b_M_readStation 100 = .ok (.aload_n 0, 1) := by decide +kernel
theorem d_M_readStation_101 : decode b_M_readStation 101 = .ok (.aload_n 0, 1) := by decide +kernel
theorem d_M_readStation_102 : decode b_M_readStation 102 = .ok (.ldc_w 318, 3) := by decide +kernel
theorem d_M_readStation_105 : decode b_M_readStation 105 = .ok (.invokevirtual 278, 3) := by decide +kernel
theorem d_M_readStation_108 : decode b_M_readStation 108 = .ok (.iconst 1, 1) := by decide +kernel
theorem d_M_readStation_109 : decode b_M_readStation 109 = .ok (.invokevirtual 285, 3) := by decide +kernel
theorem d_M_readStation_112 : decode b_M_readStation 112 = .ok (.aload_n 0, 1) := by decide +kernel
theorem d_M_readStation_113 : decode b_M_readStation 113 = .ok (.invokevirtual 289, 3) := by decide +kernel
theorem d_M_readStation_116 : decode b_M_readStation 116 = .ok (.aload_n 0, 1) := by decide +kernel
theorem d_M_readStation_117 : decode b_M_readStation 117 = .ok (.getfield 28, 3) := by decide +kernel
theorem d_M_readStation_120 : decode b_M_readStation 120 = .ok (.iconst 4, 1) := by decide +kernel
theorem d_M_readStation_121 : decode b_M_readStation 121 = .ok (.aload_n 0, 1) := by decide +kernel
theorem d_M_readStation_122 : decode b_M_readStation 122 = .ok (.iconst 1, 1) := by decide +kernel
theorem d_M_readStation_123 : decode b_M_readStation 123 = .ok (.bipush 20, 2) := by decide +kernel
theorem d_M_readStation_125 : decode b_M_readStation 125 = .ok (.invokevirtual 307, 3) := by decide +kernel
theorem d_M_readStation_128 : decode b_M_readStation 128 = .ok (.iastore, 1) := by decide +kernel
theorem d_M_readStation_129 : decode b_M_readStation 129 = .ok (.aload_n 0, 1) := by decide +kernel
theorem d_M_readStation_130 : decode b_M_readStation 130 = .ok (.bipush 59, 2) := by decide +kernel
theorem d_M_readStation_132 : decode b_M_readStation 132 = .ok (.invokevirtual 310, 3) := by decide +kernel
theorem d_M_readStation_135 : decode b_M_readStation 135 = .ok (.aload_n 0, 1) := by decide +kernel
theorem d_M_readStation_136 : decode b_M_readStation 136 = .ok (.aload_n 0, 1) := by decide +kernel
theorem d_M_readStation_137 : decode b_M_readStation 137 = .ok (.getfield 259, 3) := by decide +kernel
theorem d_M_readStation_140 : decode b_M_readStation 140 = .ok (.ifCond .ne 10, 3) := by decide +kernel
theorem d_M_readStation_143 : decode b_M_readStation 143 = .ok (.aload_n 0, 1) := by decide +kernel
theorem d_M_readStation_144 : decode b_M_readStation 144 = .ok (.getfield 250, 3) := by decide +kernel
theorem d_M_readStation_147 : decode b_M_readStation 147 = .ok (.ifCond .ne 7, 3) := by decide +kernel
theorem d_M_readStation_150 : decode b_M_readStation 150 = .ok (.iconst 1, 1) := by decide +kernel
theorem d_M_readStation_151 : decode b_M_readStation 151 = .ok (.goto 4, 3) := by decide +kernel
theorem d_M_readStation_154 : decode b_M_readStation 154 = .ok (.iconst 0, 1) := by decide +kernel
theorem d_M_readStation_155 : decode b_M_readStation 155 = .ok (.iconst 1, 1) := by decide +kernel
theorem d_M_readStation_156 : decode b_M_readStation 156 = .ok (.invokevirtual 285, 3) := by decide +kernel
theorem d_M_readStation_159 : decode b_M_readStation 159 = .ok (.return_, 1) := by decide +kernel
theorem cc_M_278 : CV "KiteLoggerModel" 278 y_M_isWord b_M_isWord 4 (some .boolean) 1 := ⟨TT_in (i := 1891) (by decide +kernel) (by decide +kernel), TT_in (i := 1893) (by decide +kernel) (by decide +kernel), TT_in (i := 69) (by decide +kernel) (by decide +kernel), TT_in (i := 100) (by decide +kernel) (by decide +kernel), TT_in (i := 1894) (by decide +kernel) (by decide +kernel), ⟨by decide +kernel, by decide +kernel, by decide +kernel⟩⟩
theorem cc_M_307 : CV "KiteLoggerModel" 307 y_M_readNumber b_M_readNumber 4 (some .int) 2 := ⟨TT_in (i := 1905) (by decide +kernel) (by decide +kernel), TT_in (i := 1907) (by decide +kernel) (by decide +kernel), TT_in (i := 72) (by decide +kernel) (by decide +kernel), TT_in (i := 100) (by decide +kernel) (by decide +kernel), TT_in (i := 1908) (by decide +kernel) (by decide +kernel), ⟨by decide +kernel, by decide +kernel, by decide +kernel⟩⟩
theorem cc_M_68 : CV "KiteLoggerModel" 68 y_M_begin b_M_begin 5 none 3 := ⟨TT_in (i := 1354) (by decide +kernel) (by decide +kernel), TT_in (i := 1356) (by decide +kernel) (by decide +kernel), TT_in (i := 23) (by decide +kernel) (by decide +kernel), TT_in (i := 100) (by decide +kernel) (by decide +kernel), TT_in (i := 1357) (by decide +kernel) (by decide +kernel), ⟨by decide +kernel, by decide +kernel, by decide +kernel⟩⟩
theorem cc_M_310 : CV "KiteLoggerModel" 310 y_M_expect b_M_expect 2 none 1 := ⟨TT_in (i := 1918) (by decide +kernel) (by decide +kernel), TT_in (i := 1920) (by decide +kernel) (by decide +kernel), TT_in (i := 75) (by decide +kernel) (by decide +kernel), TT_in (i := 100) (by decide +kernel) (by decide +kernel), TT_in (i := 1921) (by decide +kernel) (by decide +kernel), ⟨by decide +kernel, by decide +kernel, by decide +kernel⟩⟩
theorem cc_M_315 : CV "KiteLoggerModel" 315 y_M_readGust b_M_readGust 2 none 0 := ⟨TT_in (i := 1927) (by decide +kernel) (by decide +kernel), TT_in (i := 1929) (by decide +kernel) (by decide +kernel), TT_in (i := 77) (by decide +kernel) (by decide +kernel), TT_in (i := 100) (by decide +kernel) (by decide +kernel), TT_in (i := 1930) (by decide +kernel) (by decide +kernel), ⟨by decide +kernel, by decide +kernel, by decide +kernel⟩⟩
def lp_M_readStation_72 (N0 rr : Nat)  (c1 : Int32) (c2 : Int32) : Nat → Unit → Mem → (Unit → Mem → Option (Mem)) → Option (Mem)
  | 0, _, _, _ => none
  | N + 1, v72, M, k72 => if (M 145 20) = 0 then (if (M 145 19) = (2 : Int32) then (bndM (f_M_readGust N0 rr M) fun (M26 : Mem) => lp_M_readStation_72 N0 rr c1 c2 N () M26 k72) else (k72 () M)) else (k72 () M)
def f_M_readStation (N : Nat) (rr : Nat) (M : Mem) : Option (Mem) :=
  bnd (f_M_isWord N rr 1 M) fun (x1 : Bool) (M2 : Mem) => bndM (f_M_check x1 (1 : Int32) M2) fun (M4 : Mem) => bndM (f_M_advance N rr M4) fun (M6 : Mem) => bnd (f_M_readNumber N rr (1 : Int32) (4 : Int32) M6) fun (x7 : Int32) (M8 : Mem) => bnd (f_M_readNumber N rr (1 : Int32) (999 : Int32) M8) fun (x9 : Int32) (M10 : Mem) => bnd (f_M_readNumber N rr (1 : Int32) (9999 : Int32) M10) fun (x11 : Int32) (M12 : Mem) => bndM (f_M_begin N rr x7 x9 x11 M12) fun (M14 : Mem) => bndM (f_M_expect N rr (59 : Int32) M14) fun (M16 : Mem) => bnd (f_M_isWord N rr 2 M16) fun (x17 : Bool) (M18 : Mem) => bndM (f_M_check x17 (1 : Int32) M18) fun (M20 : Mem) => bndM (f_M_advance N rr M20) fun (M22 : Mem) => bndM (f_M_readGust N rr M22) fun (M24 : Mem) => lp_M_readStation_72 N rr x7 x9 N () M24 (fun (a28 : Unit) (M27 : Mem) => bndM (f_M_expect N rr (59 : Int32) M27) fun (M30 : Mem) => bnd (f_M_isWord N rr 3 M30) fun (x31 : Bool) (M32 : Mem) => bndM (f_M_check x31 (1 : Int32) M32) fun (M34 : Mem) => bndM (f_M_advance N rr M34) fun (M36 : Mem) => bnd (f_M_readNumber N rr (1 : Int32) (20 : Int32) M36) fun (x37 : Int32) (M38 : Mem) => nm (put M38 rr 4 x37) fun (M39 : Mem) => bndM (f_M_expect N rr (59 : Int32) M39) fun (M41 : Mem) => if (M41 145 20) = 0 then (if (M41 145 19) = 0 then (bndM (f_M_check true (1 : Int32) M41) fun (M43 : Mem) => some M43) else (bndM (f_M_check false (1 : Int32) M41) fun (M45 : Mem) => some M45)) else (bndM (f_M_check true (1 : Int32) M41) fun (M47 : Mem) => some M47))
set_option maxHeartbeats 4000000 in
set_option maxRecDepth 100000 in
theorem c_M_readStation (l : Launch) (N : Nat) {w : Wc} {rr : Nat} (hw : WM w rr)  (M : Mem) : Ct QV l y_M_readStation b_M_readStation 3 none (rmL 5) w [.ref (wad w 145)] M (f_M_readStation N rr M) := by
  refine Ct.go (by decide) (L := [(0, .ref (wad w 145))]) rfl (Nat.le_of_ble_eq_true rfl) (fun p0 e s m args below meth c g hret => ?_)
  unfold f_M_readStation
  refine G_aload_n g (pc := 0) 0 d_M_readStation_0 rfl rfl ?_
  refine G_aload_n g (pc := 1) 0 d_M_readStation_1 rfl rfl ?_
  refine G_ldcSW g (pc := 2) 1 (List.mem_of_getElem? (i := 29) rfl) d_M_readStation_2 ?_
  refine G_cVZ g (pc := 5) (As := [.ref (wad w (1000 + 1))]) (st := [.ref (wad w 145)]) cc_M_278 (c_M_isWord l N hw 1 (by decide) M) (hw.mm 145 (Nat.le_of_ble_eq_true rfl) (Nat.le_of_ble_eq_true rfl)) (hw.k (zk145 rr)) rfl (by decide) rfl ⟨(Nat.le_of_ble_eq_true rfl), (Nat.le_of_ble_eq_true rfl)⟩ ⟨(Nat.le_of_ble_eq_true rfl), (Nat.le_of_ble_eq_true rfl)⟩ (Nat.le_of_ble_eq_true rfl) d_M_readStation_5 (fun x1 M2 => ?_)
  refine G_iconst g (pc := 8) (1 : Int32) d_M_readStation_8 rfl ?_
  refine G_cVV g (pc := 9) (As := [.int (b2i x1), .int (1 : Int32)]) (st := []) cc_M_285 (c_M_check l hw x1 (1 : Int32) M2) (hw.mm 145 (Nat.le_of_ble_eq_true rfl) (Nat.le_of_ble_eq_true rfl)) (hw.k (zk145 rr)) rfl (by decide) rfl ⟨(Nat.le_of_ble_eq_true rfl), (Nat.le_of_ble_eq_true rfl)⟩ ⟨(Nat.le_of_ble_eq_true rfl), (Nat.le_of_ble_eq_true rfl)⟩ (Nat.le_of_ble_eq_true rfl) d_M_readStation_9 (fun M4 => ?_)
  refine G_aload_n g (pc := 12) 0 d_M_readStation_12 rfl rfl ?_
  refine G_cVV g (pc := 13) (As := []) (st := []) cc_M_289 (c_M_advance l N hw M4) (hw.mm 145 (Nat.le_of_ble_eq_true rfl) (Nat.le_of_ble_eq_true rfl)) (hw.k (zk145 rr)) rfl (by decide) rfl ⟨(Nat.le_of_ble_eq_true rfl), (Nat.le_of_ble_eq_true rfl)⟩ ⟨(Nat.le_of_ble_eq_true rfl), (Nat.le_of_ble_eq_true rfl)⟩ (Nat.le_of_ble_eq_true rfl) d_M_readStation_13 (fun M6 => ?_)
  refine G_aload_n g (pc := 16) 0 d_M_readStation_16 rfl rfl ?_
  refine G_iconst g (pc := 17) (1 : Int32) d_M_readStation_17 rfl ?_
  refine G_iconst g (pc := 18) (4 : Int32) d_M_readStation_18 rfl ?_
  refine G_cVI g (pc := 19) (As := [.int (1 : Int32), .int (4 : Int32)]) (st := []) cc_M_307 (c_M_readNumber l N hw (1 : Int32) (4 : Int32) M6) (hw.mm 145 (Nat.le_of_ble_eq_true rfl) (Nat.le_of_ble_eq_true rfl)) (hw.k (zk145 rr)) rfl (by decide) rfl ⟨(Nat.le_of_ble_eq_true rfl), (Nat.le_of_ble_eq_true rfl)⟩ ⟨(Nat.le_of_ble_eq_true rfl), (Nat.le_of_ble_eq_true rfl)⟩ (Nat.le_of_ble_eq_true rfl) d_M_readStation_19 (fun x7 M8 => ?_)
  refine G_istore_n g (pc := 22) _ d_M_readStation_22 rfl (Nat.le_of_ble_eq_true rfl) rfl ?_
  refine G_aload_n g (pc := 23) 1 d_M_readStation_23 rfl rfl ?_
  refine G_iconst g (pc := 24) (1 : Int32) d_M_readStation_24 rfl ?_
  refine G_sipush g (pc := 25) (999 : Int32) d_M_readStation_25 rfl ?_
  refine G_cVI g (pc := 28) (As := [.int (1 : Int32), .int (999 : Int32)]) (st := []) cc_M_307 (c_M_readNumber l N hw (1 : Int32) (999 : Int32) M8) (hw.mm 145 (Nat.le_of_ble_eq_true rfl) (Nat.le_of_ble_eq_true rfl)) (hw.k (zk145 rr)) rfl (by decide) rfl ⟨(Nat.le_of_ble_eq_true rfl), (Nat.le_of_ble_eq_true rfl)⟩ ⟨(Nat.le_of_ble_eq_true rfl), (Nat.le_of_ble_eq_true rfl)⟩ (Nat.le_of_ble_eq_true rfl) d_M_readStation_28 (fun x9 M10 => ?_)
  refine G_istore_n g (pc := 31) _ d_M_readStation_31 rfl (Nat.le_of_ble_eq_true rfl) rfl ?_
  refine G_aload_n g (pc := 32) 2 d_M_readStation_32 rfl rfl ?_
  refine G_iload_n g (pc := 33) 1 d_M_readStation_33 rfl rfl ?_
  refine G_iload_n g (pc := 34) 0 d_M_readStation_34 rfl rfl ?_
  refine G_aload_n g (pc := 35) 2 d_M_readStation_35 rfl rfl ?_
  refine G_iconst g (pc := 36) (1 : Int32) d_M_readStation_36 rfl ?_
  refine G_sipush g (pc := 37) (9999 : Int32) d_M_readStation_37 rfl ?_
  refine G_cVI g (pc := 40) (As := [.int (1 : Int32), .int (9999 : Int32)]) (st := [.int x9, .int x7, .ref (wad w 145)]) cc_M_307 (c_M_readNumber l N hw (1 : Int32) (9999 : Int32) M10) (hw.mm 145 (Nat.le_of_ble_eq_true rfl) (Nat.le_of_ble_eq_true rfl)) (hw.k (zk145 rr)) rfl (by decide) rfl ⟨(Nat.le_of_ble_eq_true rfl), (Nat.le_of_ble_eq_true rfl)⟩ ⟨(Nat.le_of_ble_eq_true rfl), (Nat.le_of_ble_eq_true rfl)⟩ (Nat.le_of_ble_eq_true rfl) d_M_readStation_40 (fun x11 M12 => ?_)
  refine G_cVV g (pc := 43) (As := [.int x7, .int x9, .int x11]) (st := []) cc_M_68 (c_M_begin l N hw x7 x9 x11 M12) (hw.mm 145 (Nat.le_of_ble_eq_true rfl) (Nat.le_of_ble_eq_true rfl)) (hw.k (zk145 rr)) rfl (by decide) rfl ⟨(Nat.le_of_ble_eq_true rfl), (Nat.le_of_ble_eq_true rfl)⟩ ⟨(Nat.le_of_ble_eq_true rfl), (Nat.le_of_ble_eq_true rfl)⟩ (Nat.le_of_ble_eq_true rfl) d_M_readStation_43 (fun M14 => ?_)
  refine G_aload_n g (pc := 46) 2 d_M_readStation_46 rfl rfl ?_
  refine G_bipush g (pc := 47) (59 : Int32) d_M_readStation_47 rfl ?_
  refine G_cVV g (pc := 49) (As := [.int (59 : Int32)]) (st := []) cc_M_310 (c_M_expect l N hw (59 : Int32) M14) (hw.mm 145 (Nat.le_of_ble_eq_true rfl) (Nat.le_of_ble_eq_true rfl)) (hw.k (zk145 rr)) rfl (by decide) rfl ⟨(Nat.le_of_ble_eq_true rfl), (Nat.le_of_ble_eq_true rfl)⟩ ⟨(Nat.le_of_ble_eq_true rfl), (Nat.le_of_ble_eq_true rfl)⟩ (Nat.le_of_ble_eq_true rfl) d_M_readStation_49 (fun M16 => ?_)
  refine G_aload_n g (pc := 52) 2 d_M_readStation_52 rfl rfl ?_
  refine G_aload_n g (pc := 53) 2 d_M_readStation_53 rfl rfl ?_
  refine G_ldcSW g (pc := 54) 2 (List.mem_of_getElem? (i := 30) rfl) d_M_readStation_54 ?_
  refine G_cVZ g (pc := 57) (As := [.ref (wad w (1000 + 2))]) (st := [.ref (wad w 145)]) cc_M_278 (c_M_isWord l N hw 2 (by decide) M16) (hw.mm 145 (Nat.le_of_ble_eq_true rfl) (Nat.le_of_ble_eq_true rfl)) (hw.k (zk145 rr)) rfl (by decide) rfl ⟨(Nat.le_of_ble_eq_true rfl), (Nat.le_of_ble_eq_true rfl)⟩ ⟨(Nat.le_of_ble_eq_true rfl), (Nat.le_of_ble_eq_true rfl)⟩ (Nat.le_of_ble_eq_true rfl) d_M_readStation_57 (fun x17 M18 => ?_)
  refine G_iconst g (pc := 60) (1 : Int32) d_M_readStation_60 rfl ?_
  refine G_cVV g (pc := 61) (As := [.int (b2i x17), .int (1 : Int32)]) (st := []) cc_M_285 (c_M_check l hw x17 (1 : Int32) M18) (hw.mm 145 (Nat.le_of_ble_eq_true rfl) (Nat.le_of_ble_eq_true rfl)) (hw.k (zk145 rr)) rfl (by decide) rfl ⟨(Nat.le_of_ble_eq_true rfl), (Nat.le_of_ble_eq_true rfl)⟩ ⟨(Nat.le_of_ble_eq_true rfl), (Nat.le_of_ble_eq_true rfl)⟩ (Nat.le_of_ble_eq_true rfl) d_M_readStation_61 (fun M20 => ?_)
  refine G_aload_n g (pc := 64) 2 d_M_readStation_64 rfl rfl ?_
  refine G_cVV g (pc := 65) (As := []) (st := []) cc_M_289 (c_M_advance l N hw M20) (hw.mm 145 (Nat.le_of_ble_eq_true rfl) (Nat.le_of_ble_eq_true rfl)) (hw.k (zk145 rr)) rfl (by decide) rfl ⟨(Nat.le_of_ble_eq_true rfl), (Nat.le_of_ble_eq_true rfl)⟩ ⟨(Nat.le_of_ble_eq_true rfl), (Nat.le_of_ble_eq_true rfl)⟩ (Nat.le_of_ble_eq_true rfl) d_M_readStation_65 (fun M22 => ?_)
  refine G_aload_n g (pc := 68) 2 d_M_readStation_68 rfl rfl ?_
  refine G_cVV g (pc := 69) (As := []) (st := []) cc_M_315 (c_M_readGust l N hw M22) (hw.mm 145 (Nat.le_of_ble_eq_true rfl) (Nat.le_of_ble_eq_true rfl)) (hw.k (zk145 rr)) rfl (by decide) rfl ⟨(Nat.le_of_ble_eq_true rfl), (Nat.le_of_ble_eq_true rfl)⟩ ⟨(Nat.le_of_ble_eq_true rfl), (Nat.le_of_ble_eq_true rfl)⟩ (Nat.le_of_ble_eq_true rfl) d_M_readStation_69 (fun M24 => ?_)
  refine G_sub [2, 1, 0] _ rfl ?_
  refine G_loop (F := lp_M_readStation_72 N rr x7 x9) 72 94 (fun (v72 : Unit) => [(0, .ref (wad w 145)), (1, .int x7), (2, .int x9)]) (fun (v72 : Unit) => [(0, .ref (wad w 145)), (1, .int x7), (2, .int x9)]) (fun _ _ _ => rfl) (fun a28 M27 => ?_) (fun k72 hk72 Nl72 ih72 v72 M => ?_) N () M24
  · refine G_aload_n g (pc := 94) 0 d_M_readStation_94 rfl rfl ?_
    refine G_bipush g (pc := 95) (59 : Int32) d_M_readStation_95 rfl ?_
    refine G_cVV g (pc := 97) (As := [.int (59 : Int32)]) (st := []) cc_M_310 (c_M_expect l N hw (59 : Int32) M27) (hw.mm 145 (Nat.le_of_ble_eq_true rfl) (Nat.le_of_ble_eq_true rfl)) (hw.k (zk145 rr)) rfl (by decide) rfl ⟨(Nat.le_of_ble_eq_true rfl), (Nat.le_of_ble_eq_true rfl)⟩ ⟨(Nat.le_of_ble_eq_true rfl), (Nat.le_of_ble_eq_true rfl)⟩ (Nat.le_of_ble_eq_true rfl) d_M_readStation_97 (fun M30 => ?_)
    refine G_aload_n g (pc := 100) 0 d_M_readStation_100 rfl rfl ?_
    refine G_aload_n g (pc := 101) 0 d_M_readStation_101 rfl rfl ?_
    refine G_ldcSW g (pc := 102) 3 (List.mem_of_getElem? (i := 31) rfl) d_M_readStation_102 ?_
    refine G_cVZ g (pc := 105) (As := [.ref (wad w (1000 + 3))]) (st := [.ref (wad w 145)]) cc_M_278 (c_M_isWord l N hw 3 (by decide) M30) (hw.mm 145 (Nat.le_of_ble_eq_true rfl) (Nat.le_of_ble_eq_true rfl)) (hw.k (zk145 rr)) rfl (by decide) rfl ⟨(Nat.le_of_ble_eq_true rfl), (Nat.le_of_ble_eq_true rfl)⟩ ⟨(Nat.le_of_ble_eq_true rfl), (Nat.le_of_ble_eq_true rfl)⟩ (Nat.le_of_ble_eq_true rfl) d_M_readStation_105 (fun x31 M32 => ?_)
    refine G_iconst g (pc := 108) (1 : Int32) d_M_readStation_108 rfl ?_
    refine G_cVV g (pc := 109) (As := [.int (b2i x31), .int (1 : Int32)]) (st := []) cc_M_285 (c_M_check l hw x31 (1 : Int32) M32) (hw.mm 145 (Nat.le_of_ble_eq_true rfl) (Nat.le_of_ble_eq_true rfl)) (hw.k (zk145 rr)) rfl (by decide) rfl ⟨(Nat.le_of_ble_eq_true rfl), (Nat.le_of_ble_eq_true rfl)⟩ ⟨(Nat.le_of_ble_eq_true rfl), (Nat.le_of_ble_eq_true rfl)⟩ (Nat.le_of_ble_eq_true rfl) d_M_readStation_109 (fun M34 => ?_)
    refine G_aload_n g (pc := 112) 0 d_M_readStation_112 rfl rfl ?_
    refine G_cVV g (pc := 113) (As := []) (st := []) cc_M_289 (c_M_advance l N hw M34) (hw.mm 145 (Nat.le_of_ble_eq_true rfl) (Nat.le_of_ble_eq_true rfl)) (hw.k (zk145 rr)) rfl (by decide) rfl ⟨(Nat.le_of_ble_eq_true rfl), (Nat.le_of_ble_eq_true rfl)⟩ ⟨(Nat.le_of_ble_eq_true rfl), (Nat.le_of_ble_eq_true rfl)⟩ (Nat.le_of_ble_eq_true rfl) d_M_readStation_113 (fun M36 => ?_)
    refine G_aload_n g (pc := 116) 0 d_M_readStation_116 rfl rfl ?_
    refine G_getR g (pc := 117) fa_M_28 (hw.mm 145 (Nat.le_of_ble_eq_true rfl) (Nat.le_of_ble_eq_true rfl)) (hw.k (zk145 rr)) (hw.r hw.rr) d_M_readStation_117 ?_
    refine G_iconst g (pc := 120) (4 : Int32) d_M_readStation_120 rfl ?_
    refine G_aload_n g (pc := 121) 0 d_M_readStation_121 rfl rfl ?_
    refine G_iconst g (pc := 122) (1 : Int32) d_M_readStation_122 rfl ?_
    refine G_bipush g (pc := 123) (20 : Int32) d_M_readStation_123 rfl ?_
    refine G_cVI g (pc := 125) (As := [.int (1 : Int32), .int (20 : Int32)]) (st := [.int (4 : Int32), .ref (wad w rr)]) cc_M_307 (c_M_readNumber l N hw (1 : Int32) (20 : Int32) M36) (hw.mm 145 (Nat.le_of_ble_eq_true rfl) (Nat.le_of_ble_eq_true rfl)) (hw.k (zk145 rr)) rfl (by decide) rfl ⟨(Nat.le_of_ble_eq_true rfl), (Nat.le_of_ble_eq_true rfl)⟩ ⟨(Nat.le_of_ble_eq_true rfl), (Nat.le_of_ble_eq_true rfl)⟩ (Nat.le_of_ble_eq_true rfl) d_M_readStation_125 (fun x37 M38 => ?_)
    refine G_iastK g (pc := 128) (nn := 405) 4 rfl rfl hw.mr hw.kr hw.nr d_M_readStation_128 ?_
    refine G_nmM (fun M39 => ?_)
    refine G_aload_n g (pc := 129) 0 d_M_readStation_129 rfl rfl ?_
    refine G_bipush g (pc := 130) (59 : Int32) d_M_readStation_130 rfl ?_
    refine G_cVV g (pc := 132) (As := [.int (59 : Int32)]) (st := []) cc_M_310 (c_M_expect l N hw (59 : Int32) M39) (hw.mm 145 (Nat.le_of_ble_eq_true rfl) (Nat.le_of_ble_eq_true rfl)) (hw.k (zk145 rr)) rfl (by decide) rfl ⟨(Nat.le_of_ble_eq_true rfl), (Nat.le_of_ble_eq_true rfl)⟩ ⟨(Nat.le_of_ble_eq_true rfl), (Nat.le_of_ble_eq_true rfl)⟩ (Nat.le_of_ble_eq_true rfl) d_M_readStation_132 (fun M41 => ?_)
    refine G_aload_n g (pc := 135) 0 d_M_readStation_135 rfl rfl ?_
    refine G_aload_n g (pc := 136) 0 d_M_readStation_136 rfl rfl ?_
    refine G_get g (pc := 137) fa_M_259 (hw.mm 145 (Nat.le_of_ble_eq_true rfl) (Nat.le_of_ble_eq_true rfl)) (hw.k (zk145 rr)) d_M_readStation_137 ?_
    refine G_if_ne g (pc := 140) 150 d_M_readStation_140 (by decide) ?_ ?_
    · refine G_aload_n g (pc := 143) 0 d_M_readStation_143 rfl rfl ?_
      refine G_get g (pc := 144) fa_M_250 (hw.mm 145 (Nat.le_of_ble_eq_true rfl) (Nat.le_of_ble_eq_true rfl)) (hw.k (zk145 rr)) d_M_readStation_144 ?_
      refine G_if_ne g (pc := 147) 154 d_M_readStation_147 (by decide) ?_ ?_
      · refine G_iconst g (pc := 150) (1 : Int32) d_M_readStation_150 rfl ?_
        refine G_goto g (pc := 151) 155 d_M_readStation_151 (by decide) ?_
        refine G_iconst g (pc := 155) (1 : Int32) d_M_readStation_155 rfl ?_
        refine G_cVV g (pc := 156) (As := [.int (b2i true), .int (1 : Int32)]) (st := []) cc_M_285 (c_M_check l hw true (1 : Int32) M41) (hw.mm 145 (Nat.le_of_ble_eq_true rfl) (Nat.le_of_ble_eq_true rfl)) (hw.k (zk145 rr)) rfl (by decide) rfl ⟨(Nat.le_of_ble_eq_true rfl), (Nat.le_of_ble_eq_true rfl)⟩ ⟨(Nat.le_of_ble_eq_true rfl), (Nat.le_of_ble_eq_true rfl)⟩ (Nat.le_of_ble_eq_true rfl) d_M_readStation_156 (fun M43 => ?_)
        exact G_return g (pc := 159) hret (Nat.le_of_ble_eq_true rfl) (Nat.le_of_ble_eq_true rfl) d_M_readStation_159
      · refine G_iconst g (pc := 154) (0 : Int32) d_M_readStation_154 rfl ?_
        refine G_iconst g (pc := 155) (1 : Int32) d_M_readStation_155 rfl ?_
        refine G_cVV g (pc := 156) (As := [.int (b2i false), .int (1 : Int32)]) (st := []) cc_M_285 (c_M_check l hw false (1 : Int32) M41) (hw.mm 145 (Nat.le_of_ble_eq_true rfl) (Nat.le_of_ble_eq_true rfl)) (hw.k (zk145 rr)) rfl (by decide) rfl ⟨(Nat.le_of_ble_eq_true rfl), (Nat.le_of_ble_eq_true rfl)⟩ ⟨(Nat.le_of_ble_eq_true rfl), (Nat.le_of_ble_eq_true rfl)⟩ (Nat.le_of_ble_eq_true rfl) d_M_readStation_156 (fun M45 => ?_)
        exact G_return g (pc := 159) hret (Nat.le_of_ble_eq_true rfl) (Nat.le_of_ble_eq_true rfl) d_M_readStation_159
    · refine G_iconst g (pc := 150) (1 : Int32) d_M_readStation_150 rfl ?_
      refine G_goto g (pc := 151) 155 d_M_readStation_151 (by decide) ?_
      refine G_iconst g (pc := 155) (1 : Int32) d_M_readStation_155 rfl ?_
      refine G_cVV g (pc := 156) (As := [.int (b2i true), .int (1 : Int32)]) (st := []) cc_M_285 (c_M_check l hw true (1 : Int32) M41) (hw.mm 145 (Nat.le_of_ble_eq_true rfl) (Nat.le_of_ble_eq_true rfl)) (hw.k (zk145 rr)) rfl (by decide) rfl ⟨(Nat.le_of_ble_eq_true rfl), (Nat.le_of_ble_eq_true rfl)⟩ ⟨(Nat.le_of_ble_eq_true rfl), (Nat.le_of_ble_eq_true rfl)⟩ (Nat.le_of_ble_eq_true rfl) d_M_readStation_156 (fun M47 => ?_)
      exact G_return g (pc := 159) hret (Nat.le_of_ble_eq_true rfl) (Nat.le_of_ble_eq_true rfl) d_M_readStation_159
  · show Go p0 l e _ s m args below meth c w _ _ _ _ (lp_M_readStation_72 N rr x7 x9 (Nl72 + 1) v72 M k72) 72 _ _ M
    unfold lp_M_readStation_72
    refine G_aload_n g (pc := 72) 0 d_M_readStation_72 rfl rfl ?_
    refine G_get g (pc := 73) fa_M_259 (hw.mm 145 (Nat.le_of_ble_eq_true rfl) (Nat.le_of_ble_eq_true rfl)) (hw.k (zk145 rr)) d_M_readStation_73 ?_
    refine G_if_ne g (pc := 76) 94 d_M_readStation_76 (by decide) ?_ ?_
    · refine G_aload_n g (pc := 79) 0 d_M_readStation_79 rfl rfl ?_
      refine G_get g (pc := 80) fa_M_250 (hw.mm 145 (Nat.le_of_ble_eq_true rfl) (Nat.le_of_ble_eq_true rfl)) (hw.k (zk145 rr)) d_M_readStation_80 ?_
      refine G_iconst g (pc := 83) (2 : Int32) d_M_readStation_83 rfl ?_
      refine G_icmp_ne g (pc := 84) 94 d_M_readStation_84 (by decide) ?_ ?_
      · refine G_aload_n g (pc := 87) 0 d_M_readStation_87 rfl rfl ?_
        refine G_cVV g (pc := 88) (As := []) (st := []) cc_M_315 (c_M_readGust l N hw M) (hw.mm 145 (Nat.le_of_ble_eq_true rfl) (Nat.le_of_ble_eq_true rfl)) (hw.k (zk145 rr)) rfl (by decide) rfl ⟨(Nat.le_of_ble_eq_true rfl), (Nat.le_of_ble_eq_true rfl)⟩ ⟨(Nat.le_of_ble_eq_true rfl), (Nat.le_of_ble_eq_true rfl)⟩ (Nat.le_of_ble_eq_true rfl) d_M_readStation_88 (fun M26 => ?_)
        refine G_goto g (pc := 91) 72 d_M_readStation_91 (by decide) ?_
        refine G_sub [0, 1, 2] _ rfl ?_
        exact ih72 () M26
      · refine G_sub [0, 1, 2] _ rfl ?_
        exact hk72 () M
    · refine G_sub [0, 1, 2] _ rfl ?_
      exact hk72 () M
