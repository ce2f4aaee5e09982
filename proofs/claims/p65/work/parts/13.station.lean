theorem d_T_gustOf_0 : decode b_T_gustOf 0 = .ok (.aload_n 0, 1) := by decide +kernel
theorem d_T_gustOf_1 : decode b_T_gustOf 1 = .ok (.getfield 22, 3) := by decide +kernel
theorem d_T_gustOf_4 : decode b_T_gustOf 4 = .ok (.ifCond .le 19, 3) := by decide +kernel
theorem d_T_gustOf_7 : decode b_T_gustOf 7 = .ok (.aload_n 0, 1) := by decide +kernel
theorem d_T_gustOf_8 : decode b_T_gustOf 8 = .ok (.getfield 18, 3) := by decide +kernel
theorem d_T_gustOf_11 : decode b_T_gustOf 11 = .ok (.iload_n 1, 1) := by decide +kernel
theorem d_T_gustOf_12 : decode b_T_gustOf 12 = .ok (.aload_n 0, 1) := by decide +kernel
theorem d_T_gustOf_13 : decode b_T_gustOf 13 = .ok (.getfield 22, 3) := by decide +kernel
theorem d_T_gustOf_16 : decode b_T_gustOf 16 = .ok (.irem, 1) := by decide +kernel
theorem d_T_gustOf_17 : decode b_T_gustOf 17 = .ok (.invokestatic 91, 3) := by decide +kernel
theorem d_T_gustOf_20 : decode b_T_gustOf 20 = .ok (.goto 4, 3) := by decide +kernel
theorem d_T_gustOf_23 : decode b_T_gustOf 23 = .ok (.iconst 0, 1) := by decide +kernel
theorem d_T_gustOf_24 : decode b_T_gustOf 24 = .ok (.ireturn, 1) := by decide +kernel
theorem cc_T_91 : CSN "KiteLogger$Station" 91 "KiteLogger" y_G_valueAt b_G_valueAt 2 (some .int) 2 := ⟨NW_in (i := 914) (by decide +kernel) (by decide +kernel), TT_in (i := 788) (by decide +kernel) (by decide +kernel), TT_in (i := 18) (by decide +kernel) (by decide +kernel), TT_in (i := 789) (by decide +kernel) (by decide +kernel), ⟨by decide +kernel, by decide +kernel, by decide +kernel⟩⟩
def f_T_gustOf (p : Nat) (a1 : Int32) (M : Mem) : Option (Int32 × Mem) :=
  if 0 < (M p 2) then (grd (nzB (M p 2)) (bnd (f_G_valueAt (p + 2) (irm a1 (M p 2)) M) fun (x1 : Int32) (M2 : Mem) => some (x1, M2))) else (some ((0 : Int32), M))
set_option maxHeartbeats 4000000 in
set_option maxRecDepth 100000 in
theorem c_T_gustOf (l : Launch) {w : Wc} {rr : Nat} (hw : WK w rr) (p : Nat) (hp : p ∈ stL) (a1 : Int32) (M : Mem) : Ct QI l y_T_gustOf b_T_gustOf 2 (some .int) (rmL 1) w [.ref (wad w p), .int a1] M (f_T_gustOf p a1 M) := by
  refine Ct.go (by decide) (L := [(0, .ref (wad w p)), (1, .int a1)]) rfl (Nat.le_of_ble_eq_true rfl) (fun p0 e s m args below meth c g hret => ?_)
  unfold f_T_gustOf
  refine G_aload_n g (pc := 0) 0 d_T_gustOf_0 rfl rfl ?_
  refine G_get g (pc := 1) fa_T_22 (hw.m _ (st_lt0 hp)) (hw.k (st_lt0 hp) (st_k0 hp)) d_T_gustOf_1 ?_
  refine G_if_le g (pc := 4) 23 d_T_gustOf_4 (by decide) ?_ ?_
  · refine G_aload_n g (pc := 7) 0 d_T_gustOf_7 rfl rfl ?_
    refine G_getR g (pc := 8) fa_T_18 (hw.m _ (st_lt0 hp)) (hw.k (st_lt0 hp) (st_k0 hp)) (hw.r (st_lt0 hp) (st_r0_1 hp rr)) d_T_gustOf_8 ?_
    refine G_iload_n g (pc := 11) 1 d_T_gustOf_11 rfl rfl ?_
    refine G_aload_n g (pc := 12) 0 d_T_gustOf_12 rfl rfl ?_
    refine G_get g (pc := 13) fa_T_22 (hw.m _ (st_lt0 hp)) (hw.k (st_lt0 hp) (st_k0 hp)) d_T_gustOf_13 ?_
    refine G_irem g (pc := 16) d_T_gustOf_16 ?_
    refine G_cSNI g (pc := 17) (As := [.ref (wad w (p + 2)), .int (irm a1 (M p 2))]) (st := []) cc_T_91 (c_G_valueAt l hw (p + 2) (hw.m _ (st_lt2 hp)) (hw.k (st_lt2 hp) (st_k2 hp)) (st_lt2 hp) (irm a1 (M p 2)) M) rfl ⟨(Nat.le_of_ble_eq_true rfl), (Nat.le_of_ble_eq_true rfl)⟩ ⟨(Nat.le_of_ble_eq_true rfl), (Nat.le_of_ble_eq_true rfl)⟩ (Nat.le_of_ble_eq_true rfl) d_T_gustOf_17 (fun x1 M2 => ?_)
    refine G_goto g (pc := 20) 24 d_T_gustOf_20 (by decide) ?_
    exact G_ireturn g (pc := 24) hret (Nat.le_of_ble_eq_true rfl) (Nat.le_of_ble_eq_true rfl) d_T_gustOf_24
  · refine G_iconst g (pc := 23) (0 : Int32) d_T_gustOf_23 rfl ?_
    exact G_ireturn g (pc := 24) hret (Nat.le_of_ble_eq_true rfl) (Nat.le_of_ble_eq_true rfl) d_T_gustOf_24

theorem d_T_greatestGust_0 : decode b_T_greatestGust 0 = .ok (.iconst 0, 1) := by decide +kernel
theorem d_T_greatestGust_1 : decode b_T_greatestGust 1 = .ok (.istore_n 1, 1) := by decide +kernel
theorem d_T_greatestGust_2 : decode b_T_greatestGust 2 = .ok (.iconst 0, 1) := by decide +kernel
theorem d_T_greatestGust_3 : decode b_T_greatestGust 3 = .ok (.istore_n 2, 1) := by decide +kernel
theorem d_T_greatestGust_4 : decode b_T_greatestGust 4 = .ok (.iload_n 2, 1) := by decide +kernel
theorem d_T_greatestGust_5 : decode b_T_greatestGust 5 = .ok (.aload_n 0, 1) := by decide +kernel
theorem d_T_greatestGust_6 : decode b_T_greatestGust 6 = .ok (.getfield 22, 3) := by decide +kernel
theorem d_T_greatestGust_9 : decode b_T_greatestGust 9 = .ok (.if_icmp .ge 22, 3) := by decide +kernel
theorem d_T_greatestGust_12 : decode b_T_greatestGust 12 = .ok (.iload_n 1, 1) := by decide +kernel
theorem d_T_greatestGust_13 : decode b_T_greatestGust 13 = .ok (.aload_n 0, 1) := by decide +kernel
theorem d_T_greatestGust_14 : decode b_T_greatestGust 14 = .ok (.getfield 18, 3) := by decide +kernel
theorem d_T_greatestGust_17 : decode b_T_greatestGust 17 = .ok (.iload_n 2, 1) := by decide +kernel
theorem d_T_greatestGust_18 : decode b_T_greatestGust 18 = .ok (.invokestatic 91, 3) := by decide +kernel
theorem d_T_greatestGust_21 : decode b_T_greatestGust 21 = .ok (.invokestatic 95, 3) := by decide +kernel
theorem d_T_greatestGust_24 : decode b_T_greatestGust 24 = .ok (.istore_n 1, 1) := by decide +kernel
theorem d_T_greatestGust_25 : decode b_T_greatestGust 25 = .ok (.iinc 2 1, 3) := by decide +kernel
theorem d_T_greatestGust_28 : decode b_T_greatestGust 28 = .ok (.goto (-24), 3) := by decide +kernel
theorem d_T_greatestGust_31 : decode b_T_greatestGust 31 = .ok (.iload_n 1, 1) := by decide +kernel
theorem d_T_greatestGust_32 : decode b_T_greatestGust 32 = .ok (.ireturn, 1) := by decide +kernel
theorem ma_T_95 : Cond.methodLink "KiteLogger$Station" 95 Lib.Math.max.name ∈ TT ∧ Cond.static Lib.Math.max.name ∈ TT ∧ Cond.initialized "java/lang/Math" ∈ TT ∧ Cond.code Lib.Math.max.name Lib.Math.max.code 2 (some .int) ∈ TT := ⟨TT_in (i := 915) (by decide +kernel) (by decide +kernel), TT_in (i := 255) (by decide +kernel) (by decide +kernel), TT_in (i := 21) (by decide +kernel) (by decide +kernel), TT_in (i := 256) (by decide +kernel) (by decide +kernel)⟩
def lp_T_greatestGust_4 (N0 rr : Nat) (p : Nat)  : Nat → Int32 × Int32 → Mem → (Int32 × Int32 → Mem → Option (Int32 × Mem)) → Option (Int32 × Mem)
  | 0, _, _, _ => none
  | N + 1, v4, M, k4 => if v4.2 < (M p 2) then (bnd (f_G_valueAt (p + 2) v4.2 M) fun (x1 : Int32) (M2 : Mem) => nm (imax v4.1 x1) fun (x3 : Int32) => nm (v4.2 + (1 : Int32)) fun (x4 : Int32) => lp_T_greatestGust_4 N0 rr p N (x3, x4) M2 k4) else (k4 (v4.1, v4.2) M)
def f_T_greatestGust (N : Nat) (rr : Nat) (p : Nat) (M : Mem) : Option (Int32 × Mem) :=
  lp_T_greatestGust_4 N rr p N ((0 : Int32), (0 : Int32)) M (fun (a6 : Int32 × Int32) (M5 : Mem) => some (a6.1, M5))
set_option maxHeartbeats 4000000 in
set_option maxRecDepth 100000 in
theorem c_T_greatestGust (l : Launch) (N : Nat) {w : Wc} {rr : Nat} (hw : WK w rr) (p : Nat) (hp : p ∈ stL) (M : Mem) : Ct QI l y_T_greatestGust b_T_greatestGust 3 (some .int) (rmL 1) w [.ref (wad w p)] M (f_T_greatestGust N rr p M) := by
  refine Ct.go (by decide) (L := [(0, .ref (wad w p))]) rfl (Nat.le_of_ble_eq_true rfl) (fun p0 e s m args below meth c g hret => ?_)
  unfold f_T_greatestGust
  refine G_iconst g (pc := 0) (0 : Int32) d_T_greatestGust_0 rfl ?_
  refine G_istore_n g (pc := 1) _ d_T_greatestGust_1 rfl (Nat.le_of_ble_eq_true rfl) rfl ?_
  refine G_iconst g (pc := 2) (0 : Int32) d_T_greatestGust_2 rfl ?_
  refine G_istore_n g (pc := 3) _ d_T_greatestGust_3 rfl (Nat.le_of_ble_eq_true rfl) rfl ?_
  refine G_sub [2, 1, 0] _ rfl ?_
  refine G_loop (F := lp_T_greatestGust_4 N rr p) 4 31 (fun (v4 : Int32 × Int32) => [(0, .ref (wad w p)), (1, .int v4.1), (2, .int v4.2)]) (fun (v4 : Int32 × Int32) => [(0, .ref (wad w p)), (1, .int v4.1), (2, .int v4.2)]) (fun _ _ _ => rfl) (fun a6 M5 => ?_) (fun k4 hk4 Nl4 ih4 v4 M => ?_) N ((0 : Int32), (0 : Int32)) M
  · refine G_iload_n g (pc := 31) 1 d_T_greatestGust_31 rfl rfl ?_
    exact G_ireturn g (pc := 32) hret (Nat.le_of_ble_eq_true rfl) (Nat.le_of_ble_eq_true rfl) d_T_greatestGust_32
  · show Go p0 l e _ s m args below meth c w _ _ _ _ (lp_T_greatestGust_4 N rr p (Nl4 + 1) v4 M k4) 4 _ _ M
    unfold lp_T_greatestGust_4
    refine G_iload_n g (pc := 4) 2 d_T_greatestGust_4 rfl rfl ?_
    refine G_aload_n g (pc := 5) 0 d_T_greatestGust_5 rfl rfl ?_
    refine G_get g (pc := 6) fa_T_22 (hw.m _ (st_lt0 hp)) (hw.k (st_lt0 hp) (st_k0 hp)) d_T_greatestGust_6 ?_
    refine G_icmp_ge g (pc := 9) 31 d_T_greatestGust_9 (by decide) ?_ ?_
    · refine G_iload_n g (pc := 12) 1 d_T_greatestGust_12 rfl rfl ?_
      refine G_aload_n g (pc := 13) 0 d_T_greatestGust_13 rfl rfl ?_
      refine G_getR g (pc := 14) fa_T_18 (hw.m _ (st_lt0 hp)) (hw.k (st_lt0 hp) (st_k0 hp)) (hw.r (st_lt0 hp) (st_r0_1 hp rr)) d_T_greatestGust_14 ?_
      refine G_iload_n g (pc := 17) 2 d_T_greatestGust_17 rfl rfl ?_
      refine G_cSNI g (pc := 18) (As := [.ref (wad w (p + 2)), .int v4.2]) (st := [.int v4.1]) cc_T_91 (c_G_valueAt l hw (p + 2) (hw.m _ (st_lt2 hp)) (hw.k (st_lt2 hp) (st_k2 hp)) (st_lt2 hp) v4.2 M) rfl ⟨(Nat.le_of_ble_eq_true rfl), (Nat.le_of_ble_eq_true rfl)⟩ ⟨(Nat.le_of_ble_eq_true rfl), (Nat.le_of_ble_eq_true rfl)⟩ (Nat.le_of_ble_eq_true rfl) d_T_greatestGust_18 (fun x1 M2 => ?_)
      refine G_mmax g (pc := 21) ma_T_95 ⟨(Nat.le_of_ble_eq_true rfl), (Nat.le_of_ble_eq_true rfl), (Nat.le_of_ble_eq_true rfl), (Nat.le_of_ble_eq_true rfl)⟩ d_T_greatestGust_21 ?_
      refine G_nmI (fun x3 => ?_)
      refine G_istore_n g (pc := 24) _ d_T_greatestGust_24 rfl (Nat.le_of_ble_eq_true rfl) rfl ?_
      refine G_nmX (v4.2 + (1 : Int32)) (fun x4 e_x4 => ?_)
      refine G_iinc g (pc := 25) x4 _ 2 d_T_greatestGust_25 rfl e_x4.symm (Nat.le_of_ble_eq_true rfl) rfl ?_
      refine G_goto g (pc := 28) 4 d_T_greatestGust_28 (by decide) ?_
      refine G_sub [2, 1, 0] _ rfl ?_
      exact ih4 (x3, x4) M2
    · refine G_sub [0, 1, 2] _ rfl ?_
      exact hk4 (v4.1, v4.2) M

theorem d_T_obstacle_0 : decode b_T_obstacle 0 = .ok (.aload_n 0, 1) := by decide +kernel
theorem d_T_obstacle_1 : decode b_T_obstacle 1 = .ok (.getfield 12, 3) := by decide +kernel
theorem d_T_obstacle_4 : decode b_T_obstacle 4 = .ok (.getfield 101, 3) := by decide +kernel
theorem d_T_obstacle_7 : decode b_T_obstacle 7 = .ok (.iconst 1, 1) := by decide +kernel
theorem d_T_obstacle_8 : decode b_T_obstacle 8 = .ok (.if_icmp .ne 5, 3) := by decide +kernel
theorem d_T_obstacle_11 : decode b_T_obstacle 11 = .ok (.iconst 1, 1) := by decide +kernel
theorem d_T_obstacle_12 : decode b_T_obstacle 12 = .ok (.ireturn, 1) := by decide +kernel
theorem d_T_obstacle_13 : decode b_T_obstacle 13 = .ok (.aload_n 0, 1) := by decide +kernel
theorem d_T_obstacle_14 : decode b_T_obstacle 14 = .ok (.getfield 12, 3) := by decide +kernel
theorem d_T_obstacle_17 : decode b_T_obstacle 17 = .ok (.getfield 101, 3) := by decide +kernel
theorem d_T_obstacle_20 : decode b_T_obstacle 20 = .ok (.iconst 2, 1) := by decide +kernel
theorem d_T_obstacle_21 : decode b_T_obstacle 21 = .ok (.if_icmp .ne 5, 3) := by decide +kernel
theorem d_T_obstacle_24 : decode b_T_obstacle 24 = .ok (.iconst 2, 1) := by decide +kernel
theorem d_T_obstacle_25 : decode b_T_obstacle 25 = .ok (.ireturn, 1) := by decide +kernel
theorem d_T_obstacle_26 : decode b_T_obstacle 26 = .ok (.aload_n 0, 1) := by decide +kernel
theorem d_T_obstacle_27 : decode b_T_obstacle 27 = .ok (.getfield 12, 3) := by decide +kernel
theorem d_T_obstacle_30 : decode b_T_obstacle 30 = .ok (.getfield 104, 3) := by decide +kernel
theorem d_T_obstacle_33 : decode b_T_obstacle 33 = .ok (.bipush 10, 2) := by decide +kernel
theorem d_T_obstacle_35 : decode b_T_obstacle 35 = .ok (.if_icmp .ge 5, 3) := by decide +kernel
theorem d_T_obstacle_38 : decode b_T_obstacle 38 = .ok (.iconst 3, 1) := by decide +kernel
theorem d_T_obstacle_39 : decode b_T_obstacle 39 = .ok (.ireturn, 1) := by decide +kernel
theorem d_T_obstacle_40 : decode b_T_obstacle 40 = .ok (.aload_n 0, 1) := by decide +kernel
theorem d_T_obstacle_41 : decode b_T_obstacle 41 = .ok (.aload_n 0, 1) := by decide +kernel
theorem d_T_obstacle_42 : decode b_T_obstacle 42 = .ok (.getfield 48, 3) := by decide +kernel
theorem d_T_obstacle_45 : decode b_T_obstacle 45 = .ok (.invokevirtual 107, 3) := by decide +kernel
theorem d_T_obstacle_48 : decode b_T_obstacle 48 = .ok (.iconst 5, 1) := by decide +kernel
theorem d_T_obstacle_49 : decode b_T_obstacle 49 = .ok (.if_icmp .ge 7, 3) := by decide +kernel
theorem d_T_obstacle_52 : decode b_T_obstacle 52 = .ok (.iconst 4, 1) := by decide +kernel
theorem d_T_obstacle_53 : decode b_T_obstacle 53 = .ok (.goto 4, 3) := by decide +kernel
theorem d_T_obstacle_56 : decode b_T_obstacle 56 = .ok (.iconst 0, 1) := by decide +kernel
theorem d_T_obstacle_57 : decode b_T_obstacle 57 = .ok (.ireturn, 1) := by decide +kernel
theorem cc_T_107 : CV "KiteLogger$Station" 107 y_T_gustOf b_T_gustOf 2 (some .int) 1 := ⟨TT_in (i := 928) (by decide +kernel) (by decide +kernel), TT_in (i := 929) (by decide +kernel) (by decide +kernel), TT_in (i := 930) (by decide +kernel) (by decide +kernel), TT_in (i := 24) (by decide +kernel) (by decide +kernel), TT_in (i := 931) (by decide +kernel) (by decide +kernel), ⟨by decide +kernel, by decide +kernel, by decide +kernel⟩⟩
def f_T_obstacle (p : Nat) (M : Mem) : Option (Int32 × Mem) :=
  if (M (p + 1) 0) = (1 : Int32) then (some ((1 : Int32), M)) else (if (M (p + 1) 0) = (2 : Int32) then (some ((2 : Int32), M)) else (if (M (p + 1) 2) < (10 : Int32) then (some ((3 : Int32), M)) else (bnd (f_T_gustOf p (M p 7) M) fun (x1 : Int32) (M2 : Mem) => if x1 < (5 : Int32) then (some ((4 : Int32), M2)) else (some ((0 : Int32), M2)))))
set_option maxHeartbeats 4000000 in
set_option maxRecDepth 100000 in
theorem c_T_obstacle (l : Launch) {w : Wc} {rr : Nat} (hw : WK w rr) (p : Nat) (hp : p ∈ stL) (M : Mem) : Ct QI l y_T_obstacle b_T_obstacle 1 (some .int) (rmL 2) w [.ref (wad w p)] M (f_T_obstacle p M) := by
  refine Ct.go (by decide) (L := [(0, .ref (wad w p))]) rfl (Nat.le_of_ble_eq_true rfl) (fun p0 e s m args below meth c g hret => ?_)
  unfold f_T_obstacle
  refine G_aload_n g (pc := 0) 0 d_T_obstacle_0 rfl rfl ?_
  refine G_getR g (pc := 1) fa_T_12 (hw.m _ (st_lt0 hp)) (hw.k (st_lt0 hp) (st_k0 hp)) (hw.r (st_lt0 hp) (st_r0_0 hp rr)) d_T_obstacle_1 ?_
  refine G_getN g (pc := 4) fa_T_101 (hw.m _ (st_lt1 hp)) (hw.k (st_lt1 hp) (st_k1 hp)) d_T_obstacle_4 ?_
  refine G_iconst g (pc := 7) (1 : Int32) d_T_obstacle_7 rfl ?_
  refine G_icmp_ne g (pc := 8) 13 d_T_obstacle_8 (by decide) ?_ ?_
  · refine G_iconst g (pc := 11) (1 : Int32) d_T_obstacle_11 rfl ?_
    exact G_ireturn g (pc := 12) hret (Nat.le_of_ble_eq_true rfl) (Nat.le_of_ble_eq_true rfl) d_T_obstacle_12
  · refine G_aload_n g (pc := 13) 0 d_T_obstacle_13 rfl rfl ?_
    refine G_getR g (pc := 14) fa_T_12 (hw.m _ (st_lt0 hp)) (hw.k (st_lt0 hp) (st_k0 hp)) (hw.r (st_lt0 hp) (st_r0_0 hp rr)) d_T_obstacle_14 ?_
    refine G_getN g (pc := 17) fa_T_101 (hw.m _ (st_lt1 hp)) (hw.k (st_lt1 hp) (st_k1 hp)) d_T_obstacle_17 ?_
    refine G_iconst g (pc := 20) (2 : Int32) d_T_obstacle_20 rfl ?_
    refine G_icmp_ne g (pc := 21) 26 d_T_obstacle_21 (by decide) ?_ ?_
    · refine G_iconst g (pc := 24) (2 : Int32) d_T_obstacle_24 rfl ?_
      exact G_ireturn g (pc := 25) hret (Nat.le_of_ble_eq_true rfl) (Nat.le_of_ble_eq_true rfl) d_T_obstacle_25
    · refine G_aload_n g (pc := 26) 0 d_T_obstacle_26 rfl rfl ?_
      refine G_getR g (pc := 27) fa_T_12 (hw.m _ (st_lt0 hp)) (hw.k (st_lt0 hp) (st_k0 hp)) (hw.r (st_lt0 hp) (st_r0_0 hp rr)) d_T_obstacle_27 ?_
      refine G_getN g (pc := 30) fa_T_104 (hw.m _ (st_lt1 hp)) (hw.k (st_lt1 hp) (st_k1 hp)) d_T_obstacle_30 ?_
      refine G_bipush g (pc := 33) (10 : Int32) d_T_obstacle_33 rfl ?_
      refine G_icmp_ge g (pc := 35) 40 d_T_obstacle_35 (by decide) ?_ ?_
      · refine G_iconst g (pc := 38) (3 : Int32) d_T_obstacle_38 rfl ?_
        exact G_ireturn g (pc := 39) hret (Nat.le_of_ble_eq_true rfl) (Nat.le_of_ble_eq_true rfl) d_T_obstacle_39
      · refine G_aload_n g (pc := 40) 0 d_T_obstacle_40 rfl rfl ?_
        refine G_aload_n g (pc := 41) 0 d_T_obstacle_41 rfl rfl ?_
        refine G_get g (pc := 42) fa_T_48 (hw.m _ (st_lt0 hp)) (hw.k (st_lt0 hp) (st_k0 hp)) d_T_obstacle_42 ?_
        refine G_cVI g (pc := 45) (As := [.int (M p 7)]) (st := []) cc_T_107 (c_T_gustOf l hw p hp (M p 7) M) (hw.m _ (st_lt0 hp)) (hw.k (st_lt0 hp) (st_k0 hp)) rfl (by decide) rfl ⟨(Nat.le_of_ble_eq_true rfl), (Nat.le_of_ble_eq_true rfl)⟩ ⟨(Nat.le_of_ble_eq_true rfl), (Nat.le_of_ble_eq_true rfl)⟩ (Nat.le_of_ble_eq_true rfl) d_T_obstacle_45 (fun x1 M2 => ?_)
        refine G_iconst g (pc := 48) (5 : Int32) d_T_obstacle_48 rfl ?_
        refine G_icmp_ge g (pc := 49) 56 d_T_obstacle_49 (by decide) ?_ ?_
        · refine G_iconst g (pc := 52) (4 : Int32) d_T_obstacle_52 rfl ?_
          refine G_goto g (pc := 53) 57 d_T_obstacle_53 (by decide) ?_
          exact G_ireturn g (pc := 57) hret (Nat.le_of_ble_eq_true rfl) (Nat.le_of_ble_eq_true rfl) d_T_obstacle_57
        · refine G_iconst g (pc := 56) (0 : Int32) d_T_obstacle_56 rfl ?_
          exact G_ireturn g (pc := 57) hret (Nat.le_of_ble_eq_true rfl) (Nat.le_of_ble_eq_true rfl) d_T_obstacle_57

theorem d_T_hasBadNumber_0 : decode b_T_hasBadNumber 0 = .ok (.iload_n 0, 1) := by decide +kernel
theorem d_T_hasBadNumber_1 : decode b_T_hasBadNumber 1 = .ok (.tableswitch 105 2 8 #[43, 43, 52, 80, 88, 105, 97], 43) := by decide +kernel
theorem d_T_hasBadNumber_44 : decode b_T_hasBadNumber 44 = .ok (.iload_n 1, 1) := by decide +kernel
theorem d_T_hasBadNumber_45 : decode b_T_hasBadNumber 45 = .ok (.iconst 1, 1) := by decide +kernel
theorem d_T_hasBadNumber_46 : decode b_T_hasBadNumber 46 = .ok (.sipush 200, 3) := by decide +kernel
theorem d_T_hasBadNumber_49 : decode b_T_hasBadNumber 49 = .ok (.invokestatic 119, 3) := by decide +kernel
theorem d_T_hasBadNumber_52 : decode b_T_hasBadNumber 52 = .ok (.ireturn, 1) := by decide +kernel
theorem d_T_hasBadNumber_53 : decode b_T_hasBadNumber 53 = .ok (.iload_n 1, 1) := by decide +kernel
theorem d_T_hasBadNumber_54 : decode b_T_hasBadNumber 54 = .ok (.iconst 1, 1) := by decide +kernel
theorem d_T_hasBadNumber_55 : decode b_T_hasBadNumber 55 = .ok (.sipush 999, 3) := by decide +kernel
theorem d_T_hasBadNumber_58 : decode b_T_hasBadNumber 58 = .ok (.invokestatic 119, 3) := by decide +kernel
theorem d_T_hasBadNumber_61 : decode b_T_hasBadNumber 61 = .ok (.ifCond .ne 14, 3) := by decide +kernel
theorem d_T_hasBadNumber_64 : decode b_T_hasBadNumber 64 = .ok (.iload_n 2, 1) := by decide +kernel
theorem d_T_hasBadNumber_65 : decode b_T_hasBadNumber 65 = .ok (.iconst 1, 1) := by decide +kernel
theorem d_T_hasBadNumber_66 : decode b_T_hasBadNumber 66 = .ok (.sipush 9999, 3) := by decide +kernel
theorem d_T_hasBadNumber_69 : decode b_T_hasBadNumber 69 = .ok (.invokestatic 119, 3) := by decide +kernel
theorem d_T_hasBadNumber_72 : decode b_T_hasBadNumber 72 = .ok (.ifCond .eq 7, 3) := by decide +kernel
theorem d_T_hasBadNumber_75 : decode b_T_hasBadNumber 75 = .ok (.iconst 1, 1) := by decide +kernel
theorem d_T_hasBadNumber_76 : decode b_T_hasBadNumber 76 = .ok (.goto 4, 3) := by decide +kernel
theorem d_T_hasBadNumber_79 : decode b_T_hasBadNumber 79 = .ok (.iconst 0, 1) := by decide +kernel
theorem d_T_hasBadNumber_80 : decode b_T_hasBadNumber 80 = .ok (.ireturn, 1) := by decide +kernel
theorem d_T_hasBadNumber_81 : decode b_T_hasBadNumber 81 = .ok (.iload_n 1, 1) := by decide +kernel
theorem d_T_hasBadNumber_82 : decode b_T_hasBadNumber 82 = .ok (.iconst 1, 1) := by decide +kernel
theorem d_T_hasBadNumber_83 : decode b_T_hasBadNumber 83 = .ok (.bipush 20, 2) := by decide +kernel
theorem d_T_hasBadNumber_85 : decode b_T_hasBadNumber 85 = .ok (.invokestatic 119, 3) := by decide +kernel
theorem d_T_hasBadNumber_88 : decode b_T_hasBadNumber 88 = .ok (.ireturn, 1) := by decide +kernel
theorem d_T_hasBadNumber_89 : decode b_T_hasBadNumber 89 = .ok (.iload_n 1, 1) := by decide +kernel
theorem d_T_hasBadNumber_90 : decode b_T_hasBadNumber 90 = .ok (.iconst 0, 1) := by decide +kernel
theorem d_T_hasBadNumber_91 : decode b_T_hasBadNumber 91 = .ok (.sipush 2200, 3) := by decide +kernel
theorem d_T_hasBadNumber_94 : decode b_T_hasBadNumber 94 = .ok (.invokestatic 119, 3) := by decide +kernel
theorem d_T_hasBadNumber_97 : decode b_T_hasBadNumber 97 = .ok (.ireturn, 1) := by decide +kernel
theorem d_T_hasBadNumber_98 : decode b_T_hasBadNumber 98 = .ok (.iload_n 1, 1) := by decide +kernel
theorem d_T_hasBadNumber_99 : decode b_T_hasBadNumber 99 = .ok (.iconst 1, 1) := by decide +kernel
theorem d_T_hasBadNumber_100 : decode b_T_hasBadNumber 100 = .ok (.bipush 60, 2) := by decide +kernel
theorem d_T_hasBadNumber_102 : decode b_T_hasBadNumber 102 = .ok (.invokestatic 119, 3) := by decide +kernel
theorem d_T_hasBadNumber_105 : decode b_T_hasBadNumber 105 = .ok (.ireturn, 1) := by decide +kernel
theorem d_T_hasBadNumber_106 : decode b_T_hasBadNumber 106 = .ok (.iconst 0, 1) := by decide +kernel
theorem d_T_hasBadNumber_107 : decode b_T_hasBadNumber 107 = .ok (.ireturn, 1) := by decide +kernel
theorem cc_T_119 : CSN "KiteLogger$Station" 119 "KiteLogger" y_G_isOutside b_G_isOutside 3 (some .boolean) 3 := ⟨NW_in (i := 1033) (by decide +kernel) (by decide +kernel), TT_in (i := 575) (by decide +kernel) (by decide +kernel), TT_in (i := 18) (by decide +kernel) (by decide +kernel), TT_in (i := 576) (by decide +kernel) (by decide +kernel), ⟨by decide +kernel, by decide +kernel, by decide +kernel⟩⟩
def f_T_hasBadNumber (a1 : Int32) (a2 : Int32) (a3 : Int32) (M : Mem) : Option (Bool × Mem) :=
  if a1 = (2 : Int32) then (bnd (f_G_isOutside a2 (1 : Int32) (200 : Int32) M) fun (x1 : Bool) (M2 : Mem) => some (x1, M2)) else (if a1 = (3 : Int32) then (bnd (f_G_isOutside a2 (1 : Int32) (200 : Int32) M) fun (x3 : Bool) (M4 : Mem) => some (x3, M4)) else (if a1 = (4 : Int32) then (bnd (f_G_isOutside a2 (1 : Int32) (999 : Int32) M) fun (x5 : Bool) (M6 : Mem) => if x5 = true then (some (true, M6)) else (bnd (f_G_isOutside a3 (1 : Int32) (9999 : Int32) M6) fun (x7 : Bool) (M8 : Mem) => if x7 = true then (some (true, M8)) else (some (false, M8)))) else (if a1 = (5 : Int32) then (bnd (f_G_isOutside a2 (1 : Int32) (20 : Int32) M) fun (x9 : Bool) (M10 : Mem) => some (x9, M10)) else (if a1 = (6 : Int32) then (bnd (f_G_isOutside a2 (0 : Int32) (2200 : Int32) M) fun (x11 : Bool) (M12 : Mem) => some (x11, M12)) else (if a1 = (8 : Int32) then (bnd (f_G_isOutside a2 (1 : Int32) (60 : Int32) M) fun (x13 : Bool) (M14 : Mem) => some (x13, M14)) else (if a1 = (7 : Int32) then (some (false, M)) else (some (false, M))))))))
set_option maxHeartbeats 4000000 in
set_option maxRecDepth 100000 in
theorem c_T_hasBadNumber (l : Launch) {w : Wc} {rr : Nat} (hw : WK w rr) (a1 : Int32) (a2 : Int32) (a3 : Int32) (M : Mem) : Ct QZ l y_T_hasBadNumber b_T_hasBadNumber 3 (some .boolean) (rmL 1) w [.int a1, .int a2, .int a3] M (f_T_hasBadNumber a1 a2 a3 M) := by
  refine Ct.go (by decide) (L := [(0, .int a1), (1, .int a2), (2, .int a3)]) rfl (Nat.le_of_ble_eq_true rfl) (fun p0 e s m args below meth c g hret => ?_)
  unfold f_T_hasBadNumber
  refine G_iload_n g (pc := 0) 0 d_T_hasBadNumber_0 rfl rfl ?_
  refine G_case (v := (2 : Int32)) ?_ (fun ne2 => ?_)
  · refine G_tabK g (pc := 1) 44 d_T_hasBadNumber_1 (by decide) (by decide) rfl (by decide) ?_
    refine G_iload_n g (pc := 44) 1 d_T_hasBadNumber_44 rfl rfl ?_
    refine G_iconst g (pc := 45) (1 : Int32) d_T_hasBadNumber_45 rfl ?_
    refine G_sipush g (pc := 46) (200 : Int32) d_T_hasBadNumber_46 rfl ?_
    refine G_cSNZ g (pc := 49) (As := [.int a2, .int (1 : Int32), .int (200 : Int32)]) (st := []) cc_T_119 (c_G_isOutside l hw a2 (1 : Int32) (200 : Int32) M) rfl ⟨(Nat.le_of_ble_eq_true rfl), (Nat.le_of_ble_eq_true rfl)⟩ ⟨(Nat.le_of_ble_eq_true rfl), (Nat.le_of_ble_eq_true rfl)⟩ (Nat.le_of_ble_eq_true rfl) d_T_hasBadNumber_49 (fun x1 M2 => ?_)
    exact G_zreturn g (pc := 52) x1 rfl hret (Nat.le_of_ble_eq_true rfl) (Nat.le_of_ble_eq_true rfl) d_T_hasBadNumber_52
  refine G_case (v := (3 : Int32)) ?_ (fun ne3 => ?_)
  · refine G_tabK g (pc := 1) 44 d_T_hasBadNumber_1 (by decide) (by decide) rfl (by decide) ?_
    refine G_iload_n g (pc := 44) 1 d_T_hasBadNumber_44 rfl rfl ?_
    refine G_iconst g (pc := 45) (1 : Int32) d_T_hasBadNumber_45 rfl ?_
    refine G_sipush g (pc := 46) (200 : Int32) d_T_hasBadNumber_46 rfl ?_
    refine G_cSNZ g (pc := 49) (As := [.int a2, .int (1 : Int32), .int (200 : Int32)]) (st := []) cc_T_119 (c_G_isOutside l hw a2 (1 : Int32) (200 : Int32) M) rfl ⟨(Nat.le_of_ble_eq_true rfl), (Nat.le_of_ble_eq_true rfl)⟩ ⟨(Nat.le_of_ble_eq_true rfl), (Nat.le_of_ble_eq_true rfl)⟩ (Nat.le_of_ble_eq_true rfl) d_T_hasBadNumber_49 (fun x3 M4 => ?_)
    exact G_zreturn g (pc := 52) x3 rfl hret (Nat.le_of_ble_eq_true rfl) (Nat.le_of_ble_eq_true rfl) d_T_hasBadNumber_52
  refine G_case (v := (4 : Int32)) ?_ (fun ne4 => ?_)
  · refine G_tabK g (pc := 1) 53 d_T_hasBadNumber_1 (by decide) (by decide) rfl (by decide) ?_
    refine G_iload_n g (pc := 53) 1 d_T_hasBadNumber_53 rfl rfl ?_
    refine G_iconst g (pc := 54) (1 : Int32) d_T_hasBadNumber_54 rfl ?_
    refine G_sipush g (pc := 55) (999 : Int32) d_T_hasBadNumber_55 rfl ?_
    refine G_cSNZ g (pc := 58) (As := [.int a2, .int (1 : Int32), .int (999 : Int32)]) (st := []) cc_T_119 (c_G_isOutside l hw a2 (1 : Int32) (999 : Int32) M) rfl ⟨(Nat.le_of_ble_eq_true rfl), (Nat.le_of_ble_eq_true rfl)⟩ ⟨(Nat.le_of_ble_eq_true rfl), (Nat.le_of_ble_eq_true rfl)⟩ (Nat.le_of_ble_eq_true rfl) d_T_hasBadNumber_58 (fun x5 M6 => ?_)
    refine G_if_neB g (pc := 61) 75 d_T_hasBadNumber_61 (by decide) ?_ ?_
    · refine G_iconst g (pc := 75) (1 : Int32) d_T_hasBadNumber_75 rfl ?_
      refine G_goto g (pc := 76) 80 d_T_hasBadNumber_76 (by decide) ?_
      exact G_zreturn g (pc := 80) true rfl hret (Nat.le_of_ble_eq_true rfl) (Nat.le_of_ble_eq_true rfl) d_T_hasBadNumber_80
    · refine G_iload_n g (pc := 64) 2 d_T_hasBadNumber_64 rfl rfl ?_
      refine G_iconst g (pc := 65) (1 : Int32) d_T_hasBadNumber_65 rfl ?_
      refine G_sipush g (pc := 66) (9999 : Int32) d_T_hasBadNumber_66 rfl ?_
      refine G_cSNZ g (pc := 69) (As := [.int a3, .int (1 : Int32), .int (9999 : Int32)]) (st := []) cc_T_119 (c_G_isOutside l hw a3 (1 : Int32) (9999 : Int32) M6) rfl ⟨(Nat.le_of_ble_eq_true rfl), (Nat.le_of_ble_eq_true rfl)⟩ ⟨(Nat.le_of_ble_eq_true rfl), (Nat.le_of_ble_eq_true rfl)⟩ (Nat.le_of_ble_eq_true rfl) d_T_hasBadNumber_69 (fun x7 M8 => ?_)
      refine G_if_eqB g (pc := 72) 79 d_T_hasBadNumber_72 (by decide) ?_ ?_
      · refine G_iconst g (pc := 75) (1 : Int32) d_T_hasBadNumber_75 rfl ?_
        refine G_goto g (pc := 76) 80 d_T_hasBadNumber_76 (by decide) ?_
        exact G_zreturn g (pc := 80) true rfl hret (Nat.le_of_ble_eq_true rfl) (Nat.le_of_ble_eq_true rfl) d_T_hasBadNumber_80
      · refine G_iconst g (pc := 79) (0 : Int32) d_T_hasBadNumber_79 rfl ?_
        exact G_zreturn g (pc := 80) false rfl hret (Nat.le_of_ble_eq_true rfl) (Nat.le_of_ble_eq_true rfl) d_T_hasBadNumber_80
  refine G_case (v := (5 : Int32)) ?_ (fun ne5 => ?_)
  · refine G_tabK g (pc := 1) 81 d_T_hasBadNumber_1 (by decide) (by decide) rfl (by decide) ?_
    refine G_iload_n g (pc := 81) 1 d_T_hasBadNumber_81 rfl rfl ?_
    refine G_iconst g (pc := 82) (1 : Int32) d_T_hasBadNumber_82 rfl ?_
    refine G_bipush g (pc := 83) (20 : Int32) d_T_hasBadNumber_83 rfl ?_
    refine G_cSNZ g (pc := 85) (As := [.int a2, .int (1 : Int32), .int (20 : Int32)]) (st := []) cc_T_119 (c_G_isOutside l hw a2 (1 : Int32) (20 : Int32) M) rfl ⟨(Nat.le_of_ble_eq_true rfl), (Nat.le_of_ble_eq_true rfl)⟩ ⟨(Nat.le_of_ble_eq_true rfl), (Nat.le_of_ble_eq_true rfl)⟩ (Nat.le_of_ble_eq_true rfl) d_T_hasBadNumber_85 (fun x9 M10 => ?_)
    exact G_zreturn g (pc := 88) x9 rfl hret (Nat.le_of_ble_eq_true rfl) (Nat.le_of_ble_eq_true rfl) d_T_hasBadNumber_88
  refine G_case (v := (6 : Int32)) ?_ (fun ne6 => ?_)
  · refine G_tabK g (pc := 1) 89 d_T_hasBadNumber_1 (by decide) (by decide) rfl (by decide) ?_
    refine G_iload_n g (pc := 89) 1 d_T_hasBadNumber_89 rfl rfl ?_
    refine G_iconst g (pc := 90) (0 : Int32) d_T_hasBadNumber_90 rfl ?_
    refine G_sipush g (pc := 91) (2200 : Int32) d_T_hasBadNumber_91 rfl ?_
    refine G_cSNZ g (pc := 94) (As := [.int a2, .int (0 : Int32), .int (2200 : Int32)]) (st := []) cc_T_119 (c_G_isOutside l hw a2 (0 : Int32) (2200 : Int32) M) rfl ⟨(Nat.le_of_ble_eq_true rfl), (Nat.le_of_ble_eq_true rfl)⟩ ⟨(Nat.le_of_ble_eq_true rfl), (Nat.le_of_ble_eq_true rfl)⟩ (Nat.le_of_ble_eq_true rfl) d_T_hasBadNumber_94 (fun x11 M12 => ?_)
    exact G_zreturn g (pc := 97) x11 rfl hret (Nat.le_of_ble_eq_true rfl) (Nat.le_of_ble_eq_true rfl) d_T_hasBadNumber_97
  refine G_case (v := (8 : Int32)) ?_ (fun ne8 => ?_)
  · refine G_tabK g (pc := 1) 98 d_T_hasBadNumber_1 (by decide) (by decide) rfl (by decide) ?_
    refine G_iload_n g (pc := 98) 1 d_T_hasBadNumber_98 rfl rfl ?_
    refine G_iconst g (pc := 99) (1 : Int32) d_T_hasBadNumber_99 rfl ?_
    refine G_bipush g (pc := 100) (60 : Int32) d_T_hasBadNumber_100 rfl ?_
    refine G_cSNZ g (pc := 102) (As := [.int a2, .int (1 : Int32), .int (60 : Int32)]) (st := []) cc_T_119 (c_G_isOutside l hw a2 (1 : Int32) (60 : Int32) M) rfl ⟨(Nat.le_of_ble_eq_true rfl), (Nat.le_of_ble_eq_true rfl)⟩ ⟨(Nat.le_of_ble_eq_true rfl), (Nat.le_of_ble_eq_true rfl)⟩ (Nat.le_of_ble_eq_true rfl) d_T_hasBadNumber_102 (fun x13 M14 => ?_)
    exact G_zreturn g (pc := 105) x13 rfl hret (Nat.le_of_ble_eq_true rfl) (Nat.le_of_ble_eq_true rfl) d_T_hasBadNumber_105
  refine G_case (v := (7 : Int32)) ?_ (fun ne7 => ?_)
  · refine G_tabK g (pc := 1) 106 d_T_hasBadNumber_1 (by decide) (by decide) rfl (by decide) ?_
    refine G_iconst g (pc := 106) (0 : Int32) d_T_hasBadNumber_106 rfl ?_
    exact G_zreturn g (pc := 107) false rfl hret (Nat.le_of_ble_eq_true rfl) (Nat.le_of_ble_eq_true rfl) d_T_hasBadNumber_107
  refine G_tabD g (pc := 1) 106 d_T_hasBadNumber_1 (by have q2 : ¬ a1.toInt = 2 := lv_neT ne2 rfl; have q3 : ¬ a1.toInt = 3 := lv_neT ne3 rfl; have q4 : ¬ a1.toInt = 4 := lv_neT ne4 rfl; have q5 : ¬ a1.toInt = 5 := lv_neT ne5 rfl; have q6 : ¬ a1.toInt = 6 := lv_neT ne6 rfl; have q7 : ¬ a1.toInt = 7 := lv_neT ne7 rfl; have q8 : ¬ a1.toInt = 8 := lv_neT ne8 rfl; omega) (by decide) ?_
  refine G_iconst g (pc := 106) (0 : Int32) d_T_hasBadNumber_106 rfl ?_
  exact G_zreturn g (pc := 107) false rfl hret (Nat.le_of_ble_eq_true rfl) (Nat.le_of_ble_eq_true rfl) d_T_hasBadNumber_107

theorem d_T_isForbidden_0 : decode b_T_isForbidden 0 = .ok (.iload_n 1, 1) := by decide +kernel
theorem d_T_isForbidden_1 : decode b_T_isForbidden 1 = .ok (.tableswitch 196 1 8 #[47, 60, 92, 109, 196, 125, 142, 178], 47) := by decide +kernel
theorem d_T_isForbidden_48 : decode b_T_isForbidden 48 = .ok (.aload_n 0, 1) := by decide +kernel
theorem d_T_isForbidden_49 : decode b_T_isForbidden 49 = .ok (.invokevirtual 122, 3) := by decide +kernel
theorem d_T_isForbidden_52 : decode b_T_isForbidden 52 = .ok (.ifCond .eq 7, 3) := by decide +kernel
theorem d_T_isForbidden_55 : decode b_T_isForbidden 55 = .ok (.iconst 1, 1) := by decide +kernel
theorem d_T_isForbidden_56 : decode b_T_isForbidden 56 = .ok (.goto 4, 3) := by decide +kernel
theorem d_T_isForbidden_59 : decode b_T_isForbidden 59 = .ok (.iconst 0, 1) := by decide +kernel
theorem d_T_isForbidden_60 : decode b_T_isForbidden 60 = .ok (.ireturn, 1) := by decide +kernel
theorem d_T_isForbidden_61 : decode b_T_isForbidden 61 = .ok (.aload_n 0, 1) := by decide +kernel
theorem d_T_isForbidden_62 : decode b_T_isForbidden 62 = .ok (.getfield 12, 3) := by decide +kernel
theorem d_T_isForbidden_65 : decode b_T_isForbidden 65 = .ok (.getfield 101, 3) := by decide +kernel
theorem d_T_isForbidden_68 : decode b_T_isForbidden 68 = .ok (.iconst 2, 1) := by decide +kernel
theorem d_T_isForbidden_69 : decode b_T_isForbidden 69 = .ok (.if_icmp .eq 18, 3) := by decide +kernel
theorem d_T_isForbidden_72 : decode b_T_isForbidden 72 = .ok (.aload_n 0, 1) := by decide +kernel
theorem d_T_isForbidden_73 : decode b_T_isForbidden 73 = .ok (.getfield 12, 3) := by decide +kernel
theorem d_T_isForbidden_76 : decode b_T_isForbidden 76 = .ok (.getfield 104, 3) := by decide +kernel
theorem d_T_isForbidden_79 : decode b_T_isForbidden 79 = .ok (.iload_n 2, 1) := by decide +kernel
theorem d_T_isForbidden_80 : decode b_T_isForbidden 80 = .ok (.iadd, 1) := by decide +kernel
theorem d_T_isForbidden_81 : decode b_T_isForbidden 81 = .ok (.sipush 600, 3) := by decide +kernel
theorem d_T_isForbidden_84 : decode b_T_isForbidden 84 = .ok (.if_icmp .le 7, 3) := by decide +kernel
theorem d_T_isForbidden_87 : decode b_T_isForbidden 87 = .ok (.iconst 1, 1) := by decide +kernel
theorem d_T_isForbidden_88 : decode b_T_isForbidden 88 = .ok (.goto 4, 3) := by decide +kernel
theorem d_T_isForbidden_91 : decode b_T_isForbidden 91 = .ok (.iconst 0, 1) := by decide +kernel
theorem d_T_isForbidden_92 : decode b_T_isForbidden 92 = .ok (.ireturn, 1) := by decide +kernel
theorem d_T_isForbidden_93 : decode b_T_isForbidden 93 = .ok (.aload_n 0, 1) := by decide +kernel
theorem d_T_isForbidden_94 : decode b_T_isForbidden 94 = .ok (.getfield 12, 3) := by decide +kernel
theorem d_T_isForbidden_97 : decode b_T_isForbidden 97 = .ok (.getfield 101, 3) := by decide +kernel
theorem d_T_isForbidden_100 : decode b_T_isForbidden 100 = .ok (.iconst 2, 1) := by decide +kernel
theorem d_T_isForbidden_101 : decode b_T_isForbidden 101 = .ok (.if_icmp .ne 7, 3) := by decide +kernel
theorem d_T_isForbidden_104 : decode b_T_isForbidden 104 = .ok (.iconst 1, 1) := by decide +kernel
theorem d_T_isForbidden_105 : decode b_T_isForbidden 105 = .ok (.goto 4, 3) := by decide +kernel
theorem d_T_isForbidden_108 : decode b_T_isForbidden 108 = .ok (.iconst 0, 1) := by decide +kernel
theorem d_T_isForbidden_109 : decode b_T_isForbidden 109 = .ok (.ireturn, 1) := by decide +kernel
theorem d_T_isForbidden_110 : decode b_T_isForbidden 110 = .ok (.aload_n 0, 1) := by decide +kernel
theorem d_T_isForbidden_111 : decode b_T_isForbidden 111 = .ok (.getfield 12, 3) := by decide +kernel
theorem d_T_isForbidden_114 : decode b_T_isForbidden 114 = .ok (.getfield 101, 3) := by decide +kernel
theorem d_T_isForbidden_117 : decode b_T_isForbidden 117 = .ok (.ifCond .eq 7, 3) := by decide +kernel
theorem d_T_isForbidden_120 : decode b_T_isForbidden 120 = .ok (.iconst 1, 1) := by decide +kernel
theorem d_T_isForbidden_121 : decode b_T_isForbidden 121 = .ok (.goto 4, 3) := by decide +kernel
theorem d_T_isForbidden_124 : decode b_T_isForbidden 124 = .ok (.iconst 0, 1) := by decide +kernel
theorem d_T_isForbidden_125 : decode b_T_isForbidden 125 = .ok (.ireturn, 1) := by decide +kernel
theorem d_T_isForbidden_126 : decode b_T_isForbidden 126 = .ok (.aload_n 0, 1) := by decide +kernel
theorem d_T_isForbidden_127 : decode b_T_isForbidden 127 = .ok (.getfield 12, 3) := by decide +kernel
theorem d_T_isForbidden_130 : decode b_T_isForbidden 130 = .ok (.getfield 101, 3) := by decide +kernel
theorem d_T_isForbidden_133 : decode b_T_isForbidden 133 = .ok (.iconst 2, 1) := by decide +kernel
theorem d_T_isForbidden_134 : decode b_T_isForbidden 134 = .ok (.if_icmp .eq 7, 3) := by decide +kernel
theorem d_T_isForbidden_137 : decode b_T_isForbidden 137 = .ok (.iconst 1, 1) := by decide +kernel
theorem d_T_isForbidden_138 : decode b_T_isForbidden 138 = .ok (.goto 4, 3) := by decide +kernel
theorem d_T_isForbidden_141 : decode b_T_isForbidden 141 = .ok (.iconst 0, 1) := by decide +kernel
theorem d_T_isForbidden_142 : decode b_T_isForbidden 142 = .ok (.ireturn, 1) := by decide +kernel
theorem d_T_isForbidden_143 : decode b_T_isForbidden 143 = .ok (.aload_n 0, 1) := by decide +kernel
theorem d_T_isForbidden_144 : decode b_T_isForbidden 144 = .ok (.getfield 12, 3) := by decide +kernel
theorem d_T_isForbidden_147 : decode b_T_isForbidden 147 = .ok (.getfield 101, 3) := by decide +kernel
theorem d_T_isForbidden_150 : decode b_T_isForbidden 150 = .ok (.ifCond .ne 23, 3) := by decide +kernel
theorem d_T_isForbidden_153 : decode b_T_isForbidden 153 = .ok (.aload_n 0, 1) := by decide +kernel
theorem d_T_isForbidden_154 : decode b_T_isForbidden 154 = .ok (.getfield 42, 3) := by decide +kernel
theorem d_T_isForbidden_157 : decode b_T_isForbidden 157 = .ok (.getfield 126, 3) := by decide +kernel
theorem d_T_isForbidden_160 : decode b_T_isForbidden 160 = .ok (.aload_n 0, 1) := by decide +kernel
theorem d_T_isForbidden_161 : decode b_T_isForbidden 161 = .ok (.getfield 38, 3) := by decide +kernel
theorem d_T_isForbidden_164 : decode b_T_isForbidden 164 = .ok (.getfield 126, 3) := by decide +kernel
theorem d_T_isForbidden_167 : decode b_T_isForbidden 167 = .ok (.iadd, 1) := by decide +kernel
theorem d_T_isForbidden_168 : decode b_T_isForbidden 168 = .ok (.bipush 90, 2) := by decide +kernel
theorem d_T_isForbidden_170 : decode b_T_isForbidden 170 = .ok (.if_icmp .le 7, 3) := by decide +kernel
theorem d_T_isForbidden_173 : decode b_T_isForbidden 173 = .ok (.iconst 1, 1) := by decide +kernel
theorem d_T_isForbidden_174 : decode b_T_isForbidden 174 = .ok (.goto 4, 3) := by decide +kernel
theorem d_T_isForbidden_177 : decode b_T_isForbidden 177 = .ok (.iconst 0, 1) := by decide +kernel
theorem d_T_isForbidden_178 : decode b_T_isForbidden 178 = .ok (.ireturn, 1) := by decide +kernel
theorem d_T_isForbidden_179 : decode b_T_isForbidden 179 = .ok (.aload_n 0, 1) := by decide +kernel
theorem d_T_isForbidden_180 : decode b_T_isForbidden 180 = .ok (.getfield 48, 3) := by decide +kernel
theorem d_T_isForbidden_183 : decode b_T_isForbidden 183 = .ok (.iload_n 2, 1) := by decide +kernel
theorem d_T_isForbidden_184 : decode b_T_isForbidden 184 = .ok (.iadd, 1) := by decide +kernel
theorem d_T_isForbidden_185 : decode b_T_isForbidden 185 = .ok (.sipush 10000, 3) := by decide +kernel
theorem d_T_isForbidden_188 : decode b_T_isForbidden 188 = .ok (.if_icmp .le 7, 3) := by decide +kernel
theorem d_T_isForbidden_191 : decode b_T_isForbidden 191 = .ok (.iconst 1, 1) := by decide +kernel
theorem d_T_isForbidden_192 : decode b_T_isForbidden 192 = .ok (.goto 4, 3) := by decide +kernel
theorem d_T_isForbidden_195 : decode b_T_isForbidden 195 = .ok (.iconst 0, 1) := by decide +kernel
theorem d_T_isForbidden_196 : decode b_T_isForbidden 196 = .ok (.ireturn, 1) := by decide +kernel
theorem d_T_isForbidden_197 : decode b_T_isForbidden 197 = .ok (.iconst 0, 1) := by decide +kernel
theorem d_T_isForbidden_198 : decode b_T_isForbidden 198 = .ok (.ireturn, 1) := by decide +kernel
theorem cc_T_122 : CV "KiteLogger$Station" 122 y_T_obstacle b_T_obstacle 1 (some .int) 0 := ⟨TT_in (i := 1038) (by decide +kernel) (by decide +kernel), TT_in (i := 925) (by decide +kernel) (by decide +kernel), TT_in (i := 926) (by decide +kernel) (by decide +kernel), TT_in (i := 24) (by decide +kernel) (by decide +kernel), TT_in (i := 927) (by decide +kernel) (by decide +kernel), ⟨by decide +kernel, by decide +kernel, by decide +kernel⟩⟩
def f_T_isForbidden (p : Nat) (a1 : Int32) (a2 : Int32) (M : Mem) : Option (Bool × Mem) :=
  if a1 = (1 : Int32) then (bnd (f_T_obstacle p M) fun (x1 : Int32) (M2 : Mem) => if x1 = 0 then (some (false, M2)) else (some (true, M2))) else (if a1 = (2 : Int32) then (if (M (p + 1) 0) = (2 : Int32) then (some (true, M)) else (if (600 : Int32) < ((M (p + 1) 2) + a2) then (some (true, M)) else (some (false, M)))) else (if a1 = (3 : Int32) then (if (M (p + 1) 0) = (2 : Int32) then (some (true, M)) else (some (false, M))) else (if a1 = (4 : Int32) then (if (M (p + 1) 0) = 0 then (some (false, M)) else (some (true, M))) else (if a1 = (6 : Int32) then (if (M (p + 1) 0) = (2 : Int32) then (some (false, M)) else (some (true, M))) else (if a1 = (7 : Int32) then (if (M (p + 1) 0) = 0 then (if (90 : Int32) < ((M (p + 9) 5) + (M (p + 5) 5)) then (some (true, M)) else (some (false, M))) else (some (true, M))) else (if a1 = (8 : Int32) then (if (10000 : Int32) < ((M p 7) + a2) then (some (true, M)) else (some (false, M))) else (if a1 = (5 : Int32) then (some (false, M)) else (some (false, M)))))))))
set_option maxHeartbeats 4000000 in
set_option maxRecDepth 100000 in
theorem c_T_isForbidden (l : Launch) {w : Wc} {rr : Nat} (hw : WK w rr) (p : Nat) (hp : p ∈ stL) (a1 : Int32) (a2 : Int32) (M : Mem) : Ct QZ l y_T_isForbidden b_T_isForbidden 3 (some .boolean) (rmL 3) w [.ref (wad w p), .int a1, .int a2] M (f_T_isForbidden p a1 a2 M) := by
  refine Ct.go (by decide) (L := [(0, .ref (wad w p)), (1, .int a1), (2, .int a2)]) rfl (Nat.le_of_ble_eq_true rfl) (fun p0 e s m args below meth c g hret => ?_)
  unfold f_T_isForbidden
  refine G_iload_n g (pc := 0) 1 d_T_isForbidden_0 rfl rfl ?_
  refine G_case (v := (1 : Int32)) ?_ (fun ne1 => ?_)
  · refine G_tabK g (pc := 1) 48 d_T_isForbidden_1 (by decide) (by decide) rfl (by decide) ?_
    refine G_aload_n g (pc := 48) 0 d_T_isForbidden_48 rfl rfl ?_
    refine G_cVI g (pc := 49) (As := []) (st := []) cc_T_122 (c_T_obstacle l hw p hp M) (hw.m _ (st_lt0 hp)) (hw.k (st_lt0 hp) (st_k0 hp)) rfl (by decide) rfl ⟨(Nat.le_of_ble_eq_true rfl), (Nat.le_of_ble_eq_true rfl)⟩ ⟨(Nat.le_of_ble_eq_true rfl), (Nat.le_of_ble_eq_true rfl)⟩ (Nat.le_of_ble_eq_true rfl) d_T_isForbidden_49 (fun x1 M2 => ?_)
    refine G_if_eq g (pc := 52) 59 d_T_isForbidden_52 (by decide) ?_ ?_
    · refine G_iconst g (pc := 59) (0 : Int32) d_T_isForbidden_59 rfl ?_
      exact G_zreturn g (pc := 60) false rfl hret (Nat.le_of_ble_eq_true rfl) (Nat.le_of_ble_eq_true rfl) d_T_isForbidden_60
    · refine G_iconst g (pc := 55) (1 : Int32) d_T_isForbidden_55 rfl ?_
      refine G_goto g (pc := 56) 60 d_T_isForbidden_56 (by decide) ?_
      exact G_zreturn g (pc := 60) true rfl hret (Nat.le_of_ble_eq_true rfl) (Nat.le_of_ble_eq_true rfl) d_T_isForbidden_60
  refine G_case (v := (2 : Int32)) ?_ (fun ne2 => ?_)
  · refine G_tabK g (pc := 1) 61 d_T_isForbidden_1 (by decide) (by decide) rfl (by decide) ?_
    refine G_aload_n g (pc := 61) 0 d_T_isForbidden_61 rfl rfl ?_
    refine G_getR g (pc := 62) fa_T_12 (hw.m _ (st_lt0 hp)) (hw.k (st_lt0 hp) (st_k0 hp)) (hw.r (st_lt0 hp) (st_r0_0 hp rr)) d_T_isForbidden_62 ?_
    refine G_getN g (pc := 65) fa_T_101 (hw.m _ (st_lt1 hp)) (hw.k (st_lt1 hp) (st_k1 hp)) d_T_isForbidden_65 ?_
    refine G_iconst g (pc := 68) (2 : Int32) d_T_isForbidden_68 rfl ?_
    refine G_icmp_eq g (pc := 69) 87 d_T_isForbidden_69 (by decide) ?_ ?_
    · refine G_iconst g (pc := 87) (1 : Int32) d_T_isForbidden_87 rfl ?_
      refine G_goto g (pc := 88) 92 d_T_isForbidden_88 (by decide) ?_
      exact G_zreturn g (pc := 92) true rfl hret (Nat.le_of_ble_eq_true rfl) (Nat.le_of_ble_eq_true rfl) d_T_isForbidden_92
    · refine G_aload_n g (pc := 72) 0 d_T_isForbidden_72 rfl rfl ?_
      refine G_getR g (pc := 73) fa_T_12 (hw.m _ (st_lt0 hp)) (hw.k (st_lt0 hp) (st_k0 hp)) (hw.r (st_lt0 hp) (st_r0_0 hp rr)) d_T_isForbidden_73 ?_
      refine G_getN g (pc := 76) fa_T_104 (hw.m _ (st_lt1 hp)) (hw.k (st_lt1 hp) (st_k1 hp)) d_T_isForbidden_76 ?_
      refine G_iload_n g (pc := 79) 2 d_T_isForbidden_79 rfl rfl ?_
      refine G_iadd g (pc := 80) d_T_isForbidden_80 ?_
      refine G_sipush g (pc := 81) (600 : Int32) d_T_isForbidden_81 rfl ?_
      refine G_icmp_le g (pc := 84) 91 d_T_isForbidden_84 (by decide) ?_ ?_
      · refine G_iconst g (pc := 87) (1 : Int32) d_T_isForbidden_87 rfl ?_
        refine G_goto g (pc := 88) 92 d_T_isForbidden_88 (by decide) ?_
        exact G_zreturn g (pc := 92) true rfl hret (Nat.le_of_ble_eq_true rfl) (Nat.le_of_ble_eq_true rfl) d_T_isForbidden_92
      · refine G_iconst g (pc := 91) (0 : Int32) d_T_isForbidden_91 rfl ?_
        exact G_zreturn g (pc := 92) false rfl hret (Nat.le_of_ble_eq_true rfl) (Nat.le_of_ble_eq_true rfl) d_T_isForbidden_92
  refine G_case (v := (3 : Int32)) ?_ (fun ne3 => ?_)
  · refine G_tabK g (pc := 1) 93 d_T_isForbidden_1 (by decide) (by decide) rfl (by decide) ?_
    refine G_aload_n g (pc := 93) 0 d_T_isForbidden_93 rfl rfl ?_
    refine G_getR g (pc := 94) fa_T_12 (hw.m _ (st_lt0 hp)) (hw.k (st_lt0 hp) (st_k0 hp)) (hw.r (st_lt0 hp) (st_r0_0 hp rr)) d_T_isForbidden_94 ?_
    refine G_getN g (pc := 97) fa_T_101 (hw.m _ (st_lt1 hp)) (hw.k (st_lt1 hp) (st_k1 hp)) d_T_isForbidden_97 ?_
    refine G_iconst g (pc := 100) (2 : Int32) d_T_isForbidden_100 rfl ?_
    refine G_icmp_ne g (pc := 101) 108 d_T_isForbidden_101 (by decide) ?_ ?_
    · refine G_iconst g (pc := 104) (1 : Int32) d_T_isForbidden_104 rfl ?_
      refine G_goto g (pc := 105) 109 d_T_isForbidden_105 (by decide) ?_
      exact G_zreturn g (pc := 109) true rfl hret (Nat.le_of_ble_eq_true rfl) (Nat.le_of_ble_eq_true rfl) d_T_isForbidden_109
    · refine G_iconst g (pc := 108) (0 : Int32) d_T_isForbidden_108 rfl ?_
      exact G_zreturn g (pc := 109) false rfl hret (Nat.le_of_ble_eq_true rfl) (Nat.le_of_ble_eq_true rfl) d_T_isForbidden_109
  refine G_case (v := (4 : Int32)) ?_ (fun ne4 => ?_)
  · refine G_tabK g (pc := 1) 110 d_T_isForbidden_1 (by decide) (by decide) rfl (by decide) ?_
    refine G_aload_n g (pc := 110) 0 d_T_isForbidden_110 rfl rfl ?_
    refine G_getR g (pc := 111) fa_T_12 (hw.m _ (st_lt0 hp)) (hw.k (st_lt0 hp) (st_k0 hp)) (hw.r (st_lt0 hp) (st_r0_0 hp rr)) d_T_isForbidden_111 ?_
    refine G_getN g (pc := 114) fa_T_101 (hw.m _ (st_lt1 hp)) (hw.k (st_lt1 hp) (st_k1 hp)) d_T_isForbidden_114 ?_
    refine G_if_eq g (pc := 117) 124 d_T_isForbidden_117 (by decide) ?_ ?_
    · refine G_iconst g (pc := 124) (0 : Int32) d_T_isForbidden_124 rfl ?_
      exact G_zreturn g (pc := 125) false rfl hret (Nat.le_of_ble_eq_true rfl) (Nat.le_of_ble_eq_true rfl) d_T_isForbidden_125
    · refine G_iconst g (pc := 120) (1 : Int32) d_T_isForbidden_120 rfl ?_
      refine G_goto g (pc := 121) 125 d_T_isForbidden_121 (by decide) ?_
      exact G_zreturn g (pc := 125) true rfl hret (Nat.le_of_ble_eq_true rfl) (Nat.le_of_ble_eq_true rfl) d_T_isForbidden_125
  refine G_case (v := (6 : Int32)) ?_ (fun ne6 => ?_)
  · refine G_tabK g (pc := 1) 126 d_T_isForbidden_1 (by decide) (by decide) rfl (by decide) ?_
    refine G_aload_n g (pc := 126) 0 d_T_isForbidden_126 rfl rfl ?_
    refine G_getR g (pc := 127) fa_T_12 (hw.m _ (st_lt0 hp)) (hw.k (st_lt0 hp) (st_k0 hp)) (hw.r (st_lt0 hp) (st_r0_0 hp rr)) d_T_isForbidden_127 ?_
    refine G_getN g (pc := 130) fa_T_101 (hw.m _ (st_lt1 hp)) (hw.k (st_lt1 hp) (st_k1 hp)) d_T_isForbidden_130 ?_
    refine G_iconst g (pc := 133) (2 : Int32) d_T_isForbidden_133 rfl ?_
    refine G_icmp_eq g (pc := 134) 141 d_T_isForbidden_134 (by decide) ?_ ?_
    · refine G_iconst g (pc := 141) (0 : Int32) d_T_isForbidden_141 rfl ?_
      exact G_zreturn g (pc := 142) false rfl hret (Nat.le_of_ble_eq_true rfl) (Nat.le_of_ble_eq_true rfl) d_T_isForbidden_142
    · refine G_iconst g (pc := 137) (1 : Int32) d_T_isForbidden_137 rfl ?_
      refine G_goto g (pc := 138) 142 d_T_isForbidden_138 (by decide) ?_
      exact G_zreturn g (pc := 142) true rfl hret (Nat.le_of_ble_eq_true rfl) (Nat.le_of_ble_eq_true rfl) d_T_isForbidden_142
  refine G_case (v := (7 : Int32)) ?_ (fun ne7 => ?_)
  · refine G_tabK g (pc := 1) 143 d_T_isForbidden_1 (by decide) (by decide) rfl (by decide) ?_
    refine G_aload_n g (pc := 143) 0 d_T_isForbidden_143 rfl rfl ?_
    refine G_getR g (pc := 144) fa_T_12 (hw.m _ (st_lt0 hp)) (hw.k (st_lt0 hp) (st_k0 hp)) (hw.r (st_lt0 hp) (st_r0_0 hp rr)) d_T_isForbidden_144 ?_
    refine G_getN g (pc := 147) fa_T_101 (hw.m _ (st_lt1 hp)) (hw.k (st_lt1 hp) (st_k1 hp)) d_T_isForbidden_147 ?_
    refine G_if_ne g (pc := 150) 173 d_T_isForbidden_150 (by decide) ?_ ?_
    · refine G_aload_n g (pc := 153) 0 d_T_isForbidden_153 rfl rfl ?_
      refine G_getR g (pc := 154) fa_T_42 (hw.m _ (st_lt0 hp)) (hw.k (st_lt0 hp) (st_k0 hp)) (hw.r (st_lt0 hp) (st_r0_5 hp rr)) d_T_isForbidden_154 ?_
      refine G_getN g (pc := 157) fa_T_126 (hw.m _ (st_lt9 hp)) (hw.k (st_lt9 hp) (st_k9 hp)) d_T_isForbidden_157 ?_
      refine G_aload_n g (pc := 160) 0 d_T_isForbidden_160 rfl rfl ?_
      refine G_getR g (pc := 161) fa_T_38 (hw.m _ (st_lt0 hp)) (hw.k (st_lt0 hp) (st_k0 hp)) (hw.r (st_lt0 hp) (st_r0_4 hp rr)) d_T_isForbidden_161 ?_
      refine G_getN g (pc := 164) fa_T_126 (hw.m _ (st_lt5 hp)) (hw.k (st_lt5 hp) (st_k5 hp)) d_T_isForbidden_164 ?_
      refine G_iadd g (pc := 167) d_T_isForbidden_167 ?_
      refine G_bipush g (pc := 168) (90 : Int32) d_T_isForbidden_168 rfl ?_
      refine G_icmp_le g (pc := 170) 177 d_T_isForbidden_170 (by decide) ?_ ?_
      · refine G_iconst g (pc := 173) (1 : Int32) d_T_isForbidden_173 rfl ?_
        refine G_goto g (pc := 174) 178 d_T_isForbidden_174 (by decide) ?_
        exact G_zreturn g (pc := 178) true rfl hret (Nat.le_of_ble_eq_true rfl) (Nat.le_of_ble_eq_true rfl) d_T_isForbidden_178
      · refine G_iconst g (pc := 177) (0 : Int32) d_T_isForbidden_177 rfl ?_
        exact G_zreturn g (pc := 178) false rfl hret (Nat.le_of_ble_eq_true rfl) (Nat.le_of_ble_eq_true rfl) d_T_isForbidden_178
    · refine G_iconst g (pc := 173) (1 : Int32) d_T_isForbidden_173 rfl ?_
      refine G_goto g (pc := 174) 178 d_T_isForbidden_174 (by decide) ?_
      exact G_zreturn g (pc := 178) true rfl hret (Nat.le_of_ble_eq_true rfl) (Nat.le_of_ble_eq_true rfl) d_T_isForbidden_178
  refine G_case (v := (8 : Int32)) ?_ (fun ne8 => ?_)
  · refine G_tabK g (pc := 1) 179 d_T_isForbidden_1 (by decide) (by decide) rfl (by decide) ?_
    refine G_aload_n g (pc := 179) 0 d_T_isForbidden_179 rfl rfl ?_
    refine G_get g (pc := 180) fa_T_48 (hw.m _ (st_lt0 hp)) (hw.k (st_lt0 hp) (st_k0 hp)) d_T_isForbidden_180 ?_
    refine G_iload_n g (pc := 183) 2 d_T_isForbidden_183 rfl rfl ?_
    refine G_iadd g (pc := 184) d_T_isForbidden_184 ?_
    refine G_sipush g (pc := 185) (10000 : Int32) d_T_isForbidden_185 rfl ?_
    refine G_icmp_le g (pc := 188) 195 d_T_isForbidden_188 (by decide) ?_ ?_
    · refine G_iconst g (pc := 191) (1 : Int32) d_T_isForbidden_191 rfl ?_
      refine G_goto g (pc := 192) 196 d_T_isForbidden_192 (by decide) ?_
      exact G_zreturn g (pc := 196) true rfl hret (Nat.le_of_ble_eq_true rfl) (Nat.le_of_ble_eq_true rfl) d_T_isForbidden_196
    · refine G_iconst g (pc := 195) (0 : Int32) d_T_isForbidden_195 rfl ?_
      exact G_zreturn g (pc := 196) false rfl hret (Nat.le_of_ble_eq_true rfl) (Nat.le_of_ble_eq_true rfl) d_T_isForbidden_196
  refine G_case (v := (5 : Int32)) ?_ (fun ne5 => ?_)
  · refine G_tabK g (pc := 1) 197 d_T_isForbidden_1 (by decide) (by decide) rfl (by decide) ?_
    refine G_iconst g (pc := 197) (0 : Int32) d_T_isForbidden_197 rfl ?_
    exact G_zreturn g (pc := 198) false rfl hret (Nat.le_of_ble_eq_true rfl) (Nat.le_of_ble_eq_true rfl) d_T_isForbidden_198
  refine G_tabD g (pc := 1) 197 d_T_isForbidden_1 (by have q1 : ¬ a1.toInt = 1 := lv_neT ne1 rfl; have q2 : ¬ a1.toInt = 2 := lv_neT ne2 rfl; have q3 : ¬ a1.toInt = 3 := lv_neT ne3 rfl; have q4 : ¬ a1.toInt = 4 := lv_neT ne4 rfl; have q5 : ¬ a1.toInt = 5 := lv_neT ne5 rfl; have q6 : ¬ a1.toInt = 6 := lv_neT ne6 rfl; have q7 : ¬ a1.toInt = 7 := lv_neT ne7 rfl; have q8 : ¬ a1.toInt = 8 := lv_neT ne8 rfl; omega) (by decide) ?_
  refine G_iconst g (pc := 197) (0 : Int32) d_T_isForbidden_197 rfl ?_
  exact G_zreturn g (pc := 198) false rfl hret (Nat.le_of_ble_eq_true rfl) (Nat.le_of_ble_eq_true rfl) d_T_isForbidden_198

theorem d_T_faultOf_0 : decode b_T_faultOf 0 = .ok (.iload_n 1, 1) := by decide +kernel
theorem d_T_faultOf_1 : decode b_T_faultOf 1 = .ok (.iload_n 2, 1) := by decide +kernel
theorem d_T_faultOf_2 : decode b_T_faultOf 2 = .ok (.iload_n 3, 1) := by decide +kernel
theorem d_T_faultOf_3 : decode b_T_faultOf 3 = .ok (.invokestatic 111, 3) := by decide +kernel
theorem d_T_faultOf_6 : decode b_T_faultOf 6 = .ok (.ifCond .eq 5, 3) := by decide +kernel
theorem d_T_faultOf_9 : decode b_T_faultOf 9 = .ok (.iconst 1, 1) := by decide +kernel
theorem d_T_faultOf_10 : decode b_T_faultOf 10 = .ok (.ireturn, 1) := by decide +kernel
theorem d_T_faultOf_11 : decode b_T_faultOf 11 = .ok (.aload_n 0, 1) := by decide +kernel
theorem d_T_faultOf_12 : decode b_T_faultOf 12 = .ok (.iload_n 1, 1) := by decide +kernel
theorem d_T_faultOf_13 : decode b_T_faultOf 13 = .ok (.iload_n 2, 1) := by decide +kernel
theorem d_T_faultOf_14 : decode b_T_faultOf 14 = .ok (.invokevirtual 115, 3) := by decide +kernel
theorem d_T_faultOf_17 : decode b_T_faultOf 17 = .ok (.ifCond .eq 7, 3) := by decide +kernel
theorem d_T_faultOf_20 : decode b_T_faultOf 20 = .ok (.iconst 2, 1) := by decide +kernel
theorem d_T_faultOf_21 : decode b_T_faultOf 21 = .ok (.goto 4, 3) := by decide +kernel
theorem d_T_faultOf_24 : decode b_T_faultOf 24 = .ok (.iconst 0, 1) := by decide +kernel
theorem d_T_faultOf_25 : decode b_T_faultOf 25 = .ok (.ireturn, 1) := by decide +kernel
theorem cc_T_111 : CS "KiteLogger$Station" 111 y_T_hasBadNumber b_T_hasBadNumber 3 (some .boolean) 3 := ⟨TT_in (i := 1030) (by decide +kernel) (by decide +kernel), TT_in (i := 1031) (by decide +kernel) (by decide +kernel), TT_in (i := 24) (by decide +kernel) (by decide +kernel), TT_in (i := 1032) (by decide +kernel) (by decide +kernel), ⟨by decide +kernel, by decide +kernel, by decide +kernel⟩⟩
theorem cc_T_115 : CV "KiteLogger$Station" 115 y_T_isForbidden b_T_isForbidden 3 (some .boolean) 2 := ⟨TT_in (i := 1034) (by decide +kernel) (by decide +kernel), TT_in (i := 1036) (by decide +kernel) (by decide +kernel), TT_in (i := 12) (by decide +kernel) (by decide +kernel), TT_in (i := 24) (by decide +kernel) (by decide +kernel), TT_in (i := 1037) (by decide +kernel) (by decide +kernel), ⟨by decide +kernel, by decide +kernel, by decide +kernel⟩⟩
def f_T_faultOf (p : Nat) (a1 : Int32) (a2 : Int32) (a3 : Int32) (M : Mem) : Option (Int32 × Mem) :=
  bnd (f_T_hasBadNumber a1 a2 a3 M) fun (x1 : Bool) (M2 : Mem) => if x1 = true then (some ((1 : Int32), M2)) else (bnd (f_T_isForbidden p a1 a2 M2) fun (x3 : Bool) (M4 : Mem) => if x3 = true then (some ((2 : Int32), M4)) else (some ((0 : Int32), M4)))
set_option maxHeartbeats 4000000 in
set_option maxRecDepth 100000 in
theorem c_T_faultOf (l : Launch) {w : Wc} {rr : Nat} (hw : WK w rr) (p : Nat) (hp : p ∈ stL) (a1 : Int32) (a2 : Int32) (a3 : Int32) (M : Mem) : Ct QI l y_T_faultOf b_T_faultOf 4 (some .int) (rmL 4) w [.ref (wad w p), .int a1, .int a2, .int a3] M (f_T_faultOf p a1 a2 a3 M) := by
  refine Ct.go (by decide) (L := [(0, .ref (wad w p)), (1, .int a1), (2, .int a2), (3, .int a3)]) rfl (Nat.le_of_ble_eq_true rfl) (fun p0 e s m args below meth c g hret => ?_)
  unfold f_T_faultOf
  refine G_iload_n g (pc := 0) 1 d_T_faultOf_0 rfl rfl ?_
  refine G_iload_n g (pc := 1) 2 d_T_faultOf_1 rfl rfl ?_
  refine G_iload_n g (pc := 2) 3 d_T_faultOf_2 rfl rfl ?_
  refine G_cSZ g (pc := 3) (As := [.int a1, .int a2, .int a3]) (st := []) cc_T_111 (c_T_hasBadNumber l hw a1 a2 a3 M) rfl ⟨(Nat.le_of_ble_eq_true rfl), (Nat.le_of_ble_eq_true rfl)⟩ ⟨(Nat.le_of_ble_eq_true rfl), (Nat.le_of_ble_eq_true rfl)⟩ (Nat.le_of_ble_eq_true rfl) d_T_faultOf_3 (fun x1 M2 => ?_)
  refine G_if_eqB g (pc := 6) 11 d_T_faultOf_6 (by decide) ?_ ?_
  · refine G_iconst g (pc := 9) (1 : Int32) d_T_faultOf_9 rfl ?_
    exact G_ireturn g (pc := 10) hret (Nat.le_of_ble_eq_true rfl) (Nat.le_of_ble_eq_true rfl) d_T_faultOf_10
  · refine G_aload_n g (pc := 11) 0 d_T_faultOf_11 rfl rfl ?_
    refine G_iload_n g (pc := 12) 1 d_T_faultOf_12 rfl rfl ?_
    refine G_iload_n g (pc := 13) 2 d_T_faultOf_13 rfl rfl ?_
    refine G_cVZ g (pc := 14) (As := [.int a1, .int a2]) (st := []) cc_T_115 (c_T_isForbidden l hw p hp a1 a2 M2) (hw.m _ (st_lt0 hp)) (hw.k (st_lt0 hp) (st_k0 hp)) rfl (by decide) rfl ⟨(Nat.le_of_ble_eq_true rfl), (Nat.le_of_ble_eq_true rfl)⟩ ⟨(Nat.le_of_ble_eq_true rfl), (Nat.le_of_ble_eq_true rfl)⟩ (Nat.le_of_ble_eq_true rfl) d_T_faultOf_14 (fun x3 M4 => ?_)
    refine G_if_eqB g (pc := 17) 24 d_T_faultOf_17 (by decide) ?_ ?_
    · refine G_iconst g (pc := 20) (2 : Int32) d_T_faultOf_20 rfl ?_
      refine G_goto g (pc := 21) 25 d_T_faultOf_21 (by decide) ?_
      exact G_ireturn g (pc := 25) hret (Nat.le_of_ble_eq_true rfl) (Nat.le_of_ble_eq_true rfl) d_T_faultOf_25
    · refine G_iconst g (pc := 24) (0 : Int32) d_T_faultOf_24 rfl ?_
      exact G_ireturn g (pc := 25) hret (Nat.le_of_ble_eq_true rfl) (Nat.le_of_ble_eq_true rfl) d_T_faultOf_25

theorem d_T_changeInterval_0 : decode b_T_changeInterval 0 = .ok (.aload_n 0, 1) := by decide +kernel
theorem d_T_changeInterval_1 : decode b_T_changeInterval 1 = .ok (.getfield 45, 3) := by decide +kernel
theorem d_T_changeInterval_4 : decode b_T_changeInterval 4 = .ok (.istore_n 2, 1) := by decide +kernel
theorem d_T_changeInterval_5 : decode b_T_changeInterval 5 = .ok (.aload_n 0, 1) := by decide +kernel
theorem d_T_changeInterval_6 : decode b_T_changeInterval 6 = .ok (.iload_n 1, 1) := by decide +kernel
theorem d_T_changeInterval_7 : decode b_T_changeInterval 7 = .ok (.putfield 45, 3) := by decide +kernel
theorem d_T_changeInterval_10 : decode b_T_changeInterval 10 = .ok (.iload_n 2, 1) := by decide +kernel
theorem d_T_changeInterval_11 : decode b_T_changeInterval 11 = .ok (.ireturn, 1) := by decide +kernel
def f_T_changeInterval (p : Nat) (a1 : Int32) (M : Mem) : Option (Int32 × Mem) :=
  nm (M p 6) fun (x1 : Int32) => nm (put M p 6 a1) fun (M2 : Mem) => some (x1, M2)
set_option maxHeartbeats 4000000 in
set_option maxRecDepth 100000 in
theorem c_T_changeInterval (l : Launch) {w : Wc} {rr : Nat} (hw : WK w rr) (p : Nat) (hp : p ∈ stL) (a1 : Int32) (M : Mem) : Ct QI l y_T_changeInterval b_T_changeInterval 3 (some .int) (rmL 0) w [.ref (wad w p), .int a1] M (f_T_changeInterval p a1 M) := by
  refine Ct.go (by decide) (L := [(0, .ref (wad w p)), (1, .int a1)]) rfl (Nat.le_of_ble_eq_true rfl) (fun p0 e s m args below meth c g hret => ?_)
  unfold f_T_changeInterval
  refine G_aload_n g (pc := 0) 0 d_T_changeInterval_0 rfl rfl ?_
  refine G_get g (pc := 1) fa_T_45 (hw.m _ (st_lt0 hp)) (hw.k (st_lt0 hp) (st_k0 hp)) d_T_changeInterval_1 ?_
  refine G_nmI (fun x1 => ?_)
  refine G_istore_n g (pc := 4) _ d_T_changeInterval_4 rfl (Nat.le_of_ble_eq_true rfl) rfl ?_
  refine G_aload_n g (pc := 5) 1 d_T_changeInterval_5 rfl rfl ?_
  refine G_iload_n g (pc := 6) 2 d_T_changeInterval_6 rfl rfl ?_
  refine G_put g (pc := 7) fa_T_45 fw_5_6 rfl rfl (hw.m _ (st_lt0 hp)) (hw.k (st_lt0 hp) (st_k0 hp)) d_T_changeInterval_7 ?_
  refine G_nmM (fun M2 => ?_)
  refine G_iload_n g (pc := 10) 0 d_T_changeInterval_10 rfl rfl ?_
  exact G_ireturn g (pc := 11) hret (Nat.le_of_ble_eq_true rfl) (Nat.le_of_ble_eq_true rfl) d_T_changeInterval_11

theorem d_T_moveSamples_0 : decode b_T_moveSamples 0 = .ok (.aload_n 0, 1) := by decide +kernel
theorem d_T_moveSamples_1 : decode b_T_moveSamples 1 = .ok (.getfield 38, 3) := by decide +kernel
theorem d_T_moveSamples_4 : decode b_T_moveSamples 4 = .ok (.getfield 126, 3) := by decide +kernel
theorem d_T_moveSamples_7 : decode b_T_moveSamples 7 = .ok (.istore_n 1, 1) := by decide +kernel
theorem d_T_moveSamples_8 : decode b_T_moveSamples 8 = .ok (.iconst 0, 1) := by decide +kernel
theorem d_T_moveSamples_9 : decode b_T_moveSamples 9 = .ok (.istore_n 2, 1) := by decide +kernel
theorem d_T_moveSamples_10 : decode b_T_moveSamples 10 = .ok (.iload_n 2, 1) := by decide +kernel
theorem d_T_moveSamples_11 : decode b_T_moveSamples 11 = .ok (.iload_n 1, 1) := by decide +kernel
theorem d_T_moveSamples_12 : decode b_T_moveSamples 12 = .ok (.if_icmp .ge 40, 3) := by decide +kernel
theorem d_T_moveSamples_15 : decode b_T_moveSamples 15 = .ok (.aload_n 0, 1) := by decide +kernel
theorem d_T_moveSamples_16 : decode b_T_moveSamples 16 = .ok (.getfield 42, 3) := by decide +kernel
theorem d_T_moveSamples_19 : decode b_T_moveSamples 19 = .ok (.aload_n 0, 1) := by decide +kernel
theorem d_T_moveSamples_20 : decode b_T_moveSamples 20 = .ok (.getfield 38, 3) := by decide +kernel
theorem d_T_moveSamples_23 : decode b_T_moveSamples 23 = .ok (.iload_n 2, 1) := by decide +kernel
theorem d_T_moveSamples_24 : decode b_T_moveSamples 24 = .ok (.invokevirtual 153, 3) := by decide +kernel
theorem d_T_moveSamples_27 : decode b_T_moveSamples 27 = .ok (.aload_n 0, 1) := by decide +kernel
theorem d_T_moveSamples_28 : decode b_T_moveSamples 28 = .ok (.getfield 38, 3) := by decide +kernel
theorem d_T_moveSamples_31 : decode b_T_moveSamples 31 = .ok (.iload_n 2, 1) := by decide +kernel
theorem d_T_moveSamples_32 : decode b_T_moveSamples 32 = .ok (.invokevirtual 156, 3) := by decide +kernel
theorem d_T_moveSamples_35 : decode b_T_moveSamples 35 = .ok (.aload_n 0, 1) := by decide +kernel
theorem d_T_moveSamples_36 : decode b_T_moveSamples 36 = .ok (.getfield 38, 3) := by decide +kernel
theorem d_T_moveSamples_39 : decode b_T_moveSamples 39 = .ok (.iload_n 2, 1) := by decide +kernel
theorem d_T_moveSamples_40 : decode b_T_moveSamples 40 = .ok (.invokevirtual 159, 3) := by decide +kernel
theorem d_T_moveSamples_43 : decode b_T_moveSamples 43 = .ok (.invokevirtual 162, 3) := by decide +kernel
theorem d_T_moveSamples_46 : decode b_T_moveSamples 46 = .ok (.iinc 2 1, 3) := by decide +kernel
theorem d_T_moveSamples_49 : decode b_T_moveSamples 49 = .ok (.goto (-39), 3) := by decide +kernel
theorem d_T_moveSamples_52 : decode b_T_moveSamples 52 = .ok (.aload_n 0, 1) := by decide +kernel
theorem d_T_moveSamples_53 : decode b_T_moveSamples 53 = .ok (.getfield 38, 3) := by decide +kernel
theorem d_T_moveSamples_56 : decode b_T_moveSamples 56 = .ok (.invokevirtual 165, 3) := by decide +kernel
theorem d_T_moveSamples_59 : decode b_T_moveSamples 59 = .ok (.iload_n 1, 1) := by decide +kernel
theorem d_T_moveSamples_60 : decode b_T_moveSamples 60 = .ok (.ireturn, 1) := by decide +kernel
theorem cc_T_153 : CV "KiteLogger$Station" 153 y_S_tickAt b_S_tickAt 2 (some .int) 1 := ⟨TT_in (i := 1078) (by decide +kernel) (by decide +kernel), TT_in (i := 818) (by decide +kernel) (by decide +kernel), TT_in (i := 819) (by decide +kernel) (by decide +kernel), TT_in (i := 27) (by decide +kernel) (by decide +kernel), TT_in (i := 820) (by decide +kernel) (by decide +kernel), ⟨by decide +kernel, by decide +kernel, by decide +kernel⟩⟩
theorem cc_T_156 : CV "KiteLogger$Station" 156 y_S_heightAt b_S_heightAt 2 (some .int) 1 := ⟨TT_in (i := 1079) (by decide +kernel) (by decide +kernel), TT_in (i := 831) (by decide +kernel) (by decide +kernel), TT_in (i := 832) (by decide +kernel) (by decide +kernel), TT_in (i := 27) (by decide +kernel) (by decide +kernel), TT_in (i := 833) (by decide +kernel) (by decide +kernel), ⟨by decide +kernel, by decide +kernel, by decide +kernel⟩⟩
theorem cc_T_159 : CV "KiteLogger$Station" 159 y_S_gustAt b_S_gustAt 2 (some .int) 1 := ⟨TT_in (i := 1080) (by decide +kernel) (by decide +kernel), TT_in (i := 839) (by decide +kernel) (by decide +kernel), TT_in (i := 840) (by decide +kernel) (by decide +kernel), TT_in (i := 27) (by decide +kernel) (by decide +kernel), TT_in (i := 841) (by decide +kernel) (by decide +kernel), ⟨by decide +kernel, by decide +kernel, by decide +kernel⟩⟩
theorem cc_T_162 : CV "KiteLogger$Station" 162 y_S_add b_S_add 5 none 3 := ⟨TT_in (i := 1081) (by decide +kernel) (by decide +kernel), TT_in (i := 1082) (by decide +kernel) (by decide +kernel), TT_in (i := 1083) (by decide +kernel) (by decide +kernel), TT_in (i := 27) (by decide +kernel) (by decide +kernel), TT_in (i := 1084) (by decide +kernel) (by decide +kernel), ⟨by decide +kernel, by decide +kernel, by decide +kernel⟩⟩
theorem cc_T_165 : CV "KiteLogger$Station" 165 y_S_empty b_S_empty 1 none 0 := ⟨TT_in (i := 1086) (by decide +kernel) (by decide +kernel), TT_in (i := 371) (by decide +kernel) (by decide +kernel), TT_in (i := 372) (by decide +kernel) (by decide +kernel), TT_in (i := 27) (by decide +kernel) (by decide +kernel), TT_in (i := 373) (by decide +kernel) (by decide +kernel), ⟨by decide +kernel, by decide +kernel, by decide +kernel⟩⟩
def lp_T_moveSamples_10 (N0 rr : Nat) (p : Nat) (c1 : Int32) : Nat → Int32 → Mem → (Int32 → Mem → Option (Int32 × Mem)) → Option (Int32 × Mem)
  | 0, _, _, _ => none
  | N + 1, v10, M, k10 => if v10 < c1 then (bnd (f_S_tickAt (p + 5) v10 M) fun (x2 : Int32) (M3 : Mem) => bnd (f_S_heightAt (p + 5) v10 M3) fun (x4 : Int32) (M5 : Mem) => bnd (f_S_gustAt (p + 5) v10 M5) fun (x6 : Int32) (M7 : Mem) => bndM (f_S_add (p + 9) x2 x4 x6 M7) fun (M9 : Mem) => nm (v10 + (1 : Int32)) fun (x10 : Int32) => lp_T_moveSamples_10 N0 rr p c1 N x10 M9 k10) else (k10 v10 M)
def f_T_moveSamples (N : Nat) (rr : Nat) (p : Nat) (M : Mem) : Option (Int32 × Mem) :=
  nm (M (p + 5) 5) fun (x1 : Int32) => lp_T_moveSamples_10 N rr p x1 N (0 : Int32) M (fun (a12 : Int32) (M11 : Mem) => bndM (f_S_empty (p + 5) M11) fun (M14 : Mem) => some (x1, M14))
set_option maxHeartbeats 4000000 in
set_option maxRecDepth 100000 in
theorem c_T_moveSamples (l : Launch) (N : Nat) {w : Wc} {rr : Nat} (hw : WK w rr) (p : Nat) (hp : p ∈ stL) (M : Mem) : Ct QI l y_T_moveSamples b_T_moveSamples 3 (some .int) (rmL 2) w [.ref (wad w p)] M (f_T_moveSamples N rr p M) := by
  refine Ct.go (by decide) (L := [(0, .ref (wad w p))]) rfl (Nat.le_of_ble_eq_true rfl) (fun p0 e s m args below meth c g hret => ?_)
  unfold f_T_moveSamples
  refine G_aload_n g (pc := 0) 0 d_T_moveSamples_0 rfl rfl ?_
  refine G_getR g (pc := 1) fa_T_38 (hw.m _ (st_lt0 hp)) (hw.k (st_lt0 hp) (st_k0 hp)) (hw.r (st_lt0 hp) (st_r0_4 hp rr)) d_T_moveSamples_1 ?_
  refine G_getN g (pc := 4) fa_T_126 (hw.m _ (st_lt5 hp)) (hw.k (st_lt5 hp) (st_k5 hp)) d_T_moveSamples_4 ?_
  refine G_nmI (fun x1 => ?_)
  refine G_istore_n g (pc := 7) _ d_T_moveSamples_7 rfl (Nat.le_of_ble_eq_true rfl) rfl ?_
  refine G_iconst g (pc := 8) (0 : Int32) d_T_moveSamples_8 rfl ?_
  refine G_istore_n g (pc := 9) _ d_T_moveSamples_9 rfl (Nat.le_of_ble_eq_true rfl) rfl ?_
  refine G_sub [2, 1, 0] _ rfl ?_
  refine G_loop (F := lp_T_moveSamples_10 N rr p x1) 10 52 (fun (v10 : Int32) => [(0, .ref (wad w p)), (1, .int x1), (2, .int v10)]) (fun (v10 : Int32) => [(0, .ref (wad w p)), (1, .int x1), (2, .int v10)]) (fun _ _ _ => rfl) (fun a12 M11 => ?_) (fun k10 hk10 Nl10 ih10 v10 M => ?_) N (0 : Int32) M
  · refine G_aload_n g (pc := 52) 0 d_T_moveSamples_52 rfl rfl ?_
    refine G_getR g (pc := 53) fa_T_38 (hw.m _ (st_lt0 hp)) (hw.k (st_lt0 hp) (st_k0 hp)) (hw.r (st_lt0 hp) (st_r0_4 hp rr)) d_T_moveSamples_53 ?_
    refine G_cVV g (pc := 56) (As := []) (st := []) cc_T_165 (c_S_empty l hw (p + 5) (st_in5 hp) M11) (hw.m _ (st_lt5 hp)) (hw.k (st_lt5 hp) (st_k5 hp)) rfl (by decide) rfl ⟨(Nat.le_of_ble_eq_true rfl), (Nat.le_of_ble_eq_true rfl)⟩ ⟨(Nat.le_of_ble_eq_true rfl), (Nat.le_of_ble_eq_true rfl)⟩ (Nat.le_of_ble_eq_true rfl) d_T_moveSamples_56 (fun M14 => ?_)
    refine G_iload_n g (pc := 59) 1 d_T_moveSamples_59 rfl rfl ?_
    exact G_ireturn g (pc := 60) hret (Nat.le_of_ble_eq_true rfl) (Nat.le_of_ble_eq_true rfl) d_T_moveSamples_60
  · show Go p0 l e _ s m args below meth c w _ _ _ _ (lp_T_moveSamples_10 N rr p x1 (Nl10 + 1) v10 M k10) 10 _ _ M
    unfold lp_T_moveSamples_10
    refine G_iload_n g (pc := 10) 2 d_T_moveSamples_10 rfl rfl ?_
    refine G_iload_n g (pc := 11) 1 d_T_moveSamples_11 rfl rfl ?_
    refine G_icmp_ge g (pc := 12) 52 d_T_moveSamples_12 (by decide) ?_ ?_
    · refine G_aload_n g (pc := 15) 0 d_T_moveSamples_15 rfl rfl ?_
      refine G_getR g (pc := 16) fa_T_42 (hw.m _ (st_lt0 hp)) (hw.k (st_lt0 hp) (st_k0 hp)) (hw.r (st_lt0 hp) (st_r0_5 hp rr)) d_T_moveSamples_16 ?_
      refine G_aload_n g (pc := 19) 0 d_T_moveSamples_19 rfl rfl ?_
      refine G_getR g (pc := 20) fa_T_38 (hw.m _ (st_lt0 hp)) (hw.k (st_lt0 hp) (st_k0 hp)) (hw.r (st_lt0 hp) (st_r0_4 hp rr)) d_T_moveSamples_20 ?_
      refine G_iload_n g (pc := 23) 2 d_T_moveSamples_23 rfl rfl ?_
      refine G_cVI g (pc := 24) (As := [.int v10]) (st := [.ref (wad w (p + 9))]) cc_T_153 (c_S_tickAt l hw (p + 5) (st_in5 hp) v10 M) (hw.m _ (st_lt5 hp)) (hw.k (st_lt5 hp) (st_k5 hp)) rfl (by decide) rfl ⟨(Nat.le_of_ble_eq_true rfl), (Nat.le_of_ble_eq_true rfl)⟩ ⟨(Nat.le_of_ble_eq_true rfl), (Nat.le_of_ble_eq_true rfl)⟩ (Nat.le_of_ble_eq_true rfl) d_T_moveSamples_24 (fun x2 M3 => ?_)
      refine G_aload_n g (pc := 27) 0 d_T_moveSamples_27 rfl rfl ?_
      refine G_getR g (pc := 28) fa_T_38 (hw.m _ (st_lt0 hp)) (hw.k (st_lt0 hp) (st_k0 hp)) (hw.r (st_lt0 hp) (st_r0_4 hp rr)) d_T_moveSamples_28 ?_
      refine G_iload_n g (pc := 31) 2 d_T_moveSamples_31 rfl rfl ?_
      refine G_cVI g (pc := 32) (As := [.int v10]) (st := [.int x2, .ref (wad w (p + 9))]) cc_T_156 (c_S_heightAt l hw (p + 5) (st_in5 hp) v10 M3) (hw.m _ (st_lt5 hp)) (hw.k (st_lt5 hp) (st_k5 hp)) rfl (by decide) rfl ⟨(Nat.le_of_ble_eq_true rfl), (Nat.le_of_ble_eq_true rfl)⟩ ⟨(Nat.le_of_ble_eq_true rfl), (Nat.le_of_ble_eq_true rfl)⟩ (Nat.le_of_ble_eq_true rfl) d_T_moveSamples_32 (fun x4 M5 => ?_)
      refine G_aload_n g (pc := 35) 0 d_T_moveSamples_35 rfl rfl ?_
      refine G_getR g (pc := 36) fa_T_38 (hw.m _ (st_lt0 hp)) (hw.k (st_lt0 hp) (st_k0 hp)) (hw.r (st_lt0 hp) (st_r0_4 hp rr)) d_T_moveSamples_36 ?_
      refine G_iload_n g (pc := 39) 2 d_T_moveSamples_39 rfl rfl ?_
      refine G_cVI g (pc := 40) (As := [.int v10]) (st := [.int x4, .int x2, .ref (wad w (p + 9))]) cc_T_159 (c_S_gustAt l hw (p + 5) (st_in5 hp) v10 M5) (hw.m _ (st_lt5 hp)) (hw.k (st_lt5 hp) (st_k5 hp)) rfl (by decide) rfl ⟨(Nat.le_of_ble_eq_true rfl), (Nat.le_of_ble_eq_true rfl)⟩ ⟨(Nat.le_of_ble_eq_true rfl), (Nat.le_of_ble_eq_true rfl)⟩ (Nat.le_of_ble_eq_true rfl) d_T_moveSamples_40 (fun x6 M7 => ?_)
      refine G_cVV g (pc := 43) (As := [.int x2, .int x4, .int x6]) (st := []) cc_T_162 (c_S_add l hw (p + 9) (st_in9 hp) x2 x4 x6 M7) (hw.m _ (st_lt9 hp)) (hw.k (st_lt9 hp) (st_k9 hp)) rfl (by decide) rfl ⟨(Nat.le_of_ble_eq_true rfl), (Nat.le_of_ble_eq_true rfl)⟩ ⟨(Nat.le_of_ble_eq_true rfl), (Nat.le_of_ble_eq_true rfl)⟩ (Nat.le_of_ble_eq_true rfl) d_T_moveSamples_43 (fun M9 => ?_)
      refine G_nmX (v10 + (1 : Int32)) (fun x10 e_x10 => ?_)
      refine G_iinc g (pc := 46) x10 _ 2 d_T_moveSamples_46 rfl e_x10.symm (Nat.le_of_ble_eq_true rfl) rfl ?_
      refine G_goto g (pc := 49) 10 d_T_moveSamples_49 (by decide) ?_
      refine G_sub [1, 2, 0] _ rfl ?_
      exact ih10 x10 M9
    · refine G_sub [0, 1, 2] _ rfl ?_
      exact hk10 v10 M

theorem d_T_passOne_0 : decode b_T_passOne 0 = .ok (.aload_n 0, 1) := by decide +kernel
theorem d_T_passOne_1 : decode b_T_passOne 1 = .ok (.aload_n 0, 1) := by decide +kernel
theorem d_T_passOne_2 : decode b_T_passOne 2 = .ok (.getfield 48, 3) := by decide +kernel
theorem d_T_passOne_5 : decode b_T_passOne 5 = .ok (.invokevirtual 107, 3) := by decide +kernel
theorem d_T_passOne_8 : decode b_T_passOne 8 = .ok (.istore_n 1, 1) := by decide +kernel
theorem d_T_passOne_9 : decode b_T_passOne 9 = .ok (.aload_n 0, 1) := by decide +kernel
theorem d_T_passOne_10 : decode b_T_passOne 10 = .ok (.getfield 12, 3) := by decide +kernel
theorem d_T_passOne_13 : decode b_T_passOne 13 = .ok (.getfield 101, 3) := by decide +kernel
theorem d_T_passOne_16 : decode b_T_passOne 16 = .ok (.iconst 1, 1) := by decide +kernel
theorem d_T_passOne_17 : decode b_T_passOne 17 = .ok (.if_icmp .ne 18, 3) := by decide +kernel
theorem d_T_passOne_20 : decode b_T_passOne 20 = .ok (.aload_n 0, 1) := by decide +kernel
theorem d_T_passOne_21 : decode b_T_passOne 21 = .ok (.getfield 29, 3) := by decide +kernel
theorem d_T_passOne_24 : decode b_T_passOne 24 = .ok (.aload_n 0, 1) := by decide +kernel
theorem d_T_passOne_25 : decode b_T_passOne 25 = .ok (.getfield 12, 3) := by decide +kernel
theorem d_T_passOne_28 : decode b_T_passOne 28 = .ok (.iload_n 1, 1) := by decide +kernel
theorem d_T_passOne_29 : decode b_T_passOne 29 = .ok (.invokevirtual 169, 3) := by decide +kernel
theorem d_T_passOne_32 : decode b_T_passOne 32 = .ok (.invokevirtual 172, 3) := by decide +kernel
theorem d_T_passOne_35 : decode b_T_passOne 35 = .ok (.aload_n 0, 1) := by decide +kernel
theorem d_T_passOne_36 : decode b_T_passOne 36 = .ok (.getfield 12, 3) := by decide +kernel
theorem d_T_passOne_39 : decode b_T_passOne 39 = .ok (.iload_n 1, 1) := by decide +kernel
theorem d_T_passOne_40 : decode b_T_passOne 40 = .ok (.invokevirtual 174, 3) := by decide +kernel
theorem d_T_passOne_43 : decode b_T_passOne 43 = .ok (.aload_n 0, 1) := by decide +kernel
theorem d_T_passOne_44 : decode b_T_passOne 44 = .ok (.getfield 12, 3) := by decide +kernel
theorem d_T_passOne_47 : decode b_T_passOne 47 = .ok (.getfield 101, 3) := by decide +kernel
theorem d_T_passOne_50 : decode b_T_passOne 50 = .ok (.iconst 1, 1) := by decide +kernel
theorem d_T_passOne_51 : decode b_T_passOne 51 = .ok (.if_icmp .ne 60, 3) := by decide +kernel
theorem d_T_passOne_54 : decode b_T_passOne 54 = .ok (.aload_n 0, 1) := by decide +kernel
theorem d_T_passOne_55 : decode b_T_passOne 55 = .ok (.getfield 45, 3) := by decide +kernel
theorem d_T_passOne_58 : decode b_T_passOne 58 = .ok (.ifCond .le 53, 3) := by decide +kernel
theorem d_T_passOne_61 : decode b_T_passOne 61 = .ok (.aload_n 0, 1) := by decide +kernel
theorem d_T_passOne_62 : decode b_T_passOne 62 = .ok (.getfield 12, 3) := by decide +kernel
theorem d_T_passOne_65 : decode b_T_passOne 65 = .ok (.getfield 177, 3) := by decide +kernel
theorem d_T_passOne_68 : decode b_T_passOne 68 = .ok (.aload_n 0, 1) := by decide +kernel
theorem d_T_passOne_69 : decode b_T_passOne 69 = .ok (.getfield 45, 3) := by decide +kernel
theorem d_T_passOne_72 : decode b_T_passOne 72 = .ok (.irem, 1) := by decide +kernel
theorem d_T_passOne_73 : decode b_T_passOne 73 = .ok (.ifCond .ne 38, 3) := by decide +kernel
theorem d_T_passOne_76 : decode b_T_passOne 76 = .ok (.aload_n 0, 1) := by decide +kernel
theorem d_T_passOne_77 : decode b_T_passOne 77 = .ok (.getfield 38, 3) := by decide +kernel
theorem d_T_passOne_80 : decode b_T_passOne 80 = .ok (.aload_n 0, 1) := by decide +kernel
theorem d_T_passOne_81 : decode b_T_passOne 81 = .ok (.getfield 48, 3) := by decide +kernel
theorem d_T_passOne_84 : decode b_T_passOne 84 = .ok (.aload_n 0, 1) := by decide +kernel
theorem d_T_passOne_85 : decode b_T_passOne 85 = .ok (.getfield 12, 3) := by decide +kernel
theorem d_T_passOne_88 : decode b_T_passOne 88 = .ok (.getfield 180, 3) := by decide +kernel
theorem d_T_passOne_91 : decode b_T_passOne 91 = .ok (.aload_n 0, 1) := by decide +kernel
theorem d_T_passOne_92 : decode b_T_passOne 92 = .ok (.getfield 29, 3) := by decide +kernel
theorem d_T_passOne_95 : decode b_T_passOne 95 = .ok (.invokevirtual 183, 3) := by decide +kernel
theorem d_T_passOne_98 : decode b_T_passOne 98 = .ok (.invokevirtual 162, 3) := by decide +kernel
theorem d_T_passOne_101 : decode b_T_passOne 101 = .ok (.aload_n 0, 1) := by decide +kernel
theorem d_T_passOne_102 : decode b_T_passOne 102 = .ok (.dup, 1) := by decide +kernel
theorem d_T_passOne_103 : decode b_T_passOne 103 = .ok (.getfield 51, 3) := by decide +kernel
theorem d_T_passOne_106 : decode b_T_passOne 106 = .ok (.iconst 1, 1) := by decide +kernel
theorem d_T_passOne_107 : decode b_T_passOne 107 = .ok (.iadd, 1) := by decide +kernel
theorem d_T_passOne_108 : decode b_T_passOne 108 = .ok (.putfield 51, 3) := by decide +kernel
theorem d_T_passOne_111 : decode b_T_passOne 111 = .ok (.aload_n 0, 1) := by decide +kernel
theorem d_T_passOne_112 : decode b_T_passOne 112 = .ok (.dup, 1) := by decide +kernel
theorem d_T_passOne_113 : decode b_T_passOne 113 = .ok (.getfield 48, 3) := by decide +kernel
theorem d_T_passOne_116 : decode b_T_passOne 116 = .ok (.iconst 1, 1) := by decide +kernel
theorem d_T_passOne_117 : decode b_T_passOne 117 = .ok (.iadd, 1) := by decide +kernel
theorem d_T_passOne_118 : decode b_T_passOne 118 = .ok (.putfield 48, 3) := by decide +kernel
theorem d_T_passOne_121 : decode b_T_passOne 121 = .ok (.return_, 1) := by decide +kernel
theorem cc_T_169 : CV "KiteLogger$Station" 169 y_K_windOver b_K_windOver 2 (some .int) 1 := ⟨TT_in (i := 1095) (by decide +kernel) (by decide +kernel), TT_in (i := 955) (by decide +kernel) (by decide +kernel), TT_in (i := 956) (by decide +kernel) (by decide +kernel), TT_in (i := 25) (by decide +kernel) (by decide +kernel), TT_in (i := 957) (by decide +kernel) (by decide +kernel), ⟨by decide +kernel, by decide +kernel, by decide +kernel⟩⟩
theorem cc_T_172 : CV "KiteLogger$Station" 172 y_B_add b_B_add 2 none 1 := ⟨TT_in (i := 1096) (by decide +kernel) (by decide +kernel), TT_in (i := 1097) (by decide +kernel) (by decide +kernel), TT_in (i := 1098) (by decide +kernel) (by decide +kernel), TT_in (i := 26) (by decide +kernel) (by decide +kernel), TT_in (i := 1099) (by decide +kernel) (by decide +kernel), ⟨by decide +kernel, by decide +kernel, by decide +kernel⟩⟩
theorem cc_T_174 : CV "KiteLogger$Station" 174 y_K_passTick b_K_passTick 2 none 1 := ⟨TT_in (i := 1101) (by decide +kernel) (by decide +kernel), TT_in (i := 951) (by decide +kernel) (by decide +kernel), TT_in (i := 952) (by decide +kernel) (by decide +kernel), TT_in (i := 25) (by decide +kernel) (by decide +kernel), TT_in (i := 953) (by decide +kernel) (by decide +kernel), ⟨by decide +kernel, by decide +kernel, by decide +kernel⟩⟩
theorem cc_T_183 : CV "KiteLogger$Station" 183 y_B_greatest b_B_greatest 3 (some .int) 0 := ⟨TT_in (i := 1102) (by decide +kernel) (by decide +kernel), TT_in (i := 983) (by decide +kernel) (by decide +kernel), TT_in (i := 984) (by decide +kernel) (by decide +kernel), TT_in (i := 26) (by decide +kernel) (by decide +kernel), TT_in (i := 985) (by decide +kernel) (by decide +kernel), ⟨by decide +kernel, by decide +kernel, by decide +kernel⟩⟩
def f_T_passOne (N : Nat) (rr : Nat) (p : Nat) (M : Mem) : Option (Mem) :=
  bnd (f_T_gustOf p (M p 7) M) fun (x1 : Int32) (M2 : Mem) => if (M2 (p + 1) 0) = (1 : Int32) then (bnd (f_K_windOver (p + 1) x1 M2) fun (x3 : Int32) (M4 : Mem) => bndM (f_B_add (p + 3) x3 M4) fun (M6 : Mem) => bndM (f_K_passTick (p + 1) x1 M6) fun (M8 : Mem) => if (M8 (p + 1) 0) = (1 : Int32) then (if 0 < (M8 p 6) then (grd (nzB (M8 p 6)) (if (irm (M8 (p + 1) 9) (M8 p 6)) = 0 then (bnd (f_B_greatest N rr (p + 3) M8) fun (x9 : Int32) (M10 : Mem) => bndM (f_S_add (p + 5) (M8 p 7) (M8 (p + 1) 1) x9 M10) fun (M12 : Mem) => nm (put M12 p 8 ((M12 p 8) + (1 : Int32))) fun (M13 : Mem) => nm (put M13 p 7 ((M13 p 7) + (1 : Int32))) fun (M14 : Mem) => some M14) else (nm (put M8 p 7 ((M8 p 7) + (1 : Int32))) fun (M15 : Mem) => some M15))) else (nm (put M8 p 7 ((M8 p 7) + (1 : Int32))) fun (M16 : Mem) => some M16)) else (nm (put M8 p 7 ((M8 p 7) + (1 : Int32))) fun (M17 : Mem) => some M17)) else (bndM (f_K_passTick (p + 1) x1 M2) fun (M19 : Mem) => if (M19 (p + 1) 0) = (1 : Int32) then (if 0 < (M19 p 6) then (grd (nzB (M19 p 6)) (if (irm (M19 (p + 1) 9) (M19 p 6)) = 0 then (bnd (f_B_greatest N rr (p + 3) M19) fun (x20 : Int32) (M21 : Mem) => bndM (f_S_add (p + 5) (M19 p 7) (M19 (p + 1) 1) x20 M21) fun (M23 : Mem) => nm (put M23 p 8 ((M23 p 8) + (1 : Int32))) fun (M24 : Mem) => nm (put M24 p 7 ((M24 p 7) + (1 : Int32))) fun (M25 : Mem) => some M25) else (nm (put M19 p 7 ((M19 p 7) + (1 : Int32))) fun (M26 : Mem) => some M26))) else (nm (put M19 p 7 ((M19 p 7) + (1 : Int32))) fun (M27 : Mem) => some M27)) else (nm (put M19 p 7 ((M19 p 7) + (1 : Int32))) fun (M28 : Mem) => some M28))
set_option maxHeartbeats 4000000 in
set_option maxRecDepth 100000 in
theorem c_T_passOne (l : Launch) (N : Nat) {w : Wc} {rr : Nat} (hw : WK w rr) (p : Nat) (hp : p ∈ stL) (M : Mem) : Ct QV l y_T_passOne b_T_passOne 2 none (rmL 3) w [.ref (wad w p)] M (f_T_passOne N rr p M) := by
  refine Ct.go (by decide) (L := [(0, .ref (wad w p))]) rfl (Nat.le_of_ble_eq_true rfl) (fun p0 e s m args below meth c g hret => ?_)
  unfold f_T_passOne
  refine G_aload_n g (pc := 0) 0 d_T_passOne_0 rfl rfl ?_
  refine G_aload_n g (pc := 1) 0 d_T_passOne_1 rfl rfl ?_
  refine G_get g (pc := 2) fa_T_48 (hw.m _ (st_lt0 hp)) (hw.k (st_lt0 hp) (st_k0 hp)) d_T_passOne_2 ?_
  refine G_cVI g (pc := 5) (As := [.int (M p 7)]) (st := []) cc_T_107 (c_T_gustOf l hw p hp (M p 7) M) (hw.m _ (st_lt0 hp)) (hw.k (st_lt0 hp) (st_k0 hp)) rfl (by decide) rfl ⟨(Nat.le_of_ble_eq_true rfl), (Nat.le_of_ble_eq_true rfl)⟩ ⟨(Nat.le_of_ble_eq_true rfl), (Nat.le_of_ble_eq_true rfl)⟩ (Nat.le_of_ble_eq_true rfl) d_T_passOne_5 (fun x1 M2 => ?_)
  refine G_istore_n g (pc := 8) _ d_T_passOne_8 rfl (Nat.le_of_ble_eq_true rfl) rfl ?_
  refine G_aload_n g (pc := 9) 1 d_T_passOne_9 rfl rfl ?_
  refine G_getR g (pc := 10) fa_T_12 (hw.m _ (st_lt0 hp)) (hw.k (st_lt0 hp) (st_k0 hp)) (hw.r (st_lt0 hp) (st_r0_0 hp rr)) d_T_passOne_10 ?_
  refine G_getN g (pc := 13) fa_T_101 (hw.m _ (st_lt1 hp)) (hw.k (st_lt1 hp) (st_k1 hp)) d_T_passOne_13 ?_
  refine G_iconst g (pc := 16) (1 : Int32) d_T_passOne_16 rfl ?_
  refine G_icmp_ne g (pc := 17) 35 d_T_passOne_17 (by decide) ?_ ?_
  · refine G_aload_n g (pc := 20) 1 d_T_passOne_20 rfl rfl ?_
    refine G_getR g (pc := 21) fa_T_29 (hw.m _ (st_lt0 hp)) (hw.k (st_lt0 hp) (st_k0 hp)) (hw.r (st_lt0 hp) (st_r0_3 hp rr)) d_T_passOne_21 ?_
    refine G_aload_n g (pc := 24) 1 d_T_passOne_24 rfl rfl ?_
    refine G_getR g (pc := 25) fa_T_12 (hw.m _ (st_lt0 hp)) (hw.k (st_lt0 hp) (st_k0 hp)) (hw.r (st_lt0 hp) (st_r0_0 hp rr)) d_T_passOne_25 ?_
    refine G_iload_n g (pc := 28) 0 d_T_passOne_28 rfl rfl ?_
    refine G_cVI g (pc := 29) (As := [.int x1]) (st := [.ref (wad w (p + 3))]) cc_T_169 (c_K_windOver l hw (p + 1) (st_in1 hp) x1 M2) (hw.m _ (st_lt1 hp)) (hw.k (st_lt1 hp) (st_k1 hp)) rfl (by decide) rfl ⟨(Nat.le_of_ble_eq_true rfl), (Nat.le_of_ble_eq_true rfl)⟩ ⟨(Nat.le_of_ble_eq_true rfl), (Nat.le_of_ble_eq_true rfl)⟩ (Nat.le_of_ble_eq_true rfl) d_T_passOne_29 (fun x3 M4 => ?_)
    refine G_cVV g (pc := 32) (As := [.int x3]) (st := []) cc_T_172 (c_B_add l hw (p + 3) (st_in3 hp) x3 M4) (hw.m _ (st_lt3 hp)) (hw.k (st_lt3 hp) (st_k3 hp)) rfl (by decide) rfl ⟨(Nat.le_of_ble_eq_true rfl), (Nat.le_of_ble_eq_true rfl)⟩ ⟨(Nat.le_of_ble_eq_true rfl), (Nat.le_of_ble_eq_true rfl)⟩ (Nat.le_of_ble_eq_true rfl) d_T_passOne_32 (fun M6 => ?_)
    refine G_aload_n g (pc := 35) 1 d_T_passOne_35 rfl rfl ?_
    refine G_getR g (pc := 36) fa_T_12 (hw.m _ (st_lt0 hp)) (hw.k (st_lt0 hp) (st_k0 hp)) (hw.r (st_lt0 hp) (st_r0_0 hp rr)) d_T_passOne_36 ?_
    refine G_iload_n g (pc := 39) 0 d_T_passOne_39 rfl rfl ?_
    refine G_cVV g (pc := 40) (As := [.int x1]) (st := []) cc_T_174 (c_K_passTick l hw (p + 1) (st_in1 hp) x1 M6) (hw.m _ (st_lt1 hp)) (hw.k (st_lt1 hp) (st_k1 hp)) rfl (by decide) rfl ⟨(Nat.le_of_ble_eq_true rfl), (Nat.le_of_ble_eq_true rfl)⟩ ⟨(Nat.le_of_ble_eq_true rfl), (Nat.le_of_ble_eq_true rfl)⟩ (Nat.le_of_ble_eq_true rfl) d_T_passOne_40 (fun M8 => ?_)
    refine G_aload_n g (pc := 43) 1 d_T_passOne_43 rfl rfl ?_
    refine G_getR g (pc := 44) fa_T_12 (hw.m _ (st_lt0 hp)) (hw.k (st_lt0 hp) (st_k0 hp)) (hw.r (st_lt0 hp) (st_r0_0 hp rr)) d_T_passOne_44 ?_
    refine G_getN g (pc := 47) fa_T_101 (hw.m _ (st_lt1 hp)) (hw.k (st_lt1 hp) (st_k1 hp)) d_T_passOne_47 ?_
    refine G_iconst g (pc := 50) (1 : Int32) d_T_passOne_50 rfl ?_
    refine G_icmp_ne g (pc := 51) 111 d_T_passOne_51 (by decide) ?_ ?_
    · refine G_aload_n g (pc := 54) 1 d_T_passOne_54 rfl rfl ?_
      refine G_get g (pc := 55) fa_T_45 (hw.m _ (st_lt0 hp)) (hw.k (st_lt0 hp) (st_k0 hp)) d_T_passOne_55 ?_
      refine G_if_le g (pc := 58) 111 d_T_passOne_58 (by decide) ?_ ?_
      · refine G_aload_n g (pc := 61) 1 d_T_passOne_61 rfl rfl ?_
        refine G_getR g (pc := 62) fa_T_12 (hw.m _ (st_lt0 hp)) (hw.k (st_lt0 hp) (st_k0 hp)) (hw.r (st_lt0 hp) (st_r0_0 hp rr)) d_T_passOne_62 ?_
        refine G_getN g (pc := 65) fa_T_177 (hw.m _ (st_lt1 hp)) (hw.k (st_lt1 hp) (st_k1 hp)) d_T_passOne_65 ?_
        refine G_aload_n g (pc := 68) 1 d_T_passOne_68 rfl rfl ?_
        refine G_get g (pc := 69) fa_T_45 (hw.m _ (st_lt0 hp)) (hw.k (st_lt0 hp) (st_k0 hp)) d_T_passOne_69 ?_
        refine G_irem g (pc := 72) d_T_passOne_72 ?_
        refine G_if_ne g (pc := 73) 111 d_T_passOne_73 (by decide) ?_ ?_
        · refine G_aload_n g (pc := 76) 1 d_T_passOne_76 rfl rfl ?_
          refine G_getR g (pc := 77) fa_T_38 (hw.m _ (st_lt0 hp)) (hw.k (st_lt0 hp) (st_k0 hp)) (hw.r (st_lt0 hp) (st_r0_4 hp rr)) d_T_passOne_77 ?_
          refine G_aload_n g (pc := 80) 1 d_T_passOne_80 rfl rfl ?_
          refine G_get g (pc := 81) fa_T_48 (hw.m _ (st_lt0 hp)) (hw.k (st_lt0 hp) (st_k0 hp)) d_T_passOne_81 ?_
          refine G_aload_n g (pc := 84) 1 d_T_passOne_84 rfl rfl ?_
          refine G_getR g (pc := 85) fa_T_12 (hw.m _ (st_lt0 hp)) (hw.k (st_lt0 hp) (st_k0 hp)) (hw.r (st_lt0 hp) (st_r0_0 hp rr)) d_T_passOne_85 ?_
          refine G_getN g (pc := 88) fa_T_180 (hw.m _ (st_lt1 hp)) (hw.k (st_lt1 hp) (st_k1 hp)) d_T_passOne_88 ?_
          refine G_aload_n g (pc := 91) 1 d_T_passOne_91 rfl rfl ?_
          refine G_getR g (pc := 92) fa_T_29 (hw.m _ (st_lt0 hp)) (hw.k (st_lt0 hp) (st_k0 hp)) (hw.r (st_lt0 hp) (st_r0_3 hp rr)) d_T_passOne_92 ?_
          refine G_cVI g (pc := 95) (As := []) (st := [.int (M8 (p + 1) 1), .int (M8 p 7), .ref (wad w (p + 5))]) cc_T_183 (c_B_greatest l N hw (p + 3) (st_in3 hp) M8) (hw.m _ (st_lt3 hp)) (hw.k (st_lt3 hp) (st_k3 hp)) rfl (by decide) rfl ⟨(Nat.le_of_ble_eq_true rfl), (Nat.le_of_ble_eq_true rfl)⟩ ⟨(Nat.le_of_ble_eq_true rfl), (Nat.le_of_ble_eq_true rfl)⟩ (Nat.le_of_ble_eq_true rfl) d_T_passOne_95 (fun x9 M10 => ?_)
          refine G_cVV g (pc := 98) (As := [.int (M8 p 7), .int (M8 (p + 1) 1), .int x9]) (st := []) cc_T_162 (c_S_add l hw (p + 5) (st_in5 hp) (M8 p 7) (M8 (p + 1) 1) x9 M10) (hw.m _ (st_lt5 hp)) (hw.k (st_lt5 hp) (st_k5 hp)) rfl (by decide) rfl ⟨(Nat.le_of_ble_eq_true rfl), (Nat.le_of_ble_eq_true rfl)⟩ ⟨(Nat.le_of_ble_eq_true rfl), (Nat.le_of_ble_eq_true rfl)⟩ (Nat.le_of_ble_eq_true rfl) d_T_passOne_98 (fun M12 => ?_)
          refine G_aload_n g (pc := 101) 1 d_T_passOne_101 rfl rfl ?_
          refine G_dup g (pc := 102) d_T_passOne_102 rfl ?_
          refine G_get g (pc := 103) fa_T_51 (hw.m _ (st_lt0 hp)) (hw.k (st_lt0 hp) (st_k0 hp)) d_T_passOne_103 ?_
          refine G_iconst g (pc := 106) (1 : Int32) d_T_passOne_106 rfl ?_
          refine G_iadd g (pc := 107) d_T_passOne_107 ?_
          refine G_put g (pc := 108) fa_T_51 fw_5_8 rfl rfl (hw.m _ (st_lt0 hp)) (hw.k (st_lt0 hp) (st_k0 hp)) d_T_passOne_108 ?_
          refine G_nmM (fun M13 => ?_)
          refine G_aload_n g (pc := 111) 1 d_T_passOne_111 rfl rfl ?_
          refine G_dup g (pc := 112) d_T_passOne_112 rfl ?_
          refine G_get g (pc := 113) fa_T_48 (hw.m _ (st_lt0 hp)) (hw.k (st_lt0 hp) (st_k0 hp)) d_T_passOne_113 ?_
          refine G_iconst g (pc := 116) (1 : Int32) d_T_passOne_116 rfl ?_
          refine G_iadd g (pc := 117) d_T_passOne_117 ?_
          refine G_put g (pc := 118) fa_T_48 fw_5_7 rfl rfl (hw.m _ (st_lt0 hp)) (hw.k (st_lt0 hp) (st_k0 hp)) d_T_passOne_118 ?_
          refine G_nmM (fun M14 => ?_)
          exact G_return g (pc := 121) hret (Nat.le_of_ble_eq_true rfl) (Nat.le_of_ble_eq_true rfl) d_T_passOne_121
        · refine G_aload_n g (pc := 111) 1 d_T_passOne_111 rfl rfl ?_
          refine G_dup g (pc := 112) d_T_passOne_112 rfl ?_
          refine G_get g (pc := 113) fa_T_48 (hw.m _ (st_lt0 hp)) (hw.k (st_lt0 hp) (st_k0 hp)) d_T_passOne_113 ?_
          refine G_iconst g (pc := 116) (1 : Int32) d_T_passOne_116 rfl ?_
          refine G_iadd g (pc := 117) d_T_passOne_117 ?_
          refine G_put g (pc := 118) fa_T_48 fw_5_7 rfl rfl (hw.m _ (st_lt0 hp)) (hw.k (st_lt0 hp) (st_k0 hp)) d_T_passOne_118 ?_
          refine G_nmM (fun M15 => ?_)
          exact G_return g (pc := 121) hret (Nat.le_of_ble_eq_true rfl) (Nat.le_of_ble_eq_true rfl) d_T_passOne_121
      · refine G_aload_n g (pc := 111) 1 d_T_passOne_111 rfl rfl ?_
        refine G_dup g (pc := 112) d_T_passOne_112 rfl ?_
        refine G_get g (pc := 113) fa_T_48 (hw.m _ (st_lt0 hp)) (hw.k (st_lt0 hp) (st_k0 hp)) d_T_passOne_113 ?_
        refine G_iconst g (pc := 116) (1 : Int32) d_T_passOne_116 rfl ?_
        refine G_iadd g (pc := 117) d_T_passOne_117 ?_
        refine G_put g (pc := 118) fa_T_48 fw_5_7 rfl rfl (hw.m _ (st_lt0 hp)) (hw.k (st_lt0 hp) (st_k0 hp)) d_T_passOne_118 ?_
        refine G_nmM (fun M16 => ?_)
        exact G_return g (pc := 121) hret (Nat.le_of_ble_eq_true rfl) (Nat.le_of_ble_eq_true rfl) d_T_passOne_121
    · refine G_aload_n g (pc := 111) 1 d_T_passOne_111 rfl rfl ?_
      refine G_dup g (pc := 112) d_T_passOne_112 rfl ?_
      refine G_get g (pc := 113) fa_T_48 (hw.m _ (st_lt0 hp)) (hw.k (st_lt0 hp) (st_k0 hp)) d_T_passOne_113 ?_
      refine G_iconst g (pc := 116) (1 : Int32) d_T_passOne_116 rfl ?_
      refine G_iadd g (pc := 117) d_T_passOne_117 ?_
      refine G_put g (pc := 118) fa_T_48 fw_5_7 rfl rfl (hw.m _ (st_lt0 hp)) (hw.k (st_lt0 hp) (st_k0 hp)) d_T_passOne_118 ?_
      refine G_nmM (fun M17 => ?_)
      exact G_return g (pc := 121) hret (Nat.le_of_ble_eq_true rfl) (Nat.le_of_ble_eq_true rfl) d_T_passOne_121
  · refine G_aload_n g (pc := 35) 1 d_T_passOne_35 rfl rfl ?_
    refine G_getR g (pc := 36) fa_T_12 (hw.m _ (st_lt0 hp)) (hw.k (st_lt0 hp) (st_k0 hp)) (hw.r (st_lt0 hp) (st_r0_0 hp rr)) d_T_passOne_36 ?_
    refine G_iload_n g (pc := 39) 0 d_T_passOne_39 rfl rfl ?_
    refine G_cVV g (pc := 40) (As := [.int x1]) (st := []) cc_T_174 (c_K_passTick l hw (p + 1) (st_in1 hp) x1 M2) (hw.m _ (st_lt1 hp)) (hw.k (st_lt1 hp) (st_k1 hp)) rfl (by decide) rfl ⟨(Nat.le_of_ble_eq_true rfl), (Nat.le_of_ble_eq_true rfl)⟩ ⟨(Nat.le_of_ble_eq_true rfl), (Nat.le_of_ble_eq_true rfl)⟩ (Nat.le_of_ble_eq_true rfl) d_T_passOne_40 (fun M19 => ?_)
    refine G_aload_n g (pc := 43) 1 d_T_passOne_43 rfl rfl ?_
    refine G_getR g (pc := 44) fa_T_12 (hw.m _ (st_lt0 hp)) (hw.k (st_lt0 hp) (st_k0 hp)) (hw.r (st_lt0 hp) (st_r0_0 hp rr)) d_T_passOne_44 ?_
    refine G_getN g (pc := 47) fa_T_101 (hw.m _ (st_lt1 hp)) (hw.k (st_lt1 hp) (st_k1 hp)) d_T_passOne_47 ?_
    refine G_iconst g (pc := 50) (1 : Int32) d_T_passOne_50 rfl ?_
    refine G_icmp_ne g (pc := 51) 111 d_T_passOne_51 (by decide) ?_ ?_
    · refine G_aload_n g (pc := 54) 1 d_T_passOne_54 rfl rfl ?_
      refine G_get g (pc := 55) fa_T_45 (hw.m _ (st_lt0 hp)) (hw.k (st_lt0 hp) (st_k0 hp)) d_T_passOne_55 ?_
      refine G_if_le g (pc := 58) 111 d_T_passOne_58 (by decide) ?_ ?_
      · refine G_aload_n g (pc := 61) 1 d_T_passOne_61 rfl rfl ?_
        refine G_getR g (pc := 62) fa_T_12 (hw.m _ (st_lt0 hp)) (hw.k (st_lt0 hp) (st_k0 hp)) (hw.r (st_lt0 hp) (st_r0_0 hp rr)) d_T_passOne_62 ?_
        refine G_getN g (pc := 65) fa_T_177 (hw.m _ (st_lt1 hp)) (hw.k (st_lt1 hp) (st_k1 hp)) d_T_passOne_65 ?_
        refine G_aload_n g (pc := 68) 1 d_T_passOne_68 rfl rfl ?_
        refine G_get g (pc := 69) fa_T_45 (hw.m _ (st_lt0 hp)) (hw.k (st_lt0 hp) (st_k0 hp)) d_T_passOne_69 ?_
        refine G_irem g (pc := 72) d_T_passOne_72 ?_
        refine G_if_ne g (pc := 73) 111 d_T_passOne_73 (by decide) ?_ ?_
        · refine G_aload_n g (pc := 76) 1 d_T_passOne_76 rfl rfl ?_
          refine G_getR g (pc := 77) fa_T_38 (hw.m _ (st_lt0 hp)) (hw.k (st_lt0 hp) (st_k0 hp)) (hw.r (st_lt0 hp) (st_r0_4 hp rr)) d_T_passOne_77 ?_
          refine G_aload_n g (pc := 80) 1 d_T_passOne_80 rfl rfl ?_
          refine G_get g (pc := 81) fa_T_48 (hw.m _ (st_lt0 hp)) (hw.k (st_lt0 hp) (st_k0 hp)) d_T_passOne_81 ?_
          refine G_aload_n g (pc := 84) 1 d_T_passOne_84 rfl rfl ?_
          refine G_getR g (pc := 85) fa_T_12 (hw.m _ (st_lt0 hp)) (hw.k (st_lt0 hp) (st_k0 hp)) (hw.r (st_lt0 hp) (st_r0_0 hp rr)) d_T_passOne_85 ?_
          refine G_getN g (pc := 88) fa_T_180 (hw.m _ (st_lt1 hp)) (hw.k (st_lt1 hp) (st_k1 hp)) d_T_passOne_88 ?_
          refine G_aload_n g (pc := 91) 1 d_T_passOne_91 rfl rfl ?_
          refine G_getR g (pc := 92) fa_T_29 (hw.m _ (st_lt0 hp)) (hw.k (st_lt0 hp) (st_k0 hp)) (hw.r (st_lt0 hp) (st_r0_3 hp rr)) d_T_passOne_92 ?_
          refine G_cVI g (pc := 95) (As := []) (st := [.int (M19 (p + 1) 1), .int (M19 p 7), .ref (wad w (p + 5))]) cc_T_183 (c_B_greatest l N hw (p + 3) (st_in3 hp) M19) (hw.m _ (st_lt3 hp)) (hw.k (st_lt3 hp) (st_k3 hp)) rfl (by decide) rfl ⟨(Nat.le_of_ble_eq_true rfl), (Nat.le_of_ble_eq_true rfl)⟩ ⟨(Nat.le_of_ble_eq_true rfl), (Nat.le_of_ble_eq_true rfl)⟩ (Nat.le_of_ble_eq_true rfl) d_T_passOne_95 (fun x20 M21 => ?_)
          refine G_cVV g (pc := 98) (As := [.int (M19 p 7), .int (M19 (p + 1) 1), .int x20]) (st := []) cc_T_162 (c_S_add l hw (p + 5) (st_in5 hp) (M19 p 7) (M19 (p + 1) 1) x20 M21) (hw.m _ (st_lt5 hp)) (hw.k (st_lt5 hp) (st_k5 hp)) rfl (by decide) rfl ⟨(Nat.le_of_ble_eq_true rfl), (Nat.le_of_ble_eq_true rfl)⟩ ⟨(Nat.le_of_ble_eq_true rfl), (Nat.le_of_ble_eq_true rfl)⟩ (Nat.le_of_ble_eq_true rfl) d_T_passOne_98 (fun M23 => ?_)
          refine G_aload_n g (pc := 101) 1 d_T_passOne_101 rfl rfl ?_
          refine G_dup g (pc := 102) d_T_passOne_102 rfl ?_
          refine G_get g (pc := 103) fa_T_51 (hw.m _ (st_lt0 hp)) (hw.k (st_lt0 hp) (st_k0 hp)) d_T_passOne_103 ?_
          refine G_iconst g (pc := 106) (1 : Int32) d_T_passOne_106 rfl ?_
          refine G_iadd g (pc := 107) d_T_passOne_107 ?_
          refine G_put g (pc := 108) fa_T_51 fw_5_8 rfl rfl (hw.m _ (st_lt0 hp)) (hw.k (st_lt0 hp) (st_k0 hp)) d_T_passOne_108 ?_
          refine G_nmM (fun M24 => ?_)
          refine G_aload_n g (pc := 111) 1 d_T_passOne_111 rfl rfl ?_
          refine G_dup g (pc := 112) d_T_passOne_112 rfl ?_
          refine G_get g (pc := 113) fa_T_48 (hw.m _ (st_lt0 hp)) (hw.k (st_lt0 hp) (st_k0 hp)) d_T_passOne_113 ?_
          refine G_iconst g (pc := 116) (1 : Int32) d_T_passOne_116 rfl ?_
          refine G_iadd g (pc := 117) d_T_passOne_117 ?_
          refine G_put g (pc := 118) fa_T_48 fw_5_7 rfl rfl (hw.m _ (st_lt0 hp)) (hw.k (st_lt0 hp) (st_k0 hp)) d_T_passOne_118 ?_
          refine G_nmM (fun M25 => ?_)
          exact G_return g (pc := 121) hret (Nat.le_of_ble_eq_true rfl) (Nat.le_of_ble_eq_true rfl) d_T_passOne_121
        · refine G_aload_n g (pc := 111) 1 d_T_passOne_111 rfl rfl ?_
          refine G_dup g (pc := 112) d_T_passOne_112 rfl ?_
          refine G_get g (pc := 113) fa_T_48 (hw.m _ (st_lt0 hp)) (hw.k (st_lt0 hp) (st_k0 hp)) d_T_passOne_113 ?_
          refine G_iconst g (pc := 116) (1 : Int32) d_T_passOne_116 rfl ?_
          refine G_iadd g (pc := 117) d_T_passOne_117 ?_
          refine G_put g (pc := 118) fa_T_48 fw_5_7 rfl rfl (hw.m _ (st_lt0 hp)) (hw.k (st_lt0 hp) (st_k0 hp)) d_T_passOne_118 ?_
          refine G_nmM (fun M26 => ?_)
          exact G_return g (pc := 121) hret (Nat.le_of_ble_eq_true rfl) (Nat.le_of_ble_eq_true rfl) d_T_passOne_121
      · refine G_aload_n g (pc := 111) 1 d_T_passOne_111 rfl rfl ?_
        refine G_dup g (pc := 112) d_T_passOne_112 rfl ?_
        refine G_get g (pc := 113) fa_T_48 (hw.m _ (st_lt0 hp)) (hw.k (st_lt0 hp) (st_k0 hp)) d_T_passOne_113 ?_
        refine G_iconst g (pc := 116) (1 : Int32) d_T_passOne_116 rfl ?_
        refine G_iadd g (pc := 117) d_T_passOne_117 ?_
        refine G_put g (pc := 118) fa_T_48 fw_5_7 rfl rfl (hw.m _ (st_lt0 hp)) (hw.k (st_lt0 hp) (st_k0 hp)) d_T_passOne_118 ?_
        refine G_nmM (fun M27 => ?_)
        exact G_return g (pc := 121) hret (Nat.le_of_ble_eq_true rfl) (Nat.le_of_ble_eq_true rfl) d_T_passOne_121
    · refine G_aload_n g (pc := 111) 1 d_T_passOne_111 rfl rfl ?_
      refine G_dup g (pc := 112) d_T_passOne_112 rfl ?_
      refine G_get g (pc := 113) fa_T_48 (hw.m _ (st_lt0 hp)) (hw.k (st_lt0 hp) (st_k0 hp)) d_T_passOne_113 ?_
      refine G_iconst g (pc := 116) (1 : Int32) d_T_passOne_116 rfl ?_
      refine G_iadd g (pc := 117) d_T_passOne_117 ?_
      refine G_put g (pc := 118) fa_T_48 fw_5_7 rfl rfl (hw.m _ (st_lt0 hp)) (hw.k (st_lt0 hp) (st_k0 hp)) d_T_passOne_118 ?_
      refine G_nmM (fun M28 => ?_)
      exact G_return g (pc := 121) hret (Nat.le_of_ble_eq_true rfl) (Nat.le_of_ble_eq_true rfl) d_T_passOne_121

theorem d_T_passMany_0 : decode b_T_passMany 0 = .ok (.aload_n 0, 1) := by decide +kernel
theorem d_T_passMany_1 : decode b_T_passMany 1 = .ok (.getfield 51, 3) := by decide +kernel
theorem d_T_passMany_4 : decode b_T_passMany 4 = .ok (.istore_n 2, 1) := by decide +kernel
theorem d_T_passMany_5 : decode b_T_passMany 5 = .ok (.iconst 0, 1) := by decide +kernel
theorem d_T_passMany_6 : decode b_T_passMany 6 = .ok (.istore_n 3, 1) := by decide +kernel
theorem d_T_passMany_7 : decode b_T_passMany 7 = .ok (.iload_n 3, 1) := by decide +kernel
theorem d_T_passMany_8 : decode b_T_passMany 8 = .ok (.iload_n 1, 1) := by decide +kernel
theorem d_T_passMany_9 : decode b_T_passMany 9 = .ok (.if_icmp .ge 13, 3) := by decide +kernel
theorem d_T_passMany_12 : decode b_T_passMany 12 = .ok (.aload_n 0, 1) := by decide +kernel
theorem d_T_passMany_13 : decode b_T_passMany 13 = .ok (.invokevirtual 166, 3) := by decide +kernel
theorem d_T_passMany_16 : decode b_T_passMany 16 = .ok (.iinc 3 1, 3) := by decide +kernel
theorem d_T_passMany_19 : decode b_T_passMany 19 = .ok (.goto (-12), 3) := by decide +kernel
theorem d_T_passMany_22 : decode b_T_passMany 22 = .ok (.aload_n 0, 1) := by decide +kernel
theorem d_T_passMany_23 : decode b_T_passMany 23 = .ok (.getfield 51, 3) := by decide +kernel
theorem d_T_passMany_26 : decode b_T_passMany 26 = .ok (.iload_n 2, 1) := by decide +kernel
theorem d_T_passMany_27 : decode b_T_passMany 27 = .ok (.isub, 1) := by decide +kernel
theorem d_T_passMany_28 : decode b_T_passMany 28 = .ok (.ireturn, 1) := by decide +kernel
theorem cc_T_166 : CV "KiteLogger$Station" 166 y_T_passOne b_T_passOne 2 none 0 := ⟨TT_in (i := 1091) (by decide +kernel) (by decide +kernel), TT_in (i := 1093) (by decide +kernel) (by decide +kernel), TT_in (i := 16) (by decide +kernel) (by decide +kernel), TT_in (i := 24) (by decide +kernel) (by decide +kernel), TT_in (i := 1094) (by decide +kernel) (by decide +kernel), ⟨by decide +kernel, by decide +kernel, by decide +kernel⟩⟩
def lp_T_passMany_7 (N0 rr : Nat) (p : Nat) (a1 : Int32) (c2 : Int32) : Nat → Int32 → Mem → (Int32 → Mem → Option (Int32 × Mem)) → Option (Int32 × Mem)
  | 0, _, _, _ => none
  | N + 1, v7, M, k7 => if v7 < a1 then (bndM (f_T_passOne N0 rr p M) fun (M3 : Mem) => nm (v7 + (1 : Int32)) fun (x4 : Int32) => lp_T_passMany_7 N0 rr p a1 c2 N x4 M3 k7) else (k7 v7 M)
def f_T_passMany (N : Nat) (rr : Nat) (p : Nat) (a1 : Int32) (M : Mem) : Option (Int32 × Mem) :=
  nm (M p 8) fun (x1 : Int32) => lp_T_passMany_7 N rr p a1 x1 N (0 : Int32) M (fun (a6 : Int32) (M5 : Mem) => some ((M5 p 8) - x1, M5))
set_option maxHeartbeats 4000000 in
set_option maxRecDepth 100000 in
theorem c_T_passMany (l : Launch) (N : Nat) {w : Wc} {rr : Nat} (hw : WK w rr) (p : Nat) (hp : p ∈ stL) (a1 : Int32) (M : Mem) : Ct QI l y_T_passMany b_T_passMany 4 (some .int) (rmL 4) w [.ref (wad w p), .int a1] M (f_T_passMany N rr p a1 M) := by
  refine Ct.go (by decide) (L := [(0, .ref (wad w p)), (1, .int a1)]) rfl (Nat.le_of_ble_eq_true rfl) (fun p0 e s m args below meth c g hret => ?_)
  unfold f_T_passMany
  refine G_aload_n g (pc := 0) 0 d_T_passMany_0 rfl rfl ?_
  refine G_get g (pc := 1) fa_T_51 (hw.m _ (st_lt0 hp)) (hw.k (st_lt0 hp) (st_k0 hp)) d_T_passMany_1 ?_
  refine G_nmI (fun x1 => ?_)
  refine G_istore_n g (pc := 4) _ d_T_passMany_4 rfl (Nat.le_of_ble_eq_true rfl) rfl ?_
  refine G_iconst g (pc := 5) (0 : Int32) d_T_passMany_5 rfl ?_
  refine G_istore_n g (pc := 6) _ d_T_passMany_6 rfl (Nat.le_of_ble_eq_true rfl) rfl ?_
  refine G_sub [2, 3, 1, 0] _ rfl ?_
  refine G_loop (F := lp_T_passMany_7 N rr p a1 x1) 7 22 (fun (v7 : Int32) => [(0, .ref (wad w p)), (1, .int a1), (2, .int x1), (3, .int v7)]) (fun (v7 : Int32) => [(0, .ref (wad w p)), (1, .int a1), (2, .int x1), (3, .int v7)]) (fun _ _ _ => rfl) (fun a6 M5 => ?_) (fun k7 hk7 Nl7 ih7 v7 M => ?_) N (0 : Int32) M
  · refine G_aload_n g (pc := 22) 0 d_T_passMany_22 rfl rfl ?_
    refine G_get g (pc := 23) fa_T_51 (hw.m _ (st_lt0 hp)) (hw.k (st_lt0 hp) (st_k0 hp)) d_T_passMany_23 ?_
    refine G_iload_n g (pc := 26) 2 d_T_passMany_26 rfl rfl ?_
    refine G_isub g (pc := 27) d_T_passMany_27 ?_
    exact G_ireturn g (pc := 28) hret (Nat.le_of_ble_eq_true rfl) (Nat.le_of_ble_eq_true rfl) d_T_passMany_28
  · show Go p0 l e _ s m args below meth c w _ _ _ _ (lp_T_passMany_7 N rr p a1 x1 (Nl7 + 1) v7 M k7) 7 _ _ M
    unfold lp_T_passMany_7
    refine G_iload_n g (pc := 7) 3 d_T_passMany_7 rfl rfl ?_
    refine G_iload_n g (pc := 8) 1 d_T_passMany_8 rfl rfl ?_
    refine G_icmp_ge g (pc := 9) 22 d_T_passMany_9 (by decide) ?_ ?_
    · refine G_aload_n g (pc := 12) 0 d_T_passMany_12 rfl rfl ?_
      refine G_cVV g (pc := 13) (As := []) (st := []) cc_T_166 (c_T_passOne l N hw p hp M) (hw.m _ (st_lt0 hp)) (hw.k (st_lt0 hp) (st_k0 hp)) rfl (by decide) rfl ⟨(Nat.le_of_ble_eq_true rfl), (Nat.le_of_ble_eq_true rfl)⟩ ⟨(Nat.le_of_ble_eq_true rfl), (Nat.le_of_ble_eq_true rfl)⟩ (Nat.le_of_ble_eq_true rfl) d_T_passMany_13 (fun M3 => ?_)
      refine G_nmX (v7 + (1 : Int32)) (fun x4 e_x4 => ?_)
      refine G_iinc g (pc := 16) x4 _ 3 d_T_passMany_16 rfl e_x4.symm (Nat.le_of_ble_eq_true rfl) rfl ?_
      refine G_goto g (pc := 19) 7 d_T_passMany_19 (by decide) ?_
      refine G_sub [1, 2, 3, 0] _ rfl ?_
      exact ih7 x4 M3
    · refine G_sub [0, 1, 2, 3] _ rfl ?_
      exact hk7 v7 M

theorem d_T_perform_0 : decode b_T_perform 0 = .ok (.iload_n 1, 1) := by decide +kernel
theorem d_T_perform_1 : decode b_T_perform 1 = .ok (.tableswitch 116 1 8 #[47, 62, 71, 80, 90, 96, 105, 110], 47) := by decide +kernel
theorem d_T_perform_48 : decode b_T_perform 48 = .ok (.aload_n 0, 1) := by decide +kernel
theorem d_T_perform_49 : decode b_T_perform 49 = .ok (.getfield 29, 3) := by decide +kernel
theorem d_T_perform_52 : decode b_T_perform 52 = .ok (.invokevirtual 75, 3) := by decide +kernel
theorem d_T_perform_55 : decode b_T_perform 55 = .ok (.aload_n 0, 1) := by decide +kernel
theorem d_T_perform_56 : decode b_T_perform 56 = .ok (.getfield 12, 3) := by decide +kernel
theorem d_T_perform_59 : decode b_T_perform 59 = .ok (.invokevirtual 129, 3) := by decide +kernel
theorem d_T_perform_62 : decode b_T_perform 62 = .ok (.ireturn, 1) := by decide +kernel
theorem d_T_perform_63 : decode b_T_perform 63 = .ok (.aload_n 0, 1) := by decide +kernel
theorem d_T_perform_64 : decode b_T_perform 64 = .ok (.getfield 12, 3) := by decide +kernel
theorem d_T_perform_67 : decode b_T_perform 67 = .ok (.iload_n 2, 1) := by decide +kernel
theorem d_T_perform_68 : decode b_T_perform 68 = .ok (.invokevirtual 132, 3) := by decide +kernel
theorem d_T_perform_71 : decode b_T_perform 71 = .ok (.ireturn, 1) := by decide +kernel
theorem d_T_perform_72 : decode b_T_perform 72 = .ok (.aload_n 0, 1) := by decide +kernel
theorem d_T_perform_73 : decode b_T_perform 73 = .ok (.getfield 12, 3) := by decide +kernel
theorem d_T_perform_76 : decode b_T_perform 76 = .ok (.iload_n 2, 1) := by decide +kernel
theorem d_T_perform_77 : decode b_T_perform 77 = .ok (.invokevirtual 135, 3) := by decide +kernel
theorem d_T_perform_80 : decode b_T_perform 80 = .ok (.ireturn, 1) := by decide +kernel
theorem d_T_perform_81 : decode b_T_perform 81 = .ok (.aload_n 0, 1) := by decide +kernel
theorem d_T_perform_82 : decode b_T_perform 82 = .ok (.getfield 12, 3) := by decide +kernel
theorem d_T_perform_85 : decode b_T_perform 85 = .ok (.iload_n 2, 1) := by decide +kernel
theorem d_T_perform_86 : decode b_T_perform 86 = .ok (.iload_n 3, 1) := by decide +kernel
theorem d_T_perform_87 : decode b_T_perform 87 = .ok (.invokevirtual 138, 3) := by decide +kernel
theorem d_T_perform_90 : decode b_T_perform 90 = .ok (.ireturn, 1) := by decide +kernel
theorem d_T_perform_91 : decode b_T_perform 91 = .ok (.aload_n 0, 1) := by decide +kernel
theorem d_T_perform_92 : decode b_T_perform 92 = .ok (.iload_n 2, 1) := by decide +kernel
theorem d_T_perform_93 : decode b_T_perform 93 = .ok (.invokevirtual 141, 3) := by decide +kernel
theorem d_T_perform_96 : decode b_T_perform 96 = .ok (.ireturn, 1) := by decide +kernel
theorem d_T_perform_97 : decode b_T_perform 97 = .ok (.aload_n 0, 1) := by decide +kernel
theorem d_T_perform_98 : decode b_T_perform 98 = .ok (.getfield 12, 3) := by decide +kernel
theorem d_T_perform_101 : decode b_T_perform 101 = .ok (.iload_n 2, 1) := by decide +kernel
theorem d_T_perform_102 : decode b_T_perform 102 = .ok (.invokevirtual 144, 3) := by decide +kernel
theorem d_T_perform_105 : decode b_T_perform 105 = .ok (.ireturn, 1) := by decide +kernel
theorem d_T_perform_106 : decode b_T_perform 106 = .ok (.aload_n 0, 1) := by decide +kernel
theorem d_T_perform_107 : decode b_T_perform 107 = .ok (.invokevirtual 147, 3) := by decide +kernel
theorem d_T_perform_110 : decode b_T_perform 110 = .ok (.ireturn, 1) := by decide +kernel
theorem d_T_perform_111 : decode b_T_perform 111 = .ok (.aload_n 0, 1) := by decide +kernel
theorem d_T_perform_112 : decode b_T_perform 112 = .ok (.iload_n 2, 1) := by decide +kernel
theorem d_T_perform_113 : decode b_T_perform 113 = .ok (.invokevirtual 150, 3) := by decide +kernel
theorem d_T_perform_116 : decode b_T_perform 116 = .ok (.ireturn, 1) := by decide +kernel
theorem d_T_perform_117 : decode b_T_perform 117 = .ok (.iconst 0, 1) := by decide +kernel
theorem d_T_perform_118 : decode b_T_perform 118 = .ok (.ireturn, 1) := by decide +kernel
theorem cc_T_75 : CV "KiteLogger$Station" 75 y_B_empty b_B_empty 1 none 0 := ⟨TT_in (i := 362) (by decide +kernel) (by decide +kernel), TT_in (i := 363) (by decide +kernel) (by decide +kernel), TT_in (i := 364) (by decide +kernel) (by decide +kernel), TT_in (i := 26) (by decide +kernel) (by decide +kernel), TT_in (i := 365) (by decide +kernel) (by decide +kernel), ⟨by decide +kernel, by decide +kernel, by decide +kernel⟩⟩
theorem cc_T_129 : CV "KiteLogger$Station" 129 y_K_rise b_K_rise 1 (some .int) 0 := ⟨TT_in (i := 1049) (by decide +kernel) (by decide +kernel), TT_in (i := 1050) (by decide +kernel) (by decide +kernel), TT_in (i := 1051) (by decide +kernel) (by decide +kernel), TT_in (i := 25) (by decide +kernel) (by decide +kernel), TT_in (i := 1052) (by decide +kernel) (by decide +kernel), ⟨by decide +kernel, by decide +kernel, by decide +kernel⟩⟩
theorem cc_T_132 : CV "KiteLogger$Station" 132 y_K_lengthen b_K_lengthen 2 (some .int) 1 := ⟨TT_in (i := 1053) (by decide +kernel) (by decide +kernel), TT_in (i := 1054) (by decide +kernel) (by decide +kernel), TT_in (i := 1055) (by decide +kernel) (by decide +kernel), TT_in (i := 25) (by decide +kernel) (by decide +kernel), TT_in (i := 1056) (by decide +kernel) (by decide +kernel), ⟨by decide +kernel, by decide +kernel, by decide +kernel⟩⟩
theorem cc_T_135 : CV "KiteLogger$Station" 135 y_K_shorten b_K_shorten 2 (some .int) 1 := ⟨TT_in (i := 1057) (by decide +kernel) (by decide +kernel), TT_in (i := 1058) (by decide +kernel) (by decide +kernel), TT_in (i := 1059) (by decide +kernel) (by decide +kernel), TT_in (i := 25) (by decide +kernel) (by decide +kernel), TT_in (i := 1060) (by decide +kernel) (by decide +kernel), ⟨by decide +kernel, by decide +kernel, by decide +kernel⟩⟩
theorem cc_T_138 : CV "KiteLogger$Station" 138 y_K_renewBridle b_K_renewBridle 4 (some .int) 2 := ⟨TT_in (i := 1061) (by decide +kernel) (by decide +kernel), TT_in (i := 1062) (by decide +kernel) (by decide +kernel), TT_in (i := 1063) (by decide +kernel) (by decide +kernel), TT_in (i := 25) (by decide +kernel) (by decide +kernel), TT_in (i := 1064) (by decide +kernel) (by decide +kernel), ⟨by decide +kernel, by decide +kernel, by decide +kernel⟩⟩
theorem cc_T_141 : CV "KiteLogger$Station" 141 y_T_changeInterval b_T_changeInterval 3 (some .int) 1 := ⟨TT_in (i := 1065) (by decide +kernel) (by decide +kernel), TT_in (i := 1067) (by decide +kernel) (by decide +kernel), TT_in (i := 13) (by decide +kernel) (by decide +kernel), TT_in (i := 24) (by decide +kernel) (by decide +kernel), TT_in (i := 1068) (by decide +kernel) (by decide +kernel), ⟨by decide +kernel, by decide +kernel, by decide +kernel⟩⟩
theorem cc_T_144 : CV "KiteLogger$Station" 144 y_K_searchAt b_K_searchAt 4 (some .int) 1 := ⟨TT_in (i := 1069) (by decide +kernel) (by decide +kernel), TT_in (i := 1070) (by decide +kernel) (by decide +kernel), TT_in (i := 1071) (by decide +kernel) (by decide +kernel), TT_in (i := 25) (by decide +kernel) (by decide +kernel), TT_in (i := 1072) (by decide +kernel) (by decide +kernel), ⟨by decide +kernel, by decide +kernel, by decide +kernel⟩⟩
theorem cc_T_147 : CV "KiteLogger$Station" 147 y_T_moveSamples b_T_moveSamples 3 (some .int) 0 := ⟨TT_in (i := 1074) (by decide +kernel) (by decide +kernel), TT_in (i := 1076) (by decide +kernel) (by decide +kernel), TT_in (i := 14) (by decide +kernel) (by decide +kernel), TT_in (i := 24) (by decide +kernel) (by decide +kernel), TT_in (i := 1077) (by decide +kernel) (by decide +kernel), ⟨by decide +kernel, by decide +kernel, by decide +kernel⟩⟩
theorem cc_T_150 : CV "KiteLogger$Station" 150 y_T_passMany b_T_passMany 4 (some .int) 1 := ⟨TT_in (i := 1087) (by decide +kernel) (by decide +kernel), TT_in (i := 1089) (by decide +kernel) (by decide +kernel), TT_in (i := 15) (by decide +kernel) (by decide +kernel), TT_in (i := 24) (by decide +kernel) (by decide +kernel), TT_in (i := 1090) (by decide +kernel) (by decide +kernel), ⟨by decide +kernel, by decide +kernel, by decide +kernel⟩⟩
def f_T_perform (N : Nat) (rr : Nat) (p : Nat) (a1 : Int32) (a2 : Int32) (a3 : Int32) (M : Mem) : Option (Int32 × Mem) :=
  if a1 = (1 : Int32) then (bndM (f_B_empty (p + 3) M) fun (M2 : Mem) => bnd (f_K_rise (p + 1) M2) fun (x3 : Int32) (M4 : Mem) => some (x3, M4)) else (if a1 = (2 : Int32) then (bnd (f_K_lengthen (p + 1) a2 M) fun (x5 : Int32) (M6 : Mem) => some (x5, M6)) else (if a1 = (3 : Int32) then (bnd (f_K_shorten (p + 1) a2 M) fun (x7 : Int32) (M8 : Mem) => some (x7, M8)) else (if a1 = (4 : Int32) then (bnd (f_K_renewBridle (p + 1) a2 a3 M) fun (x9 : Int32) (M10 : Mem) => some (x9, M10)) else (if a1 = (5 : Int32) then (bnd (f_T_changeInterval p a2 M) fun (x11 : Int32) (M12 : Mem) => some (x11, M12)) else (if a1 = (6 : Int32) then (bnd (f_K_searchAt (p + 1) a2 M) fun (x13 : Int32) (M14 : Mem) => some (x13, M14)) else (if a1 = (7 : Int32) then (bnd (f_T_moveSamples N rr p M) fun (x15 : Int32) (M16 : Mem) => some (x15, M16)) else (if a1 = (8 : Int32) then (bnd (f_T_passMany N rr p a2 M) fun (x17 : Int32) (M18 : Mem) => some (x17, M18)) else (some ((0 : Int32), M)))))))))
set_option maxHeartbeats 4000000 in
set_option maxRecDepth 100000 in
theorem c_T_perform (l : Launch) (N : Nat) {w : Wc} {rr : Nat} (hw : WK w rr) (p : Nat) (hp : p ∈ stL) (a1 : Int32) (a2 : Int32) (a3 : Int32) (M : Mem) : Ct QI l y_T_perform b_T_perform 4 (some .int) (rmL 5) w [.ref (wad w p), .int a1, .int a2, .int a3] M (f_T_perform N rr p a1 a2 a3 M) := by
  refine Ct.go (by decide) (L := [(0, .ref (wad w p)), (1, .int a1), (2, .int a2), (3, .int a3)]) rfl (Nat.le_of_ble_eq_true rfl) (fun p0 e s m args below meth c g hret => ?_)
  unfold f_T_perform
  refine G_iload_n g (pc := 0) 1 d_T_perform_0 rfl rfl ?_
  refine G_case (v := (1 : Int32)) ?_ (fun ne1 => ?_)
  · refine G_tabK g (pc := 1) 48 d_T_perform_1 (by decide) (by decide) rfl (by decide) ?_
    refine G_aload_n g (pc := 48) 0 d_T_perform_48 rfl rfl ?_
    refine G_getR g (pc := 49) fa_T_29 (hw.m _ (st_lt0 hp)) (hw.k (st_lt0 hp) (st_k0 hp)) (hw.r (st_lt0 hp) (st_r0_3 hp rr)) d_T_perform_49 ?_
    refine G_cVV g (pc := 52) (As := []) (st := []) cc_T_75 (c_B_empty l hw (p + 3) (st_in3 hp) M) (hw.m _ (st_lt3 hp)) (hw.k (st_lt3 hp) (st_k3 hp)) rfl (by decide) rfl ⟨(Nat.le_of_ble_eq_true rfl), (Nat.le_of_ble_eq_true rfl)⟩ ⟨(Nat.le_of_ble_eq_true rfl), (Nat.le_of_ble_eq_true rfl)⟩ (Nat.le_of_ble_eq_true rfl) d_T_perform_52 (fun M2 => ?_)
    refine G_aload_n g (pc := 55) 0 d_T_perform_55 rfl rfl ?_
    refine G_getR g (pc := 56) fa_T_12 (hw.m _ (st_lt0 hp)) (hw.k (st_lt0 hp) (st_k0 hp)) (hw.r (st_lt0 hp) (st_r0_0 hp rr)) d_T_perform_56 ?_
    refine G_cVI g (pc := 59) (As := []) (st := []) cc_T_129 (c_K_rise l hw (p + 1) (st_in1 hp) M2) (hw.m _ (st_lt1 hp)) (hw.k (st_lt1 hp) (st_k1 hp)) rfl (by decide) rfl ⟨(Nat.le_of_ble_eq_true rfl), (Nat.le_of_ble_eq_true rfl)⟩ ⟨(Nat.le_of_ble_eq_true rfl), (Nat.le_of_ble_eq_true rfl)⟩ (Nat.le_of_ble_eq_true rfl) d_T_perform_59 (fun x3 M4 => ?_)
    exact G_ireturn g (pc := 62) hret (Nat.le_of_ble_eq_true rfl) (Nat.le_of_ble_eq_true rfl) d_T_perform_62
  refine G_case (v := (2 : Int32)) ?_ (fun ne2 => ?_)
  · refine G_tabK g (pc := 1) 63 d_T_perform_1 (by decide) (by decide) rfl (by decide) ?_
    refine G_aload_n g (pc := 63) 0 d_T_perform_63 rfl rfl ?_
    refine G_getR g (pc := 64) fa_T_12 (hw.m _ (st_lt0 hp)) (hw.k (st_lt0 hp) (st_k0 hp)) (hw.r (st_lt0 hp) (st_r0_0 hp rr)) d_T_perform_64 ?_
    refine G_iload_n g (pc := 67) 2 d_T_perform_67 rfl rfl ?_
    refine G_cVI g (pc := 68) (As := [.int a2]) (st := []) cc_T_132 (c_K_lengthen l hw (p + 1) (st_in1 hp) a2 M) (hw.m _ (st_lt1 hp)) (hw.k (st_lt1 hp) (st_k1 hp)) rfl (by decide) rfl ⟨(Nat.le_of_ble_eq_true rfl), (Nat.le_of_ble_eq_true rfl)⟩ ⟨(Nat.le_of_ble_eq_true rfl), (Nat.le_of_ble_eq_true rfl)⟩ (Nat.le_of_ble_eq_true rfl) d_T_perform_68 (fun x5 M6 => ?_)
    exact G_ireturn g (pc := 71) hret (Nat.le_of_ble_eq_true rfl) (Nat.le_of_ble_eq_true rfl) d_T_perform_71
  refine G_case (v := (3 : Int32)) ?_ (fun ne3 => ?_)
  · refine G_tabK g (pc := 1) 72 d_T_perform_1 (by decide) (by decide) rfl (by decide) ?_
    refine G_aload_n g (pc := 72) 0 d_T_perform_72 rfl rfl ?_
    refine G_getR g (pc := 73) fa_T_12 (hw.m _ (st_lt0 hp)) (hw.k (st_lt0 hp) (st_k0 hp)) (hw.r (st_lt0 hp) (st_r0_0 hp rr)) d_T_perform_73 ?_
    refine G_iload_n g (pc := 76) 2 d_T_perform_76 rfl rfl ?_
    refine G_cVI g (pc := 77) (As := [.int a2]) (st := []) cc_T_135 (c_K_shorten l hw (p + 1) (st_in1 hp) a2 M) (hw.m _ (st_lt1 hp)) (hw.k (st_lt1 hp) (st_k1 hp)) rfl (by decide) rfl ⟨(Nat.le_of_ble_eq_true rfl), (Nat.le_of_ble_eq_true rfl)⟩ ⟨(Nat.le_of_ble_eq_true rfl), (Nat.le_of_ble_eq_true rfl)⟩ (Nat.le_of_ble_eq_true rfl) d_T_perform_77 (fun x7 M8 => ?_)
    exact G_ireturn g (pc := 80) hret (Nat.le_of_ble_eq_true rfl) (Nat.le_of_ble_eq_true rfl) d_T_perform_80
  refine G_case (v := (4 : Int32)) ?_ (fun ne4 => ?_)
  · refine G_tabK g (pc := 1) 81 d_T_perform_1 (by decide) (by decide) rfl (by decide) ?_
    refine G_aload_n g (pc := 81) 0 d_T_perform_81 rfl rfl ?_
    refine G_getR g (pc := 82) fa_T_12 (hw.m _ (st_lt0 hp)) (hw.k (st_lt0 hp) (st_k0 hp)) (hw.r (st_lt0 hp) (st_r0_0 hp rr)) d_T_perform_82 ?_
    refine G_iload_n g (pc := 85) 2 d_T_perform_85 rfl rfl ?_
    refine G_iload_n g (pc := 86) 3 d_T_perform_86 rfl rfl ?_
    refine G_cVI g (pc := 87) (As := [.int a2, .int a3]) (st := []) cc_T_138 (c_K_renewBridle l hw (p + 1) (st_in1 hp) a2 a3 M) (hw.m _ (st_lt1 hp)) (hw.k (st_lt1 hp) (st_k1 hp)) rfl (by decide) rfl ⟨(Nat.le_of_ble_eq_true rfl), (Nat.le_of_ble_eq_true rfl)⟩ ⟨(Nat.le_of_ble_eq_true rfl), (Nat.le_of_ble_eq_true rfl)⟩ (Nat.le_of_ble_eq_true rfl) d_T_perform_87 (fun x9 M10 => ?_)
    exact G_ireturn g (pc := 90) hret (Nat.le_of_ble_eq_true rfl) (Nat.le_of_ble_eq_true rfl) d_T_perform_90
  refine G_case (v := (5 : Int32)) ?_ (fun ne5 => ?_)
  · refine G_tabK g (pc := 1) 91 d_T_perform_1 (by decide) (by decide) rfl (by decide) ?_
    refine G_aload_n g (pc := 91) 0 d_T_perform_91 rfl rfl ?_
    refine G_iload_n g (pc := 92) 2 d_T_perform_92 rfl rfl ?_
    refine G_cVI g (pc := 93) (As := [.int a2]) (st := []) cc_T_141 (c_T_changeInterval l hw p hp a2 M) (hw.m _ (st_lt0 hp)) (hw.k (st_lt0 hp) (st_k0 hp)) rfl (by decide) rfl ⟨(Nat.le_of_ble_eq_true rfl), (Nat.le_of_ble_eq_true rfl)⟩ ⟨(Nat.le_of_ble_eq_true rfl), (Nat.le_of_ble_eq_true rfl)⟩ (Nat.le_of_ble_eq_true rfl) d_T_perform_93 (fun x11 M12 => ?_)
    exact G_ireturn g (pc := 96) hret (Nat.le_of_ble_eq_true rfl) (Nat.le_of_ble_eq_true rfl) d_T_perform_96
  refine G_case (v := (6 : Int32)) ?_ (fun ne6 => ?_)
  · refine G_tabK g (pc := 1) 97 d_T_perform_1 (by decide) (by decide) rfl (by decide) ?_
    refine G_aload_n g (pc := 97) 0 d_T_perform_97 rfl rfl ?_
    refine G_getR g (pc := 98) fa_T_12 (hw.m _ (st_lt0 hp)) (hw.k (st_lt0 hp) (st_k0 hp)) (hw.r (st_lt0 hp) (st_r0_0 hp rr)) d_T_perform_98 ?_
    refine G_iload_n g (pc := 101) 2 d_T_perform_101 rfl rfl ?_
    refine G_cVI g (pc := 102) (As := [.int a2]) (st := []) cc_T_144 (c_K_searchAt l hw (p + 1) (st_in1 hp) a2 M) (hw.m _ (st_lt1 hp)) (hw.k (st_lt1 hp) (st_k1 hp)) rfl (by decide) rfl ⟨(Nat.le_of_ble_eq_true rfl), (Nat.le_of_ble_eq_true rfl)⟩ ⟨(Nat.le_of_ble_eq_true rfl), (Nat.le_of_ble_eq_true rfl)⟩ (Nat.le_of_ble_eq_true rfl) d_T_perform_102 (fun x13 M14 => ?_)
    exact G_ireturn g (pc := 105) hret (Nat.le_of_ble_eq_true rfl) (Nat.le_of_ble_eq_true rfl) d_T_perform_105
  refine G_case (v := (7 : Int32)) ?_ (fun ne7 => ?_)
  · refine G_tabK g (pc := 1) 106 d_T_perform_1 (by decide) (by decide) rfl (by decide) ?_
    refine G_aload_n g (pc := 106) 0 d_T_perform_106 rfl rfl ?_
    refine G_cVI g (pc := 107) (As := []) (st := []) cc_T_147 (c_T_moveSamples l N hw p hp M) (hw.m _ (st_lt0 hp)) (hw.k (st_lt0 hp) (st_k0 hp)) rfl (by decide) rfl ⟨(Nat.le_of_ble_eq_true rfl), (Nat.le_of_ble_eq_true rfl)⟩ ⟨(Nat.le_of_ble_eq_true rfl), (Nat.le_of_ble_eq_true rfl)⟩ (Nat.le_of_ble_eq_true rfl) d_T_perform_107 (fun x15 M16 => ?_)
    exact G_ireturn g (pc := 110) hret (Nat.le_of_ble_eq_true rfl) (Nat.le_of_ble_eq_true rfl) d_T_perform_110
  refine G_case (v := (8 : Int32)) ?_ (fun ne8 => ?_)
  · refine G_tabK g (pc := 1) 111 d_T_perform_1 (by decide) (by decide) rfl (by decide) ?_
    refine G_aload_n g (pc := 111) 0 d_T_perform_111 rfl rfl ?_
    refine G_iload_n g (pc := 112) 2 d_T_perform_112 rfl rfl ?_
    refine G_cVI g (pc := 113) (As := [.int a2]) (st := []) cc_T_150 (c_T_passMany l N hw p hp a2 M) (hw.m _ (st_lt0 hp)) (hw.k (st_lt0 hp) (st_k0 hp)) rfl (by decide) rfl ⟨(Nat.le_of_ble_eq_true rfl), (Nat.le_of_ble_eq_true rfl)⟩ ⟨(Nat.le_of_ble_eq_true rfl), (Nat.le_of_ble_eq_true rfl)⟩ (Nat.le_of_ble_eq_true rfl) d_T_perform_113 (fun x17 M18 => ?_)
    exact G_ireturn g (pc := 116) hret (Nat.le_of_ble_eq_true rfl) (Nat.le_of_ble_eq_true rfl) d_T_perform_116
  refine G_tabD g (pc := 1) 117 d_T_perform_1 (by have q1 : ¬ a1.toInt = 1 := lv_neT ne1 rfl; have q2 : ¬ a1.toInt = 2 := lv_neT ne2 rfl; have q3 : ¬ a1.toInt = 3 := lv_neT ne3 rfl; have q4 : ¬ a1.toInt = 4 := lv_neT ne4 rfl; have q5 : ¬ a1.toInt = 5 := lv_neT ne5 rfl; have q6 : ¬ a1.toInt = 6 := lv_neT ne6 rfl; have q7 : ¬ a1.toInt = 7 := lv_neT ne7 rfl; have q8 : ¬ a1.toInt = 8 := lv_neT ne8 rfl; omega) (by decide) ?_
  refine G_iconst g (pc := 117) (0 : Int32) d_T_perform_117 rfl ?_
  exact G_ireturn g (pc := 118) hret (Nat.le_of_ble_eq_true rfl) (Nat.le_of_ble_eq_true rfl) d_T_perform_118

theorem d_T_setUp_0 : decode b_T_setUp 0 = .ok (.aload_n 0, 1) := by decide +kernel
theorem d_T_setUp_1 : decode b_T_setUp 1 = .ok (.getfield 12, 3) := by decide +kernel
theorem d_T_setUp_4 : decode b_T_setUp 4 = .ok (.aload_n 1, 1) := by decide +kernel
theorem d_T_setUp_5 : decode b_T_setUp 5 = .ok (.getfield 54, 3) := by decide +kernel
theorem d_T_setUp_8 : decode b_T_setUp 8 = .ok (.aload_n 1, 1) := by decide +kernel
theorem d_T_setUp_9 : decode b_T_setUp 9 = .ok (.getfield 59, 3) := by decide +kernel
theorem d_T_setUp_12 : decode b_T_setUp 12 = .ok (.aload_n 1, 1) := by decide +kernel
theorem d_T_setUp_13 : decode b_T_setUp 13 = .ok (.getfield 62, 3) := by decide +kernel
theorem d_T_setUp_16 : decode b_T_setUp 16 = .ok (.invokevirtual 65, 3) := by decide +kernel
theorem d_T_setUp_19 : decode b_T_setUp 19 = .ok (.aload_n 1, 1) := by decide +kernel
theorem d_T_setUp_20 : decode b_T_setUp 20 = .ok (.getfield 69, 3) := by decide +kernel
theorem d_T_setUp_23 : decode b_T_setUp 23 = .ok (.aload_n 0, 1) := by decide +kernel
theorem d_T_setUp_24 : decode b_T_setUp 24 = .ok (.getfield 18, 3) := by decide +kernel
theorem d_T_setUp_27 : decode b_T_setUp 27 = .ok (.invokestatic 70, 3) := by decide +kernel
theorem d_T_setUp_30 : decode b_T_setUp 30 = .ok (.aload_n 0, 1) := by decide +kernel
theorem d_T_setUp_31 : decode b_T_setUp 31 = .ok (.aload_n 1, 1) := by decide +kernel
theorem d_T_setUp_32 : decode b_T_setUp 32 = .ok (.getfield 74, 3) := by decide +kernel
theorem d_T_setUp_35 : decode b_T_setUp 35 = .ok (.putfield 22, 3) := by decide +kernel
theorem d_T_setUp_38 : decode b_T_setUp 38 = .ok (.aload_n 0, 1) := by decide +kernel
theorem d_T_setUp_39 : decode b_T_setUp 39 = .ok (.getfield 29, 3) := by decide +kernel
theorem d_T_setUp_42 : decode b_T_setUp 42 = .ok (.invokevirtual 75, 3) := by decide +kernel
theorem d_T_setUp_45 : decode b_T_setUp 45 = .ok (.aload_n 0, 1) := by decide +kernel
theorem d_T_setUp_46 : decode b_T_setUp 46 = .ok (.getfield 38, 3) := by decide +kernel
theorem d_T_setUp_49 : decode b_T_setUp 49 = .ok (.invokevirtual 78, 3) := by decide +kernel
theorem d_T_setUp_52 : decode b_T_setUp 52 = .ok (.aload_n 0, 1) := by decide +kernel
theorem d_T_setUp_53 : decode b_T_setUp 53 = .ok (.getfield 42, 3) := by decide +kernel
theorem d_T_setUp_56 : decode b_T_setUp 56 = .ok (.invokevirtual 78, 3) := by decide +kernel
theorem d_T_setUp_59 : decode b_T_setUp 59 = .ok (.aload_n 0, 1) := by decide +kernel
theorem d_T_setUp_60 : decode b_T_setUp 60 = .ok (.aload_n 1, 1) := by decide +kernel
theorem d_T_setUp_61 : decode b_T_setUp 61 = .ok (.getfield 80, 3) := by decide +kernel
theorem d_T_setUp_64 : decode b_T_setUp 64 = .ok (.putfield 45, 3) := by decide +kernel
theorem d_T_setUp_67 : decode b_T_setUp 67 = .ok (.aload_n 0, 1) := by decide +kernel
theorem d_T_setUp_68 : decode b_T_setUp 68 = .ok (.iconst 0, 1) := by decide +kernel
theorem d_T_setUp_69 : decode b_T_setUp 69 = .ok (.putfield 48, 3) := by decide +kernel
theorem d_T_setUp_72 : decode b_T_setUp 72 = .ok (.aload_n 0, 1) := by decide +kernel
theorem d_T_setUp_73 : decode b_T_setUp 73 = .ok (.iconst 0, 1) := by decide +kernel
theorem d_T_setUp_74 : decode b_T_setUp 74 = .ok (.putfield 51, 3) := by decide +kernel
theorem d_T_setUp_77 : decode b_T_setUp 77 = .ok (.return_, 1) := by decide +kernel
theorem cc_T_65 : CV "KiteLogger$Station" 65 y_K_setUp b_K_setUp 4 none 3 := ⟨TT_in (i := 357) (by decide +kernel) (by decide +kernel), TT_in (i := 358) (by decide +kernel) (by decide +kernel), TT_in (i := 359) (by decide +kernel) (by decide +kernel), TT_in (i := 25) (by decide +kernel) (by decide +kernel), TT_in (i := 360) (by decide +kernel) (by decide +kernel), ⟨by decide +kernel, by decide +kernel, by decide +kernel⟩⟩
theorem cc_T_70 : CSN "KiteLogger$Station" 70 "KiteLogger" y_G_copyRow b_G_copyRow 2 none 2 := ⟨NW_in (i := 361) (by decide +kernel) (by decide +kernel), TT_in (i := 104) (by decide +kernel) (by decide +kernel), TT_in (i := 18) (by decide +kernel) (by decide +kernel), TT_in (i := 105) (by decide +kernel) (by decide +kernel), ⟨by decide +kernel, by decide +kernel, by decide +kernel⟩⟩
theorem cc_T_78 : CV "KiteLogger$Station" 78 y_S_setUp b_S_setUp 1 none 0 := ⟨TT_in (i := 366) (by decide +kernel) (by decide +kernel), TT_in (i := 367) (by decide +kernel) (by decide +kernel), TT_in (i := 368) (by decide +kernel) (by decide +kernel), TT_in (i := 27) (by decide +kernel) (by decide +kernel), TT_in (i := 369) (by decide +kernel) (by decide +kernel), ⟨by decide +kernel, by decide +kernel, by decide +kernel⟩⟩
def f_T_setUp (p : Nat) (M : Mem) : Option (Mem) :=
  bndM (f_K_setUp (p + 1) (M 3 0) (M 3 1) (M 3 2) M) fun (M2 : Mem) => bndM (f_G_copyRow 4 (p + 2) M2) fun (M4 : Mem) => nm (put M4 p 2 (M4 3 5)) fun (M5 : Mem) => bndM (f_B_empty (p + 3) M5) fun (M7 : Mem) => bndM (f_S_setUp (p + 5) M7) fun (M9 : Mem) => bndM (f_S_setUp (p + 9) M9) fun (M11 : Mem) => nm (put M11 p 6 (M11 3 3)) fun (M12 : Mem) => nm (put M12 p 7 (0 : Int32)) fun (M13 : Mem) => nm (put M13 p 8 (0 : Int32)) fun (M14 : Mem) => some M14
set_option maxHeartbeats 4000000 in
set_option maxRecDepth 100000 in
theorem c_T_setUp (l : Launch) {w : Wc} {rr : Nat} (hw : WK w rr) (p : Nat) (hp : p ∈ stL) (M : Mem) : Ct QV l y_T_setUp b_T_setUp 2 none (rmL 2) w [.ref (wad w p), .ref (wad w 3)] M (f_T_setUp p M) := by
  refine Ct.go (by decide) (L := [(0, .ref (wad w p)), (1, .ref (wad w 3))]) rfl (Nat.le_of_ble_eq_true rfl) (fun p0 e s m args below meth c g hret => ?_)
  unfold f_T_setUp
  refine G_aload_n g (pc := 0) 0 d_T_setUp_0 rfl rfl ?_
  refine G_getR g (pc := 1) fa_T_12 (hw.m _ (st_lt0 hp)) (hw.k (st_lt0 hp) (st_k0 hp)) (hw.r (st_lt0 hp) (st_r0_0 hp rr)) d_T_setUp_1 ?_
  refine G_aload_n g (pc := 4) 1 d_T_setUp_4 rfl rfl ?_
  refine G_getN g (pc := 5) fa_T_54 (hw.m 3 (Nat.le_of_ble_eq_true rfl)) (hw.k (Nat.le_of_ble_eq_true rfl) (zk3 rr)) d_T_setUp_5 ?_
  refine G_aload_n g (pc := 8) 1 d_T_setUp_8 rfl rfl ?_
  refine G_getN g (pc := 9) fa_T_59 (hw.m 3 (Nat.le_of_ble_eq_true rfl)) (hw.k (Nat.le_of_ble_eq_true rfl) (zk3 rr)) d_T_setUp_9 ?_
  refine G_aload_n g (pc := 12) 1 d_T_setUp_12 rfl rfl ?_
  refine G_getN g (pc := 13) fa_T_62 (hw.m 3 (Nat.le_of_ble_eq_true rfl)) (hw.k (Nat.le_of_ble_eq_true rfl) (zk3 rr)) d_T_setUp_13 ?_
  refine G_cVV g (pc := 16) (As := [.int (M 3 0), .int (M 3 1), .int (M 3 2)]) (st := []) cc_T_65 (c_K_setUp l hw (p + 1) (st_in1 hp) (M 3 0) (M 3 1) (M 3 2) M) (hw.m _ (st_lt1 hp)) (hw.k (st_lt1 hp) (st_k1 hp)) rfl (by decide) rfl ⟨(Nat.le_of_ble_eq_true rfl), (Nat.le_of_ble_eq_true rfl)⟩ ⟨(Nat.le_of_ble_eq_true rfl), (Nat.le_of_ble_eq_true rfl)⟩ (Nat.le_of_ble_eq_true rfl) d_T_setUp_16 (fun M2 => ?_)
  refine G_aload_n g (pc := 19) 1 d_T_setUp_19 rfl rfl ?_
  refine G_getRN g (pc := 20) fa_T_69 (hw.m 3 (Nat.le_of_ble_eq_true rfl)) (hw.k (Nat.le_of_ble_eq_true rfl) (zk3 rr)) (hw.r (Nat.le_of_ble_eq_true rfl) (zr3_4 rr)) d_T_setUp_20 ?_
  refine G_aload_n g (pc := 23) 0 d_T_setUp_23 rfl rfl ?_
  refine G_getR g (pc := 24) fa_T_18 (hw.m _ (st_lt0 hp)) (hw.k (st_lt0 hp) (st_k0 hp)) (hw.r (st_lt0 hp) (st_r0_1 hp rr)) d_T_setUp_24 ?_
  refine G_cSNV g (pc := 27) (As := [.ref (wad w 4), .ref (wad w (p + 2))]) (st := []) cc_T_70 (c_G_copyRow l hw 4 (hw.m 4 (Nat.le_of_ble_eq_true rfl)) (hw.k (Nat.le_of_ble_eq_true rfl) (zk4 rr)) (Nat.le_of_ble_eq_true rfl) (p + 2) (hw.m _ (st_lt2 hp)) (hw.k (st_lt2 hp) (st_k2 hp)) (st_lt2 hp) M2) rfl ⟨(Nat.le_of_ble_eq_true rfl), (Nat.le_of_ble_eq_true rfl)⟩ ⟨(Nat.le_of_ble_eq_true rfl), (Nat.le_of_ble_eq_true rfl)⟩ (Nat.le_of_ble_eq_true rfl) d_T_setUp_27 (fun M4 => ?_)
  refine G_aload_n g (pc := 30) 0 d_T_setUp_30 rfl rfl ?_
  refine G_aload_n g (pc := 31) 1 d_T_setUp_31 rfl rfl ?_
  refine G_getN g (pc := 32) fa_T_74 (hw.m 3 (Nat.le_of_ble_eq_true rfl)) (hw.k (Nat.le_of_ble_eq_true rfl) (zk3 rr)) d_T_setUp_32 ?_
  refine G_put g (pc := 35) fa_T_22 fw_5_2 rfl rfl (hw.m _ (st_lt0 hp)) (hw.k (st_lt0 hp) (st_k0 hp)) d_T_setUp_35 ?_
  refine G_nmM (fun M5 => ?_)
  refine G_aload_n g (pc := 38) 0 d_T_setUp_38 rfl rfl ?_
  refine G_getR g (pc := 39) fa_T_29 (hw.m _ (st_lt0 hp)) (hw.k (st_lt0 hp) (st_k0 hp)) (hw.r (st_lt0 hp) (st_r0_3 hp rr)) d_T_setUp_39 ?_
  refine G_cVV g (pc := 42) (As := []) (st := []) cc_T_75 (c_B_empty l hw (p + 3) (st_in3 hp) M5) (hw.m _ (st_lt3 hp)) (hw.k (st_lt3 hp) (st_k3 hp)) rfl (by decide) rfl ⟨(Nat.le_of_ble_eq_true rfl), (Nat.le_of_ble_eq_true rfl)⟩ ⟨(Nat.le_of_ble_eq_true rfl), (Nat.le_of_ble_eq_true rfl)⟩ (Nat.le_of_ble_eq_true rfl) d_T_setUp_42 (fun M7 => ?_)
  refine G_aload_n g (pc := 45) 0 d_T_setUp_45 rfl rfl ?_
  refine G_getR g (pc := 46) fa_T_38 (hw.m _ (st_lt0 hp)) (hw.k (st_lt0 hp) (st_k0 hp)) (hw.r (st_lt0 hp) (st_r0_4 hp rr)) d_T_setUp_46 ?_
  refine G_cVV g (pc := 49) (As := []) (st := []) cc_T_78 (c_S_setUp l hw (p + 5) (st_in5 hp) M7) (hw.m _ (st_lt5 hp)) (hw.k (st_lt5 hp) (st_k5 hp)) rfl (by decide) rfl ⟨(Nat.le_of_ble_eq_true rfl), (Nat.le_of_ble_eq_true rfl)⟩ ⟨(Nat.le_of_ble_eq_true rfl), (Nat.le_of_ble_eq_true rfl)⟩ (Nat.le_of_ble_eq_true rfl) d_T_setUp_49 (fun M9 => ?_)
  refine G_aload_n g (pc := 52) 0 d_T_setUp_52 rfl rfl ?_
  refine G_getR g (pc := 53) fa_T_42 (hw.m _ (st_lt0 hp)) (hw.k (st_lt0 hp) (st_k0 hp)) (hw.r (st_lt0 hp) (st_r0_5 hp rr)) d_T_setUp_53 ?_
  refine G_cVV g (pc := 56) (As := []) (st := []) cc_T_78 (c_S_setUp l hw (p + 9) (st_in9 hp) M9) (hw.m _ (st_lt9 hp)) (hw.k (st_lt9 hp) (st_k9 hp)) rfl (by decide) rfl ⟨(Nat.le_of_ble_eq_true rfl), (Nat.le_of_ble_eq_true rfl)⟩ ⟨(Nat.le_of_ble_eq_true rfl), (Nat.le_of_ble_eq_true rfl)⟩ (Nat.le_of_ble_eq_true rfl) d_T_setUp_56 (fun M11 => ?_)
  refine G_aload_n g (pc := 59) 0 d_T_setUp_59 rfl rfl ?_
  refine G_aload_n g (pc := 60) 1 d_T_setUp_60 rfl rfl ?_
  refine G_getN g (pc := 61) fa_T_80 (hw.m 3 (Nat.le_of_ble_eq_true rfl)) (hw.k (Nat.le_of_ble_eq_true rfl) (zk3 rr)) d_T_setUp_61 ?_
  refine G_put g (pc := 64) fa_T_45 fw_5_6 rfl rfl (hw.m _ (st_lt0 hp)) (hw.k (st_lt0 hp) (st_k0 hp)) d_T_setUp_64 ?_
  refine G_nmM (fun M12 => ?_)
  refine G_aload_n g (pc := 67) 0 d_T_setUp_67 rfl rfl ?_
  refine G_iconst g (pc := 68) (0 : Int32) d_T_setUp_68 rfl ?_
  refine G_put g (pc := 69) fa_T_48 fw_5_7 rfl rfl (hw.m _ (st_lt0 hp)) (hw.k (st_lt0 hp) (st_k0 hp)) d_T_setUp_69 ?_
  refine G_nmM (fun M13 => ?_)
  refine G_aload_n g (pc := 72) 0 d_T_setUp_72 rfl rfl ?_
  refine G_iconst g (pc := 73) (0 : Int32) d_T_setUp_73 rfl ?_
  refine G_put g (pc := 74) fa_T_51 fw_5_8 rfl rfl (hw.m _ (st_lt0 hp)) (hw.k (st_lt0 hp) (st_k0 hp)) d_T_setUp_74 ?_
  refine G_nmM (fun M14 => ?_)
  exact G_return g (pc := 77) hret (Nat.le_of_ble_eq_true rfl) (Nat.le_of_ble_eq_true rfl) d_T_setUp_77

theorem d_T_copyFrom_0 : decode b_T_copyFrom 0 = .ok (.aload_n 0, 1) := by decide +kernel
theorem d_T_copyFrom_1 : decode b_T_copyFrom 1 = .ok (.getfield 12, 3) := by decide +kernel
theorem d_T_copyFrom_4 : decode b_T_copyFrom 4 = .ok (.aload_n 1, 1) := by decide +kernel
theorem d_T_copyFrom_5 : decode b_T_copyFrom 5 = .ok (.getfield 12, 3) := by decide +kernel
theorem d_T_copyFrom_8 : decode b_T_copyFrom 8 = .ok (.invokevirtual 81, 3) := by decide +kernel
theorem d_T_copyFrom_11 : decode b_T_copyFrom 11 = .ok (.aload_n 1, 1) := by decide +kernel
theorem d_T_copyFrom_12 : decode b_T_copyFrom 12 = .ok (.getfield 18, 3) := by decide +kernel
theorem d_T_copyFrom_15 : decode b_T_copyFrom 15 = .ok (.aload_n 0, 1) := by decide +kernel
theorem d_T_copyFrom_16 : decode b_T_copyFrom 16 = .ok (.getfield 18, 3) := by decide +kernel
theorem d_T_copyFrom_19 : decode b_T_copyFrom 19 = .ok (.invokestatic 70, 3) := by decide +kernel
theorem d_T_copyFrom_22 : decode b_T_copyFrom 22 = .ok (.aload_n 0, 1) := by decide +kernel
theorem d_T_copyFrom_23 : decode b_T_copyFrom 23 = .ok (.aload_n 1, 1) := by decide +kernel
theorem d_T_copyFrom_24 : decode b_T_copyFrom 24 = .ok (.getfield 22, 3) := by decide +kernel
theorem d_T_copyFrom_27 : decode b_T_copyFrom 27 = .ok (.putfield 22, 3) := by decide +kernel
theorem d_T_copyFrom_30 : decode b_T_copyFrom 30 = .ok (.aload_n 0, 1) := by decide +kernel
theorem d_T_copyFrom_31 : decode b_T_copyFrom 31 = .ok (.getfield 29, 3) := by decide +kernel
theorem d_T_copyFrom_34 : decode b_T_copyFrom 34 = .ok (.aload_n 1, 1) := by decide +kernel
theorem d_T_copyFrom_35 : decode b_T_copyFrom 35 = .ok (.getfield 29, 3) := by decide +kernel
theorem d_T_copyFrom_38 : decode b_T_copyFrom 38 = .ok (.invokevirtual 85, 3) := by decide +kernel
theorem d_T_copyFrom_41 : decode b_T_copyFrom 41 = .ok (.aload_n 0, 1) := by decide +kernel
theorem d_T_copyFrom_42 : decode b_T_copyFrom 42 = .ok (.getfield 38, 3) := by decide +kernel
theorem d_T_copyFrom_45 : decode b_T_copyFrom 45 = .ok (.aload_n 1, 1) := by decide +kernel
theorem d_T_copyFrom_46 : decode b_T_copyFrom 46 = .ok (.getfield 38, 3) := by decide +kernel
theorem d_T_copyFrom_49 : decode b_T_copyFrom 49 = .ok (.invokevirtual 88, 3) := by decide +kernel
theorem d_T_copyFrom_52 : decode b_T_copyFrom 52 = .ok (.aload_n 0, 1) := by decide +kernel
theorem d_T_copyFrom_53 : decode b_T_copyFrom 53 = .ok (.getfield 42, 3) := by decide +kernel
theorem d_T_copyFrom_56 : decode b_T_copyFrom 56 = .ok (.aload_n 1, 1) := by decide +kernel
theorem d_T_copyFrom_57 : decode b_T_copyFrom 57 = .ok (.getfield 42, 3) := by decide +kernel
theorem d_T_copyFrom_60 : decode b_T_copyFrom 60 = .ok (.invokevirtual 88, 3) := by decide +kernel
theorem d_T_copyFrom_63 : decode b_T_copyFrom 63 = .ok (.aload_n 0, 1) := by decide +kernel
theorem d_T_copyFrom_64 : decode b_T_copyFrom 64 = .ok (.aload_n 1, 1) := by decide +kernel
theorem d_T_copyFrom_65 : decode b_T_copyFrom 65 = .ok (.getfield 45, 3) := by decide +kernel
theorem d_T_copyFrom_68 : decode b_T_copyFrom 68 = .ok (.putfield 45, 3) := by decide +kernel
theorem d_T_copyFrom_71 : decode b_T_copyFrom 71 = .ok (.aload_n 0, 1) := by decide +kernel
theorem d_T_copyFrom_72 : decode b_T_copyFrom 72 = .ok (.aload_n 1, 1) := by decide +kernel
theorem d_T_copyFrom_73 : decode b_T_copyFrom 73 = .ok (.getfield 48, 3) := by decide +kernel
theorem d_T_copyFrom_76 : decode b_T_copyFrom 76 = .ok (.putfield 48, 3) := by decide +kernel
theorem d_T_copyFrom_79 : decode b_T_copyFrom 79 = .ok (.aload_n 0, 1) := by decide +kernel
theorem d_T_copyFrom_80 : decode b_T_copyFrom 80 = .ok (.aload_n 1, 1) := by decide +kernel
theorem d_T_copyFrom_81 : decode b_T_copyFrom 81 = .ok (.getfield 51, 3) := by decide +kernel
theorem d_T_copyFrom_84 : decode b_T_copyFrom 84 = .ok (.putfield 51, 3) := by decide +kernel
theorem d_T_copyFrom_87 : decode b_T_copyFrom 87 = .ok (.return_, 1) := by decide +kernel
theorem cc_T_81 : CV "KiteLogger$Station" 81 y_K_copyFrom b_K_copyFrom 2 none 1 := ⟨TT_in (i := 638) (by decide +kernel) (by decide +kernel), TT_in (i := 639) (by decide +kernel) (by decide +kernel), TT_in (i := 640) (by decide +kernel) (by decide +kernel), TT_in (i := 25) (by decide +kernel) (by decide +kernel), TT_in (i := 641) (by decide +kernel) (by decide +kernel), ⟨by decide +kernel, by decide +kernel, by decide +kernel⟩⟩
theorem cc_T_85 : CV "KiteLogger$Station" 85 y_B_copyFrom b_B_copyFrom 2 none 1 := ⟨TT_in (i := 642) (by decide +kernel) (by decide +kernel), TT_in (i := 643) (by decide +kernel) (by decide +kernel), TT_in (i := 644) (by decide +kernel) (by decide +kernel), TT_in (i := 26) (by decide +kernel) (by decide +kernel), TT_in (i := 645) (by decide +kernel) (by decide +kernel), ⟨by decide +kernel, by decide +kernel, by decide +kernel⟩⟩
theorem cc_T_88 : CV "KiteLogger$Station" 88 y_S_copyFrom b_S_copyFrom 2 none 1 := ⟨TT_in (i := 647) (by decide +kernel) (by decide +kernel), TT_in (i := 648) (by decide +kernel) (by decide +kernel), TT_in (i := 649) (by decide +kernel) (by decide +kernel), TT_in (i := 27) (by decide +kernel) (by decide +kernel), TT_in (i := 650) (by decide +kernel) (by decide +kernel), ⟨by decide +kernel, by decide +kernel, by decide +kernel⟩⟩
def f_T_copyFrom (p : Nat) (a1 : Nat) (M : Mem) : Option (Mem) :=
  bndM (f_K_copyFrom (p + 1) (a1 + 1) M) fun (M2 : Mem) => bndM (f_G_copyRow (a1 + 2) (p + 2) M2) fun (M4 : Mem) => nm (put M4 p 2 (M4 a1 2)) fun (M5 : Mem) => bndM (f_B_copyFrom (p + 3) (a1 + 3) M5) fun (M7 : Mem) => bndM (f_S_copyFrom (p + 5) (a1 + 5) M7) fun (M9 : Mem) => bndM (f_S_copyFrom (p + 9) (a1 + 9) M9) fun (M11 : Mem) => nm (put M11 p 6 (M11 a1 6)) fun (M12 : Mem) => nm (put M12 p 7 (M12 a1 7)) fun (M13 : Mem) => nm (put M13 p 8 (M13 a1 8)) fun (M14 : Mem) => some M14
set_option maxHeartbeats 4000000 in
set_option maxRecDepth 100000 in
theorem c_T_copyFrom (l : Launch) {w : Wc} {rr : Nat} (hw : WK w rr) (p : Nat) (hp : p ∈ stL) (a1 : Nat) (ha1 : a1 ∈ stL) (M : Mem) : Ct QV l y_T_copyFrom b_T_copyFrom 2 none (rmL 3) w [.ref (wad w p), .ref (wad w a1)] M (f_T_copyFrom p a1 M) := by
  refine Ct.go (by decide) (L := [(0, .ref (wad w p)), (1, .ref (wad w a1))]) rfl (Nat.le_of_ble_eq_true rfl) (fun p0 e s m args below meth c g hret => ?_)
  unfold f_T_copyFrom
  refine G_aload_n g (pc := 0) 0 d_T_copyFrom_0 rfl rfl ?_
  refine G_getR g (pc := 1) fa_T_12 (hw.m _ (st_lt0 hp)) (hw.k (st_lt0 hp) (st_k0 hp)) (hw.r (st_lt0 hp) (st_r0_0 hp rr)) d_T_copyFrom_1 ?_
  refine G_aload_n g (pc := 4) 1 d_T_copyFrom_4 rfl rfl ?_
  refine G_getR g (pc := 5) fa_T_12 (hw.m _ (st_lt0 ha1)) (hw.k (st_lt0 ha1) (st_k0 ha1)) (hw.r (st_lt0 ha1) (st_r0_0 ha1 rr)) d_T_copyFrom_5 ?_
  refine G_cVV g (pc := 8) (As := [.ref (wad w (a1 + 1))]) (st := []) cc_T_81 (c_K_copyFrom l hw (p + 1) (st_in1 hp) (a1 + 1) (st_in1 ha1) M) (hw.m _ (st_lt1 hp)) (hw.k (st_lt1 hp) (st_k1 hp)) rfl (by decide) rfl ⟨(Nat.le_of_ble_eq_true rfl), (Nat.le_of_ble_eq_true rfl)⟩ ⟨(Nat.le_of_ble_eq_true rfl), (Nat.le_of_ble_eq_true rfl)⟩ (Nat.le_of_ble_eq_true rfl) d_T_copyFrom_8 (fun M2 => ?_)
  refine G_aload_n g (pc := 11) 1 d_T_copyFrom_11 rfl rfl ?_
  refine G_getR g (pc := 12) fa_T_18 (hw.m _ (st_lt0 ha1)) (hw.k (st_lt0 ha1) (st_k0 ha1)) (hw.r (st_lt0 ha1) (st_r0_1 ha1 rr)) d_T_copyFrom_12 ?_
  refine G_aload_n g (pc := 15) 0 d_T_copyFrom_15 rfl rfl ?_
  refine G_getR g (pc := 16) fa_T_18 (hw.m _ (st_lt0 hp)) (hw.k (st_lt0 hp) (st_k0 hp)) (hw.r (st_lt0 hp) (st_r0_1 hp rr)) d_T_copyFrom_16 ?_
  refine G_cSNV g (pc := 19) (As := [.ref (wad w (a1 + 2)), .ref (wad w (p + 2))]) (st := []) cc_T_70 (c_G_copyRow l hw (a1 + 2) (hw.m _ (st_lt2 ha1)) (hw.k (st_lt2 ha1) (st_k2 ha1)) (st_lt2 ha1) (p + 2) (hw.m _ (st_lt2 hp)) (hw.k (st_lt2 hp) (st_k2 hp)) (st_lt2 hp) M2) rfl ⟨(Nat.le_of_ble_eq_true rfl), (Nat.le_of_ble_eq_true rfl)⟩ ⟨(Nat.le_of_ble_eq_true rfl), (Nat.le_of_ble_eq_true rfl)⟩ (Nat.le_of_ble_eq_true rfl) d_T_copyFrom_19 (fun M4 => ?_)
  refine G_aload_n g (pc := 22) 0 d_T_copyFrom_22 rfl rfl ?_
  refine G_aload_n g (pc := 23) 1 d_T_copyFrom_23 rfl rfl ?_
  refine G_get g (pc := 24) fa_T_22 (hw.m _ (st_lt0 ha1)) (hw.k (st_lt0 ha1) (st_k0 ha1)) d_T_copyFrom_24 ?_
  refine G_put g (pc := 27) fa_T_22 fw_5_2 rfl rfl (hw.m _ (st_lt0 hp)) (hw.k (st_lt0 hp) (st_k0 hp)) d_T_copyFrom_27 ?_
  refine G_nmM (fun M5 => ?_)
  refine G_aload_n g (pc := 30) 0 d_T_copyFrom_30 rfl rfl ?_
  refine G_getR g (pc := 31) fa_T_29 (hw.m _ (st_lt0 hp)) (hw.k (st_lt0 hp) (st_k0 hp)) (hw.r (st_lt0 hp) (st_r0_3 hp rr)) d_T_copyFrom_31 ?_
  refine G_aload_n g (pc := 34) 1 d_T_copyFrom_34 rfl rfl ?_
  refine G_getR g (pc := 35) fa_T_29 (hw.m _ (st_lt0 ha1)) (hw.k (st_lt0 ha1) (st_k0 ha1)) (hw.r (st_lt0 ha1) (st_r0_3 ha1 rr)) d_T_copyFrom_35 ?_
  refine G_cVV g (pc := 38) (As := [.ref (wad w (a1 + 3))]) (st := []) cc_T_85 (c_B_copyFrom l hw (p + 3) (st_in3 hp) (a1 + 3) (st_in3 ha1) M5) (hw.m _ (st_lt3 hp)) (hw.k (st_lt3 hp) (st_k3 hp)) rfl (by decide) rfl ⟨(Nat.le_of_ble_eq_true rfl), (Nat.le_of_ble_eq_true rfl)⟩ ⟨(Nat.le_of_ble_eq_true rfl), (Nat.le_of_ble_eq_true rfl)⟩ (Nat.le_of_ble_eq_true rfl) d_T_copyFrom_38 (fun M7 => ?_)
  refine G_aload_n g (pc := 41) 0 d_T_copyFrom_41 rfl rfl ?_
  refine G_getR g (pc := 42) fa_T_38 (hw.m _ (st_lt0 hp)) (hw.k (st_lt0 hp) (st_k0 hp)) (hw.r (st_lt0 hp) (st_r0_4 hp rr)) d_T_copyFrom_42 ?_
  refine G_aload_n g (pc := 45) 1 d_T_copyFrom_45 rfl rfl ?_
  refine G_getR g (pc := 46) fa_T_38 (hw.m _ (st_lt0 ha1)) (hw.k (st_lt0 ha1) (st_k0 ha1)) (hw.r (st_lt0 ha1) (st_r0_4 ha1 rr)) d_T_copyFrom_46 ?_
  refine G_cVV g (pc := 49) (As := [.ref (wad w (a1 + 5))]) (st := []) cc_T_88 (c_S_copyFrom l hw (p + 5) (st_in5 hp) (a1 + 5) (st_in5 ha1) M7) (hw.m _ (st_lt5 hp)) (hw.k (st_lt5 hp) (st_k5 hp)) rfl (by decide) rfl ⟨(Nat.le_of_ble_eq_true rfl), (Nat.le_of_ble_eq_true rfl)⟩ ⟨(Nat.le_of_ble_eq_true rfl), (Nat.le_of_ble_eq_true rfl)⟩ (Nat.le_of_ble_eq_true rfl) d_T_copyFrom_49 (fun M9 => ?_)
  refine G_aload_n g (pc := 52) 0 d_T_copyFrom_52 rfl rfl ?_
  refine G_getR g (pc := 53) fa_T_42 (hw.m _ (st_lt0 hp)) (hw.k (st_lt0 hp) (st_k0 hp)) (hw.r (st_lt0 hp) (st_r0_5 hp rr)) d_T_copyFrom_53 ?_
  refine G_aload_n g (pc := 56) 1 d_T_copyFrom_56 rfl rfl ?_
  refine G_getR g (pc := 57) fa_T_42 (hw.m _ (st_lt0 ha1)) (hw.k (st_lt0 ha1) (st_k0 ha1)) (hw.r (st_lt0 ha1) (st_r0_5 ha1 rr)) d_T_copyFrom_57 ?_
  refine G_cVV g (pc := 60) (As := [.ref (wad w (a1 + 9))]) (st := []) cc_T_88 (c_S_copyFrom l hw (p + 9) (st_in9 hp) (a1 + 9) (st_in9 ha1) M9) (hw.m _ (st_lt9 hp)) (hw.k (st_lt9 hp) (st_k9 hp)) rfl (by decide) rfl ⟨(Nat.le_of_ble_eq_true rfl), (Nat.le_of_ble_eq_true rfl)⟩ ⟨(Nat.le_of_ble_eq_true rfl), (Nat.le_of_ble_eq_true rfl)⟩ (Nat.le_of_ble_eq_true rfl) d_T_copyFrom_60 (fun M11 => ?_)
  refine G_aload_n g (pc := 63) 0 d_T_copyFrom_63 rfl rfl ?_
  refine G_aload_n g (pc := 64) 1 d_T_copyFrom_64 rfl rfl ?_
  refine G_get g (pc := 65) fa_T_45 (hw.m _ (st_lt0 ha1)) (hw.k (st_lt0 ha1) (st_k0 ha1)) d_T_copyFrom_65 ?_
  refine G_put g (pc := 68) fa_T_45 fw_5_6 rfl rfl (hw.m _ (st_lt0 hp)) (hw.k (st_lt0 hp) (st_k0 hp)) d_T_copyFrom_68 ?_
  refine G_nmM (fun M12 => ?_)
  refine G_aload_n g (pc := 71) 0 d_T_copyFrom_71 rfl rfl ?_
  refine G_aload_n g (pc := 72) 1 d_T_copyFrom_72 rfl rfl ?_
  refine G_get g (pc := 73) fa_T_48 (hw.m _ (st_lt0 ha1)) (hw.k (st_lt0 ha1) (st_k0 ha1)) d_T_copyFrom_73 ?_
  refine G_put g (pc := 76) fa_T_48 fw_5_7 rfl rfl (hw.m _ (st_lt0 hp)) (hw.k (st_lt0 hp) (st_k0 hp)) d_T_copyFrom_76 ?_
  refine G_nmM (fun M13 => ?_)
  refine G_aload_n g (pc := 79) 0 d_T_copyFrom_79 rfl rfl ?_
  refine G_aload_n g (pc := 80) 1 d_T_copyFrom_80 rfl rfl ?_
  refine G_get g (pc := 81) fa_T_51 (hw.m _ (st_lt0 ha1)) (hw.k (st_lt0 ha1) (st_k0 ha1)) d_T_copyFrom_81 ?_
  refine G_put g (pc := 84) fa_T_51 fw_5_8 rfl rfl (hw.m _ (st_lt0 hp)) (hw.k (st_lt0 hp) (st_k0 hp)) d_T_copyFrom_84 ?_
  refine G_nmM (fun M14 => ?_)
  exact G_return g (pc := 87) hret (Nat.le_of_ble_eq_true rfl) (Nat.le_of_ble_eq_true rfl) d_T_copyFrom_87
