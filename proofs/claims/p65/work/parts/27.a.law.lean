theorem d_L_most_0 : decode b_L_most 0 = .ok (.iload_n 0, 1) := by decide +kernel
theorem d_L_most_1 : decode b_L_most 1 = .ok (.ldc 7, 2) := by decide +kernel
theorem d_L_most_3 : decode b_L_most 3 = .ok (.iand, 1) := by decide +kernel
theorem d_L_most_4 : decode b_L_most 4 = .ok (.iload_n 1, 1) := by decide +kernel
theorem d_L_most_5 : decode b_L_most 5 = .ok (.irem, 1) := by decide +kernel
theorem d_L_most_6 : decode b_L_most 6 = .ok (.ireturn, 1) := by decide +kernel
def f_L_most (a1 : Int32) (a2 : Int32) (M : Mem) : Option (Int32 × Mem) :=
  grd (nzB a2) (some (irm (a1 &&& (2147483647 : Int32)) a2, M))
set_option maxHeartbeats 4000000 in
set_option maxRecDepth 100000 in
theorem c_L_most (l : Launch) {w : Wc} {rr : Nat} (hw : WK w rr) (a1 : Int32) (a2 : Int32) (M : Mem) : Ct QI l y_L_most b_L_most 2 (some .int) (rmL 0) w [.int a1, .int a2] M (f_L_most a1 a2 M) := by
  refine Ct.go (by decide) (L := [(0, .int a1), (1, .int a2)]) rfl (Nat.le_of_ble_eq_true rfl) (fun p0 e s m args below meth c g hret => ?_)
  unfold f_L_most
  refine G_iload_n g (pc := 0) 0 d_L_most_0 rfl rfl ?_
  refine G_ldcI g (pc := 1) (own := "KiteLoggerLaw") (v := (2147483647 : Int32)) (TT_in (i := 665) (by decide +kernel) (by decide +kernel)) d_L_most_1 ?_
  refine G_iand g (pc := 3) d_L_most_3 ?_
  refine G_iload_n g (pc := 4) 1 d_L_most_4 rfl rfl ?_
  refine G_irem g (pc := 5) d_L_most_5 ?_
  exact G_ireturn g (pc := 6) hret (Nat.le_of_ble_eq_true rfl) (Nat.le_of_ble_eq_true rfl) d_L_most_6

theorem d_L_add_0 : decode b_L_add 0 = .ok (.aload_n 1, 1) := by decide +kernel
theorem d_L_add_1 : decode b_L_add 1 = .ok (.aload_n 1, 1) := by decide +kernel
theorem d_L_add_2 : decode b_L_add 2 = .ok (.iconst 5, 1) := by decide +kernel
theorem d_L_add_3 : decode b_L_add 3 = .ok (.iaload, 1) := by decide +kernel
theorem d_L_add_4 : decode b_L_add 4 = .ok (.bipush 20, 2) := by decide +kernel
theorem d_L_add_6 : decode b_L_add 6 = .ok (.irem, 1) := by decide +kernel
theorem d_L_add_7 : decode b_L_add 7 = .ok (.iconst 4, 1) := by decide +kernel
theorem d_L_add_8 : decode b_L_add 8 = .ok (.idiv, 1) := by decide +kernel
theorem d_L_add_9 : decode b_L_add 9 = .ok (.dup2, 1) := by decide +kernel
theorem d_L_add_10 : decode b_L_add 10 = .ok (.iaload, 1) := by decide +kernel
theorem d_L_add_11 : decode b_L_add 11 = .ok (.iload_n 2, 1) := by decide +kernel
theorem d_L_add_12 : decode b_L_add 12 = .ok (.bipush 24, 2) := by decide +kernel
theorem d_L_add_14 : decode b_L_add 14 = .ok (.bipush 8, 2) := by decide +kernel
theorem d_L_add_16 : decode b_L_add 16 = .ok (.aload_n 1, 1) := by decide +kernel
theorem d_L_add_17 : decode b_L_add 17 = .ok (.iconst 5, 1) := by decide +kernel
theorem d_L_add_18 : decode b_L_add 18 = .ok (.iaload, 1) := by decide +kernel
theorem d_L_add_19 : decode b_L_add 19 = .ok (.iconst 4, 1) := by decide +kernel
theorem d_L_add_20 : decode b_L_add 20 = .ok (.irem, 1) := by decide +kernel
theorem d_L_add_21 : decode b_L_add 21 = .ok (.imul, 1) := by decide +kernel
theorem d_L_add_22 : decode b_L_add 22 = .ok (.isub, 1) := by decide +kernel
theorem d_L_add_23 : decode b_L_add 23 = .ok (.ishl, 1) := by decide +kernel
theorem d_L_add_24 : decode b_L_add 24 = .ok (.ior, 1) := by decide +kernel
theorem d_L_add_25 : decode b_L_add 25 = .ok (.iastore, 1) := by decide +kernel
theorem d_L_add_26 : decode b_L_add 26 = .ok (.aload_n 1, 1) := by decide +kernel
theorem d_L_add_27 : decode b_L_add 27 = .ok (.iconst 5, 1) := by decide +kernel
theorem d_L_add_28 : decode b_L_add 28 = .ok (.dup2, 1) := by decide +kernel
theorem d_L_add_29 : decode b_L_add 29 = .ok (.iaload, 1) := by decide +kernel
theorem d_L_add_30 : decode b_L_add 30 = .ok (.iconst 1, 1) := by decide +kernel
theorem d_L_add_31 : decode b_L_add 31 = .ok (.iadd, 1) := by decide +kernel
theorem d_L_add_32 : decode b_L_add 32 = .ok (.iastore, 1) := by decide +kernel
theorem d_L_add_33 : decode b_L_add 33 = .ok (.aload_n 1, 1) := by decide +kernel
theorem d_L_add_34 : decode b_L_add 34 = .ok (.iconst 5, 1) := by decide +kernel
theorem d_L_add_35 : decode b_L_add 35 = .ok (.iaload, 1) := by decide +kernel
theorem d_L_add_36 : decode b_L_add 36 = .ok (.bipush 20, 2) := by decide +kernel
theorem d_L_add_38 : decode b_L_add 38 = .ok (.irem, 1) := by decide +kernel
theorem d_L_add_39 : decode b_L_add 39 = .ok (.ifCond .eq 4, 3) := by decide +kernel
theorem d_L_add_42 : decode b_L_add 42 = .ok (.return_, 1) := by decide +kernel
theorem d_L_add_43 : decode b_L_add 43 = .ok (.aload_n 0, 1) := by decide +kernel
theorem d_L_add_44 : decode b_L_add 44 = .ok (.aload_n 1, 1) := by decide +kernel
theorem d_L_add_45 : decode b_L_add 45 = .ok (.iconst 0, 1) := by decide +kernel
theorem d_L_add_46 : decode b_L_add 46 = .ok (.iaload, 1) := by decide +kernel
theorem d_L_add_47 : decode b_L_add 47 = .ok (.aload_n 1, 1) := by decide +kernel
theorem d_L_add_48 : decode b_L_add 48 = .ok (.iconst 1, 1) := by decide +kernel
theorem d_L_add_49 : decode b_L_add 49 = .ok (.iaload, 1) := by decide +kernel
theorem d_L_add_50 : decode b_L_add 50 = .ok (.aload_n 1, 1) := by decide +kernel
theorem d_L_add_51 : decode b_L_add 51 = .ok (.iconst 2, 1) := by decide +kernel
theorem d_L_add_52 : decode b_L_add 52 = .ok (.iaload, 1) := by decide +kernel
theorem d_L_add_53 : decode b_L_add 53 = .ok (.aload_n 1, 1) := by decide +kernel
theorem d_L_add_54 : decode b_L_add 54 = .ok (.iconst 3, 1) := by decide +kernel
theorem d_L_add_55 : decode b_L_add 55 = .ok (.iaload, 1) := by decide +kernel
theorem d_L_add_56 : decode b_L_add 56 = .ok (.aload_n 1, 1) := by decide +kernel
theorem d_L_add_57 : decode b_L_add 57 = .ok (.iconst 4, 1) := by decide +kernel
theorem d_L_add_58 : decode b_L_add 58 = .ok (.iaload, 1) := by decide +kernel
theorem d_L_add_59 : decode b_L_add 59 = .ok (.invokevirtual 8, 3) := by decide +kernel
theorem d_L_add_62 : decode b_L_add 62 = .ok (.pop, 1) := by decide +kernel
theorem d_L_add_63 : decode b_L_add 63 = .ok (.iconst 0, 1) := by decide +kernel
theorem d_L_add_64 : decode b_L_add 64 = .ok (.istore_n 3, 1) := by decide +kernel
theorem d_L_add_65 : decode b_L_add 65 = .ok (.iload_n 3, 1) := by decide +kernel
theorem d_L_add_66 : decode b_L_add 66 = .ok (.iconst 5, 1) := by decide +kernel
theorem d_L_add_67 : decode b_L_add 67 = .ok (.if_icmp .ge 13, 3) := by decide +kernel
theorem d_L_add_70 : decode b_L_add 70 = .ok (.aload_n 1, 1) := by decide +kernel
theorem d_L_add_71 : decode b_L_add 71 = .ok (.iload_n 3, 1) := by decide +kernel
theorem d_L_add_72 : decode b_L_add 72 = .ok (.iconst 0, 1) := by decide +kernel
theorem d_L_add_73 : decode b_L_add 73 = .ok (.iastore, 1) := by decide +kernel
theorem d_L_add_74 : decode b_L_add 74 = .ok (.iinc 3 1, 3) := by decide +kernel
theorem d_L_add_77 : decode b_L_add 77 = .ok (.goto (-12), 3) := by decide +kernel
theorem d_L_add_80 : decode b_L_add 80 = .ok (.return_, 1) := by decide +kernel
theorem cc_L_8 : CV "KiteLoggerLaw" 8 y_G_appendText b_G_appendText 6 (some .int) 5 := ⟨TT_in (i := 677) (by decide +kernel) (by decide +kernel), TT_in (i := 678) (by decide +kernel) (by decide +kernel), TT_in (i := 679) (by decide +kernel) (by decide +kernel), TT_in (i := 18) (by decide +kernel) (by decide +kernel), TT_in (i := 680) (by decide +kernel) (by decide +kernel), ⟨by decide +kernel, by decide +kernel, by decide +kernel⟩⟩
def lp_L_add_65 (N0 rr : Nat) (a3 : Int32)  : Nat → Int32 → Mem → (Int32 → Mem → Option (Mem)) → Option (Mem)
  | 0, _, _, _ => none
  | N + 1, v65, M, k65 => if v65 < (5 : Int32) then (grd (inB v65 6) (nm (put M 145 v65.toNatClampNeg (0 : Int32)) fun (M5 : Mem) => nm (v65 + (1 : Int32)) fun (x6 : Int32) => lp_L_add_65 N0 rr a3 N x6 M5 k65)) else (k65 v65 M)
def f_L_add (N : Nat) (rr : Nat) (a3 : Int32) (M : Mem) : Option (Mem) :=
  grd (inB ((irm (M 145 5) (20 : Int32)) / (4 : Int32)) 6) (grd (inB ((irm (M 145 5) (20 : Int32)) / (4 : Int32)) 6) (nm (put M 145 ((irm (M 145 5) (20 : Int32)) / (4 : Int32)).toNatClampNeg ((M 145 ((irm (M 145 5) (20 : Int32)) / (4 : Int32)).toNatClampNeg) ||| (a3 <<< (((24 : Int32) - ((8 : Int32) * (irm (M 145 5) (4 : Int32)))) &&& 31)))) fun (M1 : Mem) => nm (put M1 145 5 ((M1 145 5) + (1 : Int32))) fun (M2 : Mem) => if (irm (M2 145 5) (20 : Int32)) = 0 then (bnd (f_G_appendText N rr (M2 145 0) (M2 145 1) (M2 145 2) (M2 145 3) (M2 145 4) M2) fun (x3 : Int32) (M4 : Mem) => lp_L_add_65 N rr a3 N (0 : Int32) M4 (fun (a8 : Int32) (M7 : Mem) => some M7)) else (some M2)))
set_option maxHeartbeats 4000000 in
set_option maxRecDepth 100000 in
theorem c_L_add (l : Launch) (N : Nat) {w : Wc} {rr : Nat} (hw : WK w rr) (hv : WV w) (a3 : Int32) (M : Mem) : Ct QV l y_L_add b_L_add 4 none (rmL 2) w [.ref (wad w 0), .ref (wad w 145), .int a3] M (f_L_add N rr a3 M) := by
  refine Ct.go (by decide) (L := [(0, .ref (wad w 0)), (1, .ref (wad w 145)), (2, .int a3)]) rfl (Nat.le_of_ble_eq_true rfl) (fun p0 e s m args below meth c g hret => ?_)
  unfold f_L_add
  refine G_aload_n g (pc := 0) 1 d_L_add_0 rfl rfl ?_
  refine G_aload_n g (pc := 1) 1 d_L_add_1 rfl rfl ?_
  refine G_iconst g (pc := 2) (5 : Int32) d_L_add_2 rfl ?_
  refine G_ialdK g (pc := 3) (nn := 6) 5 rfl rfl hv.m hv.k hv.n d_L_add_3 ?_
  refine G_bipush g (pc := 4) (20 : Int32) d_L_add_4 rfl ?_
  refine G_iremK g (pc := 6) (by decide) d_L_add_6 ?_
  refine G_iconst g (pc := 7) (4 : Int32) d_L_add_7 rfl ?_
  refine G_idivK g (pc := 8) (by decide) d_L_add_8 ?_
  refine G_dup2 g (pc := 9) d_L_add_9 rfl rfl ?_
  refine G_iald g (pc := 10) (nn := 6) hv.m hv.k hv.n d_L_add_10 ?_
  refine G_iload_n g (pc := 11) 2 d_L_add_11 rfl rfl ?_
  refine G_bipush g (pc := 12) (24 : Int32) d_L_add_12 rfl ?_
  refine G_bipush g (pc := 14) (8 : Int32) d_L_add_14 rfl ?_
  refine G_aload_n g (pc := 16) 1 d_L_add_16 rfl rfl ?_
  refine G_iconst g (pc := 17) (5 : Int32) d_L_add_17 rfl ?_
  refine G_ialdK g (pc := 18) (nn := 6) 5 rfl rfl hv.m hv.k hv.n d_L_add_18 ?_
  refine G_iconst g (pc := 19) (4 : Int32) d_L_add_19 rfl ?_
  refine G_iremK g (pc := 20) (by decide) d_L_add_20 ?_
  refine G_imul g (pc := 21) d_L_add_21 ?_
  refine G_isub g (pc := 22) d_L_add_22 ?_
  refine G_ishl g (pc := 23) d_L_add_23 ?_
  refine G_ior g (pc := 24) d_L_add_24 ?_
  refine G_iast g (pc := 25) (nn := 6) hv.m hv.k hv.n d_L_add_25 ?_
  refine G_nmM (fun M1 => ?_)
  refine G_aload_n g (pc := 26) 1 d_L_add_26 rfl rfl ?_
  refine G_iconst g (pc := 27) (5 : Int32) d_L_add_27 rfl ?_
  refine G_dup2 g (pc := 28) d_L_add_28 rfl rfl ?_
  refine G_ialdK g (pc := 29) (nn := 6) 5 rfl rfl hv.m hv.k hv.n d_L_add_29 ?_
  refine G_iconst g (pc := 30) (1 : Int32) d_L_add_30 rfl ?_
  refine G_iadd g (pc := 31) d_L_add_31 ?_
  refine G_iastK g (pc := 32) (nn := 6) 5 rfl rfl hv.m hv.k hv.n d_L_add_32 ?_
  refine G_nmM (fun M2 => ?_)
  refine G_aload_n g (pc := 33) 1 d_L_add_33 rfl rfl ?_
  refine G_iconst g (pc := 34) (5 : Int32) d_L_add_34 rfl ?_
  refine G_ialdK g (pc := 35) (nn := 6) 5 rfl rfl hv.m hv.k hv.n d_L_add_35 ?_
  refine G_bipush g (pc := 36) (20 : Int32) d_L_add_36 rfl ?_
  refine G_iremK g (pc := 38) (by decide) d_L_add_38 ?_
  refine G_if_eq g (pc := 39) 43 d_L_add_39 (by decide) ?_ ?_
  · refine G_aload_n g (pc := 43) 0 d_L_add_43 rfl rfl ?_
    refine G_aload_n g (pc := 44) 1 d_L_add_44 rfl rfl ?_
    refine G_iconst g (pc := 45) (0 : Int32) d_L_add_45 rfl ?_
    refine G_ialdK g (pc := 46) (nn := 6) 0 rfl rfl hv.m hv.k hv.n d_L_add_46 ?_
    refine G_aload_n g (pc := 47) 1 d_L_add_47 rfl rfl ?_
    refine G_iconst g (pc := 48) (1 : Int32) d_L_add_48 rfl ?_
    refine G_ialdK g (pc := 49) (nn := 6) 1 rfl rfl hv.m hv.k hv.n d_L_add_49 ?_
    refine G_aload_n g (pc := 50) 1 d_L_add_50 rfl rfl ?_
    refine G_iconst g (pc := 51) (2 : Int32) d_L_add_51 rfl ?_
    refine G_ialdK g (pc := 52) (nn := 6) 2 rfl rfl hv.m hv.k hv.n d_L_add_52 ?_
    refine G_aload_n g (pc := 53) 1 d_L_add_53 rfl rfl ?_
    refine G_iconst g (pc := 54) (3 : Int32) d_L_add_54 rfl ?_
    refine G_ialdK g (pc := 55) (nn := 6) 3 rfl rfl hv.m hv.k hv.n d_L_add_55 ?_
    refine G_aload_n g (pc := 56) 1 d_L_add_56 rfl rfl ?_
    refine G_iconst g (pc := 57) (4 : Int32) d_L_add_57 rfl ?_
    refine G_ialdK g (pc := 58) (nn := 6) 4 rfl rfl hv.m hv.k hv.n d_L_add_58 ?_
    refine G_cVI0 g (pc := 59) (As := [.int (M2 145 0), .int (M2 145 1), .int (M2 145 2), .int (M2 145 3), .int (M2 145 4)]) (st := []) cc_L_8 (c_G_appendText l N hw (M2 145 0) (M2 145 1) (M2 145 2) (M2 145 3) (M2 145 4) M2) (hw.m 0 (Nat.le_of_ble_eq_true rfl)) (hw.k (Nat.le_of_ble_eq_true rfl) (zk0 rr)) rfl (by decide) rfl ⟨(Nat.le_of_ble_eq_true rfl), (Nat.le_of_ble_eq_true rfl)⟩ ⟨(Nat.le_of_ble_eq_true rfl), (Nat.le_of_ble_eq_true rfl)⟩ (Nat.le_of_ble_eq_true rfl) d_L_add_59 (fun x3 M4 => ?_)
    refine G_pop g (pc := 62) d_L_add_62 rfl ?_
    refine G_iconst g (pc := 63) (0 : Int32) d_L_add_63 rfl ?_
    refine G_istore_n g (pc := 64) _ d_L_add_64 rfl (Nat.le_of_ble_eq_true rfl) rfl ?_
    refine G_sub [0, 1, 2, 3] [(3, .int (0 : Int32)), (0, .ref (wad w 0)), (1, .ref (wad w 145)), (2, .int a3)] rfl ?_
    refine G_sub [1, 2, 3, 0] _ rfl ?_
    refine G_loop (F := lp_L_add_65 N rr a3) 65 80 (fun (v65 : Int32) => [(0, .ref (wad w 0)), (1, .ref (wad w 145)), (2, .int a3), (3, .int v65)]) (fun (v65 : Int32) => [(0, .ref (wad w 0)), (1, .ref (wad w 145)), (2, .int a3), (3, .int v65)]) (fun _ _ _ => rfl) (fun a8 M7 => ?_) (fun k65 hk65 Nl65 ih65 v65 M => ?_) N (0 : Int32) M4
    · exact G_return g (pc := 80) hret (Nat.le_of_ble_eq_true rfl) (Nat.le_of_ble_eq_true rfl) d_L_add_80
    · show Go p0 l e _ s m args below meth c w _ _ _ _ (lp_L_add_65 N rr a3 (Nl65 + 1) v65 M k65) 65 _ _ M
      unfold lp_L_add_65
      refine G_iload_n g (pc := 65) 3 d_L_add_65 rfl rfl ?_
      refine G_iconst g (pc := 66) (5 : Int32) d_L_add_66 rfl ?_
      refine G_icmp_ge g (pc := 67) 80 d_L_add_67 (by decide) ?_ ?_
      · refine G_aload_n g (pc := 70) 1 d_L_add_70 rfl rfl ?_
        refine G_iload_n g (pc := 71) 3 d_L_add_71 rfl rfl ?_
        refine G_iconst g (pc := 72) (0 : Int32) d_L_add_72 rfl ?_
        refine G_iast g (pc := 73) (nn := 6) hv.m hv.k hv.n d_L_add_73 ?_
        refine G_nmM (fun M5 => ?_)
        refine G_nmX (v65 + (1 : Int32)) (fun x6 e_x6 => ?_)
        refine G_iinc g (pc := 74) x6 _ 3 d_L_add_74 rfl e_x6.symm (Nat.le_of_ble_eq_true rfl) rfl ?_
        refine G_sub [0, 1, 2, 3] [(3, .int x6), (0, .ref (wad w 0)), (1, .ref (wad w 145)), (2, .int a3)] rfl ?_
        refine G_goto g (pc := 77) 65 d_L_add_77 (by decide) ?_
        refine G_sub [1, 2, 3, 0] _ rfl ?_
        exact ih65 x6 M5
      · refine G_sub [0, 1, 2, 3] _ rfl ?_
        exact hk65 v65 M
  · exact G_return g (pc := 42) hret (Nat.le_of_ble_eq_true rfl) (Nat.le_of_ble_eq_true rfl) d_L_add_42

theorem d_L_end_0 : decode b_L_end 0 = .ok (.aload_n 1, 1) := by decide +kernel
theorem d_L_end_1 : decode b_L_end 1 = .ok (.iconst 5, 1) := by decide +kernel
theorem d_L_end_2 : decode b_L_end 2 = .ok (.iaload, 1) := by decide +kernel
theorem d_L_end_3 : decode b_L_end 3 = .ok (.istore_n 2, 1) := by decide +kernel
theorem d_L_end_4 : decode b_L_end 4 = .ok (.aload_n 1, 1) := by decide +kernel
theorem d_L_end_5 : decode b_L_end 5 = .ok (.iconst 5, 1) := by decide +kernel
theorem d_L_end_6 : decode b_L_end 6 = .ok (.iaload, 1) := by decide +kernel
theorem d_L_end_7 : decode b_L_end 7 = .ok (.bipush 20, 2) := by decide +kernel
theorem d_L_end_9 : decode b_L_end 9 = .ok (.irem, 1) := by decide +kernel
theorem d_L_end_10 : decode b_L_end 10 = .ok (.ifCond .eq 13, 3) := by decide +kernel
theorem d_L_end_13 : decode b_L_end 13 = .ok (.aload_n 0, 1) := by decide +kernel
theorem d_L_end_14 : decode b_L_end 14 = .ok (.aload_n 1, 1) := by decide +kernel
theorem d_L_end_15 : decode b_L_end 15 = .ok (.bipush 32, 2) := by decide +kernel
theorem d_L_end_17 : decode b_L_end 17 = .ok (.invokestatic 24, 3) := by decide +kernel
theorem d_L_end_20 : decode b_L_end 20 = .ok (.goto (-16), 3) := by decide +kernel
theorem d_L_end_23 : decode b_L_end 23 = .ok (.aload_n 1, 1) := by decide +kernel
theorem d_L_end_24 : decode b_L_end 24 = .ok (.iconst 5, 1) := by decide +kernel
theorem d_L_end_25 : decode b_L_end 25 = .ok (.iconst 0, 1) := by decide +kernel
theorem d_L_end_26 : decode b_L_end 26 = .ok (.iastore, 1) := by decide +kernel
theorem d_L_end_27 : decode b_L_end 27 = .ok (.iload_n 2, 1) := by decide +kernel
theorem d_L_end_28 : decode b_L_end 28 = .ok (.ireturn, 1) := by decide +kernel
theorem cc_L_24 : CS "KiteLoggerLaw" 24 y_L_add b_L_add 4 none 3 := ⟨TT_in (i := 674) (by decide +kernel) (by decide +kernel), TT_in (i := 675) (by decide +kernel) (by decide +kernel), TT_in (i := 17) (by decide +kernel) (by decide +kernel), TT_in (i := 676) (by decide +kernel) (by decide +kernel), ⟨by decide +kernel, by decide +kernel, by decide +kernel⟩⟩
def lp_L_end_4 (N0 rr : Nat)  (c2 : Int32) : Nat → Unit → Mem → (Unit → Mem → Option (Int32 × Mem)) → Option (Int32 × Mem)
  | 0, _, _, _ => none
  | N + 1, v4, M, k4 => if (irm (M 145 5) (20 : Int32)) = 0 then (k4 () M) else (bndM (f_L_add N0 rr (32 : Int32) M) fun (M3 : Mem) => lp_L_end_4 N0 rr c2 N () M3 k4)
def f_L_end (N : Nat) (rr : Nat) (M : Mem) : Option (Int32 × Mem) :=
  nm (M 145 5) fun (x1 : Int32) => lp_L_end_4 N rr x1 N () M (fun (a5 : Unit) (M4 : Mem) => nm (put M4 145 5 (0 : Int32)) fun (M6 : Mem) => some (x1, M6))
set_option maxHeartbeats 4000000 in
set_option maxRecDepth 100000 in
theorem c_L_end (l : Launch) (N : Nat) {w : Wc} {rr : Nat} (hw : WK w rr) (hv : WV w)  (M : Mem) : Ct QI l y_L_end b_L_end 3 (some .int) (rmL 3) w [.ref (wad w 0), .ref (wad w 145)] M (f_L_end N rr M) := by
  refine Ct.go (by decide) (L := [(0, .ref (wad w 0)), (1, .ref (wad w 145))]) rfl (Nat.le_of_ble_eq_true rfl) (fun p0 e s m args below meth c g hret => ?_)
  unfold f_L_end
  refine G_aload_n g (pc := 0) 1 d_L_end_0 rfl rfl ?_
  refine G_iconst g (pc := 1) (5 : Int32) d_L_end_1 rfl ?_
  refine G_ialdK g (pc := 2) (nn := 6) 5 rfl rfl hv.m hv.k hv.n d_L_end_2 ?_
  refine G_nmI (fun x1 => ?_)
  refine G_istore_n g (pc := 3) _ d_L_end_3 rfl (Nat.le_of_ble_eq_true rfl) rfl ?_
  refine G_sub [0, 1, 2] [(2, .int x1), (0, .ref (wad w 0)), (1, .ref (wad w 145))] rfl ?_
  refine G_sub [1, 2, 0] _ rfl ?_
  refine G_loop (F := lp_L_end_4 N rr x1) 4 23 (fun (v4 : Unit) => [(0, .ref (wad w 0)), (1, .ref (wad w 145)), (2, .int x1)]) (fun (v4 : Unit) => [(0, .ref (wad w 0)), (1, .ref (wad w 145)), (2, .int x1)]) (fun _ _ _ => rfl) (fun a5 M4 => ?_) (fun k4 hk4 Nl4 ih4 v4 M => ?_) N () M
  · refine G_aload_n g (pc := 23) 1 d_L_end_23 rfl rfl ?_
    refine G_iconst g (pc := 24) (5 : Int32) d_L_end_24 rfl ?_
    refine G_iconst g (pc := 25) (0 : Int32) d_L_end_25 rfl ?_
    refine G_iastK g (pc := 26) (nn := 6) 5 rfl rfl hv.m hv.k hv.n d_L_end_26 ?_
    refine G_nmM (fun M6 => ?_)
    refine G_iload_n g (pc := 27) 2 d_L_end_27 rfl rfl ?_
    exact G_ireturn g (pc := 28) hret (Nat.le_of_ble_eq_true rfl) (Nat.le_of_ble_eq_true rfl) d_L_end_28
  · show Go p0 l e _ s m args below meth c w _ _ _ _ (lp_L_end_4 N rr x1 (Nl4 + 1) v4 M k4) 4 _ _ M
    unfold lp_L_end_4
    refine G_aload_n g (pc := 4) 1 d_L_end_4 rfl rfl ?_
    refine G_iconst g (pc := 5) (5 : Int32) d_L_end_5 rfl ?_
    refine G_ialdK g (pc := 6) (nn := 6) 5 rfl rfl hv.m hv.k hv.n d_L_end_6 ?_
    refine G_bipush g (pc := 7) (20 : Int32) d_L_end_7 rfl ?_
    refine G_iremK g (pc := 9) (by decide) d_L_end_9 ?_
    refine G_if_eq g (pc := 10) 23 d_L_end_10 (by decide) ?_ ?_
    · refine G_sub [0, 1, 2] _ rfl ?_
      exact hk4 () M
    · refine G_aload_n g (pc := 13) 0 d_L_end_13 rfl rfl ?_
      refine G_aload_n g (pc := 14) 1 d_L_end_14 rfl rfl ?_
      refine G_bipush g (pc := 15) (32 : Int32) d_L_end_15 rfl ?_
      refine G_cSV0 g (pc := 17) (As := [.ref (wad w 0), .ref (wad w 145), .int (32 : Int32)]) (st := []) cc_L_24 (c_L_add l N hw hv (32 : Int32) M) rfl ⟨(Nat.le_of_ble_eq_true rfl), (Nat.le_of_ble_eq_true rfl)⟩ ⟨(Nat.le_of_ble_eq_true rfl), (Nat.le_of_ble_eq_true rfl)⟩ (Nat.le_of_ble_eq_true rfl) d_L_end_17 (fun M3 => ?_)
      refine G_goto g (pc := 20) 4 d_L_end_20 (by decide) ?_
      refine G_sub [0, 1, 2] _ rfl ?_
      exact ih4 () M3

theorem d_L_alike_0 : decode b_L_alike 0 = .ok (.aload_n 0, 1) := by decide +kernel
theorem d_L_alike_1 : decode b_L_alike 1 = .ok (.arraylength, 1) := by decide +kernel
theorem d_L_alike_2 : decode b_L_alike 2 = .ok (.aload_n 1, 1) := by decide +kernel
theorem d_L_alike_3 : decode b_L_alike 3 = .ok (.arraylength, 1) := by decide +kernel
theorem d_L_alike_4 : decode b_L_alike 4 = .ok (.if_icmp .eq 5, 3) := by decide +kernel
theorem d_L_alike_7 : decode b_L_alike 7 = .ok (.iconst 0, 1) := by decide +kernel
theorem d_L_alike_8 : decode b_L_alike 8 = .ok (.ireturn, 1) := by decide +kernel
theorem d_L_alike_9 : decode b_L_alike 9 = .ok (.iconst 0, 1) := by decide +kernel
theorem d_L_alike_10 : decode b_L_alike 10 = .ok (.istore_n 2, 1) := by decide +kernel
theorem d_L_alike_11 : decode b_L_alike 11 = .ok (.iload_n 2, 1) := by decide +kernel
theorem d_L_alike_12 : decode b_L_alike 12 = .ok (.aload_n 0, 1) := by decide +kernel
theorem d_L_alike_13 : decode b_L_alike 13 = .ok (.arraylength, 1) := by decide +kernel
theorem d_L_alike_14 : decode b_L_alike 14 = .ok (.if_icmp .ge 20, 3) := by decide +kernel
theorem d_L_alike_17 : decode b_L_alike 17 = .ok (.aload_n 0, 1) := by decide +kernel
theorem d_L_alike_18 : decode b_L_alike 18 = .ok (.iload_n 2, 1) := by decide +kernel
theorem d_L_alike_19 : decode b_L_alike 19 = .ok (.iaload, 1) := by decide +kernel
theorem d_L_alike_20 : decode b_L_alike 20 = .ok (.aload_n 1, 1) := by decide +kernel
theorem d_L_alike_21 : decode b_L_alike 21 = .ok (.iload_n 2, 1) := by decide +kernel
theorem d_L_alike_22 : decode b_L_alike 22 = .ok (.iaload, 1) := by decide +kernel
theorem d_L_alike_23 : decode b_L_alike 23 = .ok (.if_icmp .eq 5, 3) := by decide +kernel
theorem d_L_alike_26 : decode b_L_alike 26 = .ok (.iconst 0, 1) := by decide +kernel
theorem d_L_alike_27 : decode b_L_alike 27 = .ok (.ireturn, 1) := by decide +kernel
theorem d_L_alike_28 : decode b_L_alike 28 = .ok (.iinc 2 1, 3) := by decide +kernel
theorem d_L_alike_31 : decode b_L_alike 31 = .ok (.goto (-20), 3) := by decide +kernel
theorem d_L_alike_34 : decode b_L_alike 34 = .ok (.iconst 1, 1) := by decide +kernel
theorem d_L_alike_35 : decode b_L_alike 35 = .ok (.ireturn, 1) := by decide +kernel
def lp_L_alike_11 (N0 rr : Nat) (a1 na1 : Nat) (a2 na2 : Nat)  : Nat → Int32 → Mem → (Int32 → Mem → Option (Bool × Mem)) → Option (Bool × Mem)
  | 0, _, _, _ => none
  | N + 1, v11, M, k11 => if v11 < (nI na1) then (grd (inB v11 na1) (grd (inB v11 na2) (if (M a1 v11.toNatClampNeg) = (M a2 v11.toNatClampNeg) then (nm (v11 + (1 : Int32)) fun (x1 : Int32) => lp_L_alike_11 N0 rr a1 na1 a2 na2 N x1 M k11) else (some (false, M))))) else (k11 v11 M)
def f_L_alike (N : Nat) (rr : Nat) (a1 na1 : Nat) (a2 na2 : Nat) (M : Mem) : Option (Bool × Mem) :=
  if (nI na1) = (nI na2) then (lp_L_alike_11 N rr a1 na1 a2 na2 N (0 : Int32) M (fun (a3 : Int32) (M2 : Mem) => some (true, M2))) else (some (false, M))
set_option maxHeartbeats 4000000 in
set_option maxRecDepth 100000 in
theorem c_L_alike (l : Launch) (N : Nat) {w : Wc} {rr : Nat} (hw : WK w rr) (a1 na1 : Nat) (hma1 : a1 ∈ wL w) (hka1 : (wZ w a1).1 = 20) (hna1 : (wZ w a1).2.1 = na1) (a2 na2 : Nat) (hma2 : a2 ∈ wL w) (hka2 : (wZ w a2).1 = 20) (hna2 : (wZ w a2).2.1 = na2) (M : Mem) : Ct QZ l y_L_alike b_L_alike 3 (some .boolean) (rmL 0) w [.ref (wad w a1), .ref (wad w a2)] M (f_L_alike N rr a1 na1 a2 na2 M) := by
  refine Ct.go (by decide) (L := [(0, .ref (wad w a1)), (1, .ref (wad w a2))]) rfl (Nat.le_of_ble_eq_true rfl) (fun p0 e s m args below meth c g hret => ?_)
  unfold f_L_alike
  refine G_aload_n g (pc := 0) 0 d_L_alike_0 rfl rfl ?_
  refine G_alen g (pc := 1) (nI na1) hma1 hka1 (by rw [hna1]; rfl) d_L_alike_1 ?_
  refine G_aload_n g (pc := 2) 1 d_L_alike_2 rfl rfl ?_
  refine G_alen g (pc := 3) (nI na2) hma2 hka2 (by rw [hna2]; rfl) d_L_alike_3 ?_
  refine G_icmp_eq g (pc := 4) 9 d_L_alike_4 (by decide) ?_ ?_
  · refine G_iconst g (pc := 9) (0 : Int32) d_L_alike_9 rfl ?_
    refine G_istore_n g (pc := 10) _ d_L_alike_10 rfl (Nat.le_of_ble_eq_true rfl) rfl ?_
    refine G_sub [0, 1, 2] [(2, .int (0 : Int32)), (0, .ref (wad w a1)), (1, .ref (wad w a2))] rfl ?_
    refine G_sub [1, 2, 0] _ rfl ?_
    refine G_loop (F := lp_L_alike_11 N rr a1 na1 a2 na2) 11 34 (fun (v11 : Int32) => [(0, .ref (wad w a1)), (1, .ref (wad w a2)), (2, .int v11)]) (fun (v11 : Int32) => [(0, .ref (wad w a1)), (1, .ref (wad w a2)), (2, .int v11)]) (fun _ _ _ => rfl) (fun a3 M2 => ?_) (fun k11 hk11 Nl11 ih11 v11 M => ?_) N (0 : Int32) M
    · refine G_iconst g (pc := 34) (1 : Int32) d_L_alike_34 rfl ?_
      exact G_zreturn g (pc := 35) true rfl hret (Nat.le_of_ble_eq_true rfl) (Nat.le_of_ble_eq_true rfl) d_L_alike_35
    · show Go p0 l e _ s m args below meth c w _ _ _ _ (lp_L_alike_11 N rr a1 na1 a2 na2 (Nl11 + 1) v11 M k11) 11 _ _ M
      unfold lp_L_alike_11
      refine G_iload_n g (pc := 11) 2 d_L_alike_11 rfl rfl ?_
      refine G_aload_n g (pc := 12) 0 d_L_alike_12 rfl rfl ?_
      refine G_alen g (pc := 13) (nI na1) hma1 hka1 (by rw [hna1]; rfl) d_L_alike_13 ?_
      refine G_icmp_ge g (pc := 14) 34 d_L_alike_14 (by decide) ?_ ?_
      · refine G_aload_n g (pc := 17) 0 d_L_alike_17 rfl rfl ?_
        refine G_iload_n g (pc := 18) 2 d_L_alike_18 rfl rfl ?_
        refine G_iald g (pc := 19) (nn := na1) hma1 hka1 hna1 d_L_alike_19 ?_
        refine G_aload_n g (pc := 20) 1 d_L_alike_20 rfl rfl ?_
        refine G_iload_n g (pc := 21) 2 d_L_alike_21 rfl rfl ?_
        refine G_iald g (pc := 22) (nn := na2) hma2 hka2 hna2 d_L_alike_22 ?_
        refine G_icmp_eq g (pc := 23) 28 d_L_alike_23 (by decide) ?_ ?_
        · refine G_nmX (v11 + (1 : Int32)) (fun x1 e_x1 => ?_)
          refine G_iinc g (pc := 28) x1 _ 2 d_L_alike_28 rfl e_x1.symm (Nat.le_of_ble_eq_true rfl) rfl ?_
          refine G_sub [0, 1, 2] [(2, .int x1), (0, .ref (wad w a1)), (1, .ref (wad w a2))] rfl ?_
          refine G_goto g (pc := 31) 11 d_L_alike_31 (by decide) ?_
          refine G_sub [1, 2, 0] _ rfl ?_
          exact ih11 x1 M
        · refine G_iconst g (pc := 26) (0 : Int32) d_L_alike_26 rfl ?_
          exact G_zreturn g (pc := 27) false rfl hret (Nat.le_of_ble_eq_true rfl) (Nat.le_of_ble_eq_true rfl) d_L_alike_27
      · refine G_sub [0, 1, 2] _ rfl ?_
        exact hk11 v11 M
  · refine G_iconst g (pc := 7) (0 : Int32) d_L_alike_7 rfl ?_
    exact G_zreturn g (pc := 8) false rfl hret (Nat.le_of_ble_eq_true rfl) (Nat.le_of_ble_eq_true rfl) d_L_alike_8
