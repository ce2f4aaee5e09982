theorem d_C_wordOf_0 : decode b_C_wordOf 0 = .ok (.iload_n 0, 1) := by decide +kernel
theorem d_C_wordOf_1 : decode b_C_wordOf 1 = .ok (.tableswitch 78 1 9 #[51, 54, 57, 60, 63, 66, 69, 72, 75], 51) := by decide +kernel
theorem d_C_wordOf_52 : decode b_C_wordOf 52 = .ok (.ldc 87, 2) := by decide +kernel
theorem d_C_wordOf_54 : decode b_C_wordOf 54 = .ok (.areturn, 1) := by decide +kernel
theorem d_C_wordOf_55 : decode b_C_wordOf 55 = .ok (.ldc 89, 2) := by decide +kernel
theorem d_C_wordOf_57 : decode b_C_wordOf 57 = .ok (.areturn, 1) := by decide +kernel
theorem d_C_wordOf_58 : decode b_C_wordOf 58 = .ok (.ldc 91, 2) := by decide +kernel
theorem d_C_wordOf_60 : decode b_C_wordOf 60 = .ok (.areturn, 1) := by decide +kernel
theorem d_C_wordOf_61 : decode b_C_wordOf 61 = .ok (.ldc 93, 2) := by decide +kernel
theorem d_C_wordOf_63 : decode b_C_wordOf 63 = .ok (.areturn, 1) := by decide +kernel
theorem d_C_wordOf_64 : decode b_C_wordOf 64 = .ok (.ldc 95, 2) := by decide +kernel
theorem d_C_wordOf_66 : decode b_C_wordOf 66 = .ok (.areturn, 1) := by decide +kernel
theorem d_C_wordOf_67 : decode b_C_wordOf 67 = .ok (.ldc 97, 2) := by decide +kernel
theorem d_C_wordOf_69 : decode b_C_wordOf 69 = .ok (.areturn, 1) := by decide +kernel
theorem d_C_wordOf_70 : decode b_C_wordOf 70 = .ok (.ldc 99, 2) := by decide +kernel
theorem d_C_wordOf_72 : decode b_C_wordOf 72 = .ok (.areturn, 1) := by decide +kernel
theorem d_C_wordOf_73 : decode b_C_wordOf 73 = .ok (.ldc 101, 2) := by decide +kernel
theorem d_C_wordOf_75 : decode b_C_wordOf 75 = .ok (.areturn, 1) := by decide +kernel
theorem d_C_wordOf_76 : decode b_C_wordOf 76 = .ok (.ldc 103, 2) := by decide +kernel
theorem d_C_wordOf_78 : decode b_C_wordOf 78 = .ok (.areturn, 1) := by decide +kernel
theorem d_C_wordOf_79 : decode b_C_wordOf 79 = .ok (.ldc 105, 2) := by decide +kernel
theorem d_C_wordOf_81 : decode b_C_wordOf 81 = .ok (.areturn, 1) := by decide +kernel
def f_C_wordOf (a1 : Int32) (M : Mem) : Option (Option Nat × Mem) :=
  if a1 = (1 : Int32) then (some (some (1000 + 7), M)) else (if a1 = (2 : Int32) then (some (some (1000 + 8), M)) else (if a1 = (3 : Int32) then (some (some (1000 + 9), M)) else (if a1 = (4 : Int32) then (some (some (1000 + 10), M)) else (if a1 = (5 : Int32) then (some (some (1000 + 11), M)) else (if a1 = (6 : Int32) then (some (some (1000 + 12), M)) else (if a1 = (7 : Int32) then (some (some (1000 + 13), M)) else (if a1 = (8 : Int32) then (some (some (1000 + 14), M)) else (if a1 = (9 : Int32) then (some (some (1000 + 15), M)) else (some (some (1000 + 16), M))))))))))
set_option maxHeartbeats 4000000 in
set_option maxRecDepth 100000 in
theorem c_C_wordOf (l : Launch) {w : Wc} {rr : Nat} (hw : WK w rr) (a1 : Int32) (M : Mem) : Ct QR l y_C_wordOf b_C_wordOf 1 (some (.object "java/lang/String")) (rmL 0) w [.int a1] M (f_C_wordOf a1 M) := by
  refine Ct.go (by decide) (L := [(0, .int a1)]) rfl (Nat.le_of_ble_eq_true rfl) (fun p0 e s m args below meth c g hret => ?_)
  unfold f_C_wordOf
  refine G_iload_n g (pc := 0) 0 d_C_wordOf_0 rfl rfl ?_
  refine G_case (v := (1 : Int32)) ?_ (fun ne1 => ?_)
  · refine G_tabK g (pc := 1) 52 d_C_wordOf_1 (by decide) (by decide) rfl (by decide) ?_
    refine G_ldcS g (pc := 52) 7 (List.mem_of_getElem? (i := 7) rfl) d_C_wordOf_52 ?_
    exact G_areturn g (pc := 54) (some (1000 + 7)) rfl hret (Or.inl ⟨_, rfl⟩) (Nat.le_of_ble_eq_true rfl) (Nat.le_of_ble_eq_true rfl) d_C_wordOf_54
  refine G_case (v := (2 : Int32)) ?_ (fun ne2 => ?_)
  · refine G_tabK g (pc := 1) 55 d_C_wordOf_1 (by decide) (by decide) rfl (by decide) ?_
    refine G_ldcS g (pc := 55) 8 (List.mem_of_getElem? (i := 8) rfl) d_C_wordOf_55 ?_
    exact G_areturn g (pc := 57) (some (1000 + 8)) rfl hret (Or.inl ⟨_, rfl⟩) (Nat.le_of_ble_eq_true rfl) (Nat.le_of_ble_eq_true rfl) d_C_wordOf_57
  refine G_case (v := (3 : Int32)) ?_ (fun ne3 => ?_)
  · refine G_tabK g (pc := 1) 58 d_C_wordOf_1 (by decide) (by decide) rfl (by decide) ?_
    refine G_ldcS g (pc := 58) 9 (List.mem_of_getElem? (i := 9) rfl) d_C_wordOf_58 ?_
    exact G_areturn g (pc := 60) (some (1000 + 9)) rfl hret (Or.inl ⟨_, rfl⟩) (Nat.le_of_ble_eq_true rfl) (Nat.le_of_ble_eq_true rfl) d_C_wordOf_60
  refine G_case (v := (4 : Int32)) ?_ (fun ne4 => ?_)
  · refine G_tabK g (pc := 1) 61 d_C_wordOf_1 (by decide) (by decide) rfl (by decide) ?_
    refine G_ldcS g (pc := 61) 10 (List.mem_of_getElem? (i := 10) rfl) d_C_wordOf_61 ?_
    exact G_areturn g (pc := 63) (some (1000 + 10)) rfl hret (Or.inl ⟨_, rfl⟩) (Nat.le_of_ble_eq_true rfl) (Nat.le_of_ble_eq_true rfl) d_C_wordOf_63
  refine G_case (v := (5 : Int32)) ?_ (fun ne5 => ?_)
  · refine G_tabK g (pc := 1) 64 d_C_wordOf_1 (by decide) (by decide) rfl (by decide) ?_
    refine G_ldcS g (pc := 64) 11 (List.mem_of_getElem? (i := 11) rfl) d_C_wordOf_64 ?_
    exact G_areturn g (pc := 66) (some (1000 + 11)) rfl hret (Or.inl ⟨_, rfl⟩) (Nat.le_of_ble_eq_true rfl) (Nat.le_of_ble_eq_true rfl) d_C_wordOf_66
  refine G_case (v := (6 : Int32)) ?_ (fun ne6 => ?_)
  · refine G_tabK g (pc := 1) 67 d_C_wordOf_1 (by decide) (by decide) rfl (by decide) ?_
    refine G_ldcS g (pc := 67) 12 (List.mem_of_getElem? (i := 12) rfl) d_C_wordOf_67 ?_
    exact G_areturn g (pc := 69) (some (1000 + 12)) rfl hret (Or.inl ⟨_, rfl⟩) (Nat.le_of_ble_eq_true rfl) (Nat.le_of_ble_eq_true rfl) d_C_wordOf_69
  refine G_case (v := (7 : Int32)) ?_ (fun ne7 => ?_)
  · refine G_tabK g (pc := 1) 70 d_C_wordOf_1 (by decide) (by decide) rfl (by decide) ?_
    refine G_ldcS g (pc := 70) 13 (List.mem_of_getElem? (i := 13) rfl) d_C_wordOf_70 ?_
    exact G_areturn g (pc := 72) (some (1000 + 13)) rfl hret (Or.inl ⟨_, rfl⟩) (Nat.le_of_ble_eq_true rfl) (Nat.le_of_ble_eq_true rfl) d_C_wordOf_72
  refine G_case (v := (8 : Int32)) ?_ (fun ne8 => ?_)
  · refine G_tabK g (pc := 1) 73 d_C_wordOf_1 (by decide) (by decide) rfl (by decide) ?_
    refine G_ldcS g (pc := 73) 14 (List.mem_of_getElem? (i := 14) rfl) d_C_wordOf_73 ?_
    exact G_areturn g (pc := 75) (some (1000 + 14)) rfl hret (Or.inl ⟨_, rfl⟩) (Nat.le_of_ble_eq_true rfl) (Nat.le_of_ble_eq_true rfl) d_C_wordOf_75
  refine G_case (v := (9 : Int32)) ?_ (fun ne9 => ?_)
  · refine G_tabK g (pc := 1) 76 d_C_wordOf_1 (by decide) (by decide) rfl (by decide) ?_
    refine G_ldcS g (pc := 76) 15 (List.mem_of_getElem? (i := 15) rfl) d_C_wordOf_76 ?_
    exact G_areturn g (pc := 78) (some (1000 + 15)) rfl hret (Or.inl ⟨_, rfl⟩) (Nat.le_of_ble_eq_true rfl) (Nat.le_of_ble_eq_true rfl) d_C_wordOf_78
  refine G_tabD g (pc := 1) 79 d_C_wordOf_1 (by have q1 : ¬ a1.toInt = 1 := lv_neT ne1 rfl; have q2 : ¬ a1.toInt = 2 := lv_neT ne2 rfl; have q3 : ¬ a1.toInt = 3 := lv_neT ne3 rfl; have q4 : ¬ a1.toInt = 4 := lv_neT ne4 rfl; have q5 : ¬ a1.toInt = 5 := lv_neT ne5 rfl; have q6 : ¬ a1.toInt = 6 := lv_neT ne6 rfl; have q7 : ¬ a1.toInt = 7 := lv_neT ne7 rfl; have q8 : ¬ a1.toInt = 8 := lv_neT ne8 rfl; have q9 : ¬ a1.toInt = 9 := lv_neT ne9 rfl; omega) (by decide) ?_
  refine G_ldcS g (pc := 79) 16 (List.mem_of_getElem? (i := 16) rfl) d_C_wordOf_79 ?_
  exact G_areturn g (pc := 81) (some (1000 + 16)) rfl hret (Or.inl ⟨_, rfl⟩) (Nat.le_of_ble_eq_true rfl) (Nat.le_of_ble_eq_true rfl) d_C_wordOf_81

theorem d_C_commandAt_0 : decode b_C_commandAt 0 = .ok (.iconst 1, 1) := by decide +kernel
theorem d_C_commandAt_1 : decode b_C_commandAt 1 = .ok (.istore_n 1, 1) := by decide +kernel
theorem d_C_commandAt_2 : decode b_C_commandAt 2 = .ok (.iload_n 1, 1) := by decide +kernel
theorem d_C_commandAt_3 : decode b_C_commandAt 3 = .ok (.bipush 9, 2) := by decide +kernel
theorem d_C_commandAt_5 : decode b_C_commandAt 5 = .ok (.if_icmp .gt 22, 3) := by decide +kernel
theorem d_C_commandAt_8 : decode b_C_commandAt 8 = .ok (.aload_n 0, 1) := by decide +kernel
theorem d_C_commandAt_9 : decode b_C_commandAt 9 = .ok (.iload_n 1, 1) := by decide +kernel
theorem d_C_commandAt_10 : decode b_C_commandAt 10 = .ok (.invokestatic 79, 3) := by decide +kernel
theorem d_C_commandAt_13 : decode b_C_commandAt 13 = .ok (.invokevirtual 83, 3) := by decide +kernel
theorem d_C_commandAt_16 : decode b_C_commandAt 16 = .ok (.ifCond .eq 5, 3) := by decide +kernel
theorem d_C_commandAt_19 : decode b_C_commandAt 19 = .ok (.iload_n 1, 1) := by decide +kernel
theorem d_C_commandAt_20 : decode b_C_commandAt 20 = .ok (.ireturn, 1) := by decide +kernel
theorem d_C_commandAt_21 : decode b_C_commandAt 21 = .ok (.iinc 1 1, 3) := by decide +kernel
theorem d_C_commandAt_24 : decode b_C_commandAt 24 = .ok (.goto (-22), 3) := by decide +kernel
theorem d_C_commandAt_27 : decode b_C_commandAt 27 = .ok (.iconst 0, 1) := by decide +kernel
theorem d_C_commandAt_28 : decode b_C_commandAt 28 = .ok (.ireturn, 1) := by decide +kernel
theorem cc_C_79 : CS "KiteLogger$Script" 79 y_C_wordOf b_C_wordOf 1 (some (.object "java/lang/String")) 1 := ⟨TT_in (i := 1270) (by decide +kernel) (by decide +kernel), TT_in (i := 1271) (by decide +kernel) (by decide +kernel), TT_in (i := 93) (by decide +kernel) (by decide +kernel), TT_in (i := 1272) (by decide +kernel) (by decide +kernel), ⟨by decide +kernel, by decide +kernel, by decide +kernel⟩⟩
theorem cc_C_83 : CV "KiteLogger$Script" 83 y_X_isAtWord b_X_isAtWord 3 (some .boolean) 1 := ⟨TT_in (i := 1283) (by decide +kernel) (by decide +kernel), TT_in (i := 887) (by decide +kernel) (by decide +kernel), TT_in (i := 888) (by decide +kernel) (by decide +kernel), TT_in (i := 89) (by decide +kernel) (by decide +kernel), TT_in (i := 889) (by decide +kernel) (by decide +kernel), ⟨by decide +kernel, by decide +kernel, by decide +kernel⟩⟩
def lp_C_commandAt_2 (N0 rr : Nat)   : Nat → Int32 → Mem → (Int32 → Mem → Option (Int32 × Mem)) → Option (Int32 × Mem)
  | 0, _, _, _ => none
  | N + 1, v2, M, k2 => if v2 ≤ (9 : Int32) then (bnd (f_C_wordOf v2 M) fun (x1 : Option Nat) (M2 : Mem) => scase x1 fun (i3 : Nat) => bnd (f_X_isAtWord N0 rr i3 M2) fun (x4 : Bool) (M5 : Mem) => if x4 = true then (some (v2, M5)) else (nm (v2 + (1 : Int32)) fun (x6 : Int32) => lp_C_commandAt_2 N0 rr N x6 M5 k2)) else (k2 v2 M)
def f_C_commandAt (N : Nat) (rr : Nat) (M : Mem) : Option (Int32 × Mem) :=
  lp_C_commandAt_2 N rr N (1 : Int32) M (fun (a8 : Int32) (M7 : Mem) => some ((0 : Int32), M7))
set_option maxHeartbeats 4000000 in
set_option maxRecDepth 100000 in
theorem c_C_commandAt (l : Launch) (N : Nat) {w : Wc} {rr : Nat} (hw : WK w rr)  (M : Mem) : Ct QI l y_C_commandAt b_C_commandAt 2 (some .int) (rmL 5) w [.ref (wad w 1)] M (f_C_commandAt N rr M) := by
  refine Ct.go (by decide) (L := [(0, .ref (wad w 1))]) rfl (Nat.le_of_ble_eq_true rfl) (fun p0 e s m args below meth c g hret => ?_)
  unfold f_C_commandAt
  refine G_iconst g (pc := 0) (1 : Int32) d_C_commandAt_0 rfl ?_
  refine G_istore_n g (pc := 1) _ d_C_commandAt_1 rfl (Nat.le_of_ble_eq_true rfl) rfl ?_
  refine G_sub [1, 0] _ rfl ?_
  refine G_loop (F := lp_C_commandAt_2 N rr) 2 27 (fun (v2 : Int32) => [(0, .ref (wad w 1)), (1, .int v2)]) (fun (v2 : Int32) => [(0, .ref (wad w 1)), (1, .int v2)]) (fun _ _ _ => rfl) (fun a8 M7 => ?_) (fun k2 hk2 Nl2 ih2 v2 M => ?_) N (1 : Int32) M
  · refine G_iconst g (pc := 27) (0 : Int32) d_C_commandAt_27 rfl ?_
    exact G_ireturn g (pc := 28) hret (Nat.le_of_ble_eq_true rfl) (Nat.le_of_ble_eq_true rfl) d_C_commandAt_28
  · show Go p0 l e _ s m args below meth c w _ _ _ _ (lp_C_commandAt_2 N rr (Nl2 + 1) v2 M k2) 2 _ _ M
    unfold lp_C_commandAt_2
    refine G_iload_n g (pc := 2) 1 d_C_commandAt_2 rfl rfl ?_
    refine G_bipush g (pc := 3) (9 : Int32) d_C_commandAt_3 rfl ?_
    refine G_icmp_gt g (pc := 5) 27 d_C_commandAt_5 (by decide) ?_ ?_
    · refine G_aload_n g (pc := 8) 0 d_C_commandAt_8 rfl rfl ?_
      refine G_iload_n g (pc := 9) 1 d_C_commandAt_9 rfl rfl ?_
      refine G_cSR g (pc := 10) (As := [.int v2]) (st := [.ref (wad w 1)]) cc_C_79 (c_C_wordOf l hw v2 M) rfl ⟨(Nat.le_of_ble_eq_true rfl), (Nat.le_of_ble_eq_true rfl)⟩ ⟨(Nat.le_of_ble_eq_true rfl), (Nat.le_of_ble_eq_true rfl)⟩ (Nat.le_of_ble_eq_true rfl) d_C_commandAt_10 (fun x1 M2 => ?_)
      refine G_scase (fun i3 hi3 => ?_)
      refine G_cVZ g (pc := 13) (As := [.ref (wad w (1000 + i3))]) (st := []) cc_C_83 (c_X_isAtWord l N hw i3 hi3 M2) (hw.m 1 (Nat.le_of_ble_eq_true rfl)) (hw.k (zk1 rr)) rfl (by decide) rfl ⟨(Nat.le_of_ble_eq_true rfl), (Nat.le_of_ble_eq_true rfl)⟩ ⟨(Nat.le_of_ble_eq_true rfl), (Nat.le_of_ble_eq_true rfl)⟩ (Nat.le_of_ble_eq_true rfl) d_C_commandAt_13 (fun x4 M5 => ?_)
      refine G_if_eqB g (pc := 16) 21 d_C_commandAt_16 (by decide) ?_ ?_
      · refine G_iload_n g (pc := 19) 1 d_C_commandAt_19 rfl rfl ?_
        exact G_ireturn g (pc := 20) hret (Nat.le_of_ble_eq_true rfl) (Nat.le_of_ble_eq_true rfl) d_C_commandAt_20
      · refine G_nmX (v2 + (1 : Int32)) (fun x6 e_x6 => ?_)
        refine G_iinc g (pc := 21) x6 _ 1 d_C_commandAt_21 rfl e_x6.symm (Nat.le_of_ble_eq_true rfl) rfl ?_
        refine G_goto g (pc := 24) 2 d_C_commandAt_24 (by decide) ?_
        refine G_sub [1, 0] _ rfl ?_
        exact ih2 x6 M5
    · refine G_sub [0, 1] _ rfl ?_
      exact hk2 v2 M

theorem d_C_readNumbers_0 : decode b_C_readNumbers 0 = .ok (.iconst 1, 1) := by decide +kernel
theorem d_C_readNumbers_1 : decode b_C_readNumbers 1 = .ok (.istore 4, 2) := by decide +kernel
theorem d_C_readNumbers_3 : decode b_C_readNumbers 3 = .ok (.iload_n 3, 1) := by decide +kernel
theorem d_C_readNumbers_4 : decode b_C_readNumbers 4 = .ok (.tableswitch 122 2 9 #[48, 48, 61, 74, 86, 122, 99, 111], 48) := by decide +kernel
theorem d_C_readNumbers_52 : decode b_C_readNumbers 52 = .ok (.aload_n 1, 1) := by decide +kernel
theorem d_C_readNumbers_53 : decode b_C_readNumbers 53 = .ok (.iconst 1, 1) := by decide +kernel
theorem d_C_readNumbers_54 : decode b_C_readNumbers 54 = .ok (.sipush 200, 3) := by decide +kernel
theorem d_C_readNumbers_57 : decode b_C_readNumbers 57 = .ok (.invokevirtual 72, 3) := by decide +kernel
theorem d_C_readNumbers_60 : decode b_C_readNumbers 60 = .ok (.istore 4, 2) := by decide +kernel
theorem d_C_readNumbers_62 : decode b_C_readNumbers 62 = .ok (.goto 64, 3) := by decide +kernel
theorem d_C_readNumbers_65 : decode b_C_readNumbers 65 = .ok (.aload_n 1, 1) := by decide +kernel
theorem d_C_readNumbers_66 : decode b_C_readNumbers 66 = .ok (.iconst 1, 1) := by decide +kernel
theorem d_C_readNumbers_67 : decode b_C_readNumbers 67 = .ok (.sipush 999, 3) := by decide +kernel
theorem d_C_readNumbers_70 : decode b_C_readNumbers 70 = .ok (.invokevirtual 72, 3) := by decide +kernel
theorem d_C_readNumbers_73 : decode b_C_readNumbers 73 = .ok (.istore 4, 2) := by decide +kernel
theorem d_C_readNumbers_75 : decode b_C_readNumbers 75 = .ok (.goto 51, 3) := by decide +kernel
theorem d_C_readNumbers_78 : decode b_C_readNumbers 78 = .ok (.aload_n 1, 1) := by decide +kernel
theorem d_C_readNumbers_79 : decode b_C_readNumbers 79 = .ok (.iconst 1, 1) := by decide +kernel
theorem d_C_readNumbers_80 : decode b_C_readNumbers 80 = .ok (.bipush 20, 2) := by decide +kernel
theorem d_C_readNumbers_82 : decode b_C_readNumbers 82 = .ok (.invokevirtual 72, 3) := by decide +kernel
theorem d_C_readNumbers_85 : decode b_C_readNumbers 85 = .ok (.istore 4, 2) := by decide +kernel
theorem d_C_readNumbers_87 : decode b_C_readNumbers 87 = .ok (.goto 39, 3) := by decide +kernel
theorem d_C_readNumbers_90 : decode b_C_readNumbers 90 = .ok (.aload_n 1, 1) := by decide +kernel
theorem d_C_readNumbers_91 : decode b_C_readNumbers 91 = .ok (.iconst 0, 1) := by decide +kernel
theorem d_C_readNumbers_92 : decode b_C_readNumbers 92 = .ok (.sipush 2200, 3) := by decide +kernel
theorem d_C_readNumbers_95 : decode b_C_readNumbers 95 = .ok (.invokevirtual 72, 3) := by decide +kernel
theorem d_C_readNumbers_98 : decode b_C_readNumbers 98 = .ok (.istore 4, 2) := by decide +kernel
theorem d_C_readNumbers_100 : decode b_C_readNumbers 100 = .ok (.goto 26, 3) := by decide +kernel
theorem d_C_readNumbers_103 : decode b_C_readNumbers 103 = .ok (.aload_n 1, 1) := by decide +kernel
theorem d_C_readNumbers_104 : decode b_C_readNumbers 104 = .ok (.iconst 1, 1) := by decide +kernel
theorem d_C_readNumbers_105 : decode b_C_readNumbers 105 = .ok (.bipush 60, 2) := by decide +kernel
theorem d_C_readNumbers_107 : decode b_C_readNumbers 107 = .ok (.invokevirtual 72, 3) := by decide +kernel
theorem d_C_readNumbers_110 : decode b_C_readNumbers 110 = .ok (.istore 4, 2) := by decide +kernel
theorem d_C_readNumbers_112 : decode b_C_readNumbers 112 = .ok (.goto 14, 3) := by decide +kernel
theorem d_C_readNumbers_115 : decode b_C_readNumbers 115 = .ok (.aload_n 1, 1) := by decide +kernel
theorem d_C_readNumbers_116 : decode b_C_readNumbers 116 = .ok (.iconst 2, 1) := by decide +kernel
theorem d_C_readNumbers_117 : decode b_C_readNumbers 117 = .ok (.iconst 5, 1) := by decide +kernel
theorem d_C_readNumbers_118 : decode b_C_readNumbers 118 = .ok (.invokevirtual 72, 3) := by decide +kernel
theorem d_C_readNumbers_121 : decode b_C_readNumbers 121 = .ok (.istore 4, 2) := by decide +kernel
theorem d_C_readNumbers_123 : decode b_C_readNumbers 123 = .ok (.goto 3, 3) := by decide +kernel
theorem d_C_readNumbers_126 : decode b_C_readNumbers 126 = .ok (.aload_n 0, 1) := by decide +kernel
theorem d_C_readNumbers_127 : decode b_C_readNumbers 127 = .ok (.getfield 15, 3) := by decide +kernel
theorem d_C_readNumbers_130 : decode b_C_readNumbers 130 = .ok (.iload_n 2, 1) := by decide +kernel
theorem d_C_readNumbers_131 : decode b_C_readNumbers 131 = .ok (.aload_n 1, 1) := by decide +kernel
theorem d_C_readNumbers_132 : decode b_C_readNumbers 132 = .ok (.getfield 76, 3) := by decide +kernel
theorem d_C_readNumbers_135 : decode b_C_readNumbers 135 = .ok (.invokestatic 58, 3) := by decide +kernel
theorem d_C_readNumbers_138 : decode b_C_readNumbers 138 = .ok (.iload 4, 2) := by decide +kernel
theorem d_C_readNumbers_140 : decode b_C_readNumbers 140 = .ok (.ifCond .eq 30, 3) := by decide +kernel
theorem d_C_readNumbers_143 : decode b_C_readNumbers 143 = .ok (.iload_n 3, 1) := by decide +kernel
theorem d_C_readNumbers_144 : decode b_C_readNumbers 144 = .ok (.iconst 4, 1) := by decide +kernel
theorem d_C_readNumbers_145 : decode b_C_readNumbers 145 = .ok (.if_icmp .ne 25, 3) := by decide +kernel
theorem d_C_readNumbers_148 : decode b_C_readNumbers 148 = .ok (.aload_n 1, 1) := by decide +kernel
theorem d_C_readNumbers_149 : decode b_C_readNumbers 149 = .ok (.iconst 1, 1) := by decide +kernel
theorem d_C_readNumbers_150 : decode b_C_readNumbers 150 = .ok (.sipush 9999, 3) := by decide +kernel
theorem d_C_readNumbers_153 : decode b_C_readNumbers 153 = .ok (.invokevirtual 72, 3) := by decide +kernel
theorem d_C_readNumbers_156 : decode b_C_readNumbers 156 = .ok (.istore 4, 2) := by decide +kernel
theorem d_C_readNumbers_158 : decode b_C_readNumbers 158 = .ok (.aload_n 0, 1) := by decide +kernel
theorem d_C_readNumbers_159 : decode b_C_readNumbers 159 = .ok (.getfield 18, 3) := by decide +kernel
theorem d_C_readNumbers_162 : decode b_C_readNumbers 162 = .ok (.iload_n 2, 1) := by decide +kernel
theorem d_C_readNumbers_163 : decode b_C_readNumbers 163 = .ok (.aload_n 1, 1) := by decide +kernel
theorem d_C_readNumbers_164 : decode b_C_readNumbers 164 = .ok (.getfield 76, 3) := by decide +kernel
theorem d_C_readNumbers_167 : decode b_C_readNumbers 167 = .ok (.invokestatic 58, 3) := by decide +kernel
theorem d_C_readNumbers_170 : decode b_C_readNumbers 170 = .ok (.iload 4, 2) := by decide +kernel
theorem d_C_readNumbers_172 : decode b_C_readNumbers 172 = .ok (.ireturn, 1) := by decide +kernel
theorem cc_C_72 : CV "KiteLogger$Script" 72 y_X_takeNumber b_X_takeNumber 3 (some .boolean) 2 := ⟨TT_in (i := 1291) (by decide +kernel) (by decide +kernel), TT_in (i := 943) (by decide +kernel) (by decide +kernel), TT_in (i := 944) (by decide +kernel) (by decide +kernel), TT_in (i := 89) (by decide +kernel) (by decide +kernel), TT_in (i := 945) (by decide +kernel) (by decide +kernel), ⟨by decide +kernel, by decide +kernel, by decide +kernel⟩⟩
theorem cc_C_58 : CSN "KiteLogger$Script" 58 "KiteLogger" y_G_putAt b_G_putAt 3 none 3 := ⟨NW_in (i := 1285) (by decide +kernel) (by decide +kernel), TT_in (i := 963) (by decide +kernel) (by decide +kernel), TT_in (i := 88) (by decide +kernel) (by decide +kernel), TT_in (i := 964) (by decide +kernel) (by decide +kernel), ⟨by decide +kernel, by decide +kernel, by decide +kernel⟩⟩
def f_C_readNumbers (N : Nat) (rr : Nat) (a2 : Int32) (a3 : Int32) (M : Mem) : Option (Bool × Mem) :=
  if a3 = (2 : Int32) then (bnd (f_X_takeNumber N rr (1 : Int32) (200 : Int32) M) fun (x1 : Bool) (M2 : Mem) => bndM (f_G_putAt 7 a2 (M2 1 7) M2) fun (M4 : Mem) => if x1 = true then (if a3 = (4 : Int32) then (bnd (f_X_takeNumber N rr (1 : Int32) (9999 : Int32) M4) fun (x5 : Bool) (M6 : Mem) => bndM (f_G_putAt 8 a2 (M6 1 7) M6) fun (M8 : Mem) => some (x5, M8)) else (some (x1, M4))) else (some (x1, M4))) else (if a3 = (3 : Int32) then (bnd (f_X_takeNumber N rr (1 : Int32) (200 : Int32) M) fun (x9 : Bool) (M10 : Mem) => bndM (f_G_putAt 7 a2 (M10 1 7) M10) fun (M12 : Mem) => if x9 = true then (if a3 = (4 : Int32) then (bnd (f_X_takeNumber N rr (1 : Int32) (9999 : Int32) M12) fun (x13 : Bool) (M14 : Mem) => bndM (f_G_putAt 8 a2 (M14 1 7) M14) fun (M16 : Mem) => some (x13, M16)) else (some (x9, M12))) else (some (x9, M12))) else (if a3 = (4 : Int32) then (bnd (f_X_takeNumber N rr (1 : Int32) (999 : Int32) M) fun (x17 : Bool) (M18 : Mem) => bndM (f_G_putAt 7 a2 (M18 1 7) M18) fun (M20 : Mem) => if x17 = true then (if a3 = (4 : Int32) then (bnd (f_X_takeNumber N rr (1 : Int32) (9999 : Int32) M20) fun (x21 : Bool) (M22 : Mem) => bndM (f_G_putAt 8 a2 (M22 1 7) M22) fun (M24 : Mem) => some (x21, M24)) else (some (x17, M20))) else (some (x17, M20))) else (if a3 = (5 : Int32) then (bnd (f_X_takeNumber N rr (1 : Int32) (20 : Int32) M) fun (x25 : Bool) (M26 : Mem) => bndM (f_G_putAt 7 a2 (M26 1 7) M26) fun (M28 : Mem) => if x25 = true then (if a3 = (4 : Int32) then (bnd (f_X_takeNumber N rr (1 : Int32) (9999 : Int32) M28) fun (x29 : Bool) (M30 : Mem) => bndM (f_G_putAt 8 a2 (M30 1 7) M30) fun (M32 : Mem) => some (x29, M32)) else (some (x25, M28))) else (some (x25, M28))) else (if a3 = (6 : Int32) then (bnd (f_X_takeNumber N rr (0 : Int32) (2200 : Int32) M) fun (x33 : Bool) (M34 : Mem) => bndM (f_G_putAt 7 a2 (M34 1 7) M34) fun (M36 : Mem) => if x33 = true then (if a3 = (4 : Int32) then (bnd (f_X_takeNumber N rr (1 : Int32) (9999 : Int32) M36) fun (x37 : Bool) (M38 : Mem) => bndM (f_G_putAt 8 a2 (M38 1 7) M38) fun (M40 : Mem) => some (x37, M40)) else (some (x33, M36))) else (some (x33, M36))) else (if a3 = (8 : Int32) then (bnd (f_X_takeNumber N rr (1 : Int32) (60 : Int32) M) fun (x41 : Bool) (M42 : Mem) => bndM (f_G_putAt 7 a2 (M42 1 7) M42) fun (M44 : Mem) => if x41 = true then (if a3 = (4 : Int32) then (bnd (f_X_takeNumber N rr (1 : Int32) (9999 : Int32) M44) fun (x45 : Bool) (M46 : Mem) => bndM (f_G_putAt 8 a2 (M46 1 7) M46) fun (M48 : Mem) => some (x45, M48)) else (some (x41, M44))) else (some (x41, M44))) else (if a3 = (9 : Int32) then (bnd (f_X_takeNumber N rr (2 : Int32) (5 : Int32) M) fun (x49 : Bool) (M50 : Mem) => bndM (f_G_putAt 7 a2 (M50 1 7) M50) fun (M52 : Mem) => if x49 = true then (if a3 = (4 : Int32) then (bnd (f_X_takeNumber N rr (1 : Int32) (9999 : Int32) M52) fun (x53 : Bool) (M54 : Mem) => bndM (f_G_putAt 8 a2 (M54 1 7) M54) fun (M56 : Mem) => some (x53, M56)) else (some (x49, M52))) else (some (x49, M52))) else (if a3 = (7 : Int32) then (bndM (f_G_putAt 7 a2 (M 1 7) M) fun (M64 : Mem) => if a3 = (4 : Int32) then (bnd (f_X_takeNumber N rr (1 : Int32) (9999 : Int32) M64) fun (x65 : Bool) (M66 : Mem) => bndM (f_G_putAt 8 a2 (M66 1 7) M66) fun (M68 : Mem) => some (x65, M68)) else (some (true, M64))) else (bndM (f_G_putAt 7 a2 (M 1 7) M) fun (M58 : Mem) => if a3 = (4 : Int32) then (bnd (f_X_takeNumber N rr (1 : Int32) (9999 : Int32) M58) fun (x59 : Bool) (M60 : Mem) => bndM (f_G_putAt 8 a2 (M60 1 7) M60) fun (M62 : Mem) => some (x59, M62)) else (some (true, M58))))))))))
set_option maxHeartbeats 4000000 in
set_option maxRecDepth 100000 in
theorem c_C_readNumbers (l : Launch) (N : Nat) {w : Wc} {rr : Nat} (hw : WK w rr) (a2 : Int32) (a3 : Int32) (M : Mem) : Ct QZ l y_C_readNumbers b_C_readNumbers 5 (some .boolean) (rmL 3) w [.ref (wad w 5), .ref (wad w 1), .int a2, .int a3] M (f_C_readNumbers N rr a2 a3 M) := by
  refine Ct.go (by decide) (L := [(0, .ref (wad w 5)), (1, .ref (wad w 1)), (2, .int a2), (3, .int a3)]) rfl (Nat.le_of_ble_eq_true rfl) (fun p0 e s m args below meth c g hret => ?_)
  unfold f_C_readNumbers
  refine G_iconst g (pc := 0) (1 : Int32) d_C_readNumbers_0 rfl ?_
  refine G_istore g (pc := 1) _ d_C_readNumbers_1 (Nat.le_of_ble_eq_true rfl) rfl ?_
  refine G_iload_n g (pc := 3) 4 d_C_readNumbers_3 rfl rfl ?_
  refine G_case (v := (2 : Int32)) ?_ (fun ne2 => ?_)
  · refine G_tabK g (pc := 4) 52 d_C_readNumbers_4 (by decide) (by decide) rfl (by decide) ?_
    refine G_aload_n g (pc := 52) 2 d_C_readNumbers_52 rfl rfl ?_
    refine G_iconst g (pc := 53) (1 : Int32) d_C_readNumbers_53 rfl ?_
    refine G_sipush g (pc := 54) (200 : Int32) d_C_readNumbers_54 rfl ?_
    refine G_cVZ g (pc := 57) (As := [.int (1 : Int32), .int (200 : Int32)]) (st := []) cc_C_72 (c_X_takeNumber l N hw (1 : Int32) (200 : Int32) M) (hw.m 1 (Nat.le_of_ble_eq_true rfl)) (hw.k (zk1 rr)) rfl (by decide) rfl ⟨(Nat.le_of_ble_eq_true rfl), (Nat.le_of_ble_eq_true rfl)⟩ ⟨(Nat.le_of_ble_eq_true rfl), (Nat.le_of_ble_eq_true rfl)⟩ (Nat.le_of_ble_eq_true rfl) d_C_readNumbers_57 (fun x1 M2 => ?_)
    refine G_istore g (pc := 60) _ d_C_readNumbers_60 (Nat.le_of_ble_eq_true rfl) rfl ?_
    refine G_goto g (pc := 62) 126 d_C_readNumbers_62 (by decide) ?_
    refine G_aload_n g (pc := 126) 1 d_C_readNumbers_126 rfl rfl ?_
    refine G_getR g (pc := 127) fa_C_15 (hw.m 5 (Nat.le_of_ble_eq_true rfl)) (hw.k (zk5 rr)) (hw.r (zr5_1 rr)) d_C_readNumbers_127 ?_
    refine G_iload_n g (pc := 130) 3 d_C_readNumbers_130 rfl rfl ?_
    refine G_aload_n g (pc := 131) 2 d_C_readNumbers_131 rfl rfl ?_
    refine G_getN g (pc := 132) fa_C_76 (hw.m 1 (Nat.le_of_ble_eq_true rfl)) (hw.k (zk1 rr)) d_C_readNumbers_132 ?_
    refine G_cSNV g (pc := 135) (As := [.ref (wad w 7), .int a2, .int (M2 1 7)]) (st := []) cc_C_58 (c_G_putAt l hw 7 (hw.m 7 (Nat.le_of_ble_eq_true rfl)) (hw.k (zk7 rr)) a2 (M2 1 7) M2) rfl ⟨(Nat.le_of_ble_eq_true rfl), (Nat.le_of_ble_eq_true rfl)⟩ ⟨(Nat.le_of_ble_eq_true rfl), (Nat.le_of_ble_eq_true rfl)⟩ (Nat.le_of_ble_eq_true rfl) d_C_readNumbers_135 (fun M4 => ?_)
    refine G_iload g (pc := 138) 0 d_C_readNumbers_138 rfl ?_
    refine G_if_eqB g (pc := 140) 170 d_C_readNumbers_140 (by decide) ?_ ?_
    · refine G_iload_n g (pc := 143) 4 d_C_readNumbers_143 rfl rfl ?_
      refine G_iconst g (pc := 144) (4 : Int32) d_C_readNumbers_144 rfl ?_
      refine G_icmp_ne g (pc := 145) 170 d_C_readNumbers_145 (by decide) ?_ ?_
      · refine G_aload_n g (pc := 148) 2 d_C_readNumbers_148 rfl rfl ?_
        refine G_iconst g (pc := 149) (1 : Int32) d_C_readNumbers_149 rfl ?_
        refine G_sipush g (pc := 150) (9999 : Int32) d_C_readNumbers_150 rfl ?_
        refine G_cVZ g (pc := 153) (As := [.int (1 : Int32), .int (9999 : Int32)]) (st := []) cc_C_72 (c_X_takeNumber l N hw (1 : Int32) (9999 : Int32) M4) (hw.m 1 (Nat.le_of_ble_eq_true rfl)) (hw.k (zk1 rr)) rfl (by decide) rfl ⟨(Nat.le_of_ble_eq_true rfl), (Nat.le_of_ble_eq_true rfl)⟩ ⟨(Nat.le_of_ble_eq_true rfl), (Nat.le_of_ble_eq_true rfl)⟩ (Nat.le_of_ble_eq_true rfl) d_C_readNumbers_153 (fun x5 M6 => ?_)
        refine G_istore g (pc := 156) _ d_C_readNumbers_156 (Nat.le_of_ble_eq_true rfl) rfl ?_
        refine G_aload_n g (pc := 158) 1 d_C_readNumbers_158 rfl rfl ?_
        refine G_getR g (pc := 159) fa_C_18 (hw.m 5 (Nat.le_of_ble_eq_true rfl)) (hw.k (zk5 rr)) (hw.r (zr5_2 rr)) d_C_readNumbers_159 ?_
        refine G_iload_n g (pc := 162) 3 d_C_readNumbers_162 rfl rfl ?_
        refine G_aload_n g (pc := 163) 2 d_C_readNumbers_163 rfl rfl ?_
        refine G_getN g (pc := 164) fa_C_76 (hw.m 1 (Nat.le_of_ble_eq_true rfl)) (hw.k (zk1 rr)) d_C_readNumbers_164 ?_
        refine G_cSNV g (pc := 167) (As := [.ref (wad w 8), .int a2, .int (M6 1 7)]) (st := []) cc_C_58 (c_G_putAt l hw 8 (hw.m 8 (Nat.le_of_ble_eq_true rfl)) (hw.k (zk8 rr)) a2 (M6 1 7) M6) rfl ⟨(Nat.le_of_ble_eq_true rfl), (Nat.le_of_ble_eq_true rfl)⟩ ⟨(Nat.le_of_ble_eq_true rfl), (Nat.le_of_ble_eq_true rfl)⟩ (Nat.le_of_ble_eq_true rfl) d_C_readNumbers_167 (fun M8 => ?_)
        refine G_iload g (pc := 170) 0 d_C_readNumbers_170 rfl ?_
        exact G_zreturn g (pc := 172) x5 rfl hret (Nat.le_of_ble_eq_true rfl) (Nat.le_of_ble_eq_true rfl) d_C_readNumbers_172
      · refine G_iload g (pc := 170) 0 d_C_readNumbers_170 rfl ?_
        exact G_zreturn g (pc := 172) x1 rfl hret (Nat.le_of_ble_eq_true rfl) (Nat.le_of_ble_eq_true rfl) d_C_readNumbers_172
    · refine G_iload g (pc := 170) 0 d_C_readNumbers_170 rfl ?_
      exact G_zreturn g (pc := 172) x1 rfl hret (Nat.le_of_ble_eq_true rfl) (Nat.le_of_ble_eq_true rfl) d_C_readNumbers_172
  refine G_case (v := (3 : Int32)) ?_ (fun ne3 => ?_)
  · refine G_tabK g (pc := 4) 52 d_C_readNumbers_4 (by decide) (by decide) rfl (by decide) ?_
    refine G_aload_n g (pc := 52) 2 d_C_readNumbers_52 rfl rfl ?_
    refine G_iconst g (pc := 53) (1 : Int32) d_C_readNumbers_53 rfl ?_
    refine G_sipush g (pc := 54) (200 : Int32) d_C_readNumbers_54 rfl ?_
    refine G_cVZ g (pc := 57) (As := [.int (1 : Int32), .int (200 : Int32)]) (st := []) cc_C_72 (c_X_takeNumber l N hw (1 : Int32) (200 : Int32) M) (hw.m 1 (Nat.le_of_ble_eq_true rfl)) (hw.k (zk1 rr)) rfl (by decide) rfl ⟨(Nat.le_of_ble_eq_true rfl), (Nat.le_of_ble_eq_true rfl)⟩ ⟨(Nat.le_of_ble_eq_true rfl), (Nat.le_of_ble_eq_true rfl)⟩ (Nat.le_of_ble_eq_true rfl) d_C_readNumbers_57 (fun x9 M10 => ?_)
    refine G_istore g (pc := 60) _ d_C_readNumbers_60 (Nat.le_of_ble_eq_true rfl) rfl ?_
    refine G_goto g (pc := 62) 126 d_C_readNumbers_62 (by decide) ?_
    refine G_aload_n g (pc := 126) 1 d_C_readNumbers_126 rfl rfl ?_
    refine G_getR g (pc := 127) fa_C_15 (hw.m 5 (Nat.le_of_ble_eq_true rfl)) (hw.k (zk5 rr)) (hw.r (zr5_1 rr)) d_C_readNumbers_127 ?_
    refine G_iload_n g (pc := 130) 3 d_C_readNumbers_130 rfl rfl ?_
    refine G_aload_n g (pc := 131) 2 d_C_readNumbers_131 rfl rfl ?_
    refine G_getN g (pc := 132) fa_C_76 (hw.m 1 (Nat.le_of_ble_eq_true rfl)) (hw.k (zk1 rr)) d_C_readNumbers_132 ?_
    refine G_cSNV g (pc := 135) (As := [.ref (wad w 7), .int a2, .int (M10 1 7)]) (st := []) cc_C_58 (c_G_putAt l hw 7 (hw.m 7 (Nat.le_of_ble_eq_true rfl)) (hw.k (zk7 rr)) a2 (M10 1 7) M10) rfl ⟨(Nat.le_of_ble_eq_true rfl), (Nat.le_of_ble_eq_true rfl)⟩ ⟨(Nat.le_of_ble_eq_true rfl), (Nat.le_of_ble_eq_true rfl)⟩ (Nat.le_of_ble_eq_true rfl) d_C_readNumbers_135 (fun M12 => ?_)
    refine G_iload g (pc := 138) 0 d_C_readNumbers_138 rfl ?_
    refine G_if_eqB g (pc := 140) 170 d_C_readNumbers_140 (by decide) ?_ ?_
    · refine G_iload_n g (pc := 143) 4 d_C_readNumbers_143 rfl rfl ?_
      refine G_iconst g (pc := 144) (4 : Int32) d_C_readNumbers_144 rfl ?_
      refine G_icmp_ne g (pc := 145) 170 d_C_readNumbers_145 (by decide) ?_ ?_
      · refine G_aload_n g (pc := 148) 2 d_C_readNumbers_148 rfl rfl ?_
        refine G_iconst g (pc := 149) (1 : Int32) d_C_readNumbers_149 rfl ?_
        refine G_sipush g (pc := 150) (9999 : Int32) d_C_readNumbers_150 rfl ?_
        refine G_cVZ g (pc := 153) (As := [.int (1 : Int32), .int (9999 : Int32)]) (st := []) cc_C_72 (c_X_takeNumber l N hw (1 : Int32) (9999 : Int32) M12) (hw.m 1 (Nat.le_of_ble_eq_true rfl)) (hw.k (zk1 rr)) rfl (by decide) rfl ⟨(Nat.le_of_ble_eq_true rfl), (Nat.le_of_ble_eq_true rfl)⟩ ⟨(Nat.le_of_ble_eq_true rfl), (Nat.le_of_ble_eq_true rfl)⟩ (Nat.le_of_ble_eq_true rfl) d_C_readNumbers_153 (fun x13 M14 => ?_)
        refine G_istore g (pc := 156) _ d_C_readNumbers_156 (Nat.le_of_ble_eq_true rfl) rfl ?_
        refine G_aload_n g (pc := 158) 1 d_C_readNumbers_158 rfl rfl ?_
        refine G_getR g (pc := 159) fa_C_18 (hw.m 5 (Nat.le_of_ble_eq_true rfl)) (hw.k (zk5 rr)) (hw.r (zr5_2 rr)) d_C_readNumbers_159 ?_
        refine G_iload_n g (pc := 162) 3 d_C_readNumbers_162 rfl rfl ?_
        refine G_aload_n g (pc := 163) 2 d_C_readNumbers_163 rfl rfl ?_
        refine G_getN g (pc := 164) fa_C_76 (hw.m 1 (Nat.le_of_ble_eq_true rfl)) (hw.k (zk1 rr)) d_C_readNumbers_164 ?_
        refine G_cSNV g (pc := 167) (As := [.ref (wad w 8), .int a2, .int (M14 1 7)]) (st := []) cc_C_58 (c_G_putAt l hw 8 (hw.m 8 (Nat.le_of_ble_eq_true rfl)) (hw.k (zk8 rr)) a2 (M14 1 7) M14) rfl ⟨(Nat.le_of_ble_eq_true rfl), (Nat.le_of_ble_eq_true rfl)⟩ ⟨(Nat.le_of_ble_eq_true rfl), (Nat.le_of_ble_eq_true rfl)⟩ (Nat.le_of_ble_eq_true rfl) d_C_readNumbers_167 (fun M16 => ?_)
        refine G_iload g (pc := 170) 0 d_C_readNumbers_170 rfl ?_
        exact G_zreturn g (pc := 172) x13 rfl hret (Nat.le_of_ble_eq_true rfl) (Nat.le_of_ble_eq_true rfl) d_C_readNumbers_172
      · refine G_iload g (pc := 170) 0 d_C_readNumbers_170 rfl ?_
        exact G_zreturn g (pc := 172) x9 rfl hret (Nat.le_of_ble_eq_true rfl) (Nat.le_of_ble_eq_true rfl) d_C_readNumbers_172
    · refine G_iload g (pc := 170) 0 d_C_readNumbers_170 rfl ?_
      exact G_zreturn g (pc := 172) x9 rfl hret (Nat.le_of_ble_eq_true rfl) (Nat.le_of_ble_eq_true rfl) d_C_readNumbers_172
  refine G_case (v := (4 : Int32)) ?_ (fun ne4 => ?_)
  · refine G_tabK g (pc := 4) 65 d_C_readNumbers_4 (by decide) (by decide) rfl (by decide) ?_
    refine G_aload_n g (pc := 65) 2 d_C_readNumbers_65 rfl rfl ?_
    refine G_iconst g (pc := 66) (1 : Int32) d_C_readNumbers_66 rfl ?_
    refine G_sipush g (pc := 67) (999 : Int32) d_C_readNumbers_67 rfl ?_
    refine G_cVZ g (pc := 70) (As := [.int (1 : Int32), .int (999 : Int32)]) (st := []) cc_C_72 (c_X_takeNumber l N hw (1 : Int32) (999 : Int32) M) (hw.m 1 (Nat.le_of_ble_eq_true rfl)) (hw.k (zk1 rr)) rfl (by decide) rfl ⟨(Nat.le_of_ble_eq_true rfl), (Nat.le_of_ble_eq_true rfl)⟩ ⟨(Nat.le_of_ble_eq_true rfl), (Nat.le_of_ble_eq_true rfl)⟩ (Nat.le_of_ble_eq_true rfl) d_C_readNumbers_70 (fun x17 M18 => ?_)
    refine G_istore g (pc := 73) _ d_C_readNumbers_73 (Nat.le_of_ble_eq_true rfl) rfl ?_
    refine G_goto g (pc := 75) 126 d_C_readNumbers_75 (by decide) ?_
    refine G_aload_n g (pc := 126) 1 d_C_readNumbers_126 rfl rfl ?_
    refine G_getR g (pc := 127) fa_C_15 (hw.m 5 (Nat.le_of_ble_eq_true rfl)) (hw.k (zk5 rr)) (hw.r (zr5_1 rr)) d_C_readNumbers_127 ?_
    refine G_iload_n g (pc := 130) 3 d_C_readNumbers_130 rfl rfl ?_
    refine G_aload_n g (pc := 131) 2 d_C_readNumbers_131 rfl rfl ?_
    refine G_getN g (pc := 132) fa_C_76 (hw.m 1 (Nat.le_of_ble_eq_true rfl)) (hw.k (zk1 rr)) d_C_readNumbers_132 ?_
    refine G_cSNV g (pc := 135) (As := [.ref (wad w 7), .int a2, .int (M18 1 7)]) (st := []) cc_C_58 (c_G_putAt l hw 7 (hw.m 7 (Nat.le_of_ble_eq_true rfl)) (hw.k (zk7 rr)) a2 (M18 1 7) M18) rfl ⟨(Nat.le_of_ble_eq_true rfl), (Nat.le_of_ble_eq_true rfl)⟩ ⟨(Nat.le_of_ble_eq_true rfl), (Nat.le_of_ble_eq_true rfl)⟩ (Nat.le_of_ble_eq_true rfl) d_C_readNumbers_135 (fun M20 => ?_)
    refine G_iload g (pc := 138) 0 d_C_readNumbers_138 rfl ?_
    refine G_if_eqB g (pc := 140) 170 d_C_readNumbers_140 (by decide) ?_ ?_
    · refine G_iload_n g (pc := 143) 4 d_C_readNumbers_143 rfl rfl ?_
      refine G_iconst g (pc := 144) (4 : Int32) d_C_readNumbers_144 rfl ?_
      refine G_icmp_ne g (pc := 145) 170 d_C_readNumbers_145 (by decide) ?_ ?_
      · refine G_aload_n g (pc := 148) 2 d_C_readNumbers_148 rfl rfl ?_
        refine G_iconst g (pc := 149) (1 : Int32) d_C_readNumbers_149 rfl ?_
        refine G_sipush g (pc := 150) (9999 : Int32) d_C_readNumbers_150 rfl ?_
        refine G_cVZ g (pc := 153) (As := [.int (1 : Int32), .int (9999 : Int32)]) (st := []) cc_C_72 (c_X_takeNumber l N hw (1 : Int32) (9999 : Int32) M20) (hw.m 1 (Nat.le_of_ble_eq_true rfl)) (hw.k (zk1 rr)) rfl (by decide) rfl ⟨(Nat.le_of_ble_eq_true rfl), (Nat.le_of_ble_eq_true rfl)⟩ ⟨(Nat.le_of_ble_eq_true rfl), (Nat.le_of_ble_eq_true rfl)⟩ (Nat.le_of_ble_eq_true rfl) d_C_readNumbers_153 (fun x21 M22 => ?_)
        refine G_istore g (pc := 156) _ d_C_readNumbers_156 (Nat.le_of_ble_eq_true rfl) rfl ?_
        refine G_aload_n g (pc := 158) 1 d_C_readNumbers_158 rfl rfl ?_
        refine G_getR g (pc := 159) fa_C_18 (hw.m 5 (Nat.le_of_ble_eq_true rfl)) (hw.k (zk5 rr)) (hw.r (zr5_2 rr)) d_C_readNumbers_159 ?_
        refine G_iload_n g (pc := 162) 3 d_C_readNumbers_162 rfl rfl ?_
        refine G_aload_n g (pc := 163) 2 d_C_readNumbers_163 rfl rfl ?_
        refine G_getN g (pc := 164) fa_C_76 (hw.m 1 (Nat.le_of_ble_eq_true rfl)) (hw.k (zk1 rr)) d_C_readNumbers_164 ?_
        refine G_cSNV g (pc := 167) (As := [.ref (wad w 8), .int a2, .int (M22 1 7)]) (st := []) cc_C_58 (c_G_putAt l hw 8 (hw.m 8 (Nat.le_of_ble_eq_true rfl)) (hw.k (zk8 rr)) a2 (M22 1 7) M22) rfl ⟨(Nat.le_of_ble_eq_true rfl), (Nat.le_of_ble_eq_true rfl)⟩ ⟨(Nat.le_of_ble_eq_true rfl), (Nat.le_of_ble_eq_true rfl)⟩ (Nat.le_of_ble_eq_true rfl) d_C_readNumbers_167 (fun M24 => ?_)
        refine G_iload g (pc := 170) 0 d_C_readNumbers_170 rfl ?_
        exact G_zreturn g (pc := 172) x21 rfl hret (Nat.le_of_ble_eq_true rfl) (Nat.le_of_ble_eq_true rfl) d_C_readNumbers_172
      · refine G_iload g (pc := 170) 0 d_C_readNumbers_170 rfl ?_
        exact G_zreturn g (pc := 172) x17 rfl hret (Nat.le_of_ble_eq_true rfl) (Nat.le_of_ble_eq_true rfl) d_C_readNumbers_172
    · refine G_iload g (pc := 170) 0 d_C_readNumbers_170 rfl ?_
      exact G_zreturn g (pc := 172) x17 rfl hret (Nat.le_of_ble_eq_true rfl) (Nat.le_of_ble_eq_true rfl) d_C_readNumbers_172
  refine G_case (v := (5 : Int32)) ?_ (fun ne5 => ?_)
  · refine G_tabK g (pc := 4) 78 d_C_readNumbers_4 (by decide) (by decide) rfl (by decide) ?_
    refine G_aload_n g (pc := 78) 2 d_C_readNumbers_78 rfl rfl ?_
    refine G_iconst g (pc := 79) (1 : Int32) d_C_readNumbers_79 rfl ?_
    refine G_bipush g (pc := 80) (20 : Int32) d_C_readNumbers_80 rfl ?_
    refine G_cVZ g (pc := 82) (As := [.int (1 : Int32), .int (20 : Int32)]) (st := []) cc_C_72 (c_X_takeNumber l N hw (1 : Int32) (20 : Int32) M) (hw.m 1 (Nat.le_of_ble_eq_true rfl)) (hw.k (zk1 rr)) rfl (by decide) rfl ⟨(Nat.le_of_ble_eq_true rfl), (Nat.le_of_ble_eq_true rfl)⟩ ⟨(Nat.le_of_ble_eq_true rfl), (Nat.le_of_ble_eq_true rfl)⟩ (Nat.le_of_ble_eq_true rfl) d_C_readNumbers_82 (fun x25 M26 => ?_)
    refine G_istore g (pc := 85) _ d_C_readNumbers_85 (Nat.le_of_ble_eq_true rfl) rfl ?_
    refine G_goto g (pc := 87) 126 d_C_readNumbers_87 (by decide) ?_
    refine G_aload_n g (pc := 126) 1 d_C_readNumbers_126 rfl rfl ?_
    refine G_getR g (pc := 127) fa_C_15 (hw.m 5 (Nat.le_of_ble_eq_true rfl)) (hw.k (zk5 rr)) (hw.r (zr5_1 rr)) d_C_readNumbers_127 ?_
    refine G_iload_n g (pc := 130) 3 d_C_readNumbers_130 rfl rfl ?_
    refine G_aload_n g (pc := 131) 2 d_C_readNumbers_131 rfl rfl ?_
    refine G_getN g (pc := 132) fa_C_76 (hw.m 1 (Nat.le_of_ble_eq_true rfl)) (hw.k (zk1 rr)) d_C_readNumbers_132 ?_
    refine G_cSNV g (pc := 135) (As := [.ref (wad w 7), .int a2, .int (M26 1 7)]) (st := []) cc_C_58 (c_G_putAt l hw 7 (hw.m 7 (Nat.le_of_ble_eq_true rfl)) (hw.k (zk7 rr)) a2 (M26 1 7) M26) rfl ⟨(Nat.le_of_ble_eq_true rfl), (Nat.le_of_ble_eq_true rfl)⟩ ⟨(Nat.le_of_ble_eq_true rfl), (Nat.le_of_ble_eq_true rfl)⟩ (Nat.le_of_ble_eq_true rfl) d_C_readNumbers_135 (fun M28 => ?_)
    refine G_iload g (pc := 138) 0 d_C_readNumbers_138 rfl ?_
    refine G_if_eqB g (pc := 140) 170 d_C_readNumbers_140 (by decide) ?_ ?_
    · refine G_iload_n g (pc := 143) 4 d_C_readNumbers_143 rfl rfl ?_
      refine G_iconst g (pc := 144) (4 : Int32) d_C_readNumbers_144 rfl ?_
      refine G_icmp_ne g (pc := 145) 170 d_C_readNumbers_145 (by decide) ?_ ?_
      · refine G_aload_n g (pc := 148) 2 d_C_readNumbers_148 rfl rfl ?_
        refine G_iconst g (pc := 149) (1 : Int32) d_C_readNumbers_149 rfl ?_
        refine G_sipush g (pc := 150) (9999 : Int32) d_C_readNumbers_150 rfl ?_
        refine G_cVZ g (pc := 153) (As := [.int (1 : Int32), .int (9999 : Int32)]) (st := []) cc_C_72 (c_X_takeNumber l N hw (1 : Int32) (9999 : Int32) M28) (hw.m 1 (Nat.le_of_ble_eq_true rfl)) (hw.k (zk1 rr)) rfl (by decide) rfl ⟨(Nat.le_of_ble_eq_true rfl), (Nat.le_of_ble_eq_true rfl)⟩ ⟨(Nat.le_of_ble_eq_true rfl), (Nat.le_of_ble_eq_true rfl)⟩ (Nat.le_of_ble_eq_true rfl) d_C_readNumbers_153 (fun x29 M30 => ?_)
        refine G_istore g (pc := 156) _ d_C_readNumbers_156 (Nat.le_of_ble_eq_true rfl) rfl ?_
        refine G_aload_n g (pc := 158) 1 d_C_readNumbers_158 rfl rfl ?_
        refine G_getR g (pc := 159) fa_C_18 (hw.m 5 (Nat.le_of_ble_eq_true rfl)) (hw.k (zk5 rr)) (hw.r (zr5_2 rr)) d_C_readNumbers_159 ?_
        refine G_iload_n g (pc := 162) 3 d_C_readNumbers_162 rfl rfl ?_
        refine G_aload_n g (pc := 163) 2 d_C_readNumbers_163 rfl rfl ?_
        refine G_getN g (pc := 164) fa_C_76 (hw.m 1 (Nat.le_of_ble_eq_true rfl)) (hw.k (zk1 rr)) d_C_readNumbers_164 ?_
        refine G_cSNV g (pc := 167) (As := [.ref (wad w 8), .int a2, .int (M30 1 7)]) (st := []) cc_C_58 (c_G_putAt l hw 8 (hw.m 8 (Nat.le_of_ble_eq_true rfl)) (hw.k (zk8 rr)) a2 (M30 1 7) M30) rfl ⟨(Nat.le_of_ble_eq_true rfl), (Nat.le_of_ble_eq_true rfl)⟩ ⟨(Nat.le_of_ble_eq_true rfl), (Nat.le_of_ble_eq_true rfl)⟩ (Nat.le_of_ble_eq_true rfl) d_C_readNumbers_167 (fun M32 => ?_)
        refine G_iload g (pc := 170) 0 d_C_readNumbers_170 rfl ?_
        exact G_zreturn g (pc := 172) x29 rfl hret (Nat.le_of_ble_eq_true rfl) (Nat.le_of_ble_eq_true rfl) d_C_readNumbers_172
      · refine G_iload g (pc := 170) 0 d_C_readNumbers_170 rfl ?_
        exact G_zreturn g (pc := 172) x25 rfl hret (Nat.le_of_ble_eq_true rfl) (Nat.le_of_ble_eq_true rfl) d_C_readNumbers_172
    · refine G_iload g (pc := 170) 0 d_C_readNumbers_170 rfl ?_
      exact G_zreturn g (pc := 172) x25 rfl hret (Nat.le_of_ble_eq_true rfl) (Nat.le_of_ble_eq_true rfl) d_C_readNumbers_172
  refine G_case (v := (6 : Int32)) ?_ (fun ne6 => ?_)
  · refine G_tabK g (pc := 4) 90 d_C_readNumbers_4 (by decide) (by decide) rfl (by decide) ?_
    refine G_aload_n g (pc := 90) 2 d_C_readNumbers_90 rfl rfl ?_
    refine G_iconst g (pc := 91) (0 : Int32) d_C_readNumbers_91 rfl ?_
    refine G_sipush g (pc := 92) (2200 : Int32) d_C_readNumbers_92 rfl ?_
    refine G_cVZ g (pc := 95) (As := [.int (0 : Int32), .int (2200 : Int32)]) (st := []) cc_C_72 (c_X_takeNumber l N hw (0 : Int32) (2200 : Int32) M) (hw.m 1 (Nat.le_of_ble_eq_true rfl)) (hw.k (zk1 rr)) rfl (by decide) rfl ⟨(Nat.le_of_ble_eq_true rfl), (Nat.le_of_ble_eq_true rfl)⟩ ⟨(Nat.le_of_ble_eq_true rfl), (Nat.le_of_ble_eq_true rfl)⟩ (Nat.le_of_ble_eq_true rfl) d_C_readNumbers_95 (fun x33 M34 => ?_)
    refine G_istore g (pc := 98) _ d_C_readNumbers_98 (Nat.le_of_ble_eq_true rfl) rfl ?_
    refine G_goto g (pc := 100) 126 d_C_readNumbers_100 (by decide) ?_
    refine G_aload_n g (pc := 126) 1 d_C_readNumbers_126 rfl rfl ?_
    refine G_getR g (pc := 127) fa_C_15 (hw.m 5 (Nat.le_of_ble_eq_true rfl)) (hw.k (zk5 rr)) (hw.r (zr5_1 rr)) d_C_readNumbers_127 ?_
    refine G_iload_n g (pc := 130) 3 d_C_readNumbers_130 rfl rfl ?_
    refine G_aload_n g (pc := 131) 2 d_C_readNumbers_131 rfl rfl ?_
    refine G_getN g (pc := 132) fa_C_76 (hw.m 1 (Nat.le_of_ble_eq_true rfl)) (hw.k (zk1 rr)) d_C_readNumbers_132 ?_
    refine G_cSNV g (pc := 135) (As := [.ref (wad w 7), .int a2, .int (M34 1 7)]) (st := []) cc_C_58 (c_G_putAt l hw 7 (hw.m 7 (Nat.le_of_ble_eq_true rfl)) (hw.k (zk7 rr)) a2 (M34 1 7) M34) rfl ⟨(Nat.le_of_ble_eq_true rfl), (Nat.le_of_ble_eq_true rfl)⟩ ⟨(Nat.le_of_ble_eq_true rfl), (Nat.le_of_ble_eq_true rfl)⟩ (Nat.le_of_ble_eq_true rfl) d_C_readNumbers_135 (fun M36 => ?_)
    refine G_iload g (pc := 138) 0 d_C_readNumbers_138 rfl ?_
    refine G_if_eqB g (pc := 140) 170 d_C_readNumbers_140 (by decide) ?_ ?_
    · refine G_iload_n g (pc := 143) 4 d_C_readNumbers_143 rfl rfl ?_
      refine G_iconst g (pc := 144) (4 : Int32) d_C_readNumbers_144 rfl ?_
      refine G_icmp_ne g (pc := 145) 170 d_C_readNumbers_145 (by decide) ?_ ?_
      · refine G_aload_n g (pc := 148) 2 d_C_readNumbers_148 rfl rfl ?_
        refine G_iconst g (pc := 149) (1 : Int32) d_C_readNumbers_149 rfl ?_
        refine G_sipush g (pc := 150) (9999 : Int32) d_C_readNumbers_150 rfl ?_
        refine G_cVZ g (pc := 153) (As := [.int (1 : Int32), .int (9999 : Int32)]) (st := []) cc_C_72 (c_X_takeNumber l N hw (1 : Int32) (9999 : Int32) M36) (hw.m 1 (Nat.le_of_ble_eq_true rfl)) (hw.k (zk1 rr)) rfl (by decide) rfl ⟨(Nat.le_of_ble_eq_true rfl), (Nat.le_of_ble_eq_true rfl)⟩ ⟨(Nat.le_of_ble_eq_true rfl), (Nat.le_of_ble_eq_true rfl)⟩ (Nat.le_of_ble_eq_true rfl) d_C_readNumbers_153 (fun x37 M38 => ?_)
        refine G_istore g (pc := 156) _ d_C_readNumbers_156 (Nat.le_of_ble_eq_true rfl) rfl ?_
        refine G_aload_n g (pc := 158) 1 d_C_readNumbers_158 rfl rfl ?_
        refine G_getR g (pc := 159) fa_C_18 (hw.m 5 (Nat.le_of_ble_eq_true rfl)) (hw.k (zk5 rr)) (hw.r (zr5_2 rr)) d_C_readNumbers_159 ?_
        refine G_iload_n g (pc := 162) 3 d_C_readNumbers_162 rfl rfl ?_
        refine G_aload_n g (pc := 163) 2 d_C_readNumbers_163 rfl rfl ?_
        refine G_getN g (pc := 164) fa_C_76 (hw.m 1 (Nat.le_of_ble_eq_true rfl)) (hw.k (zk1 rr)) d_C_readNumbers_164 ?_
        refine G_cSNV g (pc := 167) (As := [.ref (wad w 8), .int a2, .int (M38 1 7)]) (st := []) cc_C_58 (c_G_putAt l hw 8 (hw.m 8 (Nat.le_of_ble_eq_true rfl)) (hw.k (zk8 rr)) a2 (M38 1 7) M38) rfl ⟨(Nat.le_of_ble_eq_true rfl), (Nat.le_of_ble_eq_true rfl)⟩ ⟨(Nat.le_of_ble_eq_true rfl), (Nat.le_of_ble_eq_true rfl)⟩ (Nat.le_of_ble_eq_true rfl) d_C_readNumbers_167 (fun M40 => ?_)
        refine G_iload g (pc := 170) 0 d_C_readNumbers_170 rfl ?_
        exact G_zreturn g (pc := 172) x37 rfl hret (Nat.le_of_ble_eq_true rfl) (Nat.le_of_ble_eq_true rfl) d_C_readNumbers_172
      · refine G_iload g (pc := 170) 0 d_C_readNumbers_170 rfl ?_
        exact G_zreturn g (pc := 172) x33 rfl hret (Nat.le_of_ble_eq_true rfl) (Nat.le_of_ble_eq_true rfl) d_C_readNumbers_172
    · refine G_iload g (pc := 170) 0 d_C_readNumbers_170 rfl ?_
      exact G_zreturn g (pc := 172) x33 rfl hret (Nat.le_of_ble_eq_true rfl) (Nat.le_of_ble_eq_true rfl) d_C_readNumbers_172
  refine G_case (v := (8 : Int32)) ?_ (fun ne8 => ?_)
  · refine G_tabK g (pc := 4) 103 d_C_readNumbers_4 (by decide) (by decide) rfl (by decide) ?_
    refine G_aload_n g (pc := 103) 2 d_C_readNumbers_103 rfl rfl ?_
    refine G_iconst g (pc := 104) (1 : Int32) d_C_readNumbers_104 rfl ?_
    refine G_bipush g (pc := 105) (60 : Int32) d_C_readNumbers_105 rfl ?_
    refine G_cVZ g (pc := 107) (As := [.int (1 : Int32), .int (60 : Int32)]) (st := []) cc_C_72 (c_X_takeNumber l N hw (1 : Int32) (60 : Int32) M) (hw.m 1 (Nat.le_of_ble_eq_true rfl)) (hw.k (zk1 rr)) rfl (by decide) rfl ⟨(Nat.le_of_ble_eq_true rfl), (Nat.le_of_ble_eq_true rfl)⟩ ⟨(Nat.le_of_ble_eq_true rfl), (Nat.le_of_ble_eq_true rfl)⟩ (Nat.le_of_ble_eq_true rfl) d_C_readNumbers_107 (fun x41 M42 => ?_)
    refine G_istore g (pc := 110) _ d_C_readNumbers_110 (Nat.le_of_ble_eq_true rfl) rfl ?_
    refine G_goto g (pc := 112) 126 d_C_readNumbers_112 (by decide) ?_
    refine G_aload_n g (pc := 126) 1 d_C_readNumbers_126 rfl rfl ?_
    refine G_getR g (pc := 127) fa_C_15 (hw.m 5 (Nat.le_of_ble_eq_true rfl)) (hw.k (zk5 rr)) (hw.r (zr5_1 rr)) d_C_readNumbers_127 ?_
    refine G_iload_n g (pc := 130) 3 d_C_readNumbers_130 rfl rfl ?_
    refine G_aload_n g (pc := 131) 2 d_C_readNumbers_131 rfl rfl ?_
    refine G_getN g (pc := 132) fa_C_76 (hw.m 1 (Nat.le_of_ble_eq_true rfl)) (hw.k (zk1 rr)) d_C_readNumbers_132 ?_
    refine G_cSNV g (pc := 135) (As := [.ref (wad w 7), .int a2, .int (M42 1 7)]) (st := []) cc_C_58 (c_G_putAt l hw 7 (hw.m 7 (Nat.le_of_ble_eq_true rfl)) (hw.k (zk7 rr)) a2 (M42 1 7) M42) rfl ⟨(Nat.le_of_ble_eq_true rfl), (Nat.le_of_ble_eq_true rfl)⟩ ⟨(Nat.le_of_ble_eq_true rfl), (Nat.le_of_ble_eq_true rfl)⟩ (Nat.le_of_ble_eq_true rfl) d_C_readNumbers_135 (fun M44 => ?_)
    refine G_iload g (pc := 138) 0 d_C_readNumbers_138 rfl ?_
    refine G_if_eqB g (pc := 140) 170 d_C_readNumbers_140 (by decide) ?_ ?_
    · refine G_iload_n g (pc := 143) 4 d_C_readNumbers_143 rfl rfl ?_
      refine G_iconst g (pc := 144) (4 : Int32) d_C_readNumbers_144 rfl ?_
      refine G_icmp_ne g (pc := 145) 170 d_C_readNumbers_145 (by decide) ?_ ?_
      · refine G_aload_n g (pc := 148) 2 d_C_readNumbers_148 rfl rfl ?_
        refine G_iconst g (pc := 149) (1 : Int32) d_C_readNumbers_149 rfl ?_
        refine G_sipush g (pc := 150) (9999 : Int32) d_C_readNumbers_150 rfl ?_
        refine G_cVZ g (pc := 153) (As := [.int (1 : Int32), .int (9999 : Int32)]) (st := []) cc_C_72 (c_X_takeNumber l N hw (1 : Int32) (9999 : Int32) M44) (hw.m 1 (Nat.le_of_ble_eq_true rfl)) (hw.k (zk1 rr)) rfl (by decide) rfl ⟨(Nat.le_of_ble_eq_true rfl), (Nat.le_of_ble_eq_true rfl)⟩ ⟨(Nat.le_of_ble_eq_true rfl), (Nat.le_of_ble_eq_true rfl)⟩ (Nat.le_of_ble_eq_true rfl) d_C_readNumbers_153 (fun x45 M46 => ?_)
        refine G_istore g (pc := 156) _ d_C_readNumbers_156 (Nat.le_of_ble_eq_true rfl) rfl ?_
        refine G_aload_n g (pc := 158) 1 d_C_readNumbers_158 rfl rfl ?_
        refine G_getR g (pc := 159) fa_C_18 (hw.m 5 (Nat.le_of_ble_eq_true rfl)) (hw.k (zk5 rr)) (hw.r (zr5_2 rr)) d_C_readNumbers_159 ?_
        refine G_iload_n g (pc := 162) 3 d_C_readNumbers_162 rfl rfl ?_
        refine G_aload_n g (pc := 163) 2 d_C_readNumbers_163 rfl rfl ?_
        refine G_getN g (pc := 164) fa_C_76 (hw.m 1 (Nat.le_of_ble_eq_true rfl)) (hw.k (zk1 rr)) d_C_readNumbers_164 ?_
        refine G_cSNV g (pc := 167) (As := [.ref (wad w 8), .int a2, .int (M46 1 7)]) (st := []) cc_C_58 (c_G_putAt l hw 8 (hw.m 8 (Nat.le_of_ble_eq_true rfl)) (hw.k (zk8 rr)) a2 (M46 1 7) M46) rfl ⟨(Nat.le_of_ble_eq_true rfl), (Nat.le_of_ble_eq_true rfl)⟩ ⟨(Nat.le_of_ble_eq_true rfl), (Nat.le_of_ble_eq_true rfl)⟩ (Nat.le_of_ble_eq_true rfl) d_C_readNumbers_167 (fun M48 => ?_)
        refine G_iload g (pc := 170) 0 d_C_readNumbers_170 rfl ?_
        exact G_zreturn g (pc := 172) x45 rfl hret (Nat.le_of_ble_eq_true rfl) (Nat.le_of_ble_eq_true rfl) d_C_readNumbers_172
      · refine G_iload g (pc := 170) 0 d_C_readNumbers_170 rfl ?_
        exact G_zreturn g (pc := 172) x41 rfl hret (Nat.le_of_ble_eq_true rfl) (Nat.le_of_ble_eq_true rfl) d_C_readNumbers_172
    · refine G_iload g (pc := 170) 0 d_C_readNumbers_170 rfl ?_
      exact G_zreturn g (pc := 172) x41 rfl hret (Nat.le_of_ble_eq_true rfl) (Nat.le_of_ble_eq_true rfl) d_C_readNumbers_172
  refine G_case (v := (9 : Int32)) ?_ (fun ne9 => ?_)
  · refine G_tabK g (pc := 4) 115 d_C_readNumbers_4 (by decide) (by decide) rfl (by decide) ?_
    refine G_aload_n g (pc := 115) 2 d_C_readNumbers_115 rfl rfl ?_
    refine G_iconst g (pc := 116) (2 : Int32) d_C_readNumbers_116 rfl ?_
    refine G_iconst g (pc := 117) (5 : Int32) d_C_readNumbers_117 rfl ?_
    refine G_cVZ g (pc := 118) (As := [.int (2 : Int32), .int (5 : Int32)]) (st := []) cc_C_72 (c_X_takeNumber l N hw (2 : Int32) (5 : Int32) M) (hw.m 1 (Nat.le_of_ble_eq_true rfl)) (hw.k (zk1 rr)) rfl (by decide) rfl ⟨(Nat.le_of_ble_eq_true rfl), (Nat.le_of_ble_eq_true rfl)⟩ ⟨(Nat.le_of_ble_eq_true rfl), (Nat.le_of_ble_eq_true rfl)⟩ (Nat.le_of_ble_eq_true rfl) d_C_readNumbers_118 (fun x49 M50 => ?_)
    refine G_istore g (pc := 121) _ d_C_readNumbers_121 (Nat.le_of_ble_eq_true rfl) rfl ?_
    refine G_goto g (pc := 123) 126 d_C_readNumbers_123 (by decide) ?_
    refine G_aload_n g (pc := 126) 1 d_C_readNumbers_126 rfl rfl ?_
    refine G_getR g (pc := 127) fa_C_15 (hw.m 5 (Nat.le_of_ble_eq_true rfl)) (hw.k (zk5 rr)) (hw.r (zr5_1 rr)) d_C_readNumbers_127 ?_
    refine G_iload_n g (pc := 130) 3 d_C_readNumbers_130 rfl rfl ?_
    refine G_aload_n g (pc := 131) 2 d_C_readNumbers_131 rfl rfl ?_
    refine G_getN g (pc := 132) fa_C_76 (hw.m 1 (Nat.le_of_ble_eq_true rfl)) (hw.k (zk1 rr)) d_C_readNumbers_132 ?_
    refine G_cSNV g (pc := 135) (As := [.ref (wad w 7), .int a2, .int (M50 1 7)]) (st := []) cc_C_58 (c_G_putAt l hw 7 (hw.m 7 (Nat.le_of_ble_eq_true rfl)) (hw.k (zk7 rr)) a2 (M50 1 7) M50) rfl ⟨(Nat.le_of_ble_eq_true rfl), (Nat.le_of_ble_eq_true rfl)⟩ ⟨(Nat.le_of_ble_eq_true rfl), (Nat.le_of_ble_eq_true rfl)⟩ (Nat.le_of_ble_eq_true rfl) d_C_readNumbers_135 (fun M52 => ?_)
    refine G_iload g (pc := 138) 0 d_C_readNumbers_138 rfl ?_
    refine G_if_eqB g (pc := 140) 170 d_C_readNumbers_140 (by decide) ?_ ?_
    · refine G_iload_n g (pc := 143) 4 d_C_readNumbers_143 rfl rfl ?_
      refine G_iconst g (pc := 144) (4 : Int32) d_C_readNumbers_144 rfl ?_
      refine G_icmp_ne g (pc := 145) 170 d_C_readNumbers_145 (by decide) ?_ ?_
      · refine G_aload_n g (pc := 148) 2 d_C_readNumbers_148 rfl rfl ?_
        refine G_iconst g (pc := 149) (1 : Int32) d_C_readNumbers_149 rfl ?_
        refine G_sipush g (pc := 150) (9999 : Int32) d_C_readNumbers_150 rfl ?_
        refine G_cVZ g (pc := 153) (As := [.int (1 : Int32), .int (9999 : Int32)]) (st := []) cc_C_72 (c_X_takeNumber l N hw (1 : Int32) (9999 : Int32) M52) (hw.m 1 (Nat.le_of_ble_eq_true rfl)) (hw.k (zk1 rr)) rfl (by decide) rfl ⟨(Nat.le_of_ble_eq_true rfl), (Nat.le_of_ble_eq_true rfl)⟩ ⟨(Nat.le_of_ble_eq_true rfl), (Nat.le_of_ble_eq_true rfl)⟩ (Nat.le_of_ble_eq_true rfl) d_C_readNumbers_153 (fun x53 M54 => ?_)
        refine G_istore g (pc := 156) _ d_C_readNumbers_156 (Nat.le_of_ble_eq_true rfl) rfl ?_
        refine G_aload_n g (pc := 158) 1 d_C_readNumbers_158 rfl rfl ?_
        refine G_getR g (pc := 159) fa_C_18 (hw.m 5 (Nat.le_of_ble_eq_true rfl)) (hw.k (zk5 rr)) (hw.r (zr5_2 rr)) d_C_readNumbers_159 ?_
        refine G_iload_n g (pc := 162) 3 d_C_readNumbers_162 rfl rfl ?_
        refine G_aload_n g (pc := 163) 2 d_C_readNumbers_163 rfl rfl ?_
        refine G_getN g (pc := 164) fa_C_76 (hw.m 1 (Nat.le_of_ble_eq_true rfl)) (hw.k (zk1 rr)) d_C_readNumbers_164 ?_
        refine G_cSNV g (pc := 167) (As := [.ref (wad w 8), .int a2, .int (M54 1 7)]) (st := []) cc_C_58 (c_G_putAt l hw 8 (hw.m 8 (Nat.le_of_ble_eq_true rfl)) (hw.k (zk8 rr)) a2 (M54 1 7) M54) rfl ⟨(Nat.le_of_ble_eq_true rfl), (Nat.le_of_ble_eq_true rfl)⟩ ⟨(Nat.le_of_ble_eq_true rfl), (Nat.le_of_ble_eq_true rfl)⟩ (Nat.le_of_ble_eq_true rfl) d_C_readNumbers_167 (fun M56 => ?_)
        refine G_iload g (pc := 170) 0 d_C_readNumbers_170 rfl ?_
        exact G_zreturn g (pc := 172) x53 rfl hret (Nat.le_of_ble_eq_true rfl) (Nat.le_of_ble_eq_true rfl) d_C_readNumbers_172
      · refine G_iload g (pc := 170) 0 d_C_readNumbers_170 rfl ?_
        exact G_zreturn g (pc := 172) x49 rfl hret (Nat.le_of_ble_eq_true rfl) (Nat.le_of_ble_eq_true rfl) d_C_readNumbers_172
    · refine G_iload g (pc := 170) 0 d_C_readNumbers_170 rfl ?_
      exact G_zreturn g (pc := 172) x49 rfl hret (Nat.le_of_ble_eq_true rfl) (Nat.le_of_ble_eq_true rfl) d_C_readNumbers_172
  refine G_case (v := (7 : Int32)) ?_ (fun ne7 => ?_)
  · refine G_tabK g (pc := 4) 126 d_C_readNumbers_4 (by decide) (by decide) rfl (by decide) ?_
    refine G_aload_n g (pc := 126) 1 d_C_readNumbers_126 rfl rfl ?_
    refine G_getR g (pc := 127) fa_C_15 (hw.m 5 (Nat.le_of_ble_eq_true rfl)) (hw.k (zk5 rr)) (hw.r (zr5_1 rr)) d_C_readNumbers_127 ?_
    refine G_iload_n g (pc := 130) 3 d_C_readNumbers_130 rfl rfl ?_
    refine G_aload_n g (pc := 131) 2 d_C_readNumbers_131 rfl rfl ?_
    refine G_getN g (pc := 132) fa_C_76 (hw.m 1 (Nat.le_of_ble_eq_true rfl)) (hw.k (zk1 rr)) d_C_readNumbers_132 ?_
    refine G_cSNV g (pc := 135) (As := [.ref (wad w 7), .int a2, .int (M 1 7)]) (st := []) cc_C_58 (c_G_putAt l hw 7 (hw.m 7 (Nat.le_of_ble_eq_true rfl)) (hw.k (zk7 rr)) a2 (M 1 7) M) rfl ⟨(Nat.le_of_ble_eq_true rfl), (Nat.le_of_ble_eq_true rfl)⟩ ⟨(Nat.le_of_ble_eq_true rfl), (Nat.le_of_ble_eq_true rfl)⟩ (Nat.le_of_ble_eq_true rfl) d_C_readNumbers_135 (fun M64 => ?_)
    refine G_iload g (pc := 138) 0 d_C_readNumbers_138 rfl ?_
    refine G_ifF_eq g (pc := 140) 170 (by decide) d_C_readNumbers_140 (by decide) ?_
    refine G_iload_n g (pc := 143) 4 d_C_readNumbers_143 rfl rfl ?_
    refine G_iconst g (pc := 144) (4 : Int32) d_C_readNumbers_144 rfl ?_
    refine G_icmp_ne g (pc := 145) 170 d_C_readNumbers_145 (by decide) ?_ ?_
    · refine G_aload_n g (pc := 148) 2 d_C_readNumbers_148 rfl rfl ?_
      refine G_iconst g (pc := 149) (1 : Int32) d_C_readNumbers_149 rfl ?_
      refine G_sipush g (pc := 150) (9999 : Int32) d_C_readNumbers_150 rfl ?_
      refine G_cVZ g (pc := 153) (As := [.int (1 : Int32), .int (9999 : Int32)]) (st := []) cc_C_72 (c_X_takeNumber l N hw (1 : Int32) (9999 : Int32) M64) (hw.m 1 (Nat.le_of_ble_eq_true rfl)) (hw.k (zk1 rr)) rfl (by decide) rfl ⟨(Nat.le_of_ble_eq_true rfl), (Nat.le_of_ble_eq_true rfl)⟩ ⟨(Nat.le_of_ble_eq_true rfl), (Nat.le_of_ble_eq_true rfl)⟩ (Nat.le_of_ble_eq_true rfl) d_C_readNumbers_153 (fun x65 M66 => ?_)
      refine G_istore g (pc := 156) _ d_C_readNumbers_156 (Nat.le_of_ble_eq_true rfl) rfl ?_
      refine G_aload_n g (pc := 158) 1 d_C_readNumbers_158 rfl rfl ?_
      refine G_getR g (pc := 159) fa_C_18 (hw.m 5 (Nat.le_of_ble_eq_true rfl)) (hw.k (zk5 rr)) (hw.r (zr5_2 rr)) d_C_readNumbers_159 ?_
      refine G_iload_n g (pc := 162) 3 d_C_readNumbers_162 rfl rfl ?_
      refine G_aload_n g (pc := 163) 2 d_C_readNumbers_163 rfl rfl ?_
      refine G_getN g (pc := 164) fa_C_76 (hw.m 1 (Nat.le_of_ble_eq_true rfl)) (hw.k (zk1 rr)) d_C_readNumbers_164 ?_
      refine G_cSNV g (pc := 167) (As := [.ref (wad w 8), .int a2, .int (M66 1 7)]) (st := []) cc_C_58 (c_G_putAt l hw 8 (hw.m 8 (Nat.le_of_ble_eq_true rfl)) (hw.k (zk8 rr)) a2 (M66 1 7) M66) rfl ⟨(Nat.le_of_ble_eq_true rfl), (Nat.le_of_ble_eq_true rfl)⟩ ⟨(Nat.le_of_ble_eq_true rfl), (Nat.le_of_ble_eq_true rfl)⟩ (Nat.le_of_ble_eq_true rfl) d_C_readNumbers_167 (fun M68 => ?_)
      refine G_iload g (pc := 170) 0 d_C_readNumbers_170 rfl ?_
      exact G_zreturn g (pc := 172) x65 rfl hret (Nat.le_of_ble_eq_true rfl) (Nat.le_of_ble_eq_true rfl) d_C_readNumbers_172
    · refine G_iload g (pc := 170) 0 d_C_readNumbers_170 rfl ?_
      exact G_zreturn g (pc := 172) true rfl hret (Nat.le_of_ble_eq_true rfl) (Nat.le_of_ble_eq_true rfl) d_C_readNumbers_172
  refine G_tabD g (pc := 4) 126 d_C_readNumbers_4 (by have q2 : ¬ a3.toInt = 2 := lv_neT ne2 rfl; have q3 : ¬ a3.toInt = 3 := lv_neT ne3 rfl; have q4 : ¬ a3.toInt = 4 := lv_neT ne4 rfl; have q5 : ¬ a3.toInt = 5 := lv_neT ne5 rfl; have q6 : ¬ a3.toInt = 6 := lv_neT ne6 rfl; have q7 : ¬ a3.toInt = 7 := lv_neT ne7 rfl; have q8 : ¬ a3.toInt = 8 := lv_neT ne8 rfl; have q9 : ¬ a3.toInt = 9 := lv_neT ne9 rfl; omega) (by decide) ?_
  refine G_aload_n g (pc := 126) 1 d_C_readNumbers_126 rfl rfl ?_
  refine G_getR g (pc := 127) fa_C_15 (hw.m 5 (Nat.le_of_ble_eq_true rfl)) (hw.k (zk5 rr)) (hw.r (zr5_1 rr)) d_C_readNumbers_127 ?_
  refine G_iload_n g (pc := 130) 3 d_C_readNumbers_130 rfl rfl ?_
  refine G_aload_n g (pc := 131) 2 d_C_readNumbers_131 rfl rfl ?_
  refine G_getN g (pc := 132) fa_C_76 (hw.m 1 (Nat.le_of_ble_eq_true rfl)) (hw.k (zk1 rr)) d_C_readNumbers_132 ?_
  refine G_cSNV g (pc := 135) (As := [.ref (wad w 7), .int a2, .int (M 1 7)]) (st := []) cc_C_58 (c_G_putAt l hw 7 (hw.m 7 (Nat.le_of_ble_eq_true rfl)) (hw.k (zk7 rr)) a2 (M 1 7) M) rfl ⟨(Nat.le_of_ble_eq_true rfl), (Nat.le_of_ble_eq_true rfl)⟩ ⟨(Nat.le_of_ble_eq_true rfl), (Nat.le_of_ble_eq_true rfl)⟩ (Nat.le_of_ble_eq_true rfl) d_C_readNumbers_135 (fun M58 => ?_)
  refine G_iload g (pc := 138) 0 d_C_readNumbers_138 rfl ?_
  refine G_ifF_eq g (pc := 140) 170 (by decide) d_C_readNumbers_140 (by decide) ?_
  refine G_iload_n g (pc := 143) 4 d_C_readNumbers_143 rfl rfl ?_
  refine G_iconst g (pc := 144) (4 : Int32) d_C_readNumbers_144 rfl ?_
  refine G_icmp_ne g (pc := 145) 170 d_C_readNumbers_145 (by decide) ?_ ?_
  · refine G_aload_n g (pc := 148) 2 d_C_readNumbers_148 rfl rfl ?_
    refine G_iconst g (pc := 149) (1 : Int32) d_C_readNumbers_149 rfl ?_
    refine G_sipush g (pc := 150) (9999 : Int32) d_C_readNumbers_150 rfl ?_
    refine G_cVZ g (pc := 153) (As := [.int (1 : Int32), .int (9999 : Int32)]) (st := []) cc_C_72 (c_X_takeNumber l N hw (1 : Int32) (9999 : Int32) M58) (hw.m 1 (Nat.le_of_ble_eq_true rfl)) (hw.k (zk1 rr)) rfl (by decide) rfl ⟨(Nat.le_of_ble_eq_true rfl), (Nat.le_of_ble_eq_true rfl)⟩ ⟨(Nat.le_of_ble_eq_true rfl), (Nat.le_of_ble_eq_true rfl)⟩ (Nat.le_of_ble_eq_true rfl) d_C_readNumbers_153 (fun x59 M60 => ?_)
    refine G_istore g (pc := 156) _ d_C_readNumbers_156 (Nat.le_of_ble_eq_true rfl) rfl ?_
    refine G_aload_n g (pc := 158) 1 d_C_readNumbers_158 rfl rfl ?_
    refine G_getR g (pc := 159) fa_C_18 (hw.m 5 (Nat.le_of_ble_eq_true rfl)) (hw.k (zk5 rr)) (hw.r (zr5_2 rr)) d_C_readNumbers_159 ?_
    refine G_iload_n g (pc := 162) 3 d_C_readNumbers_162 rfl rfl ?_
    refine G_aload_n g (pc := 163) 2 d_C_readNumbers_163 rfl rfl ?_
    refine G_getN g (pc := 164) fa_C_76 (hw.m 1 (Nat.le_of_ble_eq_true rfl)) (hw.k (zk1 rr)) d_C_readNumbers_164 ?_
    refine G_cSNV g (pc := 167) (As := [.ref (wad w 8), .int a2, .int (M60 1 7)]) (st := []) cc_C_58 (c_G_putAt l hw 8 (hw.m 8 (Nat.le_of_ble_eq_true rfl)) (hw.k (zk8 rr)) a2 (M60 1 7) M60) rfl ⟨(Nat.le_of_ble_eq_true rfl), (Nat.le_of_ble_eq_true rfl)⟩ ⟨(Nat.le_of_ble_eq_true rfl), (Nat.le_of_ble_eq_true rfl)⟩ (Nat.le_of_ble_eq_true rfl) d_C_readNumbers_167 (fun M62 => ?_)
    refine G_iload g (pc := 170) 0 d_C_readNumbers_170 rfl ?_
    exact G_zreturn g (pc := 172) x59 rfl hret (Nat.le_of_ble_eq_true rfl) (Nat.le_of_ble_eq_true rfl) d_C_readNumbers_172
  · refine G_iload g (pc := 170) 0 d_C_readNumbers_170 rfl ?_
    exact G_zreturn g (pc := 172) true rfl hret (Nat.le_of_ble_eq_true rfl) (Nat.le_of_ble_eq_true rfl) d_C_readNumbers_172

theorem d_C_readBody_0 : decode b_C_readBody 0 = .ok (.aload_n 1, 1) := by decide +kernel
theorem d_C_readBody_1 : decode b_C_readBody 1 = .ok (.iconst 4, 1) := by decide +kernel
theorem d_C_readBody_2 : decode b_C_readBody 2 = .ok (.invokevirtual 41, 3) := by decide +kernel
theorem d_C_readBody_5 : decode b_C_readBody 5 = .ok (.ifCond .eq 24, 3) := by decide +kernel
theorem d_C_readBody_8 : decode b_C_readBody 8 = .ok (.aload_n 0, 1) := by decide +kernel
theorem d_C_readBody_9 : decode b_C_readBody 9 = .ok (.aload_n 1, 1) := by decide +kernel
theorem d_C_readBody_10 : decode b_C_readBody 10 = .ok (.iload_n 2, 1) := by decide +kernel
theorem d_C_readBody_11 : decode b_C_readBody 11 = .ok (.invokevirtual 37, 3) := by decide +kernel
theorem d_C_readBody_14 : decode b_C_readBody 14 = .ok (.ifCond .eq 15, 3) := by decide +kernel
theorem d_C_readBody_17 : decode b_C_readBody 17 = .ok (.aload_n 1, 1) := by decide +kernel
theorem d_C_readBody_18 : decode b_C_readBody 18 = .ok (.iconst 5, 1) := by decide +kernel
theorem d_C_readBody_19 : decode b_C_readBody 19 = .ok (.invokevirtual 41, 3) := by decide +kernel
theorem d_C_readBody_22 : decode b_C_readBody 22 = .ok (.ifCond .eq 7, 3) := by decide +kernel
theorem d_C_readBody_25 : decode b_C_readBody 25 = .ok (.iconst 1, 1) := by decide +kernel
theorem d_C_readBody_26 : decode b_C_readBody 26 = .ok (.goto 4, 3) := by decide +kernel
theorem d_C_readBody_29 : decode b_C_readBody 29 = .ok (.iconst 0, 1) := by decide +kernel
theorem d_C_readBody_30 : decode b_C_readBody 30 = .ok (.ireturn, 1) := by decide +kernel
theorem cc_C_41 : CV "KiteLogger$Script" 41 y_X_takeSign b_X_takeSign 2 (some .boolean) 1 := ⟨TT_in (i := 1296) (by decide +kernel) (by decide +kernel), TT_in (i := 952) (by decide +kernel) (by decide +kernel), TT_in (i := 953) (by decide +kernel) (by decide +kernel), TT_in (i := 89) (by decide +kernel) (by decide +kernel), TT_in (i := 954) (by decide +kernel) (by decide +kernel), ⟨by decide +kernel, by decide +kernel, by decide +kernel⟩⟩
theorem cc_C_37 : CV "KiteLogger$Script" 37 y_C_readBlock b_C_readBlock 4 (some .boolean) 2 := ⟨TT_in (i := 1259) (by decide +kernel) (by decide +kernel), TT_in (i := 1261) (by decide +kernel) (by decide +kernel), TT_in (i := 19) (by decide +kernel) (by decide +kernel), TT_in (i := 93) (by decide +kernel) (by decide +kernel), TT_in (i := 1262) (by decide +kernel) (by decide +kernel), ⟨by decide +kernel, by decide +kernel, by decide +kernel⟩⟩
def f_C_readBody (N : Nat) (rr : Nat) (rb : Int32 → Mem → Option (Bool × Mem)) (a2 : Int32) (M : Mem) : Option (Bool × Mem) :=
  bnd (f_X_takeSign N rr (4 : Int32) M) fun (x1 : Bool) (M2 : Mem) => if x1 = true then (bnd (rb a2 M2) fun (x3 : Bool) (M4 : Mem) => if x3 = true then (bnd (f_X_takeSign N rr (5 : Int32) M4) fun (x5 : Bool) (M6 : Mem) => if x5 = true then (some (true, M6)) else (some (false, M6))) else (some (false, M4))) else (some (false, M2))
set_option maxHeartbeats 4000000 in
set_option maxRecDepth 100000 in
theorem c_C_readBody (l : Launch) (N : Nat) {w : Wc} {rr : Nat} (hw : WK w rr) (k0 : Nat) (hk0 : 8 ≤ k0) (rb : Int32 → Mem → Option (Bool × Mem)) (hrb : ∀ (a2 : Int32) (M : Mem), Ct QZ l y_C_readBlock b_C_readBlock 4 (some .boolean) (rmL k0) w [.ref (wad w 5), .ref (wad w 1), .int a2] M (rb a2 M)) (a2 : Int32) (M : Mem) : Ct QZ l y_C_readBody b_C_readBody 3 (some .boolean) (rmL (k0 + 1)) w [.ref (wad w 5), .ref (wad w 1), .int a2] M (f_C_readBody N rr rb a2 M) := by
  refine Ct.go (by decide) (L := [(0, .ref (wad w 5)), (1, .ref (wad w 1)), (2, .int a2)]) rfl (Nat.le_of_ble_eq_true rfl) (fun p0 e s m args below meth c g hret => ?_)
  unfold f_C_readBody
  refine G_aload_n g (pc := 0) 1 d_C_readBody_0 rfl rfl ?_
  refine G_iconst g (pc := 1) (4 : Int32) d_C_readBody_1 rfl ?_
  refine G_cVZ g (pc := 2) (As := [.int (4 : Int32)]) (st := []) cc_C_41 (c_X_takeSign l N hw (4 : Int32) M) (hw.m 1 (Nat.le_of_ble_eq_true rfl)) (hw.k (zk1 rr)) rfl (by decide) rfl (room_le (by omega) (by decide)) ⟨(Nat.le_of_ble_eq_true rfl), (Nat.le_of_ble_eq_true rfl)⟩ (Nat.le_of_ble_eq_true rfl) d_C_readBody_2 (fun x1 M2 => ?_)
  refine G_if_eqB g (pc := 5) 29 d_C_readBody_5 (by decide) ?_ ?_
  · refine G_aload_n g (pc := 8) 0 d_C_readBody_8 rfl rfl ?_
    refine G_aload_n g (pc := 9) 1 d_C_readBody_9 rfl rfl ?_
    refine G_iload_n g (pc := 10) 2 d_C_readBody_10 rfl rfl ?_
    refine G_cVZ g (pc := 11) (As := [.ref (wad w 1), .int a2]) (st := []) cc_C_37 (hrb a2 M2) (hw.m 5 (Nat.le_of_ble_eq_true rfl)) (hw.k (zk5 rr)) rfl (by decide) rfl (room_le (by omega) (by decide)) ⟨(Nat.le_of_ble_eq_true rfl), (Nat.le_of_ble_eq_true rfl)⟩ (Nat.le_of_ble_eq_true rfl) d_C_readBody_11 (fun x3 M4 => ?_)
    refine G_if_eqB g (pc := 14) 29 d_C_readBody_14 (by decide) ?_ ?_
    · refine G_aload_n g (pc := 17) 1 d_C_readBody_17 rfl rfl ?_
      refine G_iconst g (pc := 18) (5 : Int32) d_C_readBody_18 rfl ?_
      refine G_cVZ g (pc := 19) (As := [.int (5 : Int32)]) (st := []) cc_C_41 (c_X_takeSign l N hw (5 : Int32) M4) (hw.m 1 (Nat.le_of_ble_eq_true rfl)) (hw.k (zk1 rr)) rfl (by decide) rfl (room_le (by omega) (by decide)) ⟨(Nat.le_of_ble_eq_true rfl), (Nat.le_of_ble_eq_true rfl)⟩ (Nat.le_of_ble_eq_true rfl) d_C_readBody_19 (fun x5 M6 => ?_)
      refine G_if_eqB g (pc := 22) 29 d_C_readBody_22 (by decide) ?_ ?_
      · refine G_iconst g (pc := 25) (1 : Int32) d_C_readBody_25 rfl ?_
        refine G_goto g (pc := 26) 30 d_C_readBody_26 (by decide) ?_
        exact G_zreturn g (pc := 30) true rfl hret (Nat.le_of_ble_eq_true rfl) (Nat.le_of_ble_eq_true rfl) d_C_readBody_30
      · refine G_iconst g (pc := 29) (0 : Int32) d_C_readBody_29 rfl ?_
        exact G_zreturn g (pc := 30) false rfl hret (Nat.le_of_ble_eq_true rfl) (Nat.le_of_ble_eq_true rfl) d_C_readBody_30
    · refine G_iconst g (pc := 29) (0 : Int32) d_C_readBody_29 rfl ?_
      exact G_zreturn g (pc := 30) false rfl hret (Nat.le_of_ble_eq_true rfl) (Nat.le_of_ble_eq_true rfl) d_C_readBody_30
  · refine G_iconst g (pc := 29) (0 : Int32) d_C_readBody_29 rfl ?_
    exact G_zreturn g (pc := 30) false rfl hret (Nat.le_of_ble_eq_true rfl) (Nat.le_of_ble_eq_true rfl) d_C_readBody_30

theorem d_C_readCommand_0 : decode b_C_readCommand 0 = .ok (.aload_n 1, 1) := by decide +kernel
theorem d_C_readCommand_1 : decode b_C_readCommand 1 = .ok (.invokestatic 51, 3) := by decide +kernel
theorem d_C_readCommand_4 : decode b_C_readCommand 4 = .ok (.istore_n 3, 1) := by decide +kernel
theorem d_C_readCommand_5 : decode b_C_readCommand 5 = .ok (.iload_n 3, 1) := by decide +kernel
theorem d_C_readCommand_6 : decode b_C_readCommand 6 = .ok (.ifCond .ne 9, 3) := by decide +kernel
theorem d_C_readCommand_9 : decode b_C_readCommand 9 = .ok (.aload_n 1, 1) := by decide +kernel
theorem d_C_readCommand_10 : decode b_C_readCommand 10 = .ok (.iconst 1, 1) := by decide +kernel
theorem d_C_readCommand_11 : decode b_C_readCommand 11 = .ok (.invokevirtual 55, 3) := by decide +kernel
theorem d_C_readCommand_14 : decode b_C_readCommand 14 = .ok (.ireturn, 1) := by decide +kernel
theorem d_C_readCommand_15 : decode b_C_readCommand 15 = .ok (.aload_n 0, 1) := by decide +kernel
theorem d_C_readCommand_16 : decode b_C_readCommand 16 = .ok (.getfield 24, 3) := by decide +kernel
theorem d_C_readCommand_19 : decode b_C_readCommand 19 = .ok (.bipush 20, 2) := by decide +kernel
theorem d_C_readCommand_21 : decode b_C_readCommand 21 = .ok (.if_icmp .ge 14, 3) := by decide +kernel
theorem d_C_readCommand_24 : decode b_C_readCommand 24 = .ok (.iload_n 3, 1) := by decide +kernel
theorem d_C_readCommand_25 : decode b_C_readCommand 25 = .ok (.bipush 9, 2) := by decide +kernel
theorem d_C_readCommand_27 : decode b_C_readCommand 27 = .ok (.if_icmp .ne 14, 3) := by decide +kernel
theorem d_C_readCommand_30 : decode b_C_readCommand 30 = .ok (.iload_n 2, 1) := by decide +kernel
theorem d_C_readCommand_31 : decode b_C_readCommand 31 = .ok (.iconst 2, 1) := by decide +kernel
theorem d_C_readCommand_32 : decode b_C_readCommand 32 = .ok (.if_icmp .lt 9, 3) := by decide +kernel
theorem d_C_readCommand_35 : decode b_C_readCommand 35 = .ok (.aload_n 1, 1) := by decide +kernel
theorem d_C_readCommand_36 : decode b_C_readCommand 36 = .ok (.iconst 3, 1) := by decide +kernel
theorem d_C_readCommand_37 : decode b_C_readCommand 37 = .ok (.invokevirtual 55, 3) := by decide +kernel
theorem d_C_readCommand_40 : decode b_C_readCommand 40 = .ok (.ireturn, 1) := by decide +kernel
theorem d_C_readCommand_41 : decode b_C_readCommand 41 = .ok (.aload_n 0, 1) := by decide +kernel
theorem d_C_readCommand_42 : decode b_C_readCommand 42 = .ok (.getfield 24, 3) := by decide +kernel
theorem d_C_readCommand_45 : decode b_C_readCommand 45 = .ok (.istore 4, 2) := by decide +kernel
theorem d_C_readCommand_47 : decode b_C_readCommand 47 = .ok (.aload_n 0, 1) := by decide +kernel
theorem d_C_readCommand_48 : decode b_C_readCommand 48 = .ok (.dup, 1) := by decide +kernel
theorem d_C_readCommand_49 : decode b_C_readCommand 49 = .ok (.getfield 24, 3) := by decide +kernel
theorem d_C_readCommand_52 : decode b_C_readCommand 52 = .ok (.iconst 1, 1) := by decide +kernel
theorem d_C_readCommand_53 : decode b_C_readCommand 53 = .ok (.iadd, 1) := by decide +kernel
theorem d_C_readCommand_54 : decode b_C_readCommand 54 = .ok (.putfield 24, 3) := by decide +kernel
theorem d_C_readCommand_57 : decode b_C_readCommand 57 = .ok (.aload_n 0, 1) := by decide +kernel
theorem d_C_readCommand_58 : decode b_C_readCommand 58 = .ok (.getfield 9, 3) := by decide +kernel
theorem d_C_readCommand_61 : decode b_C_readCommand 61 = .ok (.iload 4, 2) := by decide +kernel
theorem d_C_readCommand_63 : decode b_C_readCommand 63 = .ok (.iload_n 3, 1) := by decide +kernel
theorem d_C_readCommand_64 : decode b_C_readCommand 64 = .ok (.invokestatic 58, 3) := by decide +kernel
theorem d_C_readCommand_67 : decode b_C_readCommand 67 = .ok (.aload_n 1, 1) := by decide +kernel
theorem d_C_readCommand_68 : decode b_C_readCommand 68 = .ok (.invokevirtual 62, 3) := by decide +kernel
theorem d_C_readCommand_71 : decode b_C_readCommand 71 = .ok (.aload_n 0, 1) := by decide +kernel
theorem d_C_readCommand_72 : decode b_C_readCommand 72 = .ok (.aload_n 1, 1) := by decide +kernel
theorem d_C_readCommand_73 : decode b_C_readCommand 73 = .ok (.iload 4, 2) := by decide +kernel
theorem d_C_readCommand_75 : decode b_C_readCommand 75 = .ok (.iload_n 3, 1) := by decide +kernel
theorem d_C_readCommand_76 : decode b_C_readCommand 76 = .ok (.invokevirtual 65, 3) := by decide +kernel
theorem d_C_readCommand_79 : decode b_C_readCommand 79 = .ok (.ifCond .ne 5, 3) := by decide +kernel
theorem d_C_readCommand_82 : decode b_C_readCommand 82 = .ok (.iconst 0, 1) := by decide +kernel
theorem d_C_readCommand_83 : decode b_C_readCommand 83 = .ok (.ireturn, 1) := by decide +kernel
theorem d_C_readCommand_84 : decode b_C_readCommand 84 = .ok (.iload_n 3, 1) := by decide +kernel
theorem d_C_readCommand_85 : decode b_C_readCommand 85 = .ok (.bipush 9, 2) := by decide +kernel
theorem d_C_readCommand_87 : decode b_C_readCommand 87 = .ok (.if_icmp .ne 16, 3) := by decide +kernel
theorem d_C_readCommand_90 : decode b_C_readCommand 90 = .ok (.aload_n 0, 1) := by decide +kernel
theorem d_C_readCommand_91 : decode b_C_readCommand 91 = .ok (.aload_n 1, 1) := by decide +kernel
theorem d_C_readCommand_92 : decode b_C_readCommand 92 = .ok (.iload_n 2, 1) := by decide +kernel
theorem d_C_readCommand_93 : decode b_C_readCommand 93 = .ok (.iconst 1, 1) := by decide +kernel
theorem d_C_readCommand_94 : decode b_C_readCommand 94 = .ok (.iadd, 1) := by decide +kernel
theorem d_C_readCommand_95 : decode b_C_readCommand 95 = .ok (.invokevirtual 69, 3) := by decide +kernel
theorem d_C_readCommand_98 : decode b_C_readCommand 98 = .ok (.ifCond .ne 5, 3) := by decide +kernel
theorem d_C_readCommand_101 : decode b_C_readCommand 101 = .ok (.iconst 0, 1) := by decide +kernel
theorem d_C_readCommand_102 : decode b_C_readCommand 102 = .ok (.ireturn, 1) := by decide +kernel
theorem d_C_readCommand_103 : decode b_C_readCommand 103 = .ok (.aload_n 0, 1) := by decide +kernel
theorem d_C_readCommand_104 : decode b_C_readCommand 104 = .ok (.getfield 21, 3) := by decide +kernel
theorem d_C_readCommand_107 : decode b_C_readCommand 107 = .ok (.iload 4, 2) := by decide +kernel
theorem d_C_readCommand_109 : decode b_C_readCommand 109 = .ok (.aload_n 0, 1) := by decide +kernel
theorem d_C_readCommand_110 : decode b_C_readCommand 110 = .ok (.getfield 24, 3) := by decide +kernel
theorem d_C_readCommand_113 : decode b_C_readCommand 113 = .ok (.invokestatic 58, 3) := by decide +kernel
theorem d_C_readCommand_116 : decode b_C_readCommand 116 = .ok (.iconst 1, 1) := by decide +kernel
theorem d_C_readCommand_117 : decode b_C_readCommand 117 = .ok (.ireturn, 1) := by decide +kernel
theorem cc_C_51 : CS "KiteLogger$Script" 51 y_C_commandAt b_C_commandAt 2 (some .int) 1 := ⟨TT_in (i := 1267) (by decide +kernel) (by decide +kernel), TT_in (i := 1268) (by decide +kernel) (by decide +kernel), TT_in (i := 93) (by decide +kernel) (by decide +kernel), TT_in (i := 1269) (by decide +kernel) (by decide +kernel), ⟨by decide +kernel, by decide +kernel, by decide +kernel⟩⟩
theorem cc_C_55 : CV "KiteLogger$Script" 55 y_X_fail b_X_fail 2 (some .boolean) 1 := ⟨TT_in (i := 1284) (by decide +kernel) (by decide +kernel), TT_in (i := 939) (by decide +kernel) (by decide +kernel), TT_in (i := 940) (by decide +kernel) (by decide +kernel), TT_in (i := 89) (by decide +kernel) (by decide +kernel), TT_in (i := 941) (by decide +kernel) (by decide +kernel), ⟨by decide +kernel, by decide +kernel, by decide +kernel⟩⟩
theorem cc_C_62 : CV "KiteLogger$Script" 62 y_X_advance b_X_advance 1 none 0 := ⟨TT_in (i := 1286) (by decide +kernel) (by decide +kernel), TT_in (i := 862) (by decide +kernel) (by decide +kernel), TT_in (i := 863) (by decide +kernel) (by decide +kernel), TT_in (i := 89) (by decide +kernel) (by decide +kernel), TT_in (i := 864) (by decide +kernel) (by decide +kernel), ⟨by decide +kernel, by decide +kernel, by decide +kernel⟩⟩
theorem cc_C_65 : CV "KiteLogger$Script" 65 y_C_readNumbers b_C_readNumbers 5 (some .boolean) 3 := ⟨TT_in (i := 1287) (by decide +kernel) (by decide +kernel), TT_in (i := 1289) (by decide +kernel) (by decide +kernel), TT_in (i := 21) (by decide +kernel) (by decide +kernel), TT_in (i := 93) (by decide +kernel) (by decide +kernel), TT_in (i := 1290) (by decide +kernel) (by decide +kernel), ⟨by decide +kernel, by decide +kernel, by decide +kernel⟩⟩
theorem cc_C_69 : CV "KiteLogger$Script" 69 y_C_readBody b_C_readBody 3 (some .boolean) 2 := ⟨TT_in (i := 1292) (by decide +kernel) (by decide +kernel), TT_in (i := 1294) (by decide +kernel) (by decide +kernel), TT_in (i := 22) (by decide +kernel) (by decide +kernel), TT_in (i := 93) (by decide +kernel) (by decide +kernel), TT_in (i := 1295) (by decide +kernel) (by decide +kernel), ⟨by decide +kernel, by decide +kernel, by decide +kernel⟩⟩
def f_C_readCommand (N : Nat) (rr : Nat) (rb : Int32 → Mem → Option (Bool × Mem)) (a2 : Int32) (M : Mem) : Option (Bool × Mem) :=
  bnd (f_C_commandAt N rr M) fun (x1 : Int32) (M2 : Mem) => if x1 = 0 then (bnd (f_X_fail (1 : Int32) M2) fun (x3 : Bool) (M4 : Mem) => some (x3, M4)) else (if (M2 5 4) < (20 : Int32) then (if x1 = (9 : Int32) then (if a2 < (2 : Int32) then (nm (M2 5 4) fun (x5 : Int32) => nm (put M2 5 4 ((M2 5 4) + (1 : Int32))) fun (M6 : Mem) => bndM (f_G_putAt 6 x5 x1 M6) fun (M8 : Mem) => bndM (f_X_advance N rr M8) fun (M10 : Mem) => bnd (f_C_readNumbers N rr x5 x1 M10) fun (x11 : Bool) (M12 : Mem) => if x11 = true then (if x1 = (9 : Int32) then (bnd (f_C_readBody N rr rb (a2 + (1 : Int32)) M12) fun (x13 : Bool) (M14 : Mem) => if x13 = true then (bndM (f_G_putAt 9 x5 (M14 5 4) M14) fun (M16 : Mem) => some (true, M16)) else (some (false, M14))) else (bndM (f_G_putAt 9 x5 (M12 5 4) M12) fun (M18 : Mem) => some (true, M18))) else (some (false, M12))) else (bnd (f_X_fail (3 : Int32) M2) fun (x19 : Bool) (M20 : Mem) => some (x19, M20))) else (nm (M2 5 4) fun (x21 : Int32) => nm (put M2 5 4 ((M2 5 4) + (1 : Int32))) fun (M22 : Mem) => bndM (f_G_putAt 6 x21 x1 M22) fun (M24 : Mem) => bndM (f_X_advance N rr M24) fun (M26 : Mem) => bnd (f_C_readNumbers N rr x21 x1 M26) fun (x27 : Bool) (M28 : Mem) => if x27 = true then (if x1 = (9 : Int32) then (bnd (f_C_readBody N rr rb (a2 + (1 : Int32)) M28) fun (x29 : Bool) (M30 : Mem) => if x29 = true then (bndM (f_G_putAt 9 x21 (M30 5 4) M30) fun (M32 : Mem) => some (true, M32)) else (some (false, M30))) else (bndM (f_G_putAt 9 x21 (M28 5 4) M28) fun (M34 : Mem) => some (true, M34))) else (some (false, M28)))) else (bnd (f_X_fail (3 : Int32) M2) fun (x35 : Bool) (M36 : Mem) => some (x35, M36)))
set_option maxHeartbeats 4000000 in
set_option maxRecDepth 100000 in
theorem c_C_readCommand (l : Launch) (N : Nat) {w : Wc} {rr : Nat} (hw : WK w rr) (k0 : Nat) (hk0 : 8 ≤ k0) (rb : Int32 → Mem → Option (Bool × Mem)) (hrb : ∀ (a2 : Int32) (M : Mem), Ct QZ l y_C_readBlock b_C_readBlock 4 (some .boolean) (rmL k0) w [.ref (wad w 5), .ref (wad w 1), .int a2] M (rb a2 M)) (a2 : Int32) (M : Mem) : Ct QZ l y_C_readCommand b_C_readCommand 5 (some .boolean) (rmL (k0 + 2)) w [.ref (wad w 5), .ref (wad w 1), .int a2] M (f_C_readCommand N rr rb a2 M) := by
  refine Ct.go (by decide) (L := [(0, .ref (wad w 5)), (1, .ref (wad w 1)), (2, .int a2)]) rfl (Nat.le_of_ble_eq_true rfl) (fun p0 e s m args below meth c g hret => ?_)
  unfold f_C_readCommand
  refine G_aload_n g (pc := 0) 1 d_C_readCommand_0 rfl rfl ?_
  refine G_cSI g (pc := 1) (As := [.ref (wad w 1)]) (st := []) cc_C_51 (c_C_commandAt l N hw M) rfl (room_le (by omega) (by decide)) ⟨(Nat.le_of_ble_eq_true rfl), (Nat.le_of_ble_eq_true rfl)⟩ (Nat.le_of_ble_eq_true rfl) d_C_readCommand_1 (fun x1 M2 => ?_)
  refine G_istore_n g (pc := 4) _ d_C_readCommand_4 rfl (Nat.le_of_ble_eq_true rfl) rfl ?_
  refine G_iload_n g (pc := 5) 0 d_C_readCommand_5 rfl rfl ?_
  refine G_if_ne g (pc := 6) 15 d_C_readCommand_6 (by decide) ?_ ?_
  · refine G_aload_n g (pc := 9) 2 d_C_readCommand_9 rfl rfl ?_
    refine G_iconst g (pc := 10) (1 : Int32) d_C_readCommand_10 rfl ?_
    refine G_cVZ g (pc := 11) (As := [.int (1 : Int32)]) (st := []) cc_C_55 (c_X_fail l hw (1 : Int32) M2) (hw.m 1 (Nat.le_of_ble_eq_true rfl)) (hw.k (zk1 rr)) rfl (by decide) rfl (room_le (by omega) (by decide)) ⟨(Nat.le_of_ble_eq_true rfl), (Nat.le_of_ble_eq_true rfl)⟩ (Nat.le_of_ble_eq_true rfl) d_C_readCommand_11 (fun x3 M4 => ?_)
    exact G_zreturn g (pc := 14) x3 rfl hret (Nat.le_of_ble_eq_true rfl) (Nat.le_of_ble_eq_true rfl) d_C_readCommand_14
  · refine G_aload_n g (pc := 15) 1 d_C_readCommand_15 rfl rfl ?_
    refine G_get g (pc := 16) fa_C_24 (hw.m 5 (Nat.le_of_ble_eq_true rfl)) (hw.k (zk5 rr)) d_C_readCommand_16 ?_
    refine G_bipush g (pc := 19) (20 : Int32) d_C_readCommand_19 rfl ?_
    refine G_icmp_ge g (pc := 21) 35 d_C_readCommand_21 (by decide) ?_ ?_
    · refine G_iload_n g (pc := 24) 0 d_C_readCommand_24 rfl rfl ?_
      refine G_bipush g (pc := 25) (9 : Int32) d_C_readCommand_25 rfl ?_
      refine G_icmp_ne g (pc := 27) 41 d_C_readCommand_27 (by decide) ?_ ?_
      · refine G_iload_n g (pc := 30) 3 d_C_readCommand_30 rfl rfl ?_
        refine G_iconst g (pc := 31) (2 : Int32) d_C_readCommand_31 rfl ?_
        refine G_icmp_lt g (pc := 32) 41 d_C_readCommand_32 (by decide) ?_ ?_
        · refine G_aload_n g (pc := 41) 1 d_C_readCommand_41 rfl rfl ?_
          refine G_get g (pc := 42) fa_C_24 (hw.m 5 (Nat.le_of_ble_eq_true rfl)) (hw.k (zk5 rr)) d_C_readCommand_42 ?_
          refine G_nmI (fun x5 => ?_)
          refine G_istore g (pc := 45) _ d_C_readCommand_45 (Nat.le_of_ble_eq_true rfl) rfl ?_
          refine G_aload_n g (pc := 47) 2 d_C_readCommand_47 rfl rfl ?_
          refine G_dup g (pc := 48) d_C_readCommand_48 rfl ?_
          refine G_get g (pc := 49) fa_C_24 (hw.m 5 (Nat.le_of_ble_eq_true rfl)) (hw.k (zk5 rr)) d_C_readCommand_49 ?_
          refine G_iconst g (pc := 52) (1 : Int32) d_C_readCommand_52 rfl ?_
          refine G_iadd g (pc := 53) d_C_readCommand_53 ?_
          refine G_put g (pc := 54) fa_C_24 fw_4_4 rfl rfl (hw.m 5 (Nat.le_of_ble_eq_true rfl)) (hw.k (zk5 rr)) d_C_readCommand_54 ?_
          refine G_nmM (fun M6 => ?_)
          refine G_aload_n g (pc := 57) 2 d_C_readCommand_57 rfl rfl ?_
          refine G_getR g (pc := 58) fa_C_9 (hw.m 5 (Nat.le_of_ble_eq_true rfl)) (hw.k (zk5 rr)) (hw.r (zr5_0 rr)) d_C_readCommand_58 ?_
          refine G_iload g (pc := 61) 0 d_C_readCommand_61 rfl ?_
          refine G_iload_n g (pc := 63) 1 d_C_readCommand_63 rfl rfl ?_
          refine G_cSNV g (pc := 64) (As := [.ref (wad w 6), .int x5, .int x1]) (st := []) cc_C_58 (c_G_putAt l hw 6 (hw.m 6 (Nat.le_of_ble_eq_true rfl)) (hw.k (zk6 rr)) x5 x1 M6) rfl (room_le (by omega) (by decide)) ⟨(Nat.le_of_ble_eq_true rfl), (Nat.le_of_ble_eq_true rfl)⟩ (Nat.le_of_ble_eq_true rfl) d_C_readCommand_64 (fun M8 => ?_)
          refine G_aload_n g (pc := 67) 3 d_C_readCommand_67 rfl rfl ?_
          refine G_cVV g (pc := 68) (As := []) (st := []) cc_C_62 (c_X_advance l N hw M8) (hw.m 1 (Nat.le_of_ble_eq_true rfl)) (hw.k (zk1 rr)) rfl (by decide) rfl (room_le (by omega) (by decide)) ⟨(Nat.le_of_ble_eq_true rfl), (Nat.le_of_ble_eq_true rfl)⟩ (Nat.le_of_ble_eq_true rfl) d_C_readCommand_68 (fun M10 => ?_)
          refine G_aload_n g (pc := 71) 2 d_C_readCommand_71 rfl rfl ?_
          refine G_aload_n g (pc := 72) 3 d_C_readCommand_72 rfl rfl ?_
          refine G_iload g (pc := 73) 0 d_C_readCommand_73 rfl ?_
          refine G_iload_n g (pc := 75) 1 d_C_readCommand_75 rfl rfl ?_
          refine G_cVZ g (pc := 76) (As := [.ref (wad w 1), .int x5, .int x1]) (st := []) cc_C_65 (c_C_readNumbers l N hw x5 x1 M10) (hw.m 5 (Nat.le_of_ble_eq_true rfl)) (hw.k (zk5 rr)) rfl (by decide) rfl (room_le (by omega) (by decide)) ⟨(Nat.le_of_ble_eq_true rfl), (Nat.le_of_ble_eq_true rfl)⟩ (Nat.le_of_ble_eq_true rfl) d_C_readCommand_76 (fun x11 M12 => ?_)
          refine G_if_neB g (pc := 79) 84 d_C_readCommand_79 (by decide) ?_ ?_
          · refine G_iload_n g (pc := 84) 1 d_C_readCommand_84 rfl rfl ?_
            refine G_bipush g (pc := 85) (9 : Int32) d_C_readCommand_85 rfl ?_
            refine G_icmp_ne g (pc := 87) 103 d_C_readCommand_87 (by decide) ?_ ?_
            · refine G_aload_n g (pc := 90) 2 d_C_readCommand_90 rfl rfl ?_
              refine G_aload_n g (pc := 91) 3 d_C_readCommand_91 rfl rfl ?_
              refine G_iload_n g (pc := 92) 4 d_C_readCommand_92 rfl rfl ?_
              refine G_iconst g (pc := 93) (1 : Int32) d_C_readCommand_93 rfl ?_
              refine G_iadd g (pc := 94) d_C_readCommand_94 ?_
              refine G_cVZ g (pc := 95) (As := [.ref (wad w 1), .int (a2 + (1 : Int32))]) (st := []) cc_C_69 (c_C_readBody l N hw k0 hk0 rb hrb (a2 + (1 : Int32)) M12) (hw.m 5 (Nat.le_of_ble_eq_true rfl)) (hw.k (zk5 rr)) rfl (by decide) rfl (room_le (by omega) (by decide)) ⟨(Nat.le_of_ble_eq_true rfl), (Nat.le_of_ble_eq_true rfl)⟩ (Nat.le_of_ble_eq_true rfl) d_C_readCommand_95 (fun x13 M14 => ?_)
              refine G_if_neB g (pc := 98) 103 d_C_readCommand_98 (by decide) ?_ ?_
              · refine G_aload_n g (pc := 103) 2 d_C_readCommand_103 rfl rfl ?_
                refine G_getR g (pc := 104) fa_C_21 (hw.m 5 (Nat.le_of_ble_eq_true rfl)) (hw.k (zk5 rr)) (hw.r (zr5_3 rr)) d_C_readCommand_104 ?_
                refine G_iload g (pc := 107) 0 d_C_readCommand_107 rfl ?_
                refine G_aload_n g (pc := 109) 2 d_C_readCommand_109 rfl rfl ?_
                refine G_get g (pc := 110) fa_C_24 (hw.m 5 (Nat.le_of_ble_eq_true rfl)) (hw.k (zk5 rr)) d_C_readCommand_110 ?_
                refine G_cSNV g (pc := 113) (As := [.ref (wad w 9), .int x5, .int (M14 5 4)]) (st := []) cc_C_58 (c_G_putAt l hw 9 (hw.m 9 (Nat.le_of_ble_eq_true rfl)) (hw.k (zk9 rr)) x5 (M14 5 4) M14) rfl (room_le (by omega) (by decide)) ⟨(Nat.le_of_ble_eq_true rfl), (Nat.le_of_ble_eq_true rfl)⟩ (Nat.le_of_ble_eq_true rfl) d_C_readCommand_113 (fun M16 => ?_)
                refine G_iconst g (pc := 116) (1 : Int32) d_C_readCommand_116 rfl ?_
                exact G_zreturn g (pc := 117) true rfl hret (Nat.le_of_ble_eq_true rfl) (Nat.le_of_ble_eq_true rfl) d_C_readCommand_117
              · refine G_iconst g (pc := 101) (0 : Int32) d_C_readCommand_101 rfl ?_
                exact G_zreturn g (pc := 102) false rfl hret (Nat.le_of_ble_eq_true rfl) (Nat.le_of_ble_eq_true rfl) d_C_readCommand_102
            · refine G_aload_n g (pc := 103) 2 d_C_readCommand_103 rfl rfl ?_
              refine G_getR g (pc := 104) fa_C_21 (hw.m 5 (Nat.le_of_ble_eq_true rfl)) (hw.k (zk5 rr)) (hw.r (zr5_3 rr)) d_C_readCommand_104 ?_
              refine G_iload g (pc := 107) 0 d_C_readCommand_107 rfl ?_
              refine G_aload_n g (pc := 109) 2 d_C_readCommand_109 rfl rfl ?_
              refine G_get g (pc := 110) fa_C_24 (hw.m 5 (Nat.le_of_ble_eq_true rfl)) (hw.k (zk5 rr)) d_C_readCommand_110 ?_
              refine G_cSNV g (pc := 113) (As := [.ref (wad w 9), .int x5, .int (M12 5 4)]) (st := []) cc_C_58 (c_G_putAt l hw 9 (hw.m 9 (Nat.le_of_ble_eq_true rfl)) (hw.k (zk9 rr)) x5 (M12 5 4) M12) rfl (room_le (by omega) (by decide)) ⟨(Nat.le_of_ble_eq_true rfl), (Nat.le_of_ble_eq_true rfl)⟩ (Nat.le_of_ble_eq_true rfl) d_C_readCommand_113 (fun M18 => ?_)
              refine G_iconst g (pc := 116) (1 : Int32) d_C_readCommand_116 rfl ?_
              exact G_zreturn g (pc := 117) true rfl hret (Nat.le_of_ble_eq_true rfl) (Nat.le_of_ble_eq_true rfl) d_C_readCommand_117
          · refine G_iconst g (pc := 82) (0 : Int32) d_C_readCommand_82 rfl ?_
            exact G_zreturn g (pc := 83) false rfl hret (Nat.le_of_ble_eq_true rfl) (Nat.le_of_ble_eq_true rfl) d_C_readCommand_83
        · refine G_aload_n g (pc := 35) 2 d_C_readCommand_35 rfl rfl ?_
          refine G_iconst g (pc := 36) (3 : Int32) d_C_readCommand_36 rfl ?_
          refine G_cVZ g (pc := 37) (As := [.int (3 : Int32)]) (st := []) cc_C_55 (c_X_fail l hw (3 : Int32) M2) (hw.m 1 (Nat.le_of_ble_eq_true rfl)) (hw.k (zk1 rr)) rfl (by decide) rfl (room_le (by omega) (by decide)) ⟨(Nat.le_of_ble_eq_true rfl), (Nat.le_of_ble_eq_true rfl)⟩ (Nat.le_of_ble_eq_true rfl) d_C_readCommand_37 (fun x19 M20 => ?_)
          exact G_zreturn g (pc := 40) x19 rfl hret (Nat.le_of_ble_eq_true rfl) (Nat.le_of_ble_eq_true rfl) d_C_readCommand_40
      · refine G_aload_n g (pc := 41) 1 d_C_readCommand_41 rfl rfl ?_
        refine G_get g (pc := 42) fa_C_24 (hw.m 5 (Nat.le_of_ble_eq_true rfl)) (hw.k (zk5 rr)) d_C_readCommand_42 ?_
        refine G_nmI (fun x21 => ?_)
        refine G_istore g (pc := 45) _ d_C_readCommand_45 (Nat.le_of_ble_eq_true rfl) rfl ?_
        refine G_aload_n g (pc := 47) 2 d_C_readCommand_47 rfl rfl ?_
        refine G_dup g (pc := 48) d_C_readCommand_48 rfl ?_
        refine G_get g (pc := 49) fa_C_24 (hw.m 5 (Nat.le_of_ble_eq_true rfl)) (hw.k (zk5 rr)) d_C_readCommand_49 ?_
        refine G_iconst g (pc := 52) (1 : Int32) d_C_readCommand_52 rfl ?_
        refine G_iadd g (pc := 53) d_C_readCommand_53 ?_
        refine G_put g (pc := 54) fa_C_24 fw_4_4 rfl rfl (hw.m 5 (Nat.le_of_ble_eq_true rfl)) (hw.k (zk5 rr)) d_C_readCommand_54 ?_
        refine G_nmM (fun M22 => ?_)
        refine G_aload_n g (pc := 57) 2 d_C_readCommand_57 rfl rfl ?_
        refine G_getR g (pc := 58) fa_C_9 (hw.m 5 (Nat.le_of_ble_eq_true rfl)) (hw.k (zk5 rr)) (hw.r (zr5_0 rr)) d_C_readCommand_58 ?_
        refine G_iload g (pc := 61) 0 d_C_readCommand_61 rfl ?_
        refine G_iload_n g (pc := 63) 1 d_C_readCommand_63 rfl rfl ?_
        refine G_cSNV g (pc := 64) (As := [.ref (wad w 6), .int x21, .int x1]) (st := []) cc_C_58 (c_G_putAt l hw 6 (hw.m 6 (Nat.le_of_ble_eq_true rfl)) (hw.k (zk6 rr)) x21 x1 M22) rfl (room_le (by omega) (by decide)) ⟨(Nat.le_of_ble_eq_true rfl), (Nat.le_of_ble_eq_true rfl)⟩ (Nat.le_of_ble_eq_true rfl) d_C_readCommand_64 (fun M24 => ?_)
        refine G_aload_n g (pc := 67) 3 d_C_readCommand_67 rfl rfl ?_
        refine G_cVV g (pc := 68) (As := []) (st := []) cc_C_62 (c_X_advance l N hw M24) (hw.m 1 (Nat.le_of_ble_eq_true rfl)) (hw.k (zk1 rr)) rfl (by decide) rfl (room_le (by omega) (by decide)) ⟨(Nat.le_of_ble_eq_true rfl), (Nat.le_of_ble_eq_true rfl)⟩ (Nat.le_of_ble_eq_true rfl) d_C_readCommand_68 (fun M26 => ?_)
        refine G_aload_n g (pc := 71) 2 d_C_readCommand_71 rfl rfl ?_
        refine G_aload_n g (pc := 72) 3 d_C_readCommand_72 rfl rfl ?_
        refine G_iload g (pc := 73) 0 d_C_readCommand_73 rfl ?_
        refine G_iload_n g (pc := 75) 1 d_C_readCommand_75 rfl rfl ?_
        refine G_cVZ g (pc := 76) (As := [.ref (wad w 1), .int x21, .int x1]) (st := []) cc_C_65 (c_C_readNumbers l N hw x21 x1 M26) (hw.m 5 (Nat.le_of_ble_eq_true rfl)) (hw.k (zk5 rr)) rfl (by decide) rfl (room_le (by omega) (by decide)) ⟨(Nat.le_of_ble_eq_true rfl), (Nat.le_of_ble_eq_true rfl)⟩ (Nat.le_of_ble_eq_true rfl) d_C_readCommand_76 (fun x27 M28 => ?_)
        refine G_if_neB g (pc := 79) 84 d_C_readCommand_79 (by decide) ?_ ?_
        · refine G_iload_n g (pc := 84) 1 d_C_readCommand_84 rfl rfl ?_
          refine G_bipush g (pc := 85) (9 : Int32) d_C_readCommand_85 rfl ?_
          refine G_icmp_ne g (pc := 87) 103 d_C_readCommand_87 (by decide) ?_ ?_
          · refine G_aload_n g (pc := 90) 2 d_C_readCommand_90 rfl rfl ?_
            refine G_aload_n g (pc := 91) 3 d_C_readCommand_91 rfl rfl ?_
            refine G_iload_n g (pc := 92) 4 d_C_readCommand_92 rfl rfl ?_
            refine G_iconst g (pc := 93) (1 : Int32) d_C_readCommand_93 rfl ?_
            refine G_iadd g (pc := 94) d_C_readCommand_94 ?_
            refine G_cVZ g (pc := 95) (As := [.ref (wad w 1), .int (a2 + (1 : Int32))]) (st := []) cc_C_69 (c_C_readBody l N hw k0 hk0 rb hrb (a2 + (1 : Int32)) M28) (hw.m 5 (Nat.le_of_ble_eq_true rfl)) (hw.k (zk5 rr)) rfl (by decide) rfl (room_le (by omega) (by decide)) ⟨(Nat.le_of_ble_eq_true rfl), (Nat.le_of_ble_eq_true rfl)⟩ (Nat.le_of_ble_eq_true rfl) d_C_readCommand_95 (fun x29 M30 => ?_)
            refine G_if_neB g (pc := 98) 103 d_C_readCommand_98 (by decide) ?_ ?_
            · refine G_aload_n g (pc := 103) 2 d_C_readCommand_103 rfl rfl ?_
              refine G_getR g (pc := 104) fa_C_21 (hw.m 5 (Nat.le_of_ble_eq_true rfl)) (hw.k (zk5 rr)) (hw.r (zr5_3 rr)) d_C_readCommand_104 ?_
              refine G_iload g (pc := 107) 0 d_C_readCommand_107 rfl ?_
              refine G_aload_n g (pc := 109) 2 d_C_readCommand_109 rfl rfl ?_
              refine G_get g (pc := 110) fa_C_24 (hw.m 5 (Nat.le_of_ble_eq_true rfl)) (hw.k (zk5 rr)) d_C_readCommand_110 ?_
              refine G_cSNV g (pc := 113) (As := [.ref (wad w 9), .int x21, .int (M30 5 4)]) (st := []) cc_C_58 (c_G_putAt l hw 9 (hw.m 9 (Nat.le_of_ble_eq_true rfl)) (hw.k (zk9 rr)) x21 (M30 5 4) M30) rfl (room_le (by omega) (by decide)) ⟨(Nat.le_of_ble_eq_true rfl), (Nat.le_of_ble_eq_true rfl)⟩ (Nat.le_of_ble_eq_true rfl) d_C_readCommand_113 (fun M32 => ?_)
              refine G_iconst g (pc := 116) (1 : Int32) d_C_readCommand_116 rfl ?_
              exact G_zreturn g (pc := 117) true rfl hret (Nat.le_of_ble_eq_true rfl) (Nat.le_of_ble_eq_true rfl) d_C_readCommand_117
            · refine G_iconst g (pc := 101) (0 : Int32) d_C_readCommand_101 rfl ?_
              exact G_zreturn g (pc := 102) false rfl hret (Nat.le_of_ble_eq_true rfl) (Nat.le_of_ble_eq_true rfl) d_C_readCommand_102
          · refine G_aload_n g (pc := 103) 2 d_C_readCommand_103 rfl rfl ?_
            refine G_getR g (pc := 104) fa_C_21 (hw.m 5 (Nat.le_of_ble_eq_true rfl)) (hw.k (zk5 rr)) (hw.r (zr5_3 rr)) d_C_readCommand_104 ?_
            refine G_iload g (pc := 107) 0 d_C_readCommand_107 rfl ?_
            refine G_aload_n g (pc := 109) 2 d_C_readCommand_109 rfl rfl ?_
            refine G_get g (pc := 110) fa_C_24 (hw.m 5 (Nat.le_of_ble_eq_true rfl)) (hw.k (zk5 rr)) d_C_readCommand_110 ?_
            refine G_cSNV g (pc := 113) (As := [.ref (wad w 9), .int x21, .int (M28 5 4)]) (st := []) cc_C_58 (c_G_putAt l hw 9 (hw.m 9 (Nat.le_of_ble_eq_true rfl)) (hw.k (zk9 rr)) x21 (M28 5 4) M28) rfl (room_le (by omega) (by decide)) ⟨(Nat.le_of_ble_eq_true rfl), (Nat.le_of_ble_eq_true rfl)⟩ (Nat.le_of_ble_eq_true rfl) d_C_readCommand_113 (fun M34 => ?_)
            refine G_iconst g (pc := 116) (1 : Int32) d_C_readCommand_116 rfl ?_
            exact G_zreturn g (pc := 117) true rfl hret (Nat.le_of_ble_eq_true rfl) (Nat.le_of_ble_eq_true rfl) d_C_readCommand_117
        · refine G_iconst g (pc := 82) (0 : Int32) d_C_readCommand_82 rfl ?_
          exact G_zreturn g (pc := 83) false rfl hret (Nat.le_of_ble_eq_true rfl) (Nat.le_of_ble_eq_true rfl) d_C_readCommand_83
    · refine G_aload_n g (pc := 35) 2 d_C_readCommand_35 rfl rfl ?_
      refine G_iconst g (pc := 36) (3 : Int32) d_C_readCommand_36 rfl ?_
      refine G_cVZ g (pc := 37) (As := [.int (3 : Int32)]) (st := []) cc_C_55 (c_X_fail l hw (3 : Int32) M2) (hw.m 1 (Nat.le_of_ble_eq_true rfl)) (hw.k (zk1 rr)) rfl (by decide) rfl (room_le (by omega) (by decide)) ⟨(Nat.le_of_ble_eq_true rfl), (Nat.le_of_ble_eq_true rfl)⟩ (Nat.le_of_ble_eq_true rfl) d_C_readCommand_37 (fun x35 M36 => ?_)
      exact G_zreturn g (pc := 40) x35 rfl hret (Nat.le_of_ble_eq_true rfl) (Nat.le_of_ble_eq_true rfl) d_C_readCommand_40

theorem d_C_readBlock_0 : decode b_C_readBlock 0 = .ok (.iload_n 2, 1) := by decide +kernel
theorem d_C_readBlock_1 : decode b_C_readBlock 1 = .ok (.iconst 2, 1) := by decide +kernel
theorem d_C_readBlock_2 : decode b_C_readBlock 2 = .ok (.if_icmp .le 5, 3) := by decide +kernel
theorem d_C_readBlock_5 : decode b_C_readBlock 5 = .ok (.iconst 0, 1) := by decide +kernel
theorem d_C_readBlock_6 : decode b_C_readBlock 6 = .ok (.ireturn, 1) := by decide +kernel
theorem d_C_readBlock_7 : decode b_C_readBlock 7 = .ok (.iconst 0, 1) := by decide +kernel
theorem d_C_readBlock_8 : decode b_C_readBlock 8 = .ok (.istore_n 3, 1) := by decide +kernel
theorem d_C_readBlock_9 : decode b_C_readBlock 9 = .ok (.iload_n 3, 1) := by decide +kernel
theorem d_C_readBlock_10 : decode b_C_readBlock 10 = .ok (.bipush 20, 2) := by decide +kernel
theorem d_C_readBlock_12 : decode b_C_readBlock 12 = .ok (.if_icmp .gt 36, 3) := by decide +kernel
theorem d_C_readBlock_15 : decode b_C_readBlock 15 = .ok (.aload_n 1, 1) := by decide +kernel
theorem d_C_readBlock_16 : decode b_C_readBlock 16 = .ok (.getfield 45, 3) := by decide +kernel
theorem d_C_readBlock_19 : decode b_C_readBlock 19 = .ok (.iconst 1, 1) := by decide +kernel
theorem d_C_readBlock_20 : decode b_C_readBlock 20 = .ok (.if_icmp .ne 28, 3) := by decide +kernel
theorem d_C_readBlock_23 : decode b_C_readBlock 23 = .ok (.aload_n 0, 1) := by decide +kernel
theorem d_C_readBlock_24 : decode b_C_readBlock 24 = .ok (.aload_n 1, 1) := by decide +kernel
theorem d_C_readBlock_25 : decode b_C_readBlock 25 = .ok (.iload_n 2, 1) := by decide +kernel
theorem d_C_readBlock_26 : decode b_C_readBlock 26 = .ok (.invokevirtual 48, 3) := by decide +kernel
theorem d_C_readBlock_29 : decode b_C_readBlock 29 = .ok (.ifCond .eq 11, 3) := by decide +kernel
theorem d_C_readBlock_32 : decode b_C_readBlock 32 = .ok (.aload_n 1, 1) := by decide +kernel
theorem d_C_readBlock_33 : decode b_C_readBlock 33 = .ok (.iconst 3, 1) := by decide +kernel
theorem d_C_readBlock_34 : decode b_C_readBlock 34 = .ok (.invokevirtual 41, 3) := by decide +kernel
theorem d_C_readBlock_37 : decode b_C_readBlock 37 = .ok (.ifCond .ne 5, 3) := by decide +kernel
theorem d_C_readBlock_40 : decode b_C_readBlock 40 = .ok (.iconst 0, 1) := by decide +kernel
theorem d_C_readBlock_41 : decode b_C_readBlock 41 = .ok (.ireturn, 1) := by decide +kernel
theorem d_C_readBlock_42 : decode b_C_readBlock 42 = .ok (.iinc 3 1, 3) := by decide +kernel
theorem d_C_readBlock_45 : decode b_C_readBlock 45 = .ok (.goto (-36), 3) := by decide +kernel
theorem d_C_readBlock_48 : decode b_C_readBlock 48 = .ok (.iconst 1, 1) := by decide +kernel
theorem d_C_readBlock_49 : decode b_C_readBlock 49 = .ok (.ireturn, 1) := by decide +kernel
theorem cc_C_48 : CV "KiteLogger$Script" 48 y_C_readCommand b_C_readCommand 5 (some .boolean) 2 := ⟨TT_in (i := 1263) (by decide +kernel) (by decide +kernel), TT_in (i := 1265) (by decide +kernel) (by decide +kernel), TT_in (i := 20) (by decide +kernel) (by decide +kernel), TT_in (i := 93) (by decide +kernel) (by decide +kernel), TT_in (i := 1266) (by decide +kernel) (by decide +kernel), ⟨by decide +kernel, by decide +kernel, by decide +kernel⟩⟩
def lp_C_readBlock_9 (N0 rr : Nat) (rb : Int32 → Mem → Option (Bool × Mem)) (a2 : Int32)  : Nat → Int32 → Mem → (Int32 → Mem → Option (Bool × Mem)) → Option (Bool × Mem)
  | 0, _, _, _ => none
  | N + 1, v9, M, k9 => if v9 ≤ (20 : Int32) then (if (M 1 3) = (1 : Int32) then (bnd (f_C_readCommand N0 rr rb a2 M) fun (x1 : Bool) (M2 : Mem) => if x1 = true then (bnd (f_X_takeSign N0 rr (3 : Int32) M2) fun (x3 : Bool) (M4 : Mem) => if x3 = true then (nm (v9 + (1 : Int32)) fun (x5 : Int32) => lp_C_readBlock_9 N0 rr rb a2 N x5 M4 k9) else (some (false, M4))) else (some (false, M2))) else (k9 v9 M)) else (k9 v9 M)
def fs_C_readBlock (N : Nat) (rr : Nat) (rb : Int32 → Mem → Option (Bool × Mem)) (a2 : Int32) (M : Mem) : Option (Bool × Mem) :=
  if (2 : Int32) < a2 then (some (false, M)) else (lp_C_readBlock_9 N rr rb a2 N (0 : Int32) M (fun (a7 : Int32) (M6 : Mem) => some (true, M6)))
set_option maxHeartbeats 4000000 in
set_option maxRecDepth 100000 in
theorem cs_C_readBlock (l : Launch) (N : Nat) {w : Wc} {rr : Nat} (hw : WK w rr) (k0 : Nat) (hk0 : 8 ≤ k0) (rb : Int32 → Mem → Option (Bool × Mem)) (hrb : ∀ (a2 : Int32) (M : Mem), Ct QZ l y_C_readBlock b_C_readBlock 4 (some .boolean) (rmL k0) w [.ref (wad w 5), .ref (wad w 1), .int a2] M (rb a2 M)) (a2 : Int32) (M : Mem) : Ct QZ l y_C_readBlock b_C_readBlock 4 (some .boolean) (rmL (k0 + 3)) w [.ref (wad w 5), .ref (wad w 1), .int a2] M (fs_C_readBlock N rr rb a2 M) := by
  refine Ct.go (by decide) (L := [(0, .ref (wad w 5)), (1, .ref (wad w 1)), (2, .int a2)]) rfl (Nat.le_of_ble_eq_true rfl) (fun p0 e s m args below meth c g hret => ?_)
  unfold fs_C_readBlock
  refine G_iload_n g (pc := 0) 2 d_C_readBlock_0 rfl rfl ?_
  refine G_iconst g (pc := 1) (2 : Int32) d_C_readBlock_1 rfl ?_
  refine G_icmp_le g (pc := 2) 7 d_C_readBlock_2 (by decide) ?_ ?_
  · refine G_iconst g (pc := 5) (0 : Int32) d_C_readBlock_5 rfl ?_
    exact G_zreturn g (pc := 6) false rfl hret (Nat.le_of_ble_eq_true rfl) (Nat.le_of_ble_eq_true rfl) d_C_readBlock_6
  · refine G_iconst g (pc := 7) (0 : Int32) d_C_readBlock_7 rfl ?_
    refine G_istore_n g (pc := 8) _ d_C_readBlock_8 rfl (Nat.le_of_ble_eq_true rfl) rfl ?_
    refine G_sub [1, 2, 3, 0] _ rfl ?_
    refine G_loop (F := lp_C_readBlock_9 N rr rb a2) 9 48 (fun (v9 : Int32) => [(0, .ref (wad w 5)), (1, .ref (wad w 1)), (2, .int a2), (3, .int v9)]) (fun (v9 : Int32) => [(0, .ref (wad w 5)), (1, .ref (wad w 1)), (2, .int a2), (3, .int v9)]) (fun _ _ _ => rfl) (fun a7 M6 => ?_) (fun k9 hk9 Nl9 ih9 v9 M => ?_) N (0 : Int32) M
    · refine G_iconst g (pc := 48) (1 : Int32) d_C_readBlock_48 rfl ?_
      exact G_zreturn g (pc := 49) true rfl hret (Nat.le_of_ble_eq_true rfl) (Nat.le_of_ble_eq_true rfl) d_C_readBlock_49
    · show Go p0 l e _ s m args below meth c w _ _ _ _ (lp_C_readBlock_9 N rr rb a2 (Nl9 + 1) v9 M k9) 9 _ _ M
      unfold lp_C_readBlock_9
      refine G_iload_n g (pc := 9) 3 d_C_readBlock_9 rfl rfl ?_
      refine G_bipush g (pc := 10) (20 : Int32) d_C_readBlock_10 rfl ?_
      refine G_icmp_gt g (pc := 12) 48 d_C_readBlock_12 (by decide) ?_ ?_
      · refine G_aload_n g (pc := 15) 1 d_C_readBlock_15 rfl rfl ?_
        refine G_getN g (pc := 16) fa_C_45 (hw.m 1 (Nat.le_of_ble_eq_true rfl)) (hw.k (zk1 rr)) d_C_readBlock_16 ?_
        refine G_iconst g (pc := 19) (1 : Int32) d_C_readBlock_19 rfl ?_
        refine G_icmp_ne g (pc := 20) 48 d_C_readBlock_20 (by decide) ?_ ?_
        · refine G_aload_n g (pc := 23) 0 d_C_readBlock_23 rfl rfl ?_
          refine G_aload_n g (pc := 24) 1 d_C_readBlock_24 rfl rfl ?_
          refine G_iload_n g (pc := 25) 2 d_C_readBlock_25 rfl rfl ?_
          refine G_cVZ g (pc := 26) (As := [.ref (wad w 1), .int a2]) (st := []) cc_C_48 (c_C_readCommand l N hw k0 hk0 rb hrb a2 M) (hw.m 5 (Nat.le_of_ble_eq_true rfl)) (hw.k (zk5 rr)) rfl (by decide) rfl (room_le (by omega) (by decide)) ⟨(Nat.le_of_ble_eq_true rfl), (Nat.le_of_ble_eq_true rfl)⟩ (Nat.le_of_ble_eq_true rfl) d_C_readBlock_26 (fun x1 M2 => ?_)
          refine G_if_eqB g (pc := 29) 40 d_C_readBlock_29 (by decide) ?_ ?_
          · refine G_aload_n g (pc := 32) 1 d_C_readBlock_32 rfl rfl ?_
            refine G_iconst g (pc := 33) (3 : Int32) d_C_readBlock_33 rfl ?_
            refine G_cVZ g (pc := 34) (As := [.int (3 : Int32)]) (st := []) cc_C_41 (c_X_takeSign l N hw (3 : Int32) M2) (hw.m 1 (Nat.le_of_ble_eq_true rfl)) (hw.k (zk1 rr)) rfl (by decide) rfl (room_le (by omega) (by decide)) ⟨(Nat.le_of_ble_eq_true rfl), (Nat.le_of_ble_eq_true rfl)⟩ (Nat.le_of_ble_eq_true rfl) d_C_readBlock_34 (fun x3 M4 => ?_)
            refine G_if_neB g (pc := 37) 42 d_C_readBlock_37 (by decide) ?_ ?_
            · refine G_nmX (v9 + (1 : Int32)) (fun x5 e_x5 => ?_)
              refine G_iinc g (pc := 42) x5 _ 3 d_C_readBlock_42 rfl e_x5.symm (Nat.le_of_ble_eq_true rfl) rfl ?_
              refine G_goto g (pc := 45) 9 d_C_readBlock_45 (by decide) ?_
              refine G_sub [1, 2, 3, 0] _ rfl ?_
              exact ih9 x5 M4
            · refine G_iconst g (pc := 40) (0 : Int32) d_C_readBlock_40 rfl ?_
              exact G_zreturn g (pc := 41) false rfl hret (Nat.le_of_ble_eq_true rfl) (Nat.le_of_ble_eq_true rfl) d_C_readBlock_41
          · refine G_iconst g (pc := 40) (0 : Int32) d_C_readBlock_40 rfl ?_
            exact G_zreturn g (pc := 41) false rfl hret (Nat.le_of_ble_eq_true rfl) (Nat.le_of_ble_eq_true rfl) d_C_readBlock_41
        · refine G_sub [0, 1, 2, 3] _ rfl ?_
          exact hk9 v9 M
      · refine G_sub [0, 1, 2, 3] _ rfl ?_
        exact hk9 v9 M
def f_C_readBlock (N : Nat) (rr : Nat) : Nat → Int32 → Mem → Option (Bool × Mem)
  | 0, _, _ => none
  | D + 1, a2, M => fs_C_readBlock N rr (f_C_readBlock N rr D) a2 M
theorem c_C_readBlock (l : Launch) (N : Nat) {w : Wc} {rr : Nat} (hw : WK w rr) : ∀ (D : Nat) (a2 : Int32) (M : Mem), Ct QZ l y_C_readBlock b_C_readBlock 4 (some .boolean) (rmL (8 + 3 * D)) w [.ref (wad w 5), .ref (wad w 1), .int a2] M (f_C_readBlock N rr D a2 M)
  | 0, _, _ => fun _ hr => nomatch hr
  | D + 1, a2, M => cs_C_readBlock l N hw (8 + 3 * D) (by omega) (f_C_readBlock N rr D) (c_C_readBlock l N hw D) a2 M

theorem d_C_read_0 : decode b_C_read 0 = .ok (.aload_n 0, 1) := by decide +kernel
theorem d_C_read_1 : decode b_C_read 1 = .ok (.iconst 0, 1) := by decide +kernel
theorem d_C_read_2 : decode b_C_read 2 = .ok (.putfield 24, 3) := by decide +kernel
theorem d_C_read_5 : decode b_C_read 5 = .ok (.aload_n 0, 1) := by decide +kernel
theorem d_C_read_6 : decode b_C_read 6 = .ok (.iconst 0, 1) := by decide +kernel
theorem d_C_read_7 : decode b_C_read 7 = .ok (.putfield 28, 3) := by decide +kernel
theorem d_C_read_10 : decode b_C_read 10 = .ok (.aload_n 1, 1) := by decide +kernel
theorem d_C_read_11 : decode b_C_read 11 = .ok (.iload_n 2, 1) := by decide +kernel
theorem d_C_read_12 : decode b_C_read 12 = .ok (.invokevirtual 31, 3) := by decide +kernel
theorem d_C_read_15 : decode b_C_read 15 = .ok (.aload_n 0, 1) := by decide +kernel
theorem d_C_read_16 : decode b_C_read 16 = .ok (.aload_n 1, 1) := by decide +kernel
theorem d_C_read_17 : decode b_C_read 17 = .ok (.iconst 0, 1) := by decide +kernel
theorem d_C_read_18 : decode b_C_read 18 = .ok (.invokevirtual 37, 3) := by decide +kernel
theorem d_C_read_21 : decode b_C_read 21 = .ok (.ifCond .eq 15, 3) := by decide +kernel
theorem d_C_read_24 : decode b_C_read 24 = .ok (.aload_n 1, 1) := by decide +kernel
theorem d_C_read_25 : decode b_C_read 25 = .ok (.iconst 0, 1) := by decide +kernel
theorem d_C_read_26 : decode b_C_read 26 = .ok (.invokevirtual 41, 3) := by decide +kernel
theorem d_C_read_29 : decode b_C_read 29 = .ok (.ifCond .eq 7, 3) := by decide +kernel
theorem d_C_read_32 : decode b_C_read 32 = .ok (.iconst 1, 1) := by decide +kernel
theorem d_C_read_33 : decode b_C_read 33 = .ok (.goto 4, 3) := by decide +kernel
theorem d_C_read_36 : decode b_C_read 36 = .ok (.iconst 0, 1) := by decide +kernel
theorem d_C_read_37 : decode b_C_read 37 = .ok (.ireturn, 1) := by decide +kernel
theorem cc_C_31 : CV "KiteLogger$Script" 31 y_X_begin b_X_begin 2 none 1 := ⟨TT_in (i := 1258) (by decide +kernel) (by decide +kernel), TT_in (i := 858) (by decide +kernel) (by decide +kernel), TT_in (i := 859) (by decide +kernel) (by decide +kernel), TT_in (i := 89) (by decide +kernel) (by decide +kernel), TT_in (i := 860) (by decide +kernel) (by decide +kernel), ⟨by decide +kernel, by decide +kernel, by decide +kernel⟩⟩
def f_C_read (N : Nat) (rr : Nat) (a2 : Int32) (M : Mem) : Option (Bool × Mem) :=
  nm (put M 5 4 (0 : Int32)) fun (M1 : Mem) => nm (put M1 5 5 (0 : Int32)) fun (M2 : Mem) => bndM (f_X_begin N rr a2 M2) fun (M4 : Mem) => bnd (f_C_readBlock N rr 4 (0 : Int32) M4) fun (x5 : Bool) (M6 : Mem) => if x5 = true then (bnd (f_X_takeSign N rr (0 : Int32) M6) fun (x7 : Bool) (M8 : Mem) => if x7 = true then (some (true, M8)) else (some (false, M8))) else (some (false, M6))
set_option maxHeartbeats 4000000 in
set_option maxRecDepth 100000 in
theorem c_C_read (l : Launch) (N : Nat) {w : Wc} {rr : Nat} (hw : WK w rr) (a2 : Int32) (M : Mem) : Ct QZ l y_C_read b_C_read 3 (some .boolean) (rmL 21) w [.ref (wad w 5), .ref (wad w 1), .int a2] M (f_C_read N rr a2 M) := by
  refine Ct.go (by decide) (L := [(0, .ref (wad w 5)), (1, .ref (wad w 1)), (2, .int a2)]) rfl (Nat.le_of_ble_eq_true rfl) (fun p0 e s m args below meth c g hret => ?_)
  unfold f_C_read
  refine G_aload_n g (pc := 0) 0 d_C_read_0 rfl rfl ?_
  refine G_iconst g (pc := 1) (0 : Int32) d_C_read_1 rfl ?_
  refine G_put g (pc := 2) fa_C_24 fw_4_4 rfl rfl (hw.m 5 (Nat.le_of_ble_eq_true rfl)) (hw.k (zk5 rr)) d_C_read_2 ?_
  refine G_nmM (fun M1 => ?_)
  refine G_aload_n g (pc := 5) 0 d_C_read_5 rfl rfl ?_
  refine G_iconst g (pc := 6) (0 : Int32) d_C_read_6 rfl ?_
  refine G_put g (pc := 7) fa_C_28 fw_4_5 rfl rfl (hw.m 5 (Nat.le_of_ble_eq_true rfl)) (hw.k (zk5 rr)) d_C_read_7 ?_
  refine G_nmM (fun M2 => ?_)
  refine G_aload_n g (pc := 10) 1 d_C_read_10 rfl rfl ?_
  refine G_iload_n g (pc := 11) 2 d_C_read_11 rfl rfl ?_
  refine G_cVV g (pc := 12) (As := [.int a2]) (st := []) cc_C_31 (c_X_begin l N hw a2 M2) (hw.m 1 (Nat.le_of_ble_eq_true rfl)) (hw.k (zk1 rr)) rfl (by decide) rfl ⟨(Nat.le_of_ble_eq_true rfl), (Nat.le_of_ble_eq_true rfl)⟩ ⟨(Nat.le_of_ble_eq_true rfl), (Nat.le_of_ble_eq_true rfl)⟩ (Nat.le_of_ble_eq_true rfl) d_C_read_12 (fun M4 => ?_)
  refine G_aload_n g (pc := 15) 0 d_C_read_15 rfl rfl ?_
  refine G_aload_n g (pc := 16) 1 d_C_read_16 rfl rfl ?_
  refine G_iconst g (pc := 17) (0 : Int32) d_C_read_17 rfl ?_
  refine G_cVZ g (pc := 18) (As := [.ref (wad w 1), .int (0 : Int32)]) (st := []) cc_C_37 (c_C_readBlock l N hw 4 (0 : Int32) M4) (hw.m 5 (Nat.le_of_ble_eq_true rfl)) (hw.k (zk5 rr)) rfl (by decide) rfl ⟨(Nat.le_of_ble_eq_true rfl), (Nat.le_of_ble_eq_true rfl)⟩ ⟨(Nat.le_of_ble_eq_true rfl), (Nat.le_of_ble_eq_true rfl)⟩ (Nat.le_of_ble_eq_true rfl) d_C_read_18 (fun x5 M6 => ?_)
  refine G_if_eqB g (pc := 21) 36 d_C_read_21 (by decide) ?_ ?_
  · refine G_aload_n g (pc := 24) 1 d_C_read_24 rfl rfl ?_
    refine G_iconst g (pc := 25) (0 : Int32) d_C_read_25 rfl ?_
    refine G_cVZ g (pc := 26) (As := [.int (0 : Int32)]) (st := []) cc_C_41 (c_X_takeSign l N hw (0 : Int32) M6) (hw.m 1 (Nat.le_of_ble_eq_true rfl)) (hw.k (zk1 rr)) rfl (by decide) rfl ⟨(Nat.le_of_ble_eq_true rfl), (Nat.le_of_ble_eq_true rfl)⟩ ⟨(Nat.le_of_ble_eq_true rfl), (Nat.le_of_ble_eq_true rfl)⟩ (Nat.le_of_ble_eq_true rfl) d_C_read_26 (fun x7 M8 => ?_)
    refine G_if_eqB g (pc := 29) 36 d_C_read_29 (by decide) ?_ ?_
    · refine G_iconst g (pc := 32) (1 : Int32) d_C_read_32 rfl ?_
      refine G_goto g (pc := 33) 37 d_C_read_33 (by decide) ?_
      exact G_zreturn g (pc := 37) true rfl hret (Nat.le_of_ble_eq_true rfl) (Nat.le_of_ble_eq_true rfl) d_C_read_37
    · refine G_iconst g (pc := 36) (0 : Int32) d_C_read_36 rfl ?_
      exact G_zreturn g (pc := 37) false rfl hret (Nat.le_of_ble_eq_true rfl) (Nat.le_of_ble_eq_true rfl) d_C_read_37
  · refine G_iconst g (pc := 36) (0 : Int32) d_C_read_36 rfl ?_
    exact G_zreturn g (pc := 37) false rfl hret (Nat.le_of_ble_eq_true rfl) (Nat.le_of_ble_eq_true rfl) d_C_read_37

theorem d_C_runBlock_0 : decode b_C_runBlock 0 = .ok (.iload 4, 2) := by decide +kernel
theorem d_C_runBlock_2 : decode b_C_runBlock 2 = .ok (.iconst 2, 1) := by decide +kernel
theorem d_C_runBlock_3 : decode b_C_runBlock 3 = .ok (.if_icmp .le 5, 3) := by decide +kernel
theorem d_C_runBlock_6 : decode b_C_runBlock 6 = .ok (.iconst 0, 1) := by decide +kernel
theorem d_C_runBlock_7 : decode b_C_runBlock 7 = .ok (.ireturn, 1) := by decide +kernel
theorem d_C_runBlock_8 : decode b_C_runBlock 8 = .ok (.iload_n 2, 1) := by decide +kernel
theorem d_C_runBlock_9 : decode b_C_runBlock 9 = .ok (.istore 5, 2) := by decide +kernel
theorem d_C_runBlock_11 : decode b_C_runBlock 11 = .ok (.iconst 0, 1) := by decide +kernel
theorem d_C_runBlock_12 : decode b_C_runBlock 12 = .ok (.istore 6, 2) := by decide +kernel
theorem d_C_runBlock_14 : decode b_C_runBlock 14 = .ok (.iload 6, 2) := by decide +kernel
theorem d_C_runBlock_16 : decode b_C_runBlock 16 = .ok (.bipush 20, 2) := by decide +kernel
theorem d_C_runBlock_18 : decode b_C_runBlock 18 = .ok (.if_icmp .ge 145, 3) := by decide +kernel
theorem d_C_runBlock_21 : decode b_C_runBlock 21 = .ok (.iload 5, 2) := by decide +kernel
theorem d_C_runBlock_23 : decode b_C_runBlock 23 = .ok (.iload_n 3, 1) := by decide +kernel
theorem d_C_runBlock_24 : decode b_C_runBlock 24 = .ok (.if_icmp .ge 139, 3) := by decide +kernel
theorem d_C_runBlock_27 : decode b_C_runBlock 27 = .ok (.aload_n 0, 1) := by decide +kernel
theorem d_C_runBlock_28 : decode b_C_runBlock 28 = .ok (.getfield 9, 3) := by decide +kernel
theorem d_C_runBlock_31 : decode b_C_runBlock 31 = .ok (.iload 5, 2) := by decide +kernel
theorem d_C_runBlock_33 : decode b_C_runBlock 33 = .ok (.invokestatic 107, 3) := by decide +kernel
theorem d_C_runBlock_36 : decode b_C_runBlock 36 = .ok (.istore 7, 2) := by decide +kernel
theorem d_C_runBlock_38 : decode b_C_runBlock 38 = .ok (.aload_n 0, 1) := by decide +kernel
theorem d_C_runBlock_39 : decode b_C_runBlock 39 = .ok (.getfield 15, 3) := by decide +kernel
theorem d_C_runBlock_42 : decode b_C_runBlock 42 = .ok (.iload 5, 2) := by decide +kernel
theorem d_C_runBlock_44 : decode b_C_runBlock 44 = .ok (.invokestatic 107, 3) := by decide +kernel
theorem d_C_runBlock_47 : decode b_C_runBlock 47 = .ok (.istore 8, 2) := by decide +kernel
theorem d_C_runBlock_49 : decode b_C_runBlock 49 = .ok (.aload_n 0, 1) := by decide +kernel
theorem d_C_runBlock_50 : decode b_C_runBlock 50 = .ok (.getfield 18, 3) := by decide +kernel
theorem d_C_runBlock_53 : decode b_C_runBlock 53 = .ok (.iload 5, 2) := by decide +kernel
theorem d_C_runBlock_55 : decode b_C_runBlock 55 = .ok (.invokestatic 107, 3) := by decide +kernel
theorem d_C_runBlock_58 : decode b_C_runBlock 58 = .ok (.istore 9, 2) := by decide +kernel
theorem d_C_runBlock_60 : decode b_C_runBlock 60 = .ok (.aload_n 0, 1) := by decide +kernel
theorem d_C_runBlock_61 : decode b_C_runBlock 61 = .ok (.getfield 21, 3) := by decide +kernel
theorem d_C_runBlock_64 : decode b_C_runBlock 64 = .ok (.iload 5, 2) := by decide +kernel
theorem d_C_runBlock_66 : decode b_C_runBlock 66 = .ok (.invokestatic 107, 3) := by decide +kernel
theorem d_C_runBlock_69 : decode b_C_runBlock 69 = .ok (.istore 10, 2) := by decide +kernel
theorem d_C_runBlock_71 : decode b_C_runBlock 71 = .ok (.iload 7, 2) := by decide +kernel
theorem d_C_runBlock_73 : decode b_C_runBlock 73 = .ok (.bipush 9, 2) := by decide +kernel
theorem d_C_runBlock_75 : decode b_C_runBlock 75 = .ok (.if_icmp .ne 42, 3) := by decide +kernel
theorem d_C_runBlock_78 : decode b_C_runBlock 78 = .ok (.iconst 0, 1) := by decide +kernel
theorem d_C_runBlock_79 : decode b_C_runBlock 79 = .ok (.istore 11, 2) := by decide +kernel
theorem d_C_runBlock_81 : decode b_C_runBlock 81 = .ok (.iload 11, 2) := by decide +kernel
theorem d_C_runBlock_83 : decode b_C_runBlock 83 = .ok (.iload 8, 2) := by decide +kernel
theorem d_C_runBlock_85 : decode b_C_runBlock 85 = .ok (.if_icmp .ge 29, 3) := by decide +kernel
theorem d_C_runBlock_88 : decode b_C_runBlock 88 = .ok (.aload_n 0, 1) := by decide +kernel
theorem d_C_runBlock_89 : decode b_C_runBlock 89 = .ok (.aload_n 1, 1) := by decide +kernel
theorem d_C_runBlock_90 : decode b_C_runBlock 90 = .ok (.iload 5, 2) := by decide +kernel
theorem d_C_runBlock_92 : decode b_C_runBlock 92 = .ok (.iconst 1, 1) := by decide +kernel
theorem d_C_runBlock_93 : decode b_C_runBlock 93 = .ok (.iadd, 1) := by decide +kernel
theorem d_C_runBlock_94 : decode b_C_runBlock 94 = .ok (.iload 10, 2) := by decide +kernel
theorem d_C_runBlock_96 : decode b_C_runBlock 96 = .ok (.iload 4, 2) := by decide +kernel
theorem d_C_runBlock_98 : decode b_C_runBlock 98 = .ok (.iconst 1, 1) := by decide +kernel
theorem d_C_runBlock_99 : decode b_C_runBlock 99 = .ok (.iadd, 1) := by decide +kernel
theorem d_C_runBlock_100 : decode b_C_runBlock 100 = .ok (.invokestatic 111, 3) := by decide +kernel
theorem d_C_runBlock_103 : decode b_C_runBlock 103 = .ok (.ifCond .ne 5, 3) := by decide +kernel
theorem d_C_runBlock_106 : decode b_C_runBlock 106 = .ok (.iconst 0, 1) := by decide +kernel
theorem d_C_runBlock_107 : decode b_C_runBlock 107 = .ok (.ireturn, 1) := by decide +kernel
theorem d_C_runBlock_108 : decode b_C_runBlock 108 = .ok (.iinc 11 1, 3) := by decide +kernel
theorem d_C_runBlock_111 : decode b_C_runBlock 111 = .ok (.goto (-30), 3) := by decide +kernel
theorem d_C_runBlock_114 : decode b_C_runBlock 114 = .ok (.goto 39, 3) := by decide +kernel
theorem d_C_runBlock_117 : decode b_C_runBlock 117 = .ok (.aload_n 1, 1) := by decide +kernel
theorem d_C_runBlock_118 : decode b_C_runBlock 118 = .ok (.iload 7, 2) := by decide +kernel
theorem d_C_runBlock_120 : decode b_C_runBlock 120 = .ok (.iload 8, 2) := by decide +kernel
theorem d_C_runBlock_122 : decode b_C_runBlock 122 = .ok (.iload 9, 2) := by decide +kernel
theorem d_C_runBlock_124 : decode b_C_runBlock 124 = .ok (.invokevirtual 115, 3) := by decide +kernel
theorem d_C_runBlock_127 : decode b_C_runBlock 127 = .ok (.ifCond .eq 5, 3) := by decide +kernel
theorem d_C_runBlock_130 : decode b_C_runBlock 130 = .ok (.iconst 0, 1) := by decide +kernel
theorem d_C_runBlock_131 : decode b_C_runBlock 131 = .ok (.ireturn, 1) := by decide +kernel
theorem d_C_runBlock_132 : decode b_C_runBlock 132 = .ok (.aload_n 1, 1) := by decide +kernel
theorem d_C_runBlock_133 : decode b_C_runBlock 133 = .ok (.iload 7, 2) := by decide +kernel
theorem d_C_runBlock_135 : decode b_C_runBlock 135 = .ok (.iload 8, 2) := by decide +kernel
theorem d_C_runBlock_137 : decode b_C_runBlock 137 = .ok (.iload 9, 2) := by decide +kernel
theorem d_C_runBlock_139 : decode b_C_runBlock 139 = .ok (.invokevirtual 121, 3) := by decide +kernel
theorem d_C_runBlock_142 : decode b_C_runBlock 142 = .ok (.pop, 1) := by decide +kernel
theorem d_C_runBlock_143 : decode b_C_runBlock 143 = .ok (.aload_n 0, 1) := by decide +kernel
theorem d_C_runBlock_144 : decode b_C_runBlock 144 = .ok (.dup, 1) := by decide +kernel
theorem d_C_runBlock_145 : decode b_C_runBlock 145 = .ok (.getfield 28, 3) := by decide +kernel
theorem d_C_runBlock_148 : decode b_C_runBlock 148 = .ok (.iconst 1, 1) := by decide +kernel
theorem d_C_runBlock_149 : decode b_C_runBlock 149 = .ok (.iadd, 1) := by decide +kernel
theorem d_C_runBlock_150 : decode b_C_runBlock 150 = .ok (.putfield 28, 3) := by decide +kernel
theorem d_C_runBlock_153 : decode b_C_runBlock 153 = .ok (.iload 10, 2) := by decide +kernel
theorem d_C_runBlock_155 : decode b_C_runBlock 155 = .ok (.istore 5, 2) := by decide +kernel
theorem d_C_runBlock_157 : decode b_C_runBlock 157 = .ok (.iinc 6 1, 3) := by decide +kernel
theorem d_C_runBlock_160 : decode b_C_runBlock 160 = .ok (.goto (-146), 3) := by decide +kernel
theorem d_C_runBlock_163 : decode b_C_runBlock 163 = .ok (.iconst 1, 1) := by decide +kernel
theorem d_C_runBlock_164 : decode b_C_runBlock 164 = .ok (.ireturn, 1) := by decide +kernel
theorem cc_C_107 : CSN "KiteLogger$Script" 107 "KiteLogger" y_G_valueAt b_G_valueAt 2 (some .int) 2 := ⟨NW_in (i := 1300) (by decide +kernel) (by decide +kernel), TT_in (i := 521) (by decide +kernel) (by decide +kernel), TT_in (i := 88) (by decide +kernel) (by decide +kernel), TT_in (i := 522) (by decide +kernel) (by decide +kernel), ⟨by decide +kernel, by decide +kernel, by decide +kernel⟩⟩
theorem cc_C_111 : CS "KiteLogger$Script" 111 y_C_runBlock b_C_runBlock 12 (some .boolean) 5 := ⟨TT_in (i := 1301) (by decide +kernel) (by decide +kernel), TT_in (i := 1298) (by decide +kernel) (by decide +kernel), TT_in (i := 93) (by decide +kernel) (by decide +kernel), TT_in (i := 1299) (by decide +kernel) (by decide +kernel), ⟨by decide +kernel, by decide +kernel, by decide +kernel⟩⟩
theorem cc_C_115 : CV "KiteLogger$Script" 115 y_T_faultOf b_T_faultOf 4 (some .int) 3 := ⟨TT_in (i := 1302) (by decide +kernel) (by decide +kernel), TT_in (i := 1102) (by decide +kernel) (by decide +kernel), TT_in (i := 1103) (by decide +kernel) (by decide +kernel), TT_in (i := 94) (by decide +kernel) (by decide +kernel), TT_in (i := 1104) (by decide +kernel) (by decide +kernel), ⟨by decide +kernel, by decide +kernel, by decide +kernel⟩⟩
theorem cc_C_121 : CV "KiteLogger$Script" 121 y_T_perform b_T_perform 4 (some .int) 3 := ⟨TT_in (i := 1303) (by decide +kernel) (by decide +kernel), TT_in (i := 1141) (by decide +kernel) (by decide +kernel), TT_in (i := 1142) (by decide +kernel) (by decide +kernel), TT_in (i := 94) (by decide +kernel) (by decide +kernel), TT_in (i := 1143) (by decide +kernel) (by decide +kernel), ⟨by decide +kernel, by decide +kernel, by decide +kernel⟩⟩
def lp_C_runBlock_81 (N0 rr : Nat) (rb : Nat → Int32 → Int32 → Int32 → Mem → Option (Bool × Mem)) (a2 : Nat) (a3 : Int32) (a4 : Int32) (a5 : Int32) (c5 : Int32) (c6 : Int32) (c7 : Int32) (c8 : Int32) (c9 : Int32) (c10 : Int32) : Nat → Int32 → Mem → (Int32 → Mem → Option (Bool × Mem)) → Option (Bool × Mem)
  | 0, _, _, _ => none
  | N + 1, v81, M, k81 => if v81 < c8 then (bnd (rb a2 (c5 + (1 : Int32)) c10 (a5 + (1 : Int32)) M) fun (x9 : Bool) (M10 : Mem) => if x9 = true then (nm (v81 + (1 : Int32)) fun (x11 : Int32) => lp_C_runBlock_81 N0 rr rb a2 a3 a4 a5 c5 c6 c7 c8 c9 c10 N x11 M10 k81) else (some (false, M10))) else (k81 v81 M)
def lp_C_runBlock_14 (N0 rr : Nat) (rb : Nat → Int32 → Int32 → Int32 → Mem → Option (Bool × Mem)) (a2 : Nat) (a3 : Int32) (a4 : Int32) (a5 : Int32)  : Nat → Int32 × Int32 → Mem → (Int32 × Int32 → Mem → Option (Bool × Mem)) → Option (Bool × Mem)
  | 0, _, _, _ => none
  | N + 1, v14, M, k14 => if v14.2 < (20 : Int32) then (if v14.1 < a4 then (bnd (f_G_valueAt 6 v14.1 M) fun (x1 : Int32) (M2 : Mem) => bnd (f_G_valueAt 7 v14.1 M2) fun (x3 : Int32) (M4 : Mem) => bnd (f_G_valueAt 8 v14.1 M4) fun (x5 : Int32) (M6 : Mem) => bnd (f_G_valueAt 9 v14.1 M6) fun (x7 : Int32) (M8 : Mem) => if x1 = (9 : Int32) then (lp_C_runBlock_81 N0 rr rb a2 a3 a4 a5 v14.1 v14.2 x1 x3 x5 x7 N0 (0 : Int32) M8 (fun (a13 : Int32) (M12 : Mem) => nm (v14.2 + (1 : Int32)) fun (x14 : Int32) => lp_C_runBlock_14 N0 rr rb a2 a3 a4 a5 N (x7, x14) M12 k14)) else (bnd (f_T_faultOf a2 x1 x3 x5 M8) fun (x15 : Int32) (M16 : Mem) => if x15 = 0 then (bnd (f_T_perform N0 rr a2 x1 x3 x5 M16) fun (x17 : Int32) (M18 : Mem) => nm (put M18 5 5 ((M18 5 5) + (1 : Int32))) fun (M19 : Mem) => nm (v14.2 + (1 : Int32)) fun (x20 : Int32) => lp_C_runBlock_14 N0 rr rb a2 a3 a4 a5 N (x7, x20) M19 k14) else (some (false, M16)))) else (k14 (v14.1, v14.2) M)) else (k14 (v14.1, v14.2) M)
def fs_C_runBlock (N : Nat) (rr : Nat) (rb : Nat → Int32 → Int32 → Int32 → Mem → Option (Bool × Mem)) (a2 : Nat) (a3 : Int32) (a4 : Int32) (a5 : Int32) (M : Mem) : Option (Bool × Mem) :=
  if (2 : Int32) < a5 then (some (false, M)) else (lp_C_runBlock_14 N rr rb a2 a3 a4 a5 N (a3, (0 : Int32)) M (fun (a22 : Int32 × Int32) (M21 : Mem) => some (true, M21)))
set_option maxHeartbeats 4000000 in
set_option maxRecDepth 100000 in
theorem cs_C_runBlock (l : Launch) (N : Nat) {w : Wc} {rr : Nat} (hw : WK w rr) (k0 : Nat) (hk0 : 12 ≤ k0) (rb : Nat → Int32 → Int32 → Int32 → Mem → Option (Bool × Mem)) (hrb : ∀ (a2 : Nat) (ha2 : a2 ∈ stL) (a3 : Int32) (a4 : Int32) (a5 : Int32) (M : Mem), Ct QZ l y_C_runBlock b_C_runBlock 12 (some .boolean) (rmL k0) w [.ref (wad w 5), .ref (wad w a2), .int a3, .int a4, .int a5] M (rb a2 a3 a4 a5 M)) (a2 : Nat) (ha2 : a2 ∈ stL) (a3 : Int32) (a4 : Int32) (a5 : Int32) (M : Mem) : Ct QZ l y_C_runBlock b_C_runBlock 12 (some .boolean) (rmL (k0 + 1)) w [.ref (wad w 5), .ref (wad w a2), .int a3, .int a4, .int a5] M (fs_C_runBlock N rr rb a2 a3 a4 a5 M) := by
  refine Ct.go (by decide) (L := [(0, .ref (wad w 5)), (1, .ref (wad w a2)), (2, .int a3), (3, .int a4), (4, .int a5)]) rfl (Nat.le_of_ble_eq_true rfl) (fun p0 e s m args below meth c g hret => ?_)
  unfold fs_C_runBlock
  refine G_iload g (pc := 0) 4 d_C_runBlock_0 rfl ?_
  refine G_iconst g (pc := 2) (2 : Int32) d_C_runBlock_2 rfl ?_
  refine G_icmp_le g (pc := 3) 8 d_C_runBlock_3 (by decide) ?_ ?_
  · refine G_iconst g (pc := 6) (0 : Int32) d_C_runBlock_6 rfl ?_
    exact G_zreturn g (pc := 7) false rfl hret (Nat.le_of_ble_eq_true rfl) (Nat.le_of_ble_eq_true rfl) d_C_runBlock_7
  · refine G_iload_n g (pc := 8) 2 d_C_runBlock_8 rfl rfl ?_
    refine G_istore g (pc := 9) _ d_C_runBlock_9 (Nat.le_of_ble_eq_true rfl) rfl ?_
    refine G_iconst g (pc := 11) (0 : Int32) d_C_runBlock_11 rfl ?_
    refine G_istore g (pc := 12) _ d_C_runBlock_12 (Nat.le_of_ble_eq_true rfl) rfl ?_
    refine G_sub [2, 3, 4, 5, 6, 1, 0] _ rfl ?_
    refine G_loop (F := lp_C_runBlock_14 N rr rb a2 a3 a4 a5) 14 163 (fun (v14 : Int32 × Int32) => [(0, .ref (wad w 5)), (1, .ref (wad w a2)), (2, .int a3), (3, .int a4), (4, .int a5), (5, .int v14.1), (6, .int v14.2)]) (fun (v14 : Int32 × Int32) => [(0, .ref (wad w 5)), (1, .ref (wad w a2)), (2, .int a3), (3, .int a4), (4, .int a5), (5, .int v14.1), (6, .int v14.2)]) (fun _ _ _ => rfl) (fun a22 M21 => ?_) (fun k14 hk14 Nl14 ih14 v14 M => ?_) N (a3, (0 : Int32)) M
    · refine G_iconst g (pc := 163) (1 : Int32) d_C_runBlock_163 rfl ?_
      exact G_zreturn g (pc := 164) true rfl hret (Nat.le_of_ble_eq_true rfl) (Nat.le_of_ble_eq_true rfl) d_C_runBlock_164
    · show Go p0 l e _ s m args below meth c w _ _ _ _ (lp_C_runBlock_14 N rr rb a2 a3 a4 a5 (Nl14 + 1) v14 M k14) 14 _ _ M
      unfold lp_C_runBlock_14
      refine G_iload g (pc := 14) 6 d_C_runBlock_14 rfl ?_
      refine G_bipush g (pc := 16) (20 : Int32) d_C_runBlock_16 rfl ?_
      refine G_icmp_ge g (pc := 18) 163 d_C_runBlock_18 (by decide) ?_ ?_
      · refine G_iload g (pc := 21) 5 d_C_runBlock_21 rfl ?_
        refine G_iload_n g (pc := 23) 3 d_C_runBlock_23 rfl rfl ?_
        refine G_icmp_ge g (pc := 24) 163 d_C_runBlock_24 (by decide) ?_ ?_
        · refine G_aload_n g (pc := 27) 0 d_C_runBlock_27 rfl rfl ?_
          refine G_getR g (pc := 28) fa_C_9 (hw.m 5 (Nat.le_of_ble_eq_true rfl)) (hw.k (zk5 rr)) (hw.r (zr5_0 rr)) d_C_runBlock_28 ?_
          refine G_iload g (pc := 31) 5 d_C_runBlock_31 rfl ?_
          refine G_cSNI g (pc := 33) (As := [.ref (wad w 6), .int v14.1]) (st := []) cc_C_107 (c_G_valueAt l hw 6 (hw.m 6 (Nat.le_of_ble_eq_true rfl)) (hw.k (zk6 rr)) v14.1 M) rfl (room_le (by omega) (by decide)) ⟨(Nat.le_of_ble_eq_true rfl), (Nat.le_of_ble_eq_true rfl)⟩ (Nat.le_of_ble_eq_true rfl) d_C_runBlock_33 (fun x1 M2 => ?_)
          refine G_istore g (pc := 36) _ d_C_runBlock_36 (Nat.le_of_ble_eq_true rfl) rfl ?_
          refine G_aload_n g (pc := 38) 1 d_C_runBlock_38 rfl rfl ?_
          refine G_getR g (pc := 39) fa_C_15 (hw.m 5 (Nat.le_of_ble_eq_true rfl)) (hw.k (zk5 rr)) (hw.r (zr5_1 rr)) d_C_runBlock_39 ?_
          refine G_iload g (pc := 42) 6 d_C_runBlock_42 rfl ?_
          refine G_cSNI g (pc := 44) (As := [.ref (wad w 7), .int v14.1]) (st := []) cc_C_107 (c_G_valueAt l hw 7 (hw.m 7 (Nat.le_of_ble_eq_true rfl)) (hw.k (zk7 rr)) v14.1 M2) rfl (room_le (by omega) (by decide)) ⟨(Nat.le_of_ble_eq_true rfl), (Nat.le_of_ble_eq_true rfl)⟩ (Nat.le_of_ble_eq_true rfl) d_C_runBlock_44 (fun x3 M4 => ?_)
          refine G_istore g (pc := 47) _ d_C_runBlock_47 (Nat.le_of_ble_eq_true rfl) rfl ?_
          refine G_aload_n g (pc := 49) 2 d_C_runBlock_49 rfl rfl ?_
          refine G_getR g (pc := 50) fa_C_18 (hw.m 5 (Nat.le_of_ble_eq_true rfl)) (hw.k (zk5 rr)) (hw.r (zr5_2 rr)) d_C_runBlock_50 ?_
          refine G_iload g (pc := 53) 7 d_C_runBlock_53 rfl ?_
          refine G_cSNI g (pc := 55) (As := [.ref (wad w 8), .int v14.1]) (st := []) cc_C_107 (c_G_valueAt l hw 8 (hw.m 8 (Nat.le_of_ble_eq_true rfl)) (hw.k (zk8 rr)) v14.1 M4) rfl (room_le (by omega) (by decide)) ⟨(Nat.le_of_ble_eq_true rfl), (Nat.le_of_ble_eq_true rfl)⟩ (Nat.le_of_ble_eq_true rfl) d_C_runBlock_55 (fun x5 M6 => ?_)
          refine G_istore g (pc := 58) _ d_C_runBlock_58 (Nat.le_of_ble_eq_true rfl) rfl ?_
          refine G_aload_n g (pc := 60) 3 d_C_runBlock_60 rfl rfl ?_
          refine G_getR g (pc := 61) fa_C_21 (hw.m 5 (Nat.le_of_ble_eq_true rfl)) (hw.k (zk5 rr)) (hw.r (zr5_3 rr)) d_C_runBlock_61 ?_
          refine G_iload g (pc := 64) 8 d_C_runBlock_64 rfl ?_
          refine G_cSNI g (pc := 66) (As := [.ref (wad w 9), .int v14.1]) (st := []) cc_C_107 (c_G_valueAt l hw 9 (hw.m 9 (Nat.le_of_ble_eq_true rfl)) (hw.k (zk9 rr)) v14.1 M6) rfl (room_le (by omega) (by decide)) ⟨(Nat.le_of_ble_eq_true rfl), (Nat.le_of_ble_eq_true rfl)⟩ (Nat.le_of_ble_eq_true rfl) d_C_runBlock_66 (fun x7 M8 => ?_)
          refine G_istore g (pc := 69) _ d_C_runBlock_69 (Nat.le_of_ble_eq_true rfl) rfl ?_
          refine G_iload g (pc := 71) 3 d_C_runBlock_71 rfl ?_
          refine G_bipush g (pc := 73) (9 : Int32) d_C_runBlock_73 rfl ?_
          refine G_icmp_ne g (pc := 75) 117 d_C_runBlock_75 (by decide) ?_ ?_
          · refine G_iconst g (pc := 78) (0 : Int32) d_C_runBlock_78 rfl ?_
            refine G_istore g (pc := 79) _ d_C_runBlock_79 (Nat.le_of_ble_eq_true rfl) rfl ?_
            refine G_sub [5, 6, 7, 8, 9, 10, 11, 4, 3, 2, 1, 0] _ rfl ?_
            refine G_loop (F := lp_C_runBlock_81 N rr rb a2 a3 a4 a5 v14.1 v14.2 x1 x3 x5 x7) 81 114 (fun (v81 : Int32) => [(0, .ref (wad w 5)), (1, .ref (wad w a2)), (2, .int a3), (3, .int a4), (4, .int a5), (5, .int v14.1), (6, .int v14.2), (7, .int x1), (8, .int x3), (9, .int x5), (10, .int x7), (11, .int v81)]) (fun (v81 : Int32) => [(0, .ref (wad w 5)), (1, .ref (wad w a2)), (2, .int a3), (3, .int a4), (4, .int a5), (5, .int v14.1), (6, .int v14.2), (7, .int x1), (8, .int x3), (9, .int x5), (10, .int x7), (11, .int v81)]) (fun _ _ _ => rfl) (fun a13 M12 => ?_) (fun k81 hk81 Nl81 ih81 v81 M => ?_) N (0 : Int32) M8
            · refine G_goto g (pc := 114) 153 d_C_runBlock_114 (by decide) ?_
              refine G_iload g (pc := 153) 10 d_C_runBlock_153 rfl ?_
              refine G_istore g (pc := 155) _ d_C_runBlock_155 (Nat.le_of_ble_eq_true rfl) rfl ?_
              refine G_nmX (v14.2 + (1 : Int32)) (fun x14 e_x14 => ?_)
              refine G_iinc g (pc := 157) x14 _ 6 d_C_runBlock_157 rfl e_x14.symm (Nat.le_of_ble_eq_true rfl) rfl ?_
              refine G_goto g (pc := 160) 14 d_C_runBlock_160 (by decide) ?_
              refine G_sub [2, 3, 4, 5, 6, 1, 0] _ rfl ?_
              exact ih14 (x7, x14) M12
            · show Go p0 l e _ s m args below meth c w _ _ _ _ (lp_C_runBlock_81 N rr rb a2 a3 a4 a5 v14.1 v14.2 x1 x3 x5 x7 (Nl81 + 1) v81 M k81) 81 _ _ M
              unfold lp_C_runBlock_81
              refine G_iload g (pc := 81) 11 d_C_runBlock_81 rfl ?_
              refine G_iload g (pc := 83) 8 d_C_runBlock_83 rfl ?_
              refine G_icmp_ge g (pc := 85) 114 d_C_runBlock_85 (by decide) ?_ ?_
              · refine G_aload_n g (pc := 88) 0 d_C_runBlock_88 rfl rfl ?_
                refine G_aload_n g (pc := 89) 1 d_C_runBlock_89 rfl rfl ?_
                refine G_iload g (pc := 90) 5 d_C_runBlock_90 rfl ?_
                refine G_iconst g (pc := 92) (1 : Int32) d_C_runBlock_92 rfl ?_
                refine G_iadd g (pc := 93) d_C_runBlock_93 ?_
                refine G_iload g (pc := 94) 10 d_C_runBlock_94 rfl ?_
                refine G_iload g (pc := 96) 4 d_C_runBlock_96 rfl ?_
                refine G_iconst g (pc := 98) (1 : Int32) d_C_runBlock_98 rfl ?_
                refine G_iadd g (pc := 99) d_C_runBlock_99 ?_
                refine G_cSZ g (pc := 100) (As := [.ref (wad w 5), .ref (wad w a2), .int (v14.1 + (1 : Int32)), .int x7, .int (a5 + (1 : Int32))]) (st := []) cc_C_111 (hrb a2 ha2 (v14.1 + (1 : Int32)) x7 (a5 + (1 : Int32)) M) rfl (room_le (by omega) (by decide)) ⟨(Nat.le_of_ble_eq_true rfl), (Nat.le_of_ble_eq_true rfl)⟩ (Nat.le_of_ble_eq_true rfl) d_C_runBlock_100 (fun x9 M10 => ?_)
                refine G_if_neB g (pc := 103) 108 d_C_runBlock_103 (by decide) ?_ ?_
                · refine G_nmX (v81 + (1 : Int32)) (fun x11 e_x11 => ?_)
                  refine G_iinc g (pc := 108) x11 _ 11 d_C_runBlock_108 rfl e_x11.symm (Nat.le_of_ble_eq_true rfl) rfl ?_
                  refine G_goto g (pc := 111) 81 d_C_runBlock_111 (by decide) ?_
                  refine G_sub [1, 2, 3, 4, 5, 6, 7, 8, 9, 10, 11, 0] _ rfl ?_
                  exact ih81 x11 M10
                · refine G_iconst g (pc := 106) (0 : Int32) d_C_runBlock_106 rfl ?_
                  exact G_zreturn g (pc := 107) false rfl hret (Nat.le_of_ble_eq_true rfl) (Nat.le_of_ble_eq_true rfl) d_C_runBlock_107
              · refine G_sub [0, 1, 2, 3, 4, 5, 6, 7, 8, 9, 10, 11] _ rfl ?_
                exact hk81 v81 M
          · refine G_aload_n g (pc := 117) 5 d_C_runBlock_117 rfl rfl ?_
            refine G_iload g (pc := 118) 3 d_C_runBlock_118 rfl ?_
            refine G_iload g (pc := 120) 2 d_C_runBlock_120 rfl ?_
            refine G_iload g (pc := 122) 1 d_C_runBlock_122 rfl ?_
            refine G_cVI g (pc := 124) (As := [.int x1, .int x3, .int x5]) (st := []) cc_C_115 (c_T_faultOf l hw a2 ha2 x1 x3 x5 M8) (hw.m _ (st_lt0 ha2)) (hw.k (st_k0 ha2)) rfl (by decide) rfl (room_le (by omega) (by decide)) ⟨(Nat.le_of_ble_eq_true rfl), (Nat.le_of_ble_eq_true rfl)⟩ (Nat.le_of_ble_eq_true rfl) d_C_runBlock_124 (fun x15 M16 => ?_)
            refine G_if_eq g (pc := 127) 132 d_C_runBlock_127 (by decide) ?_ ?_
            · refine G_aload_n g (pc := 132) 5 d_C_runBlock_132 rfl rfl ?_
              refine G_iload g (pc := 133) 3 d_C_runBlock_133 rfl ?_
              refine G_iload g (pc := 135) 2 d_C_runBlock_135 rfl ?_
              refine G_iload g (pc := 137) 1 d_C_runBlock_137 rfl ?_
              refine G_cVI g (pc := 139) (As := [.int x1, .int x3, .int x5]) (st := []) cc_C_121 (c_T_perform l N hw a2 ha2 x1 x3 x5 M16) (hw.m _ (st_lt0 ha2)) (hw.k (st_k0 ha2)) rfl (by decide) rfl (room_le (by omega) (by decide)) ⟨(Nat.le_of_ble_eq_true rfl), (Nat.le_of_ble_eq_true rfl)⟩ (Nat.le_of_ble_eq_true rfl) d_C_runBlock_139 (fun x17 M18 => ?_)
              refine G_pop g (pc := 142) d_C_runBlock_142 rfl ?_
              refine G_aload_n g (pc := 143) 4 d_C_runBlock_143 rfl rfl ?_
              refine G_dup g (pc := 144) d_C_runBlock_144 rfl ?_
              refine G_get g (pc := 145) fa_C_28 (hw.m 5 (Nat.le_of_ble_eq_true rfl)) (hw.k (zk5 rr)) d_C_runBlock_145 ?_
              refine G_iconst g (pc := 148) (1 : Int32) d_C_runBlock_148 rfl ?_
              refine G_iadd g (pc := 149) d_C_runBlock_149 ?_
              refine G_put g (pc := 150) fa_C_28 fw_4_5 rfl rfl (hw.m 5 (Nat.le_of_ble_eq_true rfl)) (hw.k (zk5 rr)) d_C_runBlock_150 ?_
              refine G_nmM (fun M19 => ?_)
              refine G_iload g (pc := 153) 0 d_C_runBlock_153 rfl ?_
              refine G_istore g (pc := 155) _ d_C_runBlock_155 (Nat.le_of_ble_eq_true rfl) rfl ?_
              refine G_nmX (v14.2 + (1 : Int32)) (fun x20 e_x20 => ?_)
              refine G_iinc g (pc := 157) x20 _ 10 d_C_runBlock_157 rfl e_x20.symm (Nat.le_of_ble_eq_true rfl) rfl ?_
              refine G_goto g (pc := 160) 14 d_C_runBlock_160 (by decide) ?_
              refine G_sub [6, 7, 8, 9, 10, 1, 0] _ rfl ?_
              exact ih14 (x7, x20) M19
            · refine G_iconst g (pc := 130) (0 : Int32) d_C_runBlock_130 rfl ?_
              exact G_zreturn g (pc := 131) false rfl hret (Nat.le_of_ble_eq_true rfl) (Nat.le_of_ble_eq_true rfl) d_C_runBlock_131
        · refine G_sub [0, 1, 2, 3, 4, 5, 6] _ rfl ?_
          exact hk14 (v14.1, v14.2) M
      · refine G_sub [0, 1, 2, 3, 4, 5, 6] _ rfl ?_
        exact hk14 (v14.1, v14.2) M
def f_C_runBlock (N : Nat) (rr : Nat) : Nat → Nat → Int32 → Int32 → Int32 → Mem → Option (Bool × Mem)
  | 0, _, _, _, _, _ => none
  | D + 1, a2, a3, a4, a5, M => fs_C_runBlock N rr (f_C_runBlock N rr D) a2 a3 a4 a5 M
theorem c_C_runBlock (l : Launch) (N : Nat) {w : Wc} {rr : Nat} (hw : WK w rr) : ∀ (D : Nat) (a2 : Nat) (ha2 : a2 ∈ stL) (a3 : Int32) (a4 : Int32) (a5 : Int32) (M : Mem), Ct QZ l y_C_runBlock b_C_runBlock 12 (some .boolean) (rmL (12 + 1 * D)) w [.ref (wad w 5), .ref (wad w a2), .int a3, .int a4, .int a5] M (f_C_runBlock N rr D a2 a3 a4 a5 M)
  | 0, _, _, _, _, _, _ => fun _ hr => nomatch hr
  | D + 1, a2, ha2, a3, a4, a5, M => cs_C_runBlock l N hw (12 + 1 * D) (by omega) (f_C_runBlock N rr D) (c_C_runBlock l N hw D) a2 ha2 a3 a4 a5 M
