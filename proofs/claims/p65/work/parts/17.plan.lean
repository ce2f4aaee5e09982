theorem d_X_isAtWord_0 : decode b_X_isAtWord 0 = .ok (.aload_n 0, 1) := by decide +kernel
theorem d_X_isAtWord_1 : decode b_X_isAtWord 1 = .ok (.getfield 22, 3) := by decide +kernel
theorem d_X_isAtWord_4 : decode b_X_isAtWord 4 = .ok (.iconst 1, 1) := by decide +kernel
theorem d_X_isAtWord_5 : decode b_X_isAtWord 5 = .ok (.if_icmp .ne 19, 3) := by decide +kernel
theorem d_X_isAtWord_8 : decode b_X_isAtWord 8 = .ok (.aload_n 0, 1) := by decide +kernel
theorem d_X_isAtWord_9 : decode b_X_isAtWord 9 = .ok (.getfield 28, 3) := by decide +kernel
theorem d_X_isAtWord_12 : decode b_X_isAtWord 12 = .ok (.aload_n 0, 1) := by decide +kernel
theorem d_X_isAtWord_13 : decode b_X_isAtWord 13 = .ok (.getfield 25, 3) := by decide +kernel
theorem d_X_isAtWord_16 : decode b_X_isAtWord 16 = .ok (.isub, 1) := by decide +kernel
theorem d_X_isAtWord_17 : decode b_X_isAtWord 17 = .ok (.aload_n 1, 1) := by decide +kernel
theorem d_X_isAtWord_18 : decode b_X_isAtWord 18 = .ok (.invokevirtual 64, 3) := by decide +kernel
theorem d_X_isAtWord_21 : decode b_X_isAtWord 21 = .ok (.if_icmp .eq 5, 3) := by decide +kernel
theorem d_X_isAtWord_24 : decode b_X_isAtWord 24 = .ok (.iconst 0, 1) := by decide +kernel
theorem d_X_isAtWord_25 : decode b_X_isAtWord 25 = .ok (.ireturn, 1) := by decide +kernel
theorem d_X_isAtWord_26 : decode b_X_isAtWord 26 = .ok (.iconst 0, 1) := by decide +kernel
theorem d_X_isAtWord_27 : decode b_X_isAtWord 27 = .ok (.istore_n 2, 1) := by decide +kernel
theorem d_X_isAtWord_28 : decode b_X_isAtWord 28 = .ok (.iload_n 2, 1) := by decide +kernel
theorem d_X_isAtWord_29 : decode b_X_isAtWord 29 = .ok (.aload_n 1, 1) := by decide +kernel
theorem d_X_isAtWord_30 : decode b_X_isAtWord 30 = .ok (.invokevirtual 64, 3) := by decide +kernel
theorem d_X_isAtWord_33 : decode b_X_isAtWord 33 = .ok (.if_icmp .ge 29, 3) := by decide +kernel
theorem d_X_isAtWord_36 : decode b_X_isAtWord 36 = .ok (.aload_n 0, 1) := by decide +kernel
theorem d_X_isAtWord_37 : decode b_X_isAtWord 37 = .ok (.aload_n 0, 1) := by decide +kernel
theorem d_X_isAtWord_38 : decode b_X_isAtWord 38 = .ok (.getfield 25, 3) := by decide +kernel
theorem d_X_isAtWord_41 : decode b_X_isAtWord 41 = .ok (.iload_n 2, 1) := by decide +kernel
theorem d_X_isAtWord_42 : decode b_X_isAtWord 42 = .ok (.iadd, 1) := by decide +kernel
theorem d_X_isAtWord_43 : decode b_X_isAtWord 43 = .ok (.invokevirtual 46, 3) := by decide +kernel
theorem d_X_isAtWord_46 : decode b_X_isAtWord 46 = .ok (.aload_n 1, 1) := by decide +kernel
theorem d_X_isAtWord_47 : decode b_X_isAtWord 47 = .ok (.iload_n 2, 1) := by decide +kernel
theorem d_X_isAtWord_48 : decode b_X_isAtWord 48 = .ok (.invokevirtual 70, 3) := by decide +kernel
theorem d_X_isAtWord_51 : decode b_X_isAtWord 51 = .ok (.if_icmp .eq 5, 3) := by decide +kernel
theorem d_X_isAtWord_54 : decode b_X_isAtWord 54 = .ok (.iconst 0, 1) := by decide +kernel
theorem d_X_isAtWord_55 : decode b_X_isAtWord 55 = .ok (.ireturn, 1) := by decide +kernel
theorem d_X_isAtWord_56 : decode b_X_isAtWord 56 = .ok (.iinc 2 1, 3) := by decide +kernel
theorem d_X_isAtWord_59 : decode b_X_isAtWord 59 = .ok (.goto (-31), 3) := by decide +kernel
theorem d_X_isAtWord_62 : decode b_X_isAtWord 62 = .ok (.iconst 1, 1) := by decide +kernel
theorem d_X_isAtWord_63 : decode b_X_isAtWord 63 = .ok (.ireturn, 1) := by decide +kernel
theorem cc_X_64 : CV "KiteLogger$TextReader" 64 y_Str_length b_Str_length 1 (some .int) 0 := ⟨TT_in (i := 514) (by decide +kernel) (by decide +kernel), TT_in (i := 515) (by decide +kernel) (by decide +kernel), TT_in (i := 516) (by decide +kernel) (by decide +kernel), TT_in (i := 32) (by decide +kernel) (by decide +kernel), TT_in (i := 517) (by decide +kernel) (by decide +kernel), ⟨by decide +kernel, by decide +kernel, by decide +kernel⟩⟩
theorem cc_X_70 : CV "KiteLogger$TextReader" 70 y_Str_charAt b_Str_charAt 2 (some .char) 1 := ⟨TT_in (i := 524) (by decide +kernel) (by decide +kernel), TT_in (i := 525) (by decide +kernel) (by decide +kernel), TT_in (i := 526) (by decide +kernel) (by decide +kernel), TT_in (i := 32) (by decide +kernel) (by decide +kernel), TT_in (i := 527) (by decide +kernel) (by decide +kernel), ⟨by decide +kernel, by decide +kernel, by decide +kernel⟩⟩
def lp_X_isAtWord_28 (N0 rr : Nat) (a1 : Nat)  : Nat → Int32 → Mem → (Int32 → Mem → Option (Bool × Mem)) → Option (Bool × Mem)
  | 0, _, _, _ => none
  | N + 1, v28, M, k28 => bnd (f_Str_length a1 M) fun (x3 : Int32) (M4 : Mem) => if v28 < x3 then (bnd (f_X_byteAt ((M4 1 4) + v28) M4) fun (x5 : Int32) (M6 : Mem) => bnd (f_Str_charAt a1 v28 M6) fun (x7 : Int32) (M8 : Mem) => if x5 = x7 then (nm (v28 + (1 : Int32)) fun (x9 : Int32) => lp_X_isAtWord_28 N0 rr a1 N x9 M8 k28) else (some (false, M8))) else (k28 v28 M4)
def f_X_isAtWord (N : Nat) (rr : Nat) (a1 : Nat) (M : Mem) : Option (Bool × Mem) :=
  if (M 1 3) = (1 : Int32) then (bnd (f_Str_length a1 M) fun (x1 : Int32) (M2 : Mem) => if ((M 1 5) - (M 1 4)) = x1 then (lp_X_isAtWord_28 N rr a1 N (0 : Int32) M2 (fun (a11 : Int32) (M10 : Mem) => some (true, M10))) else (some (false, M2))) else (some (false, M))
set_option maxHeartbeats 4000000 in
set_option maxRecDepth 100000 in
theorem c_X_isAtWord (l : Launch) (N : Nat) {w : Wc} {rr : Nat} (hw : WK w rr) (a1 : Nat) (ha1 : a1 < 12) (M : Mem) : Ct QZ l y_X_isAtWord b_X_isAtWord 3 (some .boolean) (rmL 4) w [.ref (wad w 1), .ref (wad w (1000 + a1))] M (f_X_isAtWord N rr a1 M) := by
  refine Ct.go (by decide) (L := [(0, .ref (wad w 1)), (1, .ref (wad w (1000 + a1)))]) rfl (Nat.le_of_ble_eq_true rfl) (fun p0 e s m args below meth c g hret => ?_)
  unfold f_X_isAtWord
  refine G_aload_n g (pc := 0) 0 d_X_isAtWord_0 rfl rfl ?_
  refine G_get g (pc := 1) fa_X_22 (hw.m 1 (Nat.le_of_ble_eq_true rfl)) (hw.k (Nat.le_of_ble_eq_true rfl) (zk1 rr)) d_X_isAtWord_1 ?_
  refine G_iconst g (pc := 4) (1 : Int32) d_X_isAtWord_4 rfl ?_
  refine G_icmp_ne g (pc := 5) 24 d_X_isAtWord_5 (by decide) ?_ ?_
  · refine G_aload_n g (pc := 8) 0 d_X_isAtWord_8 rfl rfl ?_
    refine G_get g (pc := 9) fa_X_28 (hw.m 1 (Nat.le_of_ble_eq_true rfl)) (hw.k (Nat.le_of_ble_eq_true rfl) (zk1 rr)) d_X_isAtWord_9 ?_
    refine G_aload_n g (pc := 12) 0 d_X_isAtWord_12 rfl rfl ?_
    refine G_get g (pc := 13) fa_X_25 (hw.m 1 (Nat.le_of_ble_eq_true rfl)) (hw.k (Nat.le_of_ble_eq_true rfl) (zk1 rr)) d_X_isAtWord_13 ?_
    refine G_isub g (pc := 16) d_X_isAtWord_16 ?_
    refine G_aload_n g (pc := 17) 1 d_X_isAtWord_17 rfl rfl ?_
    refine G_cStr g (pc := 18) (As := []) (st := [.int ((M 1 5) - (M 1 4))]) cc_X_64 rfl (c_Str_length l (w := w) a1 ha1 M) ha1 rfl ⟨(Nat.le_of_ble_eq_true rfl), (Nat.le_of_ble_eq_true rfl)⟩ ⟨(Nat.le_of_ble_eq_true rfl), (Nat.le_of_ble_eq_true rfl)⟩ (Nat.le_of_ble_eq_true rfl) d_X_isAtWord_18 (fun x1 M2 => ?_)
    refine G_icmp_eq g (pc := 21) 26 d_X_isAtWord_21 (by decide) ?_ ?_
    · refine G_iconst g (pc := 26) (0 : Int32) d_X_isAtWord_26 rfl ?_
      refine G_istore_n g (pc := 27) _ d_X_isAtWord_27 rfl (Nat.le_of_ble_eq_true rfl) rfl ?_
      refine G_sub [1, 2, 0] _ rfl ?_
      refine G_loop (F := lp_X_isAtWord_28 N rr a1) 28 62 (fun (v28 : Int32) => [(0, .ref (wad w 1)), (1, .ref (wad w (1000 + a1))), (2, .int v28)]) (fun (v28 : Int32) => [(0, .ref (wad w 1)), (1, .ref (wad w (1000 + a1))), (2, .int v28)]) (fun _ _ _ => rfl) (fun a11 M10 => ?_) (fun k28 hk28 Nl28 ih28 v28 M => ?_) N (0 : Int32) M2
      · refine G_iconst g (pc := 62) (1 : Int32) d_X_isAtWord_62 rfl ?_
        exact G_zreturn g (pc := 63) true rfl hret (Nat.le_of_ble_eq_true rfl) (Nat.le_of_ble_eq_true rfl) d_X_isAtWord_63
      · show Go p0 l e _ s m args below meth c w _ _ _ _ (lp_X_isAtWord_28 N rr a1 (Nl28 + 1) v28 M k28) 28 _ _ M
        unfold lp_X_isAtWord_28
        refine G_iload_n g (pc := 28) 2 d_X_isAtWord_28 rfl rfl ?_
        refine G_aload_n g (pc := 29) 1 d_X_isAtWord_29 rfl rfl ?_
        refine G_cStr g (pc := 30) (As := []) (st := [.int v28]) cc_X_64 rfl (c_Str_length l (w := w) a1 ha1 M) ha1 rfl ⟨(Nat.le_of_ble_eq_true rfl), (Nat.le_of_ble_eq_true rfl)⟩ ⟨(Nat.le_of_ble_eq_true rfl), (Nat.le_of_ble_eq_true rfl)⟩ (Nat.le_of_ble_eq_true rfl) d_X_isAtWord_30 (fun x3 M4 => ?_)
        refine G_icmp_ge g (pc := 33) 62 d_X_isAtWord_33 (by decide) ?_ ?_
        · refine G_aload_n g (pc := 36) 0 d_X_isAtWord_36 rfl rfl ?_
          refine G_aload_n g (pc := 37) 0 d_X_isAtWord_37 rfl rfl ?_
          refine G_get g (pc := 38) fa_X_25 (hw.m 1 (Nat.le_of_ble_eq_true rfl)) (hw.k (Nat.le_of_ble_eq_true rfl) (zk1 rr)) d_X_isAtWord_38 ?_
          refine G_iload_n g (pc := 41) 2 d_X_isAtWord_41 rfl rfl ?_
          refine G_iadd g (pc := 42) d_X_isAtWord_42 ?_
          refine G_cVI g (pc := 43) (As := [.int ((M4 1 4) + v28)]) (st := []) cc_X_46 (c_X_byteAt l hw ((M4 1 4) + v28) M4) (hw.m 1 (Nat.le_of_ble_eq_true rfl)) (hw.k (Nat.le_of_ble_eq_true rfl) (zk1 rr)) rfl (by decide) rfl ⟨(Nat.le_of_ble_eq_true rfl), (Nat.le_of_ble_eq_true rfl)⟩ ⟨(Nat.le_of_ble_eq_true rfl), (Nat.le_of_ble_eq_true rfl)⟩ (Nat.le_of_ble_eq_true rfl) d_X_isAtWord_43 (fun x5 M6 => ?_)
          refine G_aload_n g (pc := 46) 1 d_X_isAtWord_46 rfl rfl ?_
          refine G_iload_n g (pc := 47) 2 d_X_isAtWord_47 rfl rfl ?_
          refine G_cStr g (pc := 48) (As := [.int v28]) (st := [.int x5]) cc_X_70 rfl (c_Str_charAt l (w := w) a1 ha1 v28 M6) ha1 rfl ⟨(Nat.le_of_ble_eq_true rfl), (Nat.le_of_ble_eq_true rfl)⟩ ⟨(Nat.le_of_ble_eq_true rfl), (Nat.le_of_ble_eq_true rfl)⟩ (Nat.le_of_ble_eq_true rfl) d_X_isAtWord_48 (fun x7 M8 => ?_)
          refine G_icmp_eq g (pc := 51) 56 d_X_isAtWord_51 (by decide) ?_ ?_
          · refine G_nmX (v28 + (1 : Int32)) (fun x9 e_x9 => ?_)
            refine G_iinc g (pc := 56) x9 _ 2 d_X_isAtWord_56 rfl e_x9.symm (Nat.le_of_ble_eq_true rfl) rfl ?_
            refine G_goto g (pc := 59) 28 d_X_isAtWord_59 (by decide) ?_
            refine G_sub [1, 2, 0] _ rfl ?_
            exact ih28 x9 M8
          · refine G_iconst g (pc := 54) (0 : Int32) d_X_isAtWord_54 rfl ?_
            exact G_zreturn g (pc := 55) false rfl hret (Nat.le_of_ble_eq_true rfl) (Nat.le_of_ble_eq_true rfl) d_X_isAtWord_55
        · refine G_sub [0, 1, 2] _ rfl ?_
          exact hk28 v28 M4
    · refine G_iconst g (pc := 24) (0 : Int32) d_X_isAtWord_24 rfl ?_
      exact G_zreturn g (pc := 25) false rfl hret (Nat.le_of_ble_eq_true rfl) (Nat.le_of_ble_eq_true rfl) d_X_isAtWord_25
  · refine G_iconst g (pc := 24) (0 : Int32) d_X_isAtWord_24 rfl ?_
    exact G_zreturn g (pc := 25) false rfl hret (Nat.le_of_ble_eq_true rfl) (Nat.le_of_ble_eq_true rfl) d_X_isAtWord_25

theorem d_X_takeWord_0 : decode b_X_takeWord 0 = .ok (.aload_n 0, 1) := by decide +kernel
theorem d_X_takeWord_1 : decode b_X_takeWord 1 = .ok (.aload_n 1, 1) := by decide +kernel
theorem d_X_takeWord_2 : decode b_X_takeWord 2 = .ok (.invokevirtual 74, 3) := by decide +kernel
theorem d_X_takeWord_5 : decode b_X_takeWord 5 = .ok (.ifCond .ne 9, 3) := by decide +kernel
theorem d_X_takeWord_8 : decode b_X_takeWord 8 = .ok (.aload_n 0, 1) := by decide +kernel
theorem d_X_takeWord_9 : decode b_X_takeWord 9 = .ok (.iconst 1, 1) := by decide +kernel
theorem d_X_takeWord_10 : decode b_X_takeWord 10 = .ok (.invokevirtual 78, 3) := by decide +kernel
theorem d_X_takeWord_13 : decode b_X_takeWord 13 = .ok (.ireturn, 1) := by decide +kernel
theorem d_X_takeWord_14 : decode b_X_takeWord 14 = .ok (.aload_n 0, 1) := by decide +kernel
theorem d_X_takeWord_15 : decode b_X_takeWord 15 = .ok (.invokevirtual 43, 3) := by decide +kernel
theorem d_X_takeWord_18 : decode b_X_takeWord 18 = .ok (.iconst 1, 1) := by decide +kernel
theorem d_X_takeWord_19 : decode b_X_takeWord 19 = .ok (.ireturn, 1) := by decide +kernel
theorem cc_X_74 : CV "KiteLogger$TextReader" 74 y_X_isAtWord b_X_isAtWord 3 (some .boolean) 1 := ⟨TT_in (i := 510) (by decide +kernel) (by decide +kernel), TT_in (i := 511) (by decide +kernel) (by decide +kernel), TT_in (i := 512) (by decide +kernel) (by decide +kernel), TT_in (i := 19) (by decide +kernel) (by decide +kernel), TT_in (i := 513) (by decide +kernel) (by decide +kernel), ⟨by decide +kernel, by decide +kernel, by decide +kernel⟩⟩
def f_X_takeWord (N : Nat) (rr : Nat) (a1 : Nat) (M : Mem) : Option (Bool × Mem) :=
  bnd (f_X_isAtWord N rr a1 M) fun (x1 : Bool) (M2 : Mem) => if x1 = true then (bndM (f_X_advance N rr M2) fun (M4 : Mem) => some (true, M4)) else (bnd (f_X_fail (1 : Int32) M2) fun (x5 : Bool) (M6 : Mem) => some (x5, M6))
set_option maxHeartbeats 4000000 in
set_option maxRecDepth 100000 in
theorem c_X_takeWord (l : Launch) (N : Nat) {w : Wc} {rr : Nat} (hw : WK w rr) (a1 : Nat) (ha1 : a1 < 12) (M : Mem) : Ct QZ l y_X_takeWord b_X_takeWord 2 (some .boolean) (rmL 5) w [.ref (wad w 1), .ref (wad w (1000 + a1))] M (f_X_takeWord N rr a1 M) := by
  refine Ct.go (by decide) (L := [(0, .ref (wad w 1)), (1, .ref (wad w (1000 + a1)))]) rfl (Nat.le_of_ble_eq_true rfl) (fun p0 e s m args below meth c g hret => ?_)
  unfold f_X_takeWord
  refine G_aload_n g (pc := 0) 0 d_X_takeWord_0 rfl rfl ?_
  refine G_aload_n g (pc := 1) 1 d_X_takeWord_1 rfl rfl ?_
  refine G_cVZ g (pc := 2) (As := [.ref (wad w (1000 + a1))]) (st := []) cc_X_74 (c_X_isAtWord l N hw a1 ha1 M) (hw.m 1 (Nat.le_of_ble_eq_true rfl)) (hw.k (Nat.le_of_ble_eq_true rfl) (zk1 rr)) rfl (by decide) rfl ⟨(Nat.le_of_ble_eq_true rfl), (Nat.le_of_ble_eq_true rfl)⟩ ⟨(Nat.le_of_ble_eq_true rfl), (Nat.le_of_ble_eq_true rfl)⟩ (Nat.le_of_ble_eq_true rfl) d_X_takeWord_2 (fun x1 M2 => ?_)
  refine G_if_neB g (pc := 5) 14 d_X_takeWord_5 (by decide) ?_ ?_
  · refine G_aload_n g (pc := 14) 0 d_X_takeWord_14 rfl rfl ?_
    refine G_cVV g (pc := 15) (As := []) (st := []) cc_X_43 (c_X_advance l N hw M2) (hw.m 1 (Nat.le_of_ble_eq_true rfl)) (hw.k (Nat.le_of_ble_eq_true rfl) (zk1 rr)) rfl (by decide) rfl ⟨(Nat.le_of_ble_eq_true rfl), (Nat.le_of_ble_eq_true rfl)⟩ ⟨(Nat.le_of_ble_eq_true rfl), (Nat.le_of_ble_eq_true rfl)⟩ (Nat.le_of_ble_eq_true rfl) d_X_takeWord_15 (fun M4 => ?_)
    refine G_iconst g (pc := 18) (1 : Int32) d_X_takeWord_18 rfl ?_
    exact G_zreturn g (pc := 19) true rfl hret (Nat.le_of_ble_eq_true rfl) (Nat.le_of_ble_eq_true rfl) d_X_takeWord_19
  · refine G_aload_n g (pc := 8) 0 d_X_takeWord_8 rfl rfl ?_
    refine G_iconst g (pc := 9) (1 : Int32) d_X_takeWord_9 rfl ?_
    refine G_cVZ g (pc := 10) (As := [.int (1 : Int32)]) (st := []) cc_X_78 (c_X_fail l hw (1 : Int32) M2) (hw.m 1 (Nat.le_of_ble_eq_true rfl)) (hw.k (Nat.le_of_ble_eq_true rfl) (zk1 rr)) rfl (by decide) rfl ⟨(Nat.le_of_ble_eq_true rfl), (Nat.le_of_ble_eq_true rfl)⟩ ⟨(Nat.le_of_ble_eq_true rfl), (Nat.le_of_ble_eq_true rfl)⟩ (Nat.le_of_ble_eq_true rfl) d_X_takeWord_10 (fun x5 M6 => ?_)
    exact G_zreturn g (pc := 13) x5 rfl hret (Nat.le_of_ble_eq_true rfl) (Nat.le_of_ble_eq_true rfl) d_X_takeWord_13

theorem d_P_readKite_0 : decode b_P_readKite 0 = .ok (.aload_n 1, 1) := by decide +kernel
theorem d_P_readKite_1 : decode b_P_readKite 1 = .ok (.ldc 58, 2) := by decide +kernel
theorem d_P_readKite_3 : decode b_P_readKite 3 = .ok (.invokevirtual 60, 3) := by decide +kernel
theorem d_P_readKite_6 : decode b_P_readKite 6 = .ok (.ifCond .eq 12, 3) := by decide +kernel
theorem d_P_readKite_9 : decode b_P_readKite 9 = .ok (.aload_n 1, 1) := by decide +kernel
theorem d_P_readKite_10 : decode b_P_readKite 10 = .ok (.iconst 1, 1) := by decide +kernel
theorem d_P_readKite_11 : decode b_P_readKite 11 = .ok (.iconst 4, 1) := by decide +kernel
theorem d_P_readKite_12 : decode b_P_readKite 12 = .ok (.invokevirtual 64, 3) := by decide +kernel
theorem d_P_readKite_15 : decode b_P_readKite 15 = .ok (.ifCond .ne 5, 3) := by decide +kernel
theorem d_P_readKite_18 : decode b_P_readKite 18 = .ok (.iconst 0, 1) := by decide +kernel
theorem d_P_readKite_19 : decode b_P_readKite 19 = .ok (.ireturn, 1) := by decide +kernel
theorem d_P_readKite_20 : decode b_P_readKite 20 = .ok (.aload_n 0, 1) := by decide +kernel
theorem d_P_readKite_21 : decode b_P_readKite 21 = .ok (.aload_n 1, 1) := by decide +kernel
theorem d_P_readKite_22 : decode b_P_readKite 22 = .ok (.getfield 68, 3) := by decide +kernel
theorem d_P_readKite_25 : decode b_P_readKite 25 = .ok (.putfield 9, 3) := by decide +kernel
theorem d_P_readKite_28 : decode b_P_readKite 28 = .ok (.aload_n 1, 1) := by decide +kernel
theorem d_P_readKite_29 : decode b_P_readKite 29 = .ok (.iconst 1, 1) := by decide +kernel
theorem d_P_readKite_30 : decode b_P_readKite 30 = .ok (.sipush 999, 3) := by decide +kernel
theorem d_P_readKite_33 : decode b_P_readKite 33 = .ok (.invokevirtual 64, 3) := by decide +kernel
theorem d_P_readKite_36 : decode b_P_readKite 36 = .ok (.ifCond .ne 5, 3) := by decide +kernel
theorem d_P_readKite_39 : decode b_P_readKite 39 = .ok (.iconst 0, 1) := by decide +kernel
theorem d_P_readKite_40 : decode b_P_readKite 40 = .ok (.ireturn, 1) := by decide +kernel
theorem d_P_readKite_41 : decode b_P_readKite 41 = .ok (.aload_n 0, 1) := by decide +kernel
theorem d_P_readKite_42 : decode b_P_readKite 42 = .ok (.aload_n 1, 1) := by decide +kernel
theorem d_P_readKite_43 : decode b_P_readKite 43 = .ok (.getfield 68, 3) := by decide +kernel
theorem d_P_readKite_46 : decode b_P_readKite 46 = .ok (.putfield 15, 3) := by decide +kernel
theorem d_P_readKite_49 : decode b_P_readKite 49 = .ok (.aload_n 1, 1) := by decide +kernel
theorem d_P_readKite_50 : decode b_P_readKite 50 = .ok (.iconst 1, 1) := by decide +kernel
theorem d_P_readKite_51 : decode b_P_readKite 51 = .ok (.sipush 9999, 3) := by decide +kernel
theorem d_P_readKite_54 : decode b_P_readKite 54 = .ok (.invokevirtual 64, 3) := by decide +kernel
theorem d_P_readKite_57 : decode b_P_readKite 57 = .ok (.ifCond .ne 5, 3) := by decide +kernel
theorem d_P_readKite_60 : decode b_P_readKite 60 = .ok (.iconst 0, 1) := by decide +kernel
theorem d_P_readKite_61 : decode b_P_readKite 61 = .ok (.ireturn, 1) := by decide +kernel
theorem d_P_readKite_62 : decode b_P_readKite 62 = .ok (.aload_n 0, 1) := by decide +kernel
theorem d_P_readKite_63 : decode b_P_readKite 63 = .ok (.aload_n 1, 1) := by decide +kernel
theorem d_P_readKite_64 : decode b_P_readKite 64 = .ok (.getfield 68, 3) := by decide +kernel
theorem d_P_readKite_67 : decode b_P_readKite 67 = .ok (.putfield 18, 3) := by decide +kernel
theorem d_P_readKite_70 : decode b_P_readKite 70 = .ok (.aload_n 1, 1) := by decide +kernel
theorem d_P_readKite_71 : decode b_P_readKite 71 = .ok (.iconst 3, 1) := by decide +kernel
theorem d_P_readKite_72 : decode b_P_readKite 72 = .ok (.invokevirtual 54, 3) := by decide +kernel
theorem d_P_readKite_75 : decode b_P_readKite 75 = .ok (.ireturn, 1) := by decide +kernel
theorem cc_P_60 : CV "KiteLogger$StationPlan" 60 y_X_takeWord b_X_takeWord 2 (some .boolean) 1 := ⟨TT_in (i := 506) (by decide +kernel) (by decide +kernel), TT_in (i := 507) (by decide +kernel) (by decide +kernel), TT_in (i := 508) (by decide +kernel) (by decide +kernel), TT_in (i := 19) (by decide +kernel) (by decide +kernel), TT_in (i := 509) (by decide +kernel) (by decide +kernel), ⟨by decide +kernel, by decide +kernel, by decide +kernel⟩⟩
theorem cc_P_64 : CV "KiteLogger$StationPlan" 64 y_X_takeNumber b_X_takeNumber 3 (some .boolean) 2 := ⟨TT_in (i := 566) (by decide +kernel) (by decide +kernel), TT_in (i := 567) (by decide +kernel) (by decide +kernel), TT_in (i := 568) (by decide +kernel) (by decide +kernel), TT_in (i := 19) (by decide +kernel) (by decide +kernel), TT_in (i := 569) (by decide +kernel) (by decide +kernel), ⟨by decide +kernel, by decide +kernel, by decide +kernel⟩⟩
theorem cc_P_54 : CV "KiteLogger$StationPlan" 54 y_X_takeSign b_X_takeSign 2 (some .boolean) 1 := ⟨TT_in (i := 577) (by decide +kernel) (by decide +kernel), TT_in (i := 578) (by decide +kernel) (by decide +kernel), TT_in (i := 579) (by decide +kernel) (by decide +kernel), TT_in (i := 19) (by decide +kernel) (by decide +kernel), TT_in (i := 580) (by decide +kernel) (by decide +kernel), ⟨by decide +kernel, by decide +kernel, by decide +kernel⟩⟩
def f_P_readKite (N : Nat) (rr : Nat) (M : Mem) : Option (Bool × Mem) :=
  bnd (f_X_takeWord N rr 1 M) fun (x1 : Bool) (M2 : Mem) => if x1 = true then (bnd (f_X_takeNumber N rr (1 : Int32) (4 : Int32) M2) fun (x3 : Bool) (M4 : Mem) => if x3 = true then (nm (put M4 3 0 (M4 1 7)) fun (M5 : Mem) => bnd (f_X_takeNumber N rr (1 : Int32) (999 : Int32) M5) fun (x6 : Bool) (M7 : Mem) => if x6 = true then (nm (put M7 3 1 (M7 1 7)) fun (M8 : Mem) => bnd (f_X_takeNumber N rr (1 : Int32) (9999 : Int32) M8) fun (x9 : Bool) (M10 : Mem) => if x9 = true then (nm (put M10 3 2 (M10 1 7)) fun (M11 : Mem) => bnd (f_X_takeSign N rr (3 : Int32) M11) fun (x12 : Bool) (M13 : Mem) => some (x12, M13)) else (some (false, M10))) else (some (false, M7))) else (some (false, M4))) else (some (false, M2))
set_option maxHeartbeats 4000000 in
set_option maxRecDepth 100000 in
theorem c_P_readKite (l : Launch) (N : Nat) {w : Wc} {rr : Nat} (hw : WK w rr)  (M : Mem) : Ct QZ l y_P_readKite b_P_readKite 2 (some .boolean) (rmL 6) w [.ref (wad w 3), .ref (wad w 1)] M (f_P_readKite N rr M) := by
  refine Ct.go (by decide) (L := [(0, .ref (wad w 3)), (1, .ref (wad w 1))]) rfl (Nat.le_of_ble_eq_true rfl) (fun p0 e s m args below meth c g hret => ?_)
  unfold f_P_readKite
  refine G_aload_n g (pc := 0) 1 d_P_readKite_0 rfl rfl ?_
  refine G_ldcS g (pc := 1) 1 (List.mem_of_getElem? (i := 1) rfl) d_P_readKite_1 ?_
  refine G_cVZ g (pc := 3) (As := [.ref (wad w (1000 + 1))]) (st := []) cc_P_60 (c_X_takeWord l N hw 1 (by decide) M) (hw.m 1 (Nat.le_of_ble_eq_true rfl)) (hw.k (Nat.le_of_ble_eq_true rfl) (zk1 rr)) rfl (by decide) rfl ⟨(Nat.le_of_ble_eq_true rfl), (Nat.le_of_ble_eq_true rfl)⟩ ⟨(Nat.le_of_ble_eq_true rfl), (Nat.le_of_ble_eq_true rfl)⟩ (Nat.le_of_ble_eq_true rfl) d_P_readKite_3 (fun x1 M2 => ?_)
  refine G_if_eqB g (pc := 6) 18 d_P_readKite_6 (by decide) ?_ ?_
  · refine G_aload_n g (pc := 9) 1 d_P_readKite_9 rfl rfl ?_
    refine G_iconst g (pc := 10) (1 : Int32) d_P_readKite_10 rfl ?_
    refine G_iconst g (pc := 11) (4 : Int32) d_P_readKite_11 rfl ?_
    refine G_cVZ g (pc := 12) (As := [.int (1 : Int32), .int (4 : Int32)]) (st := []) cc_P_64 (c_X_takeNumber l N hw (1 : Int32) (4 : Int32) M2) (hw.m 1 (Nat.le_of_ble_eq_true rfl)) (hw.k (Nat.le_of_ble_eq_true rfl) (zk1 rr)) rfl (by decide) rfl ⟨(Nat.le_of_ble_eq_true rfl), (Nat.le_of_ble_eq_true rfl)⟩ ⟨(Nat.le_of_ble_eq_true rfl), (Nat.le_of_ble_eq_true rfl)⟩ (Nat.le_of_ble_eq_true rfl) d_P_readKite_12 (fun x3 M4 => ?_)
    refine G_if_neB g (pc := 15) 20 d_P_readKite_15 (by decide) ?_ ?_
    · refine G_aload_n g (pc := 20) 0 d_P_readKite_20 rfl rfl ?_
      refine G_aload_n g (pc := 21) 1 d_P_readKite_21 rfl rfl ?_
      refine G_getN g (pc := 22) fa_P_68 (hw.m 1 (Nat.le_of_ble_eq_true rfl)) (hw.k (Nat.le_of_ble_eq_true rfl) (zk1 rr)) d_P_readKite_22 ?_
      refine G_put g (pc := 25) fa_P_9 fw_6_0 rfl rfl (hw.m 3 (Nat.le_of_ble_eq_true rfl)) (hw.k (Nat.le_of_ble_eq_true rfl) (zk3 rr)) d_P_readKite_25 ?_
      refine G_nmM (fun M5 => ?_)
      refine G_aload_n g (pc := 28) 1 d_P_readKite_28 rfl rfl ?_
      refine G_iconst g (pc := 29) (1 : Int32) d_P_readKite_29 rfl ?_
      refine G_sipush g (pc := 30) (999 : Int32) d_P_readKite_30 rfl ?_
      refine G_cVZ g (pc := 33) (As := [.int (1 : Int32), .int (999 : Int32)]) (st := []) cc_P_64 (c_X_takeNumber l N hw (1 : Int32) (999 : Int32) M5) (hw.m 1 (Nat.le_of_ble_eq_true rfl)) (hw.k (Nat.le_of_ble_eq_true rfl) (zk1 rr)) rfl (by decide) rfl ⟨(Nat.le_of_ble_eq_true rfl), (Nat.le_of_ble_eq_true rfl)⟩ ⟨(Nat.le_of_ble_eq_true rfl), (Nat.le_of_ble_eq_true rfl)⟩ (Nat.le_of_ble_eq_true rfl) d_P_readKite_33 (fun x6 M7 => ?_)
      refine G_if_neB g (pc := 36) 41 d_P_readKite_36 (by decide) ?_ ?_
      · refine G_aload_n g (pc := 41) 0 d_P_readKite_41 rfl rfl ?_
        refine G_aload_n g (pc := 42) 1 d_P_readKite_42 rfl rfl ?_
        refine G_getN g (pc := 43) fa_P_68 (hw.m 1 (Nat.le_of_ble_eq_true rfl)) (hw.k (Nat.le_of_ble_eq_true rfl) (zk1 rr)) d_P_readKite_43 ?_
        refine G_put g (pc := 46) fa_P_15 fw_6_1 rfl rfl (hw.m 3 (Nat.le_of_ble_eq_true rfl)) (hw.k (Nat.le_of_ble_eq_true rfl) (zk3 rr)) d_P_readKite_46 ?_
        refine G_nmM (fun M8 => ?_)
        refine G_aload_n g (pc := 49) 1 d_P_readKite_49 rfl rfl ?_
        refine G_iconst g (pc := 50) (1 : Int32) d_P_readKite_50 rfl ?_
        refine G_sipush g (pc := 51) (9999 : Int32) d_P_readKite_51 rfl ?_
        refine G_cVZ g (pc := 54) (As := [.int (1 : Int32), .int (9999 : Int32)]) (st := []) cc_P_64 (c_X_takeNumber l N hw (1 : Int32) (9999 : Int32) M8) (hw.m 1 (Nat.le_of_ble_eq_true rfl)) (hw.k (Nat.le_of_ble_eq_true rfl) (zk1 rr)) rfl (by decide) rfl ⟨(Nat.le_of_ble_eq_true rfl), (Nat.le_of_ble_eq_true rfl)⟩ ⟨(Nat.le_of_ble_eq_true rfl), (Nat.le_of_ble_eq_true rfl)⟩ (Nat.le_of_ble_eq_true rfl) d_P_readKite_54 (fun x9 M10 => ?_)
        refine G_if_neB g (pc := 57) 62 d_P_readKite_57 (by decide) ?_ ?_
        · refine G_aload_n g (pc := 62) 0 d_P_readKite_62 rfl rfl ?_
          refine G_aload_n g (pc := 63) 1 d_P_readKite_63 rfl rfl ?_
          refine G_getN g (pc := 64) fa_P_68 (hw.m 1 (Nat.le_of_ble_eq_true rfl)) (hw.k (Nat.le_of_ble_eq_true rfl) (zk1 rr)) d_P_readKite_64 ?_
          refine G_put g (pc := 67) fa_P_18 fw_6_2 rfl rfl (hw.m 3 (Nat.le_of_ble_eq_true rfl)) (hw.k (Nat.le_of_ble_eq_true rfl) (zk3 rr)) d_P_readKite_67 ?_
          refine G_nmM (fun M11 => ?_)
          refine G_aload_n g (pc := 70) 1 d_P_readKite_70 rfl rfl ?_
          refine G_iconst g (pc := 71) (3 : Int32) d_P_readKite_71 rfl ?_
          refine G_cVZ g (pc := 72) (As := [.int (3 : Int32)]) (st := []) cc_P_54 (c_X_takeSign l N hw (3 : Int32) M11) (hw.m 1 (Nat.le_of_ble_eq_true rfl)) (hw.k (Nat.le_of_ble_eq_true rfl) (zk1 rr)) rfl (by decide) rfl ⟨(Nat.le_of_ble_eq_true rfl), (Nat.le_of_ble_eq_true rfl)⟩ ⟨(Nat.le_of_ble_eq_true rfl), (Nat.le_of_ble_eq_true rfl)⟩ (Nat.le_of_ble_eq_true rfl) d_P_readKite_72 (fun x12 M13 => ?_)
          exact G_zreturn g (pc := 75) x12 rfl hret (Nat.le_of_ble_eq_true rfl) (Nat.le_of_ble_eq_true rfl) d_P_readKite_75
        · refine G_iconst g (pc := 60) (0 : Int32) d_P_readKite_60 rfl ?_
          exact G_zreturn g (pc := 61) false rfl hret (Nat.le_of_ble_eq_true rfl) (Nat.le_of_ble_eq_true rfl) d_P_readKite_61
      · refine G_iconst g (pc := 39) (0 : Int32) d_P_readKite_39 rfl ?_
        exact G_zreturn g (pc := 40) false rfl hret (Nat.le_of_ble_eq_true rfl) (Nat.le_of_ble_eq_true rfl) d_P_readKite_40
    · refine G_iconst g (pc := 18) (0 : Int32) d_P_readKite_18 rfl ?_
      exact G_zreturn g (pc := 19) false rfl hret (Nat.le_of_ble_eq_true rfl) (Nat.le_of_ble_eq_true rfl) d_P_readKite_19
  · refine G_iconst g (pc := 18) (0 : Int32) d_P_readKite_18 rfl ?_
    exact G_zreturn g (pc := 19) false rfl hret (Nat.le_of_ble_eq_true rfl) (Nat.le_of_ble_eq_true rfl) d_P_readKite_19

theorem d_P_readGusts_0 : decode b_P_readGusts 0 = .ok (.aload_n 1, 1) := by decide +kernel
theorem d_P_readGusts_1 : decode b_P_readGusts 1 = .ok (.ldc 71, 2) := by decide +kernel
theorem d_P_readGusts_3 : decode b_P_readGusts 3 = .ok (.invokevirtual 60, 3) := by decide +kernel
theorem d_P_readGusts_6 : decode b_P_readGusts 6 = .ok (.ifCond .ne 5, 3) := by decide +kernel
theorem d_P_readGusts_9 : decode b_P_readGusts 9 = .ok (.iconst 0, 1) := by decide +kernel
theorem d_P_readGusts_10 : decode b_P_readGusts 10 = .ok (.ireturn, 1) := by decide +kernel
theorem d_P_readGusts_11 : decode b_P_readGusts 11 = .ok (.aload_n 0, 1) := by decide +kernel
theorem d_P_readGusts_12 : decode b_P_readGusts 12 = .ok (.iconst 0, 1) := by decide +kernel
theorem d_P_readGusts_13 : decode b_P_readGusts 13 = .ok (.putfield 31, 3) := by decide +kernel
theorem d_P_readGusts_16 : decode b_P_readGusts 16 = .ok (.iconst 0, 1) := by decide +kernel
theorem d_P_readGusts_17 : decode b_P_readGusts 17 = .ok (.istore_n 2, 1) := by decide +kernel
theorem d_P_readGusts_18 : decode b_P_readGusts 18 = .ok (.iload_n 2, 1) := by decide +kernel
theorem d_P_readGusts_19 : decode b_P_readGusts 19 = .ok (.bipush 16, 2) := by decide +kernel
theorem d_P_readGusts_21 : decode b_P_readGusts 21 = .ok (.if_icmp .gt 68, 3) := by decide +kernel
theorem d_P_readGusts_24 : decode b_P_readGusts 24 = .ok (.iload_n 2, 1) := by decide +kernel
theorem d_P_readGusts_25 : decode b_P_readGusts 25 = .ok (.ifCond .eq 11, 3) := by decide +kernel
theorem d_P_readGusts_28 : decode b_P_readGusts 28 = .ok (.aload_n 1, 1) := by decide +kernel
theorem d_P_readGusts_29 : decode b_P_readGusts 29 = .ok (.getfield 72, 3) := by decide +kernel
theorem d_P_readGusts_32 : decode b_P_readGusts 32 = .ok (.iconst 2, 1) := by decide +kernel
theorem d_P_readGusts_33 : decode b_P_readGusts 33 = .ok (.if_icmp .ne 56, 3) := by decide +kernel
theorem d_P_readGusts_36 : decode b_P_readGusts 36 = .ok (.aload_n 1, 1) := by decide +kernel
theorem d_P_readGusts_37 : decode b_P_readGusts 37 = .ok (.iconst 0, 1) := by decide +kernel
theorem d_P_readGusts_38 : decode b_P_readGusts 38 = .ok (.bipush 30, 2) := by decide +kernel
theorem d_P_readGusts_40 : decode b_P_readGusts 40 = .ok (.invokevirtual 75, 3) := by decide +kernel
theorem d_P_readGusts_43 : decode b_P_readGusts 43 = .ok (.ifCond .ne 5, 3) := by decide +kernel
theorem d_P_readGusts_46 : decode b_P_readGusts 46 = .ok (.iconst 0, 1) := by decide +kernel
theorem d_P_readGusts_47 : decode b_P_readGusts 47 = .ok (.ireturn, 1) := by decide +kernel
theorem d_P_readGusts_48 : decode b_P_readGusts 48 = .ok (.iload_n 2, 1) := by decide +kernel
theorem d_P_readGusts_49 : decode b_P_readGusts 49 = .ok (.bipush 16, 2) := by decide +kernel
theorem d_P_readGusts_51 : decode b_P_readGusts 51 = .ok (.if_icmp .ne 9, 3) := by decide +kernel
theorem d_P_readGusts_54 : decode b_P_readGusts 54 = .ok (.aload_n 1, 1) := by decide +kernel
theorem d_P_readGusts_55 : decode b_P_readGusts 55 = .ok (.iconst 3, 1) := by decide +kernel
theorem d_P_readGusts_56 : decode b_P_readGusts 56 = .ok (.invokevirtual 78, 3) := by decide +kernel
theorem d_P_readGusts_59 : decode b_P_readGusts 59 = .ok (.ireturn, 1) := by decide +kernel
theorem d_P_readGusts_60 : decode b_P_readGusts 60 = .ok (.aload_n 0, 1) := by decide +kernel
theorem d_P_readGusts_61 : decode b_P_readGusts 61 = .ok (.getfield 24, 3) := by decide +kernel
theorem d_P_readGusts_64 : decode b_P_readGusts 64 = .ok (.iload_n 2, 1) := by decide +kernel
theorem d_P_readGusts_65 : decode b_P_readGusts 65 = .ok (.aload_n 1, 1) := by decide +kernel
theorem d_P_readGusts_66 : decode b_P_readGusts 66 = .ok (.getfield 81, 3) := by decide +kernel
theorem d_P_readGusts_69 : decode b_P_readGusts 69 = .ok (.invokestatic 84, 3) := by decide +kernel
theorem d_P_readGusts_72 : decode b_P_readGusts 72 = .ok (.aload_n 0, 1) := by decide +kernel
theorem d_P_readGusts_73 : decode b_P_readGusts 73 = .ok (.iload_n 2, 1) := by decide +kernel
theorem d_P_readGusts_74 : decode b_P_readGusts 74 = .ok (.iconst 1, 1) := by decide +kernel
theorem d_P_readGusts_75 : decode b_P_readGusts 75 = .ok (.iadd, 1) := by decide +kernel
theorem d_P_readGusts_76 : decode b_P_readGusts 76 = .ok (.putfield 31, 3) := by decide +kernel
theorem d_P_readGusts_79 : decode b_P_readGusts 79 = .ok (.aload_n 1, 1) := by decide +kernel
theorem d_P_readGusts_80 : decode b_P_readGusts 80 = .ok (.invokevirtual 88, 3) := by decide +kernel
theorem d_P_readGusts_83 : decode b_P_readGusts 83 = .ok (.iinc 2 1, 3) := by decide +kernel
theorem d_P_readGusts_86 : decode b_P_readGusts 86 = .ok (.goto (-68), 3) := by decide +kernel
theorem d_P_readGusts_89 : decode b_P_readGusts 89 = .ok (.aload_n 1, 1) := by decide +kernel
theorem d_P_readGusts_90 : decode b_P_readGusts 90 = .ok (.iconst 3, 1) := by decide +kernel
theorem d_P_readGusts_91 : decode b_P_readGusts 91 = .ok (.invokevirtual 54, 3) := by decide +kernel
theorem d_P_readGusts_94 : decode b_P_readGusts 94 = .ok (.ireturn, 1) := by decide +kernel
theorem cc_P_75 : CV "KiteLogger$StationPlan" 75 y_X_checkNumber b_X_checkNumber 3 (some .boolean) 2 := ⟨TT_in (i := 586) (by decide +kernel) (by decide +kernel), TT_in (i := 571) (by decide +kernel) (by decide +kernel), TT_in (i := 572) (by decide +kernel) (by decide +kernel), TT_in (i := 19) (by decide +kernel) (by decide +kernel), TT_in (i := 573) (by decide +kernel) (by decide +kernel), ⟨by decide +kernel, by decide +kernel, by decide +kernel⟩⟩
theorem cc_P_78 : CV "KiteLogger$StationPlan" 78 y_X_fail b_X_fail 2 (some .boolean) 1 := ⟨TT_in (i := 587) (by decide +kernel) (by decide +kernel), TT_in (i := 563) (by decide +kernel) (by decide +kernel), TT_in (i := 564) (by decide +kernel) (by decide +kernel), TT_in (i := 19) (by decide +kernel) (by decide +kernel), TT_in (i := 565) (by decide +kernel) (by decide +kernel), ⟨by decide +kernel, by decide +kernel, by decide +kernel⟩⟩
theorem cc_P_84 : CSN "KiteLogger$StationPlan" 84 "KiteLogger" y_G_putAt b_G_putAt 3 none 3 := ⟨NW_in (i := 588) (by decide +kernel) (by decide +kernel), TT_in (i := 589) (by decide +kernel) (by decide +kernel), TT_in (i := 18) (by decide +kernel) (by decide +kernel), TT_in (i := 590) (by decide +kernel) (by decide +kernel), ⟨by decide +kernel, by decide +kernel, by decide +kernel⟩⟩
theorem cc_P_88 : CV "KiteLogger$StationPlan" 88 y_X_advance b_X_advance 1 none 0 := ⟨TT_in (i := 591) (by decide +kernel) (by decide +kernel), TT_in (i := 486) (by decide +kernel) (by decide +kernel), TT_in (i := 487) (by decide +kernel) (by decide +kernel), TT_in (i := 19) (by decide +kernel) (by decide +kernel), TT_in (i := 488) (by decide +kernel) (by decide +kernel), ⟨by decide +kernel, by decide +kernel, by decide +kernel⟩⟩
def lp_P_readGusts_18 (N0 rr : Nat)   : Nat → Int32 → Mem → (Int32 → Mem → Option (Bool × Mem)) → Option (Bool × Mem)
  | 0, _, _, _ => none
  | N + 1, v18, M, k18 => if v18 ≤ (16 : Int32) then (if v18 = 0 then (bnd (f_X_checkNumber (0 : Int32) (30 : Int32) M) fun (x4 : Bool) (M5 : Mem) => if x4 = true then (if v18 = (16 : Int32) then (bnd (f_X_fail (3 : Int32) M5) fun (x6 : Bool) (M7 : Mem) => some (x6, M7)) else (bndM (f_G_putAt 4 v18 (M5 1 6) M5) fun (M9 : Mem) => nm (put M9 3 5 (v18 + (1 : Int32))) fun (M10 : Mem) => bndM (f_X_advance N0 rr M10) fun (M12 : Mem) => nm (v18 + (1 : Int32)) fun (x13 : Int32) => lp_P_readGusts_18 N0 rr N x13 M12 k18)) else (some (false, M5))) else (if (M 1 3) = (2 : Int32) then (bnd (f_X_checkNumber (0 : Int32) (30 : Int32) M) fun (x14 : Bool) (M15 : Mem) => if x14 = true then (if v18 = (16 : Int32) then (bnd (f_X_fail (3 : Int32) M15) fun (x16 : Bool) (M17 : Mem) => some (x16, M17)) else (bndM (f_G_putAt 4 v18 (M15 1 6) M15) fun (M19 : Mem) => nm (put M19 3 5 (v18 + (1 : Int32))) fun (M20 : Mem) => bndM (f_X_advance N0 rr M20) fun (M22 : Mem) => nm (v18 + (1 : Int32)) fun (x23 : Int32) => lp_P_readGusts_18 N0 rr N x23 M22 k18)) else (some (false, M15))) else (k18 v18 M))) else (k18 v18 M)
def f_P_readGusts (N : Nat) (rr : Nat) (M : Mem) : Option (Bool × Mem) :=
  bnd (f_X_takeWord N rr 2 M) fun (x1 : Bool) (M2 : Mem) => if x1 = true then (nm (put M2 3 5 (0 : Int32)) fun (M3 : Mem) => lp_P_readGusts_18 N rr N (0 : Int32) M3 (fun (a25 : Int32) (M24 : Mem) => bnd (f_X_takeSign N rr (3 : Int32) M24) fun (x26 : Bool) (M27 : Mem) => some (x26, M27))) else (some (false, M2))
set_option maxHeartbeats 4000000 in
set_option maxRecDepth 100000 in
theorem c_P_readGusts (l : Launch) (N : Nat) {w : Wc} {rr : Nat} (hw : WK w rr)  (M : Mem) : Ct QZ l y_P_readGusts b_P_readGusts 3 (some .boolean) (rmL 6) w [.ref (wad w 3), .ref (wad w 1)] M (f_P_readGusts N rr M) := by
  refine Ct.go (by decide) (L := [(0, .ref (wad w 3)), (1, .ref (wad w 1))]) rfl (Nat.le_of_ble_eq_true rfl) (fun p0 e s m args below meth c g hret => ?_)
  unfold f_P_readGusts
  refine G_aload_n g (pc := 0) 1 d_P_readGusts_0 rfl rfl ?_
  refine G_ldcS g (pc := 1) 2 (List.mem_of_getElem? (i := 2) rfl) d_P_readGusts_1 ?_
  refine G_cVZ g (pc := 3) (As := [.ref (wad w (1000 + 2))]) (st := []) cc_P_60 (c_X_takeWord l N hw 2 (by decide) M) (hw.m 1 (Nat.le_of_ble_eq_true rfl)) (hw.k (Nat.le_of_ble_eq_true rfl) (zk1 rr)) rfl (by decide) rfl ⟨(Nat.le_of_ble_eq_true rfl), (Nat.le_of_ble_eq_true rfl)⟩ ⟨(Nat.le_of_ble_eq_true rfl), (Nat.le_of_ble_eq_true rfl)⟩ (Nat.le_of_ble_eq_true rfl) d_P_readGusts_3 (fun x1 M2 => ?_)
  refine G_if_neB g (pc := 6) 11 d_P_readGusts_6 (by decide) ?_ ?_
  · refine G_aload_n g (pc := 11) 0 d_P_readGusts_11 rfl rfl ?_
    refine G_iconst g (pc := 12) (0 : Int32) d_P_readGusts_12 rfl ?_
    refine G_put g (pc := 13) fa_P_31 fw_6_5 rfl rfl (hw.m 3 (Nat.le_of_ble_eq_true rfl)) (hw.k (Nat.le_of_ble_eq_true rfl) (zk3 rr)) d_P_readGusts_13 ?_
    refine G_nmM (fun M3 => ?_)
    refine G_iconst g (pc := 16) (0 : Int32) d_P_readGusts_16 rfl ?_
    refine G_istore_n g (pc := 17) _ d_P_readGusts_17 rfl (Nat.le_of_ble_eq_true rfl) rfl ?_
    refine G_sub [1, 2, 0] _ rfl ?_
    refine G_loop (F := lp_P_readGusts_18 N rr) 18 89 (fun (v18 : Int32) => [(0, .ref (wad w 3)), (1, .ref (wad w 1)), (2, .int v18)]) (fun (v18 : Int32) => [(0, .ref (wad w 3)), (1, .ref (wad w 1)), (2, .int v18)]) (fun _ _ _ => rfl) (fun a25 M24 => ?_) (fun k18 hk18 Nl18 ih18 v18 M => ?_) N (0 : Int32) M3
    · refine G_aload_n g (pc := 89) 1 d_P_readGusts_89 rfl rfl ?_
      refine G_iconst g (pc := 90) (3 : Int32) d_P_readGusts_90 rfl ?_
      refine G_cVZ g (pc := 91) (As := [.int (3 : Int32)]) (st := []) cc_P_54 (c_X_takeSign l N hw (3 : Int32) M24) (hw.m 1 (Nat.le_of_ble_eq_true rfl)) (hw.k (Nat.le_of_ble_eq_true rfl) (zk1 rr)) rfl (by decide) rfl ⟨(Nat.le_of_ble_eq_true rfl), (Nat.le_of_ble_eq_true rfl)⟩ ⟨(Nat.le_of_ble_eq_true rfl), (Nat.le_of_ble_eq_true rfl)⟩ (Nat.le_of_ble_eq_true rfl) d_P_readGusts_91 (fun x26 M27 => ?_)
      exact G_zreturn g (pc := 94) x26 rfl hret (Nat.le_of_ble_eq_true rfl) (Nat.le_of_ble_eq_true rfl) d_P_readGusts_94
    · show Go p0 l e _ s m args below meth c w _ _ _ _ (lp_P_readGusts_18 N rr (Nl18 + 1) v18 M k18) 18 _ _ M
      unfold lp_P_readGusts_18
      refine G_iload_n g (pc := 18) 2 d_P_readGusts_18 rfl rfl ?_
      refine G_bipush g (pc := 19) (16 : Int32) d_P_readGusts_19 rfl ?_
      refine G_icmp_gt g (pc := 21) 89 d_P_readGusts_21 (by decide) ?_ ?_
      · refine G_iload_n g (pc := 24) 2 d_P_readGusts_24 rfl rfl ?_
        refine G_if_eq g (pc := 25) 36 d_P_readGusts_25 (by decide) ?_ ?_
        · refine G_aload_n g (pc := 36) 1 d_P_readGusts_36 rfl rfl ?_
          refine G_iconst g (pc := 37) (0 : Int32) d_P_readGusts_37 rfl ?_
          refine G_bipush g (pc := 38) (30 : Int32) d_P_readGusts_38 rfl ?_
          refine G_cVZ g (pc := 40) (As := [.int (0 : Int32), .int (30 : Int32)]) (st := []) cc_P_75 (c_X_checkNumber l hw (0 : Int32) (30 : Int32) M) (hw.m 1 (Nat.le_of_ble_eq_true rfl)) (hw.k (Nat.le_of_ble_eq_true rfl) (zk1 rr)) rfl (by decide) rfl ⟨(Nat.le_of_ble_eq_true rfl), (Nat.le_of_ble_eq_true rfl)⟩ ⟨(Nat.le_of_ble_eq_true rfl), (Nat.le_of_ble_eq_true rfl)⟩ (Nat.le_of_ble_eq_true rfl) d_P_readGusts_40 (fun x4 M5 => ?_)
          refine G_if_neB g (pc := 43) 48 d_P_readGusts_43 (by decide) ?_ ?_
          · refine G_iload_n g (pc := 48) 2 d_P_readGusts_48 rfl rfl ?_
            refine G_bipush g (pc := 49) (16 : Int32) d_P_readGusts_49 rfl ?_
            refine G_icmp_ne g (pc := 51) 60 d_P_readGusts_51 (by decide) ?_ ?_
            · refine G_aload_n g (pc := 54) 1 d_P_readGusts_54 rfl rfl ?_
              refine G_iconst g (pc := 55) (3 : Int32) d_P_readGusts_55 rfl ?_
              refine G_cVZ g (pc := 56) (As := [.int (3 : Int32)]) (st := []) cc_P_78 (c_X_fail l hw (3 : Int32) M5) (hw.m 1 (Nat.le_of_ble_eq_true rfl)) (hw.k (Nat.le_of_ble_eq_true rfl) (zk1 rr)) rfl (by decide) rfl ⟨(Nat.le_of_ble_eq_true rfl), (Nat.le_of_ble_eq_true rfl)⟩ ⟨(Nat.le_of_ble_eq_true rfl), (Nat.le_of_ble_eq_true rfl)⟩ (Nat.le_of_ble_eq_true rfl) d_P_readGusts_56 (fun x6 M7 => ?_)
              exact G_zreturn g (pc := 59) x6 rfl hret (Nat.le_of_ble_eq_true rfl) (Nat.le_of_ble_eq_true rfl) d_P_readGusts_59
            · refine G_aload_n g (pc := 60) 0 d_P_readGusts_60 rfl rfl ?_
              refine G_getR g (pc := 61) fa_P_24 (hw.m 3 (Nat.le_of_ble_eq_true rfl)) (hw.k (Nat.le_of_ble_eq_true rfl) (zk3 rr)) (hw.r (Nat.le_of_ble_eq_true rfl) (zr3_4 rr)) d_P_readGusts_61 ?_
              refine G_iload_n g (pc := 64) 2 d_P_readGusts_64 rfl rfl ?_
              refine G_aload_n g (pc := 65) 1 d_P_readGusts_65 rfl rfl ?_
              refine G_getN g (pc := 66) fa_P_81 (hw.m 1 (Nat.le_of_ble_eq_true rfl)) (hw.k (Nat.le_of_ble_eq_true rfl) (zk1 rr)) d_P_readGusts_66 ?_
              refine G_cSNV g (pc := 69) (As := [.ref (wad w 4), .int v18, .int (M5 1 6)]) (st := []) cc_P_84 (c_G_putAt l hw 4 (hw.m 4 (Nat.le_of_ble_eq_true rfl)) (hw.k (Nat.le_of_ble_eq_true rfl) (zk4 rr)) (Nat.le_of_ble_eq_true rfl) v18 (M5 1 6) M5) rfl ⟨(Nat.le_of_ble_eq_true rfl), (Nat.le_of_ble_eq_true rfl)⟩ ⟨(Nat.le_of_ble_eq_true rfl), (Nat.le_of_ble_eq_true rfl)⟩ (Nat.le_of_ble_eq_true rfl) d_P_readGusts_69 (fun M9 => ?_)
              refine G_aload_n g (pc := 72) 0 d_P_readGusts_72 rfl rfl ?_
              refine G_iload_n g (pc := 73) 2 d_P_readGusts_73 rfl rfl ?_
              refine G_iconst g (pc := 74) (1 : Int32) d_P_readGusts_74 rfl ?_
              refine G_iadd g (pc := 75) d_P_readGusts_75 ?_
              refine G_put g (pc := 76) fa_P_31 fw_6_5 rfl rfl (hw.m 3 (Nat.le_of_ble_eq_true rfl)) (hw.k (Nat.le_of_ble_eq_true rfl) (zk3 rr)) d_P_readGusts_76 ?_
              refine G_nmM (fun M10 => ?_)
              refine G_aload_n g (pc := 79) 1 d_P_readGusts_79 rfl rfl ?_
              refine G_cVV g (pc := 80) (As := []) (st := []) cc_P_88 (c_X_advance l N hw M10) (hw.m 1 (Nat.le_of_ble_eq_true rfl)) (hw.k (Nat.le_of_ble_eq_true rfl) (zk1 rr)) rfl (by decide) rfl ⟨(Nat.le_of_ble_eq_true rfl), (Nat.le_of_ble_eq_true rfl)⟩ ⟨(Nat.le_of_ble_eq_true rfl), (Nat.le_of_ble_eq_true rfl)⟩ (Nat.le_of_ble_eq_true rfl) d_P_readGusts_80 (fun M12 => ?_)
              refine G_nmX (v18 + (1 : Int32)) (fun x13 e_x13 => ?_)
              refine G_iinc g (pc := 83) x13 _ 2 d_P_readGusts_83 rfl e_x13.symm (Nat.le_of_ble_eq_true rfl) rfl ?_
              refine G_goto g (pc := 86) 18 d_P_readGusts_86 (by decide) ?_
              refine G_sub [1, 2, 0] _ rfl ?_
              exact ih18 x13 M12
          · refine G_iconst g (pc := 46) (0 : Int32) d_P_readGusts_46 rfl ?_
            exact G_zreturn g (pc := 47) false rfl hret (Nat.le_of_ble_eq_true rfl) (Nat.le_of_ble_eq_true rfl) d_P_readGusts_47
        · refine G_aload_n g (pc := 28) 1 d_P_readGusts_28 rfl rfl ?_
          refine G_getN g (pc := 29) fa_P_72 (hw.m 1 (Nat.le_of_ble_eq_true rfl)) (hw.k (Nat.le_of_ble_eq_true rfl) (zk1 rr)) d_P_readGusts_29 ?_
          refine G_iconst g (pc := 32) (2 : Int32) d_P_readGusts_32 rfl ?_
          refine G_icmp_ne g (pc := 33) 89 d_P_readGusts_33 (by decide) ?_ ?_
          · refine G_aload_n g (pc := 36) 1 d_P_readGusts_36 rfl rfl ?_
            refine G_iconst g (pc := 37) (0 : Int32) d_P_readGusts_37 rfl ?_
            refine G_bipush g (pc := 38) (30 : Int32) d_P_readGusts_38 rfl ?_
            refine G_cVZ g (pc := 40) (As := [.int (0 : Int32), .int (30 : Int32)]) (st := []) cc_P_75 (c_X_checkNumber l hw (0 : Int32) (30 : Int32) M) (hw.m 1 (Nat.le_of_ble_eq_true rfl)) (hw.k (Nat.le_of_ble_eq_true rfl) (zk1 rr)) rfl (by decide) rfl ⟨(Nat.le_of_ble_eq_true rfl), (Nat.le_of_ble_eq_true rfl)⟩ ⟨(Nat.le_of_ble_eq_true rfl), (Nat.le_of_ble_eq_true rfl)⟩ (Nat.le_of_ble_eq_true rfl) d_P_readGusts_40 (fun x14 M15 => ?_)
            refine G_if_neB g (pc := 43) 48 d_P_readGusts_43 (by decide) ?_ ?_
            · refine G_iload_n g (pc := 48) 2 d_P_readGusts_48 rfl rfl ?_
              refine G_bipush g (pc := 49) (16 : Int32) d_P_readGusts_49 rfl ?_
              refine G_icmp_ne g (pc := 51) 60 d_P_readGusts_51 (by decide) ?_ ?_
              · refine G_aload_n g (pc := 54) 1 d_P_readGusts_54 rfl rfl ?_
                refine G_iconst g (pc := 55) (3 : Int32) d_P_readGusts_55 rfl ?_
                refine G_cVZ g (pc := 56) (As := [.int (3 : Int32)]) (st := []) cc_P_78 (c_X_fail l hw (3 : Int32) M15) (hw.m 1 (Nat.le_of_ble_eq_true rfl)) (hw.k (Nat.le_of_ble_eq_true rfl) (zk1 rr)) rfl (by decide) rfl ⟨(Nat.le_of_ble_eq_true rfl), (Nat.le_of_ble_eq_true rfl)⟩ ⟨(Nat.le_of_ble_eq_true rfl), (Nat.le_of_ble_eq_true rfl)⟩ (Nat.le_of_ble_eq_true rfl) d_P_readGusts_56 (fun x16 M17 => ?_)
                exact G_zreturn g (pc := 59) x16 rfl hret (Nat.le_of_ble_eq_true rfl) (Nat.le_of_ble_eq_true rfl) d_P_readGusts_59
              · refine G_aload_n g (pc := 60) 0 d_P_readGusts_60 rfl rfl ?_
                refine G_getR g (pc := 61) fa_P_24 (hw.m 3 (Nat.le_of_ble_eq_true rfl)) (hw.k (Nat.le_of_ble_eq_true rfl) (zk3 rr)) (hw.r (Nat.le_of_ble_eq_true rfl) (zr3_4 rr)) d_P_readGusts_61 ?_
                refine G_iload_n g (pc := 64) 2 d_P_readGusts_64 rfl rfl ?_
                refine G_aload_n g (pc := 65) 1 d_P_readGusts_65 rfl rfl ?_
                refine G_getN g (pc := 66) fa_P_81 (hw.m 1 (Nat.le_of_ble_eq_true rfl)) (hw.k (Nat.le_of_ble_eq_true rfl) (zk1 rr)) d_P_readGusts_66 ?_
                refine G_cSNV g (pc := 69) (As := [.ref (wad w 4), .int v18, .int (M15 1 6)]) (st := []) cc_P_84 (c_G_putAt l hw 4 (hw.m 4 (Nat.le_of_ble_eq_true rfl)) (hw.k (Nat.le_of_ble_eq_true rfl) (zk4 rr)) (Nat.le_of_ble_eq_true rfl) v18 (M15 1 6) M15) rfl ⟨(Nat.le_of_ble_eq_true rfl), (Nat.le_of_ble_eq_true rfl)⟩ ⟨(Nat.le_of_ble_eq_true rfl), (Nat.le_of_ble_eq_true rfl)⟩ (Nat.le_of_ble_eq_true rfl) d_P_readGusts_69 (fun M19 => ?_)
                refine G_aload_n g (pc := 72) 0 d_P_readGusts_72 rfl rfl ?_
                refine G_iload_n g (pc := 73) 2 d_P_readGusts_73 rfl rfl ?_
                refine G_iconst g (pc := 74) (1 : Int32) d_P_readGusts_74 rfl ?_
                refine G_iadd g (pc := 75) d_P_readGusts_75 ?_
                refine G_put g (pc := 76) fa_P_31 fw_6_5 rfl rfl (hw.m 3 (Nat.le_of_ble_eq_true rfl)) (hw.k (Nat.le_of_ble_eq_true rfl) (zk3 rr)) d_P_readGusts_76 ?_
                refine G_nmM (fun M20 => ?_)
                refine G_aload_n g (pc := 79) 1 d_P_readGusts_79 rfl rfl ?_
                refine G_cVV g (pc := 80) (As := []) (st := []) cc_P_88 (c_X_advance l N hw M20) (hw.m 1 (Nat.le_of_ble_eq_true rfl)) (hw.k (Nat.le_of_ble_eq_true rfl) (zk1 rr)) rfl (by decide) rfl ⟨(Nat.le_of_ble_eq_true rfl), (Nat.le_of_ble_eq_true rfl)⟩ ⟨(Nat.le_of_ble_eq_true rfl), (Nat.le_of_ble_eq_true rfl)⟩ (Nat.le_of_ble_eq_true rfl) d_P_readGusts_80 (fun M22 => ?_)
                refine G_nmX (v18 + (1 : Int32)) (fun x23 e_x23 => ?_)
                refine G_iinc g (pc := 83) x23 _ 2 d_P_readGusts_83 rfl e_x23.symm (Nat.le_of_ble_eq_true rfl) rfl ?_
                refine G_goto g (pc := 86) 18 d_P_readGusts_86 (by decide) ?_
                refine G_sub [1, 2, 0] _ rfl ?_
                exact ih18 x23 M22
            · refine G_iconst g (pc := 46) (0 : Int32) d_P_readGusts_46 rfl ?_
              exact G_zreturn g (pc := 47) false rfl hret (Nat.le_of_ble_eq_true rfl) (Nat.le_of_ble_eq_true rfl) d_P_readGusts_47
          · refine G_sub [0, 1, 2] _ rfl ?_
            exact hk18 v18 M
      · refine G_sub [0, 1, 2] _ rfl ?_
        exact hk18 v18 M
  · refine G_iconst g (pc := 9) (0 : Int32) d_P_readGusts_9 rfl ?_
    exact G_zreturn g (pc := 10) false rfl hret (Nat.le_of_ble_eq_true rfl) (Nat.le_of_ble_eq_true rfl) d_P_readGusts_10

theorem d_P_readInterval_0 : decode b_P_readInterval 0 = .ok (.aload_n 1, 1) := by decide +kernel
theorem d_P_readInterval_1 : decode b_P_readInterval 1 = .ok (.ldc 91, 2) := by decide +kernel
theorem d_P_readInterval_3 : decode b_P_readInterval 3 = .ok (.invokevirtual 60, 3) := by decide +kernel
theorem d_P_readInterval_6 : decode b_P_readInterval 6 = .ok (.ifCond .eq 13, 3) := by decide +kernel
theorem d_P_readInterval_9 : decode b_P_readInterval 9 = .ok (.aload_n 1, 1) := by decide +kernel
theorem d_P_readInterval_10 : decode b_P_readInterval 10 = .ok (.iconst 1, 1) := by decide +kernel
theorem d_P_readInterval_11 : decode b_P_readInterval 11 = .ok (.bipush 20, 2) := by decide +kernel
theorem d_P_readInterval_13 : decode b_P_readInterval 13 = .ok (.invokevirtual 64, 3) := by decide +kernel
theorem d_P_readInterval_16 : decode b_P_readInterval 16 = .ok (.ifCond .ne 5, 3) := by decide +kernel
theorem d_P_readInterval_19 : decode b_P_readInterval 19 = .ok (.iconst 0, 1) := by decide +kernel
theorem d_P_readInterval_20 : decode b_P_readInterval 20 = .ok (.ireturn, 1) := by decide +kernel
theorem d_P_readInterval_21 : decode b_P_readInterval 21 = .ok (.aload_n 0, 1) := by decide +kernel
theorem d_P_readInterval_22 : decode b_P_readInterval 22 = .ok (.aload_n 1, 1) := by decide +kernel
theorem d_P_readInterval_23 : decode b_P_readInterval 23 = .ok (.getfield 68, 3) := by decide +kernel
theorem d_P_readInterval_26 : decode b_P_readInterval 26 = .ok (.putfield 21, 3) := by decide +kernel
theorem d_P_readInterval_29 : decode b_P_readInterval 29 = .ok (.aload_n 1, 1) := by decide +kernel
theorem d_P_readInterval_30 : decode b_P_readInterval 30 = .ok (.iconst 3, 1) := by decide +kernel
theorem d_P_readInterval_31 : decode b_P_readInterval 31 = .ok (.invokevirtual 54, 3) := by decide +kernel
theorem d_P_readInterval_34 : decode b_P_readInterval 34 = .ok (.ireturn, 1) := by decide +kernel
def f_P_readInterval (N : Nat) (rr : Nat) (M : Mem) : Option (Bool × Mem) :=
  bnd (f_X_takeWord N rr 3 M) fun (x1 : Bool) (M2 : Mem) => if x1 = true then (bnd (f_X_takeNumber N rr (1 : Int32) (20 : Int32) M2) fun (x3 : Bool) (M4 : Mem) => if x3 = true then (nm (put M4 3 3 (M4 1 7)) fun (M5 : Mem) => bnd (f_X_takeSign N rr (3 : Int32) M5) fun (x6 : Bool) (M7 : Mem) => some (x6, M7)) else (some (false, M4))) else (some (false, M2))
set_option maxHeartbeats 4000000 in
set_option maxRecDepth 100000 in
theorem c_P_readInterval (l : Launch) (N : Nat) {w : Wc} {rr : Nat} (hw : WK w rr)  (M : Mem) : Ct QZ l y_P_readInterval b_P_readInterval 2 (some .boolean) (rmL 6) w [.ref (wad w 3), .ref (wad w 1)] M (f_P_readInterval N rr M) := by
  refine Ct.go (by decide) (L := [(0, .ref (wad w 3)), (1, .ref (wad w 1))]) rfl (Nat.le_of_ble_eq_true rfl) (fun p0 e s m args below meth c g hret => ?_)
  unfold f_P_readInterval
  refine G_aload_n g (pc := 0) 1 d_P_readInterval_0 rfl rfl ?_
  refine G_ldcS g (pc := 1) 3 (List.mem_of_getElem? (i := 3) rfl) d_P_readInterval_1 ?_
  refine G_cVZ g (pc := 3) (As := [.ref (wad w (1000 + 3))]) (st := []) cc_P_60 (c_X_takeWord l N hw 3 (by decide) M) (hw.m 1 (Nat.le_of_ble_eq_true rfl)) (hw.k (Nat.le_of_ble_eq_true rfl) (zk1 rr)) rfl (by decide) rfl ⟨(Nat.le_of_ble_eq_true rfl), (Nat.le_of_ble_eq_true rfl)⟩ ⟨(Nat.le_of_ble_eq_true rfl), (Nat.le_of_ble_eq_true rfl)⟩ (Nat.le_of_ble_eq_true rfl) d_P_readInterval_3 (fun x1 M2 => ?_)
  refine G_if_eqB g (pc := 6) 19 d_P_readInterval_6 (by decide) ?_ ?_
  · refine G_aload_n g (pc := 9) 1 d_P_readInterval_9 rfl rfl ?_
    refine G_iconst g (pc := 10) (1 : Int32) d_P_readInterval_10 rfl ?_
    refine G_bipush g (pc := 11) (20 : Int32) d_P_readInterval_11 rfl ?_
    refine G_cVZ g (pc := 13) (As := [.int (1 : Int32), .int (20 : Int32)]) (st := []) cc_P_64 (c_X_takeNumber l N hw (1 : Int32) (20 : Int32) M2) (hw.m 1 (Nat.le_of_ble_eq_true rfl)) (hw.k (Nat.le_of_ble_eq_true rfl) (zk1 rr)) rfl (by decide) rfl ⟨(Nat.le_of_ble_eq_true rfl), (Nat.le_of_ble_eq_true rfl)⟩ ⟨(Nat.le_of_ble_eq_true rfl), (Nat.le_of_ble_eq_true rfl)⟩ (Nat.le_of_ble_eq_true rfl) d_P_readInterval_13 (fun x3 M4 => ?_)
    refine G_if_neB g (pc := 16) 21 d_P_readInterval_16 (by decide) ?_ ?_
    · refine G_aload_n g (pc := 21) 0 d_P_readInterval_21 rfl rfl ?_
      refine G_aload_n g (pc := 22) 1 d_P_readInterval_22 rfl rfl ?_
      refine G_getN g (pc := 23) fa_P_68 (hw.m 1 (Nat.le_of_ble_eq_true rfl)) (hw.k (Nat.le_of_ble_eq_true rfl) (zk1 rr)) d_P_readInterval_23 ?_
      refine G_put g (pc := 26) fa_P_21 fw_6_3 rfl rfl (hw.m 3 (Nat.le_of_ble_eq_true rfl)) (hw.k (Nat.le_of_ble_eq_true rfl) (zk3 rr)) d_P_readInterval_26 ?_
      refine G_nmM (fun M5 => ?_)
      refine G_aload_n g (pc := 29) 1 d_P_readInterval_29 rfl rfl ?_
      refine G_iconst g (pc := 30) (3 : Int32) d_P_readInterval_30 rfl ?_
      refine G_cVZ g (pc := 31) (As := [.int (3 : Int32)]) (st := []) cc_P_54 (c_X_takeSign l N hw (3 : Int32) M5) (hw.m 1 (Nat.le_of_ble_eq_true rfl)) (hw.k (Nat.le_of_ble_eq_true rfl) (zk1 rr)) rfl (by decide) rfl ⟨(Nat.le_of_ble_eq_true rfl), (Nat.le_of_ble_eq_true rfl)⟩ ⟨(Nat.le_of_ble_eq_true rfl), (Nat.le_of_ble_eq_true rfl)⟩ (Nat.le_of_ble_eq_true rfl) d_P_readInterval_31 (fun x6 M7 => ?_)
      exact G_zreturn g (pc := 34) x6 rfl hret (Nat.le_of_ble_eq_true rfl) (Nat.le_of_ble_eq_true rfl) d_P_readInterval_34
    · refine G_iconst g (pc := 19) (0 : Int32) d_P_readInterval_19 rfl ?_
      exact G_zreturn g (pc := 20) false rfl hret (Nat.le_of_ble_eq_true rfl) (Nat.le_of_ble_eq_true rfl) d_P_readInterval_20
  · refine G_iconst g (pc := 19) (0 : Int32) d_P_readInterval_19 rfl ?_
    exact G_zreturn g (pc := 20) false rfl hret (Nat.le_of_ble_eq_true rfl) (Nat.le_of_ble_eq_true rfl) d_P_readInterval_20

theorem d_P_read_0 : decode b_P_read 0 = .ok (.aload_n 1, 1) := by decide +kernel
theorem d_P_read_1 : decode b_P_read 1 = .ok (.iload_n 2, 1) := by decide +kernel
theorem d_P_read_2 : decode b_P_read 2 = .ok (.invokevirtual 38, 3) := by decide +kernel
theorem d_P_read_5 : decode b_P_read 5 = .ok (.aload_n 0, 1) := by decide +kernel
theorem d_P_read_6 : decode b_P_read 6 = .ok (.aload_n 1, 1) := by decide +kernel
theorem d_P_read_7 : decode b_P_read 7 = .ok (.invokevirtual 44, 3) := by decide +kernel
theorem d_P_read_10 : decode b_P_read 10 = .ok (.ifCond .eq 31, 3) := by decide +kernel
theorem d_P_read_13 : decode b_P_read 13 = .ok (.aload_n 0, 1) := by decide +kernel
theorem d_P_read_14 : decode b_P_read 14 = .ok (.aload_n 1, 1) := by decide +kernel
theorem d_P_read_15 : decode b_P_read 15 = .ok (.invokevirtual 48, 3) := by decide +kernel
theorem d_P_read_18 : decode b_P_read 18 = .ok (.ifCond .eq 23, 3) := by decide +kernel
theorem d_P_read_21 : decode b_P_read 21 = .ok (.aload_n 0, 1) := by decide +kernel
theorem d_P_read_22 : decode b_P_read 22 = .ok (.aload_n 1, 1) := by decide +kernel
theorem d_P_read_23 : decode b_P_read 23 = .ok (.invokevirtual 51, 3) := by decide +kernel
theorem d_P_read_26 : decode b_P_read 26 = .ok (.ifCond .eq 15, 3) := by decide +kernel
theorem d_P_read_29 : decode b_P_read 29 = .ok (.aload_n 1, 1) := by decide +kernel
theorem d_P_read_30 : decode b_P_read 30 = .ok (.iconst 0, 1) := by decide +kernel
theorem d_P_read_31 : decode b_P_read 31 = .ok (.invokevirtual 54, 3) := by decide +kernel
theorem d_P_read_34 : decode b_P_read 34 = .ok (.ifCond .eq 7, 3) := by decide +kernel
theorem d_P_read_37 : decode b_P_read 37 = .ok (.iconst 1, 1) := by decide +kernel
theorem d_P_read_38 : decode b_P_read 38 = .ok (.goto 4, 3) := by decide +kernel
theorem d_P_read_41 : decode b_P_read 41 = .ok (.iconst 0, 1) := by decide +kernel
theorem d_P_read_42 : decode b_P_read 42 = .ok (.ireturn, 1) := by decide +kernel
theorem cc_P_38 : CV "KiteLogger$StationPlan" 38 y_X_begin b_X_begin 2 none 1 := ⟨TT_in (i := 481) (by decide +kernel) (by decide +kernel), TT_in (i := 482) (by decide +kernel) (by decide +kernel), TT_in (i := 483) (by decide +kernel) (by decide +kernel), TT_in (i := 19) (by decide +kernel) (by decide +kernel), TT_in (i := 484) (by decide +kernel) (by decide +kernel), ⟨by decide +kernel, by decide +kernel, by decide +kernel⟩⟩
theorem cc_P_44 : CV "KiteLogger$StationPlan" 44 y_P_readKite b_P_readKite 2 (some .boolean) 1 := ⟨TT_in (i := 501) (by decide +kernel) (by decide +kernel), TT_in (i := 503) (by decide +kernel) (by decide +kernel), TT_in (i := 3) (by decide +kernel) (by decide +kernel), TT_in (i := 20) (by decide +kernel) (by decide +kernel), TT_in (i := 504) (by decide +kernel) (by decide +kernel), ⟨by decide +kernel, by decide +kernel, by decide +kernel⟩⟩
theorem cc_P_48 : CV "KiteLogger$StationPlan" 48 y_P_readGusts b_P_readGusts 3 (some .boolean) 1 := ⟨TT_in (i := 581) (by decide +kernel) (by decide +kernel), TT_in (i := 583) (by decide +kernel) (by decide +kernel), TT_in (i := 4) (by decide +kernel) (by decide +kernel), TT_in (i := 20) (by decide +kernel) (by decide +kernel), TT_in (i := 584) (by decide +kernel) (by decide +kernel), ⟨by decide +kernel, by decide +kernel, by decide +kernel⟩⟩
theorem cc_P_51 : CV "KiteLogger$StationPlan" 51 y_P_readInterval b_P_readInterval 2 (some .boolean) 1 := ⟨TT_in (i := 592) (by decide +kernel) (by decide +kernel), TT_in (i := 594) (by decide +kernel) (by decide +kernel), TT_in (i := 5) (by decide +kernel) (by decide +kernel), TT_in (i := 20) (by decide +kernel) (by decide +kernel), TT_in (i := 595) (by decide +kernel) (by decide +kernel), ⟨by decide +kernel, by decide +kernel, by decide +kernel⟩⟩
def f_P_read (N : Nat) (rr : Nat) (a2 : Int32) (M : Mem) : Option (Bool × Mem) :=
  bndM (f_X_begin N rr a2 M) fun (M2 : Mem) => bnd (f_P_readKite N rr M2) fun (x3 : Bool) (M4 : Mem) => if x3 = true then (bnd (f_P_readGusts N rr M4) fun (x5 : Bool) (M6 : Mem) => if x5 = true then (bnd (f_P_readInterval N rr M6) fun (x7 : Bool) (M8 : Mem) => if x7 = true then (bnd (f_X_takeSign N rr (0 : Int32) M8) fun (x9 : Bool) (M10 : Mem) => if x9 = true then (some (true, M10)) else (some (false, M10))) else (some (false, M8))) else (some (false, M6))) else (some (false, M4))
set_option maxHeartbeats 4000000 in
set_option maxRecDepth 100000 in
theorem c_P_read (l : Launch) (N : Nat) {w : Wc} {rr : Nat} (hw : WK w rr) (a2 : Int32) (M : Mem) : Ct QZ l y_P_read b_P_read 3 (some .boolean) (rmL 7) w [.ref (wad w 3), .ref (wad w 1), .int a2] M (f_P_read N rr a2 M) := by
  refine Ct.go (by decide) (L := [(0, .ref (wad w 3)), (1, .ref (wad w 1)), (2, .int a2)]) rfl (Nat.le_of_ble_eq_true rfl) (fun p0 e s m args below meth c g hret => ?_)
  unfold f_P_read
  refine G_aload_n g (pc := 0) 1 d_P_read_0 rfl rfl ?_
  refine G_iload_n g (pc := 1) 2 d_P_read_1 rfl rfl ?_
  refine G_cVV g (pc := 2) (As := [.int a2]) (st := []) cc_P_38 (c_X_begin l N hw a2 M) (hw.m 1 (Nat.le_of_ble_eq_true rfl)) (hw.k (Nat.le_of_ble_eq_true rfl) (zk1 rr)) rfl (by decide) rfl ⟨(Nat.le_of_ble_eq_true rfl), (Nat.le_of_ble_eq_true rfl)⟩ ⟨(Nat.le_of_ble_eq_true rfl), (Nat.le_of_ble_eq_true rfl)⟩ (Nat.le_of_ble_eq_true rfl) d_P_read_2 (fun M2 => ?_)
  refine G_aload_n g (pc := 5) 0 d_P_read_5 rfl rfl ?_
  refine G_aload_n g (pc := 6) 1 d_P_read_6 rfl rfl ?_
  refine G_cVZ g (pc := 7) (As := [.ref (wad w 1)]) (st := []) cc_P_44 (c_P_readKite l N hw M2) (hw.m 3 (Nat.le_of_ble_eq_true rfl)) (hw.k (Nat.le_of_ble_eq_true rfl) (zk3 rr)) rfl (by decide) rfl ⟨(Nat.le_of_ble_eq_true rfl), (Nat.le_of_ble_eq_true rfl)⟩ ⟨(Nat.le_of_ble_eq_true rfl), (Nat.le_of_ble_eq_true rfl)⟩ (Nat.le_of_ble_eq_true rfl) d_P_read_7 (fun x3 M4 => ?_)
  refine G_if_eqB g (pc := 10) 41 d_P_read_10 (by decide) ?_ ?_
  · refine G_aload_n g (pc := 13) 0 d_P_read_13 rfl rfl ?_
    refine G_aload_n g (pc := 14) 1 d_P_read_14 rfl rfl ?_
    refine G_cVZ g (pc := 15) (As := [.ref (wad w 1)]) (st := []) cc_P_48 (c_P_readGusts l N hw M4) (hw.m 3 (Nat.le_of_ble_eq_true rfl)) (hw.k (Nat.le_of_ble_eq_true rfl) (zk3 rr)) rfl (by decide) rfl ⟨(Nat.le_of_ble_eq_true rfl), (Nat.le_of_ble_eq_true rfl)⟩ ⟨(Nat.le_of_ble_eq_true rfl), (Nat.le_of_ble_eq_true rfl)⟩ (Nat.le_of_ble_eq_true rfl) d_P_read_15 (fun x5 M6 => ?_)
    refine G_if_eqB g (pc := 18) 41 d_P_read_18 (by decide) ?_ ?_
    · refine G_aload_n g (pc := 21) 0 d_P_read_21 rfl rfl ?_
      refine G_aload_n g (pc := 22) 1 d_P_read_22 rfl rfl ?_
      refine G_cVZ g (pc := 23) (As := [.ref (wad w 1)]) (st := []) cc_P_51 (c_P_readInterval l N hw M6) (hw.m 3 (Nat.le_of_ble_eq_true rfl)) (hw.k (Nat.le_of_ble_eq_true rfl) (zk3 rr)) rfl (by decide) rfl ⟨(Nat.le_of_ble_eq_true rfl), (Nat.le_of_ble_eq_true rfl)⟩ ⟨(Nat.le_of_ble_eq_true rfl), (Nat.le_of_ble_eq_true rfl)⟩ (Nat.le_of_ble_eq_true rfl) d_P_read_23 (fun x7 M8 => ?_)
      refine G_if_eqB g (pc := 26) 41 d_P_read_26 (by decide) ?_ ?_
      · refine G_aload_n g (pc := 29) 1 d_P_read_29 rfl rfl ?_
        refine G_iconst g (pc := 30) (0 : Int32) d_P_read_30 rfl ?_
        refine G_cVZ g (pc := 31) (As := [.int (0 : Int32)]) (st := []) cc_P_54 (c_X_takeSign l N hw (0 : Int32) M8) (hw.m 1 (Nat.le_of_ble_eq_true rfl)) (hw.k (Nat.le_of_ble_eq_true rfl) (zk1 rr)) rfl (by decide) rfl ⟨(Nat.le_of_ble_eq_true rfl), (Nat.le_of_ble_eq_true rfl)⟩ ⟨(Nat.le_of_ble_eq_true rfl), (Nat.le_of_ble_eq_true rfl)⟩ (Nat.le_of_ble_eq_true rfl) d_P_read_31 (fun x9 M10 => ?_)
        refine G_if_eqB g (pc := 34) 41 d_P_read_34 (by decide) ?_ ?_
        · refine G_iconst g (pc := 37) (1 : Int32) d_P_read_37 rfl ?_
          refine G_goto g (pc := 38) 42 d_P_read_38 (by decide) ?_
          exact G_zreturn g (pc := 42) true rfl hret (Nat.le_of_ble_eq_true rfl) (Nat.le_of_ble_eq_true rfl) d_P_read_42
        · refine G_iconst g (pc := 41) (0 : Int32) d_P_read_41 rfl ?_
          exact G_zreturn g (pc := 42) false rfl hret (Nat.le_of_ble_eq_true rfl) (Nat.le_of_ble_eq_true rfl) d_P_read_42
      · refine G_iconst g (pc := 41) (0 : Int32) d_P_read_41 rfl ?_
        exact G_zreturn g (pc := 42) false rfl hret (Nat.le_of_ble_eq_true rfl) (Nat.le_of_ble_eq_true rfl) d_P_read_42
    · refine G_iconst g (pc := 41) (0 : Int32) d_P_read_41 rfl ?_
      exact G_zreturn g (pc := 42) false rfl hret (Nat.le_of_ble_eq_true rfl) (Nat.le_of_ble_eq_true rfl) d_P_read_42
  · refine G_iconst g (pc := 41) (0 : Int32) d_P_read_41 rfl ?_
    exact G_zreturn g (pc := 42) false rfl hret (Nat.le_of_ble_eq_true rfl) (Nat.le_of_ble_eq_true rfl) d_P_read_42
