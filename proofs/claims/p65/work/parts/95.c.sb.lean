/-! a builder grows; a letter behind it -/
abbrev b_cof : ByteArray := prog_28_method_121_code
abbrev y_cof : MethodName := ⟨"java/util/Arrays", "copyOf", "([BI)[B"⟩
theorem d_cof_0 : decode b_cof 0 = .ok (.iload_n 1, 1) := by decide +kernel
theorem d_cof_1 : decode b_cof 1 = .ok (.aload_n 0, 1) := by decide +kernel
theorem d_cof_2 : decode b_cof 2 = .ok (.arraylength, 1) := by decide +kernel
theorem d_cof_3 : decode b_cof 3 = .ok (.if_icmp .ne 11, 3) := by decide +kernel
theorem d_cof_6 : decode b_cof 6 = .ok (.aload_n 0, 1) := by decide +kernel
theorem d_cof_7 : decode b_cof 7 = .ok (.invokevirtual 310, 3) := by decide +kernel
theorem d_cof_10 : decode b_cof 10 = .ok (.checkcast 311, 3) := by decide +kernel
theorem d_cof_13 : decode b_cof 13 = .ok (.areturn, 1) := by decide +kernel
theorem d_cof_14 : decode b_cof 14 = .ok (.iload_n 1, 1) := by decide +kernel
theorem d_cof_15 : decode b_cof 15 = .ok (.newarray .byte, 2) := by decide +kernel
theorem d_cof_17 : decode b_cof 17 = .ok (.astore_n 2, 1) := by decide +kernel
theorem d_cof_18 : decode b_cof 18 = .ok (.aload_n 0, 1) := by decide +kernel
theorem d_cof_19 : decode b_cof 19 = .ok (.iconst 0, 1) := by decide +kernel
theorem d_cof_20 : decode b_cof 20 = .ok (.aload_n 2, 1) := by decide +kernel
theorem d_cof_21 : decode b_cof 21 = .ok (.iconst 0, 1) := by decide +kernel
theorem d_cof_22 : decode b_cof 22 = .ok (.aload_n 0, 1) := by decide +kernel
theorem d_cof_23 : decode b_cof 23 = .ok (.arraylength, 1) := by decide +kernel
theorem d_cof_24 : decode b_cof 24 = .ok (.iload_n 1, 1) := by decide +kernel
theorem d_cof_25 : decode b_cof 25 = .ok (.invokestatic 304, 3) := by decide +kernel
theorem d_cof_28 : decode b_cof 28 = .ok (.invokestatic 150, 3) := by decide +kernel
theorem d_cof_31 : decode b_cof 31 = .ok (.aload_n 2, 1) := by decide +kernel
theorem d_cof_32 : decode b_cof 32 = .ok (.areturn, 1) := by decide +kernel
abbrev b_ens : ByteArray := prog_13_method_9_code
abbrev y_ens : MethodName := ⟨"java/lang/AbstractStringBuilder", "ensureCapacityInternal", "(I)V"⟩
theorem d_ens_0 : decode b_ens 0 = .ok (.aload_n 0, 1) := by decide +kernel
theorem d_ens_1 : decode b_ens 1 = .ok (.getfield 15, 3) := by decide +kernel
theorem d_ens_4 : decode b_ens 4 = .ok (.arraylength, 1) := by decide +kernel
theorem d_ens_5 : decode b_ens 5 = .ok (.aload_n 0, 1) := by decide +kernel
theorem d_ens_6 : decode b_ens 6 = .ok (.getfield 22, 3) := by decide +kernel
theorem d_ens_9 : decode b_ens 9 = .ok (.ishr, 1) := by decide +kernel
theorem d_ens_10 : decode b_ens 10 = .ok (.istore_n 2, 1) := by decide +kernel
theorem d_ens_11 : decode b_ens 11 = .ok (.iload_n 1, 1) := by decide +kernel
theorem d_ens_12 : decode b_ens 12 = .ok (.iload_n 2, 1) := by decide +kernel
theorem d_ens_13 : decode b_ens 13 = .ok (.isub, 1) := by decide +kernel
theorem d_ens_14 : decode b_ens 14 = .ok (.ifCond .le 24, 3) := by decide +kernel
theorem d_ens_17 : decode b_ens 17 = .ok (.aload_n 0, 1) := by decide +kernel
theorem d_ens_18 : decode b_ens 18 = .ok (.aload_n 0, 1) := by decide +kernel
theorem d_ens_19 : decode b_ens 19 = .ok (.getfield 15, 3) := by decide +kernel
theorem d_ens_22 : decode b_ens 22 = .ok (.aload_n 0, 1) := by decide +kernel
theorem d_ens_23 : decode b_ens 23 = .ok (.iload_n 1, 1) := by decide +kernel
theorem d_ens_24 : decode b_ens 24 = .ok (.invokevirtual 104, 3) := by decide +kernel
theorem d_ens_27 : decode b_ens 27 = .ok (.aload_n 0, 1) := by decide +kernel
theorem d_ens_28 : decode b_ens 28 = .ok (.getfield 22, 3) := by decide +kernel
theorem d_ens_31 : decode b_ens 31 = .ok (.ishl, 1) := by decide +kernel
theorem d_ens_32 : decode b_ens 32 = .ok (.invokestatic 108, 3) := by decide +kernel
theorem d_ens_35 : decode b_ens 35 = .ok (.putfield 15, 3) := by decide +kernel
theorem d_ens_38 : decode b_ens 38 = .ok (.return_, 1) := by decide +kernel
abbrev b_apc : ByteArray := prog_13_method_31_code
abbrev y_apc : MethodName := ⟨"java/lang/AbstractStringBuilder", "append", "(C)Ljava/lang/AbstractStringBuilder;"⟩
theorem d_apc_0 : decode b_apc 0 = .ok (.aload_n 0, 1) := by decide +kernel
theorem d_apc_1 : decode b_apc 1 = .ok (.aload_n 0, 1) := by decide +kernel
theorem d_apc_2 : decode b_apc 2 = .ok (.getfield 79, 3) := by decide +kernel
theorem d_apc_5 : decode b_apc 5 = .ok (.iconst 1, 1) := by decide +kernel
theorem d_apc_6 : decode b_apc 6 = .ok (.iadd, 1) := by decide +kernel
theorem d_apc_7 : decode b_apc 7 = .ok (.invokevirtual 100, 3) := by decide +kernel
theorem d_apc_10 : decode b_apc 10 = .ok (.aload_n 0, 1) := by decide +kernel
theorem d_apc_11 : decode b_apc 11 = .ok (.invokevirtual 83, 3) := by decide +kernel
theorem d_apc_14 : decode b_apc 14 = .ok (.ifCond .eq 31, 3) := by decide +kernel
theorem d_apc_17 : decode b_apc 17 = .ok (.iload_n 1, 1) := by decide +kernel
theorem d_apc_18 : decode b_apc 18 = .ok (.invokestatic 191, 3) := by decide +kernel
theorem d_apc_21 : decode b_apc 21 = .ok (.ifCond .eq 24, 3) := by decide +kernel
theorem d_apc_24 : decode b_apc 24 = .ok (.aload_n 0, 1) := by decide +kernel
theorem d_apc_25 : decode b_apc 25 = .ok (.getfield 15, 3) := by decide +kernel
theorem d_apc_28 : decode b_apc 28 = .ok (.aload_n 0, 1) := by decide +kernel
theorem d_apc_29 : decode b_apc 29 = .ok (.dup, 1) := by decide +kernel
theorem d_apc_30 : decode b_apc 30 = .ok (.getfield 79, 3) := by decide +kernel
theorem d_apc_33 : decode b_apc 33 = .ok (.dup_x1, 1) := by decide +kernel
theorem d_apc_34 : decode b_apc 34 = .ok (.iconst 1, 1) := by decide +kernel
theorem d_apc_35 : decode b_apc 35 = .ok (.iadd, 1) := by decide +kernel
theorem d_apc_36 : decode b_apc 36 = .ok (.putfield 79, 3) := by decide +kernel
theorem d_apc_39 : decode b_apc 39 = .ok (.iload_n 1, 1) := by decide +kernel
theorem d_apc_40 : decode b_apc 40 = .ok (.i2b, 1) := by decide +kernel
theorem d_apc_41 : decode b_apc 41 = .ok (.bastore, 1) := by decide +kernel
theorem d_apc_42 : decode b_apc 42 = .ok (.goto 33, 3) := by decide +kernel
theorem d_apc_45 : decode b_apc 45 = .ok (.aload_n 0, 1) := by decide +kernel
theorem d_apc_46 : decode b_apc 46 = .ok (.invokevirtual 83, 3) := by decide +kernel
theorem d_apc_49 : decode b_apc 49 = .ok (.ifCond .eq 7, 3) := by decide +kernel
theorem d_apc_52 : decode b_apc 52 = .ok (.aload_n 0, 1) := by decide +kernel
theorem d_apc_53 : decode b_apc 53 = .ok (.invokevirtual 195, 3) := by decide +kernel
theorem d_apc_56 : decode b_apc 56 = .ok (.aload_n 0, 1) := by decide +kernel
theorem d_apc_57 : decode b_apc 57 = .ok (.getfield 15, 3) := by decide +kernel
theorem d_apc_60 : decode b_apc 60 = .ok (.aload_n 0, 1) := by decide +kernel
theorem d_apc_61 : decode b_apc 61 = .ok (.dup, 1) := by decide +kernel
theorem d_apc_62 : decode b_apc 62 = .ok (.getfield 79, 3) := by decide +kernel
theorem d_apc_65 : decode b_apc 65 = .ok (.dup_x1, 1) := by decide +kernel
theorem d_apc_66 : decode b_apc 66 = .ok (.iconst 1, 1) := by decide +kernel
theorem d_apc_67 : decode b_apc 67 = .ok (.iadd, 1) := by decide +kernel
theorem d_apc_68 : decode b_apc 68 = .ok (.putfield 79, 3) := by decide +kernel
theorem d_apc_71 : decode b_apc 71 = .ok (.iload_n 1, 1) := by decide +kernel
theorem d_apc_72 : decode b_apc 72 = .ok (.invokestatic 197, 3) := by decide +kernel
theorem d_apc_75 : decode b_apc 75 = .ok (.aload_n 0, 1) := by decide +kernel
theorem d_apc_76 : decode b_apc 76 = .ok (.areturn, 1) := by decide +kernel
abbrev b_sapc : ByteArray := prog_23_method_14_code
abbrev y_sapc : MethodName := ⟨"java/lang/StringBuilder", "append", "(C)Ljava/lang/StringBuilder;"⟩
theorem d_sapc_0 : decode b_sapc 0 = .ok (.aload_n 0, 1) := by decide +kernel
theorem d_sapc_1 : decode b_sapc 1 = .ok (.iload_n 1, 1) := by decide +kernel
theorem d_sapc_2 : decode b_sapc 2 = .ok (.invokespecial 50, 3) := by decide +kernel
theorem d_sapc_5 : decode b_sapc 5 = .ok (.pop, 1) := by decide +kernel
theorem d_sapc_6 : decode b_sapc 6 = .ok (.aload_n 0, 1) := by decide +kernel
theorem d_sapc_7 : decode b_sapc 7 = .ok (.areturn, 1) := by decide +kernel
theorem ma_AR_304 : Cond.methodLink "java/util/Arrays" 304 Lib.Math.min.name ∈ TT ∧ Cond.static Lib.Math.min.name ∈ TT ∧ Cond.initialized "java/lang/Math" ∈ TT ∧ Cond.code Lib.Math.min.name Lib.Math.min.code 2 (some .int) ∈ TT := ⟨TT_in (i := 1194) (by decide +kernel) (by decide +kernel), TT_in (i := 107) (by decide +kernel) (by decide +kernel), TT_in (i := 21) (by decide +kernel) (by decide +kernel), TT_in (i := 108) (by decide +kernel) (by decide +kernel)⟩
theorem ma_AR_150 : Cond.methodLink "java/util/Arrays" 150 arraycopyName ∈ TT ∧ Cond.native arraycopyName ∈ TT ∧ Cond.static arraycopyName ∈ TT ∧ Cond.initialized "java/lang/System" ∈ TT := ⟨TT_in (i := 1195) (by decide +kernel) (by decide +kernel), TT_in (i := 111) (by decide +kernel) (by decide +kernel), TT_in (i := 110) (by decide +kernel) (by decide +kernel), TT_in (i := 22) (by decide +kernel) (by decide +kernel)⟩
theorem aB : Cond.arrayClass .byte ∈ TT := TT_in (i := 94) (by decide +kernel) (by decide +kernel)
set_option maxHeartbeats 4000000 in
set_option maxRecDepth 100000 in
theorem c_cof (l : Launch) {w : Wc} (had : Ad w) {j b m q : Nat} {z : Shp} (M : Mem) (h1 : b < j) (hj : j ≤ 800) (h7 : (z b).1 = 21) (h8 : (z b).2.1 = m) (hq : m < q) (hq2 : q ≤ 2000) (hf : fB (M b)) : CtG l y_cof b_cof 3 (some (.array .byte)) (rmC 1 1 q) w j z [.ref (wad w b), .int (nI q)] M (QgR w (j + 1) j (fun z2 M2 => z2 = zfr z j 21 q ∧ (∀ p, p ≠ j → M2 p = M p) ∧ fB (M2 j) ∧ ∀ i, i < m → M2 j i = M b i)) := by
  refine CtG.go (by decide) (L := [(0, .ref (wad w b)), (1, .int (nI q))]) rfl (Nat.le_of_ble_eq_true rfl) (fun p0 e s mm args below meth c hnm hsz hao g hret => ?_)
  refine G_iload_n g (pc := 0) 1 d_cof_0 rfl rfl ?_
  refine G_aload_n g (pc := 1) 0 d_cof_1 rfl rfl ?_
  refine G_alenB g (pc := 2) (nI m) (List.mem_range.mpr h1) h7 (by show nI (z b).2.1 = _; rw [h8]) d_cof_2 ?_
  refine K_icmp_ne_T g (pc := 3) 14 ((fun e0 => by have := (nI_eq (by omega) (by omega)).mp e0; omega)) d_cof_3 (by decide) ?_
  refine G_iload_n g (pc := 14) 1 d_cof_14 rfl rfl ?_
  refine G_newB g (pc := 15) (N := q) had (by omega) hsz aB (by omega) ⟨(Nat.le_of_ble_eq_true rfl), (by show 0 + q ≤ q; omega)⟩ d_cof_15 ?_
  have g1 := Gd.wg (z2 := zfr z j 21 q) (j2 := j + 1) had (by omega) g
  have zb : zfr z j 21 q b = z b := if_neg (by omega)
  have zj : zfr z j 21 q j = (21, q, fun _ => none) := if_pos rfl
  have mb : setR M j (fun _ => 0) b = M b := setR_ne (by omega)
  refine G_astore_n g1 (pc := 17) _ d_cof_17 rfl (Nat.le_of_ble_eq_true rfl) rfl ?_
  refine G_aload_n g1 (pc := 18) 1 d_cof_18 rfl rfl ?_
  refine G_iconst g1 (pc := 19) (0 : Int32) d_cof_19 rfl ?_
  refine G_aload_n g1 (pc := 20) 0 d_cof_20 rfl rfl ?_
  refine G_iconst g1 (pc := 21) (0 : Int32) d_cof_21 rfl ?_
  refine G_aload_n g1 (pc := 22) 1 d_cof_22 rfl rfl ?_
  refine G_alenB g1 (pc := 23) (nI m) (List.mem_range.mpr (by omega)) (by show (zfr z j 21 q b).1 = 21; rw [zb]; exact h7) (by show nI (zfr z j 21 q b).2.1 = _; rw [zb, h8]) d_cof_23 ?_
  refine G_iload_n g1 (pc := 24) 2 d_cof_24 rfl rfl ?_
  refine G_mmin g1 (pc := 25) ma_AR_304 ⟨(Nat.le_of_ble_eq_true rfl), (Nat.le_of_ble_eq_true rfl), (by show 0 + 1 ≤ 1; omega), (by show 0 + q ≤ q; omega)⟩ d_cof_25 ?_
  refine Go.top (y := nI m) (by rw [imin_nI (by omega) (by omega), Nat.min_eq_left (by omega)]) ?_
  refine G_copyB g1 (pc := 28) (q0 := b) (q1 := j) (n0 := m) (n1 := q) (sp := 0) (dp := 0) (z := nI m) ma_AR_150 ⟨(Nat.le_of_ble_eq_true rfl), (Nat.le_of_ble_eq_true rfl)⟩ (List.mem_range.mpr (by omega)) (by show (zfr z j 21 q b).1 = 21; rw [zb]; exact h7) (by show (zfr z j 21 q b).2.1 = m; rw [zb]; exact h8) (List.mem_range.mpr (by omega)) (by show (zfr z j 21 q j).1 = 21; rw [zj]) (by show (zfr z j 21 q j).2.1 = q; rw [zj]) (show cpB (nI 0) (nI 0) (nI m) m q = true from cpB_nI (by omega) (by omega) (by omega) (by omega)) (by rw [mb]; exact hf) d_cof_28 ?_
  refine G_aload_n g1 (pc := 31) 0 d_cof_31 rfl rfl ?_
  refine G_gretR g1 (pc := 32) (q := j) ⟨rfl, fun p hp => by rw [setR_ne hp, setR_ne hp], ?_, fun i hi => ?_⟩ hret (Or.inr ⟨_, rfl⟩) (Nat.le_of_ble_eq_true rfl) (by show 0 + q ≤ q; omega) d_cof_32
  · rw [setR_self, mb, setR_self]; exact fB_cpy hf fB_0
  · rw [setR_self, mb, setR_self, show (0 : Int32).toNatClampNeg = 0 from rfl, nI_clamp (by omega), pk_cpy_in (Nat.zero_le _) (by omega)]
    congr 1; omega
theorem cj_A_104 : CP "java/lang/AbstractStringBuilder" 104 y_ncap b_ncap 6 (some .int) 1 := ⟨TT_in (i := 1172) (by decide +kernel) (by decide +kernel), TT_in (i := 1364) (by decide +kernel) (by decide +kernel), NW_in (i := 1173) (by decide +kernel) (by decide +kernel), TT_in (i := 1174) (by decide +kernel) (by decide +kernel), TT_in (i := 30) (by decide +kernel) (by decide +kernel), TT_in (i := 1175) (by decide +kernel) (by decide +kernel), ⟨by decide +kernel, by decide +kernel, by decide +kernel⟩⟩
theorem cj_A_108 : CS "java/lang/AbstractStringBuilder" 108 y_cof b_cof 3 (some (.array .byte)) 2 := ⟨TT_in (i := 1184) (by decide +kernel) (by decide +kernel), TT_in (i := 1185) (by decide +kernel) (by decide +kernel), TT_in (i := 35) (by decide +kernel) (by decide +kernel), TT_in (i := 1186) (by decide +kernel) (by decide +kernel), ⟨by decide +kernel, by decide +kernel, by decide +kernel⟩⟩
set_option maxHeartbeats 4000000 in
set_option maxRecDepth 100000 in
theorem c_ens (l : Launch) {w : Wc} (had : Ad w) {j b m q : Nat} {z : Shp} {x : List Nat} (M : Mem) (h : SBS z M j b m x) (hj : j < 800) (hq2 : nc q m ≤ 1000) : CtG l y_ens b_ens 3 none (rmC 3 (gr q m) (gs q m)) w j z [.ref (wad w 146), .int (nI q)] M (QgV w (j + gr q m) (fun z2 M2 => SBS z2 M2 (j + gr q m) (nb q m b j) (nc q m) x ∧ SFr z M z2 M2)) := by
  have hh := h
  obtain ⟨h1, h2, h3, h4, h5, h6, h7, h8, h9, h10, h11, h12, h13, h14⟩ := h
  have hq3 : q ≤ 1000 := by
    by_cases hc : q ≤ m
    · omega
    · have e0 : nc q m = m + max (q - m) (m + 2) := if_neg hc
      omega
  have e1 : (nI q - nI m).toInt = (q : Int) - m := pk_sub_toInt (by omega) (by omega)
  refine CtG.go (by decide) (L := [(0, .ref (wad w 146)), (1, .int (nI q))]) rfl (Nat.le_of_ble_eq_true rfl) (fun p0 e s mm args below meth c hnm hsz hao g hret => ?_)
  refine G_aload_n g (pc := 0) 0 d_ens_0 rfl rfl ?_
  refine G_getR g (pc := 1) fa_A_15 (List.mem_range.mpr h1) h5 h6 d_ens_1 ?_
  refine G_alenB g (pc := 4) (nI m) (List.mem_range.mpr h4) h7 (by show nI (z b).2.1 = _; rw [h8]) d_ens_4 ?_
  refine G_aload_n g (pc := 5) 0 d_ens_5 rfl rfl ?_
  refine G_get g (pc := 6) fa_A_22 (List.mem_range.mpr h1) h5 d_ens_6 ?_
  refine Go.top (y := (0 : Int32)) h10 ?_
  refine G_ishr g (pc := 9) d_ens_9 ?_
  refine Go.top (y := nI m) (sh0 _) ?_
  refine G_istore_n g (pc := 10) _ d_ens_10 rfl (Nat.le_of_ble_eq_true rfl) rfl ?_
  refine G_iload_n g (pc := 11) 2 d_ens_11 rfl rfl ?_
  refine G_iload_n g (pc := 12) 0 d_ens_12 rfl rfl ?_
  refine G_isub g (pc := 13) d_ens_13 ?_
  by_cases hc : q ≤ m
  · have a1 : gr q m = 0 := if_pos hc
    have a2 : nb q m b j = b := if_pos hc
    have a3 : nc q m = m := if_pos hc
    rw [a1, a2, a3]
    refine K_if_le_T g (pc := 14) 38 ((by rw [Int32.le_iff_toInt_le, e1, Int32.toInt_zero]; omega)) d_ens_14 (by decide) ?_
    exact G_gretV g (pc := 38) ⟨hh, SFr.rf⟩ hret (Nat.zero_le _) (Nat.zero_le _) d_ens_38
  · have a1 : gr q m = 1 := if_neg hc
    have a2 : nb q m b j = j := if_neg hc
    have a4 : gs q m = nc q m := if_neg hc
    rw [a1, a2, a4]
    refine K_if_le_F g (pc := 14) 38 ((by rw [Int32.le_iff_toInt_le, e1, Int32.toInt_zero]; omega)) d_ens_14 (by decide) ?_
    refine G_aload_n g (pc := 17) 1 d_ens_17 rfl rfl ?_
    refine G_aload_n g (pc := 18) 1 d_ens_18 rfl rfl ?_
    refine G_getR g (pc := 19) fa_A_15 (List.mem_range.mpr h1) h5 h6 d_ens_19 ?_
    refine G_aload_n g (pc := 22) 1 d_ens_22 rfl rfl ?_
    refine G_iload_n g (pc := 23) 2 d_ens_23 rfl rfl ?_
    refine G_gI0 (RG_P g (pc := 24) (q := 146) (As := [.int (nI q)]) (st := [.ref (wad w b), .ref (wad w 146)]) had hao (by omega) (by omega) hsz cj_A_104 (c_ncap l had M hh (by omega) (by omega)) (List.mem_range.mpr h1) h5 rfl ⟨(Nat.le_of_ble_eq_true rfl), (Nat.le_of_ble_eq_true rfl)⟩ ⟨Nat.zero_le _, Nat.zero_le _⟩ (Nat.le_of_ble_eq_true rfl) d_ens_24) (fun z2 M2 hh => ?_)
    obtain ⟨rfl, rfl⟩ := hh
    refine G_aload_n g (pc := 27) 1 d_ens_27 rfl rfl ?_
    refine G_get g (pc := 28) fa_A_22 (List.mem_range.mpr h1) h5 d_ens_28 ?_
    refine Go.top (y := (0 : Int32)) h10 ?_
    refine G_ishl g (pc := 31) d_ens_31 ?_
    refine Go.top (y := nI (nc q m)) (shl0 _) ?_
    have hlt : m < nc q m := by
      have e0 : nc q m = m + max (q - m) (m + 2) := if_neg hc
      omega
    refine G_gR (RG_S g (pc := 32) (As := [.ref (wad w b), .int (nI (nc q m))]) (st := [.ref (wad w 146)]) had hao (by omega) (by omega) hsz cj_A_108 (c_cof l had M2 h4 (by omega) h7 h8 hlt (by omega) h14) rfl ⟨(Nat.le_of_ble_eq_true rfl), (Nat.le_of_ble_eq_true rfl)⟩ ⟨(by show 0 + 1 ≤ 1; omega), (by show 0 + nc q m ≤ nc q m; omega)⟩ (Nat.le_of_ble_eq_true rfl) d_ens_32) (fun z3 M3 hh3 => ?_)
    obtain ⟨rfl, hM3, hf3, hc3⟩ := hh3
    have g1 := Gd.wg (z2 := zfr z2 j 21 (nc q m)) (j2 := j + 1) had (by omega) g
    have z146 : zfr z2 j 21 (nc q m) 146 = z2 146 := if_neg (by omega)
    refine G_putRef g1 (pc := 35) (q := 146) (q2 := j) fa_A_15 fw_10_0 rfl rfl (List.mem_range.mpr (by omega)) (by show (zfr z2 j 21 (nc q m) 146).1 = 10; rw [z146]; exact h5) d_ens_35 ?_
    have g2 := Gd.wg (z2 := zset (zfr z2 j 21 (nc q m)) 146 0 j) (j2 := j + 1) had (by omega) g
    have zj : zset (zfr z2 j 21 (nc q m)) 146 0 j j = (21, nc q m, fun _ => none) := by rw [zset_ne (by omega)]; exact if_pos rfl
    have zs : (zset (zfr z2 j 21 (nc q m)) 146 0 j 146).1 = 10 := by show (zfr z2 j 21 (nc q m) 146).1 = 10; rw [z146]; exact h5
    refine G_gretV g2 (pc := 38) ⟨⟨by omega, by omega, by omega, by omega, zs, rfl, by rw [zj], by rw [zj], hq2, by rw [hM3 146 (by omega)]; exact h10, by rw [hM3 146 (by omega)]; exact h11, by omega, fun i hi => by rw [hc3 i (by omega)]; exact h13 i hi, hf3⟩, fun p hp => ⟨?_, hM3 p (by omega)⟩⟩ hret (by show 0 + 1 ≤ 1; omega) (by show 0 + nc q m ≤ nc q m; omega) d_ens_38
    rw [zset_ne (by omega)]
    exact if_neg (by omega)
