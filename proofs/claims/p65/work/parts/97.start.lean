/-! the start: what the premises give -/
abbrev gvL : List Cond := flatC (Jvm.Cond.and given_1 narrow_1)
def tmS (i : Nat) : Term := .string (strS.getD i ("", 0, 0)).1 (strS.getD i ("", 0, 0)).2.1
def gvB (i : Nat) : Nat := ([226, 267, 276, 287, 302, 334, 363, 396, 431, 478, 496, 516] : List Nat).getD i 0
def tmD (b : Bool) : Term := .static "java/lang/Integer" (if b = true then "DigitOnes" else "DigitTens") "[B"
set_option maxRecDepth 100000 in
theorem gv_s : ∀ i, i < 12 → gvL[gvB i]? = some (Cond.exactly (tmS i) "java/lang/String") ∧ gvL[gvB i + 1]? = some (Cond.eq (.field (tmS i) "java/lang/String" "coder" "B") (.int 0)) ∧ gvL[gvB i + 2]? = some (Cond.arrayOf (.field (tmS i) "java/lang/String" "value" "[B") .byte) ∧ gvL[gvB i + 3]? = some (Cond.eq (.length (.field (tmS i) "java/lang/String" "value" "[B")) (.int (Int32.ofNat (lenS i)))) ∧ lenS i < 100 := by decide +kernel
set_option maxRecDepth 100000 in
theorem gv_e : ∀ i, i < 12 → ∀ j, j < lenS i → gvL[gvB i + 4 + j]? = some (Cond.eq (.elem (.field (tmS i) "java/lang/String" "value" "[B") (.int (Int32.ofNat j))) (.int (bytS i j))) := by decide +kernel
theorem start_str {args : Array Value} {s : State} {A : Nat → Prop} (hg : ∀ w ∈ gvL, w.before args s = true) (hA : ∀ a : Nat, a < s.heap.size → ¬ A a) : ∃ adK adV : Nat → Nat, ∀ i, i < 12 → (tmS i).eval args s none [] s = some (.ref (adK i)) ∧ va_O "java/lang/String" (adK i) A s s.heap ∧ va_OF "java/lang/String" "coder" "B" (.int 0) (adK i) A s s.heap ∧ va_OF "java/lang/String" "value" "[B" (.ref (adV i)) (adK i) A s s.heap ∧ va_T .byte (adV i) (lenS i) (fun j => .int (bytS i j)) A s s.heap := by
  have h0 : ∀ i : Nat, ∃ q : Nat × Nat, i < 12 → (tmS i).eval args s none [] s = some (.ref q.1) ∧ va_O "java/lang/String" q.1 A s s.heap ∧ va_OF "java/lang/String" "coder" "B" (.int 0) q.1 A s s.heap ∧ va_OF "java/lang/String" "value" "[B" (.ref q.2) q.1 A s s.heap ∧ va_T .byte q.2 (lenS i) (fun j => .int (bytS i j)) A s s.heap := by
    intro i
    by_cases hi : i < 12
    · obtain ⟨w1, w2, w3, w4, w5⟩ := gv_s i hi
      have hex := hg _ (List.mem_of_getElem? w1)
      obtain ⟨a, c, cA, kA, q1, q2, q3, q4, q5, q6, -⟩ := Cond.exactly_spec (args := args) (first := s) (o := none) (s := s) (idx := []) (t := tmS i) (cls := "java/lang/String") hex
      obtain ⟨t, ht, hT⟩ := va_Tof (f := fun j => .int (bytS i j)) (A := A) (by omega) (hg _ (List.mem_of_getElem? w3)) (va_eqt (hg _ (List.mem_of_getElem? w4))) (fun j hj => va_eqt (hg _ (List.mem_of_getElem? (gv_e i hi j hj)))) hA
      exact ⟨(a, t), fun _ => ⟨q1, va_Oof hex q1 hA, vk_OFof q1 (va_eqt (hg _ (List.mem_of_getElem? w2))) hA, vk_OFof q1 ht hA, hT⟩⟩
    · exact ⟨(0, 0), fun h => absurd h hi⟩
  obtain ⟨ad, had⟩ := Classical.axiomOfChoice h0
  exact ⟨fun i => (ad i).1, fun i => (ad i).2, fun i hi => had i hi⟩
set_option maxRecDepth 100000 in
theorem gv_d1 : ∀ j, j < 100 → gvL[23 + j]? = some (Cond.eq (.elem (.static "java/lang/Integer" "DigitOnes" "[B") (.int (Int32.ofNat j))) (.int (dg1L.getD j 0))) := by decide +kernel
set_option maxRecDepth 100000 in
theorem gv_d2 : ∀ j, j < 100 → gvL[126 + j]? = some (Cond.eq (.elem (.static "java/lang/Integer" "DigitTens" "[B") (.int (Int32.ofNat j))) (.int (dg10L.getD j 0))) := by decide +kernel
theorem prim_K {args : Array Value} {s : State} {ty : FieldType} (h : (Cond.arrayClass ty).before args s = true) (hp : ∀ cA, s.vm.findClass ("[" ++ ty.toString) = some cA → va_RA s cA ty) : ∃ cA, ArrOfT s cA ty ∧ va_RA s cA ty := by
  obtain ⟨cA, kA, comp, h1, h2, h3⟩ := Cond.arrayClass_spec (args := args) (first := s) (o := none) (s := s) (idx := []) h
  exact ⟨cA, fun n z => ⟨fun k h => (by cases h), kA, h2, comp, h3⟩, hp cA h1⟩
theorem obj_K {C : String} {s : State} (h : va_AO C s) : ∃ cA, ArrOfT s cA (.object C) ∧ va_RA s cA (.object C) := by
  obtain ⟨comp, cA, kA, f1, -, f2, f3, f4⟩ := Cond.arrayOver_spec (args := #[]) (first := s) (o := none) (s := s) (idx := []) h
  exact ⟨cA, fun N z => ⟨fun k h => (by cases h), kA, f2, comp, f3⟩, kA, comp, f2, f3, f1, f4⟩
theorem start_Kn {args : Array Value} {s : State} (hts : ∀ w ∈ lw_tbl, w.before args s = true) : ∃ D : va_G, ∀ (c : Nat) (q : vw_C), vwCl[c]? = some q → u_Kn s q.1 q.2.1 q.2.2 (D.1 c) (D.2 c) := by
  have hT : ∀ w ∈ TT, w.before args s = true := fun w hw => hts w (TT_good hw).1
  obtain ⟨c0, i0, h0⟩ := u_known (C := "KiteLogger$History") (T := T0) (N := 3) (n := 3) hT uw_0 (hT _ (TT_in (i := 321) (by decide +kernel) (by decide +kernel)))
  obtain ⟨c1, i1, h1⟩ := u_known (C := "KiteLogger$Kite") (T := T1) (N := 13) (n := 13) hT uw_1 (hT _ (TT_in (i := 170) (by decide +kernel) (by decide +kernel)))
  obtain ⟨c2, i2, h2⟩ := u_known (C := "KiteLogger$Output") (T := T2) (N := 2) (n := 2) hT uw_2 (hT _ (TT_in (i := 341) (by decide +kernel) (by decide +kernel)))
  obtain ⟨c3, i3, h3⟩ := u_known (C := "KiteLogger$Samples") (T := T3) (N := 7) (n := 7) hT uw_3 (hT _ (TT_in (i := 249) (by decide +kernel) (by decide +kernel)))
  obtain ⟨c4, i4, h4⟩ := u_known (C := "KiteLogger$Script") (T := T4) (N := 6) (n := 6) hT uw_4 (hT _ (TT_in (i := 139) (by decide +kernel) (by decide +kernel)))
  obtain ⟨c5, i5, h5⟩ := u_known (C := "KiteLogger$Station") (T := T5) (N := 9) (n := 9) hT uw_5 (hT _ (TT_in (i := 164) (by decide +kernel) (by decide +kernel)))
  obtain ⟨c6, i6, h6⟩ := u_known (C := "KiteLogger$StationPlan") (T := T6) (N := 6) (n := 6) hT uw_6 (hT _ (TT_in (i := 96) (by decide +kernel) (by decide +kernel)))
  obtain ⟨c7, i7, h7⟩ := u_known (C := "KiteLogger$TextReader") (T := T7) (N := 10) (n := 10) hT uw_7 (hT _ (TT_in (i := 54) (by decide +kernel) (by decide +kernel)))
  obtain ⟨c8, i8, h8⟩ := u_known (C := "KiteLogger$WindBuffer") (T := T8) (N := 3) (n := 3) hT uw_8 (hT _ (TT_in (i := 232) (by decide +kernel) (by decide +kernel)))
  obtain ⟨c9, i9, h9⟩ := u_known (C := "KiteLogger") (T := T9) (N := 9) (n := 9) hT uw_9 (hT _ (TT_in (i := 46) (by decide +kernel) (by decide +kernel)))
  obtain ⟨c10, i10, h10⟩ := u_known (C := "java/lang/StringBuilder") (T := T10) (N := 4) (n := 4) hT uw_10 (hT _ (TT_in (i := 1132) (by decide +kernel) (by decide +kernel)))
  obtain ⟨c11, i11, h11⟩ := u_known (C := "java/lang/String") (T := T11) (N := 4) (n := 4) hT uw_11 (hT _ (TT_in (i := 1306) (by decide +kernel) (by decide +kernel)))
  refine ⟨(fun k => ([c0, c1, c2, c3, c4, c5, c6, c7, c8, c9, c10, c11] : List ClassId).getD k c0, fun k => ([i0, i1, i2, i3, i4, i5, i6, i7, i8, i9, i10, i11] : List (Nat → Nat)).getD k i0), fun k q hq => ?_⟩
  have hk : k < 12 := (List.getElem?_eq_some_iff.mp hq).1
  have hh : k = 0 ∨ k = 1 ∨ k = 2 ∨ k = 3 ∨ k = 4 ∨ k = 5 ∨ k = 6 ∨ k = 7 ∨ k = 8 ∨ k = 9 ∨ k = 10 ∨ k = 11 := by omega
  rcases hh with rfl | rfl | rfl | rfl | rfl | rfl | rfl | rfl | rfl | rfl | rfl | rfl
  · cases hq; exact h0
  · cases hq; exact h1
  · cases hq; exact h2
  · cases hq; exact h3
  · cases hq; exact h4
  · cases hq; exact h5
  · cases hq; exact h6
  · cases hq; exact h7
  · cases hq; exact h8
  · cases hq; exact h9
  · cases hq; exact h10
  · cases hq; exact h11
theorem str_w : ∀ q ∈ strS, Cond.stringRef q.1 q.2.1 (strT.getD q.2.2 "") ∈ lw_tbl := by
  show ∀ q ∈ [("KiteLogger", 306, 0), ("KiteLogger$StationPlan", 58, 1), ("KiteLogger$StationPlan", 71, 2), ("KiteLogger$StationPlan", 91, 3), ("KiteLogger", 283, 4), ("KiteLogger", 291, 5), ("KiteLogger", 313, 6), ("KiteLogger", 298, 7), ("KiteLogger", 301, 8), ("KiteLoggerLaw", 209, 9), ("KiteLoggerLaw", 221, 10), ("KiteLoggerLaw", 226, 11)], _
  exact List.forall_mem_cons.mpr ⟨List.mem_of_getElem? (i := 451) (by decide +kernel), List.forall_mem_cons.mpr ⟨List.mem_of_getElem? (i := 505) (by decide +kernel), List.forall_mem_cons.mpr ⟨List.mem_of_getElem? (i := 585) (by decide +kernel), List.forall_mem_cons.mpr ⟨List.mem_of_getElem? (i := 596) (by decide +kernel), List.forall_mem_cons.mpr ⟨List.mem_of_getElem? (i := 618) (by decide +kernel), List.forall_mem_cons.mpr ⟨List.mem_of_getElem? (i := 661) (by decide +kernel), List.forall_mem_cons.mpr ⟨List.mem_of_getElem? (i := 810) (by decide +kernel), List.forall_mem_cons.mpr ⟨List.mem_of_getElem? (i := 896) (by decide +kernel), List.forall_mem_cons.mpr ⟨List.mem_of_getElem? (i := 1039) (by decide +kernel), List.forall_mem_cons.mpr ⟨List.mem_of_getElem? (i := 1358) (by decide +kernel), List.forall_mem_cons.mpr ⟨List.mem_of_getElem? (i := 1359) (by decide +kernel), List.forall_mem_cons.mpr ⟨List.mem_of_getElem? (i := 1360) (by decide +kernel), fun _ h => absurd h List.not_mem_nil⟩⟩⟩⟩⟩⟩⟩⟩⟩⟩⟩⟩
theorem NW_tab {x : Cond} (h : x ∈ NW) : x ∈ lw_tbl ∧ x.onTables = true := by
  obtain ⟨h1, h2⟩ := List.mem_filter.mp h
  refine ⟨h1, ?_⟩
  cases x <;> first | rfl | cases h2
theorem start_at {p : Program} {s : State} {m : MethodId} {meth : Method} {c : Code} {b L : Nat} {xs : Nat → Int32} (C0 : lw_At p s m meth c b L xs) : ∃ w : Wc, Ad w ∧ wlo w = s.heap.size ∧ (∀ j z, j ≤ 900 → Gd p s m #[Value.ref b] meth c (wg w j z) 11 b_L_law "KiteLoggerLaw") ∧ AO s := by
  obtain ⟨hx, hb, hr, hml, hown, hts, hX, hbl, hlocks, hgv⟩ := id C0
  have hg : ∀ w ∈ gvL, w.before #[Value.ref b] s = true := flat_of_before _ hgv
  have hA : ∀ a : Nat, a < s.heap.size → ¬ (s.heap.size ≤ a) := fun a h => Nat.not_le.mpr h
  have hao : AO s := va_AO.of (hts _ (List.mem_of_getElem? (i := 327) (by decide +kernel)))
  obtain ⟨D, hD⟩ := start_Kn hts
  obtain ⟨a0, ha0⟩ := prim_K (ty := .int) (hts _ (List.mem_of_getElem? (i := 137) (by decide +kernel))) (fun _ h => h)
  obtain ⟨a1, ha1⟩ := prim_K (ty := .byte) (hts _ (List.mem_of_getElem? (i := 94) (by decide +kernel))) (fun _ h => h)
  obtain ⟨a2, ha2⟩ := obj_K hao
  obtain ⟨adK, adV, hstr⟩ := start_str (A := fun a => s.heap.size ≤ a) hg hA
  obtain ⟨tF, htF, hTF⟩ := va_Tof (tm := .static "KiteLogger" "FIRST_GUSTS" "[I") (ty := .int) (N := 6) (f := fun j => .int (fgL.getD j 0)) (A := fun a => s.heap.size ≤ a) (by decide) (hg _ (List.mem_of_getElem? (i := 5) (by decide +kernel))) (va_eqt (z := 6) (hg _ (List.mem_of_getElem? (i := 6) (by decide +kernel)))) (fun j hj => by
    rcases (show j = 0 ∨ j = 1 ∨ j = 2 ∨ j = 3 ∨ j = 4 ∨ j = 5 by omega) with rfl | rfl | rfl | rfl | rfl | rfl
    · exact va_eqt (z := 6) (hg _ (List.mem_of_getElem? (i := 7) (by decide +kernel)))
    · exact va_eqt (z := 9) (hg _ (List.mem_of_getElem? (i := 8) (by decide +kernel)))
    · exact va_eqt (z := 12) (hg _ (List.mem_of_getElem? (i := 9) (by decide +kernel)))
    · exact va_eqt (z := 4) (hg _ (List.mem_of_getElem? (i := 10) (by decide +kernel)))
    · exact va_eqt (z := 0) (hg _ (List.mem_of_getElem? (i := 11) (by decide +kernel)))
    · exact va_eqt (z := 8) (hg _ (List.mem_of_getElem? (i := 12) (by decide +kernel)))) hA
  obtain ⟨tD1, htD1, hTD1⟩ := va_Tof (tm := .static "java/lang/Integer" "DigitOnes" "[B") (ty := .byte) (N := 100) (f := fun j => .int (dg1L.getD j 0)) (A := fun a => s.heap.size ≤ a) (by decide) (hg _ (List.mem_of_getElem? (i := 21) (by decide +kernel))) (va_eqt (z := 100) (hg _ (List.mem_of_getElem? (i := 22) (by decide +kernel)))) (fun j hj => va_eqt (hg _ (List.mem_of_getElem? (gv_d1 j hj)))) hA
  obtain ⟨tD2, htD2, hTD2⟩ := va_Tof (tm := .static "java/lang/Integer" "DigitTens" "[B") (ty := .byte) (N := 100) (f := fun j => .int (dg10L.getD j 0)) (A := fun a => s.heap.size ≤ a) (by decide) (hg _ (List.mem_of_getElem? (i := 124) (by decide +kernel))) (va_eqt (z := 100) (hg _ (List.mem_of_getElem? (i := 125) (by decide +kernel)))) (fun j hj => va_eqt (hg _ (List.mem_of_getElem? (gv_d2 j hj)))) hA
  refine ⟨(D, fun k => ([a0, a1, a2] : List ClassId).getD k a0, fun q => if q < 1000 then s.heap.size + q else if q = 1100 then tF else if q = 1101 then tD1 else if q = 1102 then tD2 else if q < 2000 then adK (q - 1000) else adV (q - 2000), [], Z0 146, s.heap.size), ?_, rfl, ?_, hao⟩
  · intro q hq
    exact if_pos (by omega)
  · intro j z hj
    generalize hw : ((D, fun k => ([a0, a1, a2] : List ClassId).getD k a0, fun q => if q < 1000 then s.heap.size + q else if q = 1100 then tF else if q = 1101 then tD1 else if q = 1102 then tD2 else if q < 2000 then adK (q - 1000) else adV (q - 2000), [], Z0 146, s.heap.size) : Wc) = w
    have had : Ad w := by subst hw; intro q hq; exact if_pos (by omega)
    have e1 : ∀ i, i < 12 → wad w (1000 + i) = adK i := fun i hi => by
      subst hw
      show (if 1000 + i < 1000 then _ else if 1000 + i = 1100 then _ else if 1000 + i = 1101 then _ else if 1000 + i = 1102 then _ else if 1000 + i < 2000 then _ else _) = _
      rw [if_neg (by omega), if_neg (by omega), if_neg (by omega), if_neg (by omega), if_pos (by omega), Nat.add_sub_cancel_left]
    have e2 : ∀ i, i < 12 → wad w (2000 + i) = adV i := fun i hi => by
      subst hw
      show (if 2000 + i < 1000 then _ else if 2000 + i = 1100 then _ else if 2000 + i = 1101 then _ else if 2000 + i = 1102 then _ else if 2000 + i < 2000 then _ else _) = _
      rw [if_neg (by omega), if_neg (by omega), if_neg (by omega), if_neg (by omega), if_neg (by omega), Nat.add_sub_cancel_left]
    have e3 : wad w 1100 = tF := by subst hw; rfl
    have e5 : wad w 1101 = tD1 := by subst hw; rfl
    have e6 : wad w 1102 = tD2 := by subst hw; rfl
    have e4 : wA w = fun a => s.heap.size ≤ a := by subst hw; rfl
    refine ⟨hx, hb, hml, hown, fun x hx => hts x (TT_good hx).1, ?_, hlocks, ?_, wg_ok had hj, by subst hw; exact Nat.le_refl _⟩
    · subst hw
      refine ⟨hD, fun k q hq => ?_⟩
      have hk : k < 3 := (List.getElem?_eq_some_iff.mp hq).1
      rcases (show k = 0 ∨ k = 1 ∨ k = 2 by omega) with rfl | rfl | rfl
      · cases hq; exact ha0
      · cases hq; exact ha1
      · cases hq; exact ha2
    · show Sx w s
      refine ⟨fun i hi => ?_, ?_, fun x hx => va_Nw.of (NW_tab hx).2 (hts x (NW_tab hx).1), ?_, ?_, ?_, ?_, ?_, ?_, ?_, ?_⟩
      · rw [e1 i hi, e2 i hi, e4]; exact (hstr i hi).2
      · have first : ∀ i, i < 12 → (tmS i).eval #[Value.ref b] s none [] s = some (.ref (wad w (1000 + i))) := fun i hi => by rw [e1 i hi]; exact (hstr i hi).1
        show ∀ q ∈ [("KiteLogger", 306, 0), ("KiteLogger$StationPlan", 58, 1), ("KiteLogger$StationPlan", 71, 2), ("KiteLogger$StationPlan", 91, 3), ("KiteLogger", 283, 4), ("KiteLogger", 291, 5), ("KiteLogger", 313, 6), ("KiteLogger", 298, 7), ("KiteLogger", 301, 8), ("KiteLoggerLaw", 209, 9), ("KiteLoggerLaw", 221, 10), ("KiteLoggerLaw", 226, 11)], _
        exact List.forall_mem_cons.mpr ⟨vk_R.of (hts _ (str_w _ (List.mem_of_getElem? (i := 0) rfl))) (first 0 (by decide)), List.forall_mem_cons.mpr ⟨vk_R.of (hts _ (str_w _ (List.mem_of_getElem? (i := 1) rfl))) (first 1 (by decide)), List.forall_mem_cons.mpr ⟨vk_R.of (hts _ (str_w _ (List.mem_of_getElem? (i := 2) rfl))) (first 2 (by decide)), List.forall_mem_cons.mpr ⟨vk_R.of (hts _ (str_w _ (List.mem_of_getElem? (i := 3) rfl))) (first 3 (by decide)), List.forall_mem_cons.mpr ⟨vk_R.of (hts _ (str_w _ (List.mem_of_getElem? (i := 4) rfl))) (first 4 (by decide)), List.forall_mem_cons.mpr ⟨vk_R.of (hts _ (str_w _ (List.mem_of_getElem? (i := 5) rfl))) (first 5 (by decide)), List.forall_mem_cons.mpr ⟨vk_R.of (hts _ (str_w _ (List.mem_of_getElem? (i := 6) rfl))) (first 6 (by decide)), List.forall_mem_cons.mpr ⟨vk_R.of (hts _ (str_w _ (List.mem_of_getElem? (i := 7) rfl))) (first 7 (by decide)), List.forall_mem_cons.mpr ⟨vk_R.of (hts _ (str_w _ (List.mem_of_getElem? (i := 8) rfl))) (first 8 (by decide)), List.forall_mem_cons.mpr ⟨vk_R.of (hts _ (str_w _ (List.mem_of_getElem? (i := 9) rfl))) (first 9 (by decide)), List.forall_mem_cons.mpr ⟨vk_R.of (hts _ (str_w _ (List.mem_of_getElem? (i := 10) rfl))) (first 10 (by decide)), List.forall_mem_cons.mpr ⟨vk_R.of (hts _ (str_w _ (List.mem_of_getElem? (i := 11) rfl))) (first 11 (by decide)), fun _ h => absurd h List.not_mem_nil⟩⟩⟩⟩⟩⟩⟩⟩⟩⟩⟩⟩
      · rw [e3]; exact va_Zref (hts _ (List.mem_of_getElem? (i := 102) (by decide +kernel))) (hts _ (List.mem_of_getElem? (i := 18) (by decide +kernel))) htF (by rw [e4]; exact hA)
      · rw [e3, e4]; exact hTF
      · exact va_Zof (hts _ (List.mem_of_getElem? (i := 523) (by decide +kernel))) (hts _ (List.mem_of_getElem? (i := 32) (by decide +kernel))) (va_eqt (hg _ (List.mem_of_getElem? (i := 15) (by decide +kernel)))) (by rw [e4]; exact hA)
      · exact va_Zqof (hts _ (List.mem_of_getElem? (i := 539) (by decide +kernel))) (hts _ (List.mem_of_getElem? (i := 36) (by decide +kernel))) (hg _ (List.mem_of_getElem? (i := 16) (by decide +kernel))) (by rw [e4]; exact hA)
      · rw [e5]; exact va_Zref (hts _ (List.mem_of_getElem? (i := 1290) (by decide +kernel))) (hts _ (List.mem_of_getElem? (i := 38) (by decide +kernel))) htD1 (by rw [e4]; exact hA)
      · rw [e5, e4]; exact hTD1
      · rw [e6]; exact va_Zref (hts _ (List.mem_of_getElem? (i := 1292) (by decide +kernel))) (hts _ (List.mem_of_getElem? (i := 38) (by decide +kernel))) htD2 (by rw [e4]; exact hA)
      · rw [e6, e4]; exact hTD2
