/-! the start: what the premises give -/
abbrev gvL : List Cond := flatC (Jvm.Cond.and given_1 narrow_1)
def tmS (i : Nat) : Term := .string (strS.getD i ("", 0, 0)).1 (strS.getD i ("", 0, 0)).2.1
def gvB (i : Nat) : Nat := ([59, 100, 108, 117, 129, 157, 184, 223, 233, 240, 246, 256, 265, 275, 286, 294, 304, 308, 333, 361] : List Nat).getD i 0
set_option maxRecDepth 100000 in
theorem gv_s : ∀ i, i < 20 → gvL[gvB i]? = some (Cond.exactly (tmS i) "java/lang/String") ∧ gvL[gvB i + 1]? = some (Cond.eq (.field (tmS i) "java/lang/String" "coder" "B") (.int 0)) ∧ gvL[gvB i + 2]? = some (Cond.arrayOf (.field (tmS i) "java/lang/String" "value" "[B") .byte) ∧ gvL[gvB i + 3]? = some (Cond.eq (.length (.field (tmS i) "java/lang/String" "value" "[B")) (.int (Int32.ofNat (lenS i)))) ∧ lenS i < 100 := by decide +kernel
set_option maxRecDepth 100000 in
theorem gv_e : ∀ i, i < 20 → ∀ j, j < lenS i → gvL[gvB i + 4 + j]? = some (Cond.eq (.elem (.field (tmS i) "java/lang/String" "value" "[B") (.int (Int32.ofNat j))) (.int (bytS i j))) := by decide +kernel
theorem start_str {args : Array Value} {s : State} {A : Nat → Prop} (hg : ∀ w ∈ gvL, w.before args s = true) (hA : ∀ a : Nat, a < s.heap.size → ¬ A a) : ∃ adK adV : Nat → Nat, ∀ i, i < 20 → (tmS i).eval args s none [] s = some (.ref (adK i)) ∧ va_O "java/lang/String" (adK i) A s s.heap ∧ va_OF "java/lang/String" "coder" "B" (.int 0) (adK i) A s s.heap ∧ va_OF "java/lang/String" "value" "[B" (.ref (adV i)) (adK i) A s s.heap ∧ va_T .byte (adV i) (lenS i) (fun j => .int (bytS i j)) A s s.heap := by
  have h0 : ∀ i : Nat, ∃ q : Nat × Nat, i < 20 → (tmS i).eval args s none [] s = some (.ref q.1) ∧ va_O "java/lang/String" q.1 A s s.heap ∧ va_OF "java/lang/String" "coder" "B" (.int 0) q.1 A s s.heap ∧ va_OF "java/lang/String" "value" "[B" (.ref q.2) q.1 A s s.heap ∧ va_T .byte q.2 (lenS i) (fun j => .int (bytS i j)) A s s.heap := by
    intro i
    by_cases hi : i < 20
    · obtain ⟨w1, w2, w3, w4, w5⟩ := gv_s i hi
      have hex := hg _ (List.mem_of_getElem? w1)
      obtain ⟨a, c, cA, kA, q1, q2, q3, q4, q5, q6, -⟩ := Cond.exactly_spec (args := args) (first := s) (o := none) (s := s) (idx := []) (t := tmS i) (cls := "java/lang/String") hex
      obtain ⟨t, ht, hT⟩ := va_Tof (f := fun j => .int (bytS i j)) (A := A) (by omega) (hg _ (List.mem_of_getElem? w3)) (va_eqt (hg _ (List.mem_of_getElem? w4))) (fun j hj => va_eqt (hg _ (List.mem_of_getElem? (gv_e i hi j hj)))) hA
      exact ⟨(a, t), fun _ => ⟨q1, va_Oof hex q1 hA, vk_OFof q1 (va_eqt (hg _ (List.mem_of_getElem? w2))) hA, vk_OFof q1 ht hA, hT⟩⟩
    · exact ⟨(0, 0), fun h => absurd h hi⟩
  obtain ⟨ad, had⟩ := Classical.axiomOfChoice h0
  exact ⟨fun i => (ad i).1, fun i => (ad i).2, fun i hi => had i hi⟩
theorem prim_K {args : Array Value} {s : State} {ty : FieldType} (h : (Cond.arrayClass ty).before args s = true) (hp : ∀ cA, s.vm.findClass ("[" ++ ty.toString) = some cA → va_RA s cA ty) : ∃ cA, ArrOfT s cA ty ∧ va_RA s cA ty := by
  obtain ⟨cA, kA, comp, h1, h2, h3⟩ := Cond.arrayClass_spec (args := args) (first := s) (o := none) (s := s) (idx := []) h
  exact ⟨cA, fun n z => ⟨fun k h => (by cases h), kA, h2, comp, h3⟩, hp cA h1⟩
theorem obj_K {C : String} {s : State} (h : va_AO C s) : ∃ cA, ArrOfT s cA (.object C) ∧ va_RA s cA (.object C) := by
  obtain ⟨comp, cA, kA, f1, -, f2, f3, f4⟩ := Cond.arrayOver_spec (args := #[]) (first := s) (o := none) (s := s) (idx := []) h
  exact ⟨cA, fun N z => ⟨fun k h => (by cases h), kA, f2, comp, f3⟩, kA, comp, f2, f3, f1, f4⟩
theorem start_Kn {args : Array Value} {s : State} (hts : ∀ w ∈ lw_tbl, w.before args s = true) : ∃ D : va_G, ∀ (c : Nat) (q : vw_C), vwCl[c]? = some q → u_Kn s q.1 q.2.1 q.2.2 (D.1 c) (D.2 c) := by
  have hT : ∀ w ∈ TT, w.before args s = true := fun w hw => hts w (TT_good hw).1
  obtain ⟨c0, i0, h0⟩ := u_known (C := "KiteLogger$History") (T := T0) (N := 3) (n := 3) hT uw_0 (hT _ (TT_in (i := 394) (by decide +kernel) (by decide +kernel)))
  obtain ⟨c1, i1, h1⟩ := u_known (C := "KiteLogger$Kite") (T := T1) (N := 13) (n := 13) hT uw_1 (hT _ (TT_in (i := 242) (by decide +kernel) (by decide +kernel)))
  obtain ⟨c2, i2, h2⟩ := u_known (C := "KiteLogger$Output") (T := T2) (N := 2) (n := 2) hT uw_2 (hT _ (TT_in (i := 414) (by decide +kernel) (by decide +kernel)))
  obtain ⟨c3, i3, h3⟩ := u_known (C := "KiteLogger$Samples") (T := T3) (N := 7) (n := 7) hT uw_3 (hT _ (TT_in (i := 321) (by decide +kernel) (by decide +kernel)))
  obtain ⟨c4, i4, h4⟩ := u_known (C := "KiteLogger$Script") (T := T4) (N := 6) (n := 6) hT uw_4 (hT _ (TT_in (i := 209) (by decide +kernel) (by decide +kernel)))
  obtain ⟨c5, i5, h5⟩ := u_known (C := "KiteLogger$Station") (T := T5) (N := 9) (n := 9) hT uw_5 (hT _ (TT_in (i := 236) (by decide +kernel) (by decide +kernel)))
  obtain ⟨c6, i6, h6⟩ := u_known (C := "KiteLogger$StationPlan") (T := T6) (N := 6) (n := 6) hT uw_6 (hT _ (TT_in (i := 166) (by decide +kernel) (by decide +kernel)))
  obtain ⟨c7, i7, h7⟩ := u_known (C := "KiteLogger$TextReader") (T := T7) (N := 10) (n := 10) hT uw_7 (hT _ (TT_in (i := 120) (by decide +kernel) (by decide +kernel)))
  obtain ⟨c8, i8, h8⟩ := u_known (C := "KiteLogger$WindBuffer") (T := T8) (N := 3) (n := 3) hT uw_8 (hT _ (TT_in (i := 304) (by decide +kernel) (by decide +kernel)))
  obtain ⟨c9, i9, h9⟩ := u_known (C := "KiteLogger") (T := T9) (N := 9) (n := 9) hT uw_9 (hT _ (TT_in (i := 112) (by decide +kernel) (by decide +kernel)))
  obtain ⟨c10, i10, h10⟩ := u_known (C := "KiteLoggerModel") (T := T10) (N := 28) (n := 28) hT uw_10 (hT _ (TT_in (i := 1338) (by decide +kernel) (by decide +kernel)))
  refine ⟨(fun k => ([c0, c1, c2, c3, c4, c5, c6, c7, c8, c9, c10] : List ClassId).getD k c0, fun k => ([i0, i1, i2, i3, i4, i5, i6, i7, i8, i9, i10] : List (Nat → Nat)).getD k i0), fun k q hq => ?_⟩
  have hk : k < 11 := (List.getElem?_eq_some_iff.mp hq).1
  have hh : k = 0 ∨ k = 1 ∨ k = 2 ∨ k = 3 ∨ k = 4 ∨ k = 5 ∨ k = 6 ∨ k = 7 ∨ k = 8 ∨ k = 9 ∨ k = 10 := by omega
  rcases hh with rfl | rfl | rfl | rfl | rfl | rfl | rfl | rfl | rfl | rfl | rfl
  · cases hq; exact h0
  · cases hq; exact h1
  · cases hq; exact h2
  · cases hq; exact h3
  · cases hq; exact h4
  · cases hq; exact h5
  · cases hq; exact h6
  · cases hq; exact h7
  · cases hq; exact h8
  · cases hq; exact h9
  · cases hq; exact h10
theorem str_w : ∀ q ∈ strS, Cond.stringRef q.1 q.2.1 (strT.getD q.2.2 "") ∈ lw_tbl := by
  show ∀ q ∈ [("KiteLogger", 306, 0), ("KiteLogger$StationPlan", 58, 1), ("KiteLogger$StationPlan", 71, 2), ("KiteLogger$StationPlan", 91, 3), ("KiteLogger", 298, 4), ("KiteLogger", 313, 5), ("KiteLogger", 301, 6), ("KiteLogger$Script", 87, 7), ("KiteLogger$Script", 89, 8), ("KiteLogger$Script", 91, 9), ("KiteLogger$Script", 93, 10), ("KiteLogger$Script", 95, 11), ("KiteLogger$Script", 97, 12), ("KiteLogger$Script", 99, 13), ("KiteLogger$Script", 101, 14), ("KiteLogger$Script", 103, 15), ("KiteLogger$Script", 105, 16), ("KiteLogger", 274, 17), ("KiteLogger", 283, 18), ("KiteLogger", 291, 19), ("KiteLoggerModel", 46, 7), ("KiteLoggerModel", 48, 8), ("KiteLoggerModel", 50, 9), ("KiteLoggerModel", 52, 10), ("KiteLoggerModel", 54, 11), ("KiteLoggerModel", 56, 12), ("KiteLoggerModel", 58, 13), ("KiteLoggerModel", 60, 14), ("KiteLoggerModel", 62, 15), ("KiteLoggerModel", 305, 1), ("KiteLoggerModel", 313, 2), ("KiteLoggerModel", 318, 3)], _
  exact List.forall_mem_cons.mpr ⟨List.mem_of_getElem? (i := 827) (by decide +kernel), List.forall_mem_cons.mpr ⟨List.mem_of_getElem? (i := 881) (by decide +kernel), List.forall_mem_cons.mpr ⟨List.mem_of_getElem? (i := 959) (by decide +kernel), List.forall_mem_cons.mpr ⟨List.mem_of_getElem? (i := 970) (by decide +kernel), List.forall_mem_cons.mpr ⟨List.mem_of_getElem? (i := 986) (by decide +kernel), List.forall_mem_cons.mpr ⟨List.mem_of_getElem? (i := 1025) (by decide +kernel), List.forall_mem_cons.mpr ⟨List.mem_of_getElem? (i := 1123) (by decide +kernel), List.forall_mem_cons.mpr ⟨List.mem_of_getElem? (i := 1273) (by decide +kernel), List.forall_mem_cons.mpr ⟨List.mem_of_getElem? (i := 1274) (by decide +kernel), List.forall_mem_cons.mpr ⟨List.mem_of_getElem? (i := 1275) (by decide +kernel), List.forall_mem_cons.mpr ⟨List.mem_of_getElem? (i := 1276) (by decide +kernel), List.forall_mem_cons.mpr ⟨List.mem_of_getElem? (i := 1277) (by decide +kernel), List.forall_mem_cons.mpr ⟨List.mem_of_getElem? (i := 1278) (by decide +kernel), List.forall_mem_cons.mpr ⟨List.mem_of_getElem? (i := 1279) (by decide +kernel), List.forall_mem_cons.mpr ⟨List.mem_of_getElem? (i := 1280) (by decide +kernel), List.forall_mem_cons.mpr ⟨List.mem_of_getElem? (i := 1281) (by decide +kernel), List.forall_mem_cons.mpr ⟨List.mem_of_getElem? (i := 1282) (by decide +kernel), List.forall_mem_cons.mpr ⟨List.mem_of_getElem? (i := 1311) (by decide +kernel), List.forall_mem_cons.mpr ⟨List.mem_of_getElem? (i := 1323) (by decide +kernel), List.forall_mem_cons.mpr ⟨List.mem_of_getElem? (i := 1336) (by decide +kernel), List.forall_mem_cons.mpr ⟨List.mem_of_getElem? (i := 1345) (by decide +kernel), List.forall_mem_cons.mpr ⟨List.mem_of_getElem? (i := 1346) (by decide +kernel), List.forall_mem_cons.mpr ⟨List.mem_of_getElem? (i := 1347) (by decide +kernel), List.forall_mem_cons.mpr ⟨List.mem_of_getElem? (i := 1348) (by decide +kernel), List.forall_mem_cons.mpr ⟨List.mem_of_getElem? (i := 1349) (by decide +kernel), List.forall_mem_cons.mpr ⟨List.mem_of_getElem? (i := 1350) (by decide +kernel), List.forall_mem_cons.mpr ⟨List.mem_of_getElem? (i := 1351) (by decide +kernel), List.forall_mem_cons.mpr ⟨List.mem_of_getElem? (i := 1352) (by decide +kernel), List.forall_mem_cons.mpr ⟨List.mem_of_getElem? (i := 1353) (by decide +kernel), List.forall_mem_cons.mpr ⟨List.mem_of_getElem? (i := 1890) (by decide +kernel), List.forall_mem_cons.mpr ⟨List.mem_of_getElem? (i := 1926) (by decide +kernel), List.forall_mem_cons.mpr ⟨List.mem_of_getElem? (i := 1931) (by decide +kernel), fun _ h => absurd h List.not_mem_nil⟩⟩⟩⟩⟩⟩⟩⟩⟩⟩⟩⟩⟩⟩⟩⟩⟩⟩⟩⟩⟩⟩⟩⟩⟩⟩⟩⟩⟩⟩⟩⟩
theorem NW_tab {x : Cond} (h : x ∈ NW) : x ∈ lw_tbl ∧ x.onTables = true := by
  obtain ⟨h1, h2⟩ := List.mem_filter.mp h
  refine ⟨h1, ?_⟩
  cases x <;> first | rfl | cases h2
theorem start_at {p : Program} {s : State} {m : MethodId} {meth : Method} {c : Code} {b L : Nat} {xs : Nat → Int32} (C0 : lw_At p s m meth c b L xs) : ∃ w : Wc, Ad w ∧ wlo w = s.heap.size ∧ (∀ j z, j ≤ 158 → Gd p s m #[Value.ref b] meth c (wg w j z) 10 code "KiteLoggerLaw") ∧ AO s ∧ va_Nc exS exI s := by
  obtain ⟨hx, hb, hr, hml, hown, hts, hX, hbl, hlocks, hgv⟩ := id C0
  have hg : ∀ w ∈ gvL, w.before #[Value.ref b] s = true := flat_of_before _ hgv
  have hA : ∀ a : Nat, a < s.heap.size → ¬ (s.heap.size ≤ a) := fun a h => Nat.not_le.mpr h
  have hao : AO s := ⟨va_AO.of (hts _ (List.mem_of_getElem? (i := 400) (by decide +kernel))), va_AO.of (hts _ (List.mem_of_getElem? (i := 1344) (by decide +kernel)))⟩
  have hnc : va_Nc exS exI s := va_Nc.of (hg _ (List.mem_of_getElem? (i := 32) (by decide +kernel)))
  obtain ⟨D, hD⟩ := start_Kn hts
  obtain ⟨a0, ha0⟩ := prim_K (ty := .int) (hts _ (List.mem_of_getElem? (i := 207) (by decide +kernel))) (fun _ h => h)
  obtain ⟨a1, ha1⟩ := prim_K (ty := .byte) (hts _ (List.mem_of_getElem? (i := 164) (by decide +kernel))) (fun _ h => h)
  obtain ⟨a2, ha2⟩ := prim_K (ty := .long) (hts _ (List.mem_of_getElem? (i := 1972) (by decide +kernel))) (fun _ h => h)
  obtain ⟨a3, ha3⟩ := prim_K (ty := .double) (hts _ (List.mem_of_getElem? (i := 1973) (by decide +kernel))) (fun _ h => h)
  obtain ⟨a4, ha4⟩ := obj_K hao.1
  obtain ⟨a5, ha5⟩ := obj_K hao.2
  obtain ⟨adK, adV, hstr⟩ := start_str (A := fun a => s.heap.size ≤ a) hg hA
  obtain ⟨tF, htF, hTF⟩ := va_Tof (tm := .static "KiteLogger" "FIRST_GUSTS" "[I") (ty := .int) (N := 6) (f := fun j => .int (fgL.getD j 0)) (A := fun a => s.heap.size ≤ a) (by decide) (hg _ (List.mem_of_getElem? (i := 5) (by decide +kernel))) (va_eqt (z := 6) (hg _ (List.mem_of_getElem? (i := 6) (by decide +kernel)))) (fun j hj => by
    rcases (show j = 0 ∨ j = 1 ∨ j = 2 ∨ j = 3 ∨ j = 4 ∨ j = 5 by omega) with rfl | rfl | rfl | rfl | rfl | rfl
    · exact va_eqt (z := 6) (hg _ (List.mem_of_getElem? (i := 7) (by decide +kernel)))
    · exact va_eqt (z := 9) (hg _ (List.mem_of_getElem? (i := 8) (by decide +kernel)))
    · exact va_eqt (z := 12) (hg _ (List.mem_of_getElem? (i := 9) (by decide +kernel)))
    · exact va_eqt (z := 4) (hg _ (List.mem_of_getElem? (i := 10) (by decide +kernel)))
    · exact va_eqt (z := 0) (hg _ (List.mem_of_getElem? (i := 11) (by decide +kernel)))
    · exact va_eqt (z := 8) (hg _ (List.mem_of_getElem? (i := 12) (by decide +kernel)))) hA
  refine ⟨(D, fun k => ([a0, a1, a2, a3, a4, a5] : List ClassId).getD k a0, fun q => if q < 1000 then s.heap.size + q else if q = 1100 then tF else if q < 2000 then adK (q - 1000) else adV (q - 2000), [], Z0 146, s.heap.size), ?_, rfl, ?_, hao, hnc⟩
  · intro q hq
    exact if_pos (by omega)
  · intro j z hj
    generalize hw : ((D, fun k => ([a0, a1, a2, a3, a4, a5] : List ClassId).getD k a0, fun q => if q < 1000 then s.heap.size + q else if q = 1100 then tF else if q < 2000 then adK (q - 1000) else adV (q - 2000), [], Z0 146, s.heap.size) : Wc) = w
    have had : Ad w := by subst hw; intro q hq; exact if_pos (by omega)
    have e1 : ∀ i, i < 20 → wad w (1000 + i) = adK i := fun i hi => by
      subst hw
      show (if 1000 + i < 1000 then _ else if 1000 + i = 1100 then _ else if 1000 + i < 2000 then _ else _) = _
      rw [if_neg (by omega), if_neg (by omega), if_pos (by omega), Nat.add_sub_cancel_left]
    have e2 : ∀ i, i < 20 → wad w (2000 + i) = adV i := fun i hi => by
      subst hw
      show (if 2000 + i < 1000 then _ else if 2000 + i = 1100 then _ else if 2000 + i < 2000 then _ else _) = _
      rw [if_neg (by omega), if_neg (by omega), if_neg (by omega), Nat.add_sub_cancel_left]
    have e3 : wad w 1100 = tF := by subst hw; rfl
    have e4 : wA w = fun a => s.heap.size ≤ a := by subst hw; rfl
    refine ⟨hx, hb, hml, hown, fun x hx => hts x (TT_good hx).1, ?_, hlocks, ?_, wg_ok had hj, by subst hw; exact Nat.le_refl _⟩
    · subst hw
      refine ⟨hD, fun k q hq => ?_⟩
      have hk : k < 6 := (List.getElem?_eq_some_iff.mp hq).1
      rcases (show k = 0 ∨ k = 1 ∨ k = 2 ∨ k = 3 ∨ k = 4 ∨ k = 5 by omega) with rfl | rfl | rfl | rfl | rfl | rfl
      · cases hq; exact ha0
      · cases hq; exact ha1
      · cases hq; exact ha2
      · cases hq; exact ha3
      · cases hq; exact ha4
      · cases hq; exact ha5
    · show Sx w s
      refine ⟨fun i hi => ?_, ?_, fun x hx => va_Nw.of (NW_tab hx).2 (hts x (NW_tab hx).1), ?_, ?_, ?_, ?_, ?_, ?_⟩
      · rw [e1 i hi, e2 i hi, e4]; exact (hstr i hi).2
      · have first : ∀ i, i < 20 → (tmS i).eval #[Value.ref b] s none [] s = some (.ref (wad w (1000 + i))) := fun i hi => by rw [e1 i hi]; exact (hstr i hi).1
        show ∀ q ∈ [("KiteLogger", 306, 0), ("KiteLogger$StationPlan", 58, 1), ("KiteLogger$StationPlan", 71, 2), ("KiteLogger$StationPlan", 91, 3), ("KiteLogger", 298, 4), ("KiteLogger", 313, 5), ("KiteLogger", 301, 6), ("KiteLogger$Script", 87, 7), ("KiteLogger$Script", 89, 8), ("KiteLogger$Script", 91, 9), ("KiteLogger$Script", 93, 10), ("KiteLogger$Script", 95, 11), ("KiteLogger$Script", 97, 12), ("KiteLogger$Script", 99, 13), ("KiteLogger$Script", 101, 14), ("KiteLogger$Script", 103, 15), ("KiteLogger$Script", 105, 16), ("KiteLogger", 274, 17), ("KiteLogger", 283, 18), ("KiteLogger", 291, 19), ("KiteLoggerModel", 46, 7), ("KiteLoggerModel", 48, 8), ("KiteLoggerModel", 50, 9), ("KiteLoggerModel", 52, 10), ("KiteLoggerModel", 54, 11), ("KiteLoggerModel", 56, 12), ("KiteLoggerModel", 58, 13), ("KiteLoggerModel", 60, 14), ("KiteLoggerModel", 62, 15), ("KiteLoggerModel", 305, 1), ("KiteLoggerModel", 313, 2), ("KiteLoggerModel", 318, 3)], _
        exact List.forall_mem_cons.mpr ⟨vk_R.of (hts _ (str_w _ (List.mem_of_getElem? (i := 0) rfl))) (first 0 (by decide)), List.forall_mem_cons.mpr ⟨vk_R.of (hts _ (str_w _ (List.mem_of_getElem? (i := 1) rfl))) (first 1 (by decide)), List.forall_mem_cons.mpr ⟨vk_R.of (hts _ (str_w _ (List.mem_of_getElem? (i := 2) rfl))) (first 2 (by decide)), List.forall_mem_cons.mpr ⟨vk_R.of (hts _ (str_w _ (List.mem_of_getElem? (i := 3) rfl))) (first 3 (by decide)), List.forall_mem_cons.mpr ⟨vk_R.of (hts _ (str_w _ (List.mem_of_getElem? (i := 4) rfl))) (first 4 (by decide)), List.forall_mem_cons.mpr ⟨vk_R.of (hts _ (str_w _ (List.mem_of_getElem? (i := 5) rfl))) (first 5 (by decide)), List.forall_mem_cons.mpr ⟨vk_R.of (hts _ (str_w _ (List.mem_of_getElem? (i := 6) rfl))) (first 6 (by decide)), List.forall_mem_cons.mpr ⟨vk_R.of (hts _ (str_w _ (List.mem_of_getElem? (i := 7) rfl))) (first 7 (by decide)), List.forall_mem_cons.mpr ⟨vk_R.of (hts _ (str_w _ (List.mem_of_getElem? (i := 8) rfl))) (first 8 (by decide)), List.forall_mem_cons.mpr ⟨vk_R.of (hts _ (str_w _ (List.mem_of_getElem? (i := 9) rfl))) (first 9 (by decide)), List.forall_mem_cons.mpr ⟨vk_R.of (hts _ (str_w _ (List.mem_of_getElem? (i := 10) rfl))) (first 10 (by decide)), List.forall_mem_cons.mpr ⟨vk_R.of (hts _ (str_w _ (List.mem_of_getElem? (i := 11) rfl))) (first 11 (by decide)), List.forall_mem_cons.mpr ⟨vk_R.of (hts _ (str_w _ (List.mem_of_getElem? (i := 12) rfl))) (first 12 (by decide)), List.forall_mem_cons.mpr ⟨vk_R.of (hts _ (str_w _ (List.mem_of_getElem? (i := 13) rfl))) (first 13 (by decide)), List.forall_mem_cons.mpr ⟨vk_R.of (hts _ (str_w _ (List.mem_of_getElem? (i := 14) rfl))) (first 14 (by decide)), List.forall_mem_cons.mpr ⟨vk_R.of (hts _ (str_w _ (List.mem_of_getElem? (i := 15) rfl))) (first 15 (by decide)), List.forall_mem_cons.mpr ⟨vk_R.of (hts _ (str_w _ (List.mem_of_getElem? (i := 16) rfl))) (first 16 (by decide)), List.forall_mem_cons.mpr ⟨vk_R.of (hts _ (str_w _ (List.mem_of_getElem? (i := 17) rfl))) (first 17 (by decide)), List.forall_mem_cons.mpr ⟨vk_R.of (hts _ (str_w _ (List.mem_of_getElem? (i := 18) rfl))) (first 18 (by decide)), List.forall_mem_cons.mpr ⟨vk_R.of (hts _ (str_w _ (List.mem_of_getElem? (i := 19) rfl))) (first 19 (by decide)), List.forall_mem_cons.mpr ⟨vk_R.of (hts _ (str_w _ (List.mem_of_getElem? (i := 20) rfl))) (va_eqR (hg _ (List.mem_of_getElem? (i := 395) (by decide +kernel))) (first 7 (by decide))), List.forall_mem_cons.mpr ⟨vk_R.of (hts _ (str_w _ (List.mem_of_getElem? (i := 21) rfl))) (va_eqR (hg _ (List.mem_of_getElem? (i := 403) (by decide +kernel))) (first 8 (by decide))), List.forall_mem_cons.mpr ⟨vk_R.of (hts _ (str_w _ (List.mem_of_getElem? (i := 22) rfl))) (va_eqR (hg _ (List.mem_of_getElem? (i := 410) (by decide +kernel))) (first 9 (by decide))), List.forall_mem_cons.mpr ⟨vk_R.of (hts _ (str_w _ (List.mem_of_getElem? (i := 23) rfl))) (va_eqR (hg _ (List.mem_of_getElem? (i := 421) (by decide +kernel))) (first 10 (by decide))), List.forall_mem_cons.mpr ⟨vk_R.of (hts _ (str_w _ (List.mem_of_getElem? (i := 24) rfl))) (va_eqR (hg _ (List.mem_of_getElem? (i := 431) (by decide +kernel))) (first 11 (by decide))), List.forall_mem_cons.mpr ⟨vk_R.of (hts _ (str_w _ (List.mem_of_getElem? (i := 25) rfl))) (va_eqR (hg _ (List.mem_of_getElem? (i := 442) (by decide +kernel))) (first 12 (by decide))), List.forall_mem_cons.mpr ⟨vk_R.of (hts _ (str_w _ (List.mem_of_getElem? (i := 26) rfl))) (va_eqR (hg _ (List.mem_of_getElem? (i := 454) (by decide +kernel))) (first 13 (by decide))), List.forall_mem_cons.mpr ⟨vk_R.of (hts _ (str_w _ (List.mem_of_getElem? (i := 27) rfl))) (va_eqR (hg _ (List.mem_of_getElem? (i := 463) (by decide +kernel))) (first 14 (by decide))), List.forall_mem_cons.mpr ⟨vk_R.of (hts _ (str_w _ (List.mem_of_getElem? (i := 28) rfl))) (va_eqR (hg _ (List.mem_of_getElem? (i := 474) (by decide +kernel))) (first 15 (by decide))), List.forall_mem_cons.mpr ⟨vk_R.of (hts _ (str_w _ (List.mem_of_getElem? (i := 29) rfl))) (va_eqR (hg _ (List.mem_of_getElem? (i := 483) (by decide +kernel))) (first 1 (by decide))), List.forall_mem_cons.mpr ⟨vk_R.of (hts _ (str_w _ (List.mem_of_getElem? (i := 30) rfl))) (va_eqR (hg _ (List.mem_of_getElem? (i := 493) (by decide +kernel))) (first 2 (by decide))), List.forall_mem_cons.mpr ⟨vk_R.of (hts _ (str_w _ (List.mem_of_getElem? (i := 31) rfl))) (va_eqR (hg _ (List.mem_of_getElem? (i := 506) (by decide +kernel))) (first 3 (by decide))), fun _ h => absurd h List.not_mem_nil⟩⟩⟩⟩⟩⟩⟩⟩⟩⟩⟩⟩⟩⟩⟩⟩⟩⟩⟩⟩⟩⟩⟩⟩⟩⟩⟩⟩⟩⟩⟩⟩
      · rw [e3]; exact va_Zref (hts _ (List.mem_of_getElem? (i := 172) (by decide +kernel))) (hts _ (List.mem_of_getElem? (i := 88) (by decide +kernel))) htF (by rw [e4]; exact hA)
      · rw [e3, e4]; exact hTF
      · exact va_Zof (hts _ (List.mem_of_getElem? (i := 899) (by decide +kernel))) (hts _ (List.mem_of_getElem? (i := 105) (by decide +kernel))) (va_eqt (hg _ (List.mem_of_getElem? (i := 15) (by decide +kernel)))) (by rw [e4]; exact hA)
      · exact va_Zqof (hts _ (List.mem_of_getElem? (i := 915) (by decide +kernel))) (hts _ (List.mem_of_getElem? (i := 107) (by decide +kernel))) (hg _ (List.mem_of_getElem? (i := 16) (by decide +kernel))) (by rw [e4]; exact hA)
      · exact vx_Zqof (hts _ (List.mem_of_getElem? (i := 813) (by decide +kernel))) (hts _ (List.mem_of_getElem? (i := 101) (by decide +kernel))) (hg _ (List.mem_of_getElem? (i := 13) (by decide +kernel))) (by rw [e4]; exact hA)
      · exact vx_Zqof (hts _ (List.mem_of_getElem? (i := 815) (by decide +kernel))) (hts _ (List.mem_of_getElem? (i := 101) (by decide +kernel))) (hg _ (List.mem_of_getElem? (i := 14) (by decide +kernel))) (by rw [e4]; exact hA)
