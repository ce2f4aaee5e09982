/-! a tick keeps what holds -/
theorem pass_ne {g : Row} {t : Nat} (h0 : g 0 = nI t) (ht : t ≤ 9999) : s_pass g = inc (s_tk g) 0 := by
  unfold s_pass
  rw [if_neg (by rw [h0]; exact fun e => by have := (nI_eq (by omega) (by omega)).mp (e.trans (show (10000 : Int32) = nI 10000 from rfl)); omega)]
theorem fly_RJ {g : Row} {t i : Nat} (R : RJ t i g) (ht : t ≤ 9999) (h6 : g 6 = 1) : RJ (t + 1) i (s_pass g) := by
  obtain ⟨W, h0, ⟨la, s, l1, l2, l3, l4⟩, ⟨h, te, b1, b2, b3, b4, b5⟩, Rb0, Re0, ⟨a, a1, a2, a3⟩, RS0⟩ := R
  refine ⟨s_pass_W W, ?_⟩
  have hw := Wg_wind W.1 W.2.1.2.1
  have Wb0 := W.2.2.1
  have Wl0 := W.2.2.2.1
  rw [pass_ne h0 ht]
  have e6 : s_tk g = s_try (s_f3 (s_wind g (g 7)) g) := by
    unfold s_tk
    rw [if_neg (by rw [h6]; decide), if_pos h6]
    rfl
  rw [e6]
  generalize s_wind g (g 7) = w at hw ⊢
  have fo := fun (j : Nat) (x : (j ≠ 6 ∧ j ≠ 7 ∧ j ≠ 8 ∧ j ≠ 10 ∧ j ≠ 11 ∧ j ≠ 14) ∧ (j ≠ 9 ∧ j ≠ 12 ∧ j ≠ 16) ∧ (j < 37 ∨ 45 ≤ j)) => s_f3_out (w := w) Wb0 x.1 x.2.1 x.2.2
  have hl : Ws 30 45 17 (s_f3 w g) := Ws_congr Wl0 (fo 17 (by omega)) (fun j q1 q2 => fo j (by omega))
  have e12 : s_f3 w g 12 = g 12 + 1 := by
    show s_cl w (s_strain w (s_f1 w g)) 12 = g 12 + 1
    rw [s_cl_at (by decide) (by decide), s_strain_at (by decide) (by decide), f1_12 Wb0]
  have e16 : ∀ c, c ≤ 8 → g 16 = nI c → s_f3 w g 16 = nI (min 8 (c + 1)) := fun c hc e => by
    rw [s_f3_b (Or.inl rfl), f1_16 hc e]
  have RS3 : RS (s_f3 w g) := RS_congr RS0 (fun j hj => fo j (by omega))
  have Re3 : Re (s_f3 w g) := by
    unfold Re
    rw [fo 17 (by omega), fo 18 (by omega), fo 19 (by omega), fo 20 (by omega)]
    exact Re0
  have h03 : s_f3 w g 0 = nI t := (fo 0 (by omega)).trans h0
  obtain ⟨v, hv, ew⟩ := hw
  obtain ⟨h', hh', eh'⟩ := hgt_in (g := g) (w := w) b1 b2 b3 b4 hv ew
  have ways := f3_ways (w := w) Wb0 h6
  have to : ∀ j, j ≠ 17 ∧ j ≠ 19 ∧ j ≠ 20 → (j < 45 ∨ 135 ≤ j) → s_try (s_f3 w g) j = s_f3 w g j := fun j q1 q2 => s_try_out hl q1 q2
  have io : ∀ j, j ≠ 0 → j ≠ 17 ∧ j ≠ 19 ∧ j ≠ 20 → (j < 45 ∨ 135 ≤ j) → inc (s_try (s_f3 w g)) 0 j = s_f3 w g j := fun j q0 q1 q2 => by
    rw [inc_ne q0, to j q1 q2]
  have hS : RS (inc (s_try (s_f3 w g)) 0) ∧ Re (s_try (s_f3 w g)) := by
    unfold s_try
    by_cases c : s_f3 w g 6 = 1
    · rw [if_pos c]
      by_cases d : irm (s_f3 w g 12) (s_f3 w g 4) = 0
      · rw [if_pos d]
        rcases ways with ⟨q, -⟩ | ⟨-, -, q7, q6⟩
        · exact absurd (q.symm.trans c) (by decide)
        · have hp : h' ≠ 0 := by
            rintro rfl
            rw [q6, eh', if_pos nI_0] at c
            exact absurd c (by decide)
          obtain ⟨x1, x2⟩ := sample_RS (h := h') RS3 (by omega) h03 (by omega) (by omega) (q7.trans eh')
          exact ⟨x1, x2 Re3⟩
      · rw [if_neg d]
        exact ⟨RS_time RS3 (by omega) h03, Re3⟩
    · rw [if_neg c]
      exact ⟨RS_time RS3 (by omega) h03, Re3⟩
  refine ⟨?_, ⟨la, ?_⟩, ?_, fun q => ?_, ?_, ⟨a, a1, a2, ?_⟩, hS.1⟩
  · rw [inc_at, if_pos rfl, to 0 (by omega) (by omega), h03, nI_1]
  · rw [io 13 (by omega) (by omega) (by omega), io 14 (by omega) (by omega) (by omega), io 6 (by omega) (by omega) (by omega), fo 13 (by omega)]
    rw [if_pos h6] at l3
    rcases ways with ⟨q6, -, -, q14⟩ | ⟨q14, -, -, q6⟩
    · refine ⟨s + 1, l1, by rw [q14, l2, nI_1], ?_, l4⟩
      rw [q6, if_neg (by decide)]
      omega
    · refine ⟨s, l1, q14.trans l2, ?_, l4⟩
      by_cases z : s_f3 w g 6 = 1
      · rw [if_pos z]; exact l3
      · rw [if_neg z]; omega
  · unfold Rh
    rw [io 6 (by omega) (by omega) (by omega), io 7 (by omega) (by omega) (by omega), io 8 (by omega) (by omega) (by omega)]
    rcases ways with ⟨q6, q7, q8, -⟩ | ⟨-, q8, q7, q6⟩
    · refine ⟨0, 0, by rw [q7]; rfl, by rw [q8]; rfl, by omega, by omega, ?_⟩
      rw [q6]
      exact ⟨fun e => absurd e (by decide), fun e => by omega⟩
    · refine ⟨h', te, q7.trans eh', q8.trans b2, hh', b4, ?_⟩
      rw [q6, eh']
      by_cases z : h' = 0
      · subst z
        rw [if_pos nI_0]
        exact ⟨fun e => absurd e (by decide), fun e => by omega⟩
      · rw [if_neg (nI_ne0 (by omega) (by omega))]
        exact ⟨fun _ => by omega, fun _ => rfl⟩
  · obtain ⟨ft, f1, f2, f3⟩ := Rb0 h6
    rw [io 12 (by omega) (by omega) (by omega), io 16 (by omega) (by omega) (by omega), e12, e16 _ (by omega) f3, f2, nI_1]
    exact ⟨ft + 1, by omega, rfl, by congr 1; omega⟩
  · have := hS.2
    unfold Re at this ⊢
    rw [inc_ne (by decide), inc_ne (by decide), inc_ne (by decide), inc_ne (by decide)]
    exact this
  · rw [io 1 (by omega) (by omega) (by omega), fo 1 (by omega)]; exact a3
theorem idle_RJ {g : Row} {t i : Nat} (R : RJ t i g) (ht : t ≤ 9999) (h6 : ¬ g 6 = 1) : RJ (t + 1) i (s_pass g) := by
  obtain ⟨W, h0, ⟨la, s, l1, l2, l3, l4⟩, ⟨h, te, b1, b2, b3, b4, b5⟩, Rb0, Re0, ⟨a, a1, a2, a3⟩, RS0⟩ := R
  refine ⟨s_pass_W W, ?_⟩
  rw [pass_ne h0 ht]
  have e : ∀ j, j ≠ 11 → s_tk g j = g j := fun j hj => by
    unfold s_tk
    by_cases c : g 6 = 2
    · rw [if_pos c, upd_at, if_neg hj]
    · rw [if_neg c, if_neg h6]
  have io : ∀ j, j ≠ 0 → j ≠ 11 → inc (s_tk g) 0 j = g j := fun j q0 q1 => by rw [inc_ne q0, e j q1]
  refine ⟨?_, ⟨la, s, ?_, ?_, ?_, l4⟩, ⟨h, te, ?_, ?_, b3, b4, ?_⟩, fun q => ?_, ?_, ⟨a, a1, a2, ?_⟩, ?_⟩
  · rw [inc_at, if_pos rfl, e 0 (by decide), h0, nI_1]
  · rw [io 13 (by decide) (by decide)]; exact l1
  · rw [io 14 (by decide) (by decide)]; exact l2
  · rw [io 6 (by decide) (by decide)]; exact l3
  · rw [io 7 (by decide) (by decide)]; exact b1
  · rw [io 8 (by decide) (by decide)]; exact b2
  · rw [io 6 (by decide) (by decide)]; exact b5
  · rw [io 6 (by decide) (by decide)] at q
    exact absurd q h6
  · unfold Re
    rw [io 17 (by decide) (by decide), io 18 (by decide) (by decide), io 19 (by decide) (by decide), io 20 (by decide) (by decide)]
    exact Re0
  · rw [io 1 (by decide) (by decide)]; exact a3
  · exact RS_time (RS_congr RS0 (fun j hj => e j (by omega))) (t := t) (by omega) (by rw [e 0 (by decide)]; exact h0)
theorem pass_RJ {g : Row} {t i : Nat} (R : RJ t i g) (ht : t ≤ 9999) : RJ (t + 1) i (s_pass g) := by
  by_cases c : g 6 = 1
  · exact fly_RJ R ht c
  · exact idle_RJ R ht c
theorem itr_RJ {i : Nat} : ∀ {n t : Nat} {g : Row}, RJ t i g → t + n ≤ 10000 → RJ (t + n) i (itr s_pass n g) := by
  intro n
  induction n with
  | zero => exact fun R _ => R
  | succ n ih =>
    intro t g R ht
    have := ih (pass_RJ R (by omega)) (by omega)
    rw [show t + (n + 1) = t + 1 + n from by omega]
    exact this
theorem RJ_up {g : Row} {t i : Nat} (R : RJ t i g) : RJ t (i + 1) g := by
  obtain ⟨W, h0, ⟨la, s, l1, l2, l3, l4⟩, r⟩ := R
  exact ⟨W, h0, ⟨la, s, l1, l2, l3, by omega⟩, r⟩
/-! the changes keep what holds -/
theorem do_RJ_1 {a b : Int32} {g : Row} {t i : Nat} (R : RJ t i g) (hb : s_bad 1 a b = false) (hs : s_stop 1 a g = false) : RJ t (i + 1) (s_do 1 a b g) := by
  obtain ⟨W, h0, ⟨la, s, l1, l2, l3, l4⟩, ⟨h, te, b1, b2, b3, b4, b5⟩, Rb0, Re0, ⟨ar, a1, a2, a3⟩, RS0⟩ := R
  have W' := s_do_W W hb hs ⟨by omega, by omega⟩
  refine ⟨W', ?_⟩
  show (s_launch g 0 = nI t ∧ Rs (i + 1) (s_launch g) ∧ Rh (s_launch g) ∧ Rb t (s_launch g) ∧ Re (s_launch g) ∧ Ra (s_launch g) ∧ RS (s_launch g))
  have hw : s_why g = 0 := by
    have h1 : (!decide (s_why g = 0)) = false := hs
    by_cases e : s_why g = 0
    · exact e
    · rw [decide_eq_false e] at h1
      exact absurd h1 (by decide)
  have n6 : ¬ g 6 = 1 ∧ ¬ g 8 < 10 := by
    unfold s_why at hw
    by_cases c1 : g 6 = 1
    · rw [if_pos c1] at hw; exact absurd hw (by decide)
    · rw [if_neg c1] at hw
      by_cases c2 : g 6 = 2
      · rw [if_pos c2] at hw; exact absurd hw (by decide)
      · rw [if_neg c2] at hw
        by_cases c3 : g 8 < 10
        · rw [if_pos c3] at hw; exact absurd hw (by decide)
        · exact ⟨c1, c3⟩
  have ht : 10 ≤ te := by
    have := n6.2
    rw [b2] at this
    rcases Nat.lt_or_ge te 10 with q | q
    · exact absurd (nI_lt (b := 10) q (by omega)) this
    · exact q
  have eo : ∀ j, j ≠ 6 → j ≠ 7 → j ≠ 12 → j ≠ 16 → j ≠ 13 → s_launch g j = g j := fun j q1 q2 q3 q4 q5 => by
    unfold s_launch
    rw [inc_ne q5, upd_at, if_neg q4, upd_at, if_neg q3, upd_at, if_neg q2, upd_at, if_neg q1]
  rw [if_neg n6.1] at l3
  refine ⟨?_, ⟨la + 1, s, ?_, ?_, ?_, by omega⟩, ⟨10, te, rfl, ?_, ht, b4, ?_⟩, fun _ => ⟨0, by omega, rfl, rfl⟩, ?_, ⟨ar, a1, a2, ?_⟩, ?_⟩
  · rw [eo 0 (by decide) (by decide) (by decide) (by decide) (by decide)]; exact h0
  · show g 13 + 1 = nI (la + 1)
    rw [l1, nI_1]
  · rw [eo 14 (by decide) (by decide) (by decide) (by decide) (by decide)]; exact l2
  · rw [if_pos (show s_launch g 6 = 1 from rfl)]; omega
  · rw [eo 8 (by decide) (by decide) (by decide) (by decide) (by decide)]; exact b2
  · exact ⟨fun _ => by omega, fun _ => rfl⟩
  · exact Re0
  · exact a3
  · exact RS_congr RS0 (fun j hj => eo j (by omega) (by omega) (by omega) (by omega) (by omega))
theorem do_RJ_2 {a b : Int32} {g : Row} {t i : Nat} (R : RJ t i g) (hb : s_bad 2 a b = false) (hs : s_stop 2 a g = false) : RJ t (i + 1) (s_do 2 a b g) := by
  obtain ⟨W, h0, ⟨la, s, l1, l2, l3, l4⟩, ⟨h, te, b1, b2, b3, b4, b5⟩, Rb0, Re0, ⟨ar, a1, a2, a3⟩, RS0⟩ := R
  have W' := s_do_W W hb hs ⟨by omega, by omega⟩
  refine ⟨W', ?_⟩
  show (s_out a g 0 = nI t ∧ Rs (i + 1) (s_out a g) ∧ Rh (s_out a g) ∧ Rb t (s_out a g) ∧ Re (s_out a g) ∧ Ra (s_out a g) ∧ RS (s_out a g))
  obtain ⟨n, n1, n2, rfl⟩ := outB_F (lo := 1) (hi := 200) (by omega) (by omega) hb
  have h1 : (decide (g 6 = 2) || decide (600 < g 8 + nI n)) = false := hs
  rw [Bool.or_eq_false_iff, decide_eq_false_iff_not, decide_eq_false_iff_not, b2, nI_add] at h1
  have ht : te + n ≤ 600 := by
    rcases Nat.lt_or_ge 600 (te + n) with q | q
    · exact absurd (nI_lt (a := 600) q (by omega)) h1.2
    · exact q
  have eo : ∀ j, j ≠ 8 → s_out (nI n) g j = g j := fun j q => by
    unfold s_out
    rw [upd_at, if_neg q]
  refine ⟨h0, ⟨la, s, l1, l2, l3, by omega⟩, ⟨h, te + n, b1, ?_, by omega, ht, b5⟩, Rb0, Re0, ⟨ar, a1, a2, a3⟩, RS_congr RS0 (fun j hj => eo j (by omega))⟩
  show g 8 + nI n = nI (te + n)
  rw [b2, nI_add]
theorem do_RJ_3 {a b : Int32} {g : Row} {t i : Nat} (R : RJ t i g) (hb : s_bad 3 a b = false) (hs : s_stop 3 a g = false) : RJ t (i + 1) (s_do 3 a b g) := by
  obtain ⟨W, h0, ⟨la, s, l1, l2, l3, l4⟩, ⟨h, te, b1, b2, b3, b4, b5⟩, Rb0, Re0, ⟨ar, a1, a2, a3⟩, RS0⟩ := R
  have W' := s_do_W W hb hs ⟨by omega, by omega⟩
  refine ⟨W', ?_⟩
  show (s_in a g 0 = nI t ∧ Rs (i + 1) (s_in a g) ∧ Rh (s_in a g) ∧ Rb t (s_in a g) ∧ Re (s_in a g) ∧ Ra (s_in a g) ∧ RS (s_in a g))
  obtain ⟨n, n1, n2, rfl⟩ := outB_F (lo := 1) (hi := 200) (by omega) (by omega) hb
  have n6 : ¬ g 6 = 2 := of_decide_eq_false hs
  have eo : ∀ j, j ≠ 6 → j ≠ 7 → j ≠ 8 → s_in (nI n) g j = g j := fun j q1 q2 q3 => by
    unfold s_in
    by_cases z : s_in0 (nI n) g 7 = 0
    · rw [if_pos z, upd_at, if_neg q1]
      unfold s_in0
      rw [upd_at, if_neg q2, upd_at, if_neg q3]
    · rw [if_neg z]
      unfold s_in0
      rw [upd_at, if_neg q2, upd_at, if_neg q3]
  have e7 : s_in0 (nI n) g 7 = nI (min h (te - n)) := by
    unfold s_in0
    rw [upd_at, if_pos rfl, b1, b2, imax0_sub (by omega) (by omega), imin_nI (by omega) (by omega)]
  have e8 : s_in0 (nI n) g 8 = nI (te - n) := by
    unfold s_in0
    rw [upd_at, if_neg (by decide), upd_at, if_pos rfl, b2, imax0_sub (by omega) (by omega)]
  have key : s_in (nI n) g 7 = nI (min h (te - n)) ∧ s_in (nI n) g 8 = nI (te - n) ∧ s_in (nI n) g 6 = (if min h (te - n) = 0 then 0 else g 6) := by
    unfold s_in
    by_cases z : min h (te - n) = 0
    · rw [if_pos (by rw [e7, z, nI_0]), if_pos z, upd_at, if_neg (by decide), upd_at, if_neg (by decide), upd_at, if_pos rfl]
      exact ⟨e7, e8, rfl⟩
    · rw [if_neg (by rw [e7]; exact nI_ne0 (by omega) (by omega)), if_neg z]
      refine ⟨e7, e8, ?_⟩
      unfold s_in0
      rw [upd_at, if_neg (by decide), upd_at, if_neg (by decide)]
  obtain ⟨k7, k8, k6⟩ := key
  have kk : s_in (nI n) g 6 = 1 → g 6 = 1 ∧ 0 < min h (te - n) := fun q => by
    rw [k6] at q
    by_cases z : min h (te - n) = 0
    · rw [if_pos z] at q; exact absurd q (by decide)
    · rw [if_neg z] at q; exact ⟨q, by omega⟩
  refine ⟨?_, ⟨la, s, ?_, ?_, ?_, by omega⟩, ⟨_, _, k7, k8, by omega, by omega, fun q => (kk q).2, fun q => ?_⟩, fun q => ?_, ?_, ⟨ar, a1, a2, ?_⟩, ?_⟩
  · rw [eo 0 (by decide) (by decide) (by decide)]; exact h0
  · rw [eo 13 (by decide) (by decide) (by decide)]; exact l1
  · rw [eo 14 (by decide) (by decide) (by decide)]; exact l2
  · by_cases z : s_in (nI n) g 6 = 1
    · rw [if_pos z]
      rw [if_pos (kk z).1] at l3
      exact l3
    · rw [if_neg z]; omega
  · rw [k6, if_neg (by omega)]
    exact b5.mpr (by omega)
  · rw [eo 12 (by decide) (by decide) (by decide), eo 16 (by decide) (by decide) (by decide)]
    exact Rb0 (kk q).1
  · unfold Re
    rw [eo 17 (by decide) (by decide) (by decide), eo 18 (by decide) (by decide) (by decide), eo 19 (by decide) (by decide) (by decide), eo 20 (by decide) (by decide) (by decide)]
    exact Re0
  · rw [eo 1 (by decide) (by decide) (by decide)]; exact a3
  · exact RS_congr RS0 (fun j hj => eo j (by omega) (by omega) (by omega))
theorem do_RJ_4 {a b : Int32} {g : Row} {t i : Nat} (R : RJ t i g) (hb : s_bad 4 a b = false) (hs : s_stop 4 a g = false) : RJ t (i + 1) (s_do 4 a b g) := by
  obtain ⟨W, h0, ⟨la, s, l1, l2, l3, l4⟩, ⟨h, te, b1, b2, b3, b4, b5⟩, Rb0, Re0, ⟨ar, a1, a2, a3⟩, RS0⟩ := R
  have W' := s_do_W W hb hs ⟨by omega, by omega⟩
  refine ⟨W', ?_⟩
  show (s_bri a b g 0 = nI t ∧ Rs (i + 1) (s_bri a b g) ∧ Rh (s_bri a b g) ∧ Rb t (s_bri a b g) ∧ Re (s_bri a b g) ∧ Ra (s_bri a b g) ∧ RS (s_bri a b g))
  exact ⟨h0, ⟨la, s, l1, l2, l3, by omega⟩, ⟨h, te, b1, b2, b3, b4, b5⟩, Rb0, Re0, ⟨ar, a1, a2, a3⟩, RS_congr RS0 (fun j hj => by
    unfold s_bri
    rw [upd_at, if_neg (by omega), upd_at, if_neg (by omega), upd_at, if_neg (by omega)])⟩
theorem do_RJ_5 {a b : Int32} {g : Row} {t i : Nat} (R : RJ t i g) (hb : s_bad 5 a b = false) (hs : s_stop 5 a g = false) : RJ t (i + 1) (s_do 5 a b g) := by
  obtain ⟨W, h0, ⟨la, s, l1, l2, l3, l4⟩, ⟨h, te, b1, b2, b3, b4, b5⟩, Rb0, Re0, ⟨ar, a1, a2, a3⟩, RS0⟩ := R
  have W' := s_do_W W hb hs ⟨by omega, by omega⟩
  refine ⟨W', ?_⟩
  show (s_evy a g 0 = nI t ∧ Rs (i + 1) (s_evy a g) ∧ Rh (s_evy a g) ∧ Rb t (s_evy a g) ∧ Re (s_evy a g) ∧ Ra (s_evy a g) ∧ RS (s_evy a g))
  exact ⟨h0, ⟨la, s, l1, l2, l3, by omega⟩, ⟨h, te, b1, b2, b3, b4, b5⟩, Rb0, Re0, ⟨ar, a1, a2, a3⟩, RS_congr RS0 (fun j hj => by
    unfold s_evy
    rw [upd_at, if_neg (by omega)])⟩
theorem do_RJ_6 {a b : Int32} {g : Row} {t i : Nat} (R : RJ t i g) (hb : s_bad 6 a b = false) (hs : s_stop 6 a g = false) : RJ t (i + 1) (s_do 6 a b g) := by
  obtain ⟨W, h0, ⟨la, s, l1, l2, l3, l4⟩, ⟨h, te, b1, b2, b3, b4, b5⟩, Rb0, Re0, ⟨ar, a1, a2, a3⟩, RS0⟩ := R
  have W' := s_do_W W hb hs ⟨by omega, by omega⟩
  refine ⟨W', ?_⟩
  show (s_sea a g 0 = nI t ∧ Rs (i + 1) (s_sea a g) ∧ Rh (s_sea a g) ∧ Rb t (s_sea a g) ∧ Re (s_sea a g) ∧ Ra (s_sea a g) ∧ RS (s_sea a g))
  have n6 : g 6 = 2 := by
    have h1 : (!decide (g 6 = 2)) = false := hs
    by_cases e : g 6 = 2
    · exact e
    · rw [decide_eq_false e] at h1
      exact absurd h1 (by decide)
  have eo : ∀ j, j ≠ 6 → j ≠ 15 → s_sea a g j = g j := fun j q1 q2 => by
    unfold s_sea
    by_cases z : iabs (a - g 10) ≤ s_lim g
    · rw [if_pos z, upd_at, if_neg q1, inc_ne q2]
    · rw [if_neg z, inc_ne q2]
  have e6 : ¬ s_sea a g 6 = 1 := by
    unfold s_sea
    by_cases z : iabs (a - g 10) ≤ s_lim g
    · rw [if_pos z, upd_at, if_pos rfl]; decide
    · rw [if_neg z, inc_ne (by decide), n6]; decide
  have g6 : ¬ g 6 = 1 := by rw [n6]; decide
  rw [if_neg g6] at l3
  refine ⟨?_, ⟨la, s, ?_, ?_, ?_, by omega⟩, ⟨h, te, ?_, ?_, b3, b4, fun q => absurd q e6, fun q => absurd (b5.mpr q) g6⟩, fun q => absurd q e6, ?_, ⟨ar, a1, a2, ?_⟩, ?_⟩
  · rw [eo 0 (by decide) (by decide)]; exact h0
  · rw [eo 13 (by decide) (by decide)]; exact l1
  · rw [eo 14 (by decide) (by decide)]; exact l2
  · rw [if_neg e6]; exact l3
  · rw [eo 7 (by decide) (by decide)]; exact b1
  · rw [eo 8 (by decide) (by decide)]; exact b2
  · unfold Re
    rw [eo 17 (by decide) (by decide), eo 18 (by decide) (by decide), eo 19 (by decide) (by decide), eo 20 (by decide) (by decide)]
    exact Re0
  · rw [eo 1 (by decide) (by decide)]; exact a3
  · exact RS_congr RS0 (fun j hj => eo j (by omega) (by omega))
theorem do_RJ_7 {a b : Int32} {g : Row} {t i : Nat} (R : RJ t i g) (hb : s_bad 7 a b = false) (hs : s_stop 7 a g = false) : RJ t (i + 1) (s_do 7 a b g) := by
  obtain ⟨W, h0, ⟨la, s, l1, l2, l3, l4⟩, ⟨h, te, b1, b2, b3, b4, b5⟩, Rb0, Re0, ⟨ar, a1, a2, a3⟩, RS0⟩ := R
  have W' := s_do_W W hb hs ⟨by omega, by omega⟩
  refine ⟨W', ?_⟩
  show (s_arc g 0 = nI t ∧ Rs (i + 1) (s_arc g) ∧ Rh (s_arc g) ∧ Rb t (s_arc g) ∧ Re (s_arc g) ∧ Ra (s_arc g) ∧ RS (s_arc g))
  obtain ⟨c, d, c1, d1, e17, e18, ⟨o1, o2, o3, o4, o5⟩, r1⟩ := RS0
  have h1 : (!decide (g 6 = 0) || decide (90 < g 18 + g 17)) = false := hs
  rw [Bool.or_eq_false_iff, decide_eq_false_iff_not, e17, e18, nI_add] at h1
  have hd : d + c ≤ 90 := by
    rcases Nat.lt_or_ge 90 (d + c) with q | q
    · exact absurd (nI_lt (a := 90) q (by omega)) h1.2
    · exact q
  have q18 : s_arc g 18 = nI (d + c) := by
    show g 18 + g 17 = _
    rw [e17, e18, nI_add]
  have q17 : s_arc g 17 = nI 0 := rfl
  have eo : ∀ j, j ≠ 17 → j ≠ 18 → (j < 135 + 3 * d ∨ 135 + 3 * (d + c) ≤ j) → s_arc g j = g j := fun j x1 x2 x3 => by
    unfold s_arc
    rw [upd_at, if_neg x1, upd_at, if_neg x2, e17, e18, cn_nI (by omega), cn_nI (by omega), pk_cpy_out (by omega)]
  have ei : ∀ k, k < c → s_arc g (135 + 3 * (d + k)) = g (45 + 3 * k) := fun k hk => by
    unfold s_arc
    rw [upd_at, if_neg (by omega), upd_at, if_neg (by omega), e17, e18, cn_nI (by omega), cn_nI (by omega), pk_cpy_in (by omega) (by omega)]
    congr 1
    omega
  have ej : ∀ j, j < d + c → (j < d ∧ s_arc g (135 + 3 * j) = g (135 + 3 * j)) ∨ ∃ k, k < c ∧ j = d + k ∧ s_arc g (135 + 3 * j) = g (45 + 3 * k) := fun j hj => by
    by_cases q : j < d
    · exact Or.inl ⟨q, eo _ (by omega) (by omega) (by omega)⟩
    · exact Or.inr ⟨j - d, by omega, by omega, by rw [show 135 + 3 * j = 135 + 3 * (d + (j - d)) from by omega]; exact ei _ (by omega)⟩
  have f : ∀ j, j < 17 ∨ j = 19 ∨ j = 20 → s_arc g j = g j := fun j hj => eo j (by omega) (by omega) (by omega)
  refine ⟨?_, ⟨la, s, ?_, ?_, ?_, by omega⟩, ⟨h, te, ?_, ?_, b3, b4, ?_⟩, ?_, ?_, ⟨ar, a1, a2, ?_⟩, ⟨0, d + c, by omega, hd, q17, q18, ⟨fun j k x1 x2 => ?_, fun j k x1 x2 => by omega, fun j k x1 x2 => by omega, fun k x => by omega, fun k x => ?_⟩, fun k x => by omega⟩⟩
  · rw [f 0 (by omega)]; exact h0
  · rw [f 13 (by omega)]; exact l1
  · rw [f 14 (by omega)]; exact l2
  · rw [f 6 (by omega)]; exact l3
  · rw [f 7 (by omega)]; exact b1
  · rw [f 8 (by omega)]; exact b2
  · rw [f 6 (by omega)]; exact b5
  · unfold Rb
    rw [f 6 (by omega), f 12 (by omega), f 16 (by omega)]; exact Rb0
  · unfold Re at Re0 ⊢
    rw [q17, q18, f 19 (by omega), f 20 (by omega), Re0, e17, e18, ← nI_add, nI_0]
    grind
  · rw [f 1 (by omega)]; exact a3
  · rcases ej k x2 with ⟨y1, y2⟩ | ⟨m, y1, rfl, y2⟩
    · rcases ej j (by omega) with ⟨z1, z2⟩ | ⟨m', z1, rfl, z2⟩
      · rw [y2, z2]; exact o1 j k x1 y1
      · omega
    · rcases ej j (by omega) with ⟨z1, z2⟩ | ⟨m', z1, rfl, z2⟩
      · rw [y2, z2]; exact o3 j m z1 y1
      · rw [y2, z2]; exact o2 m' m (by omega) y1
  · rw [f 0 (by omega)]
    rcases ej k x with ⟨y1, y2⟩ | ⟨m, y1, rfl, y2⟩
    · rw [y2]; exact o5 k y1
    · rw [y2]; exact o4 m y1
theorem do_RJ {c : Nat} {a b : Int32} {g : Row} {t i : Nat} (R : RJ t i g) (hb : s_bad c a b = false) (hs : s_stop c a g = false) (hc : 1 ≤ c ∧ c ≤ 7) : RJ t (i + 1) (s_do c a b g) := by
  obtain rfl | rfl | rfl | rfl | rfl | rfl | rfl : c = 1 ∨ c = 2 ∨ c = 3 ∨ c = 4 ∨ c = 5 ∨ c = 6 ∨ c = 7 := by omega
  · exact do_RJ_1 R hb hs
  · exact do_RJ_2 R hb hs
  · exact do_RJ_3 R hb hs
  · exact do_RJ_4 R hb hs
  · exact do_RJ_5 R hb hs
  · exact do_RJ_6 R hb hs
  · exact do_RJ_7 R hb hs
