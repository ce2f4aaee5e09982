/-! the changes: what the class does; what holds of the row is kept -/
theorem WF_same {g g' : Row} (W : WF g) (h : ∀ j, (j = 0 ∨ j = 4 ∨ j = 5 ∨ j = 6 ∨ j = 7 ∨ j = 8 ∨ j = 11 ∨ j = 14 ∨ j = 16 ∨ j = 17 ∨ j = 18 ∨ j = 19 ∨ 21 ≤ j) → g' j = g j) : WF g' := by
  obtain ⟨Wg0, Wk0, Wb0, Wl0, Wa0⟩ := W
  refine ⟨?_, Wk_congr Wk0 (fun j hj => h j (by omega)), Wb_congr Wb0 (h _ (by omega)) (fun k hk => h _ (by omega)), Ws_congr Wl0 (h _ (by omega)) (fun j h1 h2 => h _ (by omega)), Ws_congr Wa0 (h _ (by omega)) (fun j h1 h2 => h _ (by omega))⟩
  obtain ⟨⟨t, ht, h0, s, m⟩, ⟨n, n1, n2, h5, hg⟩, h4⟩ := Wg0
  exact ⟨⟨t, ht, by rw [h 0 (by omega)]; exact h0, by rw [h 14 (by omega)]; exact s, by rw [h 19 (by omega)]; exact m⟩, ⟨n, n1, n2, by rw [h 5 (by omega)]; exact h5, fun k hk => by rw [h _ (by omega)]; exact hg k hk⟩, by rw [h 4 (by omega)]; exact h4⟩
/-- a change of the kite's places alone -/
theorem WF_kite {g g' : Row} (W : WF g) (hk : Wk g') (h : ∀ j, (j = 0 ∨ j = 4 ∨ j = 5 ∨ j = 14 ∨ j = 16 ∨ j = 17 ∨ j = 18 ∨ j = 19 ∨ 21 ≤ j) → g' j = g j) : WF g' := by
  obtain ⟨Wg0, Wk0, Wb0, Wl0, Wa0⟩ := W
  refine ⟨?_, hk, Wb_congr Wb0 (h _ (by omega)) (fun k hk => h _ (by omega)), Ws_congr Wl0 (h _ (by omega)) (fun j h1 h2 => h _ (by omega)), Ws_congr Wa0 (h _ (by omega)) (fun j h1 h2 => h _ (by omega))⟩
  obtain ⟨⟨t, ht, h0, s, m⟩, ⟨n, n1, n2, h5, hg⟩, h4⟩ := Wg0
  exact ⟨⟨t, ht, by rw [h 0 (by omega)]; exact h0, by rw [h 14 (by omega)]; exact s, by rw [h 19 (by omega)]; exact m⟩, ⟨n, n1, n2, by rw [h 5 (by omega)]; exact h5, fun k hk => by rw [h _ (by omega)]; exact hg k hk⟩, by rw [h 4 (by omega)]; exact h4⟩
/-- the station with another kite -/
theorem SR_kite {M : Mem} {κ g g' : Row} (H : SR M 10 g) (hk : KR κ g') (h : ∀ j, (j = 0 ∨ j = 4 ∨ j = 5 ∨ 16 ≤ j) → g' j = g j) : SR (setR M 11 κ) 10 g' := by
  rw [SR10] at H ⊢
  obtain ⟨r2, r6, r7, r8, rk, rg, rb, rl, r20, ra⟩ := H
  simp only [setR_at, Nat.reduceEqDiff, reduceIte]
  refine ⟨by rw [h _ (by omega)]; exact r2, by rw [h _ (by omega)]; exact r6, by rw [h _ (by omega)]; exact r7, by rw [h _ (by omega)]; exact r8, hk, fun k hk => ?_, BR_ext rb (h _ (by omega)) (fun k => h _ (by omega)), LR_ext rl (h _ (by omega)) (fun j hj => h j (by omega)), by rw [h _ (by omega)]; exact r20, LR_ext ra (h _ (by omega)) (fun j hj => h j (by omega))⟩
  rw [h _ (by omega)] at hk ⊢
  exact rg k hk
theorem s_launch_W {g : Row} (W : WF g) : WF (s_launch g) := by
  have o : ∀ j, j ≠ 6 ∧ j ≠ 7 ∧ j ≠ 12 ∧ j ≠ 16 ∧ j ≠ 13 → s_launch g j = g j := fun j ⟨a, b, c, d, e⟩ => by
    unfold s_launch
    rw [inc_at, if_neg e, upd_at, if_neg d, upd_at, if_neg c, upd_at, if_neg b, upd_at, if_neg a]
  have e16 : s_launch g 16 = nI 0 := rfl
  obtain ⟨Wg0, Wk0, Wb0, Wl0, Wa0⟩ := W
  refine ⟨?_, ⟨Or.inr (Or.inl rfl), ⟨10, by omega, rfl⟩, by rw [o _ (by omega)]; exact Wk0.2.2.1, by rw [o _ (by omega)]; exact Wk0.2.2.2⟩, ⟨0, by omega, e16, fun k hk => absurd hk (by omega)⟩, Ws_congr Wl0 (o _ (by omega)) (fun j h1 h2 => o _ (by omega)), Ws_congr Wa0 (o _ (by omega)) (fun j h1 h2 => o _ (by omega))⟩
  obtain ⟨⟨t, ht, h0, s, m⟩, ⟨n, n1, n2, h5, hg⟩, h4⟩ := Wg0
  exact ⟨⟨t, ht, by rw [o 0 (by omega)]; exact h0, by rw [o 14 (by omega)]; exact s, by rw [o 19 (by omega)]; exact m⟩, ⟨n, n1, n2, by rw [o 5 (by omega)]; exact h5, fun k hk => by rw [o _ (by omega)]; exact hg k hk⟩, by rw [o 4 (by omega)]; exact h4⟩
theorem s_out_W {g : Row} {a t : Nat} (W : WF g) (h8 : g 8 = nI t) (h : t + a ≤ 600) : WF (s_out (nI a) g) := by
  have o : ∀ j, j ≠ 8 → s_out (nI a) g j = g j := fun j a => by unfold s_out; rw [upd_at, if_neg a]
  refine WF_kite W ⟨by rw [o _ (by omega)]; exact W.2.1.1, by rw [o _ (by omega)]; exact W.2.1.2.1, ⟨t + a, h, ?_⟩, by rw [o _ (by omega)]; exact W.2.1.2.2.2⟩ (fun j hj => o j (by omega))
  unfold s_out
  rw [upd_at, if_pos rfl, h8, nI_add]
theorem s_in0_at {g : Row} {a : Int32} {j : Nat} (h7 : j ≠ 7) (h8 : j ≠ 8) : s_in0 a g j = g j := by unfold s_in0; rw [upd_at, if_neg h7, upd_at, if_neg h8]
theorem s_in_at {g : Row} {a : Int32} {j : Nat} (h6 : j ≠ 6) : s_in a g j = s_in0 a g j := by
  unfold s_in
  by_cases c : s_in0 a g 7 = 0
  · rw [if_pos c, upd_at, if_neg h6]
  · rw [if_neg c]
theorem s_in_W {g : Row} {a : Nat} (W : WF g) (ha : a ≤ 200) : WF (s_in (nI a) g) := by
  obtain ⟨h6, ⟨h, hh, e7⟩, ⟨t, ht, e8⟩, h11⟩ := W.2.1
  have e : imax 0 (g 8 - nI a) = nI (t - a) := by rw [e8, imax0_sub (by omega) (by omega)]
  refine WF_kite W ⟨?_, ?_, ?_, by rw [s_in_at (by omega), s_in0_at (by omega) (by omega)]; exact h11⟩ (fun j hj => by rw [s_in_at (by omega), s_in0_at (by omega) (by omega)])
  · unfold s_in
    by_cases c : s_in0 (nI a) g 7 = 0
    · rw [if_pos c, upd_at, if_pos rfl]; exact Or.inl rfl
    · rw [if_neg c, s_in0_at (by omega) (by omega)]; exact h6
  · rw [s_in_at (by omega)]
    unfold s_in0
    rw [upd_at, if_pos rfl, e, e7, imin_nI (by omega) (by omega)]
    exact ⟨_, by omega, rfl⟩
  · rw [s_in_at (by omega)]
    unfold s_in0
    rw [upd_at, if_neg (by omega), upd_at, if_pos rfl, e]
    exact ⟨_, by omega, rfl⟩
theorem s_bri_W {g : Row} {a b : Int32} (W : WF g) : WF (s_bri a b g) := WF_same W (fun j hj => by
  unfold s_bri
  rw [upd_at, if_neg (by omega), upd_at, if_neg (by omega), upd_at, if_neg (by omega)])
theorem s_evy_W {g : Row} {a : Nat} (W : WF g) (h1 : 1 ≤ a) (h2 : a ≤ 20) : WF (s_evy (nI a) g) := by
  have o : ∀ j, j ≠ 4 → s_evy (nI a) g j = g j := fun j a => by unfold s_evy; rw [upd_at, if_neg a]
  obtain ⟨Wg0, Wk0, Wb0, Wl0, Wa0⟩ := W
  refine ⟨?_, Wk_congr Wk0 (fun j hj => o j (by omega)), Wb_congr Wb0 (o _ (by omega)) (fun k hk => o _ (by omega)), Ws_congr Wl0 (o _ (by omega)) (fun j h1 h2 => o _ (by omega)), Ws_congr Wa0 (o _ (by omega)) (fun j h1 h2 => o _ (by omega))⟩
  obtain ⟨⟨t, ht, h0, s, m⟩, ⟨n, n1, n2, h5, hg⟩, h4⟩ := Wg0
  exact ⟨⟨t, ht, by rw [o 0 (by omega)]; exact h0, by rw [o 14 (by omega)]; exact s, by rw [o 19 (by omega)]; exact m⟩, ⟨n, n1, n2, by rw [o 5 (by omega)]; exact h5, fun k hk => by rw [o _ (by omega)]; exact hg k hk⟩, ⟨a, h1, h2, rfl⟩⟩
theorem s_sea_at {g : Row} {a : Int32} {j : Nat} (h6 : j ≠ 6) (h15 : j ≠ 15) : s_sea a g j = g j := by
  unfold s_sea
  by_cases c : iabs (a - g 10) ≤ s_lim g
  · rw [if_pos c, upd_at, if_neg h6, inc_at, if_neg h15]
  · rw [if_neg c, inc_at, if_neg h15]
theorem s_sea_W {g : Row} {a : Int32} (W : WF g) : WF (s_sea a g) := by
  refine WF_kite W ⟨?_, by rw [s_sea_at (by omega) (by omega)]; exact W.2.1.2.1, by rw [s_sea_at (by omega) (by omega)]; exact W.2.1.2.2.1, by rw [s_sea_at (by omega) (by omega)]; exact W.2.1.2.2.2⟩ (fun j hj => s_sea_at (by omega) (by omega))
  unfold s_sea
  by_cases c : iabs (a - g 10) ≤ s_lim g
  · rw [if_pos c, upd_at, if_pos rfl]; exact Or.inl rfl
  · rw [if_neg c, inc_at, if_neg (by omega)]; exact W.2.1.1
/-- archived samples: those of before, then the logger's -/
theorem s_arc_at {g : Row} {c d k : Nat} (hc : g 17 = nI c) (hd : g 18 = nI d) (hs : d + c ≤ 90) (j : Nat) (hj : j < 3) (hk : k < d + c) : s_arc g (135 + 3 * k + j) = if k < d then g (135 + 3 * k + j) else g (45 + 3 * (k - d) + j) := by
  unfold s_arc
  rw [hc, hd, cn_nI (by omega), cn_nI (by omega), upd_at, if_neg (by omega), upd_at, if_neg (by omega)]
  by_cases e : k < d
  · rw [if_pos e, pk_cpy_out (by omega)]
  · rw [if_neg e, pk_cpy_in (by omega) (by omega)]
    congr 1
    omega
theorem s_arc_out {g : Row} {j : Nat} (h : j < 135) (h17 : j ≠ 17) (h18 : j ≠ 18) : s_arc g j = g j := by
  unfold s_arc
  rw [upd_at, if_neg h17, upd_at, if_neg h18, pk_cpy_out (by omega)]
theorem s_arc_18 {g : Row} {c d : Nat} (hc : g 17 = nI c) (hd : g 18 = nI d) : s_arc g 18 = nI (d + c) := by
  unfold s_arc
  rw [upd_at, if_neg (by decide), upd_at, if_pos rfl, hc, hd, nI_add]
theorem s_arc_W {g : Row} {c d : Nat} (W : WF g) (hc : g 17 = nI c) (hd : g 18 = nI d) (hs : d + c ≤ 90) : WF (s_arc g) := by
  have o : ∀ j, j < 135 → j ≠ 17 → j ≠ 18 → s_arc g j = g j := fun j a b c => s_arc_out a b c
  obtain ⟨Wg0, Wk0, Wb0, ⟨c', hc30, hc', hl⟩, ⟨d', hd90, hd', ha⟩⟩ := W
  obtain rfl : c' = c := (nI_eq (by omega) (by omega)).mp (hc'.symm.trans hc)
  obtain rfl : d' = d := (nI_eq (by omega) (by omega)).mp (hd'.symm.trans hd)
  refine ⟨?_, Wk_congr Wk0 (fun j hj => o j (by omega) (by omega) (by omega)), Wb_congr Wb0 (o _ (by omega) (by omega) (by omega)) (fun k hk => o _ (by omega) (by omega) (by omega)), ⟨0, by omega, rfl, fun k hk => absurd hk (by omega)⟩, ⟨d' + c', hs, s_arc_18 hc hd, fun k hk => ?_⟩⟩
  · obtain ⟨⟨t, ht, h0, s, m⟩, ⟨n, n1, n2, h5, hg⟩, h4⟩ := Wg0
    exact ⟨⟨t, ht, by rw [o 0 (by omega) (by omega) (by omega)]; exact h0, by rw [o 14 (by omega) (by omega) (by omega)]; exact s, by rw [o 19 (by omega) (by omega) (by omega)]; exact m⟩, ⟨n, n1, n2, by rw [o 5 (by omega) (by omega) (by omega)]; exact h5, fun k hk => by rw [o _ (by omega) (by omega) (by omega)]; exact hg k hk⟩, by rw [o 4 (by omega) (by omega) (by omega)]; exact h4⟩
  · have a0 := s_arc_at hc hd hs 0 (by omega) hk
    have a1 := s_arc_at hc hd hs 1 (by omega) hk
    have a2 := s_arc_at hc hd hs 2 (by omega) hk
    rw [Nat.add_zero, Nat.add_zero] at a0
    rw [a0, a1, a2]
    by_cases e : k < d'
    · rw [if_pos e, if_pos e, if_pos e]; exact ha k e
    · rw [if_neg e, if_neg e, if_neg e]; exact hl (k - d') (by omega)
