/-! the history -/
def REq (g g' : Row) : Prop := ∀ j, j < 405 → g' j = g j
theorem WF_ext {g g' : Row} (W : WF g) (e : REq g g') : WF g' := by
  obtain ⟨Wg0, Wk0, Wb0, Wl0, Wa0⟩ := W
  refine ⟨?_, Wk_congr Wk0 (fun j hj => e j (by omega)), Wb_congr Wb0 (e _ (by omega)) (fun k hk => e _ (by omega)), Ws_congr Wl0 (e _ (by omega)) (fun j h1 h2 => e _ (by omega)), Ws_congr Wa0 (e _ (by omega)) (fun j h1 h2 => e _ (by omega))⟩
  obtain ⟨⟨t, ht, h0, s, m⟩, ⟨n, n1, n2, h5, hg⟩, h4⟩ := Wg0
  exact ⟨⟨t, ht, by rw [e 0 (by omega)]; exact h0, by rw [e 14 (by omega)]; exact s, by rw [e 19 (by omega)]; exact m⟩, ⟨n, n1, n2, by rw [e 5 (by omega)]; exact h5, fun k hk => by rw [e _ (by omega)]; exact hg k hk⟩, by rw [e 4 (by omega)]; exact h4⟩
theorem SR_ext {M : Mem} {p : Nat} {g g' : Row} (W : WF g) (h : SR M p g) (e : REq g g') : SR M p g' := by
  obtain ⟨r2, r6, r7, r8, rk, rg, rb, rl, r20, ra⟩ := h
  obtain ⟨Wg0, Wk0, Wb0, Wl0, Wa0⟩ := W
  refine ⟨by rw [e _ (by omega)]; exact r2, by rw [e _ (by omega)]; exact r6, by rw [e _ (by omega)]; exact r7, by rw [e _ (by omega)]; exact r8, KR_congr rk (fun j hj => e j (by omega)), fun k hk => ?_, BR_congr Wb0 rb (e _ (by omega)) (fun k hk => e _ (by omega)), LR_congr (by omega) Wl0 rl (e _ (by omega)) (fun j h1 h2 => e _ (by omega)), by rw [e _ (by omega)]; exact r20, LR_congr (by omega) Wa0 ra (e _ (by omega)) (fun j h1 h2 => e _ (by omega))⟩
  rw [e _ (by omega)] at hk
  obtain ⟨n, n1, n2, h5, -⟩ := Wg0.2.1
  have hk2 := hk
  rw [h5, cn_nI (by omega)] at hk2
  rw [e _ (by omega)]
  exact rg k hk
theorem SR_congr {M M' : Mem} {p : Nat} {g : Row} (h : SR M p g) (e : ∀ q, p ≤ q → q < p + 13 → M' q = M q) : SR M' p g := by
  unfold SR
  rw [e p (by omega) (by omega), e (p + 1) (by omega) (by omega), e (p + 2) (by omega) (by omega), e (p + 3) (by omega) (by omega), e (p + 4) (by omega) (by omega), e (p + 5) (by omega) (by omega), e (p + 6) (by omega) (by omega), e (p + 7) (by omega) (by omega), e (p + 8) (by omega) (by omega), e (p + 9) (by omega) (by omega), e (p + 10) (by omega) (by omega), e (p + 11) (by omega) (by omega), e (p + 12) (by omega) (by omega)]
  exact h
theorem REq.trans {g g' g'' : Row} (h : REq g g') (h2 : REq g' g'') : REq g g'' := fun j hj => (h2 j hj).trans (h j hj)
theorem C_placeAt {rr j : Nat} {M : Mem} (hj : j < 8) : f_H_placeAt rr (nI j) M = some (some (26 + 13 * j), M) := by
  have hh : j = 0 ∨ j = 1 ∨ j = 2 ∨ j = 3 ∨ j = 4 ∨ j = 5 ∨ j = 6 ∨ j = 7 := by omega
  unfold f_H_placeAt
  rw [if_neg (nI_pos (by omega)), if_pos (by show nI j < nI 8; exact nI_lt hj (by omega)), grd_of (inB_nI hj (by omega)), nI_clamp (by omega)]
  rcases hh with rfl | rfl | rfl | rfl | rfl | rfl | rfl | rfl <;> rfl
theorem st_j {j : Nat} (hj : j < 8) : 26 + 13 * j ∈ stL := by
  have hh : j = 0 ∨ j = 1 ∨ j = 2 ∨ j = 3 ∨ j = 4 ∨ j = 5 ∨ j = 6 ∨ j = 7 := by omega
  rcases hh with rfl | rfl | rfl | rfl | rfl | rfl | rfl | rfl <;> decide
theorem stc_j {j : Nat} (hj : j < 8) : stL.contains (26 + 13 * j) = true := List.elem_iff.mpr (st_j hj)
/-- the sizes of all samples -/
def ZS (M : Mem) : Prop := ∀ p ∈ stL, M (p + 5) 0 = nI 30 ∧ M (p + 9) 0 = nI 90
theorem W5_of {g : Row} (W : WF g) : ∃ n, 1 ≤ n ∧ n ≤ 16 ∧ g 5 = nI n := by
  obtain ⟨n, n1, n2, h5, -⟩ := W.1.2.1
  exact ⟨n, n1, n2, h5⟩
theorem ZS_copy {M M' : Mem} {p : Nat} {g : Row} (hp : p ∈ stL) (z : ZS M) (h : SR M' p g) (f : Fr p (p + 13) M M') : ZS M' := fun q hq => by
  by_cases e : q = p
  · subst e
    obtain ⟨-, -, -, -, -, -, -, ⟨o, -, l, -⟩, -, ⟨o2, -, l2, -⟩⟩ := h
    exact ⟨l, l2⟩
  · have := st_apart q hq p hp e
    rw [f (q + 5) (by omega), f (q + 9) (by omega)]
    exact z q hq
theorem C_remember {rr nx c : Nat} {M : Mem} {g : Row} (hx : nx < 8) (hc : c ≤ 8) (W : WF g) (h : SR M 10 g) (z : ZS M) (h1 : M 24 1 = nI nx) (h2 : M 24 2 = nI c) : ∃ M' : Mem, f_H_remember rr 10 M = some M' ∧ SR M' (26 + 13 * nx) g ∧ M' 24 1 = nI ((nx + 1) % 8) ∧ M' 24 2 = nI (min (c + 1) 8) ∧ ZS M' ∧ (∀ q, q ≠ 24 → (q < 26 + 13 * nx ∨ 26 + 13 * nx + 13 ≤ q) → M' q = M q) := by
  obtain ⟨M1, e1, e2, e3, -⟩ := T_copy (M := M) (st_j hx) (show (10 : Nat) ∈ stL by decide) (by omega) (W5_of W) (z _ (st_j hx)).1 (z _ (st_j hx)).2 h
  have f24 : M1 24 = M 24 := e3 24 (by omega)
  unfold f_H_remember
  rw [h1, C_placeAt hx, bnd_s]
  unfold ocase
  dsimp only
  rw [grd_of (stc_j hx), e1, bndM_s, nm_eq, nm_eq, f24, h1, nI_1, irm8 (by omega)]
  have a2 : put M1 24 1 (nI ((nx + 1) % 8)) 24 2 = nI c := by rw [put_row, upd_at, if_neg (by decide), f24, h2]
  rw [a2, nI_1, show imin (nI (c + 1)) (8 : Int32) = nI (min (c + 1) 8) from imin_nI (b := 8) (by omega) (by omega)]
  have p : ∀ q, q ≠ 24 → (put (put M1 24 1 (nI ((nx + 1) % 8))) 24 2 (nI (min (c + 1) 8))) q = M1 q := fun q hq => by rw [put_ne hq, put_ne hq]
  refine ⟨_, rfl, SR_congr e2 (fun q q1 q2 => p q (by omega)), ?_, ?_, fun q hq => ?_, fun q hq hq2 => by rw [p q hq]; exact e3 q hq2⟩
  · rw [put_row, upd_at, if_neg (by decide), put_row, upd_at, if_pos rfl]
  · rw [put_row, upd_at, if_pos rfl]
  · have hn : ∀ q ∈ stL, q + 5 ≠ 24 ∧ q + 9 ≠ 24 := by decide
    obtain ⟨n1, n2⟩ := hn q hq
    rw [p _ n1, p _ n2]
    exact ZS_copy (st_j hx) z e2 e3 q hq
theorem C_takeBack {rr nx c : Nat} {M : Mem} {g : Row} (hx : nx < 8) (hc : 1 ≤ c ∧ c ≤ 8) (W : WF g) (h : SR M (26 + 13 * ((nx + 7) % 8)) g) (z : ZS M) (h1 : M 24 1 = nI nx) (h2 : M 24 2 = nI c) : ∃ M' : Mem, f_H_takeBack rr 10 M = some M' ∧ SR M' 10 g ∧ M' 24 1 = nI ((nx + 7) % 8) ∧ M' 24 2 = nI (c - 1) ∧ ZS M' ∧ (∀ q, q ≠ 24 → (q < 10 ∨ 23 ≤ q) → M' q = M q) := by
  have hm := mod_lt (n := 8) (a := nx + 7) (by omega)
  have zz := z 10 (by decide)
  unfold f_H_takeBack
  rw [nm_eq, h1, show nI nx + (8 : Int32) - 1 = nI (nx + 7) from by rw [show nI nx + (8 : Int32) = nI (nx + 8) from nI_add nx 8]; exact pk_sub (b := 1) (by omega), irm8 (by omega), nm_eq]
  have a2 : put M 24 1 (nI ((nx + 7) % 8)) 24 2 = nI c := by rw [put_row, upd_at, if_neg (by decide), h2]
  rw [a2, show nI c - (1 : Int32) = nI c - nI 1 from rfl, imax0_sub' (by omega) (by omega)]
  have a1 : (put (put M 24 1 (nI ((nx + 7) % 8))) 24 2 (nI (c - 1))) 24 1 = nI ((nx + 7) % 8) := by rw [put_row, upd_at, if_neg (by decide), put_row, upd_at, if_pos rfl]
  have a3 : (put (put M 24 1 (nI ((nx + 7) % 8))) 24 2 (nI (c - 1))) 24 2 = nI (c - 1) := by rw [put_row, upd_at, if_pos rfl]
  have p : ∀ q, q ≠ 24 → (put (put M 24 1 (nI ((nx + 7) % 8))) 24 2 (nI (c - 1))) q = M q := fun q hq => by rw [put_ne hq, put_ne hq]
  rw [a1, C_placeAt hm, bnd_s]
  generalize put (put M 24 1 (nI ((nx + 7) % 8))) 24 2 (nI (c - 1)) = M2 at *
  unfold ocase
  dsimp only
  rw [grd_of (stc_j hm)]
  obtain ⟨M1, e1, e2, e3, -⟩ := T_copy (M := M2) (show (10 : Nat) ∈ stL by decide) (st_j hm) (by omega) (W5_of W) (by rw [p _ (by decide)]; exact zz.1) (by rw [p _ (by decide)]; exact zz.2) (SR_congr h (fun q q1 q2 => p q (by omega)))
  rw [e1, bndM_s]
  have f24 : M1 24 = M2 24 := e3 24 (by omega)
  have z2 : ZS M2 := fun q hq => by
    have hn : ∀ q ∈ stL, q + 5 ≠ 24 ∧ q + 9 ≠ 24 := by decide
    obtain ⟨n1, n2⟩ := hn q hq
    rw [p _ n1, p _ n2]
    exact z q hq
  exact ⟨M1, rfl, e2, by rw [f24, a1], by rw [f24, a3], ZS_copy (by decide) z2 e2 e3, fun q hq hq2 => by rw [e3 q (by omega), p q hq]⟩
