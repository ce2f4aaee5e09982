/-! the history, both sides -/
def REq (g g' : Row) : Prop := ∀ j, j < 405 → g' j = g j
theorem WF_ext {g g' : Row} (W : WF g) (e : REq g g') : WF g' := by
  obtain ⟨Wg0, Wk0, Wb0, Wl0, Wa0⟩ := W
  refine ⟨?_, Wk_congr Wk0 (fun j hj => e j (by omega)), Wb_congr Wb0 (e _ (by omega)) (fun k hk => e _ (by omega)), Ws_congr Wl0 (e _ (by omega)) (fun j h1 h2 => e _ (by omega)), Ws_congr Wa0 (e _ (by omega)) (fun j h1 h2 => e _ (by omega))⟩
  obtain ⟨⟨t, ht, h0, s, m⟩, ⟨n, n1, n2, h5, hg⟩, h4⟩ := Wg0
  exact ⟨⟨t, ht, by rw [e 0 (by omega)]; exact h0, by rw [e 14 (by omega)]; exact s, by rw [e 19 (by omega)]; exact m⟩, ⟨n, n1, n2, by rw [e 5 (by omega)]; exact h5, fun k hk => by rw [e _ (by omega)]; exact hg k hk⟩, by rw [e 4 (by omega)]; exact h4⟩
theorem SR_ext {M : Mem} {p : Nat} {g g' : Row} (W : WF g) (h : SR M p g) (e : REq g g') : SR M p g' := by
  obtain ⟨r2, r6, r7, r8, rk, rg, rb, rl, r20, ra⟩ := h
  obtain ⟨Wg0, Wk0, Wb0, Wl0, Wa0⟩ := W
  refine ⟨by rw [e _ (by omega)]; exact r2, by rw [e _ (by omega)]; exact r6, by rw [e _ (by omega)]; exact r7, by rw [e _ (by omega)]; exact r8, KR_congr rk (fun j hj => e j (by omega)), fun k hk => ?_, BR_congr Wb0 rb (e _ (by omega)) (fun k hk => e _ (by omega)), LR_congr (by omega) Wl0 rl (e _ (by omega)) (fun j h1 h2 => e _ (by omega)), by rw [e _ (by omega)]; exact r20, LR_congr (by omega) Wa0 ra (e _ (by omega)) (fun j h1 h2 => e _ (by omega))⟩
  rw [e _ (by omega)] at hk
  obtain ⟨n, n1, n2, h5, -⟩ := Wg0.2.1
  have hk2 := hk
  rw [h5, cn_nI (by omega)] at hk2
  rw [e _ (by omega)]
  exact rg k hk
theorem SR_congr {M M' : Mem} {p : Nat} {g : Row} (h : SR M p g) (e : ∀ q, p ≤ q → q < p + 13 → M' q = M q) : SR M' p g := by
  unfold SR
  rw [e p (by omega) (by omega), e (p + 1) (by omega) (by omega), e (p + 2) (by omega) (by omega), e (p + 3) (by omega) (by omega), e (p + 4) (by omega) (by omega), e (p + 5) (by omega) (by omega), e (p + 6) (by omega) (by omega), e (p + 7) (by omega) (by omega), e (p + 8) (by omega) (by omega), e (p + 9) (by omega) (by omega), e (p + 10) (by omega) (by omega), e (p + 11) (by omega) (by omega), e (p + 12) (by omega) (by omega)]
  exact h
def hrow (h : Row) (i : Nat) : Row := fun k => h (405 * i + k)
theorem R_copy {M : Mem} {a b i j : Nat} (ha : 405 * i + 405 ≤ zn a) (hb : 405 * j + 405 ≤ zn b) (h1 : zn a < 2 ^ 30) (h2 : zn b < 2 ^ 30) : f_M_copy a (nI i) b (nI j) M = some (setR M b (va_cpy (M a) (M b) (405 * i) (405 * j) 405)) := by
  unfold f_M_copy
  rw [show (405 : Int32) * nI i = nI (405 * i) from pk_mul 405 i, show (405 : Int32) * nI j = nI (405 * j) from pk_mul 405 j]
  rw [grd_of (by show cpB _ _ (nI 405) _ _ = true; exact cpB_nI (by omega) (by omega) (by omega) (by omega)), nm_eq, nI_clamp (by omega), nI_clamp (by omega)]
  rfl
theorem cpy405 {f g : Row} {i j : Nat} : REq (hrow f i) (hrow (va_cpy f g (405 * i) (405 * j) 405) j) := fun k hk => by
  show va_cpy f g (405 * i) (405 * j) 405 (405 * j + k) = f (405 * i + k)
  rw [pk_cpy_in (by omega) (by omega)]
  congr 1
  omega
theorem cpy405o {f g : Row} {i j l : Nat} (h : l ≠ j) : REq (hrow g l) (hrow (va_cpy f g (405 * i) (405 * j) 405) l) := fun k hk => by
  show va_cpy f g (405 * i) (405 * j) 405 (405 * l + k) = g (405 * l + k)
  exact pk_cpy_out (by omega)
theorem hrow0 {f : Row} : hrow f 0 = f := by
  funext k
  show f (405 * 0 + k) = f k
  rw [Nat.mul_zero, Nat.zero_add]
theorem R_keep {M : Mem} : ∃ r : Row, f_M_keep M = some (setR M 149 r) ∧ REq (M 146) r := by
  unfold f_M_keep
  rw [show (0 : Int32) = nI 0 from rfl, R_copy (i := 0) (j := 0) (by decide) (by decide) (by decide) (by decide), bndM_s]
  refine ⟨_, rfl, ?_⟩
  have := cpy405 (f := M 146) (g := M 149) (i := 0) (j := 0)
  rw [hrow0, hrow0] at this
  exact this
theorem REq.trans {g g' g'' : Row} (h : REq g g') (h2 : REq g' g'') : REq g g'' := fun j hj => (h2 j hj).trans (h j hj)
theorem lpR_rec {N0 rr : Nat} {k : Int32 → Mem → Option Mem} {h0 : Row} : ∀ (m s N : Nat) (M : Mem), s + m = 8 → 1 ≤ s → m < N → (∀ i, i < s - 1 → REq (hrow h0 (i + 1)) (hrow (M 151) i)) → (∀ i, s - 1 ≤ i → REq (hrow h0 i) (hrow (M 151) i)) → ∃ h' : Row, lp_M_record_11 N0 rr N (nI s) M k = k (nI 8) (setR M 151 h') ∧ ∀ i, i < 7 → REq (hrow h0 (i + 1)) (hrow h' i) := by
  intro m
  induction m with
  | zero =>
    intro s N M hs h1 hN ha hb
    obtain ⟨N, rfl⟩ : ∃ n, N = n + 1 := ⟨N - 1, by omega⟩
    obtain rfl : s = 8 := by omega
    unfold lp_M_record_11
    rw [if_neg (by decide)]
    exact ⟨M 151, by rw [setR_same], ha⟩
  | succ m ih =>
    intro s N M hs h1 hN ha hb
    obtain ⟨N, rfl⟩ : ∃ n, N = n + 1 := ⟨N - 1, by omega⟩
    unfold lp_M_record_11
    have z : zn 151 = 3240 := rfl
    rw [if_pos (by show nI s < nI 8; exact nI_lt (by omega) (by omega)), show nI s - (1 : Int32) = nI (s - 1) from pk_sub (b := 1) (by omega), R_copy (by rw [z]; omega) (by rw [z]; omega) (by rw [z]; omega) (by rw [z]; omega), bndM_s, nm_eq, nI_1]
    obtain ⟨h', e1, e2⟩ := ih (s + 1) N (setR M 151 (va_cpy (M 151) (M 151) (405 * s) (405 * (s - 1)) 405)) (by omega) (by omega) (by omega) (fun i hi => by
      rw [setR_self]
      by_cases e : i = s - 1
      · subst e
        have := hb s (by omega)
        rw [show s - 1 + 1 = s from by omega]
        exact this.trans cpy405
      · exact (ha i (by omega)).trans (cpy405o e)) (fun i hi => by
      rw [setR_self]
      exact (hb i (by omega)).trans (cpy405o (by omega)))
    exact ⟨h', by rw [e1, setR_setR], e2⟩
theorem R_record {N rr c : Nat} {M : Mem} (hN : 8 < N) (hc : c ≤ 8) (h : M 145 7 = nI c) : ∃ h' : Row, f_M_record N rr M = some (setR (setR M 151 h') 145 (upd (M 145) 7 (nI (min (c + 1) 8)))) ∧ (c < 8 → (∀ i, i < c → REq (hrow (M 151) i) (hrow h' i)) ∧ REq (M 149) (hrow h' c)) ∧ (c = 8 → (∀ i, i < 7 → REq (hrow (M 151) (i + 1)) (hrow h' i)) ∧ REq (M 149) (hrow h' 7)) := by
  have z : zn 151 = 3240 := rfl
  have z9 : zn 149 = 405 := rfl
  unfold f_M_record
  rcases Nat.lt_or_ge c 8 with q | q
  · rw [if_neg (by rw [h]; exact fun e => by have := (nI_eq (by omega) (by omega)).mp (e.trans (show (8 : Int32) = nI 8 from rfl)); omega), h]
    rw [show (0 : Int32) = nI 0 from rfl, R_copy (i := 0) (by rw [z9]; omega) (by rw [z]; omega) (by rw [z9]; omega) (by rw [z]; omega), bndM_s, nm_eq]
    rw [show (setR M 151 (va_cpy (M 149) (M 151) (405 * 0) (405 * c) 405)) 145 7 = nI c from h, nI_1, Nat.min_eq_left (by omega)]
    refine ⟨_, rfl, fun _ => ⟨fun i hi => cpy405o (by omega), ?_⟩, fun e => by omega⟩
    have := cpy405 (f := M 149) (g := M 151) (i := 0) (j := c)
    rw [hrow0] at this
    exact this
  · obtain rfl : c = 8 := by omega
    have h8 : M 145 7 = 8 := h
    rw [if_pos h8]
    obtain ⟨h1, e1, e2⟩ := lpR_rec (N0 := N) (rr := rr) (h0 := M 151) (k := fun (a5 : Int32) (M4 : Mem) => nm (put M4 145 7 ((M4 145 7) - (1 : Int32))) fun (M6 : Mem) => bndM (f_M_copy 149 (0 : Int32) 151 (M6 145 7) M6) fun (M8 : Mem) => nm (put M8 145 7 ((M8 145 7) + (1 : Int32))) fun (M9 : Mem) => some M9) 7 1 N M (by omega) (by omega) (by omega) (fun i hi => absurd hi (Nat.not_lt_zero i)) (fun i _ => fun j _ => rfl)
    rw [show (1 : Int32) = nI 1 from rfl]
    refine Exists.elim (show ∃ h' : Row, _ from ⟨va_cpy (M 149) h1 (405 * 0) (405 * 7) 405, ?_, fun e => by omega, fun _ => ⟨fun i hi => (e2 i hi).trans (cpy405o (by omega)), ?_⟩⟩) (fun h' H => ⟨h', H⟩)
    · refine Eq.trans e1 ?_
      have a1 : (setR M 151 h1) 145 7 - (1 : Int32) = nI 7 := by
        rw [setR_at, if_neg (by decide), h]; rfl
      rw [nm_eq, a1]
      have a2 : (put (setR M 151 h1) 145 7 (nI 7)) 145 7 = nI 7 := by rw [put_row, upd_at, if_pos rfl]
      rw [a2, show (0 : Int32) = nI 0 from rfl, R_copy (i := 0) (j := 7) (by rw [z9]; omega) (by rw [z]; omega) (by rw [z9]; omega) (by rw [z]; omega), bndM_s, nm_eq]
      congr 1
      funext q
      simp only [put_setR, setR_at]
      by_cases c1 : q = 145
      · subst c1
        simp only [Nat.reduceEqDiff, if_false, if_true]
        funext k
        simp only [upd_at]
        by_cases c2 : k = 7
        · rw [if_pos c2, if_pos c2]; rfl
        · rw [if_neg c2, if_neg c2, if_neg c2]
      · simp only [c1, if_false]
        by_cases c2 : q = 151
        · subst c2
          simp only [if_true, Nat.reduceEqDiff, if_false]
        · simp only [c2, if_false]
    · have := cpy405 (f := M 149) (g := h1) (i := 0) (j := 7)
      rw [hrow0] at this
      exact this
theorem C_placeAt {rr j : Nat} {M : Mem} (hj : j < 8) : f_H_placeAt rr (nI j) M = some (some (26 + 13 * j), M) := by
  have hh : j = 0 ∨ j = 1 ∨ j = 2 ∨ j = 3 ∨ j = 4 ∨ j = 5 ∨ j = 6 ∨ j = 7 := by omega
  unfold f_H_placeAt
  rw [if_neg (nI_pos (by omega)), if_pos (by show nI j < nI 8; exact nI_lt hj (by omega)), grd_of (inB_nI hj (by omega)), nI_clamp (by omega)]
  rcases hh with rfl | rfl | rfl | rfl | rfl | rfl | rfl | rfl <;> rfl
theorem st_j {j : Nat} (hj : j < 8) : 26 + 13 * j ∈ stL := by
  have hh : j = 0 ∨ j = 1 ∨ j = 2 ∨ j = 3 ∨ j = 4 ∨ j = 5 ∨ j = 6 ∨ j = 7 := by omega
  rcases hh with rfl | rfl | rfl | rfl | rfl | rfl | rfl | rfl <;> decide
theorem stc_j {j : Nat} (hj : j < 8) : stL.contains (26 + 13 * j) = true := List.elem_iff.mpr (st_j hj)
/-- the sizes of all samples -/
def ZS (M : Mem) : Prop := ∀ p ∈ stL, M (p + 5) 0 = nI 30 ∧ M (p + 9) 0 = nI 90
theorem W5_of {g : Row} (W : WF g) : ∃ n, 1 ≤ n ∧ n ≤ 16 ∧ g 5 = nI n := by
  obtain ⟨n, n1, n2, h5, -⟩ := W.1.2.1
  exact ⟨n, n1, n2, h5⟩
theorem ZS_copy {M M' : Mem} {p : Nat} {g : Row} (hp : p ∈ stL) (z : ZS M) (h : SR M' p g) (f : Fr p (p + 13) M M') : ZS M' := fun q hq => by
  by_cases e : q = p
  · subst e
    obtain ⟨-, -, -, -, -, -, -, ⟨o, -, l, -⟩, -, ⟨o2, -, l2, -⟩⟩ := h
    exact ⟨l, l2⟩
  · have := st_apart q hq p hp e
    rw [f (q + 5) (by omega), f (q + 9) (by omega)]
    exact z q hq
theorem C_remember {rr nx c : Nat} {M : Mem} {g : Row} (hx : nx < 8) (hc : c ≤ 8) (W : WF g) (h : SR M 10 g) (z : ZS M) (h1 : M 24 1 = nI nx) (h2 : M 24 2 = nI c) : ∃ M' : Mem, f_H_remember rr 10 M = some M' ∧ SR M' (26 + 13 * nx) g ∧ M' 24 1 = nI ((nx + 1) % 8) ∧ M' 24 2 = nI (min (c + 1) 8) ∧ ZS M' ∧ (∀ q, q ≠ 24 → (q < 26 + 13 * nx ∨ 26 + 13 * nx + 13 ≤ q) → M' q = M q) := by
  obtain ⟨M1, e1, e2, e3, -⟩ := T_copy (M := M) (st_j hx) (show (10 : Nat) ∈ stL by decide) (by omega) (W5_of W) (z _ (st_j hx)).1 (z _ (st_j hx)).2 h
  have f24 : M1 24 = M 24 := e3 24 (by omega)
  unfold f_H_remember
  rw [h1, C_placeAt hx, bnd_s]
  unfold ocase
  dsimp only
  rw [grd_of (stc_j hx), e1, bndM_s, nm_eq, nm_eq, f24, h1, nI_1, irm8 (by omega)]
  have a2 : put M1 24 1 (nI ((nx + 1) % 8)) 24 2 = nI c := by rw [put_row, upd_at, if_neg (by decide), f24, h2]
  rw [a2, nI_1, show imin (nI (c + 1)) (8 : Int32) = nI (min (c + 1) 8) from imin_nI (b := 8) (by omega) (by omega)]
  have p : ∀ q, q ≠ 24 → (put (put M1 24 1 (nI ((nx + 1) % 8))) 24 2 (nI (min (c + 1) 8))) q = M1 q := fun q hq => by rw [put_ne hq, put_ne hq]
  refine ⟨_, rfl, SR_congr e2 (fun q q1 q2 => p q (by omega)), ?_, ?_, fun q hq => ?_, fun q hq hq2 => by rw [p q hq]; exact e3 q hq2⟩
  · rw [put_row, upd_at, if_neg (by decide), put_row, upd_at, if_pos rfl]
  · rw [put_row, upd_at, if_pos rfl]
  · have hn : ∀ q ∈ stL, q + 5 ≠ 24 ∧ q + 9 ≠ 24 := by decide
    obtain ⟨n1, n2⟩ := hn q hq
    rw [p _ n1, p _ n2]
    exact ZS_copy (st_j hx) z e2 e3 q hq
theorem C_takeBack {rr nx c : Nat} {M : Mem} {g : Row} (hx : nx < 8) (hc : 1 ≤ c ∧ c ≤ 8) (W : WF g) (h : SR M (26 + 13 * ((nx + 7) % 8)) g) (z : ZS M) (h1 : M 24 1 = nI nx) (h2 : M 24 2 = nI c) : ∃ M' : Mem, f_H_takeBack rr 10 M = some M' ∧ SR M' 10 g ∧ M' 24 1 = nI ((nx + 7) % 8) ∧ M' 24 2 = nI (c - 1) ∧ ZS M' ∧ (∀ q, q ≠ 24 → (q < 10 ∨ 23 ≤ q) → M' q = M q) := by
  have hm := mod_lt (n := 8) (a := nx + 7) (by omega)
  have zz := z 10 (by decide)
  unfold f_H_takeBack
  rw [nm_eq, h1, show nI nx + (8 : Int32) - 1 = nI (nx + 7) from by rw [show nI nx + (8 : Int32) = nI (nx + 8) from nI_add nx 8]; exact pk_sub (b := 1) (by omega), irm8 (by omega), nm_eq]
  have a2 : put M 24 1 (nI ((nx + 7) % 8)) 24 2 = nI c := by rw [put_row, upd_at, if_neg (by decide), h2]
  rw [a2, show nI c - (1 : Int32) = nI c - nI 1 from rfl, imax0_sub' (by omega) (by omega)]
  have a1 : (put (put M 24 1 (nI ((nx + 7) % 8))) 24 2 (nI (c - 1))) 24 1 = nI ((nx + 7) % 8) := by rw [put_row, upd_at, if_neg (by decide), put_row, upd_at, if_pos rfl]
  have a3 : (put (put M 24 1 (nI ((nx + 7) % 8))) 24 2 (nI (c - 1))) 24 2 = nI (c - 1) := by rw [put_row, upd_at, if_pos rfl]
  have p : ∀ q, q ≠ 24 → (put (put M 24 1 (nI ((nx + 7) % 8))) 24 2 (nI (c - 1))) q = M q := fun q hq => by rw [put_ne hq, put_ne hq]
  rw [a1, C_placeAt hm, bnd_s]
  generalize put (put M 24 1 (nI ((nx + 7) % 8))) 24 2 (nI (c - 1)) = M2 at *
  unfold ocase
  dsimp only
  rw [grd_of (stc_j hm)]
  obtain ⟨M1, e1, e2, e3, -⟩ := T_copy (M := M2) (show (10 : Nat) ∈ stL by decide) (st_j hm) (by omega) (W5_of W) (by rw [p _ (by decide)]; exact zz.1) (by rw [p _ (by decide)]; exact zz.2) (SR_congr h (fun q q1 q2 => p q (by omega)))
  rw [e1, bndM_s]
  have f24 : M1 24 = M2 24 := e3 24 (by omega)
  have z2 : ZS M2 := fun q hq => by
    have hn : ∀ q ∈ stL, q + 5 ≠ 24 ∧ q + 9 ≠ 24 := by decide
    obtain ⟨n1, n2⟩ := hn q hq
    rw [p _ n1, p _ n2]
    exact z q hq
  exact ⟨M1, rfl, e2, by rw [f24, a1], by rw [f24, a3], ZS_copy (by decide) z2 e2 e3, fun q hq hq2 => by rw [e3 q (by omega), p q hq]⟩
