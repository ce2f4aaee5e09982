/-! what holds of the row behind the law's acts -/
def Rs (i : Nat) (g : Row) : Prop := ∃ la s, g 13 = nI la ∧ g 14 = nI s ∧ s + (if g 6 = 1 then 1 else 0) ≤ la ∧ la ≤ i
def Rh (g : Row) : Prop := ∃ h te, g 7 = nI h ∧ g 8 = nI te ∧ h ≤ te ∧ te ≤ 600 ∧ (g 6 = 1 ↔ 0 < h)
def Rb (t : Nat) (g : Row) : Prop := g 6 = 1 → ∃ ft, ft ≤ t ∧ g 12 = nI ft ∧ g 16 = nI (min 8 ft)
def Re (g : Row) : Prop := g 19 = g 17 + g 18 + g 20
def Ra (g : Row) : Prop := ∃ a, 1 ≤ a ∧ a ≤ 4 ∧ g 1 = nI a
def Ro (c d : Nat) (g : Row) : Prop := (∀ j k, j < k → k < d → g (135 + 3 * j) < g (135 + 3 * k)) ∧ (∀ j k, j < k → k < c → g (45 + 3 * j) < g (45 + 3 * k)) ∧ (∀ j k, j < d → k < c → g (135 + 3 * j) < g (45 + 3 * k)) ∧ (∀ k, k < c → g (45 + 3 * k) < g 0) ∧ (∀ k, k < d → g (135 + 3 * k) < g 0)
def Rl (c : Nat) (g : Row) : Prop := ∀ k, k < c → ∃ h, 1 ≤ h ∧ h ≤ 600 ∧ g (45 + 3 * k + 1) = nI h
def RS (g : Row) : Prop := ∃ c d, c ≤ 30 ∧ d ≤ 90 ∧ g 17 = nI c ∧ g 18 = nI d ∧ Ro c d g ∧ Rl c g
/-- t: the tick; i: how many acts -/
def RJ (t i : Nat) (g : Row) : Prop := WF g ∧ g 0 = nI t ∧ Rs i g ∧ Rh g ∧ Rb t g ∧ Re g ∧ Ra g ∧ RS g
theorem Ro_congr {c d : Nat} {g g' : Row} (h : Ro c d g) (h0 : g' 0 = g 0) (e : ∀ j, 45 ≤ j → g' j = g j) : Ro c d g' := by
  obtain ⟨a1, a2, a3, a4, a5⟩ := h
  refine ⟨fun j k h1 h2 => ?_, fun j k h1 h2 => ?_, fun j k h1 h2 => ?_, fun k h1 => ?_, fun k h1 => ?_⟩
  · rw [e _ (by omega), e _ (by omega)]; exact a1 j k h1 h2
  · rw [e _ (by omega), e _ (by omega)]; exact a2 j k h1 h2
  · rw [e _ (by omega), e _ (by omega)]; exact a3 j k h1 h2
  · rw [e _ (by omega), h0]; exact a4 k h1
  · rw [e _ (by omega), h0]; exact a5 k h1
theorem RS_congr {g g' : Row} (h : RS g) (e : ∀ j, (j = 0 ∨ j = 17 ∨ j = 18 ∨ 45 ≤ j) → g' j = g j) : RS g' := by
  obtain ⟨c, d, h1, h2, h3, h4, h5, h6⟩ := h
  refine ⟨c, d, h1, h2, by rw [e 17 (by omega)]; exact h3, by rw [e 18 (by omega)]; exact h4, Ro_congr h5 (e 0 (by omega)) (fun j hj => e j (by omega)), fun k hk => ?_⟩
  rw [e _ (by omega)]
  exact h6 k hk
/-- time goes on -/
theorem RS_time {g : Row} {t : Nat} (h : RS g) (ht : t ≤ 10000) (h0 : g 0 = nI t) : RS (inc g 0) := by
  obtain ⟨c, d, h1, h2, h3, h4, ⟨a1, a2, a3, a4, a5⟩, h6⟩ := h
  have hl : g 0 < inc g 0 0 := by
    rw [inc_at, if_pos rfl, h0, nI_1]
    exact nI_lt (by omega) (by omega)
  have e : ∀ j, j ≠ 0 → inc g 0 j = g j := fun j hj => inc_ne hj
  refine ⟨c, d, h1, h2, by rw [e 17 (by omega)]; exact h3, by rw [e 18 (by omega)]; exact h4, ⟨fun j k b1 b2 => ?_, fun j k b1 b2 => ?_, fun j k b1 b2 => ?_, fun k b1 => ?_, fun k b1 => ?_⟩, fun k hk => ?_⟩
  · rw [e _ (by omega), e _ (by omega)]; exact a1 j k b1 b2
  · rw [e _ (by omega), e _ (by omega)]; exact a2 j k b1 b2
  · rw [e _ (by omega), e _ (by omega)]; exact a3 j k b1 b2
  · rw [e _ (by omega)]; exact Int32.lt_trans (a4 k b1) hl
  · rw [e _ (by omega)]; exact Int32.lt_trans (a5 k b1) hl
  · rw [e _ (by omega)]; exact h6 k hk
/-! a sample -/
theorem smp_1 {g : Row} {c : Nat} (hc : c < 30) (h : g 17 = nI c) : s_smp g 17 = nI (c + 1) ∧ s_smp g 19 = g 19 + 1 ∧ s_smp g (45 + 3 * c) = g 0 ∧ s_smp g (45 + 3 * c + 1) = g 7 ∧ (∀ j, j ≠ 17 → j ≠ 19 → (j < 45 + 3 * c ∨ 45 + 3 * c + 3 ≤ j) → s_smp g j = g j) := by
  refine ⟨?_, ?_, ?_, ?_, fun j h1 h2 h3 => ?_⟩
  · rw [s_smp_at hc h, if_neg (by decide), if_pos rfl]
  · rw [s_smp_at hc h, if_pos rfl]
  · rw [s_smp_at hc h, if_neg (by omega), if_neg (by omega), if_neg (by omega), if_neg (by omega), if_pos rfl]
  · rw [s_smp_at hc h, if_neg (by omega), if_neg (by omega), if_neg (by omega), if_pos rfl]
  · rw [s_smp_at hc h, if_neg h2, if_neg h1, if_neg (by omega), if_neg (by omega), if_neg (by omega)]
theorem smp_RS {g : Row} {c d h t : Nat} (hc : c < 30) (hd : d ≤ 90) (e1 : g 17 = nI c) (e2 : g 18 = nI d) (o : Ro c d g) (l : Rl c g) (ht : t ≤ 10000) (h0 : g 0 = nI t) (h1 : 1 ≤ h) (h2 : h ≤ 600) (h7 : g 7 = nI h) : RS (inc (s_smp g) 0) := by
  obtain ⟨k1, k2, k3, k4, k5⟩ := smp_1 hc e1
  obtain ⟨a1, a2, a3, a4, a5⟩ := o
  have e0 : inc (s_smp g) 0 0 = nI (t + 1) := by
    rw [inc_at, if_pos rfl, k5 0 (by decide) (by decide) (by omega), h0, nI_1]
  have hl : g 0 < inc (s_smp g) 0 0 := by
    rw [e0, h0]
    exact nI_lt (by omega) (by omega)
  have e : ∀ j, j ≠ 0 → j ≠ 17 → j ≠ 19 → (j < 45 + 3 * c ∨ 45 + 3 * c + 3 ≤ j) → inc (s_smp g) 0 j = g j := fun j q0 q1 q2 q3 => by
    rw [inc_ne q0, k5 j q1 q2 q3]
  have ec : inc (s_smp g) 0 (45 + 3 * c) = g 0 := by rw [inc_ne (by omega), k3]
  refine ⟨c + 1, d, by omega, hd, ?_, ?_, ⟨fun j k b1 b2 => ?_, fun j k b1 b2 => ?_, fun j k b1 b2 => ?_, fun k b1 => ?_, fun k b1 => ?_⟩, fun k hk => ?_⟩
  · rw [inc_ne (by decide), k1]
  · rw [e 18 (by decide) (by decide) (by decide) (by omega)]; exact e2
  · rw [e _ (by omega) (by omega) (by omega) (by omega), e _ (by omega) (by omega) (by omega) (by omega)]; exact a1 j k b1 b2
  · by_cases q : k = c
    · subst q
      rw [ec, e _ (by omega) (by omega) (by omega) (by omega)]; exact a4 j b1
    · rw [e _ (by omega) (by omega) (by omega) (by omega), e _ (by omega) (by omega) (by omega) (by omega)]; exact a2 j k b1 (by omega)
  · by_cases q : k = c
    · subst q
      rw [ec, e _ (by omega) (by omega) (by omega) (by omega)]; exact a5 j b1
    · rw [e _ (by omega) (by omega) (by omega) (by omega), e _ (by omega) (by omega) (by omega) (by omega)]; exact a3 j k b1 (by omega)
  · by_cases q : k = c
    · subst q
      rw [ec]; exact hl
    · rw [e _ (by omega) (by omega) (by omega) (by omega)]; exact Int32.lt_trans (a4 k (by omega)) hl
  · rw [e _ (by omega) (by omega) (by omega) (by omega)]; exact Int32.lt_trans (a5 k b1) hl
  · by_cases q : k = c
    · subst q
      exact ⟨h, h1, h2, by rw [inc_ne (by omega), k4]; exact h7⟩
    · rw [e _ (by omega) (by omega) (by omega) (by omega)]
      exact l k (by omega)
theorem drop_Ro {g : Row} {d : Nat} (e1 : g 17 = 30) (hd : d ≤ 90) (o : Ro 30 d g) (l : Rl 30 g) : Ro 29 d (s_drop g) ∧ Rl 29 (s_drop g) := by
  obtain ⟨a1, a2, a3, a4, a5⟩ := o
  have eo : ∀ j, j = 0 ∨ 135 ≤ j → s_drop g j = g j := fun j hj => by
    rw [s_drop_at e1, if_neg (by omega), if_neg (by omega), if_neg (by omega)]
  have ei : ∀ k e, k < 29 → e < 3 → s_drop g (45 + 3 * k + e) = g (45 + 3 * (k + 1) + e) := fun k e hk he => by
    rw [s_drop_at e1, if_pos (by omega)]
    congr 1
    omega
  have e2 : ∀ k, k < 29 → s_drop g (45 + 3 * k) = g (45 + 3 * (k + 1)) := fun k hk => ei k 0 hk (by omega)
  refine ⟨⟨fun j k b1 b2 => ?_, fun j k b1 b2 => ?_, fun j k b1 b2 => ?_, fun k b1 => ?_, fun k b1 => ?_⟩, fun k hk => ?_⟩
  · rw [eo _ (by omega), eo _ (by omega)]; exact a1 j k b1 b2
  · rw [e2 j (by omega), e2 k (by omega)]; exact a2 (j + 1) (k + 1) (by omega) (by omega)
  · rw [eo _ (by omega), e2 k (by omega)]; exact a3 j (k + 1) b1 (by omega)
  · rw [e2 k (by omega), eo 0 (by omega)]; exact a4 (k + 1) (by omega)
  · rw [eo _ (by omega), eo 0 (by omega)]; exact a5 k b1
  · rw [ei k 1 hk (by omega)]; exact l (k + 1) (by omega)
theorem sample_RS {g : Row} {h t : Nat} (R : RS g) (ht : t ≤ 10000) (h0 : g 0 = nI t) (h1 : 1 ≤ h) (h2 : h ≤ 600) (h7 : g 7 = nI h) : RS (inc (s_sample g) 0) ∧ (Re g → Re (s_sample g)) := by
  obtain ⟨c, d, hc, hd, e1, e2, o, l⟩ := R
  unfold s_sample
  rcases Nat.lt_or_ge c 30 with q | q
  · have ne : ¬ g 17 = 30 := by
      rw [e1]
      exact fun e => by have := (nI_eq (by omega) (by omega)).mp (e.trans (show (30 : Int32) = nI 30 from rfl)); omega
    rw [if_neg ne]
    obtain ⟨k1, k2, k3, k4, k5⟩ := smp_1 q e1
    refine ⟨smp_RS q hd e1 e2 o l ht h0 h1 h2 h7, fun r => ?_⟩
    unfold Re at r ⊢
    rw [k1, k2, k5 18 (by decide) (by decide) (by omega), k5 20 (by decide) (by decide) (by omega), r, e1, ← nI_1]
    grind
  · obtain rfl : c = 30 := by omega
    have e1 : g 17 = 30 := e1
    rw [if_pos e1]
    obtain ⟨o', l'⟩ := drop_Ro e1 hd o l
    have eo : ∀ j, j < 45 → j ≠ 17 → j ≠ 20 → s_drop g j = g j := fun j q1 q2 q3 => by
      rw [s_drop_at e1, if_neg (by omega), if_neg q3, if_neg q2]
    have x := s_drop_17 e1
    obtain ⟨k1, k2, k3, k4, k5⟩ := smp_1 (c := 29) (by omega) x
    refine ⟨smp_RS (c := 29) (by omega) hd x (by rw [eo 18 (by omega) (by omega) (by omega)]; exact e2) o' l' ht (by rw [eo 0 (by omega) (by omega) (by omega)]; exact h0) h1 h2 (by rw [eo 7 (by omega) (by omega) (by omega)]; exact h7), fun r => ?_⟩
    unfold Re at r ⊢
    rw [k1, k2, k5 18 (by decide) (by decide) (by omega), k5 20 (by decide) (by decide) (by omega), eo 18 (by omega) (by omega) (by omega), eo 19 (by omega) (by omega) (by omega), s_drop_at e1, if_neg (by omega), if_pos rfl, r, e1]
    show nI 30 + g 18 + g 20 + 1 = nI 30 + g 18 + (g 20 + 1)
    grind
/-! a tick -/
theorem hgt_in {g : Row} {w : Int32} {h te v : Nat} (e7 : g 7 = nI h) (e8 : g 8 = nI te) (hh : h ≤ te) (ht : te ≤ 600) (hv : v ≤ 36) (ew : w = nI v) : ∃ h', h' ≤ te ∧ s_hgt w g = nI h' := by
  unfold s_hgt
  rw [ew, e7, e8]
  by_cases c : v < 5
  · rw [if_pos (show nI v < 5 from nI_lt (b := 5) c (by omega)), show (6 : Int32) - nI v = nI (6 - v) from pk_sub (a := 6) (by omega), imax0_sub (by omega) (by omega)]
    exact ⟨_, by omega, rfl⟩
  · rw [if_neg (show ¬ nI v < 5 from nI_nlt (b := 5) (by omega) (by omega)), nI_add, imin_nI (by omega) (by omega)]
    exact ⟨_, by omega, rfl⟩
theorem f1_at {g : Row} {w : Int32} {j : Nat} (W : Wb g) (h1 : j ≠ 12) (h2 : j ≠ 16) (h3 : j < 37 ∨ 45 ≤ j) : s_f1 w g j = g j := by
  show s_buf w (inc g 12) j = g j
  rw [s_buf_out (Wb_inc12 W) h2 h3, inc_ne h1]
theorem f1_12 {g : Row} {w : Int32} (W : Wb g) : s_f1 w g 12 = g 12 + 1 := by
  show s_buf w (inc g 12) 12 = g 12 + 1
  rw [s_buf_out (Wb_inc12 W) (by omega) (by omega), inc_at, if_pos rfl]
theorem f1_16 {g : Row} {w : Int32} {c : Nat} (hc : c ≤ 8) (e : g 16 = nI c) : s_f1 w g 16 = nI (min 8 (c + 1)) := by
  show s_buf w (inc g 12) 16 = _
  rcases Nat.lt_or_ge c 8 with q | q
  · rw [s_buf_small q (by rw [inc_ne (by omega)]; exact e), if_pos rfl]
    congr 1
    omega
  · rw [s_buf_full (by rw [inc_ne (by omega), e, show c = 8 from by omega]; rfl), if_pos rfl]
    congr 1
    omega
theorem f3_ways {g : Row} {w : Int32} (W : Wb g) (h6 : g 6 = 1) : (s_f3 w g 6 = 2 ∧ s_f3 w g 7 = 0 ∧ s_f3 w g 8 = 0 ∧ s_f3 w g 14 = g 14 + 1) ∨ (s_f3 w g 14 = g 14 ∧ s_f3 w g 8 = g 8 ∧ s_f3 w g 7 = s_hgt w g ∧ s_f3 w g 6 = if s_hgt w g = 0 then 0 else 1) := by
  have e : ∀ j, j = 6 ∨ j = 7 ∨ j = 8 ∨ j = 14 → s_str w (s_f1 w g) j = g j := fun j hj => by
    rw [s_str_at (by omega), f1_at W (by omega) (by omega) (by omega)]
  have hh : ∀ g' : Row, g' 7 = g 7 → g' 8 = g 8 → s_hgt w g' = s_hgt w g := fun g' a b => by
    unfold s_hgt
    rw [a, b]
  show (s_cl w (s_strain w (s_f1 w g)) 6 = 2 ∧ s_cl w (s_strain w (s_f1 w g)) 7 = 0 ∧ s_cl w (s_strain w (s_f1 w g)) 8 = 0 ∧ s_cl w (s_strain w (s_f1 w g)) 14 = g 14 + 1) ∨ (s_cl w (s_strain w (s_f1 w g)) 14 = g 14 ∧ s_cl w (s_strain w (s_f1 w g)) 8 = g 8 ∧ s_cl w (s_strain w (s_f1 w g)) 7 = s_hgt w g ∧ s_cl w (s_strain w (s_f1 w g)) 6 = if s_hgt w g = 0 then 0 else 1)
  rcases s_strain_or (w := w) (g := s_f1 w g) with q | q
  · right
    rw [q]
    unfold s_cl
    rw [if_pos ((e 6 (by omega)).trans h6)]
    unfold s_climb
    rw [hh (s_str w (s_f1 w g)) (e 7 (by omega)) (e 8 (by omega))]
    by_cases c : s_hgt w g = 0
    · rw [if_pos c, if_pos c]
      refine ⟨?_, ?_, ?_, ?_⟩
      · rw [upd_at, if_neg (by decide), upd_at, if_neg (by decide)]; exact e 14 (by omega)
      · rw [upd_at, if_neg (by decide), upd_at, if_neg (by decide)]; exact e 8 (by omega)
      · rw [upd_at, if_neg (by decide), upd_at, if_pos rfl]
      · rw [upd_at, if_pos rfl]
    · rw [if_neg c, if_neg c]
      refine ⟨?_, ?_, ?_, ?_⟩
      · rw [upd_at, if_neg (by decide)]; exact e 14 (by omega)
      · rw [upd_at, if_neg (by decide)]; exact e 8 (by omega)
      · rw [upd_at, if_pos rfl]
      · rw [upd_at, if_neg (by decide)]; exact (e 6 (by omega)).trans h6
  · left
    rw [q]
    unfold s_cl
    have k6 : s_snap w (s_str w (s_f1 w g)) 6 = 2 := rfl
    rw [if_neg (by rw [k6]; decide)]
    refine ⟨k6, rfl, rfl, ?_⟩
    show s_str w (s_f1 w g) 14 + 1 = g 14 + 1
    rw [e 14 (by omega)]
