/-! changes, undo and the snapshot over the class's places -/
def HN (M : Mem) (c : Nat) : Prop := c ≤ 8 ∧ ∃ nx, nx < 8 ∧ M 24 1 = nI nx ∧ M 24 2 = nI c
def SP (M : Mem) (sn : Option Row) : Prop := ∀ s, sn = some s → M 0 7 = 1 ∧ SR M 130 s ∧ WF s
def VM (M : Mem) (g : Row) (c : Nat) (sn : Option Row) : Prop := RC M g ∧ HN M c ∧ ZS M ∧ SP M sn
theorem st_all : ∀ p ∈ stL, 10 ≤ p ∧ p + 13 ≤ 143 ∧ (p = 10 ∨ 26 ≤ p) := by decide
theorem VM_loc {M M2 : Mem} {g : Row} {c : Nat} {sn : Option Row} (h : VM M g c sn) (e : ∀ p, p < 145 → M2 p = M p) : VM M2 g c sn := by
  obtain ⟨⟨h1, h2⟩, ⟨h3, nx, h4, h5, h6⟩, h7, h8⟩ := h
  refine ⟨⟨SR_congr h1 (fun q _ hq => e q (by omega)), h2⟩, ⟨h3, nx, h4, by rw [e 24 (by decide)]; exact h5, by rw [e 24 (by decide)]; exact h6⟩, fun p hp => ?_, fun s hs => ?_⟩
  · have := st_all p hp
    rw [e (p + 5) (by omega), e (p + 9) (by omega)]
    exact h7 p hp
  · obtain ⟨a1, a2, a3⟩ := h8 s hs
    exact ⟨by rw [e 0 (by decide)]; exact a1, SR_congr a2 (fun q _ hq => e q (by omega)), a3⟩
/-- the sizes stay where a station's row is written anew -/
theorem ZS_row {M M2 : Mem} {p : Nat} {g : Row} (z : ZS M) (hp : p ∈ stL) (h : SR M2 p g) (e : ∀ q, (q < p ∨ p + 13 ≤ q) → M2 q = M q ∨ (q = 0 ∨ q = 24)) : ZS M2 := fun q hq => by
  by_cases c : q = p
  · subst c
    obtain ⟨-, -, -, -, -, -, -, a, -, b⟩ := h
    obtain ⟨-, -, a1, -⟩ := a
    obtain ⟨-, -, b1, -⟩ := b
    exact ⟨a1, b1⟩
  · have k1 := st_apart p hp q hq (Ne.symm c)
    have k2 := st_all q hq
    rcases e (q + 5) (by omega) with h1 | h1
    · rcases e (q + 9) (by omega) with h2 | h2
      · rw [h1, h2]
        exact z q hq
      · omega
    · omega
theorem VM_change {N rr c1 c : Nat} {a b : Int32} {M : Mem} {g : Row} {sn : Option Row} (hN : 100 < N) (h : VM M g c sn) (hb : s_bad c1 a b = false) (hs : s_stop c1 a g = false) (hc : 1 ≤ c1 ∧ c1 ≤ 8) : ∃ M2, f_G_change N rr (nI c1) a b M = some (s_an c1 a b g, M2) ∧ VM M2 (s_do c1 a b g) (min (c + 1) 8) sn ∧ (∀ q, (q < 10 ∨ 130 ≤ q) → M2 q = M q) ∧ ∃ nx, nx < 8 ∧ M2 24 1 = nI ((nx + 1) % 8) ∧ SR M2 (26 + 13 * nx) g := by
  obtain ⟨⟨h1, h2⟩, ⟨h3, nx, h4, h5, h6⟩, h7, h8⟩ := h
  unfold f_G_change
  rw [C_fault h2 h1 hc, bnd_s, hb, hs, if_neg (by decide), if_neg (by decide)]
  obtain ⟨M4, r1, r2, r3, r4, r5, r6⟩ := C_remember (rr := rr) h4 h3 h2 h1 h7 h5 h6
  rw [r1, bndM_s]
  have k1 : SR M4 10 g := SR_congr h1 (fun q _ hq => r6 q (by omega) (by omega))
  obtain ⟨M6, p1, p2, p3⟩ := C_perform (rr := rr) hN h2 k1 hb hs hc
  rw [p1, bnd_s]
  refine ⟨M6, rfl, ⟨⟨p2, s_do_W h2 hb hs hc⟩, ⟨by omega, (nx + 1) % 8, by omega, ?_, ?_⟩, ZS_row r5 (by decide) p2 (fun q hq => Or.inl (p3 q hq)), fun s hs2 => ?_⟩, fun q hq => ?_, nx, h4, ?_, ?_⟩
  · rw [p3 24 (by omega)]; exact r3
  · rw [p3 24 (by omega)]; exact r4
  · obtain ⟨a1, a2, a3⟩ := h8 s hs2
    refine ⟨?_, SR_congr a2 (fun q k _ => ?_), a3⟩
    · rw [p3 0 (by omega), r6 0 (by omega) (by omega)]; exact a1
    · rw [p3 q (by omega), r6 q (by omega) (by omega)]
  · rw [p3 q (by omega), r6 q (by omega) (by omega)]
  · rw [p3 24 (by omega)]; exact r3
  · exact SR_congr r2 (fun q _ _ => p3 q (by omega))
theorem VM_undo {rr c nx : Nat} {M : Mem} {g g2 : Row} {sn : Option Row} (h : VM M g2 (c + 1) sn) (W : WF g) (hx : nx < 8) (h1 : M 24 1 = nI ((nx + 1) % 8)) (h2 : SR M (26 + 13 * nx) g) : ∃ M3, f_G_undo rr M = some (nI c, M3) ∧ VM M3 g c sn ∧ ∀ q, (q < 10 ∨ 130 ≤ q) → M3 q = M q := by
  obtain ⟨-, ⟨k3, nx2, k4, k5, k6⟩, k7, k8⟩ := h
  have e1 : ((nx + 1) % 8 + 7) % 8 = nx := by omega
  obtain ⟨M3, t1, t2, t3, t4, t5, t6⟩ := C_takeBack (rr := rr) (nx := (nx + 1) % 8) (c := c + 1) (M := M) (g := g) (by omega) ⟨by omega, k3⟩ W (by rw [e1]; exact h2) k7 h1 k6
  unfold f_G_undo
  rw [k6, if_neg (by show ¬ nI (c + 1) < nI 1; exact nI_nlt (by omega) (by omega)), t1, bndM_s, t4]
  refine ⟨M3, rfl, ⟨⟨t2, W⟩, ⟨by omega, _, by omega, t3, t4⟩, t5, fun s hs => ?_⟩, fun q hq => t6 q (by omega) (by omega)⟩
  obtain ⟨a1, a2, a3⟩ := k8 s hs
  exact ⟨by rw [t6 0 (by omega) (by omega)]; exact a1, SR_congr a2 (fun q _ _ => t6 q (by omega) (by omega)), a3⟩
theorem VM_save {c : Nat} {M : Mem} {g : Row} {sn : Option Row} (h : VM M g c sn) : ∃ M2, f_G_saveSnapshot M = some M2 ∧ VM M2 g c (some g) ∧ ∀ q, 143 ≤ q → M2 q = M q := by
  obtain ⟨⟨h1, h2⟩, ⟨h3, nx, h4, h5, h6⟩, h7, h8⟩ := h
  obtain ⟨M1, e1, e2, e3, -⟩ := T_copy (M := M) (p := 130) (q := 10) (by decide) (by decide) (by decide) (W5_of h2) (h7 130 (by decide)).1 (h7 130 (by decide)).2 h1
  unfold f_G_saveSnapshot
  rw [e1, bndM_s, nm_eq]
  have k : ∀ q, q ≠ 0 → (q < 130 ∨ 143 ≤ q) → put M1 0 7 1 q = M q := fun q h0 hq => by rw [put_ne h0]; exact e3 q (by omega)
  refine ⟨_, rfl, ⟨⟨SR_congr h1 (fun q _ _ => k q (by omega) (by omega)), h2⟩, ⟨h3, nx, h4, by rw [k 24 (by omega) (by omega)]; exact h5, by rw [k 24 (by omega) (by omega)]; exact h6⟩, ?_, fun s hs => ?_⟩, fun q hq => k q (by omega) (by omega)⟩
  · exact ZS_row (p := 130) h7 (by decide) (SR_congr e2 (fun q _ _ => put_ne (by omega))) (fun q hq => by
      by_cases c0 : q = 0
      · exact Or.inr (Or.inl c0)
      · exact Or.inl (k q c0 (by omega)))
  · cases hs
    exact ⟨by rw [put_row, upd_at, if_pos rfl], SR_congr e2 (fun q _ _ => put_ne (by omega)), h2⟩
theorem VM_rest {c : Nat} {M : Mem} {g g2 : Row} (h : VM M g c (some g2)) : ∃ M2, f_G_restoreSnapshot M = some (g2 0, M2) ∧ VM M2 g2 0 (some g2) ∧ ∀ q, 143 ≤ q → M2 q = M q := by
  obtain ⟨-, -, h7, h8⟩ := h
  obtain ⟨a1, a2, a3⟩ := h8 g2 rfl
  obtain ⟨M1, e1, e2, e3, -⟩ := T_copy (M := M) (p := 10) (q := 130) (by decide) (by decide) (by decide) (W5_of a3) (h7 10 (by decide)).1 (h7 10 (by decide)).2 a2
  unfold f_G_restoreSnapshot
  rw [a1]
  unfold bcase
  rw [if_neg (by decide), if_pos rfl]
  dsimp only
  rw [if_pos rfl, e1, bndM_s, C_forget, bndM_s]
  have k : ∀ q, q ≠ 24 → put (put M1 24 1 0) 24 2 0 q = M1 q := fun q h0 => by rw [put_ne h0, put_ne h0]
  have k2 : ∀ q, q ≠ 24 → (q < 10 ∨ 23 ≤ q) → put (put M1 24 1 0) 24 2 0 q = M q := fun q h0 hq => by rw [k q h0]; exact e3 q (by omega)
  have s10 : SR (put (put M1 24 1 0) 24 2 0) 10 g2 := SR_congr e2 (fun q _ _ => k q (by omega))
  refine ⟨put (put M1 24 1 0) 24 2 0, ?_, ⟨⟨s10, a3⟩, ⟨by omega, 0, by omega, ?_, ?_⟩, ?_, fun s hs => ?_⟩, fun q hq => k2 q (by omega) (by omega)⟩
  · rw [s10.2.2.1]
  · rw [put_row, upd_at, if_neg (by decide), put_row, upd_at, if_pos rfl]; rfl
  · rw [put_row, upd_at, if_pos rfl]; rfl
  · exact ZS_row (p := 10) h7 (by decide) s10 (fun q hq => by
      by_cases c0 : q = 24
      · exact Or.inr (Or.inr c0)
      · exact Or.inl (k2 q c0 (by omega)))
  · cases hs
    exact ⟨by rw [k2 0 (by omega) (by omega)]; exact a1, SR_congr a2 (fun q _ _ => k2 q (by omega) (by omega)), a3⟩
