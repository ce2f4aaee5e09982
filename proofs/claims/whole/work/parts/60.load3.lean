/-! a station is set up -/
theorem bndX_inl {α β : Type} {a : α} {M : Mem} {f : α → Mem → Option ((Sum β Nat) × Mem)} : bndX (some (.inl a, M)) f = f a M := rfl
theorem bndX_inr {α β : Type} {e : Nat} {M : Mem} {f : α → Mem → Option ((Sum β Nat) × Mem)} : bndX (some (.inr e, M)) f = some (.inr e, M) := rfl
theorem C_refuse {a : Int32} {f : Nat} {M : Mem} (h : M 1 1 = nI f) : f_G_refuseLength a M = if outB a 0 (nI f) = true then some (.inr 0, M) else some (.inl (), M) := by
  unfold f_G_refuseLength outB
  rw [h]
  by_cases c1 : a < 0
  · rw [if_pos c1, decide_eq_true c1]; rfl
  · rw [if_neg c1, decide_eq_false c1]
    by_cases c2 : nI f < a
    · rw [if_pos c2, decide_eq_true c2]; rfl
    · rw [if_neg c2, decide_eq_false c2]; rfl
theorem C_setUp {M : Mem} {g : Row} {a l e m i : Nat} (h3 : M 3 0 = nI a ∧ M 3 1 = nI l ∧ M 3 2 = nI e ∧ M 3 3 = nI i ∧ M 3 5 = nI m) (hm : m ≤ 16) (hg : g 1 = nI a ∧ g 2 = nI l ∧ g 3 = nI e ∧ g 4 = nI i ∧ g 5 = nI m) (h4 : ∀ k, k < m → M 4 k = g (21 + k)) (hz : ∀ j, j < 405 → (j = 0 ∨ (6 ≤ j ∧ j < 21) ∨ 37 ≤ j) → g j = 0) (z : M 15 0 = nI 30 ∧ M 19 0 = nI 90) : ∃ M', f_T_setUp 10 M = some M' ∧ SR M' 10 g ∧ Fr 10 23 M M' := by
  obtain ⟨a0, a1, a2, a3, a5⟩ := h3
  obtain ⟨g1, g2, g3, g4, g5⟩ := hg
  unfold f_T_setUp f_K_setUp f_B_empty f_S_setUp f_S_empty
  rw [show (10 : Nat) + 2 = 12 from rfl]
  simp only [nm_eq, bndM_s]
  rw [C_copyRow (a := 4) (b := 12) (n := 16) rfl rfl (by omega), bndM_s]
  simp only [put_setR, setR_setR, setR_self, setR_at, Nat.reduceEqDiff, Nat.reduceAdd, if_false, if_true]
  refine ⟨_, rfl, ?_, ?_⟩
  · unfold SR
    simp only [setR_at, Nat.reduceEqDiff, Nat.reduceAdd, if_false, if_true, upd_at]
    rw [a0, a1, a2, a3, a5]
    refine ⟨g5.symm, g4.symm, (hz 0 (by omega) (by omega)).symm, (hz 19 (by omega) (by omega)).symm, ?_, fun k hk => ?_, ⟨0, by omega, ?_, ?_, fun k hk => ?_⟩, ⟨0, by omega, ?_, ?_, ?_, fun k hk => ?_⟩, ?_, ⟨0, by omega, ?_, ?_, ?_, fun k hk => ?_⟩⟩
    · unfold KR
      have e6 := hz 6 (by omega) (by omega)
      have e7 := hz 7 (by omega) (by omega)
      have e8 := hz 8 (by omega) (by omega)
      have e9 := hz 9 (by omega) (by omega)
      have e10 := hz 10 (by omega) (by omega)
      have e13 := hz 13 (by omega) (by omega)
      have e14 := hz 14 (by omega) (by omega)
      have e15 := hz 15 (by omega) (by omega)
      simp [upd_at, g1, g2, g3, e6, e7, e8, e9, e10, e13, e14, e15]
    · rw [g5, cn_nI (by omega)] at hk
      rw [cpy_lt (by omega)]
      exact h4 k hk
    · rfl
    · exact (hz 16 (by omega) (by omega)).symm
    · rw [hz 16 (by omega) (by omega)] at hk
      exact absurd hk (Nat.not_lt_zero k)
    · exact z.1
    · rfl
    · exact (hz 17 (by omega) (by omega)).symm
    · rw [hz 17 (by omega) (by omega)] at hk
      exact absurd hk (Nat.not_lt_zero k)
    · exact (hz 20 (by omega) (by omega)).symm
    · exact z.2
    · rfl
    · exact (hz 18 (by omega) (by omega)).symm
    · rw [hz 18 (by omega) (by omega)] at hk
      exact absurd hk (Nat.not_lt_zero k)
  · repeat (refine Fr.set ?_ (by omega) (by omega))
    exact Fr.rf

theorem C_forget {M : Mem} : f_H_forget M = some (put (put M 24 1 0) 24 2 0) := rfl
theorem R_finish {M : Mem} : f_M_isFaulty M = some (!decide (M 145 20 = 0), setR M 145 (upd (upd (upd (M 145) 15 0) 22 (if M 145 20 = 0 then -1 else M 145 21)) 9 (M 145 20))) := by
  unfold f_M_isFaulty f_M_finish
  rw [nm_eq]
  have e20 : (put M 145 15 0) 145 20 = M 145 20 := by rw [put_row, upd_at, if_neg (by decide)]
  have e21 : (put M 145 15 0) 145 21 = M 145 21 := by rw [put_row, upd_at, if_neg (by decide)]
  rw [e20, e21]
  by_cases c : M 145 20 = 0
  · rw [if_pos c, if_pos c, decide_eq_true c, nm_eq, bnd_s, nm_eq]
    have k20 : (put (put M 145 15 0) 145 22 (-1)) 145 20 = M 145 20 := by rw [put_row, upd_at, if_neg (by decide)]; exact e20
    rw [k20]
    have k9 : (put (put (put M 145 15 0) 145 22 (-1)) 145 9 (M 145 20)) 145 9 = M 145 20 := by rw [put_row, upd_at, if_pos rfl]
    rw [k9, if_pos c]
    simp only [put_setR, setR_setR, setR_self]
    rfl
  · rw [if_neg c, if_neg c, decide_eq_false c, nm_eq, bnd_s, nm_eq]
    have k20 : (put (put M 145 15 0) 145 22 (M 145 21)) 145 20 = M 145 20 := by rw [put_row, upd_at, if_neg (by decide)]; exact e20
    rw [k20]
    have k9 : (put (put (put M 145 15 0) 145 22 (M 145 21)) 145 9 (M 145 20)) 145 9 = M 145 20 := by rw [put_row, upd_at, if_pos rfl]
    rw [k9, if_neg c]
    simp only [put_setR, setR_setR, setR_self]
    rfl
theorem QE.wf {Mc Mr : Mem} {a l e m i : Nat} (h : QE Mc Mr a l e m i) : WF (Mr 147) := by
  obtain ⟨m1, m16, i1, i20, -, -, -, -, -, -, -, -, g4, g5, hg, hz⟩ := h
  refine ⟨⟨⟨0, by omega, hz 0 (by omega) (by omega), ⟨0, by omega, hz 14 (by omega) (by omega)⟩, ⟨0, by omega, hz 19 (by omega) (by omega)⟩⟩, ⟨m, m1, m16, g5, fun k hk => (hg k hk).2⟩, ⟨i, i1, i20, g4⟩⟩, ⟨Or.inl (hz 6 (by omega) (by omega)), ⟨0, by omega, hz 7 (by omega) (by omega)⟩, ⟨0, by omega, hz 8 (by omega) (by omega)⟩, ⟨0, by omega, hz 11 (by omega) (by omega)⟩⟩, ⟨0, by omega, hz 16 (by omega) (by omega), fun k hk => absurd hk (Nat.not_lt_zero k)⟩, ⟨0, by omega, hz 17 (by omega) (by omega), fun k hk => absurd hk (Nat.not_lt_zero k)⟩, ⟨0, by omega, hz 18 (by omega) (by omega), fun k hk => absurd hk (Nat.not_lt_zero k)⟩⟩
