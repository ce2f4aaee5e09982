/-! set up; forget -/
theorem C_setUp {M : Mem} {g : Row} {a l e m i : Nat} (h3 : M 3 0 = nI a ∧ M 3 1 = nI l ∧ M 3 2 = nI e ∧ M 3 3 = nI i ∧ M 3 5 = nI m) (hm : m ≤ 16) (hg : g 1 = nI a ∧ g 2 = nI l ∧ g 3 = nI e ∧ g 4 = nI i ∧ g 5 = nI m) (h4 : ∀ k, k < m → M 4 k = g (21 + k)) (hz : ∀ j, j < 405 → (j = 0 ∨ (6 ≤ j ∧ j < 21) ∨ 37 ≤ j) → g j = 0) (z : M 15 0 = nI 30 ∧ M 19 0 = nI 90) : ∃ M', f_T_setUp 10 M = some M' ∧ SR M' 10 g ∧ Fr 10 23 M M' := by
  obtain ⟨a0, a1, a2, a3, a5⟩ := h3
  obtain ⟨g1, g2, g3, g4, g5⟩ := hg
  unfold f_T_setUp f_K_setUp f_B_empty f_S_setUp f_S_empty
  rw [show (10 : Nat) + 2 = 12 from rfl]
  simp only [nm_eq, bndM_s]
  rw [C_copyRow (a := 4) (b := 12) (n := 16) rfl rfl (by omega), bndM_s]
  simp only [put_setR, setR_setR, setR_self, setR_at, Nat.reduceEqDiff, Nat.reduceAdd, if_false, if_true]
  refine ⟨_, rfl, ?_, ?_⟩
  · unfold SR
    simp only [setR_at, Nat.reduceEqDiff, Nat.reduceAdd, if_false, if_true, upd_at]
    rw [a0, a1, a2, a3, a5]
    refine ⟨g5.symm, g4.symm, (hz 0 (by omega) (by omega)).symm, (hz 19 (by omega) (by omega)).symm, ?_, fun k hk => ?_, ⟨0, by omega, ?_, ?_, fun k hk => ?_⟩, ⟨0, by omega, ?_, ?_, ?_, fun k hk => ?_⟩, ?_, ⟨0, by omega, ?_, ?_, ?_, fun k hk => ?_⟩⟩
    · unfold KR
      have e6 := hz 6 (by omega) (by omega)
      have e7 := hz 7 (by omega) (by omega)
      have e8 := hz 8 (by omega) (by omega)
      have e9 := hz 9 (by omega) (by omega)
      have e10 := hz 10 (by omega) (by omega)
      have e13 := hz 13 (by omega) (by omega)
      have e14 := hz 14 (by omega) (by omega)
      have e15 := hz 15 (by omega) (by omega)
      simp [upd_at, g1, g2, g3, e6, e7, e8, e9, e10, e13, e14, e15]
    · rw [g5, cn_nI (by omega)] at hk
      rw [cpy_lt (by omega)]
      exact h4 k hk
    · rfl
    · exact (hz 16 (by omega) (by omega)).symm
    · rw [hz 16 (by omega) (by omega)] at hk
      exact absurd hk (Nat.not_lt_zero k)
    · exact z.1
    · rfl
    · exact (hz 17 (by omega) (by omega)).symm
    · rw [hz 17 (by omega) (by omega)] at hk
      exact absurd hk (Nat.not_lt_zero k)
    · exact (hz 20 (by omega) (by omega)).symm
    · exact z.2
    · rfl
    · exact (hz 18 (by omega) (by omega)).symm
    · rw [hz 18 (by omega) (by omega)] at hk
      exact absurd hk (Nat.not_lt_zero k)
  · repeat (refine Fr.set ?_ (by omega) (by omega))
    exact Fr.rf

theorem C_forget {M : Mem} : f_H_forget M = some (put (put M 24 1 0) 24 2 0) := rfl
