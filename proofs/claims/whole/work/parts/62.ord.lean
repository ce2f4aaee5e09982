/-! a command's word, both sides -/
theorem C_wordOf {k : Nat} {M : Mem} (h : k < 9) : f_C_wordOf (nI (k + 1)) M = some (some (1007 + k), M) := by
  have hh : k = 0 ∨ k = 1 ∨ k = 2 ∨ k = 3 ∨ k = 4 ∨ k = 5 ∨ k = 6 ∨ k = 7 ∨ k = 8 := by omega
  rcases hh with rfl | rfl | rfl | rfl | rfl | rfl | rfl | rfl | rfl <;> rfl
theorem R_wordAt {k : Nat} (h : k < 9) : (Z0 146 155).2.2 k = some (1007 + k) := by
  have hh : k = 0 ∨ k = 1 ∨ k = 2 ∨ k = 3 ∨ k = 4 ∨ k = 5 ∨ k = 6 ∨ k = 7 ∨ k = 8 := by omega
  rcases hh with rfl | rfl | rfl | rfl | rfl | rfl | rfl | rfl | rfl <;> rfl
theorem scase_some {ρ : Type} {k : Nat} {o : Nat → Option ρ} (h : k < 9) : scase (some (1007 + k)) o = o (7 + k) := by
  unfold scase
  dsimp only
  rw [grd_of (by simp; omega)]
  rw [show 1007 + k - 1000 = 7 + k from by omega]
theorem J_cmdAt {N L : Nat} {b : Nat → Nat} {Mc Mr : Mem} (hN : 600 < N) (G : GD Mc Mr L b) {k0 : Int32 → Mem → Option (Int32 × Mem)} {k1 : Int32 → Mem → Option (Int32 × Mem)} : ∀ (d k N1 N2 : Nat), k + d = 9 → d < N1 → d < N2 → (∃ c, k < c ∧ c ≤ 9 ∧ lp_C_commandAt_2 N 146 N1 (nI (k + 1)) Mc k0 = some (nI c, Mc) ∧ lp_M_orderHere_2 N 146 N2 (nI k) Mr k1 = some (nI (c - 1), Mr) ∧ Mc 1 3 = 1) ∨ (lp_C_commandAt_2 N 146 N1 (nI (k + 1)) Mc k0 = k0 (nI 10) Mc ∧ lp_M_orderHere_2 N 146 N2 (nI k) Mr k1 = k1 (nI 9) Mr) := by
  intro d
  induction d with
  | zero =>
    intro k N1 N2 hk h1 h2
    obtain ⟨N1, rfl⟩ : ∃ n, N1 = n + 1 := ⟨N1 - 1, by omega⟩
    obtain ⟨N2, rfl⟩ : ∃ n, N2 = n + 1 := ⟨N2 - 1, by omega⟩
    obtain rfl : k = 9 := by omega
    unfold lp_C_commandAt_2 lp_M_orderHere_2
    rw [if_neg (by decide), if_neg (by decide)]
    exact Or.inr ⟨rfl, rfl⟩
  | succ d ih =>
    intro k N1 N2 hk h1 h2
    obtain ⟨N1, rfl⟩ : ∃ n, N1 = n + 1 := ⟨N1 - 1, by omega⟩
    obtain ⟨N2, rfl⟩ : ∃ n, N2 = n + 1 := ⟨N2 - 1, by omega⟩
    unfold lp_C_commandAt_2 lp_M_orderHere_2
    rw [if_pos (by show nI (k + 1) ≤ nI 9; exact Int32.not_lt.mp (nI_nlt (by omega) (by omega))), if_pos (by show nI k < nI 9; exact nI_lt (by omega) (by omega)), C_wordOf (by omega), bnd_s, scase_some (by omega), grd_of (inB_nI (by omega) (by omega)), nI_clamp (by omega), R_wordAt (by omega), scase_some (by omega)]
    obtain ⟨r, w1, w2, w3⟩ := J_isW (N := N) (rr := 146) (r2 := 146) (i := 7 + k) hN (by omega) G
    rw [w1, w2, bnd_s, bnd_s]
    cases r with
    | true =>
      rw [if_pos rfl, if_pos rfl]
      exact Or.inl ⟨k + 1, by omega, by omega, rfl, rfl, w3 rfl⟩
    | false =>
      rw [if_neg (by decide), if_neg (by decide), nm_eq, nm_eq, nI_1, nI_1]
      rcases ih (k + 1) N1 N2 (by omega) (by omega) (by omega) with ⟨c, q1, q2, q3, q4, q5⟩ | q
      · exact Or.inl ⟨c, by omega, q2, q3, q4, q5⟩
      · exact Or.inr q
theorem J_cmd {N L : Nat} {b : Nat → Nat} {Mc Mr : Mem} (hN : 600 < N) (G : GD Mc Mr L b) : (∃ c, 1 ≤ c ∧ c ≤ 9 ∧ f_C_commandAt N 146 Mc = some (nI c, Mc) ∧ f_M_orderHere N 146 Mr = some (nI (c - 1), Mr) ∧ Mc 1 3 = 1) ∨ (f_C_commandAt N 146 Mc = some (0, Mc) ∧ f_M_orderHere N 146 Mr = some (-1, Mr)) := by
  unfold f_C_commandAt f_M_orderHere
  rcases J_cmdAt hN G (k0 := fun (a8 : Int32) (M7 : Mem) => some ((0 : Int32), M7)) (k1 := fun (a7 : Int32) (M6 : Mem) => some ((-1 : Int32), M6)) 9 0 N N (by omega) (by omega) (by omega) with ⟨c, q1, q2, q3, q4, q5⟩ | ⟨q1, q2⟩
  · exact Or.inl ⟨c, by omega, q2, q3, q4, q5⟩
  · exact Or.inr ⟨q1, q2⟩
