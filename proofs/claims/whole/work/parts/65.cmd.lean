/-! one command, both sides -/
theorem J_sym {Mc Mr : Mem} {L : Nat} {b : Nat → Nat} (G : GD Mc Mr L b) : f_M_isSymbol (41 : Int32) Mr = some (decide (Mc 1 3 = nI 5), Mr) := by
  obtain ⟨T, ⟨st, nx, K⟩, e1, e2, e3⟩ := G
  have h6 := kb_le (b := b) (L := L) (k := st)
  rw [show (41 : Int32) = nI 41 from rfl, R_isSym T K e1 (y := 41) (k := 5) (Or.inr (Or.inr ⟨rfl, rfl⟩)), K.2.2.2.2.2.2.1]
  by_cases c : kb b L st = 5
  · rw [decide_eq_true c, decide_eq_true (by rw [c])]
  · rw [decide_eq_false c, decide_eq_false (fun z => c ((nI_eq (by omega) (by omega)).mp z))]
theorem R_bad {N L : Nat} {b : Nat → Nat} {Mc Mr : Mem} {rb : Int32 → Mem → Option Mem} {a1 : Int32} (G : GD Mc Mr L b) (h : f_M_orderHere N 146 Mr = some (-1, Mr)) : ∃ Mc' Mr', f_X_fail 1 Mc = some (false, Mc') ∧ fs_M_readOrder N 146 rb a1 Mr = some Mr' ∧ ER Mc' Mr' ∧ RB Mr' L b ∧ F1 Mc Mc' ∧ F145 Mr Mr' := by
  obtain ⟨Mc', Mr', a1, a2, a3, a4, a5, a6⟩ := GD.fail (c := 1) G (by omega) (by omega)
  refine ⟨Mc', Mr', a1, ?_, a3, a4, a5, a6⟩
  unfold fs_M_readOrder
  rw [h, bnd_s, jn_eq, if_pos rfl]
  dsimp only
  rw [show (1 : Int32) = nI 1 from rfl, a2, bndM_s, jn_eq, if_neg a4.1]
  dsimp only
  rw [B_check a4, bndM_s, B_adv a4, bndM_s, if_neg a4.1]
theorem R_bad3 {N L c : Nat} {b : Nat → Nat} {Mc Mr : Mem} {rb : Int32 → Mem → Option Mem} {a1 : Int32} (G : GD Mc Mr L b) (hc : 1 ≤ c ∧ c ≤ 9) (h : f_M_orderHere N 146 Mr = some (nI (c - 1), Mr)) (no : (¬ Mr 145 26 < (20 : Int32)) ∨ (Mr 145 26 < (20 : Int32) ∧ c = 9 ∧ ¬ a1 < (2 : Int32))) : ∃ Mc' Mr', f_X_fail 3 Mc = some (false, Mc') ∧ fs_M_readOrder N 146 rb a1 Mr = some Mr' ∧ ER Mc' Mr' ∧ RB Mr' L b ∧ F1 Mc Mc' ∧ F145 Mr Mr' := by
  obtain ⟨Mc', Mr', b1, b2, b3, b4, b5, b6⟩ := GD.fail (c := 3) G (by omega) (by omega)
  refine ⟨Mc', Mr', b1, ?_, b3, b4, b5, b6⟩
  have ne : ¬ nI (c - 1) = (-1 : Int32) := fun z => by
    have hh : c = 1 ∨ c = 2 ∨ c = 3 ∨ c = 4 ∨ c = 5 ∨ c = 6 ∨ c = 7 ∨ c = 8 ∨ c = 9 := by omega
    rcases hh with rfl | rfl | rfl | rfl | rfl | rfl | rfl | rfl | rfl <;> exact absurd z (by decide)
  unfold fs_M_readOrder
  rw [h, bnd_s, jn_eq, if_neg ne]
  dsimp only
  rw [show f_M_check true (1 : Int32) Mr = some Mr from rfl, bndM_s, jn_eq, if_pos G.2.2.1]
  rcases no with n1 | ⟨n1, rfl, n2⟩
  · rw [if_neg n1]
    dsimp only
    rw [show (3 : Int32) = nI 3 from rfl, b2, bndM_s, B_adv b4, bndM_s, if_neg b4.1]
  · rw [if_pos n1, if_pos (show nI (9 - 1) = (8 : Int32) from rfl), if_neg n2]
    dsimp only
    rw [show (3 : Int32) = nI 3 from rfl, b2, bndM_s, B_adv b4, bndM_s, if_neg b4.1]
