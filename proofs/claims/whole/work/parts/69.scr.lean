/-! a script's text, both sides -/
theorem J_block {N L : Nat} {b : Nat → Nat} (hN : 600 < N) : ∀ (q t : Nat), q + t = 2 → ∀ Mc Mr i, GD Mc Mr L b → i ≤ 20 → Mc 5 4 = nI i → Mr 145 26 = nI i → JB N L b q (nI t) Mc Mr i (f_C_readBlock N 146 (q + 2) (nI t) Mc) := by
  intro q
  induction q with
  | zero =>
    intro t ht Mc Mr i G hi h5 h26
    obtain rfl : t = 2 := by omega
    have := J_loop (q := 0) (rc := f_C_readBlock N 146 (0 + 1)) (a := nI 2) hN (fun Mc Mr i G hi h5 h26 => J_order hN (Or.inl ⟨rfl, by decide⟩) G hi h5 h26) 21 i 0 N Mc Mr (by omega) hi (by omega) (by omega) G h5 h26
    exact this
  | succ q ih =>
    intro t ht Mc Mr i G hi h5 h26
    have ht2 : t = 0 ∨ t = 1 := by omega
    have := J_loop (q := q + 1) (rc := f_C_readBlock N 146 (q + 1 + 1)) (a := nI t) hN (fun Mc Mr i G hi h5 h26 => J_order hN (Or.inr ⟨q, rfl, by rcases ht2 with rfl | rfl <;> decide, fun Mc Mr i G hi h5 h26 => by
      rw [nI_1]
      exact ih (t + 1) (by omega) Mc Mr i G hi h5 h26⟩) G hi h5 h26) 21 i 0 N Mc Mr (by omega) hi (by omega) (by omega) G h5 h26
    have e : f_C_readBlock N 146 (q + 1 + 2) (nI t) Mc = lp_C_readBlock_9 N 146 (f_C_readBlock N 146 (q + 1 + 1)) (nI t) N (nI 0) Mc (fun (a7 : Int32) (M6 : Mem) => some (true, M6)) := by
      show fs_C_readBlock N 146 (f_C_readBlock N 146 (q + 1 + 1)) (nI t) Mc = _
      unfold fs_C_readBlock
      rw [if_neg (by rcases ht2 with rfl | rfl <;> decide)]
      rfl
    rw [e]
    exact this
theorem stepTop {N : Nat} {a : Int32} {k : Unit → Mem → Option (Int32 × Mem)} : STEP N 2 (nI 0) (fun n M => lp_M_runScript_24 N 146 a n () M k) := fun n M h1 h2 => by
  dsimp only
  conv => lhs; unfold lp_M_runScript_24
  rw [if_pos h1, if_neg (by rw [h2]; decide)]
  rfl
theorem J_script {N L : Nat} {b : Nat → Nat} {a : Int32} {Mc Mr : Mem} (hN : 600 < N) (G : GD Mc Mr L b) (h5 : Mc 5 4 = nI 0) (h26 : Mr 145 26 = nI 0) : (∃ Mc' Mr' e n, e ≤ 20 ∧ (bnd (f_C_readBlock N 146 4 (0 : Int32) Mc) fun (x5 : Bool) (M6 : Mem) => if x5 = true then (bnd (f_X_takeSign N 146 (0 : Int32) M6) fun (x7 : Bool) (M8 : Mem) => if x7 = true then (some (true, M8)) else (some (false, M8))) else (some (false, M6))) = some (true, Mc') ∧ (∀ k, lp_M_runScript_24 N 146 a N () Mr k = k () Mr') ∧ Mc' 1 8 = 0 ∧ Mc' 1 9 = -1 ∧ Mr' 145 20 = 0 ∧ Mc' 5 4 = nI e ∧ Mr' 145 26 = nI e ∧ FS 0 Mc Mc' ∧ FT 0 Mr Mr' ∧ BL Mc' Mr' 2 n 0 e) ∨ (∃ Mc' Mr', (bnd (f_C_readBlock N 146 4 (0 : Int32) Mc) fun (x5 : Bool) (M6 : Mem) => if x5 = true then (bnd (f_X_takeSign N 146 (0 : Int32) M6) fun (x7 : Bool) (M8 : Mem) => if x7 = true then (some (true, M8)) else (some (false, M8))) else (some (false, M6))) = some (false, Mc') ∧ (∀ k, lp_M_runScript_24 N 146 a N () Mr k = k () Mr') ∧ ER Mc' Mr' ∧ FS 0 Mc Mc' ∧ FT 0 Mr Mr') := by
  rcases J_block (L := L) (b := b) hN 2 0 rfl Mc Mr 0 G (by omega) h5 h26 with ⟨c4, m4, e, n, j, l3, l4, l5, q1, q2, G4, nw, q5, q26, fs, ft, bl⟩ | ⟨c4, m4, j, l5, q1, q2, E4, B4, fs, ft⟩
  · have q1' : f_C_readBlock N 146 4 (0 : Int32) Mc = some (true, c4) := q1
    obtain ⟨N1, hN1⟩ : ∃ n, N - j = n + 2 := ⟨N - j - 2, by omega⟩
    have run : ∀ k, lp_M_runScript_24 N 146 a N () Mr k = lp_M_runScript_24 N 146 a (N1 + 2) () m4 k := fun k => by
      have := q2 _ (stepTop (N := N) (a := a) (k := k)) N (by omega)
      rw [hN1] at this
      exact this
    rw [q1', bnd_s, if_pos rfl]
    obtain ⟨r, c5, v1, v2, -, f5, o5⟩ := J_end (rr := 146) hN G4
    rw [v1, bnd_s]
    rcases o5 with ⟨rfl, z8, z9⟩ | ⟨rfl, m5, z1, z2, z3, z4⟩
    · have h19 : m4 145 19 = 0 := of_decide_eq_true v2.symm
      rw [if_pos rfl]
      refine Or.inl ⟨c5, m4, e, n, l4, rfl, fun k => ?_, z8, z9, G4.2.2.1, by rw [f5.1 5 (by decide)]; exact q5, q26, fs.trans (f5.fs (n := 0)) (Nat.le_refl _), ft, bl.congr (fun t _ _ => ?_)⟩
      · rw [run k]
        unfold lp_M_runScript_24
        rw [if_pos G4.2.2.1, if_pos h19]
      · unfold EQe
        rw [f5.1 6 (by decide), f5.1 7 (by decide), f5.1 8 (by decide), f5.1 9 (by decide)]
        exact ⟨rfl, rfl, rfl, rfl, rfl, rfl, rfl⟩
    · have h19 : ¬ m4 145 19 = 0 := of_decide_eq_false v2.symm
      have oh : f_M_orderHere N 146 m4 = some (-1, m4) := by
        rcases J_cmd hN G4 with ⟨_, _, _, _, _, z⟩ | ⟨_, z⟩
        · exact absurd z nw
        · exact z
      obtain ⟨c6, m6, x1, x2, E6, B6, f6, g6⟩ := R_bad (rb := f_M_readOrder N 146 3) (a1 := 0) G4 oh
      have n3 : ¬ c4 1 3 = (0 : Int32) := fun z => by
        obtain ⟨k, hk, e1, e2⟩ := G4.kind
        rw [e1] at z
        obtain rfl : k = 0 := (nI_eq (by omega) (by omega)).mp (z.trans (show (0 : Int32) = nI 0 from rfl))
        exact h19 e2
      have sg : f_X_takeSign N 146 (0 : Int32) c4 = some (false, c6) := by
        unfold f_X_takeSign
        rw [if_neg n3, x1, bnd_s]
      have e56 : (false, c5) = (false, c6) := Option.some.inj (v1.symm.trans sg)
      have e56' : c5 = c6 := congrArg Prod.snd e56
      rw [if_neg (by decide), e56']
      refine Or.inr ⟨c6, m6, rfl, fun k => ?_, E6, fs.trans (f6.fs (n := 0)) (Nat.le_refl _), ft.trans (g6.ft (n := 0)) (Nat.le_refl _)⟩
      rw [run k]
      unfold lp_M_runScript_24
      rw [if_pos G4.2.2.1, if_neg h19, show f_M_readOrder N 146 4 0 m4 = some m6 from x2, bndM_s]
      unfold lp_M_runScript_24
      rw [if_neg B6.1]
  · have q1' : f_C_readBlock N 146 4 (0 : Int32) Mc = some (false, c4) := q1
    obtain ⟨N1, hN1⟩ : ∃ n, N - j = n + 1 := ⟨N - j - 1, by omega⟩
    rw [q1', bnd_s, if_neg (by decide)]
    refine Or.inr ⟨c4, m4, rfl, fun k => ?_, E4, fs, ft⟩
    have := q2 _ (stepTop (N := N) (a := a) (k := k)) N (by omega)
    rw [hN1] at this
    refine this.trans ?_
    unfold lp_M_runScript_24
    rw [if_neg B4.1]
