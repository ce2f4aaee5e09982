/-! a block, both sides -/
theorem J_loop {N L q : Nat} {b : Nat → Nat} {rc : Int32 → Mem → Option (Bool × Mem)} {a : Int32} (hN : 600 < N) (hO : ∀ Mc Mr i, GD Mc Mr L b → i ≤ 20 → Mc 5 4 = nI i → Mr 145 26 = nI i → JO N L b q rc (f_M_readOrder N 146 (q + 1)) a Mc Mr i) : ∀ (R i v N1 : Nat) (Mc Mr : Mem), 20 - i < R → i ≤ 20 → v ≤ i → R < N1 → GD Mc Mr L b → Mc 5 4 = nI i → Mr 145 26 = nI i → JB N L b q a Mc Mr i (lp_C_readBlock_9 N 146 rc a N1 (nI v) Mc (fun (a7 : Int32) (M6 : Mem) => some (true, M6))) := by
  intro R
  induction R with
  | zero => exact fun i v N1 Mc Mr h => absurd h (Nat.not_lt_zero _)
  | succ R ih =>
    intro i v N1 Mc Mr hR hi hv hN1 G h5 h26
    obtain ⟨N1, rfl⟩ : ∃ n, N1 = n + 1 := ⟨N1 - 1, by omega⟩
    have lev : nI v ≤ (20 : Int32) := by
      show nI v ≤ nI 20
      exact Int32.not_lt.mp (nI_nlt (by omega) (by omega))
    by_cases k1 : Mc 1 3 = 1
    · have k19 : Mr 145 19 = 1 := by
        obtain ⟨k, hk, e1, e2⟩ := G.kind
        rw [e1] at k1
        obtain rfl : k = 1 := (nI_eq (by omega) (by omega)).mp (k1.trans (show (1 : Int32) = nI 1 from rfl))
        exact e2
      have un : lp_C_readBlock_9 N 146 rc a (N1 + 1) (nI v) Mc (fun (a7 : Int32) (M6 : Mem) => some (true, M6)) = cE N rc a (fun M4 => lp_C_readBlock_9 N 146 rc a N1 (nI (v + 1)) M4 (fun (a7 : Int32) (M6 : Mem) => some (true, M6))) Mc := by
        conv => lhs; unfold lp_C_readBlock_9
        rw [if_pos lev, if_pos k1]
        unfold cE
        rw [nI_1]
        rfl
      rw [un]
      rcases hO Mc Mr i G hi h5 h26 with ⟨c1, m1, e, l1, l2, x1, x2, G1, y1, y2, fs, ft, one⟩ | ⟨c1, m1, x1, x2, E1, B1, fs, ft⟩
      · rw [x1]
        have stp1 : ∀ {X : Type} (LP : Nat → Mem → Option X), STEP N q a LP → ∀ n0, 0 < n0 → LP n0 Mr = LP (n0 - 1) m1 := fun LP S n0 h => by
          obtain ⟨n, rfl⟩ : ∃ n, n0 = n + 1 := ⟨n0 - 1, by omega⟩
          rw [S n Mr G.2.2.1 k19, show f_M_readOrder N 146 (q + 2) a Mr = some m1 from x2, bndM_s]
          rfl
        rcases ih e (v + 1) N1 c1 m1 (by omega) l2 (by omega) (by omega) G1 y1 y2 with ⟨c2, m2, e2, n, j, l3, l4, l5, q1, q2, G2, nw, q5, q26, fs2, ft2, bl⟩ | ⟨c2, m2, j, l5, q1, q2, E2, B2, fs2, ft2⟩
        · refine Or.inl ⟨c2, m2, e2, n + 1, j + 1, by omega, l4, by omega, q1, fun LP S n0 h => ?_, G2, nw, q5, q26, fs.trans fs2 (by omega), ft.trans ft2 (by omega), ?_⟩
          · rw [stp1 LP S n0 (by omega), q2 LP S (n0 - 1) (by omega), show n0 - 1 - j = n0 - (j + 1) from by omega]
          · have eq : ∀ t, t < e → EQe c1 m1 c2 m2 t := fun t ht => by
              obtain ⟨z1, z2, z3, z4⟩ := fs2.2.2.2 t ht
              exact ⟨z1, z2, z3, z4, ft2.2.2 _ (by omega), ft2.2.2 _ (by omega), ft2.2.2 _ (by omega)⟩
            rcases one with ⟨c, h1, h2⟩ | ⟨x, m, q', h1, h2, h3⟩
            · subst h2
              exact BL.one q n i e2 c (h1.congr (eq i (by omega))) bl
            · subst h1
              exact BL.rep q' n m i e e2 x (h2.congr (eq i (by omega))) (h3.congr (fun t _ ht => eq t ht)) bl
        · refine Or.inr ⟨c2, m2, j + 1, by omega, q1, fun LP S n0 h => ?_, E2, B2, fs.trans fs2 (by omega), ft.trans ft2 (by omega)⟩
          rw [stp1 LP S n0 (by omega), q2 LP S (n0 - 1) (by omega), show n0 - 1 - j = n0 - (j + 1) from by omega]
      · rw [x1]
        refine Or.inr ⟨c1, m1, 1, by omega, rfl, fun LP S n0 h => ?_, E1, B1, fs, ft⟩
        obtain ⟨n, rfl⟩ : ∃ n, n0 = n + 1 := ⟨n0 - 1, by omega⟩
        rw [S n Mr G.2.2.1 k19, show f_M_readOrder N 146 (q + 2) a Mr = some m1 from x2, bndM_s]
        rfl
    · refine Or.inl ⟨Mc, Mr, i, 0, 0, Nat.le_refl _, hi, by omega, ?_, fun LP S n0 h => rfl, G, k1, h5, h26, FS.rf, FT.rf, BL.nil q i⟩
      unfold lp_C_readBlock_9
      rw [if_pos lev, if_neg k1]
theorem J_order {N L q i : Nat} {b : Nat → Nat} {rc : Int32 → Mem → Option (Bool × Mem)} {a : Int32} (hN : 600 < N) (hq : (q = 0 ∧ ¬ a < (2 : Int32)) ∨ ∃ q', q = q' + 1 ∧ a < (2 : Int32) ∧ ∀ Mc Mr i, GD Mc Mr L b → i ≤ 20 → Mc 5 4 = nI i → Mr 145 26 = nI i → JB N L b q' (a + 1) Mc Mr i (rc (a + 1) Mc)) {Mc Mr : Mem} (G : GD Mc Mr L b) (hi : i ≤ 20) (h5 : Mc 5 4 = nI i) (h26 : Mr 145 26 = nI i) : JO N L b q rc (f_M_readOrder N 146 (q + 1)) a Mc Mr i := by
  rcases J_cmd hN G with ⟨c, c1, c9, w1, w2, -⟩ | ⟨w1, w2⟩
  · have n0 : ¬ nI c = (0 : Int32) := nI_ne0 (by omega) (by omega)
    have over : ∀ x1 : f_C_readCommand N 146 rc a Mc = bnd (f_X_fail 3 Mc) (fun (x35 : Bool) (M36 : Mem) => some (x35, M36)), ((¬ Mr 145 26 < (20 : Int32)) ∨ (Mr 145 26 < (20 : Int32) ∧ c = 9 ∧ ¬ a < (2 : Int32))) → JO N L b q rc (f_M_readOrder N 146 (q + 1)) a Mc Mr i := fun x1 no => by
      obtain ⟨Mc', Mr', b1, b2, b3, b4, b5, b6⟩ := R_bad3 (rb := f_M_readOrder N 146 (q + 1)) (a1 := a) G ⟨c1, c9⟩ w2 no
      rw [b1, bnd_s] at x1
      exact JO.bad x1 b2 b3 b4 (b5.fs) (b6.ft)
    rcases Nat.lt_or_ge i 20 with hlt | hge
    · have l5 : Mc 5 4 < (20 : Int32) := by rw [h5]; show nI i < nI 20; exact nI_lt (by omega) (by omega)
      have l26 : Mr 145 26 < (20 : Int32) := by rw [h26]; show nI i < nI 20; exact nI_lt (by omega) (by omega)
      by_cases e9 : c = 9
      · subst e9
        rcases hq with ⟨rfl, na⟩ | ⟨q', rfl, ya, hB⟩
        · refine over ?_ (Or.inr ⟨l26, rfl, na⟩)
          unfold f_C_readCommand
          rw [w1, bnd_s, if_neg n0, if_pos l5, if_pos (show nI 9 = (9 : Int32) from rfl), if_neg na]
        · exact J_ord9 hN hlt ya hB G h5 h26 w1 w2
      · exact J_ord8 hN hlt (by omega) G h5 h26 w1 w2
    · have n5 : ¬ Mc 5 4 < (20 : Int32) := by rw [h5]; show ¬ nI i < nI 20; exact nI_nlt (by omega) (by omega)
      refine over ?_ (Or.inl (by rw [h26]; show ¬ nI i < nI 20; exact nI_nlt (by omega) (by omega)))
      unfold f_C_readCommand
      rw [w1, bnd_s, if_neg n0, if_neg n5]
  · obtain ⟨Mc', Mr', b1, b2, b3, b4, b5, b6⟩ := R_bad (rb := f_M_readOrder N 146 (q + 1)) (a1 := a) G w2
    refine JO.bad ?_ b2 b3 b4 (b5.fs) (b6.ft)
    unfold f_C_readCommand
    rw [w1, bnd_s, if_pos rfl, b1, bnd_s]
