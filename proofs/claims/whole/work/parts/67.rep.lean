/-! a repeat, both sides -/
def STEP {X : Type} (N q : Nat) (a : Int32) (LP : Nat → Mem → Option X) : Prop := ∀ n M, M 145 20 = 0 → M 145 19 = 1 → LP (n + 1) M = bndM (f_M_readOrder N 146 (q + 2) a M) fun (M9 : Mem) => LP n M9
def JB (N L : Nat) (b : Nat → Nat) (q : Nat) (a : Int32) (Mc Mr : Mem) (i : Nat) (cls : Option (Bool × Mem)) : Prop := (∃ Mc' Mr' e n j, i ≤ e ∧ e ≤ 20 ∧ j ≤ 20 - i ∧ cls = some (true, Mc') ∧ (∀ {X : Type} (LP : Nat → Mem → Option X), STEP N q a LP → ∀ n0, 20 - i < n0 → LP n0 Mr = LP (n0 - j) Mr') ∧ GD Mc' Mr' L b ∧ (¬ Mc' 1 3 = 1) ∧ Mc' 5 4 = nI e ∧ Mr' 145 26 = nI e ∧ FS i Mc Mc' ∧ FT i Mr Mr' ∧ BL Mc' Mr' q n i e) ∨ (∃ Mc' Mr' j, j ≤ 21 - i ∧ cls = some (false, Mc') ∧ (∀ {X : Type} (LP : Nat → Mem → Option X), STEP N q a LP → ∀ n0, 21 - i < n0 → LP n0 Mr = LP (n0 - j) Mr') ∧ ER Mc' Mr' ∧ RB Mr' L b ∧ FS i Mc Mc' ∧ FT i Mr Mr')
def rK (N i : Nat) (_ : Unit) (M10 : Mem) : Option Mem := bndM (f_M_expect N 146 (41 : Int32) M10) fun (M13 : Mem) => grd (inB (nI (3 * i) + (2 : Int32)) 60) (nm (put M13 154 (nI (3 * i) + (2 : Int32)).toNatClampNeg (M13 145 26)) fun (M14 : Mem) => some M14)
theorem rK_of {N i : Nat} {M M' : Mem} (hi : i < 20) (h : f_M_expect N 146 (41 : Int32) M = some M') : rK N i () M = some (put M' 154 (3 * i + 2) (M' 145 26)) := by
  unfold rK
  rw [h, bndM_s, show nI (3 * i) + (2 : Int32) = nI (3 * i + 2) from nI_add _ 2, grd_of (inB_nI (by omega) (by omega)), nI_clamp (by omega), nm_eq]
theorem rep_bad {N n L : Nat} {b : Nat → Nat} {rb : Int32 → Mem → Option Mem} {x a : Int32} {M : Mem} {k : Unit → Mem → Option Mem} (h : RB M L b) : lp_M_readRepeat_20 N 146 rb x a (n + 1) () M k = k () M := by
  unfold lp_M_readRepeat_20
  rw [if_neg h.1]
theorem J_rbad {N L i q : Nat} {b : Nat → Nat} {Mc Mr c4 m4 : Mem} {rc : Int32 → Mem → Option (Bool × Mem)} {rb : Int32 → Mem → Option Mem} {a : Int32} (hi : i < 20) (hC : f_C_readCommand N 146 rc a Mc = some (false, c4)) (hR : fs_M_readOrder N 146 rb a Mr = bndM (rK N i () m4) fun (M19 : Mem) => bndM (f_M_expect N 146 (59 : Int32) M19) fun (M21 : Mem) => some M21) (E : ER c4 m4) (B : RB m4 L b) (fs : FS i Mc c4) (ft : FT i Mr m4) : JO N L b q rc rb a Mc Mr i := by
  have B' : RB (put m4 154 (3 * i + 2) (m4 145 26)) L b := B.congr (put_ne (by decide))
  rw [rK_of hi (B_expect B), bndM_s, B_expect B', bndM_s] at hR
  exact JO.bad hC hR (E.congr rfl (put_ne (by decide))) B' fs (ft.pt (by omega))
theorem stepRep {N q' i : Nat} {a : Int32} {k : Unit → Mem → Option Mem} : STEP N q' (a + 1) (fun n M => lp_M_readRepeat_20 N 146 (f_M_readOrder N 146 (q' + 2)) (nI (3 * i)) a n () M k) := fun n M h1 h2 => by
  dsimp only
  conv => lhs; unfold lp_M_readRepeat_20
  have s : f_M_isSymbol (41 : Int32) M = some (false, M) := by
    unfold f_M_isSymbol
    rw [if_pos h1, h2, if_neg (by decide)]
  rw [if_pos h1, s, bnd_s, if_neg (by decide)]
theorem J_ord9 {N L i q' : Nat} {b : Nat → Nat} {Mc Mr : Mem} {rc : Int32 → Mem → Option (Bool × Mem)} {a : Int32} (hN : 600 < N) (hi : i < 20) (ha : a < (2 : Int32)) (hB : ∀ Mc Mr i, GD Mc Mr L b → i ≤ 20 → Mc 5 4 = nI i → Mr 145 26 = nI i → JB N L b q' (a + 1) Mc Mr i (rc (a + 1) Mc)) (G : GD Mc Mr L b) (h5 : Mc 5 4 = nI i) (h26 : Mr 145 26 = nI i) (w1 : f_C_commandAt N 146 Mc = some (nI 9, Mc)) (w2 : f_M_orderHere N 146 Mr = some (nI (9 - 1), Mr)) : JO N L b (q' + 1) rc (f_M_readOrder N 146 (q' + 2)) a Mc Mr i := by
  obtain ⟨c1, m1, a1, a2, G1, p5, p26, p6, p154, fs, ft⟩ := J_take (rb := f_M_readOrder N 146 (q' + 2)) (a := a) hN hi (by omega) (fun _ => ha) G h26 w2
  obtain ⟨r, x, c2, m2, k1, k2, l1, l2, np, nq, e1, np2, nq2, o⟩ := J_put (lo := 2) (hi := 5) (a := 7) (t := 1) hN (by omega) (by omega) hi (by omega) (by omega) G1
  have hrep : f_M_readRepeat N 146 (f_M_readOrder N 146 (q' + 2)) (nI (3 * i)) a m1 = bndM (f_M_expect N 146 (40 : Int32) m2) fun (M5 : Mem) => lp_M_readRepeat_20 N 146 (f_M_readOrder N 146 (q' + 2)) (nI (3 * i)) a N () M5 (rK N i) := k2 fun (M3 : Mem) => bndM (f_M_expect N 146 (40 : Int32) M3) fun (M5 : Mem) => lp_M_readRepeat_20 N 146 (f_M_readOrder N 146 (q' + 2)) (nI (3 * i)) a N () M5 (rK N i)
  rw [if_pos (show nI (9 - 1) = (8 : Int32) from rfl), hrep] at a2
  have hnum : f_C_readNumbers N 146 (nI i) (nI 9) c1 = some (r, c2) := by
    have : f_C_readNumbers N 146 (nI i) (nI 9) c1 = _ := k1 (fun (x1 : Bool) (M4 : Mem) => if x1 = true then (if nI 9 = (4 : Int32) then (bnd (f_X_takeNumber N 146 (1 : Int32) (9999 : Int32) M4) fun (x5 : Bool) (M6 : Mem) => bndM (f_G_putAt 8 (nI i) (M6 1 7) M6) fun (M8 : Mem) => some (x5, M8)) else (some (x1, M4))) else (some (x1, M4)))
    rw [this]
    cases r with
    | true => rw [if_pos rfl, if_neg (by decide)]
    | false => rw [if_neg (by decide)]
  have hC : f_C_readCommand N 146 rc a Mc = if r = true then (bnd (f_C_readBody N 146 rc (a + (1 : Int32)) c2) fun (x13 : Bool) (M14 : Mem) => if x13 = true then (bndM (f_G_putAt 9 (nI i) (M14 5 4) M14) fun (M16 : Mem) => some (true, M16)) else (some (false, M14))) else some (false, c2) := by
    unfold f_C_readCommand
    rw [w1, bnd_s, if_neg (by decide), if_pos (by rw [h5]; show nI i < nI 20; exact nI_lt (by omega) (by omega)), if_pos (show nI 9 = (9 : Int32) from rfl), if_pos ha, nm_eq, h5, nI_1, nm_eq, C_putAt (by show i < 20; exact hi) (by decide), bndM_s, a1, bndM_s, hnum, bnd_s, if_pos (show nI 9 = (9 : Int32) from rfl)]
  have fs2 : FS i Mc c2 := fs.trans (np.fs (Nat.le_refl _)) (Nat.le_refl _)
  have ft2 : FT i Mr m2 := ft.trans (nq.ft (Nat.le_refl _)) (Nat.le_refl _)
  have stp := stepRep (N := N) (q' := q') (i := i) (a := a) (k := rK N i)
  obtain ⟨N0, hN0⟩ : ∃ n, N = n + 1 := ⟨N - 1, by omega⟩
  rcases o with ⟨rfl, G2, a7⟩ | ⟨rfl, E2, B2⟩
  · rw [if_pos rfl] at hC
    obtain ⟨r3, c3, m3, a3, b3, f3, g3, o3⟩ := J_sgn (rr := 146) (r2 := 146) (y := 40) (k := 4) hN G2 (Or.inr (Or.inl ⟨rfl, rfl⟩))
    have a3' : f_X_takeSign N 146 (4 : Int32) c2 = some (r3, c3) := a3
    have b3' : f_M_expect N 146 (40 : Int32) m2 = some m3 := b3
    have fs3 : FS i Mc c3 := fs2.trans (f3.fs (n := i)) (Nat.le_refl _)
    have ft3 : FT i Mr m3 := ft2.trans (g3.ft (n := i)) (Nat.le_refl _)
    rw [b3', bndM_s] at a2
    unfold f_C_readBody at hC
    rw [a3', bnd_s] at hC
    rcases o3 with ⟨rfl, G3⟩ | ⟨rfl, E3, B3⟩
    · rw [if_pos rfl] at hC
      have n5 : c3 5 4 = nI (i + 1) := by rw [f3.1 5 (by decide), np.1 5 (by decide) (by decide) (by decide)]; exact p5
      have n26 : m3 145 26 = nI (i + 1) := by rw [g3.2 26 (by omega), nq.2.1 26 (by omega)]; exact p26
      rcases hB c3 m3 (i + 1) G3 (by omega) n5 n26 with ⟨c4, m4, e, n, j, l3, l4, l5, q1, q2, G4, nw, q5, q26, fs4, ft4, bl⟩ | ⟨c4, m4, j, l5, q1, q2, E4, B4, fs4, ft4⟩
      · have q2' := q2 _ stp N (by omega)
        have fsx : FS i Mc c4 := fs3.trans fs4 (by omega)
        have ftx : FT i Mr m4 := ft3.trans ft4 (by omega)
        rw [q1, bnd_s, if_pos rfl] at hC
        rw [q2'] at a2
        obtain ⟨N1, hN1⟩ : ∃ n, N - j = n + 2 := ⟨N - j - 2, by omega⟩
        rw [hN1] at a2
        by_cases h5' : c4 1 3 = nI 5
        · have ex : lp_M_readRepeat_20 N 146 (f_M_readOrder N 146 (q' + 2)) (nI (3 * i)) a (N1 + 2) () m4 (rK N i) = rK N i () m4 := by
            unfold lp_M_readRepeat_20
            rw [if_pos G4.2.2.1, J_sym G4, bnd_s, decide_eq_true h5', if_pos rfl]
          obtain ⟨r5, c5, m5, a5, b5, f5, g5, o5⟩ := J_sgn (rr := 146) (r2 := 146) (y := 41) (k := 5) hN G4 (Or.inr (Or.inr ⟨rfl, rfl⟩))
          have a5' : f_X_takeSign N 146 (5 : Int32) c4 = some (r5, c5) := a5
          have b5' : f_M_expect N 146 (41 : Int32) m4 = some m5 := b5
          have fs5 : FS i Mc c5 := fsx.trans (f5.fs (n := i)) (Nat.le_refl _)
          have ft5 : FT i Mr m5 := ftx.trans (g5.ft (n := i)) (Nat.le_refl _)
          have z26 : m5 145 26 = nI e := by rw [g5.2 26 (by omega)]; exact q26
          have z5 : c5 5 4 = nI e := by rw [f5.1 5 (by decide)]; exact q5
          rw [ex, rK_of hi b5', z26, bndM_s] at a2
          rw [a5', bnd_s] at hC
          rcases o5 with ⟨rfl, G5⟩ | ⟨rfl, E5, B5'⟩
          · rw [if_pos rfl, bnd_s, if_pos rfl, z5, C_putAt (by show i < 20; exact hi) (by decide), bndM_s] at hC
            refine J_semi (e := e) hN hC a2 (G5.keep (put_ne (by decide)) (put_ne (by decide)) (put_ne (by decide)) (put_ne (by decide))) (by omega) (by rw [put_ne (by decide)]; exact z5) (by rw [put_ne (by decide)]; exact z26) (fs5.pt (Or.inr ⟨Or.inr rfl, Nat.le_refl _⟩)) (ft5.pt (by omega)) (Or.inr ⟨x, n, q', rfl, ⟨l1, l2, ?_, ?_, ?_, ?_, ?_, ?_⟩, bl.congr (fun j h1 h2 => ?_)⟩)
            · rw [put_ne (by decide), f5.1 6 (by decide), (fs4.2.2.2 i (by omega)).1, f3.1 6 (by decide), np.1 6 (by decide) (by decide) (by decide)]; exact p6
            · rw [put_row, upd_at, if_neg (by omega), g5.1 154 (by decide), ft4.2.2 _ (by omega), g3.1 154 (by decide), nq.2.2 _ (by omega) (by omega)]; exact p154
            · rw [put_ne (by decide), f5.1 7 (by decide), (fs4.2.2.2 i (by omega)).2.1, f3.1 7 (by decide)]; exact a7
            · rw [put_row, upd_at, if_neg (by omega), g5.1 154 (by decide), ft4.2.2 _ (by omega), g3.1 154 (by decide)]; exact e1
            · rw [put_row, upd_at, if_pos rfl]
            · rw [put_row, upd_at, if_pos rfl]
            · unfold EQe
              rw [put_ne (by decide), put_ne (by decide), put_ne (by decide), put_row, upd_at, if_neg (by omega), put_row, upd_at, if_neg (by omega), upd_at, if_neg (by omega), upd_at, if_neg (by omega), f5.1 6 (by decide), f5.1 7 (by decide), f5.1 8 (by decide), f5.1 9 (by decide), g5.1 154 (by decide)]
              exact ⟨rfl, rfl, rfl, rfl, rfl, rfl, rfl⟩
          · rw [if_neg (by decide), bnd_s, if_neg (by decide)] at hC
            have B6 : RB (put m5 154 (3 * i + 2) (nI e)) L b := B5'.congr (put_ne (by decide))
            rw [B_expect B6, bndM_s] at a2
            exact JO.bad hC a2 (E5.congr rfl (put_ne (by decide))) B6 fs5 (ft5.pt (by omega))
        · have oh : f_M_orderHere N 146 m4 = some (-1, m4) := by
            rcases J_cmd hN G4 with ⟨_, _, _, _, _, z⟩ | ⟨_, z⟩
            · exact absurd z nw
            · exact z
          obtain ⟨c5, m5, x1, x2, E5, B5', f5, g5⟩ := R_bad (rb := f_M_readOrder N 146 (q' + 1)) (a1 := a + 1) G4 oh
          have sg : f_X_takeSign N 146 (5 : Int32) c4 = some (false, c5) := by
            unfold f_X_takeSign
            rw [if_neg (show ¬ c4 1 3 = (5 : Int32) from h5'), x1, bnd_s]
          have ex : lp_M_readRepeat_20 N 146 (f_M_readOrder N 146 (q' + 2)) (nI (3 * i)) a (N1 + 2) () m4 (rK N i) = rK N i () m5 := by
            unfold lp_M_readRepeat_20
            rw [if_pos G4.2.2.1, J_sym G4, bnd_s, decide_eq_false h5', if_neg (by decide), show f_M_readOrder N 146 (q' + 2) (a + 1) m4 = some m5 from x2, bndM_s, rep_bad B5']
          rw [sg, bnd_s, if_neg (by decide), bnd_s, if_neg (by decide)] at hC
          rw [ex] at a2
          exact J_rbad hi hC a2 E5 B5' (fsx.trans (f5.fs (n := i)) (Nat.le_refl _)) (ftx.trans (g5.ft (n := i)) (Nat.le_refl _))
      · have q2' := q2 _ stp N (by omega)
        obtain ⟨N1, hN1⟩ : ∃ n, N - j = n + 1 := ⟨N - j - 1, by omega⟩
        rw [hN1] at q2'
        rw [q2', rep_bad B4] at a2
        rw [q1, bnd_s, if_neg (by decide), bnd_s, if_neg (by decide)] at hC
        exact J_rbad hi hC a2 E4 B4 (fs3.trans fs4 (by omega)) (ft3.trans ft4 (by omega))
    · rw [if_neg (by decide), bnd_s, if_neg (by decide)] at hC
      have ex : lp_M_readRepeat_20 N 146 (f_M_readOrder N 146 (q' + 2)) (nI (3 * i)) a N () m3 (rK N i) = rK N i () m3 := by
        conv => lhs; arg 6; rw [hN0]
        exact rep_bad B3
      rw [ex] at a2
      exact J_rbad hi hC a2 E3 B3 fs3 ft3
  · rw [if_neg (by decide)] at hC
    have ex : lp_M_readRepeat_20 N 146 (f_M_readOrder N 146 (q' + 2)) (nI (3 * i)) a N () m2 (rK N i) = rK N i () m2 := by
      conv => lhs; arg 6; rw [hN0]
      exact rep_bad B2
    rw [B_expect B2, bndM_s, ex] at a2
    exact J_rbad hi hC a2 E2 B2 fs2 ft2
