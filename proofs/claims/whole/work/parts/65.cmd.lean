/-! one command, both sides -/
theorem J_sym {Mc Mr : Mem} {L : Nat} {b : Nat → Nat} (G : GD Mc Mr L b) : f_M_isSymbol (41 : Int32) Mr = some (decide (Mc 1 3 = nI 5), Mr) := by
  obtain ⟨T, ⟨st, nx, K⟩, e1, e2, e3⟩ := G
  have h6 := kb_le (b := b) (L := L) (k := st)
  rw [show (41 : Int32) = nI 41 from rfl, R_isSym T K e1 (y := 41) (k := 5) (Or.inr (Or.inr ⟨rfl, rfl⟩)), K.2.2.2.2.2.2.1]
  by_cases c : kb b L st = 5
  · rw [decide_eq_true c, decide_eq_true (by rw [c])]
  · rw [decide_eq_false c, decide_eq_false (fun z => c ((nI_eq (by omega) (by omega)).mp z))]
theorem R_bad {N L : Nat} {b : Nat → Nat} {Mc Mr : Mem} {rb : Int32 → Mem → Option Mem} {a1 : Int32} (G : GD Mc Mr L b) (h : f_M_orderHere N 146 Mr = some (-1, Mr)) : ∃ Mc' Mr', f_X_fail 1 Mc = some (false, Mc') ∧ fs_M_readOrder N 146 rb a1 Mr = some Mr' ∧ ER Mc' Mr' ∧ RB Mr' L b ∧ F1 Mc Mc' ∧ F145 Mr Mr' := by
  obtain ⟨Mc', Mr', a1, a2, a3, a4, a5, a6⟩ := GD.fail (c := 1) G (by omega) (by omega)
  refine ⟨Mc', Mr', a1, ?_, a3, a4, a5, a6⟩
  unfold fs_M_readOrder
  rw [h, bnd_s, jn_eq, if_pos rfl]
  dsimp only
  rw [show (1 : Int32) = nI 1 from rfl, a2, bndM_s, jn_eq, if_neg a4.1]
  dsimp only
  rw [B_check a4, bndM_s, B_adv a4, bndM_s, if_neg a4.1]
theorem R_bad3 {N L c : Nat} {b : Nat → Nat} {Mc Mr : Mem} {rb : Int32 → Mem → Option Mem} {a1 : Int32} (G : GD Mc Mr L b) (hc : 1 ≤ c ∧ c ≤ 9) (h : f_M_orderHere N 146 Mr = some (nI (c - 1), Mr)) (no : (¬ Mr 145 26 < (20 : Int32)) ∨ (Mr 145 26 < (20 : Int32) ∧ c = 9 ∧ ¬ a1 < (2 : Int32))) : ∃ Mc' Mr', f_X_fail 3 Mc = some (false, Mc') ∧ fs_M_readOrder N 146 rb a1 Mr = some Mr' ∧ ER Mc' Mr' ∧ RB Mr' L b ∧ F1 Mc Mc' ∧ F145 Mr Mr' := by
  obtain ⟨Mc', Mr', b1, b2, b3, b4, b5, b6⟩ := GD.fail (c := 3) G (by omega) (by omega)
  refine ⟨Mc', Mr', b1, ?_, b3, b4, b5, b6⟩
  have ne : ¬ nI (c - 1) = (-1 : Int32) := fun z => by
    have hh : c = 1 ∨ c = 2 ∨ c = 3 ∨ c = 4 ∨ c = 5 ∨ c = 6 ∨ c = 7 ∨ c = 8 ∨ c = 9 := by omega
    rcases hh with rfl | rfl | rfl | rfl | rfl | rfl | rfl | rfl | rfl <;> exact absurd z (by decide)
  unfold fs_M_readOrder
  rw [h, bnd_s, jn_eq, if_neg ne]
  dsimp only
  rw [show f_M_check true (1 : Int32) Mr = some Mr from rfl, bndM_s, jn_eq, if_pos G.2.2.1]
  rcases no with n1 | ⟨n1, rfl, n2⟩
  · rw [if_neg n1]
    dsimp only
    rw [show (3 : Int32) = nI 3 from rfl, b2, bndM_s, B_adv b4, bndM_s, if_neg b4.1]
  · rw [if_pos n1, if_pos (show nI (9 - 1) = (8 : Int32) from rfl), if_neg n2]
    dsimp only
    rw [show (3 : Int32) = nI 3 from rfl, b2, bndM_s, B_adv b4, bndM_s, if_neg b4.1]
def cE (N : Nat) (rc : Int32 → Mem → Option (Bool × Mem)) (a : Int32) (KC : Mem → Option (Bool × Mem)) (M : Mem) : Option (Bool × Mem) := bnd (f_C_readCommand N 146 rc a M) fun (x1 : Bool) (M2 : Mem) => if x1 = true then (bnd (f_X_takeSign N 146 (3 : Int32) M2) fun (x3 : Bool) (M4 : Mem) => if x3 = true then KC M4 else some (false, M4)) else some (false, M2)
def JO (N L : Nat) (b : Nat → Nat) (q : Nat) (rc : Int32 → Mem → Option (Bool × Mem)) (rb : Int32 → Mem → Option Mem) (a : Int32) (Mc Mr : Mem) (i : Nat) : Prop := (∃ Mc' Mr' e, i < e ∧ e ≤ 20 ∧ (∀ KC, cE N rc a KC Mc = KC Mc') ∧ fs_M_readOrder N 146 rb a Mr = some Mr' ∧ GD Mc' Mr' L b ∧ Mc' 5 4 = nI e ∧ Mr' 145 26 = nI e ∧ FS i Mc Mc' ∧ FT i Mr Mr' ∧ ((∃ c, OE Mc' Mr' i c ∧ e = i + 1) ∨ ∃ x m q', q = q' + 1 ∧ RE Mc' Mr' i e x ∧ BL Mc' Mr' q' m (i + 1) e)) ∨ (∃ Mc' Mr', (∀ KC, cE N rc a KC Mc = some (false, Mc')) ∧ fs_M_readOrder N 146 rb a Mr = some Mr' ∧ ER Mc' Mr' ∧ RB Mr' L b ∧ FS i Mc Mc' ∧ FT i Mr Mr')
theorem JO.bad {N L : Nat} {b : Nat → Nat} {q : Nat} {rc : Int32 → Mem → Option (Bool × Mem)} {rb : Int32 → Mem → Option Mem} {a : Int32} {Mc Mr Mc' Mr' : Mem} {i : Nat} (h1 : f_C_readCommand N 146 rc a Mc = some (false, Mc')) (h2 : fs_M_readOrder N 146 rb a Mr = some Mr') (h3 : ER Mc' Mr') (h4 : RB Mr' L b) (h5 : FS i Mc Mc') (h6 : FT i Mr Mr') : JO N L b q rc rb a Mc Mr i := Or.inr ⟨Mc', Mr', fun KC => by unfold cE; rw [h1, bnd_s, if_neg (by decide)], h2, h3, h4, h5, h6⟩
theorem nI_nm1 {c : Nat} (hc : 1 ≤ c ∧ c ≤ 9) : ¬ nI (c - 1) = (-1 : Int32) := fun z => by
  have hh : c = 1 ∨ c = 2 ∨ c = 3 ∨ c = 4 ∨ c = 5 ∨ c = 6 ∨ c = 7 ∨ c = 8 ∨ c = 9 := by omega
  rcases hh with rfl | rfl | rfl | rfl | rfl | rfl | rfl | rfl | rfl <;> exact absurd z (by decide)
/-- an order's word is taken, both sides -/
theorem J_take {N L i c : Nat} {b : Nat → Nat} {Mc Mr : Mem} {rb : Int32 → Mem → Option Mem} {a : Int32} (hN : 600 < N) (hi : i < 20) (hc : 1 ≤ c ∧ c ≤ 9) (ha : c = 9 → a < (2 : Int32)) (G : GD Mc Mr L b) (h26 : Mr 145 26 = nI i) (w2 : f_M_orderHere N 146 Mr = some (nI (c - 1), Mr)) : ∃ Mc' Mr', f_X_advance N 146 (put (put Mc 5 4 (nI (i + 1))) 6 i (nI c)) = some Mc' ∧ fs_M_readOrder N 146 rb a Mr = (if nI (c - 1) = (8 : Int32) then (bndM (f_M_readRepeat N 146 rb (nI (3 * i)) a Mr') fun (M19 : Mem) => bndM (f_M_expect N 146 (59 : Int32) M19) fun (M21 : Mem) => some M21) else rT N c (nI (3 * i)) Mr') ∧ GD Mc' Mr' L b ∧ Mc' 5 4 = nI (i + 1) ∧ Mr' 145 26 = nI (i + 1) ∧ Mc' 6 i = nI c ∧ Mr' 154 (3 * i) = nI (c - 1) ∧ FS i Mc Mc' ∧ FT i Mr Mr' := by
  have G1 : GD (put (put Mc 5 4 (nI (i + 1))) 6 i (nI c)) Mr L b := G.keep (by rw [put_ne (by decide), put_ne (by decide)]) (by rw [put_ne (by decide), put_ne (by decide)]) rfl rfl
  obtain ⟨c1, m1, a1, a2, a3, G2, f2, g2⟩ := GD.adv (rr := 146) (r2 := 146) hN G1
  have m26 : m1 145 26 = nI i := by rw [g2.2 26 (by omega)]; exact h26
  have p26 : (put m1 154 (3 * i) (nI (c - 1))) 145 26 = nI i := by rw [put_ne (by decide)]; exact m26
  refine ⟨c1, put (put m1 154 (3 * i) (nI (c - 1))) 145 26 (nI (i + 1)), a1, ?_, (G2.keep rfl rfl (put_ne (by decide)) (put_ne (by decide))).p26, ?_, ?_, ?_, ?_, ((FS.rf.pt (Or.inl ⟨rfl, rfl⟩)).pt (Or.inr ⟨Or.inl rfl, Nat.le_refl _⟩)).trans (f2.f.fs (n := i)) (Nat.le_refl _), ((g2.f.ft (n := i)).pt (Nat.le_refl _)).p26⟩
  · unfold fs_M_readOrder
    rw [w2, bnd_s, jn_eq, if_neg (nI_nm1 hc)]
    dsimp only
    rw [show f_M_check true (1 : Int32) Mr = some Mr from rfl, bndM_s, jn_eq, if_pos G.2.2.1, if_pos (by rw [h26]; show nI i < nI 20; exact nI_lt (by omega) (by omega))]
    have adv : f_M_check true (3 : Int32) Mr = some Mr := rfl
    have fin : (bndM (f_M_check true (3 : Int32) Mr) fun (M12 : Mem) => bndM (f_M_advance N 146 M12) fun (M14 : Mem) => if (M14 145 20) = 0 then (nm ((3 : Int32) * (M14 145 26)) fun (x15 : Int32) => grd (inB x15 60) (nm (put M14 154 x15.toNatClampNeg (nI (c - 1))) fun (M16 : Mem) => nm (put M16 145 26 ((M16 145 26) + (1 : Int32))) fun (M17 : Mem) => if nI (c - 1) = (8 : Int32) then (bndM (f_M_readRepeat N 146 rb x15 a M17) fun (M19 : Mem) => bndM (f_M_expect N 146 (59 : Int32) M19) fun (M21 : Mem) => some M21) else rT N c x15 M17)) else (some M14)) = (if nI (c - 1) = (8 : Int32) then (bndM (f_M_readRepeat N 146 rb (nI (3 * i)) a (put (put m1 154 (3 * i) (nI (c - 1))) 145 26 (nI (i + 1)))) fun (M19 : Mem) => bndM (f_M_expect N 146 (59 : Int32) M19) fun (M21 : Mem) => some M21) else rT N c (nI (3 * i)) (put (put m1 154 (3 * i) (nI (c - 1))) 145 26 (nI (i + 1)))) := by
      rw [adv, bndM_s, a3, bndM_s, if_pos G2.2.2.1, nm_eq, m26, q3, grd_of (inB_nI (by omega) (by omega)), nI_clamp (by omega), nm_eq, nm_eq, p26, nI_1]
    by_cases e : c = 9
    · subst e
      rw [if_pos (show nI (9 - 1) = (8 : Int32) from rfl), if_pos (ha rfl)]
      dsimp only
      exact fin
    · have n8 : ¬ nI (c - 1) = (8 : Int32) := fun z => e (by have := (nI_eq (by omega) (by omega)).mp (z.trans (show (8 : Int32) = nI 8 from rfl)); omega)
      rw [if_neg n8]
      dsimp only
      rw [if_neg n8] at fin
      rw [if_neg n8]
      exact fin
  · rw [f2.1 5 (by decide), put_ne (by decide), put_row, upd_at, if_pos rfl]
  · rw [put_row, upd_at, if_pos rfl]
  · rw [f2.1 6 (by decide), put_row, upd_at, if_pos rfl]
  · rw [put_ne (by decide), put_row, upd_at, if_pos rfl]
