/-! a station's text, both sides -/
theorem lpR_beg {N0 : Nat} {a1 a2 a3 : Int32} {k : Int32 → Mem → Option Mem} : ∀ (d i N : Nat) (M : Mem), i + d = 405 → d < N → (∀ j, j < i → M 147 j = 0) → ∃ r : Row, lp_M_begin_3 N0 147 a1 a2 a3 N (nI i) M k = k (nI 405) (setR M 147 r) ∧ ∀ j, j < 405 → r j = 0 := by
  intro d
  induction d with
  | zero =>
    intro i N M hi hN h
    obtain ⟨N, rfl⟩ : ∃ n, N = n + 1 := ⟨N - 1, by omega⟩
    obtain rfl : i = 405 := by omega
    unfold lp_M_begin_3
    rw [if_neg (by decide)]
    exact ⟨M 147, by rw [setR_same], h⟩
  | succ d ih =>
    intro i N M hi hN h
    obtain ⟨N, rfl⟩ : ∃ n, N = n + 1 := ⟨N - 1, by omega⟩
    unfold lp_M_begin_3
    rw [if_pos (by show nI i < nI 405; exact nI_lt (by omega) (by omega)), grd_of (inB_nI (by omega) (by omega)), nI_clamp (by omega), nm_eq, nm_eq, nI_1]
    obtain ⟨r, e1, e2⟩ := ih (i + 1) N (put M 147 i 0) (by omega) (by omega) (fun j hj => by
      rw [put_row, upd_at]
      by_cases e : j = i
      · rw [if_pos e]
      · rw [if_neg e]; exact h j (by omega))
    exact ⟨r, by rw [e1, put_setR, setR_setR], e2⟩
theorem R_begin {N a l e : Nat} {M : Mem} (hN : 406 < N) : ∃ r : Row, f_M_begin N 147 (nI a) (nI l) (nI e) M = some (setR M 147 r) ∧ r 1 = nI a ∧ r 2 = nI l ∧ r 3 = nI e ∧ ∀ j, j < 405 → j ≠ 1 → j ≠ 2 → j ≠ 3 → r j = 0 := by
  unfold f_M_begin
  obtain ⟨r, e1, e2⟩ := lpR_beg (N0 := N) (a1 := nI a) (a2 := nI l) (a3 := nI e) (k := fun (a4 : Int32) (M3 : Mem) => nm (put M3 147 1 (nI a)) fun (M5 : Mem) => nm (put M5 147 2 (nI l)) fun (M6 : Mem) => nm (put M6 147 3 (nI e)) fun (M7 : Mem) => some M7) 405 0 N M (by omega) (by omega) (fun j hj => absurd hj (Nat.not_lt_zero j))
  refine ⟨upd (upd (upd r 1 (nI a)) 2 (nI l)) 3 (nI e), ?_, ?_, ?_, ?_, fun j hj h1 h2 h3 => ?_⟩
  · rw [← nI_0, e1]
    simp only [nm_eq, put_setR, setR_setR, setR_self]
  · rw [upd_at, if_neg (by decide), upd_at, if_neg (by decide), upd_at, if_pos rfl]
  · rw [upd_at, if_neg (by decide), upd_at, if_pos rfl]
  · rw [upd_at, if_pos rfl]
  · rw [upd_at, if_neg h3, upd_at, if_neg h2, upd_at, if_neg h1]; exact e2 j hj
/-- what has been read: m gusts -/
def QS (Mc Mr : Mem) (a l e m : Nat) : Prop := Mc 3 0 = nI a ∧ Mc 3 1 = nI l ∧ Mc 3 2 = nI e ∧ Mr 147 1 = nI a ∧ Mr 147 2 = nI l ∧ Mr 147 3 = nI e ∧ Mc 3 5 = nI m ∧ Mr 147 5 = nI m ∧ (∀ i, i < m → Mc 4 i = Mr 147 (21 + i) ∧ ∃ v, v ≤ 30 ∧ Mr 147 (21 + i) = nI v) ∧ ∀ j, j < 405 → j ≠ 1 → j ≠ 2 → j ≠ 3 → j ≠ 5 → (j < 21 ∨ 37 ≤ j) → Mr 147 j = 0
def FP (Mc Mc' : Mem) : Prop := (∀ q, q ≠ 1 → q ≠ 3 → q ≠ 4 → Mc' q = Mc q) ∧ ∀ k, k < 3 → Mc' 1 k = Mc 1 k
def FQ (Mr Mr' : Mem) : Prop := (∀ q, q ≠ 145 → q ≠ 147 → Mr' q = Mr q) ∧ ∀ k, (k < 17 ∨ 22 ≤ k) → Mr' 145 k = Mr 145 k
theorem F1.p {M M' : Mem} (h : F1 M M') : FP M M' := ⟨fun q a _ _ => h.1 q a, h.2⟩
theorem F145.q {M M' : Mem} (h : F145 M M') : FQ M M' := ⟨fun q a _ => h.1 q a, h.2⟩
theorem FP.trans {M M' M'' : Mem} (h : FP M M') (h2 : FP M' M'') : FP M M'' := ⟨fun q a b c => (h2.1 q a b c).trans (h.1 q a b c), fun k a => (h2.2 k a).trans (h.2 k a)⟩
theorem FQ.trans {M M' M'' : Mem} (h : FQ M M') (h2 : FQ M' M'') : FQ M M'' := ⟨fun q a b => (h2.1 q a b).trans (h.1 q a b), fun k a => (h2.2 k a).trans (h.2 k a)⟩
theorem FP.rf {M : Mem} : FP M M := ⟨fun _ _ _ _ => rfl, fun _ _ => rfl⟩
theorem FQ.rf {M : Mem} : FQ M M := ⟨fun _ _ _ => rfl, fun _ _ => rfl⟩
theorem FP.put {M M' : Mem} {p k : Nat} {v : Int32} (h : FP M M') (hp : p = 3 ∨ p = 4) : FP M (put M' p k v) := ⟨fun q a b c => by rw [put_ne (by omega)]; exact h.1 q a b c, fun j hj => by rw [put_ne (by omega)]; exact h.2 j hj⟩
theorem FQ.put {M M' : Mem} {k : Nat} {v : Int32} (h : FQ M M') : FQ M (put M' 147 k v) := ⟨fun q a b => by rw [put_ne b]; exact h.1 q a b, fun j hj => by rw [put_ne (by decide)]; exact h.2 j hj⟩
theorem QS.kept {Mc Mr Mc' Mr' : Mem} {a l e m : Nat} (h : QS Mc Mr a l e m) (f : F1 Mc Mc') (g : F145 Mr Mr') : QS Mc' Mr' a l e m := by
  unfold QS
  rw [f.1 3 (by decide), f.1 4 (by decide), g.1 147 (by decide)]
  exact h
theorem GD.keep {Mc Mr Mc' Mr' : Mem} {L : Nat} {b : Nat → Nat} (h : GD Mc Mr L b) (e1 : Mc' 1 = Mc 1) (e2 : Mc' 2 = Mc 2) (e3 : Mr' 145 = Mr 145) (e4 : Mr' 153 = Mr 153) : GD Mc' Mr' L b := by
  unfold GD TS TK
  rw [e1, e2, e3, e4]
  exact h
/-- the class's step for a gust -/
def gst (N : Nat) (v : Int32) (LP : Int32 → Mem → Option (Bool × Mem)) (Mc : Mem) : Option (Bool × Mem) := (bnd (f_X_checkNumber (0 : Int32) (30 : Int32) Mc) fun (x4 : Bool) (M5 : Mem) => if x4 = true then (if v = (16 : Int32) then (bnd (f_X_fail (3 : Int32) M5) fun (x6 : Bool) (M7 : Mem) => some (x6, M7)) else (bndM (f_G_putAt 4 v (M5 1 6) M5) fun (M9 : Mem) => nm (put M9 3 5 (v + (1 : Int32))) fun (M10 : Mem) => bndM (f_X_advance N 146 M10) fun (M12 : Mem) => nm (v + (1 : Int32)) fun (x13 : Int32) => LP x13 M12)) else (some (false, M5)))
/-- a gust -/
theorem J_gst {N L a l e m : Nat} {b : Nat → Nat} {Mc Mr : Mem} (hN : 600 < N) (G : GD Mc Mr L b) (Q : QS Mc Mr a l e m) (hm : m ≤ 16) : (m < 16 ∧ ∃ Mc' Mr', (∀ LP : Int32 → Mem → Option (Bool × Mem), gst N (nI m) LP Mc = LP (nI (m + 1)) Mc') ∧ f_M_readGust N 147 Mr = some Mr' ∧ GD Mc' Mr' L b ∧ QS Mc' Mr' a l e (m + 1) ∧ FP Mc Mc' ∧ FQ Mr Mr') ∨ (∃ Mc' Mr', (∀ LP : Int32 → Mem → Option (Bool × Mem), gst N (nI m) LP Mc = some (false, Mc')) ∧ f_M_readGust N 147 Mr = some Mr' ∧ ER Mc' Mr' ∧ RB Mr' L b ∧ FP Mc Mc' ∧ FQ Mr Mr') := by
  have q5 : Mr 147 5 = nI m := Q.2.2.2.2.2.2.2.1
  unfold f_M_readGust
  rcases J_chk (rr := 147) (lo := 0) (hi := 30) hN (by omega) (by omega) G with ⟨x, x1, x2, x3, x4, x5⟩ | ⟨Mc', Mr', a1, a2, a3, a4, a5, a6⟩
  · have x4' : f_X_checkNumber (0 : Int32) (30 : Int32) Mc = some (true, Mc) := x4
    have x5' : f_M_look N 147 (0 : Int32) (30 : Int32) Mr = some (nI x, Mr) := x5
    rw [x5', bnd_s, if_pos G.2.2.1, q5]
    rcases Nat.lt_or_ge m 16 with hlt | hge
    · have c16 : ¬ nI m = (16 : Int32) := fun z => by have := (nI_eq (by omega) (by omega)).mp (z.trans (show (16 : Int32) = nI 16 from rfl)); omega
      rw [if_pos (by show nI m < nI 16; exact nI_lt hlt (by omega)), show f_M_check true (3 : Int32) Mr = some Mr from rfl, bndM_s]
      have G2 : GD (put (put Mc 4 m (Mc 1 6)) 3 5 (nI (m + 1))) Mr L b := G.keep (by rw [put_ne (by decide), put_ne (by decide)]) (by rw [put_ne (by decide), put_ne (by decide)]) rfl rfl
      obtain ⟨Mc', Mr', b1, b2, b3', b4, b5, b6⟩ := GD.adv (rr := 146) (r2 := 147) hN G2
      have p5 : Mr' 147 5 = nI m := by rw [b6.1 147 (by decide)]; exact q5
      refine Or.inl ⟨hlt, Mc', put (put Mr' 147 (21 + m) (nI x)) 147 5 (nI (m + 1)), fun LP => by unfold gst; rw [x4', bnd_s, if_pos rfl, if_neg c16, C_putAt (a := 4) (by show m < 16; exact hlt) (by decide), bndM_s, nm_eq, nI_1, b1, bndM_s, nm_eq], ?_, ?_, ?_, ((FP.rf.put (by omega)).put (by omega)).trans b5.f.p, (b6.f.q.put).put⟩
      · rw [b3', bndM_s, if_pos b4.2.2.1]
        unfold f_M_addGust
        rw [p5, q21, grd_of (inB_nI (by omega) (by omega)), nI_clamp (by omega), nm_eq, nm_eq]
        have : (put Mr' 147 (21 + m) (nI x)) 147 5 = nI m := by rw [put_row, upd_at, if_neg (by omega)]; exact p5
        rw [this, nI_1, bndM_s]
      · exact b4.keep rfl rfl (by rw [put_ne (by decide), put_ne (by decide)]) (by rw [put_ne (by decide), put_ne (by decide)])
      · obtain ⟨u1, u2, u3, u4, u5, u6, u7, u8, u9, u10⟩ := Q
        have c3 : Mc' 3 = (put (put Mc 4 m (Mc 1 6)) 3 5 (nI (m + 1))) 3 := b5.1 3 (by decide)
        have c4 : Mc' 4 = (put (put Mc 4 m (Mc 1 6)) 3 5 (nI (m + 1))) 4 := b5.1 4 (by decide)
        have c147 : Mr' 147 = Mr 147 := b6.1 147 (by decide)
        unfold QS
        rw [c3, c4]
        refine ⟨?_, ?_, ?_, ?_, ?_, ?_, ?_, ?_, fun i hi => ?_, fun j h0 h1 h2 h3 h5 hj => ?_⟩
        · rw [put_row, upd_at, if_neg (by decide), put_ne (by decide)]; exact u1
        · rw [put_row, upd_at, if_neg (by decide), put_ne (by decide)]; exact u2
        · rw [put_row, upd_at, if_neg (by decide), put_ne (by decide)]; exact u3
        · rw [put_row, upd_at, if_neg (by decide), put_row, upd_at, if_neg (by omega), c147]; exact u4
        · rw [put_row, upd_at, if_neg (by decide), put_row, upd_at, if_neg (by omega), c147]; exact u5
        · rw [put_row, upd_at, if_neg (by decide), put_row, upd_at, if_neg (by omega), c147]; exact u6
        · rw [put_row, upd_at, if_pos rfl]
        · rw [put_row, upd_at, if_pos rfl]
        · have y1 : (put (put Mc 4 m (Mc 1 6)) 3 5 (nI (m + 1))) 4 i = if i = m then Mc 1 6 else Mc 4 i := by rw [put_ne (by decide), put_row, upd_at]
          have y2 : (put (put Mr' 147 (21 + m) (nI x)) 147 5 (nI (m + 1))) 147 (21 + i) = if i = m then nI x else Mr 147 (21 + i) := by
            rw [put_row, upd_at, if_neg (by omega), put_row, upd_at, c147]
            by_cases z : i = m
            · rw [if_pos z, if_pos (by omega)]
            · rw [if_neg z, if_neg (by omega)]
          rw [y1, y2]
          by_cases z : i = m
          · rw [if_pos z, if_pos z, x3]; exact ⟨rfl, x, x2, rfl⟩
          · rw [if_neg z, if_neg z]; exact u9 i (by omega)
        · rw [put_row, upd_at, if_neg h5, put_row, upd_at, if_neg (by omega), c147]; exact u10 j h0 h1 h2 h3 h5 hj
    · obtain rfl : m = 16 := by omega
      rw [if_neg (by decide)]
      obtain ⟨Mc', Mr', a1, a2, a3, a4, a5, a6⟩ := GD.fail (c := 3) G (by omega) (by omega)
      refine Or.inr ⟨Mc', Mr', fun LP => by unfold gst; rw [x4', bnd_s, if_pos rfl, if_pos (show nI 16 = (16 : Int32) from rfl), show (3 : Int32) = nI 3 from rfl, a1, bnd_s], ?_, a3, a4, a5.p, a6.q⟩
      rw [show (3 : Int32) = nI 3 from rfl, a2, bndM_s, B_adv a4, bndM_s, if_neg a4.1]
  · have a1' : f_X_checkNumber (0 : Int32) (30 : Int32) Mc = some (false, Mc') := a1
    have a2' : f_M_look N 147 (0 : Int32) (30 : Int32) Mr = some (nI 0, Mr') := a2
    rw [a2', bnd_s, if_neg a4.1, B_check a4, bndM_s, B_adv a4, bndM_s, if_neg a4.1]
    exact Or.inr ⟨Mc', Mr', fun LP => by unfold gst; rw [a1', bnd_s, if_neg (by decide)], rfl, a3, a4, a5.p, a6.q⟩
