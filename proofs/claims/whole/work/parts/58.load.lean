/-! a station's text: the whole -/
theorem lp72_B {N0 N L : Nat} {b : Nat → Nat} {c1 c2 : Int32} {Mr : Mem} {k : Unit → Mem → Option Mem} (h : RB Mr L b) : lp_M_readStation_72 N0 147 c1 c2 (N + 1) () Mr k = k () Mr := by
  unfold lp_M_readStation_72
  rw [if_neg h.1]
theorem GD.kind2 {Mc Mr : Mem} {L : Nat} {b : Nat → Nat} (G : GD Mc Mr L b) : Mc 1 3 = 2 ↔ Mr 145 19 = 2 := by
  obtain ⟨T, ⟨st, nx, k1, k2, k3, k4, k5, k6, k7, k8, k9⟩, -⟩ := G
  have h6 := kb_le (b := b) (L := L) (k := st)
  rw [k7, k8]
  constructor
  · intro z
    have := (nI_eq (by omega) (by omega)).mp (z.trans (show (2 : Int32) = nI 2 from rfl))
    rw [this]; rfl
  · intro z
    have := (nI_eq (by omega) (by omega)).mp (z.trans (show (2 : Int32) = nI 2 from rfl))
    rw [show kb b L st = 2 from by omega]; rfl
theorem J_gl {N0 L a l e : Nat} {b : Nat → Nat} {c1 c2 : Int32} {k18 : Int32 → Mem → Option (Bool × Mem)} {k72 : Unit → Mem → Option Mem} (hN0 : 600 < N0) : ∀ (d m N N' : Nat) (Mc Mr : Mem), m + d = 16 → d + 1 < N → d + 2 < N' → 1 ≤ m → GD Mc Mr L b → QS Mc Mr a l e m → (∃ Mc' Mr' m', lp_P_readGusts_18 N0 146 N (nI m) Mc k18 = k18 (nI m') Mc' ∧ lp_M_readStation_72 N0 147 c1 c2 N' () Mr k72 = k72 () Mr' ∧ GD Mc' Mr' L b ∧ QS Mc' Mr' a l e m' ∧ 1 ≤ m' ∧ m' ≤ 16 ∧ FP Mc Mc' ∧ FQ Mr Mr') ∨ (∃ Mc' Mr', lp_P_readGusts_18 N0 146 N (nI m) Mc k18 = some (false, Mc') ∧ lp_M_readStation_72 N0 147 c1 c2 N' () Mr k72 = k72 () Mr' ∧ ER Mc' Mr' ∧ RB Mr' L b ∧ FP Mc Mc' ∧ FQ Mr Mr') := by
  intro d
  induction d with
  | zero =>
    intro m N N' Mc Mr hm hN hN' h1 G Q
    obtain ⟨N, rfl⟩ : ∃ n, N = n + 1 := ⟨N - 1, by omega⟩
    obtain ⟨N', rfl⟩ : ∃ n, N' = n + 2 := ⟨N' - 2, by omega⟩
    have n0 : ¬ nI m = (0 : Int32) := nI_ne0 (by omega) (by omega)
    have n16 : nI m ≤ (16 : Int32) := nI_le (b := 16) (by omega) (by omega)
    by_cases k2 : Mc 1 3 = 2
    · rcases J_gst hN0 G Q (by omega) with ⟨h, -⟩ | ⟨Mc', Mr', g1, g2, g3, g4, g5, g6⟩
      · omega
      · refine Or.inr ⟨Mc', Mr', ?_, ?_, g3, g4, g5, g6⟩
        · unfold lp_P_readGusts_18
          rw [if_pos n16, if_neg n0, if_pos k2]
          exact g1 (fun x M => lp_P_readGusts_18 N0 146 N x M k18)
        · unfold lp_M_readStation_72
          rw [if_pos G.2.2.1, if_pos (G.kind2.mp k2), g2, bndM_s]
          exact lp72_B g4
    · refine Or.inl ⟨Mc, Mr, m, ?_, ?_, G, Q, h1, by omega, FP.rf, FQ.rf⟩
      · unfold lp_P_readGusts_18
        rw [if_pos n16, if_neg n0, if_neg k2]
      · unfold lp_M_readStation_72
        rw [if_pos G.2.2.1, if_neg (fun z => k2 (G.kind2.mpr z))]
  | succ d ih =>
    intro m N N' Mc Mr hm hN hN' h1 G Q
    obtain ⟨N, rfl⟩ : ∃ n, N = n + 1 := ⟨N - 1, by omega⟩
    obtain ⟨N', rfl⟩ : ∃ n, N' = n + 1 := ⟨N' - 1, by omega⟩
    have n0 : ¬ nI m = (0 : Int32) := nI_ne0 (by omega) (by omega)
    have n16 : nI m ≤ (16 : Int32) := nI_le (b := 16) (by omega) (by omega)
    by_cases k2 : Mc 1 3 = 2
    · rcases J_gst hN0 G Q (by omega) with ⟨h, Mc1, Mr1, g1, g2, g3, g4, g5, g6⟩ | ⟨Mc', Mr', g1, g2, g3, g4, g5, g6⟩
      · have eC : lp_P_readGusts_18 N0 146 (N + 1) (nI m) Mc k18 = lp_P_readGusts_18 N0 146 N (nI (m + 1)) Mc1 k18 := by
          conv => lhs; unfold lp_P_readGusts_18
          rw [if_pos n16, if_neg n0, if_pos k2]
          exact g1 (fun x M => lp_P_readGusts_18 N0 146 N x M k18)
        have eR : lp_M_readStation_72 N0 147 c1 c2 (N' + 1) () Mr k72 = lp_M_readStation_72 N0 147 c1 c2 N' () Mr1 k72 := by
          conv => lhs; unfold lp_M_readStation_72
          rw [if_pos G.2.2.1, if_pos (G.kind2.mp k2), g2, bndM_s]
        rw [eC, eR]
        rcases ih (m + 1) N N' Mc1 Mr1 (by omega) (by omega) (by omega) (by omega) g3 g4 with ⟨Mc', Mr', m', i1, i2, i3, i4, i5, i6, i7, i8⟩ | ⟨Mc', Mr', i1, i2, i3, i4, i5, i6⟩
        · exact Or.inl ⟨Mc', Mr', m', i1, i2, i3, i4, i5, i6, g5.trans i7, g6.trans i8⟩
        · exact Or.inr ⟨Mc', Mr', i1, i2, i3, i4, g5.trans i5, g6.trans i6⟩
      · refine Or.inr ⟨Mc', Mr', ?_, ?_, g3, g4, g5, g6⟩
        · unfold lp_P_readGusts_18
          rw [if_pos n16, if_neg n0, if_pos k2]
          exact g1 (fun x M => lp_P_readGusts_18 N0 146 N x M k18)
        · obtain ⟨N', rfl⟩ : ∃ n, N' = n + 1 := ⟨N' - 1, by omega⟩
          unfold lp_M_readStation_72
          rw [if_pos G.2.2.1, if_pos (G.kind2.mp k2), g2, bndM_s]
          exact lp72_B g4
    · refine Or.inl ⟨Mc, Mr, m, ?_, ?_, G, Q, h1, by omega, FP.rf, FQ.rf⟩
      · unfold lp_P_readGusts_18
        rw [if_pos n16, if_neg n0, if_neg k2]
      · unfold lp_M_readStation_72
        rw [if_pos G.2.2.1, if_neg (fun z => k2 (G.kind2.mpr z))]
/-! the reference's road, in pieces -/
def rS7 (M41 : Mem) : Option Mem := if (M41 145 20) = 0 then (if (M41 145 19) = 0 then (bndM (f_M_check true (1 : Int32) M41) fun (M43 : Mem) => some M43) else (bndM (f_M_check false (1 : Int32) M41) fun (M45 : Mem) => some M45)) else (bndM (f_M_check true (1 : Int32) M41) fun (M47 : Mem) => some M47)
def rS6 (N : Nat) (M36 : Mem) : Option Mem := bnd (f_M_readNumber N 147 (1 : Int32) (20 : Int32) M36) fun (x37 : Int32) (M38 : Mem) => nm (put M38 147 4 x37) fun (M39 : Mem) => bndM (f_M_expect N 147 (59 : Int32) M39) fun (M41 : Mem) => rS7 M41
def rS5 (N : Nat) (M30 : Mem) : Option Mem := bnd (f_M_isWord N 147 3 M30) fun (x31 : Bool) (M32 : Mem) => bndM (f_M_check x31 (1 : Int32) M32) fun (M34 : Mem) => bndM (f_M_advance N 147 M34) fun (M36 : Mem) => rS6 N M36
def rS4 (N : Nat) (x7 x9 : Int32) (M22 : Mem) : Option Mem := bndM (f_M_readGust N 147 M22) fun (M24 : Mem) => lp_M_readStation_72 N 147 x7 x9 N () M24 (fun (_ : Unit) (M27 : Mem) => bndM (f_M_expect N 147 (59 : Int32) M27) fun (M30 : Mem) => rS5 N M30)
def rS3 (N : Nat) (x7 x9 : Int32) (M16 : Mem) : Option Mem := bnd (f_M_isWord N 147 2 M16) fun (x17 : Bool) (M18 : Mem) => bndM (f_M_check x17 (1 : Int32) M18) fun (M20 : Mem) => bndM (f_M_advance N 147 M20) fun (M22 : Mem) => rS4 N x7 x9 M22
def rS2 (N : Nat) (x7 x9 x11 : Int32) (M12 : Mem) : Option Mem := bndM (f_M_begin N 147 x7 x9 x11 M12) fun (M14 : Mem) => bndM (f_M_expect N 147 (59 : Int32) M14) fun (M16 : Mem) => rS3 N x7 x9 M16
def rS1 (N : Nat) (M6 : Mem) : Option Mem := bnd (f_M_readNumber N 147 (1 : Int32) (4 : Int32) M6) fun (x7 : Int32) (M8 : Mem) => bnd (f_M_readNumber N 147 (1 : Int32) (999 : Int32) M8) fun (x9 : Int32) (M10 : Mem) => bnd (f_M_readNumber N 147 (1 : Int32) (9999 : Int32) M10) fun (x11 : Int32) (M12 : Mem) => rS2 N x7 x9 x11 M12
theorem rS0 {N : Nat} {M : Mem} : f_M_readStation N 147 M = bnd (f_M_isWord N 147 1 M) fun (x1 : Bool) (M2 : Mem) => bndM (f_M_check x1 (1 : Int32) M2) fun (M4 : Mem) => bndM (f_M_advance N 147 M4) fun (M6 : Mem) => rS1 N M6 := rfl
theorem RB.put {Mr : Mem} {L k : Nat} {b : Nat → Nat} {v : Int32} (h : RB Mr L b) : RB (put Mr 147 k v) L b := by
  unfold RB
  rw [put_ne (by decide)]
  exact h
theorem RB.setR {Mr : Mem} {L : Nat} {b : Nat → Nat} {r : Row} (h : RB Mr L b) : RB (setR Mr 147 r) L b := by
  unfold RB
  rw [setR_at, if_neg (by decide)]
  exact h
/-- nothing but the draft is touched -/
def N147 (M M' : Mem) : Prop := ∀ q, q ≠ 147 → M' q = M q
section RBT
variable {N L : Nat} {b : Nat → Nat} {Mr : Mem}
theorem B7 (h : RB Mr L b) : rS7 Mr = some Mr := by
  unfold rS7
  rw [if_neg h.1]
  rfl
theorem B6 (hN : 600 < N) (h : RB Mr L b) : ∃ M', rS6 N Mr = some M' ∧ N147 Mr M' := by
  unfold rS6
  rw [B_readNumber hN h, bnd_s, nm_eq, B_expect h.put, bndM_s, B7 h.put]
  exact ⟨_, rfl, fun q hq => put_ne hq⟩
theorem B5 (hN : 600 < N) (h : RB Mr L b) : ∃ M', rS5 N Mr = some M' ∧ N147 Mr M' := by
  unfold rS5
  rw [B_isWord (by omega) h, bnd_s, B_check h, bndM_s, B_adv h, bndM_s]
  exact B6 hN h
theorem B5e (hN : 600 < N) (h : RB Mr L b) : ∃ M', (bndM (f_M_expect N 147 (59 : Int32) Mr) fun (M30 : Mem) => rS5 N M30) = some M' ∧ N147 Mr M' := by
  rw [B_expect h, bndM_s]
  exact B5 hN h
theorem B4 {x7 x9 : Int32} (hN : 600 < N) (h : RB Mr L b) : ∃ M', rS4 N x7 x9 Mr = some M' ∧ N147 Mr M' := by
  unfold rS4 f_M_readGust
  rw [B_look hN h, bnd_s, if_neg h.1, B_check h, bndM_s, B_adv h, bndM_s, if_neg h.1, bndM_s]
  obtain ⟨N', hN'⟩ : ∃ n, N = n + 1 := ⟨N - 1, by omega⟩
  have : lp_M_readStation_72 N 147 x7 x9 N () Mr (fun (_ : Unit) (M27 : Mem) => bndM (f_M_expect N 147 (59 : Int32) M27) fun (M30 : Mem) => rS5 N M30) = bndM (f_M_expect N 147 (59 : Int32) Mr) fun (M30 : Mem) => rS5 N M30 := by
    conv => lhs; arg 5; rw [hN']
    exact lp72_B h
  rw [this]
  exact B5e hN h
theorem B3 {x7 x9 : Int32} (hN : 600 < N) (h : RB Mr L b) : ∃ M', rS3 N x7 x9 Mr = some M' ∧ N147 Mr M' := by
  unfold rS3
  rw [B_isWord (by omega) h, bnd_s, B_check h, bndM_s, B_adv h, bndM_s]
  exact B4 hN h
theorem B2 {a l e : Nat} (hN : 600 < N) (h : RB Mr L b) : ∃ M', rS2 N (nI a) (nI l) (nI e) Mr = some M' ∧ N147 Mr M' := by
  obtain ⟨r, e1, -⟩ := R_begin (N := N) (a := a) (l := l) (e := e) (M := Mr) (by omega)
  unfold rS2
  rw [e1, bndM_s, B_expect h.setR, bndM_s]
  obtain ⟨M', e2, e3⟩ := B3 (x7 := nI a) (x9 := nI l) hN h.setR
  exact ⟨M', e2, fun q hq => by rw [e3 q hq, setR_at, if_neg hq]⟩
theorem B1 (hN : 600 < N) (h : RB Mr L b) : ∃ M', rS1 N Mr = some M' ∧ N147 Mr M' := by
  unfold rS1
  rw [B_readNumber hN h, bnd_s, B_readNumber hN h, bnd_s, B_readNumber hN h, bnd_s]
  exact B2 (a := 1) (l := 1) (e := 1) hN h
end RBT
theorem ER.n147 {Mc Mr Mr' : Mem} (h : ER Mc Mr) (n : N147 Mr Mr') : ER Mc Mr' := by
  unfold ER
  rw [n 145 (by decide)]
  exact h
theorem FQ.n147 {M M' M'' : Mem} (h : FQ M M') (n : N147 M' M'') : FQ M M'' := ⟨fun q a b => by rw [n q b]; exact h.1 q a b, fun k hk => by rw [n 145 (by decide)]; exact h.2 k hk⟩
/-- the class has read an error, the reference the same -/
def EE (Mc Mr : Mem) (oc : Option (Bool × Mem)) (or : Option Mem) : Prop := ∃ Mc' Mr', oc = some (false, Mc') ∧ or = some Mr' ∧ ER Mc' Mr' ∧ FP Mc Mc' ∧ FQ Mr Mr'
theorem EE.mk {Mc Mr Mc' Mr' : Mem} {oc : Option (Bool × Mem)} {or : Option Mem} (e : oc = some (false, Mc')) (he : ER Mc' Mr') (f : FP Mc Mc') (g : FQ Mr Mr') (h : ∃ M', or = some M' ∧ N147 Mr' M') : EE Mc Mr oc or := by
  obtain ⟨M', h1, h2⟩ := h
  exact ⟨Mc', M', e, h1, he.n147 h2, f, g.n147 h2⟩
/-- what the first line leaves -/
def QK (Mc Mr : Mem) (a l e : Nat) : Prop := Mc 3 0 = nI a ∧ Mc 3 1 = nI l ∧ Mc 3 2 = nI e ∧ Mr 147 1 = nI a ∧ Mr 147 2 = nI l ∧ Mr 147 3 = nI e ∧ ∀ j, j < 405 → j ≠ 1 → j ≠ 2 → j ≠ 3 → Mr 147 j = 0
theorem J_kite {N L : Nat} {b : Nat → Nat} {Mc Mr : Mem} (hN : 600 < N) (G : GD Mc Mr L b) : (∃ Mc' Mr' a l e, f_P_readKite N 146 Mc = some (true, Mc') ∧ f_M_readStation N 147 Mr = rS3 N (nI a) (nI l) Mr' ∧ GD Mc' Mr' L b ∧ QK Mc' Mr' a l e ∧ FP Mc Mc' ∧ FQ Mr Mr') ∨ EE Mc Mr (f_P_readKite N 146 Mc) (f_M_readStation N 147 Mr) := by
  rw [rS0]
  unfold f_P_readKite
  obtain ⟨r1, c1, m1, a1, b1, f1, g1, o1⟩ := J_wrd (rr := 146) (r2 := 147) (i := 1) hN (by omega) G (fun M6 => rS1 N M6)
  rw [a1, bnd_s, b1]
  rcases o1 with ⟨rfl, G1⟩ | ⟨rfl, E1, B1'⟩
  · rw [if_pos rfl]
    obtain ⟨r2, x2, c2, m2, a2, b2, l2, u2, ⟨f2, g2, o2⟩, t2⟩ := J_num2 (rr := 146) (r2 := 147) (lo := 1) (hi := 4) hN (by omega) (by omega) G1
    unfold rS1
    rw [show f_X_takeNumber N 146 (1 : Int32) (4 : Int32) c1 = some (r2, c2) from a2, show f_M_readNumber N 147 (1 : Int32) (4 : Int32) m1 = some (nI x2, m2) from b2, bnd_s, bnd_s]
    rcases o2 with ⟨rfl, G2⟩ | ⟨rfl, E2, B2'⟩
    · rw [if_pos rfl, nm_eq, t2 rfl]
      have G2' : GD (put c2 3 0 (nI x2)) m2 L b := G2.keep (put_ne (by decide)) (put_ne (by decide)) rfl rfl
      obtain ⟨r3, x3, c3, m3, a3, b3, l3, u3, ⟨f3, g3, o3⟩, t3⟩ := J_num2 (rr := 146) (r2 := 147) (lo := 1) (hi := 999) hN (by omega) (by omega) G2'
      rw [show f_X_takeNumber N 146 (1 : Int32) (999 : Int32) (put c2 3 0 (nI x2)) = some (r3, c3) from a3, show f_M_readNumber N 147 (1 : Int32) (999 : Int32) m2 = some (nI x3, m3) from b3, bnd_s, bnd_s]
      have F3 : FP Mc c3 := (((f1.trans f2).p).put (by omega)).trans f3.p
      have Q3 : FQ Mr m3 := ((g1.trans g2).trans g3).q
      rcases o3 with ⟨rfl, G3⟩ | ⟨rfl, E3, B3'⟩
      · rw [if_pos rfl, nm_eq, t3 rfl]
        have G3' : GD (put c3 3 1 (nI x3)) m3 L b := G3.keep (put_ne (by decide)) (put_ne (by decide)) rfl rfl
        obtain ⟨r4, x4, c4, m4, a4, b4, l4, u4, ⟨f4, g4, o4⟩, t4⟩ := J_num2 (rr := 146) (r2 := 147) (lo := 1) (hi := 9999) hN (by omega) (by omega) G3'
        rw [show f_X_takeNumber N 146 (1 : Int32) (9999 : Int32) (put c3 3 1 (nI x3)) = some (r4, c4) from a4, show f_M_readNumber N 147 (1 : Int32) (9999 : Int32) m3 = some (nI x4, m4) from b4, bnd_s, bnd_s]
        have F4 : FP Mc c4 := (F3.put (by omega)).trans f4.p
        have Q4 : FQ Mr m4 := Q3.trans g4.q
        rcases o4 with ⟨rfl, G4⟩ | ⟨rfl, E4, B4'⟩
        · rw [if_pos rfl, nm_eq, t4 rfl]
          obtain ⟨r, s1, s2, s3, s4, s5⟩ := R_begin (N := N) (a := x2) (l := x3) (e := x4) (M := m4) (by omega)
          unfold rS2
          rw [s1, bndM_s]
          have G4' : GD (put c4 3 2 (nI x4)) (setR m4 147 r) L b := G4.keep (put_ne (by decide)) (put_ne (by decide)) (by rw [setR_at, if_neg (by decide)]) (by rw [setR_at, if_neg (by decide)])
          have Q4' : FQ Mr (setR m4 147 r) := ⟨fun q a b => by rw [setR_at, if_neg b]; exact Q4.1 q a b, fun k hk => by rw [setR_at, if_neg (by decide)]; exact Q4.2 k hk⟩
          obtain ⟨r5, c5, m5, a5, b5, f5, g5, o5⟩ := J_sgn (rr := 146) (r2 := 147) (y := 59) (k := 3) hN G4' (Or.inl ⟨rfl, rfl⟩)
          rw [show f_X_takeSign N 146 (3 : Int32) (put c4 3 2 (nI x4)) = some (r5, c5) from a5, show f_M_expect N 147 (59 : Int32) (setR m4 147 r) = some m5 from b5, bnd_s, bndM_s]
          have F5 : FP Mc c5 := (F4.put (by omega)).trans f5.p
          have Q5 : FQ Mr m5 := Q4'.trans g5.q
          rcases o5 with ⟨rfl, G5⟩ | ⟨rfl, E5, B5'⟩
          · refine Or.inl ⟨c5, m5, x2, x3, x4, rfl, rfl, G5, ?_, F5, Q5⟩
            unfold QK
            rw [f5.1 3 (by decide), g5.1 147 (by decide), setR_self]
            refine ⟨?_, ?_, ?_, s2, s3, s4, s5⟩
            · rw [put_row, upd_at, if_neg (by decide), f4.1 3 (by decide), put_row, upd_at, if_neg (by decide), f3.1 3 (by decide), put_row, upd_at, if_pos rfl]
            · rw [put_row, upd_at, if_neg (by decide), f4.1 3 (by decide), put_row, upd_at, if_pos rfl]
            · rw [put_row, upd_at, if_pos rfl]
          · exact Or.inr (EE.mk rfl E5 F5 Q5 (B3 hN B5'))
        · exact Or.inr (EE.mk (by rw [if_neg (by decide)]) E4 F4 Q4 (B2 hN B4'))
      · refine Or.inr (EE.mk (by rw [if_neg (by decide)]) E3 F3 Q3 ?_)
        rw [B_readNumber hN B3', bnd_s]
        exact B2 (e := 1) hN B3'
    · refine Or.inr (EE.mk (by rw [if_neg (by decide)]) E2 ((f1.trans f2).p) ((g1.trans g2).q) ?_)
      rw [B_readNumber hN B2', bnd_s, B_readNumber hN B2', bnd_s]
      exact B2 (l := 1) (e := 1) hN B2'
  · exact Or.inr (EE.mk (by rw [if_neg (by decide)]) E1 f1.p g1.q (B1 hN B1'))
