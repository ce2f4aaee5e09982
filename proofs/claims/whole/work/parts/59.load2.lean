/-! loadStation, both sides -/
theorem J_gusts {N L a l e : Nat} {b : Nat → Nat} {Mc Mr : Mem} {x7 x9 : Int32} (hN : 600 < N) (G : GD Mc Mr L b) (K : QK Mc Mr a l e) : (∃ Mc' Mr' m, f_P_readGusts N 146 Mc = some (true, Mc') ∧ rS3 N x7 x9 Mr = rS5 N Mr' ∧ GD Mc' Mr' L b ∧ QS Mc' Mr' a l e m ∧ 1 ≤ m ∧ m ≤ 16 ∧ FP Mc Mc' ∧ FQ Mr Mr') ∨ EE Mc Mr (f_P_readGusts N 146 Mc) (rS3 N x7 x9 Mr) := by
  unfold f_P_readGusts rS3
  obtain ⟨r1, c1, m1, a1, b1, f1, g1, o1⟩ := J_wrd (rr := 146) (r2 := 147) (i := 2) hN (by omega) G (fun M6 => rS4 N x7 x9 M6)
  rw [a1, bnd_s, b1]
  rcases o1 with ⟨rfl, G1⟩ | ⟨rfl, E1, B1'⟩
  · rw [if_pos rfl, nm_eq]
    have G1' : GD (put c1 3 5 0) m1 L b := G1.keep (put_ne (by decide)) (put_ne (by decide)) rfl rfl
    have Q1 : QS (put c1 3 5 0) m1 a l e 0 := by
      obtain ⟨k1, k2, k3, k4, k5, k6, k7⟩ := K
      unfold QS
      rw [g1.1 147 (by decide)]
      refine ⟨?_, ?_, ?_, k4, k5, k6, ?_, k7 5 (by omega) (by omega) (by omega) (by omega), fun i hi => absurd hi (Nat.not_lt_zero i), fun j h0 h1 h2 h3 _ _ => k7 j h0 h1 h2 h3⟩
      · rw [put_row, upd_at, if_neg (by decide), f1.1 3 (by decide)]; exact k1
      · rw [put_row, upd_at, if_neg (by decide), f1.1 3 (by decide)]; exact k2
      · rw [put_row, upd_at, if_neg (by decide), f1.1 3 (by decide)]; exact k3
      · rw [put_row, upd_at, if_pos rfl]; rfl
    have F1' : FP Mc (put c1 3 5 0) := f1.p.put (by omega)
    have Q1' : FQ Mr m1 := g1.q
    obtain ⟨N', hN'⟩ : ∃ n, N = n + 1 := ⟨N - 1, by omega⟩
    have eC : ∀ k18, lp_P_readGusts_18 N 146 N (0 : Int32) (put c1 3 5 0) k18 = gst N (nI 0) (fun x M => lp_P_readGusts_18 N 146 N' x M k18) (put c1 3 5 0) := fun k18 => by
      conv => lhs; arg 3; rw [hN']
      rfl
    unfold rS4
    rw [eC]
    rcases J_gst hN G1' Q1 (by omega) with ⟨-, c2, m2, s1, s2, G2, Q2, F2, Q2'⟩ | ⟨c2, m2, s1, s2, E2, B2', F2, Q2'⟩
    · have s1' := s1 (fun x M => lp_P_readGusts_18 N 146 N' x M (fun (a25 : Int32) (M24 : Mem) => bnd (f_X_takeSign N 146 (3 : Int32) M24) fun (x26 : Bool) (M27 : Mem) => some (x26, M27)))
      rw [s1', s2, bndM_s]
      rcases J_gl (N0 := N) (c1 := x7) (c2 := x9) (k18 := fun (a25 : Int32) (M24 : Mem) => bnd (f_X_takeSign N 146 (3 : Int32) M24) fun (x26 : Bool) (M27 : Mem) => some (x26, M27)) (k72 := fun (_ : Unit) (M27 : Mem) => bndM (f_M_expect N 147 (59 : Int32) M27) fun (M30 : Mem) => rS5 N M30) hN 15 1 N' N c2 m2 (by omega) (by omega) (by omega) (by omega) G2 Q2 with ⟨c3, m3, m', t1, t2, G3, Q3, h1, h16, F3, Q3'⟩ | ⟨c3, m3, t1, t2, E3, B3', F3, Q3'⟩
      · rw [show lp_P_readGusts_18 N 146 N' (nI (0 + 1)) c2 _ = _ from t1, t2]
        obtain ⟨r5, c5, m5, a5, b5, f5, g5, o5⟩ := J_sgn (rr := 146) (r2 := 147) (y := 59) (k := 3) hN G3 (Or.inl ⟨rfl, rfl⟩)
        rw [show f_X_takeSign N 146 (3 : Int32) c3 = some (r5, c5) from a5, show f_M_expect N 147 (59 : Int32) m3 = some m5 from b5, bnd_s, bndM_s]
        have F5 : FP Mc c5 := ((F1'.trans F2).trans F3).trans f5.p
        have Q5 : FQ Mr m5 := ((Q1'.trans Q2').trans Q3').trans g5.q
        rcases o5 with ⟨rfl, G5⟩ | ⟨rfl, E5, B5'⟩
        · exact Or.inl ⟨c5, m5, m', rfl, rfl, G5, Q3.kept f5 g5, h1, h16, F5, Q5⟩
        · exact Or.inr (EE.mk rfl E5 F5 Q5 (B5 hN B5'))
      · rw [show lp_P_readGusts_18 N 146 N' (nI (0 + 1)) c2 _ = _ from t1, t2]
        exact Or.inr (EE.mk rfl E3 ((F1'.trans F2).trans F3) ((Q1'.trans Q2').trans Q3') (B5e hN B3'))
    · have s1' := s1 (fun x M => lp_P_readGusts_18 N 146 N' x M (fun (a25 : Int32) (M24 : Mem) => bnd (f_X_takeSign N 146 (3 : Int32) M24) fun (x26 : Bool) (M27 : Mem) => some (x26, M27)))
      rw [s1', s2, bndM_s]
      refine Or.inr (EE.mk rfl E2 (F1'.trans F2) (Q1'.trans Q2') ?_)
      have : lp_M_readStation_72 N 147 x7 x9 N () m2 (fun (_ : Unit) (M27 : Mem) => bndM (f_M_expect N 147 (59 : Int32) M27) fun (M30 : Mem) => rS5 N M30) = bndM (f_M_expect N 147 (59 : Int32) m2) fun (M30 : Mem) => rS5 N M30 := by
        conv => lhs; arg 5; rw [hN']
        exact lp72_B B2'
      rw [this]
      exact B5e hN B2'
  · exact Or.inr (EE.mk (by rw [if_neg (by decide)]) E1 f1.p g1.q (B4 hN B1'))
/-- all has been read -/
def QE (Mc Mr : Mem) (a l e m i : Nat) : Prop := 1 ≤ m ∧ m ≤ 16 ∧ 1 ≤ i ∧ i ≤ 20 ∧ Mc 3 0 = nI a ∧ Mc 3 1 = nI l ∧ Mc 3 2 = nI e ∧ Mc 3 3 = nI i ∧ Mc 3 5 = nI m ∧ Mr 147 1 = nI a ∧ Mr 147 2 = nI l ∧ Mr 147 3 = nI e ∧ Mr 147 4 = nI i ∧ Mr 147 5 = nI m ∧ (∀ i, i < m → Mc 4 i = Mr 147 (21 + i) ∧ ∃ v, v ≤ 30 ∧ Mr 147 (21 + i) = nI v) ∧ ∀ j, j < 405 → (j = 0 ∨ (6 ≤ j ∧ j < 21) ∨ 37 ≤ j) → Mr 147 j = 0
theorem J_inter {N L a l e m : Nat} {b : Nat → Nat} {Mc Mr : Mem} (hN : 600 < N) (G : GD Mc Mr L b) (Q : QS Mc Mr a l e m) (hm1 : 1 ≤ m) (hm : m ≤ 16) : (∃ Mc' Mr' i, f_P_readInterval N 146 Mc = some (true, Mc') ∧ rS5 N Mr = rS7 Mr' ∧ GD Mc' Mr' L b ∧ QE Mc' Mr' a l e m i ∧ FP Mc Mc' ∧ FQ Mr Mr') ∨ EE Mc Mr (f_P_readInterval N 146 Mc) (rS5 N Mr) := by
  unfold f_P_readInterval rS5
  obtain ⟨r1, c1, m1, a1, b1, f1, g1, o1⟩ := J_wrd (rr := 146) (r2 := 147) (i := 3) hN (by omega) G (fun M6 => rS6 N M6)
  rw [a1, bnd_s, b1]
  rcases o1 with ⟨rfl, G1⟩ | ⟨rfl, E1, B1'⟩
  · rw [if_pos rfl]
    obtain ⟨r2, x2, c2, m2, a2, b2, l2, u2, ⟨f2, g2, o2⟩, t2⟩ := J_num2 (rr := 146) (r2 := 147) (lo := 1) (hi := 20) hN (by omega) (by omega) G1
    unfold rS6
    rw [show f_X_takeNumber N 146 (1 : Int32) (20 : Int32) c1 = some (r2, c2) from a2, show f_M_readNumber N 147 (1 : Int32) (20 : Int32) m1 = some (nI x2, m2) from b2, bnd_s, bnd_s, nm_eq]
    rcases o2 with ⟨rfl, G2⟩ | ⟨rfl, E2, B2'⟩
    · rw [if_pos rfl, nm_eq, t2 rfl]
      have G2' : GD (put c2 3 3 (nI x2)) (put m2 147 4 (nI x2)) L b := G2.keep (put_ne (by decide)) (put_ne (by decide)) (put_ne (by decide)) (put_ne (by decide))
      obtain ⟨r5, c5, m5, a5, b5, f5, g5, o5⟩ := J_sgn (rr := 146) (r2 := 147) (y := 59) (k := 3) hN G2' (Or.inl ⟨rfl, rfl⟩)
      rw [show f_X_takeSign N 146 (3 : Int32) (put c2 3 3 (nI x2)) = some (r5, c5) from a5, show f_M_expect N 147 (59 : Int32) (put m2 147 4 (nI x2)) = some m5 from b5, bnd_s, bndM_s]
      have F5 : FP Mc c5 := (((f1.trans f2).p).put (by omega)).trans f5.p
      have Q5 : FQ Mr m5 := (((g1.trans g2).q).put).trans g5.q
      rcases o5 with ⟨rfl, G5⟩ | ⟨rfl, E5, B5'⟩
      · refine Or.inl ⟨c5, m5, x2, rfl, rfl, G5, ?_, F5, Q5⟩
        obtain ⟨u1, u2', u3, u4, u5, u6, u7, u8, u9, u10⟩ := (Q.kept f1 g1).kept f2 g2
        unfold QE
        rw [f5.1 3 (by decide), f5.1 4 (by decide), g5.1 147 (by decide)]
        refine ⟨hm1, hm, l2, u2, ?_, ?_, ?_, ?_, ?_, ?_, ?_, ?_, ?_, ?_, fun i hi => ?_, fun j h0 hj => ?_⟩
        · rw [put_row, upd_at, if_neg (by decide)]; exact u1
        · rw [put_row, upd_at, if_neg (by decide)]; exact u2'
        · rw [put_row, upd_at, if_neg (by decide)]; exact u3
        · rw [put_row, upd_at, if_pos rfl]
        · rw [put_row, upd_at, if_neg (by decide)]; exact u7
        · rw [put_row, upd_at, if_neg (by decide)]; exact u4
        · rw [put_row, upd_at, if_neg (by decide)]; exact u5
        · rw [put_row, upd_at, if_neg (by decide)]; exact u6
        · rw [put_row, upd_at, if_pos rfl]
        · rw [put_row, upd_at, if_neg (by decide)]; exact u8
        · rw [put_ne (by decide), put_row, upd_at, if_neg (by omega)]; exact u9 i hi
        · rw [put_row, upd_at, if_neg (by omega)]; exact u10 j h0 (by omega) (by omega) (by omega) (by omega) (by omega)
      · exact Or.inr (EE.mk rfl E5 F5 Q5 ⟨m5, B7 B5', fun _ _ => rfl⟩)
    · refine Or.inr (EE.mk (by rw [if_neg (by decide)]) E2 ((f1.trans f2).p) ((g1.trans g2).q) ?_)
      rw [nm_eq, B_expect B2'.put, bndM_s, B7 B2'.put]
      exact ⟨_, rfl, fun q hq => put_ne hq⟩
  · exact Or.inr (EE.mk (by rw [if_neg (by decide)]) E1 f1.p g1.q (B6 hN B1'))
/-- the reference's own reading of a station, the row changed to and fro -/
def f_M_loadStation (N : Nat) (a1 : Int32) (M : Mem) : Option (Int32 × Mem) :=
  bnd (f_M_isLength a1 M) fun (x1 : Bool) (M2 : Mem) => bnd (f_M_lacks x1 M2) fun (x3 : Bool) (M4 : Mem) => if x3 = true then (some ((0 : Int32), M4)) else (bndM (f_M_startText N 146 a1 M4) fun (M6 : Mem) => bndM (f_M_readStation N 147 M6) fun (M8 : Mem) => bnd (f_M_isFaulty M8) fun (x9 : Bool) (M10 : Mem) => if x9 = true then (some ((-1 : Int32), M10)) else (bndM (f_M_copy 147 (0 : Int32) 146 (0 : Int32) M10) fun (M12 : Mem) => nm (put M12 145 7 (0 : Int32)) fun (M13 : Mem) => nm (put M13 145 11 (0 : Int32)) fun (M14 : Mem) => some (M14 146 5, M14)))
theorem J_read {N L : Nat} {b : Nat → Nat} {Mc Mr : Mem} (hN : 600 < N) (G : GD Mc Mr L b) : (∃ Mc' Mr' a l e m i, (bnd (f_P_readKite N 146 Mc) fun (x3 : Bool) (M4 : Mem) => if x3 = true then (bnd (f_P_readGusts N 146 M4) fun (x5 : Bool) (M6 : Mem) => if x5 = true then (bnd (f_P_readInterval N 146 M6) fun (x7 : Bool) (M8 : Mem) => if x7 = true then (bnd (f_X_takeSign N 146 (0 : Int32) M8) fun (x9 : Bool) (M10 : Mem) => if x9 = true then (some (true, M10)) else (some (false, M10))) else (some (false, M8))) else (some (false, M6))) else (some (false, M4))) = some (true, Mc') ∧ f_M_readStation N 147 Mr = some Mr' ∧ QE Mc' Mr' a l e m i ∧ Mc' 1 8 = 0 ∧ Mc' 1 9 = -1 ∧ Mr' 145 20 = 0 ∧ FP Mc Mc' ∧ FQ Mr Mr') ∨ EE Mc Mr (bnd (f_P_readKite N 146 Mc) fun (x3 : Bool) (M4 : Mem) => if x3 = true then (bnd (f_P_readGusts N 146 M4) fun (x5 : Bool) (M6 : Mem) => if x5 = true then (bnd (f_P_readInterval N 146 M6) fun (x7 : Bool) (M8 : Mem) => if x7 = true then (bnd (f_X_takeSign N 146 (0 : Int32) M8) fun (x9 : Bool) (M10 : Mem) => if x9 = true then (some (true, M10)) else (some (false, M10))) else (some (false, M8))) else (some (false, M6))) else (some (false, M4))) (f_M_readStation N 147 Mr) := by
  rcases J_kite hN G with ⟨c1, m1, a, l, e, s1, s2, G1, K1, F1, Q1⟩ | ⟨c1, m1, s1, s2, E1, F1, Q1⟩
  · rw [s1, s2, bnd_s, if_pos rfl]
    rcases J_gusts (x7 := nI a) (x9 := nI l) hN G1 K1 with ⟨c2, m2, m, t1, t2, G2, K2, hm1, hm2, F2, Q2⟩ | ⟨c2, m2, t1, t2, E2, F2, Q2⟩
    · rw [t1, t2, bnd_s, if_pos rfl]
      rcases J_inter hN G2 K2 hm1 hm2 with ⟨c3, m3, i, u1, u2, G3, K3, F3, Q3⟩ | ⟨c3, m3, u1, u2, E3, F3, Q3⟩
      · rw [u1, u2, bnd_s, if_pos rfl]
        have FF := (F1.trans F2).trans F3
        have QQ := (Q1.trans Q2).trans Q3
        obtain ⟨r, c4, v1, v2, -, f4, o4⟩ := J_end (rr := 146) hN G3
        rw [v1, bnd_s]
        unfold rS7
        rw [if_pos G3.2.2.1]
        rcases o4 with ⟨rfl, z8, z9⟩ | ⟨rfl, m4, z1, z2, z3, z4⟩
        · have h19 : m3 145 19 = 0 := of_decide_eq_true v2.symm
          rw [if_pos rfl, if_pos h19]
          refine Or.inl ⟨c4, m3, a, l, e, m, i, rfl, rfl, ?_, z8, z9, G3.2.2.1, FF.trans f4.p, QQ⟩
          unfold QE at K3 ⊢
          rw [f4.1 3 (by decide), f4.1 4 (by decide)]
          exact K3
        · have h19 : ¬ m3 145 19 = 0 := of_decide_eq_false v2.symm
          rw [if_neg (by decide), if_neg h19, z1, bndM_s]
          exact Or.inr ⟨c4, m4, rfl, rfl, z2, FF.trans f4.p, QQ.trans z4.q⟩
      · rw [u1, bnd_s, if_neg (by decide)]
        exact Or.inr ⟨c3, m3, rfl, u2, E3, (F1.trans F2).trans F3, (Q1.trans Q2).trans Q3⟩
    · rw [t1, bnd_s, if_neg (by decide)]
      exact Or.inr ⟨c2, m2, rfl, t2, E2, F1.trans F2, Q1.trans Q2⟩
  · rw [s1, bnd_s, if_neg (by decide)]
    exact Or.inr ⟨c1, m1, rfl, s2, E1, F1, Q1⟩
