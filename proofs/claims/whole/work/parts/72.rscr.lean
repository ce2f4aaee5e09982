/-! runScript, both sides -/
theorem j_runScript {N : Nat} {a : Int32} (hN : 700 < N) : JX [(0, 1)] (f_G_runScript N 146 a) (f_M_runScript N 146 a) := fun Mc Mr H => by
  obtain ⟨hst, hh, hsn, ⟨⟨f, hf, t1, t2, ht⟩, tx2, tx3⟩, hou, hz⟩ := id H
  unfold f_G_runScript f_M_runScript f_M_isLength
  rw [C_refuse t1, R_in, t2, bnd_s, bnd_s, R_lacks, bnd_s]
  cases ho : outB a 0 (nI f) with
  | true =>
    rw [if_pos rfl, bndX_inr, if_pos (by decide)]
    refine ⟨.inr 0, Mc, 0, put Mr 145 8 1, rfl, rfl, RR_thr H, Fr.rf, Fr.rf.put (by omega) (by omega), Or.inr ⟨0, rfl, ?_⟩⟩
    rw [put_row, upd_at, if_pos rfl]
    exact List.mem_cons_self
  | false =>
    obtain ⟨L, -, hL, rfl⟩ := outB_F (lo := 0) (hi := f) (by omega) (by omega) ho
    rw [if_neg (by decide), bndX_inl, if_neg (by decide)]
    unfold f_C_read
    simp only [nm_eq]
    generalize hM0 : put (put Mr 145 8 (if (!false) = true then (0 : Int32) else 1)) 145 26 0 = M0
    generalize hC0 : put (put Mc 5 4 0) 5 5 0 = C0
    have m8 : M0 145 8 = 0 := by rw [← hM0, put_row, upd_at, if_neg (by decide), put_row, upd_at, if_pos rfl]; rfl
    have m26 : M0 145 26 = 0 := by rw [← hM0, put_row, upd_at, if_pos rfl]
    have m145 : ∀ k, k ≠ 8 → k ≠ 26 → M0 145 k = Mr 145 k := fun k h1 h2 => by rw [← hM0, put_row, upd_at, if_neg h2, put_row, upd_at, if_neg h1]
    have mq : ∀ q, q ≠ 145 → M0 q = Mr q := fun q h1 => by rw [← hM0, put_ne h1, put_ne h1]
    have cq : ∀ q, q ≠ 5 → C0 q = Mc q := fun q h1 => by rw [← hC0, put_ne h1, put_ne h1]
    have c54 : C0 5 4 = 0 := by rw [← hC0, put_row, upd_at, if_neg (by decide), put_row, upd_at, if_pos rfl]
    have c55 : C0 5 5 = 0 := by rw [← hC0, put_row, upd_at, if_pos rfl]
    obtain ⟨Mc1, Mr1, b, e1, e2, G, c1, c2, r1, r2⟩ := J_beg (rr := 146) (r2 := 146) (N := N) (Mc := C0) (Mr := M0) (by omega) hf hL (by rw [mq 153 (by decide), cq 2 (by decide)]; exact ht)
    rw [e1, bndM_s, e2, bndM_s]
    rcases J_script (N := N) (a := nI L) (by omega) G (by rw [c1 5 (by decide)]; exact c54) (by rw [r2 26 (by omega)]; exact m26) with ⟨Mc2, Mr2, e, n, le, s1, s2, z8, z9, z20, k5, k26, FF, F', bl⟩ | ⟨Mc2, Mr2, s1, s2, ⟨ec, es, n1, n2, n3, n4, n5, n6⟩, FF, F'⟩
    · have c2' : ∀ q, (q = 0 ∨ q = 2 ∨ q = 3 ∨ q = 4 ∨ 10 ≤ q) → Mc2 q = Mc q := fun q hq => by rw [FF.1 q hq, c1 q (by omega), cq q (by omega)]
      have k55 : Mc2 5 5 = 0 := by rw [FF.2.2.1, c1 5 (by decide)]; exact c55
      have r2' : ∀ q, q ≠ 145 → q ≠ 154 → Mr2 q = Mr q := fun q h1 h2 => by rw [F'.1 q h1 h2, r1 q h1, mq q h1]
      have r2k : ∀ k, (k < 16 ∨ k = 22 ∨ 24 ≤ k) → k ≠ 26 → k ≠ 8 → Mr2 145 k = Mr 145 k := fun k h1 h2 h3 => by rw [F'.2.1 k (by omega) h2, r2 k h1, m145 k h3 h2]
      have r28 : Mr2 145 8 = 0 := by rw [F'.2.1 8 (by omega) (by decide), r2 8 (by omega)]; exact m8
      rw [s1, bnd_s, if_pos rfl, s2, R_finish, bnd_s, z20, if_pos rfl, if_neg (by decide)]
      generalize hC3 : put Mc2 1 1 0 = Mc3
      generalize hM3 : setR Mr2 145 (upd (upd (upd (Mr2 145) 15 0) 22 (-1)) 9 0) = Mr3
      have c3q : ∀ q, q ≠ 1 → Mc3 q = Mc2 q := fun q h => by rw [← hC3, put_ne h]
      have r3q : ∀ q, q ≠ 145 → Mr3 q = Mr2 q := fun q h => by rw [← hM3, setR_at, if_neg h]
      have r3k : ∀ k, k ≠ 9 → k ≠ 22 → k ≠ 15 → Mr3 145 k = Mr2 145 k := fun k h1 h2 h3 => by rw [← hM3, setR_self, upd_at, if_neg h1, upd_at, if_neg h2, upd_at, if_neg h3]
      have st3 : ST Mc3 Mr3 := ST_congr hst (fun q a b => by rw [c3q q (by omega), c2' q (by omega)]) (by rw [r3q 146 (by decide), r2' 146 (by decide) (by decide)])
      have hh3 : HH Mc3 Mr3 := HH_congr hh (fun q hq => by rw [c3q q (by omega), c2' q (by omega)]) (by rw [r3q 151 (by decide), r2' 151 (by decide) (by decide)]) (by rw [r3k 7 (by decide) (by decide) (by decide), r2k 7 (by omega) (by decide) (by decide)])
      have zs3 : ZS Mc3 := ZS_congr hz (fun p hp => by
          have := st_lt p hp
          rw [c3q (p + 5) (by omega), c2' (p + 5) (by omega), c3q (p + 9) (by omega), c2' (p + 9) (by omega)]
          exact ⟨rfl, rfl⟩)
      obtain ⟨r, kp, kr⟩ := R_keep (M := Mr3)
      have r149 : (setR Mr3 149 r) 149 = r := setR_self
      obtain ⟨Mc4, h', t', p1, p2, p3, p4, p5, p6⟩ := HH_push (N := N) (rr := 146) (Mr2 := setR Mr3 149 r) (by omega) hh3 st3 zs3 (by rw [setR_at, if_neg (by decide)]) (by rw [setR_at, if_neg (by decide)]) (by rw [r149]; exact kr)
      have t'k : ∀ k, k ≠ 7 → t' k = Mr3 145 k := fun k hk => by rw [p3 k hk, setR_at, if_neg (by decide)]
      have e4 : Mc4 5 4 = nI e := by rw [p6 5 (by omega), c3q 5 (by decide)]; exact k5
      have e5 : Mc4 5 5 = 0 := by rw [p6 5 (by omega), c3q 5 (by decide)]; exact k55
      rw [p1, bndM_s, kp, bndM_s, p2, bndM_s]
      generalize hM5 : put (setR (setR (setR Mr3 149 r) 151 h') 145 t') 145 27 0 = Mr5
      have r5q : ∀ q, q ≠ 145 → q ≠ 149 → q ≠ 151 → Mr5 q = Mr3 q := fun q h1 h2 h3 => by rw [← hM5, put_ne h1, setR_at, if_neg h1, setR_at, if_neg h3, setR_at, if_neg h2]
      have r5k : ∀ k, k ≠ 27 → Mr5 145 k = t' k := fun k h => by rw [← hM5, put_row, upd_at, if_neg h, setR_self]
      have r527 : Mr5 145 27 = 0 := by rw [← hM5, put_row, upd_at, if_pos rfl]
      have r5151 : Mr5 151 = h' := by rw [← hM5, put_ne (by decide), setR_at, if_neg (by decide), setR_self]
      have r526 : Mr5 145 26 = nI e := by rw [r5k 26 (by decide), t'k 26 (by decide), r3k 26 (by decide) (by decide) (by decide)]; exact k26
      have r146 : Mr5 146 = Mr3 146 := r5q 146 (by decide) (by decide) (by decide)
      have blx : BL Mc4 Mr5 2 n 0 e := bl.congr (fun i _ _ => by
        unfold EQe
        rw [p6 6 (by omega), p6 7 (by omega), p6 8 (by omega), p6 9 (by omega), c3q 6 (by decide), c3q 7 (by decide), c3q 8 (by decide), c3q 9 (by decide), r5q 154 (by decide) (by decide) (by decide), r3q 154 (by decide)]
        exact ⟨rfl, rfl, rfl, rfl, rfl, rfl, rfl⟩)
      have nle := blx.le
      obtain ⟨rb, Mc6, Mr6, u1, u2, u3, u4, u5⟩ := PX.all (N := N) (by omega) blx 0 N N 0 0 0 Mc4 Mr5 rfl le (by omega) (by omega) (by omega) ⟨fun _ _ _ => rfl, fun _ _ => rfl⟩ ⟨fun _ _ _ => rfl, fun _ _ _ => rfl⟩ ⟨by rw [r146]; exact SR_congr st3.1 (fun q a b => p6 q (by omega)), by rw [r146]; exact st3.2, by rw [e5, r527]⟩
      have v1 : f_C_runBlock N 146 4 10 (0 : Int32) (Mc4 5 4) (0 : Int32) Mc4 = some (rb, Mc6) := by
        show fs_C_runBlock N 146 (f_C_runBlock N 146 3) 10 (0 : Int32) (Mc4 5 4) (0 : Int32) Mc4 = _
        unfold fs_C_runBlock
        rw [if_neg (by decide), e4]
        exact u1
      have v2 : f_M_areDone N 146 4 (0 : Int32) (Mr5 145 26) Mr5 = some (rb, Mr6) := by
        rw [r526]
        exact u2
      rw [v1, bnd_s, v2, bnd_s]
      have f6 : ∀ q, q ≠ 1 → q ≠ 5 → (q < 6 ∨ q = 23 ∨ q = 25 ∨ 130 ≤ q) → Mc6 q = Mc q := fun q h1 h2 h3 => by rw [u3.1 q h2 (by omega), p6 q (by omega), c3q q h1, c2' q (by omega)]
      have f61 : Mc6 1 = Mc3 1 := by rw [u3.1 1 (by decide) (by omega), p6 1 (by omega)]
      have g6 : ∀ q, q ≠ 145 → q ≠ 146 → q ≠ 149 → q ≠ 151 → q ≠ 154 → Mr6 q = Mr q := fun q h1 h2 h3 h4 h5 => by rw [u4.1 q h1 h2, r5q q h1 h3 h4, r3q q h1, r2' q h1 h5]
      have g6k : ∀ k, k ≠ 10 → k ≠ 27 → k ≠ 7 → Mr6 145 k = Mr3 145 k := fun k h1 h2 h3 => by rw [u4.2 k h1 h2, r5k k h2, t'k k h3]
      have g6m : ∀ k, k ≠ 10 → k ≠ 27 → k ≠ 7 → k ≠ 9 → k ≠ 22 → k ≠ 15 → k ≠ 26 → k ≠ 8 → (k < 16 ∨ k = 22 ∨ 24 ≤ k) → Mr6 145 k = Mr 145 k := fun k h1 h2 h3 h4 h5 h6 h7 h8 h9 => by rw [g6k k h1 h2 h3, r3k k h4 h5 h6, r2k k h9 h7 h8]
      have zz : ZS Mc6 := by
        have z4 : ZS (setR Mc4 5 (Mc6 5)) := ZS_congr p5 (fun p hp => by
          have := st_lt p hp
          rw [setR_at, if_neg (by omega), setR_at, if_neg (by omega)]
          exact ⟨rfl, rfl⟩)
        refine ZS_copy (p := 10) (by decide) z4 u5.1 (fun q hq => ?_)
        by_cases c : q = 5
        · subst c; rw [setR_self]
        · rw [setR_at, if_neg c]; exact u3.1 q c hq
      refine ⟨_, Mc6, _, Mr6, rfl, rfl, ⟨⟨u5.1, u5.2.1⟩, p4 _ _ (fun q hq => u3.1 q (by omega) (by omega)) (by rw [u4.1 151 (by decide) (by decide)]; exact r5151) (by rw [u4.2 7 (by decide) (by decide), r5k 7 (by decide)]), SN_congr hsn (by rw [f6 0 (by decide) (by decide) (by omega)]) (fun q a b => f6 q (by omega) (by omega) (by omega)) (g6 150 (by decide) (by decide) (by decide) (by decide) (by decide)) (g6m 11 (by decide) (by decide) (by decide) (by decide) (by decide) (by decide) (by decide) (by decide) (by omega)), ⟨⟨0, by omega, ?_, ?_, fun k hk => absurd hk (Nat.not_lt_zero k)⟩, ?_, ?_⟩, OU_congr hou (by rw [f6 143 (by decide) (by decide) (by omega)]) (f6 144 (by decide) (by decide) (by omega)) (g6 152 (by decide) (by decide) (by decide) (by decide) (by decide)) (g6m 13 (by decide) (by decide) (by decide) (by decide) (by decide) (by decide) (by decide) (by decide) (by omega)), zz⟩, fun q hq => f6 q (by omega) (by omega) (by omega), fun q hq => g6 q (by omega) (by omega) (by omega) (by omega) (by omega), Or.inl ⟨by rw [u5.2.2], ?_⟩⟩
      · rw [f61, ← hC3, put_row, upd_at, if_pos rfl]; rfl
      · rw [g6k 15 (by decide) (by decide) (by decide), ← hM3, setR_self, upd_at, if_neg (by decide), upd_at, if_neg (by decide), upd_at, if_pos rfl]; rfl
      · rw [f61, ← hC3, put_row, upd_at, if_neg (by decide), z8, g6k 9 (by decide) (by decide) (by decide), ← hM3, setR_self, upd_at, if_pos rfl]
      · rw [f61, ← hC3, put_row, upd_at, if_neg (by decide), z9, g6k 22 (by decide) (by decide) (by decide), ← hM3, setR_self, upd_at, if_neg (by decide), upd_at, if_pos rfl]
      · rw [g6k 8 (by decide) (by decide) (by decide), r3k 8 (by decide) (by decide) (by decide)]; exact r28
    · have ne : ¬ Mr2 145 20 = 0 := by rw [n4]; exact nI_ne0 (by omega) (by omega)
      have c2' : ∀ q, (q = 0 ∨ q = 2 ∨ q = 3 ∨ q = 4 ∨ 10 ≤ q) → Mc2 q = Mc q := fun q hq => by rw [FF.1 q hq, c1 q (by omega), cq q (by omega)]
      have r2' : ∀ q, q ≠ 145 → q ≠ 154 → Mr2 q = Mr q := fun q h1 h2 => by rw [F'.1 q h1 h2, r1 q h1, mq q h1]
      have r2k : ∀ k, (k < 16 ∨ k = 22 ∨ 24 ≤ k) → k ≠ 26 → k ≠ 8 → Mr2 145 k = Mr 145 k := fun k h1 h2 h3 => by rw [F'.2.1 k (by omega) h2, r2 k h1, m145 k h3 h2]
      have r28 : Mr2 145 8 = 0 := by rw [F'.2.1 8 (by omega) (by decide), r2 8 (by omega)]; exact m8
      rw [s1, bnd_s, if_neg (by decide), s2, R_finish, bnd_s, decide_eq_false ne, if_neg ne, if_pos (show (!false) = true from rfl)]
      generalize hC : put Mc2 1 1 0 = Mc5
      generalize hR : setR Mr2 145 (upd (upd (upd (Mr2 145) 15 0) 22 (Mr2 145 21)) 9 (Mr2 145 20)) = Mr5
      have ff : ∀ q, (q = 0 ∨ q = 2 ∨ q = 3 ∨ q = 4 ∨ 10 ≤ q) → Mc5 q = Mc q := fun q a => by rw [← hC, put_ne (by omega)]; exact c2' q a
      have g : ∀ q, q ≠ 145 → q ≠ 154 → Mr5 q = Mr q := fun q a b => by rw [← hR, setR_at, if_neg a]; exact r2' q a b
      have hk : ∀ k, k ≠ 9 → k ≠ 22 → k ≠ 15 → Mr5 145 k = Mr2 145 k := fun k h1 h2 h3 => by rw [← hR, setR_self, upd_at, if_neg h1, upd_at, if_neg h2, upd_at, if_neg h3]
      refine ⟨_, Mc5, _, Mr5, rfl, rfl, ⟨ST_congr hst (fun q a b => ff q (by omega)) (g 146 (by omega) (by omega)), HH_congr hh (fun q hq => ff q (by omega)) (g 151 (by omega) (by omega)) (by rw [hk 7 (by decide) (by decide) (by decide), r2k 7 (by omega) (by decide) (by decide)]), SN_congr hsn (by rw [ff 0 (by omega)]) (fun q a b => ff q (by omega)) (g 150 (by omega) (by omega)) (by rw [hk 11 (by decide) (by decide) (by decide), r2k 11 (by omega) (by decide) (by decide)]), ⟨⟨0, by omega, ?_, ?_, fun k hk => absurd hk (Nat.not_lt_zero k)⟩, ?_, ?_⟩, OU_congr hou (by rw [ff 143 (by omega)]) (ff 144 (by omega)) (g 152 (by omega) (by omega)) (by rw [hk 13 (by decide) (by decide) (by decide), r2k 13 (by omega) (by decide) (by decide)]), ZS_congr hz (fun p hp => by
          have := st_lt p hp
          rw [ff (p + 5) (by omega), ff (p + 9) (by omega)]
          exact ⟨rfl, rfl⟩)⟩, fun q hq => by rw [ff q (by omega)], fun q hq => by rw [g q (by omega) (by omega)], Or.inl ⟨rfl, ?_⟩⟩
      · rw [← hC, put_row, upd_at, if_pos rfl]; rfl
      · rw [← hR, setR_self, upd_at, if_neg (by decide), upd_at, if_neg (by decide), upd_at, if_pos rfl]; rfl
      · rw [← hC, put_row, upd_at, if_neg (by decide), ← hR, setR_self, upd_at, if_pos rfl, n3]; exact n4.symm
      · rw [← hC, put_row, upd_at, if_neg (by decide), ← hR, setR_self, upd_at, if_neg (by decide), upd_at, if_pos rfl, n5]; exact n6.symm
      · rw [hk 8 (by decide) (by decide) (by decide)]; exact r28
