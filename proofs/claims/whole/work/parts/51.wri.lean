/-! writeLogger, outputByte -/
theorem J_smpW {N i c l t h v : Nat} {T H G : Nat → Int32} {Mc Mr : Mem} (hN : 6 < N) (hc : c ≤ 30) (hi : i < c) (L : LRg 30 c T H G (Mc 15) (Mc 16) (Mc 17) (Mc 18)) (e1 : T i = nI t) (e2 : H i = nI h) (e3 : G i = nI v) (g1 : Mr 146 (45 + 3 * i) = nI t) (g2 : Mr 146 (45 + 3 * i + 1) = nI h) (g3 : Mr 146 (45 + 3 * i + 2) = nI v) (ht : t ≤ 9999) (hh : h ≤ 600) (hv : v ≤ 36) (hl : l + 11 ≤ 360) (ho : OUl Mc Mr l) : ∃ Mc' Mr' l', (∀ K : Mem → Option (Int32 × Mem), (bnd (f_S_tickAt 15 (nI i) Mc) fun (x21 : Int32) (M22 : Mem) => bndM (f_O_addNumber N 146 x21 M22) fun (M24 : Mem) => bndM (f_O_addSign (64 : Int32) M24) fun (M26 : Mem) => bnd (f_S_heightAt 15 (nI i) M26) fun (x27 : Int32) (M28 : Mem) => bndM (f_O_addNumber N 146 x27 M28) fun (M30 : Mem) => bndM (f_O_addSign (44 : Int32) M30) fun (M32 : Mem) => bnd (f_S_gustAt 15 (nI i) M32) fun (x33 : Int32) (M34 : Mem) => bndM (f_O_addNumber N 146 x33 M34) fun (M36 : Mem) => K M36) = K Mc') ∧ (∀ K : Mem → Option (Int32 × Mem), (grd (inB (nI (45 + 3 * i) + (0 : Int32)) 405) (bndM (f_M_writeNumber N 146 (Mr 146 (nI (45 + 3 * i) + (0 : Int32)).toNatClampNeg) Mr) fun (M18 : Mem) => bndM (f_M_write (64 : Int32) M18) fun (M20 : Mem) => grd (inB (nI (45 + 3 * i) + (1 : Int32)) 405) (bndM (f_M_writeNumber N 146 (M20 146 (nI (45 + 3 * i) + (1 : Int32)).toNatClampNeg) M20) fun (M22 : Mem) => bndM (f_M_write (44 : Int32) M22) fun (M24 : Mem) => grd (inB (nI (45 + 3 * i) + (2 : Int32)) 405) (bndM (f_M_writeNumber N 146 (M24 146 (nI (45 + 3 * i) + (2 : Int32)).toNatClampNeg) M24) fun (M26 : Mem) => K M26)))) = K Mr') ∧ OUl Mc' Mr' l' ∧ l' ≤ l + 11 ∧ OF Mc Mc' Mr Mr' := by
  have LL : ∀ Mc' Mr', OF Mc Mc' Mr Mr' → LRg 30 c T H G (Mc' 15) (Mc' 16) (Mc' 17) (Mc' 18) := fun Mc' Mr' o => by
    rw [o.1 15 (by decide) (by decide), o.1 16 (by decide) (by decide), o.1 17 (by decide) (by decide), o.1 18 (by decide) (by decide)]
    exact L
  have at1 : ∀ Mc' Mr', OF Mc Mc' Mr Mr' → f_S_tickAt 15 (nI i) Mc' = some (nI t, Mc') ∧ f_S_heightAt 15 (nI i) Mc' = some (nI h, Mc') ∧ f_S_gustAt 15 (nI i) Mc' = some (nI v, Mc') := fun Mc' Mr' o => by
    have := C_tickAt (p := 15) (k := i) (by omega) (by omega) hc hi z15 (LL Mc' Mr' o)
    rw [e1, e2, e3] at this
    exact this
  obtain ⟨c1, r1, l1, a1, b1, o1, s1, f1⟩ := J_num (N := N) (m := 4) hN (show t < 10000 by omega) dgs_len.1 (by omega) ho
  obtain ⟨c2, r2, a2, b2, o2, f2⟩ := J_sign (s := 64) (by omega) (by omega) o1
  have F2 := f1.trans f2
  obtain ⟨c3, r3, l3, a3, b3, o3, s3, f3⟩ := J_num (N := N) (m := 3) hN (show h < 10000 by omega) (dgs_len.2.1 (by omega)) (by omega) o2
  have F3 := F2.trans f3
  obtain ⟨c4, r4, a4, b4, o4, f4⟩ := J_sign (s := 44) (by omega) (by omega) o3
  have F4 := F3.trans f4
  obtain ⟨c5, r5, l5, a5, b5, o5, s5, f5⟩ := J_num (N := N) (m := 2) hN (show v < 10000 by omega) (dgs_len.2.2 (by omega)) (by omega) o4
  refine ⟨c5, r5, l5, fun K => ?_, fun K => ?_, o5, by omega, F4.trans f5⟩
  · rw [(at1 Mc Mr OF.rf).1, bnd_s, a1, bndM_s, show (64 : Int32) = nI 64 from rfl, a2, bndM_s, (at1 c2 r2 F2).2.1, bnd_s, a3, bndM_s, show (44 : Int32) = nI 44 from rfl, a4, bndM_s, (at1 c4 r4 F4).2.2, bnd_s, a5, bndM_s]
  · have m2 : r2 146 = Mr 146 := F2.2.1 146 (by decide) (by decide)
    have m4 : r4 146 = Mr 146 := F4.2.1 146 (by decide) (by decide)
    rw [q00, nI_1, q02, grd_of (inB_nI (by omega) (by omega)), nI_clamp (by omega), g1, b1, bndM_s, show (64 : Int32) = nI 64 from rfl, b2, bndM_s, grd_of (inB_nI (by omega) (by omega)), nI_clamp (by omega), m2, g2, b3, bndM_s, show (44 : Int32) = nI 44 from rfl, b4, bndM_s, grd_of (inB_nI (by omega) (by omega)), nI_clamp (by omega), m4, g3, b5, bndM_s]
theorem J_wr {N0 c : Nat} {g : Row} (hN0 : 6 < N0) (W : Ws 30 45 17 g) (ec : g 17 = nI c) (hc : c ≤ 30) : ∀ (d i N N' : Nat) (Mc Mr : Mem) (l : Nat), i + d = c → d < N → d < N' → LRg 30 c (fun k => g (45 + 3 * k)) (fun k => g (45 + 3 * k + 1)) (fun k => g (45 + 3 * k + 2)) (Mc 15) (Mc 16) (Mc 17) (Mc 18) → Mr 146 = g → OUl Mc Mr l → l + 12 * d ≤ 360 → ∃ Mc' Mr' l', lp_O_writeSamples_7 N0 146 15 N (nI i) Mc (fun (a39 : Int32) (M38 : Mem) => some (M38 143 1, M38)) = some (nI l', Mc') ∧ lp_M_writeLogger_12 N0 146 N' (nI i) Mr (fun (a29 : Int32) (M28 : Mem) => some (M28 145 13, M28)) = some (nI l', Mr') ∧ OUl Mc' Mr' l' ∧ l' ≤ 360 ∧ OF Mc Mc' Mr Mr' := by
  have hv : ∀ k, k < c → (∃ t, t ≤ 9999 ∧ g (45 + 3 * k) = nI t) ∧ (∃ h, h ≤ 600 ∧ g (45 + 3 * k + 1) = nI h) ∧ (∃ v, v ≤ 36 ∧ g (45 + 3 * k + 2) = nI v) := by
    obtain ⟨c', h1, h2, h3⟩ := W
    obtain rfl : c' = c := (nI_eq (by omega) (by omega)).mp (h2.symm.trans ec)
    exact h3
  intro d
  induction d with
  | zero =>
    intro i N N' Mc Mr l hi hN hN' L hg ho hl
    obtain ⟨N, rfl⟩ : ∃ n, N = n + 1 := ⟨N - 1, by omega⟩
    obtain ⟨N', rfl⟩ : ∃ n, N' = n + 1 := ⟨N' - 1, by omega⟩
    have h5 : Mc 15 5 = nI c := by obtain ⟨o, -, -, -, q, -⟩ := L; exact q
    unfold lp_O_writeSamples_7 lp_M_writeLogger_12
    rw [h5, hg, ec, if_neg (nI_nlt (by omega) (by omega)), if_neg (nI_nlt (by omega) (by omega))]
    dsimp only
    rw [ho.1, ho.2.1]
    exact ⟨Mc, Mr, l, rfl, rfl, ho, by omega, OF.rf⟩
  | succ d ih =>
    intro i N N' Mc Mr l hi hN hN' L hg ho hl
    obtain ⟨N, rfl⟩ : ∃ n, N = n + 1 := ⟨N - 1, by omega⟩
    obtain ⟨N', rfl⟩ : ∃ n, N' = n + 1 := ⟨N' - 1, by omega⟩
    have h5 : Mc 15 5 = nI c := by obtain ⟨o, -, -, -, q, -⟩ := L; exact q
    obtain ⟨⟨t, ht, e1⟩, ⟨h, hh, e2⟩, ⟨v, hv', e3⟩⟩ := hv i (by omega)
    have next : ∀ Mc1 Mr1 l1, l1 ≤ l + 12 → OUl Mc1 Mr1 l1 → OF Mc Mc1 Mr Mr1 → ∃ Mc' Mr' l', lp_O_writeSamples_7 N0 146 15 N (nI (i + 1)) Mc1 (fun (a39 : Int32) (M38 : Mem) => some (M38 143 1, M38)) = some (nI l', Mc') ∧ lp_M_writeLogger_12 N0 146 N' (nI (i + 1)) Mr1 (fun (a29 : Int32) (M28 : Mem) => some (M28 145 13, M28)) = some (nI l', Mr') ∧ OUl Mc' Mr' l' ∧ l' ≤ 360 ∧ OF Mc Mc' Mr Mr' := fun Mc1 Mr1 l1 hl1 ho1 hf1 => by
      obtain ⟨Mc', Mr', l', q1, q2, q3, q4, q5⟩ := ih (i + 1) N N' Mc1 Mr1 l1 (by omega) (by omega) (by omega) (by
        rw [hf1.1 15 (by decide) (by decide), hf1.1 16 (by decide) (by decide), hf1.1 17 (by decide) (by decide), hf1.1 18 (by decide) (by decide)]
        exact L) ((hf1.2.1 146 (by decide) (by decide)).trans hg) ho1 (by omega)
      exact ⟨Mc', Mr', l', q1, q2, q3, q4, hf1.trans q5⟩
    unfold lp_O_writeSamples_7 lp_M_writeLogger_12
    have gg := hg
    rw [h5, hg, ec, if_pos (nI_lt (by omega) (by omega)), if_pos (nI_lt (by omega) (by omega)), q3, q45, nm_eq]
    subst hg
    by_cases i0 : 0 < i
    · obtain ⟨c1, r1, a1, b1, o1, f1⟩ := J_sign (s := 32) (by omega) (by omega) ho
      have g1 : r1 146 = Mr 146 := f1.2.1 146 (by decide) (by decide)
      obtain ⟨c2, r2, l2, a2, b2, o2, s2, f2⟩ := J_smpW (N := N0) (i := i) (t := t) (h := h) (v := v) (Mc := c1) (Mr := r1) (l := l + 1) hN0 hc (by omega) (by
        rw [f1.1 15 (by decide) (by decide), f1.1 16 (by decide) (by decide), f1.1 17 (by decide) (by decide), f1.1 18 (by decide) (by decide)]
        exact L) e1 e2 e3 (by rw [g1]; exact e1) (by rw [g1]; exact e2) (by rw [g1]; exact e3) ht hh hv' (by omega) o1
      obtain ⟨Mc', Mr', l', q1, q2, q3, q4, q5⟩ := next c2 r2 l2 (by omega) o2 (f1.trans f2)
      refine ⟨Mc', Mr', l', ?_, ?_, q3, q4, q5⟩
      · rw [if_pos (by rw [← nI_0]; exact nI_lt i0 (by omega)), show (32 : Int32) = nI 32 from rfl, a1, bndM_s, a2, nm_eq, nI_1]
        exact q1
      · rw [if_pos (by rw [← nI_0]; exact nI_lt i0 (by omega)), show (32 : Int32) = nI 32 from rfl, b1, bndM_s, b2, nm_eq, nI_1]
        exact q2
    · obtain rfl : i = 0 := by omega
      obtain ⟨c2, r2, l2, a2, b2, o2, s2, f2⟩ := J_smpW (N := N0) (i := 0) (t := t) (h := h) (v := v) (Mc := Mc) (Mr := Mr) (l := l) hN0 hc (by omega) L e1 e2 e3 e1 e2 e3 ht hh hv' (by omega) ho
      obtain ⟨Mc', Mr', l', q1, q2, q3, q4, q5⟩ := next c2 r2 l2 (by omega) o2 f2
      refine ⟨Mc', Mr', l', ?_, ?_, q3, q4, q5⟩
      · rw [if_neg (by decide), a2, nm_eq, nI_1]
        exact q1
      · rw [if_neg (by decide), b2, nm_eq, nI_1]
        exact q2
theorem RR_out {Mc Mr Mc' Mr' : Mem} {l : Nat} (h : RR Mc Mr) (o : OF Mc Mc' Mr Mr') (hl : l ≤ 360) (ho : OUl Mc' Mr' l) : RR Mc' Mr' := by
  obtain ⟨a, b, c, d, f, g⟩ := h
  refine ⟨ST_congr a (fun q q1 q2 => o.1 q (by omega) (by omega)) (o.2.1 _ (by decide) (by decide)), HH_congr b (fun q hq => o.1 q (by omega) (by omega)) (o.2.1 _ (by decide) (by decide)) (o.2.2 _ (by decide)), SN_congr c (by rw [o.1 0 (by decide) (by decide)]) (fun q q1 q2 => o.1 q (by omega) (by omega)) (o.2.1 _ (by decide) (by decide)) (o.2.2 _ (by decide)), TX_congr d (o.1 _ (by decide) (by decide)) (o.1 _ (by decide) (by decide)) (o.2.1 _ (by decide) (by decide)) (fun k hk => o.2.2 k (by omega)), ⟨l, hl, ho⟩, ZS_congr g (fun p hp => ?_)⟩
  have := st_lt p hp
  rw [o.1 (p + 5) (by omega) (by omega), o.1 (p + 9) (by omega) (by omega)]
  exact ⟨rfl, rfl⟩
theorem j_writeLogger {N : Nat} (hN : 60 < N) : JA (f_G_writeLogger N 146) (f_M_writeLogger N 146) := fun Mc Mr H => by
  obtain ⟨c, d, hc, hd, ec, ed⟩ := Wl_two H.w
  have hl := H.l
  rw [LR_g (c := c) (by omega) ec] at hl
  have p146 : (put (put Mr 145 8 0) 145 13 0) 146 = Mr 146 := by rw [put_ne (by decide), put_ne (by decide)]
  obtain ⟨Mc', Mr', l', q1, q2, q3, q4, q5⟩ := J_wr (N0 := N) (by omega) H.w.2.2.2.1 ec hc c 0 N N (put Mc 143 1 0) (put (put Mr 145 8 0) 145 13 0) 0 (by omega) (by omega) (by omega) (by
    rw [put_ne (by decide), put_ne (by decide), put_ne (by decide), put_ne (by decide)]
    exact hl) p146 ⟨by rw [put_row, upd_at, if_pos rfl]; rfl, by rw [put_row, upd_at, if_pos rfl]; rfl, fun k hk => absurd hk (Nat.not_lt_zero k)⟩ (by omega)
  have H2 : RR (put Mc 143 1 0) (put (put Mr 145 8 0) 145 13 0) := by
    obtain ⟨a, b, c, d, f, g⟩ := H
    refine ⟨ST_congr a (fun q q1 q2 => put_ne (by omega)) p146, HH_congr b (fun q hq => put_ne (by omega)) (by rw [put_ne (by decide), put_ne (by decide)]) (by rw [put_row, upd_at, if_neg (by decide), put_row, upd_at, if_neg (by decide)]), SN_congr c (by rw [put_ne (by decide)]) (fun q q1 q2 => put_ne (by omega)) (by rw [put_ne (by decide), put_ne (by decide)]) (by rw [put_row, upd_at, if_neg (by decide), put_row, upd_at, if_neg (by decide)]), TX_congr d (put_ne (by decide)) (put_ne (by decide)) (by rw [put_ne (by decide), put_ne (by decide)]) (fun k hk => by rw [put_row, upd_at, if_neg (by omega), put_row, upd_at, if_neg (by omega)]), ⟨0, by omega, by rw [put_row, upd_at, if_pos rfl]; rfl, by rw [put_row, upd_at, if_pos rfl]; rfl, fun k hk => absurd hk (Nat.not_lt_zero k)⟩, ZS_congr g (fun p hp => ?_)⟩
    have := st_lt p hp
    rw [put_ne (by omega), put_ne (by omega)]
    exact ⟨rfl, rfl⟩
  refine ⟨nI l', Mc', Mr', ?_, ?_, RR_out H2 q5 q4 q3, fun q hq => by rw [q5.1 q (by omega) (by omega), put_ne (by omega)], fun q hq => by rw [q5.2.1 q (by omega) (by omega), put_ne (by omega), put_ne (by omega)]⟩
  · unfold f_G_writeLogger f_O_writeSamples
    rw [nm_eq]
    have q1' : lp_O_writeSamples_7 N 146 15 N (0 : Int32) (put Mc 143 1 0) (fun (a39 : Int32) (M38 : Mem) => some (M38 143 1, M38)) = some (nI l', Mc') := q1
    rw [q1', bnd_s]
  · unfold f_M_writeLogger
    rw [nm_eq, nm_eq]
    exact q2
theorem j_outputByte {a : Int32} : JX [(2, 1)] (f_G_outputByte a) (f_M_outputByte a) := fun Mc Mr H => by
  obtain ⟨l, hl, h1, h2, h3⟩ := H.2.2.2.2.1
  unfold f_G_outputByte f_M_outputByte
  rw [h1, h2, R_in, bnd_s, R_lacks, bnd_s]
  have bad : outB a 0 (nI l - 1) = true → ∃ rm Mr', some ((0 : Int32), put Mr 145 8 1) = some (rm, Mr') ∧ RR Mc Mr' ∧ Fr 0 145 Mc Mc ∧ Fr 145 156 Mr Mr' ∧ (((Sum.inr 2 : Sum Int32 Nat) = .inl rm ∧ Mr' 145 8 = 0) ∨ ∃ e, (Sum.inr 2 : Sum Int32 Nat) = .inr e ∧ (e, Mr' 145 8) ∈ [((2 : Nat), (1 : Int32))]) := fun _ => by
    refine ⟨0, put Mr 145 8 1, rfl, RR_thr H, Fr.rf, Fr.rf.put (by omega) (by omega), Or.inr ⟨2, rfl, ?_⟩⟩
    rw [put_row, upd_at, if_pos rfl]
    exact List.mem_cons_self
  rcases pk_ix a (n := l) (by omega) with q | q | ⟨j, hj, rfl⟩
  · have hb : outB a 0 (nI l - 1) = true := by unfold outB; rw [decide_eq_true q]; rfl
    rw [if_pos q, hb]
    exact ⟨_, _, by obtain ⟨rm, Mr', z⟩ := bad hb; exact ⟨rm, Mr', rfl, z⟩⟩
  · have hp : ¬ a < 0 := Int32.not_lt.mpr (Int32.le_trans (nI_pos' (by omega)) q)
    have hb : outB a 0 (nI l - 1) = true := by
      unfold outB
      rw [decide_eq_false hp, Bool.false_or]
      refine decide_eq_true ?_
      obtain ⟨j, hj, rfl⟩ := nI_of hp
      have hcj := (nI_leI (by omega) hj).mp q
      rcases Nat.eq_zero_or_pos l with rfl | q2
      · exact Int32.lt_of_lt_of_le (show nI 0 - 1 < 0 by decide) (nI_pos' hj)
      · rw [show nI l - (1 : Int32) = nI (l - 1) from pk_sub (b := 1) (by omega)]
        exact nI_lt (by omega) hj
    rw [if_neg hp, if_neg (Int32.not_lt.mpr q), hb]
    exact ⟨_, _, by obtain ⟨rm, Mr', z⟩ := bad hb; exact ⟨rm, Mr', rfl, z⟩⟩
  · rw [show nI l - (1 : Int32) = nI (l - 1) from pk_sub (b := 1) (by omega)]
    have : outB (nI j) 0 (nI (l - 1)) = false := outB_T (lo := 0) (by omega) (by omega) (by omega) (by omega)
    rw [this, if_neg (nI_pos (by omega)), if_pos (nI_lt hj (by omega))]
    unfold f_O_at
    rw [if_neg (nI_pos (by omega)), if_pos (by show nI j < nI 360; exact nI_lt (by omega) (by omega)), grd_of (inB_nI (by omega) (by omega)), nI_clamp (by omega), bnd_s]
    rw [if_neg (by decide), grd_of (inB_nI (by omega) (by omega)), put_ne (by decide), h3 j hj]
    exact ⟨_, _, _, _, rfl, rfl, RR_thr H, Fr.rf, Fr.rf.put (by omega) (by omega), Or.inl ⟨rfl, by rw [put_row, upd_at, if_pos rfl]; rfl⟩⟩
