/-! the class's station: a tick, many ticks -/
theorem SR10 {M : Mem} {g : Row} : SR M 10 g ↔ (M 10 2 = g 5 ∧ M 10 6 = g 4 ∧ M 10 7 = g 0 ∧ M 10 8 = g 19 ∧ KR (M 11) g ∧ (∀ k, k < cn (g 5) → M 12 k = g (21 + k)) ∧ BR (M 13) (M 14) g ∧ LR 30 45 17 (M 15) (M 16) (M 17) (M 18) g ∧ M 15 6 = g 20 ∧ LR 90 135 18 (M 19) (M 20) (M 21) (M 22) g) := Iff.rfl
theorem LR_ext {n a i : Nat} {s ta ha ga g g' : Row} (H : LR n a i s ta ha ga g) (h : g' i = g i) (h2 : ∀ j, a ≤ j → g' j = g j) : LR n a i s ta ha ga g' := by
  obtain ⟨o, ho, h0, h4, h5, hv⟩ := H
  refine ⟨o, ho, h0, h4, by rw [h]; exact h5, fun k hk => ?_⟩
  rw [h] at hk
  rw [h2 _ (by omega), h2 _ (by omega), h2 _ (by omega)]
  exact hv k hk
theorem BR_ext {κ a g g' : Row} (H : BR κ a g) (h : g' 16 = g 16) (h2 : ∀ k, g' (37 + k) = g (37 + k)) : BR κ a g' := by
  obtain ⟨o, ho, e1, e2, hv⟩ := H
  refine ⟨o, ho, e1, by rw [h]; exact e2, fun k hk => ?_⟩
  rw [h] at hk
  rw [h2 k]
  exact hv k hk
theorem SR_inc0 {M : Mem} {g : Row} (h : SR M 10 g) : SR (put M 10 7 (M 10 7 + 1)) 10 (inc g 0) := by
  rw [SR10] at h ⊢
  obtain ⟨r2, r6, r7, r8, rk, rg, rb, rl, r20, ra⟩ := h
  have o : ∀ j, j ≠ 0 → inc g 0 j = g j := fun j h1 => by rw [inc_at, if_neg h1]
  have p : ∀ q, q ≠ 10 → put M 10 7 (M 10 7 + 1) q = M q := fun q hq => put_ne hq
  rw [p 11 (by decide), p 12 (by decide), p 13 (by decide), p 14 (by decide), p 15 (by decide), p 16 (by decide), p 17 (by decide), p 18 (by decide), p 19 (by decide), p 20 (by decide), p 21 (by decide), p 22 (by decide), put_row, upd_at, upd_at, upd_at, upd_at, if_neg (by decide), if_neg (by decide), if_pos rfl, if_neg (by decide), o 5 (by decide), o 4 (by decide), o 19 (by decide), o 20 (by decide)]
  exact ⟨r2, r6, by rw [r7]; rfl, r8, KR_congr rk (fun j hj => o j (by omega)), fun k hk => by rw [o _ (by omega)]; exact rg k hk, BR_ext rb (o _ (by omega)) (fun k => o _ (by omega)), LR_ext rl (o _ (by omega)) (fun j hj => o j (by omega)), r20, LR_ext ra (o _ (by omega)) (fun j hj => o j (by omega))⟩
theorem SR_fly {M : Mem} {g : Row} (W : WF g) (h : SR M 10 g) (c1 : g 6 = 1) : ∃ κb ab κ : Row, f_B_add 13 (s_wind g (g 7)) M = some (setR (setR M 14 ab) 13 κb) ∧ f_K_passTick 11 (s_gust g (g 0)) (setR (setR M 14 ab) 13 κb) = some (setR (setR (setR M 14 ab) 13 κb) 11 κ) ∧ SR (setR (setR (setR M 14 ab) 13 κb) 11 κ) 10 (s_f3 (s_wind g (g 7)) g) := by
  rw [SR10] at h
  obtain ⟨r2, r6, r7, r8, rk, rg, rb, rl, r20, ra⟩ := h
  obtain ⟨Wg0, Wk0, Wb0, Wl0, Wa0⟩ := id W
  obtain ⟨κb, ab, b1, b2⟩ := C_Badd (w := s_wind g (g 7)) Wb0 rb
  obtain ⟨κ, k1, k2⟩ := C_Kpass (M := setR (setR M 14 ab) 13 κb) (p := 11) W (by rw [setR_at, if_neg (by decide), setR_at, if_neg (by decide)]; exact rk)
  refine ⟨κb, ab, κ, b1, k1, ?_⟩
  have o : ∀ j, _ → _ → _ → s_f3 (s_wind g (g 7)) g j = g j := fun j a b c => s_f3_out (j := j) (w := s_wind g (g 7)) Wb0 a b c
  have hl : Ws 30 45 17 (s_f3 (s_wind g (g 7)) g) := Ws_congr Wl0 (o _ (by omega) (by omega) (by omega)) (fun j h1 h2 => o _ (by omega) (by omega) (by omega))
  have ks : KR κ (s_f3 (s_wind g (g 7)) g) := by
    have e : s_tk g = s_try (s_f3 (s_wind g (g 7)) g) := by
      unfold s_tk
      rw [if_neg (by rw [c1]; decide), if_pos c1]
      rfl
    rw [e] at k2
    exact KR_congr k2 (fun j hj => (s_try_out hl (by omega) (by omega)).symm)
  have ob : ∀ j, (j = 16 ∨ (37 ≤ j ∧ j < 45)) → s_f3 (s_wind g (g 7)) g j = s_buf (s_wind g (g 7)) g j := fun j hj => by
    rw [s_f3_b hj]
    show s_buf (s_wind g (g 7)) (inc g 12) j = _
    rw [s_buf_inc Wb0, inc_at, if_neg (by omega)]
  generalize hg3 : s_f3 (s_wind g (g 7)) g = g3 at *
  rw [SR10]
  simp only [setR_at, Nat.reduceEqDiff, reduceIte]
  refine ⟨by rw [o _ (by omega) (by omega) (by omega)]; exact r2, by rw [o _ (by omega) (by omega) (by omega)]; exact r6, by rw [o _ (by omega) (by omega) (by omega)]; exact r7, by rw [o _ (by omega) (by omega) (by omega)]; exact r8, ks, fun k hk => ?_, BR_congr (s_buf_W Wb0 (Wg_wind Wg0 Wk0.2.1)) b2 (ob _ (by omega)) (fun k hk => ob _ (by omega)), LR_congr (by omega) Wl0 rl (o _ (by omega) (by omega) (by omega)) (fun j h1 h2 => o _ (by omega) (by omega) (by omega)), by rw [o _ (by omega) (by omega) (by omega)]; exact r20, LR_congr (by omega) Wa0 ra (o _ (by omega) (by omega) (by omega)) (fun j h1 h2 => o _ (by omega) (by omega) (by omega))⟩
  rw [o _ (by omega) (by omega) (by omega)] at hk
  obtain ⟨-, ⟨n, n1, n2, e5, -⟩, -⟩ := Wg0
  have hk2 := hk
  rw [e5, cn_nI (by omega)] at hk2
  rw [o _ (by omega) (by omega) (by omega)]
  exact rg k hk
theorem SR_sample {N rr : Nat} {M : Mem} {g : Row} (hN : 8 < N) (W5 : ∃ n, 1 ≤ n ∧ n ≤ 16 ∧ g 5 = nI n) (Wb0 : Wb g) (Wl0 : Ws 30 45 17 g) (Wa0 : Ws 90 135 18 g) (h : SR M 10 g) : ∃ M12 : Mem, f_B_greatest N rr 13 M = some (s_great g, M) ∧ f_S_add 15 (M 10 7) (M 11 1) (s_great g) M = some M12 ∧ SR (put M12 10 8 (M12 10 8 + 1)) 10 (s_sample g) ∧ Fr 10 23 M M12 := by
  rw [SR10] at h
  obtain ⟨r2, r6, r7, r8, rk, rg, rb, rl, r20, ra⟩ := h
  obtain ⟨s, ta, ha, ga, a1, a2, a3⟩ := C_sample Wb0 Wl0 rl r20
  refine ⟨_, C_great hN Wb0 rb, by rw [r7, rk.2.1]; exact a1, ?_, ((((Fr.rf.set (by omega) (by omega)).set (by omega) (by omega)).set (by omega) (by omega)).set (by omega) (by omega))⟩
  have o : ∀ j, _ → _ → s_sample g j = g j := fun j a b => s_sample_out (j := j) Wl0 a b
  rw [SR10]
  simp only [put_at, setR_at, Nat.reduceEqDiff, reduceIte]
  refine ⟨by rw [o _ (by omega) (by omega)]; exact r2, by rw [o _ (by omega) (by omega)]; exact r6, by rw [o _ (by omega) (by omega)]; exact r7, ?_, KR_congr rk (fun j hj => o _ (by omega) (by omega)), fun k hk => ?_, BR_congr Wb0 rb (o _ (by omega) (by omega)) (fun k hk => o _ (by omega) (by omega)), a3, a2, LR_congr (by omega) Wa0 ra (o _ (by omega) (by omega)) (fun j h1 h2 => o _ (by omega) (by omega))⟩
  · rw [r8]
    unfold s_sample
    rcases Ws_split Wl0 with ⟨c, hc, e⟩ | e
    · rw [if_neg (by rw [e]; exact fun e => by have := (nI_eq (by omega) (by omega)).mp (e.trans (show (30 : Int32) = nI 30 from rfl)); omega)]
      rw [s_smp_at hc e, if_pos rfl]
    · rw [if_pos e, s_smp_at (c := 29) (by omega) (s_drop_17 e), if_pos rfl, s_drop_at e, if_neg (by omega), if_neg (by omega), if_neg (by omega)]
  · rw [o _ (by omega) (by omega)] at hk
    obtain ⟨n, n1, n2, e5⟩ := W5
    have hk2 := hk
    rw [e5, cn_nI (by omega)] at hk2
    rw [o _ (by omega) (by omega)]
    exact rg k hk
theorem C_passOne {N rr : Nat} {M : Mem} {g : Row} (hN : 8 < N) (W : WF g) (h : SR M 10 g) (ht : ¬ g 0 = 10000) : ∃ M' : Mem, f_T_passOne N rr 10 M = some M' ∧ SR M' 10 (s_pass g) ∧ Fr 10 23 M M' := by
  have h' := h
  rw [SR10] at h'
  obtain ⟨r2, r6, r7, r8, rk, rg, rb, rl, r20, ra⟩ := h'
  obtain ⟨Wg0, Wk0, Wb0, Wl0, Wa0⟩ := id W
  obtain ⟨t, ht0, h0, -⟩ := Wg0.1
  obtain ⟨iv, i1, i2, e4⟩ := Wg0.2.2
  unfold f_T_passOne s_pass
  simp only [Nat.reduceAdd]
  rw [if_neg ht, r7, h0, C_gustOf Wg0 (by omega) r2 rg, bnd_s, ← h0, rk.1]
  by_cases c1 : g 6 = 1
  · rw [if_pos c1]
    obtain ⟨κb, ab, κ, b1, k1, hs⟩ := SR_fly W h c1
    unfold f_K_windOver
    rw [bnd_s, rk.2.1, show s_gust g (g 0) + g 7 / 100 = s_wind g (g 7) from rfl, b1, bndM_s, k1, bndM_s]
    have hw := Wg_wind Wg0 Wk0.2.1
    have o : ∀ j, _ → _ → _ → s_f3 (s_wind g (g 7)) g j = g j := fun j a b c => s_f3_out (j := j) (w := s_wind g (g 7)) Wb0 a b c
    have hl : Ws 30 45 17 (s_f3 (s_wind g (g 7)) g) := Ws_congr Wl0 (o _ (by omega) (by omega) (by omega)) (fun j h1 h2 => o _ (by omega) (by omega) (by omega))
    have ha : Ws 90 135 18 (s_f3 (s_wind g (g 7)) g) := Ws_congr Wa0 (o _ (by omega) (by omega) (by omega)) (fun j h1 h2 => o _ (by omega) (by omega) (by omega))
    have hb := s_f3_Wb Wb0 hw
    have hg : Wg (s_f3 (s_wind g (g 7)) g) ∨ True := Or.inr trivial
    have f4 : s_f3 (s_wind g (g 7)) g 4 = nI iv := by rw [o _ (by omega) (by omega) (by omega)]; exact e4
    have fr : Fr 10 23 M (setR (setR (setR M 14 ab) 13 κb) 11 κ) := ((Fr.rf.set (by omega) (by omega)).set (by omega) (by omega)).set (by omega) (by omega)
    have es : s_tk g = s_try (s_f3 (s_wind g (g 7)) g) := by
      unfold s_tk
      rw [if_neg (by rw [c1]; decide), if_pos c1]
      rfl
    have h5 : ∃ n, 1 ≤ n ∧ n ≤ 16 ∧ s_f3 (s_wind g (g 7)) g 5 = nI n := by
      obtain ⟨n, n1, n2, e5, -⟩ := Wg0.2.1
      exact ⟨n, n1, n2, by rw [o _ (by omega) (by omega) (by omega)]; exact e5⟩
    rw [es]
    generalize s_f3 (s_wind g (g 7)) g = g3 at *
    generalize setR (setR (setR M 14 ab) 13 κb) 11 κ = M8 at *
    have hs' := hs
    rw [SR10] at hs'
    obtain ⟨q2, q6, q7, q8, qk, qg, qb, ql, q20, qa⟩ := hs'
    unfold s_try
    rw [qk.1, q6, f4]
    by_cases d : g3 6 = 1
    · rw [if_pos d, if_pos d, if_pos (by rw [← nI_0]; exact nI_lt (by omega) (by omega)), grd_of (nzB_nI (by omega) (by omega)), show M8 11 9 = g3 12 from by rw [qk.2.2.2.2.2.2.2.2.2.1, if_pos d]]
      by_cases f : irm (g3 12) (nI iv) = 0
      · rw [if_pos f, if_pos f]
        obtain ⟨M12, a1, a2, a3, a4⟩ := SR_sample (rr := rr) hN h5 hb hl ha hs
        rw [a1, bnd_s, a2, bndM_s, nm_eq, nm_eq]
        exact ⟨_, rfl, SR_inc0 a3, fr.trans ((a4.set (by omega) (by omega)).set (by omega) (by omega))⟩
      · rw [if_neg f, if_neg f, nm_eq]
        exact ⟨_, rfl, SR_inc0 hs, fr.set (by omega) (by omega)⟩
    · rw [if_neg d, if_neg d, nm_eq]
      exact ⟨_, rfl, SR_inc0 hs, fr.set (by omega) (by omega)⟩
  · rw [if_neg c1]
    obtain ⟨κ, k1, k2⟩ := C_Kpass (M := M) (p := 11) W rk
    have o : ∀ j, j ≠ 11 → s_tk g j = g j := fun j hj => by
      unfold s_tk
      by_cases c2 : g 6 = 2
      · rw [if_pos c2, upd_at, if_neg hj]
      · rw [if_neg c2, if_neg c1]
    have hs : SR (setR M 11 κ) 10 (s_tk g) := by
      rw [SR10]
      simp only [setR_at, Nat.reduceEqDiff, reduceIte]
      refine ⟨by rw [o _ (by omega)]; exact r2, by rw [o _ (by omega)]; exact r6, by rw [o _ (by omega)]; exact r7, by rw [o _ (by omega)]; exact r8, k2, fun k hk => ?_, BR_ext rb (o _ (by omega)) (fun k => o _ (by omega)), LR_ext rl (o _ (by omega)) (fun j hj => o j (by omega)), by rw [o _ (by omega)]; exact r20, LR_ext ra (o _ (by omega)) (fun j hj => o j (by omega))⟩
      rw [o _ (by omega)] at hk ⊢
      exact rg k hk
    rw [k1, bndM_s, setR_self, k2.1, o 6 (by decide), if_neg c1, nm_eq]
    exact ⟨_, rfl, SR_inc0 hs, (Fr.rf.set (by omega) (by omega)).set (by omega) (by omega)⟩
theorem s_pass_0 {g : Row} {t : Nat} (W : WF g) (ht : t ≤ 9999) (h0 : g 0 = nI t) : s_pass g 0 = nI (t + 1) := by
  unfold s_pass
  rw [if_neg (by rw [h0]; exact fun e => by have := (nI_eq (by omega) (by omega)).mp (e.trans (show (10000 : Int32) = nI 10000 from rfl)); omega), inc_at, if_pos rfl]
  have : s_tk g 0 = g 0 := by
    unfold s_tk
    by_cases c2 : g 6 = 2
    · rw [if_pos c2, upd_at, if_neg (by decide)]
    · rw [if_neg c2]
      by_cases c1 : g 6 = 1
      · rw [if_pos c1, s_fly_out W (by omega) (by omega) (by omega) (by omega)]
      · rw [if_neg c1]
  rw [this, h0, nI_1]
theorem lpC_pass {N0 rr n : Nat} {k : Int32 → Mem → Option (Int32 × Mem)} {c2 : Int32} (hn : n < 2 ^ 31) (hN0 : 8 < N0) : ∀ (d i N : Nat) (M : Mem) (g : Row) (t : Nat), i + d = n → d < N → WF g → SR M 10 g → g 0 = nI t → t + d ≤ 10000 → ∃ M' : Mem, lp_T_passMany_7 N0 rr 10 (nI n) c2 N (nI i) M k = k (nI n) M' ∧ SR M' 10 (itr s_pass d g) ∧ Fr 10 23 M M' := by
  intro d
  induction d with
  | zero =>
    intro i N M g t hi hN W h h0 ht
    obtain ⟨N, rfl⟩ : ∃ n, N = n + 1 := ⟨N - 1, by omega⟩
    obtain rfl : i = n := by omega
    unfold lp_T_passMany_7
    rw [if_neg (nI_nlt (Nat.le_refl _) (by omega))]
    exact ⟨M, rfl, h, Fr.rf⟩
  | succ d ih =>
    intro i N M g t hi hN W h h0 ht
    obtain ⟨N, rfl⟩ : ∃ n, N = n + 1 := ⟨N - 1, by omega⟩
    unfold lp_T_passMany_7
    obtain ⟨M1, e1, s1, f1⟩ := C_passOne (rr := rr) hN0 W h (by rw [h0]; exact fun e => by have := (nI_eq (by omega) (by omega)).mp (e.trans (show (10000 : Int32) = nI 10000 from rfl)); omega)
    obtain ⟨M2, e2, s2, f2⟩ := ih (i + 1) N M1 (s_pass g) (t + 1) (by omega) (by omega) (s_pass_W W) s1 (s_pass_0 W (by omega) h0) (by omega)
    refine ⟨M2, ?_, s2, f1.trans f2⟩
    rw [if_pos (nI_lt (by omega) (by omega)), e1, bndM_s, nm_eq, nI_1, e2]
theorem C_passMany {N rr n t : Nat} {M : Mem} {g : Row} (hN0 : 8 < N) (hN : n < N) (hn : n < 2 ^ 31) (W : WF g) (h : SR M 10 g) (h0 : g 0 = nI t) (ht : t + n ≤ 10000) : ∃ M' : Mem, f_T_passMany N rr 10 (nI n) M = some (itr s_pass n g 19 - g 19, M') ∧ SR M' 10 (itr s_pass n g) ∧ Fr 10 23 M M' := by
  unfold f_T_passMany
  rw [nm_eq]
  obtain ⟨M', e, s, f⟩ := lpC_pass (N0 := N) (rr := rr) (c2 := M 10 8) (k := fun (a6 : Int32) (M5 : Mem) => some (M5 10 8 - M 10 8, M5)) hn hN0 n 0 N M g t (by omega) hN W h h0 ht
  refine ⟨M', ?_, s, f⟩
  rw [← nI_0, e, ((SR10.mp s).2.2.2.1), ((SR10.mp h).2.2.2.1)]
