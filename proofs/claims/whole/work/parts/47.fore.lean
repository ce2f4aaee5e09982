/-! the safe height -/
theorem lpC_gg {N0 rr n : Nat} {M : Mem} {f : Nat → Int32} (hn : n ≤ 16) (h : M 10 2 = nI n) (hf : ∀ k, k < n → M 12 k = f k) (k4 : Int32 × Int32 → Mem → Option (Int32 × Mem)) : ∀ (d i N : Nat), i + d = n → d < N → lp_T_greatestGust_4 N0 rr 10 N (mx f i, nI i) M k4 = k4 (mx f n, nI n) M := by
  intro d
  induction d with
  | zero =>
    intro i N hi hN
    obtain ⟨N, rfl⟩ : ∃ n, N = n + 1 := ⟨N - 1, by omega⟩
    obtain rfl : i = n := by omega
    unfold lp_T_greatestGust_4
    dsimp only
    rw [h, if_neg (nI_nlt (Nat.le_refl _) (by omega))]
  | succ d ih =>
    intro i N hi hN
    obtain ⟨N, rfl⟩ : ∃ n, N = n + 1 := ⟨N - 1, by omega⟩
    unfold lp_T_greatestGust_4
    dsimp only
    rw [h, if_pos (nI_lt (by omega) (by omega)), show (10 + 2 : Nat) = 12 from rfl, C_valueAt (a := 12) (by show i < 16; omega) (by decide), bnd_s, nm_eq, nm_eq, nI_1, hf i (by omega)]
    exact ih (i + 1) N (by omega) (by omega)
theorem lpR_gg {N0 n : Nat} {M : Mem} (hn : n ≤ 16) (h : M 146 5 = nI n) (k4 : Int32 × Int32 → Mem → Option (Int32 × Mem)) : ∀ (d i N : Nat), i + d = n → d < N → lp_M_greatestGust_4 N0 146 N (mx (fun k => M 146 (21 + k)) i, nI i) M k4 = k4 (mx (fun k => M 146 (21 + k)) n, nI n) M := by
  intro d
  induction d with
  | zero =>
    intro i N hi hN
    obtain ⟨N, rfl⟩ : ∃ n, N = n + 1 := ⟨N - 1, by omega⟩
    obtain rfl : i = n := by omega
    unfold lp_M_greatestGust_4
    dsimp only
    rw [h, if_neg (nI_nlt (Nat.le_refl _) (by omega))]
  | succ d ih =>
    intro i N hi hN
    obtain ⟨N, rfl⟩ : ∃ n, N = n + 1 := ⟨N - 1, by omega⟩
    unfold lp_M_greatestGust_4
    dsimp only
    rw [h, if_pos (nI_lt (by omega) (by omega)), q21, grd_of (inB_nI (by omega) (by omega)), nI_clamp (by omega), f_most_s, bnd_s, nm_eq, nI_1]
    exact ih (i + 1) N (by omega) (by omega)
/-- the greatest safe height below layer k; G: the greatest gust -/
def sfe (g : Row) (G : Int32) : Nat → Int32
  | 0 => -1
  | k + 1 => if g 2 < s_load g (G + nI k) then sfe g G k else nI (min 600 (100 * k + 99))
theorem sfe_s {g : Row} {G : Int32} {k : Nat} : sfe g G (k + 1) = if g 2 < s_load g (G + nI k) then sfe g G k else nI (min 600 (100 * k + 99)) := rfl
theorem lpC_safe {N0 rr : Nat} {M : Mem} {g : Row} {G : Int32} (hk : KR (M 11) g) : ∀ (k N : Nat), k ≤ 7 → k < N → lp_G_safeHeight_11 N0 rr G N (nI k - 1) M (fun (a7 : Int32) (M6 : Mem) => some ((-1 : Int32), M6)) = some (sfe g G k, M) := by
  intro k
  induction k with
  | zero =>
    intro N hi hN
    obtain ⟨N, rfl⟩ : ∃ n, N = n + 1 := ⟨N - 1, by omega⟩
    unfold lp_G_safeHeight_11
    rw [if_pos m1_neg]
    rfl
  | succ k ih =>
    intro N hi hN
    obtain ⟨N, rfl⟩ : ∃ n, N = n + 1 := ⟨N - 1, by omega⟩
    have e1 : f_K_loadUnder 11 (G + nI k) M = some (s_load g (G + nI k), M) := by
      unfold f_K_loadUnder s_load
      rw [hk.2.2.2.1]
    unfold lp_G_safeHeight_11
    rw [nI_pred, if_neg (nI_pos (by omega)), e1, bnd_s, hk.2.2.2.2.1, nm_eq, nI_m1, ih N (by omega) (by omega), sfe_s]
    by_cases e : g 2 < s_load g (G + nI k)
    · rw [if_pos e, if_neg (Int32.not_le.mpr e)]
    · rw [if_neg e, if_pos (Int32.not_lt.mp e), show nI k * (100 : Int32) = nI (k * 100) from pk_mul k 100, show nI (k * 100) + (100 : Int32) = nI (k * 100 + 100) from nI_add _ 100, show nI (k * 100 + 100) - (1 : Int32) = nI (k * 100 + 99) from pk_sub (b := 1) (by omega), show imin (600 : Int32) (nI (k * 100 + 99)) = nI (min 600 (k * 100 + 99)) from imin_nI (a := 600) (by omega) (by omega), Nat.mul_comm k 100]
/-- through a layer that isn't safe -/
theorem lpR_lay {N0 : Nat} {M : Mem} {G : Int32} {k : Nat} (hk : k ≤ 6) (hs : M 146 2 < s_load (M 146) (G + nI k)) (kk : Int32 → Mem → Option (Int32 × Mem)) : ∀ (j N : Nat), j ≤ 100 → j < N → lp_M_safeHeight_14 N0 146 G N (nI (100 * k + j) - 1) M kk = lp_M_safeHeight_14 N0 146 G (N - j) (nI (100 * k) - 1) M kk := by
  intro j
  induction j with
  | zero => intro N _ _; rfl
  | succ j ih =>
    intro N hj hN
    obtain ⟨N, rfl⟩ : ∃ n, N = n + 1 := ⟨N - 1, by omega⟩
    have e1 : f_M_load 146 (G + nI k) M = some (s_load (M 146) (G + nI k), M) := rfl
    have h100 : nI (100 * k + j) / (100 : Int32) = nI k := by
      rw [show nI (100 * k + j) / (100 : Int32) = nI ((100 * k + j) / 100) from pk_div (d := 100) (by omega) (by omega) (by omega)]
      congr 1
      omega
    rw [show nI (100 * k + (j + 1)) - (1 : Int32) = nI (100 * k + j) from nI_pred _]
    conv => lhs; unfold lp_M_safeHeight_14
    rw [if_neg (nI_pos (by omega)), h100, e1, bnd_s, if_pos hs, nm_eq, nI_m1, ih N (by omega) (by omega), show N + 1 - (j + 1) = N - j from by omega]
theorem lpR_safe {N0 : Nat} {M : Mem} {G : Int32} : ∀ (k N : Nat), k ≤ 6 → 100 * k < N → lp_M_safeHeight_14 N0 146 G N (nI (100 * k) - 1) M (fun (a8 : Int32) (M7 : Mem) => some (a8, M7)) = some (sfe (M 146) G k, M) := by
  intro k
  induction k with
  | zero =>
    intro N hi hN
    obtain ⟨N, rfl⟩ : ∃ n, N = n + 1 := ⟨N - 1, by omega⟩
    unfold lp_M_safeHeight_14
    rw [Nat.mul_zero, if_pos m1_neg]
    rfl
  | succ k ih =>
    intro N hi hN
    rw [sfe_s]
    by_cases e : M 146 2 < s_load (M 146) (G + nI k)
    · rw [if_pos e, show 100 * (k + 1) = 100 * k + 100 from by omega, lpR_lay (by omega) e _ 100 N (by omega) (by omega)]
      exact ih (N - 100) (by omega) (by omega)
    · rw [if_neg e]
      obtain ⟨N, rfl⟩ : ∃ n, N = n + 1 := ⟨N - 1, by omega⟩
      have e1 : f_M_load 146 (G + nI k) M = some (s_load (M 146) (G + nI k), M) := rfl
      have h100 : nI (100 * k + 99) / (100 : Int32) = nI k := by
        rw [show nI (100 * k + 99) / (100 : Int32) = nI ((100 * k + 99) / 100) from pk_div (d := 100) (by omega) (by omega) (by omega)]
        congr 1
        omega
      rw [show 100 * (k + 1) = 100 * k + 99 + 1 from by omega, nI_pred]
      unfold lp_M_safeHeight_14
      rw [if_neg (nI_pos (by omega)), h100, e1, bnd_s, if_neg e, Nat.min_eq_right (by omega)]
theorem j_safeHeight {N : Nat} (hN : 700 < N) : JA (f_G_safeHeight N 146) (f_M_safeHeight N 146) := fun Mc Mr H => by
  obtain ⟨n, n1, n2, e5, -⟩ := H.w.1.2.1
  have hf : ∀ k, k < n → Mc 12 k = Mr 146 (21 + k) := fun k hk => H.s.2.2.2.2.2.1 k (by rw [e5, cn_nI (by omega)]; exact hk)
  refine ⟨sfe (Mr 146) (mx (fun k => Mr 146 (21 + k)) n) 7, Mc, put Mr 145 8 0, ?_, ?_, RR_thr H, Fr.rf, Fr.rf.put (by omega) (by omega)⟩
  · unfold f_G_safeHeight f_T_greatestGust
    have e1 := lpC_gg (N0 := N) (rr := 146) (M := Mc) n2 (H.s.1.trans e5) hf (fun (a6 : Int32 × Int32) (M5 : Mem) => some (a6.1, M5)) n 0 N (by omega) (by omega)
    have e1' : lp_T_greatestGust_4 N 146 10 N ((0 : Int32), (0 : Int32)) Mc (fun (a6 : Int32 × Int32) (M5 : Mem) => some (a6.1, M5)) = _ := e1
    rw [e1', bnd_s]
    exact lpC_safe (N0 := N) (rr := 146) H.k 7 N (by omega) (by omega)
  · unfold f_M_safeHeight f_M_greatestGust
    have p : (put Mr 145 8 0) 146 = Mr 146 := put_ne (by decide)
    have e1 := lpR_gg (N0 := N) (M := put Mr 145 8 0) n2 (by rw [p]; exact e5) (fun (a5 : Int32 × Int32) (M4 : Mem) => some (a5.1, M4)) n 0 N (by omega) (by omega)
    have e1' : lp_M_greatestGust_4 N 146 N ((0 : Int32), (0 : Int32)) (put Mr 145 8 0) (fun (a5 : Int32 × Int32) (M4 : Mem) => some (a5.1, M4)) = _ := e1
    rw [nm_eq, e1', bnd_s, p]
    dsimp only
    generalize mx (fun k => Mr 146 (21 + k)) n = G
    have e0 : (600 : Int32) = nI 600 := rfl
    rw [e0, sfe_s]
    obtain ⟨N, rfl⟩ : ∃ n, N = n + 1 := ⟨N - 1, by omega⟩
    have e6 : f_M_load 146 (G + nI 6) (put Mr 145 8 0) = some (s_load (Mr 146) (G + nI 6), put Mr 145 8 0) := by
      unfold f_M_load s_load
      rw [p]
    have h100 : nI 600 / (100 : Int32) = nI 6 := by decide
    conv => lhs; unfold lp_M_safeHeight_14
    rw [if_neg (nI_pos (by omega)), h100, e6, bnd_s, p]
    by_cases e : Mr 146 2 < s_load (Mr 146) (G + nI 6)
    · rw [if_pos e, if_pos e, nm_eq, nI_m1]
      have := lpR_safe (N0 := N + 1) (M := put Mr 145 8 0) (G := G) 6 N (by omega) (by omega)
      rw [p] at this
      exact this
    · rw [if_neg e, if_neg e]
      rfl
/-! forecasts -/
theorem s_pass_gust {g : Row} (W : WF g) : s_pass g 5 = g 5 ∧ ∀ k, k < 16 → s_pass g (21 + k) = g (21 + k) := by
  have o : ∀ j, (j = 5 ∨ (21 ≤ j ∧ j < 37)) → s_pass g j = g j := fun j hj => by
    unfold s_pass s_tk
    by_cases c : g 0 = 10000
    · rw [if_pos c]
    · rw [if_neg c, inc_at, if_neg (by omega)]
      by_cases c2 : g 6 = 2
      · rw [if_pos c2, upd_at, if_neg (by omega)]
      · rw [if_neg c2]
        by_cases c1 : g 6 = 1
        · rw [if_pos c1, s_fly_out W (by omega) (by omega) (by omega) (by omega)]
        · rw [if_neg c1]
  exact ⟨o 5 (by omega), fun k hk => o _ (by omega)⟩
theorem s_pass_KR {κ g : Row} (ht : ¬ g 0 = 10000) (h : KR κ (s_tk g)) : KR κ (s_pass g) := by
  unfold s_pass
  rw [if_neg ht]
  exact KR_congr h (fun j hj => by rw [inc_at, if_neg (by omega)])
theorem itr_stop {n : Nat} : ∀ {g : Row}, g 0 = 10000 → itr s_pass n g = g := by
  induction n with
  | zero => intro g _; rfl
  | succ n ih =>
    intro g h
    have e : s_pass g = g := if_pos h
    show itr s_pass n (s_pass g) = g
    rw [e]
    exact ih h
/-- what the forecasts stand on: the station's own cells, and the forecast's kite over a row i ticks on -/
def FC (M : Mem) (g : Row) (t i : Nat) : Prop := WF g ∧ g 0 = nI (t + i) ∧ t + i ≤ 10000 ∧ M 10 7 = nI t ∧ M 10 2 = g 5 ∧ (∀ k, k < cn (g 5) → M 12 k = g (21 + k)) ∧ KR (M 23) g
theorem FC_step {M : Mem} {g : Row} {t i : Nat} (h : FC M g t i) (hlt : t + i < 10000) : ∃ κ : Row, f_T_gustOf 10 (nI (t + i)) M = some (s_gust g (g 0), M) ∧ f_K_passTick 23 (s_gust g (g 0)) M = some (setR M 23 κ) ∧ FC (setR M 23 κ) (s_pass g) t (i + 1) ∧ KR κ (s_pass g) := by
  obtain ⟨W, h0, -, h7, h2, hg, hk⟩ := h
  obtain ⟨κ, k1, k2⟩ := C_Kpass (M := M) (p := 23) W hk
  have ht : ¬ g 0 = 10000 := by rw [h0]; exact fun e => by have := (nI_eq (by omega) (by omega)).mp (e.trans (show (10000 : Int32) = nI 10000 from rfl)); omega
  have k3 := s_pass_KR ht k2
  obtain ⟨p5, pg⟩ := s_pass_gust W
  refine ⟨κ, by rw [h0]; exact C_gustOf W.1 (by omega) h2 hg, k1, ⟨s_pass_W W, by rw [s_pass_0 W (by omega) h0]; rfl, by omega, by rw [setR_at, if_neg (by decide)]; exact h7, by rw [setR_at, if_neg (by decide), p5]; exact h2, fun k hk2 => ?_, by rw [setR_self]; exact k3⟩, k3⟩
  rw [p5] at hk2
  obtain ⟨n, n1, n2, e5, -⟩ := W.1.2.1
  have hk3 := hk2
  rw [e5, cn_nI (by omega)] at hk3
  rw [setR_at, if_neg (by decide), pg k (by omega)]
  exact hg k hk2
theorem lpC_ha {N0 rr n t : Nat} (hn : n ≤ 100) (k : Int32 → Mem → Option ((Sum Int32 Nat) × Mem)) : ∀ (d i N : Nat) (M : Mem) (g : Row), i + d = n → d < N → FC M g t i → ∃ (v : Int32) (κ : Row), lp_G_heightAfter_23 N0 rr (nI n) N (nI i) M k = k v (setR M 23 κ) ∧ KR κ (itr s_pass d g) := by
  intro d
  induction d with
  | zero =>
    intro i N M g hi hN h
    obtain ⟨N, rfl⟩ : ∃ n, N = n + 1 := ⟨N - 1, by omega⟩
    obtain rfl : i = n := by omega
    unfold lp_G_heightAfter_23
    rw [if_neg (nI_nlt (Nat.le_refl _) (by omega))]
    exact ⟨nI i, M 23, by rw [setR_same], h.2.2.2.2.2.2⟩
  | succ d ih =>
    intro i N M g hi hN h
    obtain ⟨N, rfl⟩ : ∃ n, N = n + 1 := ⟨N - 1, by omega⟩
    unfold lp_G_heightAfter_23
    rw [if_pos (nI_lt (by omega) (by omega)), h.2.2.2.1, nI_add]
    rcases Nat.lt_or_ge (t + i) 10000 with q | q
    · obtain ⟨κ, e1, e2, e3, e4⟩ := FC_step h q
      rw [if_pos (by show nI (t + i) < nI 10000; exact nI_lt q (by omega)), e1, bnd_s, e2, bndM_s, nm_eq, nI_1]
      obtain ⟨v, κ', f1, f2⟩ := ih (i + 1) N (setR M 23 κ) (s_pass g) (by omega) (by omega) e3
      exact ⟨v, κ', by rw [f1, setR_setR], f2⟩
    · have e : t + i = 10000 := by have := h.2.2.1; omega
      rw [if_neg (by show ¬ nI (t + i) < nI 10000; exact nI_nlt q (by omega)), itr_stop (by rw [h.2.1, e]; rfl)]
      exact ⟨nI i, M 23, by rw [setR_same], h.2.2.2.2.2.2⟩
theorem FC_0 {Mc Mr : Mem} {t : Nat} {κ : Row} (H : RR Mc Mr) (h0 : Mr 146 0 = nI t) (ht : t ≤ 10000) (hk : KR κ (Mr 146)) : FC (setR Mc 23 κ) (Mr 146) t 0 := by
  refine ⟨H.w, h0, ht, ?_, ?_, fun k hk2 => ?_, by rw [setR_self]; exact hk⟩
  · rw [setR_at, if_neg (by decide)]; exact H.s.2.2.1.trans h0
  · rw [setR_at, if_neg (by decide)]; exact H.s.1
  · rw [setR_at, if_neg (by decide)]; exact H.s.2.2.2.2.2.1 k hk2
theorem R_aside {M : Mem} : ∃ r : Row, f_M_putAside 146 M = some (setR M 148 r) ∧ REq (M 146) r := by
  unfold f_M_putAside
  rw [show (0 : Int32) = nI 0 from rfl, R_copy (i := 0) (j := 0) (by decide) (by decide) (by decide) (by decide), bndM_s]
  refine ⟨_, rfl, ?_⟩
  have := cpy405 (f := M 146) (g := M 148) (i := 0) (j := 0)
  rw [hrow0, hrow0] at this
  exact this
theorem R_back {M : Mem} {a : Int32} : ∃ r : Row, f_M_laidBack 146 a M = some (a, setR M 146 r) ∧ REq (M 148) r := by
  unfold f_M_laidBack
  rw [show (0 : Int32) = nI 0 from rfl, R_copy (i := 0) (j := 0) (by decide) (by decide) (by decide) (by decide), bndM_s]
  refine ⟨_, rfl, ?_⟩
  have := cpy405 (f := M 148) (g := M 146) (i := 0) (j := 0)
  rw [hrow0, hrow0] at this
  exact this
/-- the row is laid back; the class's forecast kite is free -/
theorem RR_fore {Mc Mr Mc' Mr' : Mem} (h : RR Mc Mr) (e1 : ∀ q, q ≠ 23 → Mc' q = Mc q) (e : REq (Mr 146) (Mr' 146)) (e2 : ∀ q, (150 ≤ q ∧ q < 154) → Mr' q = Mr q) (e3 : ∀ k, (k = 7 ∨ k = 9 ∨ k = 11 ∨ k = 13 ∨ k = 15 ∨ k = 22) → Mr' 145 k = Mr 145 k) : RR Mc' Mr' := by
  obtain ⟨a, b, c, d, f, g⟩ := h
  refine ⟨⟨SR_ext a.2 (SR_congr a.1 (fun q q1 q2 => e1 q (by omega))) e, WF_ext a.2 e⟩, HH_congr b (fun q hq => e1 q (by omega)) (e2 _ (by omega)) (e3 _ (by omega)), SN_congr c (by rw [e1 0 (by omega)]) (fun q q1 q2 => e1 q (by omega)) (e2 _ (by omega)) (e3 _ (by omega)), TX_congr d (e1 _ (by omega)) (e1 _ (by omega)) (e2 _ (by omega)) (fun k hk => e3 k (by omega)), OU_congr f (by rw [e1 143 (by omega)]) (e1 _ (by omega)) (e2 _ (by omega)) (e3 _ (by omega)), ZS_congr g (fun p hp => ?_)⟩
  have := st_lt p hp
  rw [e1 (p + 5) (by omega), e1 (p + 9) (by omega)]
  exact ⟨rfl, rfl⟩
theorem j_heightAfter {N : Nat} {a : Int32} (hN : 200 < N) : JX [(0, 1)] (f_G_heightAfter N 146 a) (f_M_heightAfter N 146 a) := J_rng (fun hb Mc Mr H h0 => by
  obtain ⟨n, -, hn, rfl⟩ := outB_F (lo := 0) (hi := 100) (by omega) (by omega) hb
  obtain ⟨t, ht, e0, -⟩ := H.w.1.1
  obtain ⟨κ, k1, k2⟩ := K_copy (M := Mc) (p := 23) (a := 11) (by decide) H.k
  obtain ⟨v, κ', f1, f2⟩ := lpC_ha (N0 := N) (rr := 146) (n := n) (t := t) hn (fun (a11 : Int32) (M10 : Mem) => some (.inl (M10 23 1), M10)) n 0 N (setR Mc 23 κ) (Mr 146) (by omega) (by omega) (FC_0 H e0 ht k2)
  obtain ⟨r1, q1, q2⟩ := R_aside (M := Mr)
  have e146 : (setR Mr 148 r1) 146 = Mr 146 := by rw [setR_at, if_neg (by decide)]
  have pp := R_pass (N := N) (rr := 146) (n := n) (M := setR Mr 148 r1) (by omega) (by omega) (by omega) (by rw [e146]; exact H.w)
  rw [e146] at pp
  obtain ⟨r2, q3, q4⟩ := R_back (M := setR (setR Mr 148 r1) 146 (itr s_pass n (Mr 146))) (a := (setR (setR Mr 148 r1) 146 (itr s_pass n (Mr 146))) 146 7)
  rw [setR_self] at q3
  have q5 : REq (Mr 146) r2 := by
    have : (setR (setR Mr 148 r1) 146 (itr s_pass n (Mr 146))) 148 = r1 := by rw [setR_at, if_neg (by decide), setR_self]
    rw [this] at q4
    exact q2.trans q4
  refine ⟨itr s_pass n (Mr 146) 7, setR Mc 23 κ', setR (setR (setR Mr 148 r1) 146 (itr s_pass n (Mr 146))) 146 r2, ?_, ?_, ?_, Fr.rf.set (by omega) (by omega), ((Fr.rf.set (by omega) (by omega)).set (by omega) (by omega)).set (by omega) (by omega), ?_⟩
  · rw [k1, bndM_s]
    refine Eq.trans f1 ?_
    rw [setR_setR, setR_self, f2.2.1]
  · rw [q1, bndM_s, pp, bndM_s, setR_self, q3, bnd_s]
  · refine RR_fore H (fun q hq => by rw [setR_at, if_neg hq]) (by rw [setR_self]; exact q5) (fun q hq => ?_) (fun k hk => ?_)
    · rw [setR_at, if_neg (by omega), setR_at, if_neg (by omega), setR_at, if_neg (by omega)]
    · rw [setR_at, if_neg (by decide), setR_at, if_neg (by decide), setR_at, if_neg (by decide)]
  · rw [setR_at, if_neg (by decide), setR_at, if_neg (by decide), setR_at, if_neg (by decide)]; exact h0)
