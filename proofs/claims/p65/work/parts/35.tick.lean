/-! a tick of the class -/
/-- outside of a, .., b - 1 nothing has changed -/
def Fr (a b : Nat) (M M' : Mem) : Prop := ∀ q, (q < a ∨ b ≤ q) → M' q = M q
theorem Fr.rf {a b : Nat} {M : Mem} : Fr a b M M := fun _ _ => rfl
theorem Fr.set {a b p : Nat} {M M' : Mem} {f : Row} (h : Fr a b M M') (h1 : a ≤ p) (h2 : p < b) : Fr a b M (setR M' p f) := fun q hq => by
  rw [setR_at, if_neg (by omega)]
  exact h q hq
theorem Fr.trans {a b : Nat} {M M' M'' : Mem} (h : Fr a b M M') (h2 : Fr a b M' M'') : Fr a b M M'' := fun q hq => (h2 q hq).trans (h q hq)
theorem Fr.mono {a b a' b' : Nat} {M M' : Mem} (h : Fr a b M M') (h1 : a' ≤ a) (h2 : b ≤ b') : Fr a' b' M M' := fun q hq => h q (by omega)
theorem KR_congr {κ g g' : Row} (H : KR κ g) (h : ∀ j, (j = 1 ∨ j = 2 ∨ j = 3 ∨ (6 ≤ j ∧ j < 16)) → g' j = g j) : KR κ g' := by
  unfold KR
  rw [h 6 (by omega), h 7 (by omega), h 8 (by omega), h 1 (by omega), h 2 (by omega), h 3 (by omega), h 9 (by omega), h 10 (by omega), h 11 (by omega), h 12 (by omega), h 13 (by omega), h 14 (by omega), h 15 (by omega)]
  exact H
theorem BR_congr {κ a g g' : Row} (W : Wb g) (H : BR κ a g) (h : g' 16 = g 16) (h2 : ∀ k, k < 8 → g' (37 + k) = g (37 + k)) : BR κ a g' := by
  obtain ⟨c, hc, h16, -⟩ := W
  obtain ⟨o, ho, e1, e2, hv⟩ := H
  refine ⟨o, ho, e1, by rw [h]; exact e2, fun k hk => ?_⟩
  rw [h] at hk
  have := hv k hk
  rw [h16, cn_nI (by omega)] at hk
  rw [h2 k (by omega)]
  exact this
theorem LR_congr {n a i : Nat} {s ta ha ga g g' : Row} (hn : n < 100) (W : Ws n a i g) (H : LR n a i s ta ha ga g) (h : g' i = g i) (h2 : ∀ j, a ≤ j → j < a + 3 * n → g' j = g j) : LR n a i s ta ha ga g' := by
  obtain ⟨c, hc, hi, -⟩ := W
  rw [LR_g (c := c) (by omega) hi] at H
  rw [LR_g (c := c) (by omega) (h.trans hi)]
  exact LRg_congr H (fun k hk => ⟨(h2 _ (by omega) (by omega)).symm, (h2 _ (by omega) (by omega)).symm, (h2 _ (by omega) (by omega)).symm⟩)
theorem C_Kpass1 {M : Mem} {p : Nat} {g : Row} {a : Int32} (h : KR (M p) g) (hm : g 6 = 1) : ∃ κ : Row, f_K_passTick p a M = some (setR M p κ) ∧ KR κ (s_cl (a + g 7 / 100) (s_strain (a + g 7 / 100) (inc g 12))) := by
  obtain ⟨κ, h1, h2⟩ := K_fly (w := a + g 7 / 100) h hm
  refine ⟨κ, ?_, h2⟩
  unfold f_K_passTick f_K_windOver
  rw [h.1, hm, if_pos rfl, bnd_s, h.2.1, h1, bndM_s]
theorem C_Kpass2 {M : Mem} {p : Nat} {g : Row} {a : Int32} (h : KR (M p) g) (hm : g 6 = 2) (hb : ∃ b, b ≤ 120 ∧ g 11 = nI b) : ∃ κ : Row, f_K_passTick p a M = some (setR M p κ) ∧ KR κ (upd g 11 (imax 0 (g 11 - 1))) := by
  obtain ⟨b, hb, e11⟩ := hb
  have e8 : M p 8 = g 11 := by rw [h.2.2.2.2.2.2.2.2.1, if_pos hm]
  have em : imax 0 (g 11 - 1) = nI (b - 1) := by rw [e11, show nI b - (1 : Int32) = nI b - nI 1 from rfl, imax0_sub (by omega) (by omega)]
  unfold f_K_passTick
  rw [h.1, hm, if_neg (by decide), if_pos rfl, e8, e11]
  obtain ⟨h0, h1, h2, h3, h4, h5, h6, h7, h8, h9, h10, h11, h12⟩ := h
  by_cases c : 0 < b
  · have em2 : imax 0 (nI b - 1) = nI b - 1 := by rw [← e11, em, e11]; exact (pk_sub (b := 1) (by omega)).symm
    rw [if_pos (by rw [← nI_0]; exact nI_lt c (by omega)), nm_eq, em2]
    refine ⟨_, rfl, ?_⟩
    unfold KR
    simp [upd_at, hm, h0, h1, h2, h3, h4, h5, h6, h7, h9, h10, h11, h12]
  · rw [if_neg (by rw [← nI_0]; exact nI_nlt (by omega) (by omega))]
    refine ⟨M p, by rw [setR_same], ?_⟩
    have eb : imax 0 (nI b - 1) = g 11 := by rw [← e11, em, e11]; congr 1; omega
    rw [eb]
    refine KR_congr (g := g) ⟨h0, h1, h2, h3, h4, h5, h6, h7, h8, h9, h10, h11, h12⟩ (fun j _ => ?_)
    rw [upd_at]
    by_cases e : j = 11
    · rw [if_pos e, e]
    · rw [if_neg e]
theorem C_Kpass0 {M : Mem} {p : Nat} {g : Row} {a : Int32} (h : KR (M p) g) (h1 : ¬ g 6 = 1) (h2 : ¬ g 6 = 2) : f_K_passTick p a M = some M := by
  unfold f_K_passTick
  rw [h.1, if_neg h1, if_neg h2]
theorem s_buf_inc {g : Row} {w : Int32} (W : Wb g) : s_buf w (inc g 12) = inc (s_buf w g) 12 := by
  funext j
  rw [inc_at]
  by_cases e : j = 12
  · subst e
    rw [if_pos rfl, s_buf_out (Wb_inc12 W) (by omega) (by omega), s_buf_out W (by omega) (by omega), inc_at, if_pos rfl]
  · rw [if_neg e]
    rcases Wb_split W with ⟨c, hc, e1⟩ | e1
    · rw [s_buf_small hc (by rw [inc_at, if_neg (by decide)]; exact e1), s_buf_small hc e1, inc_at, if_neg e]
    · have o : ∀ i, i ≠ 12 → inc g 12 i = g i := fun i hi => by rw [inc_at, if_neg hi]
      rw [s_buf_full (by rw [inc_at, if_neg (by decide)]; exact e1), s_buf_full e1, o j e]
      by_cases q : 37 ≤ j ∧ j < 44
      · rw [if_pos q, if_pos q, o (j + 1) (by omega)]
      · rw [if_neg q, if_neg q]
theorem KR_buf {κ g : Row} {w : Int32} (W : Wb g) (h : KR κ g) : KR κ (s_buf w g) := KR_congr h (fun j hj => s_buf_out W (by omega) (by omega))
/-- the kite, in the row's own tick -/
theorem C_Kpass {M : Mem} {p : Nat} {g : Row} (W : WF g) (h : KR (M p) g) : ∃ κ : Row, f_K_passTick p (s_gust g (g 0)) M = some (setR M p κ) ∧ KR κ (s_tk g) := by
  unfold s_tk
  by_cases c2 : g 6 = 2
  · rw [if_pos c2]; exact C_Kpass2 h c2 W.2.1.2.2.2
  · rw [if_neg c2]
    by_cases c1 : g 6 = 1
    · rw [if_pos c1]
      have Wb0 := W.2.2.1
      have e6 : s_buf (s_wind g (g 7)) g 6 = 1 := by rw [s_buf_out Wb0 (by omega) (by omega)]; exact c1
      obtain ⟨κ, k1, k2⟩ := C_Kpass1 (a := s_gust g (g 0)) (KR_buf (w := s_wind g (g 7)) Wb0 h) e6
      refine ⟨κ, k1, ?_⟩
      rw [s_buf_out (j := 7) Wb0 (by omega) (by omega)] at k2
      rw [← s_buf_inc Wb0] at k2
      exact KR_congr k2 (fun j hj => s_try_out (Ws_congr W.2.2.2.1 (s_f3_out Wb0 (by omega) (by omega) (by omega)) (fun j h1 h2 => s_f3_out Wb0 (by omega) (by omega) (by omega))) (by omega) (by omega))
    · rw [if_neg c1]
      exact ⟨M p, by rw [C_Kpass0 h c1 c2, setR_same], h⟩
theorem C_gustOf {M : Mem} {g : Row} {t : Nat} (W : Wg g) (ht : t < 2 ^ 31) (h2 : M 10 2 = g 5) (hg : ∀ k, k < cn (g 5) → M 12 k = g (21 + k)) : f_T_gustOf 10 (nI t) M = some (s_gust g (nI t), M) := by
  obtain ⟨-, ⟨n, h1, h16, h5, -⟩, -⟩ := W
  have hm := mod_lt (n := n) (a := t) (by omega)
  rw [h5, cn_nI (by omega)] at hg
  unfold f_T_gustOf
  rw [h2, h5, if_pos (by rw [← nI_0]; exact nI_lt (by omega) (by omega)), grd_of (nzB_nI (by omega) (by omega)), irm_nI ht (by omega) (by omega), show (10 + 2 : Nat) = 12 from rfl, C_valueAt (a := 12) (by show _ < 16; omega) (by decide), bnd_s, s_gust_v ht h1 h16 h5, hg _ hm]
theorem C_sample {M : Mem} {g : Row} (W : Wb g) (Wl : Ws 30 45 17 g) (h : LR 30 45 17 (M 15) (M 16) (M 17) (M 18) g) (h6 : M 15 6 = g 20) : ∃ s ta ha ga : Row, f_S_add 15 (g 0) (g 7) (s_great g) M = some (setR (setR (setR (setR M 16 ta) 17 ha) 18 ga) 15 s) ∧ s 6 = s_sample g 20 ∧ LR 30 45 17 s ta ha ga (s_sample g) := by
  have hz : zn (15 + 1) = 30 ∧ zn (15 + 2) = 30 ∧ zn (15 + 3) = 30 := ⟨rfl, rfl, rfl⟩
  unfold s_sample
  rcases Ws_split Wl with ⟨c, hc, e⟩ | e
  · rw [LR_g (c := c) (by omega) e] at h
    obtain ⟨s, ta, ha, ga, a1, a2, a3⟩ := C_Sadd1 (t := g 0) (x := g 7) (v := s_great g) (by omega) (by omega) hc hz h
    refine ⟨s, ta, ha, ga, a1, ?_, ?_⟩
    · rw [a2, h6, if_neg (by rw [e]; exact fun e => by have := (nI_eq (by omega) (by omega)).mp (e.trans (show (30 : Int32) = nI 30 from rfl)); omega)]
      rw [s_smp_at hc e, if_neg (by omega), if_neg (by omega), if_neg (by omega), if_neg (by omega), if_neg (by omega)]
    · rw [if_neg (by rw [e]; exact fun e => by have := (nI_eq (by omega) (by omega)).mp (e.trans (show (30 : Int32) = nI 30 from rfl)); omega)]
      rw [LR_g (c := c + 1) (by omega) (by rw [s_smp_at hc e, if_neg (by omega), if_pos rfl])]
      refine LRg_congr a3 (fun k hk => ?_)
      by_cases q : k = c
      · subst q
        rw [pk_us, pk_us, pk_us, s_smp_at hc e, s_smp_at hc e, s_smp_at hc e]
        refine ⟨?_, ?_, ?_⟩
        · rw [if_neg (by omega), if_neg (by omega), if_neg (by omega), if_neg (by omega), if_pos rfl]
        · rw [if_neg (by omega), if_neg (by omega), if_neg (by omega), if_pos rfl]
        · rw [if_neg (by omega), if_neg (by omega), if_pos rfl]
      · rw [pk_un q, pk_un q, pk_un q, s_smp_at hc e, s_smp_at hc e, s_smp_at hc e]
        refine ⟨?_, ?_, ?_⟩
        · rw [if_neg (by omega), if_neg (by omega), if_neg (by omega), if_neg (by omega), if_neg (by omega)]
        · rw [if_neg (by omega), if_neg (by omega), if_neg (by omega), if_neg (by omega), if_neg (by omega)]
        · rw [if_neg (by omega), if_neg (by omega), if_neg (by omega), if_neg (by omega), if_neg (by omega)]
  · rw [LR_g (c := 30) (by omega) e] at h
    obtain ⟨s, ta, ha, ga, a1, a2, a3⟩ := C_Sadd2 (t := g 0) (x := g 7) (v := s_great g) (by omega) (by omega) hz h
    have eg : s_great (s_drop g) = s_great g := s_great_congr W (by rw [s_drop_at e, if_neg (by omega), if_neg (by omega), if_neg (by omega)]) (fun k hk => by rw [s_drop_at e, if_neg (by omega), if_neg (by omega), if_neg (by omega)])
    have d17 := s_drop_17 e
    refine ⟨s, ta, ha, ga, a1, ?_, ?_⟩
    · rw [a2, h6, if_pos e]
      rw [s_smp_at (c := 29) (by omega) d17, if_neg (by omega), if_neg (by omega), if_neg (by omega), if_neg (by omega), if_neg (by omega), s_drop_at e, if_neg (by omega), if_pos rfl]
    · rw [if_pos e, LR_g (c := 30) (by omega) (by rw [s_smp_at (c := 29) (by omega) d17, if_neg (by omega), if_pos rfl])]
      refine LRg_congr a3 (fun k hk => ?_)
      rw [s_smp_at (c := 29) (by omega) d17, s_smp_at (c := 29) (by omega) d17, s_smp_at (c := 29) (by omega) d17]
      by_cases q : k = 29
      · subst q
        refine ⟨?_, ?_, ?_⟩
        · rw [if_pos rfl, if_neg (by omega), if_neg (by omega), if_neg (by omega), if_neg (by omega), if_pos rfl, s_drop_at e, if_neg (by omega), if_neg (by omega), if_neg (by omega)]
        · rw [if_pos rfl, if_neg (by omega), if_neg (by omega), if_neg (by omega), if_pos rfl, s_drop_at e, if_neg (by omega), if_neg (by omega), if_neg (by omega)]
        · rw [if_pos rfl, if_neg (by omega), if_neg (by omega), if_pos rfl, eg]
      · refine ⟨?_, ?_, ?_⟩
        · rw [if_neg (by omega), if_neg (by omega), if_neg (by omega), if_neg (by omega), if_neg (by omega), if_neg (by omega), s_drop_at e, if_pos (by omega)]; congr 1
        · rw [if_neg (by omega), if_neg (by omega), if_neg (by omega), if_neg (by omega), if_neg (by omega), if_neg (by omega), s_drop_at e, if_pos (by omega)]; congr 1
        · rw [if_neg (by omega), if_neg (by omega), if_neg (by omega), if_neg (by omega), if_neg (by omega), if_neg (by omega), s_drop_at e, if_pos (by omega)]; congr 1
