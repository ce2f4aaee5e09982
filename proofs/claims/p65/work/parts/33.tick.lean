/-! a tick of the reference -/
theorem Wg_wind {g : Row} (W : Wg g) (h7 : ∃ h, h ≤ 600 ∧ g 7 = nI h) : ∃ v, v ≤ 36 ∧ s_wind g (g 7) = nI v := by
  obtain ⟨⟨t, ht, h0, -⟩, ⟨n, h1, h2, h5, hg⟩, -⟩ := W
  obtain ⟨h, hh, e7⟩ := h7
  unfold s_wind
  have hm := Nat.mod_lt t (show 0 < n by omega)
  obtain ⟨v, hv, ev⟩ := hg (t % n) hm
  rw [h0, s_gust_v (by omega) h1 h2 h5, ev, e7, show nI h / 100 = nI (h / 100) from pk_div (d := 100) (by omega) (by omega) (by omega), nI_add]
  exact ⟨_, by omega, rfl⟩
/-- the steps of a tick in the air -/
abbrev s_f1 (w : Int32) (g : Row) : Row := s_buf w (inc g 12)
abbrev s_f2 (w : Int32) (g : Row) : Row := s_strain w (s_f1 w g)
abbrev s_f3 (w : Int32) (g : Row) : Row := s_cl w (s_f2 w g)
theorem Wb_inc12 {g : Row} (W : Wb g) : Wb (inc g 12) := Wb_congr W (by rw [inc_at, if_neg (by decide)]) (fun k hk => by rw [inc_at, if_neg (by omega)])
theorem s_f3_out {g : Row} {w : Int32} {j : Nat} (W : Wb g) (h : j ≠ 6 ∧ j ≠ 7 ∧ j ≠ 8 ∧ j ≠ 10 ∧ j ≠ 11 ∧ j ≠ 14) (h2 : j ≠ 9 ∧ j ≠ 12 ∧ j ≠ 16) (h3 : j < 37 ∨ 45 ≤ j) : s_f3 w g j = g j := by
  show s_cl w (s_f2 w g) j = g j
  rw [s_cl_at h.1 h.2.1]
  show s_strain w (s_f1 w g) j = g j
  rw [s_strain_at h h2.1]
  show s_buf w (inc g 12) j = g j
  rw [s_buf_out (Wb_inc12 W) h2.2.2 h3, inc_at, if_neg h2.2.1]
theorem s_f3_b {g : Row} {w : Int32} {j : Nat} (h : j = 16 ∨ (37 ≤ j ∧ j < 45)) : s_f3 w g j = s_f1 w g j := by
  show s_cl w (s_f2 w g) j = s_f1 w g j
  rw [s_cl_at (by omega) (by omega)]
  show s_strain w (s_f1 w g) j = s_f1 w g j
  rw [s_strain_at (by omega) (by omega)]
theorem s_f3_Wb {g : Row} {w : Int32} (W : Wb g) (hw : ∃ v, v ≤ 36 ∧ w = nI v) : Wb (s_f3 w g) := Wb_congr (s_buf_W (Wb_inc12 W) hw) (s_f3_b (by omega)) (fun k hk => s_f3_b (by omega))
theorem s_f1_Wk {g : Row} {w : Int32} (Wb0 : Wb g) (W : Wk g) : Wk (s_f1 w g) := Wk_congr W (fun j hj => by
  show s_buf w (inc g 12) j = g j
  rw [s_buf_out (Wb_inc12 Wb0) (by omega) (by omega), inc_at, if_neg (by omega)])
theorem s_f3_Wk {g : Row} {w : Int32} (Wb0 : Wb g) (W : Wk g) (hw : ∃ v, v ≤ 36 ∧ w = nI v) : Wk (s_f3 w g) := s_cl_W (s_strain_W (s_f1_Wk Wb0 W)) hw
theorem s_f3_14 {g : Row} {w : Int32} {t : Nat} (Wb0 : Wb g) (h : ∃ s, s ≤ t ∧ g 14 = nI s) : ∃ s, s ≤ t + 1 ∧ s_f3 w g 14 = nI s := by
  have : s_f1 w g 14 = g 14 := by
    show s_buf w (inc g 12) 14 = g 14
    rw [s_buf_out (Wb_inc12 Wb0) (by omega) (by omega), inc_at, if_neg (by omega)]
  show ∃ s, s ≤ t + 1 ∧ s_cl w (s_f2 w g) 14 = nI s
  rw [s_cl_at (by decide) (by decide)]
  exact s_strain_14 (by rw [this]; exact h)
section REF
variable {N N0 rr : Nat} {M : Mem}
theorem R_try (hN : 8 < N) (W : Wb (M rr)) (Wl : Ws 30 45 17 (M rr)) (h4 : ∃ i, 1 ≤ i ∧ i ≤ 20 ∧ M rr 4 = nI i) {o : Mem → Option Mem} : (if M rr 6 = 1 then (grd (nzB (M rr 4)) (if irm (M rr 12) (M rr 4) = 0 then (bndM (f_M_makeSample N rr M) o) else o M)) else o M) = o (setR M rr (s_try (M rr))) := by
  unfold s_try
  by_cases c : M rr 6 = 1
  · obtain ⟨i, h1, h2, e4⟩ := h4
    rw [if_pos c, if_pos c, grd_of (by rw [e4]; exact nzB_nI (by omega) (by omega))]
    by_cases d : irm (M rr 12) (M rr 4) = 0
    · rw [if_pos d, if_pos d, R_sample hN W Wl, bndM_s]
    · rw [if_neg d, if_neg d, setR_same]
  · rw [if_neg c, if_neg c, setR_same]
theorem R_fly (hN : 8 < N) (W : WF (M rr)) : f_M_fly N rr M = some (setR M rr (s_fly (M rr))) := by
  obtain ⟨Wg0, Wk0, Wb0, Wl0, -⟩ := W
  have hw := Wg_wind Wg0 Wk0.2.1
  unfold f_M_fly s_fly
  rw [R_windNow Wg0, bnd_s, nm_eq]
  generalize s_wind (M rr) (M rr 7) = w at hw ⊢
  have hWb3 := s_f3_Wb Wb0 hw
  have e1 : put M rr 12 (M rr 12 + 1) = setR M rr (inc (M rr) 12) := rfl
  rw [e1, R_buf (by rw [setR_self]; exact Wb_inc12 Wb0), setR_setR, setR_self, bndM_s, R_strain, setR_self, setR_setR, bndM_s, R_is, setR_self, bnd_s]
  have h4 : ∃ i, 1 ≤ i ∧ i ≤ 20 ∧ s_f3 w (M rr) 4 = nI i := by rw [s_f3_out Wb0 (by omega) (by omega) (by omega)]; exact Wg0.2.2
  have hl : Ws 30 45 17 (s_f3 w (M rr)) := Ws_congr Wl0 (s_f3_out Wb0 (by omega) (by omega) (by omega)) (fun j h1 h2 => s_f3_out Wb0 (by omega) (by omega) (by omega))
  have key := R_try (N := N) (rr := rr) (M := setR M rr (s_f3 w (M rr))) hN (by rw [setR_self]; exact hWb3) (by rw [setR_self]; exact hl) (by rw [setR_self]; exact h4) (o := fun M => some M)
  rw [setR_self, setR_setR] at key
  by_cases c : s_f2 w (M rr) 6 = 1
  · rw [if_pos (decide_eq_true c), R_climb, setR_self, setR_setR, bndM_s, R_is, setR_self, bnd_s]
    have e3 : s_f3 w (M rr) = s_climb w (s_f2 w (M rr)) := if_pos c
    rw [e3] at key
    show (if decide (s_climb w (s_f2 w (M rr)) 6 = 1) = true then _ else _) = some (setR M rr (s_try (s_f3 w (M rr))))
    rw [e3, ← key]
    by_cases d : s_climb w (s_f2 w (M rr)) 6 = 1
    · rw [if_pos (decide_eq_true d), if_pos d]
      simp only [setR_self]
    · rw [if_neg (by rw [decide_eq_false d]; decide), if_neg d]
  · rw [if_neg (by rw [decide_eq_false c]; decide), R_is, setR_self, bnd_s]
    have e3 : s_f3 w (M rr) = s_f2 w (M rr) := if_neg c
    rw [e3] at key
    show (if decide (s_f2 w (M rr) 6 = 1) = true then _ else _) = some (setR M rr (s_try (s_f3 w (M rr))))
    rw [e3, ← key, if_neg c, if_neg (by rw [decide_eq_false c]; decide)]
theorem R_pass1 (hN : 8 < N) (W : WF (M rr)) : f_M_passTick N rr M = some (setR M rr (s_pass (M rr))) := by
  unfold f_M_passTick s_pass s_tk
  by_cases c : M rr 0 = 10000
  · rw [if_pos c, if_pos c, setR_same]
  · rw [if_neg c, if_neg c, R_is, bnd_s]
    by_cases d : M rr 6 = 2
    · rw [if_pos (decide_eq_true d), if_pos d, f_most_s, bnd_s, nm_eq, nm_eq, put_setR, put_setR, setR_setR, setR_self]
      rfl
    · rw [if_neg (by rw [decide_eq_false d]; decide), if_neg d, R_is, bnd_s]
      by_cases e : M rr 6 = 1
      · rw [if_pos (decide_eq_true e), if_pos e, R_fly hN W, bndM_s, nm_eq, put_setR, setR_setR, setR_self]
        rfl
      · rw [if_neg (by rw [decide_eq_false e]; decide), if_neg e, nm_eq, put_setR]
        rfl
end REF
/-! what holds of a row is kept by a tick -/
theorem s_try_out {g : Row} {j : Nat} (W : Ws 30 45 17 g) (h : j ≠ 17 ∧ j ≠ 19 ∧ j ≠ 20) (h2 : j < 45 ∨ 135 ≤ j) : s_try g j = g j := by
  unfold s_try
  by_cases c : g 6 = 1
  · rw [if_pos c]
    by_cases d : irm (g 12) (g 4) = 0
    · rw [if_pos d, s_sample_out W h h2]
    · rw [if_neg d]
  · rw [if_neg c]
theorem s_try_W {g : Row} (W : Ws 30 45 17 g) (Wb0 : Wb g) (h0 : ∃ t, t ≤ 9999 ∧ g 0 = nI t) (h7 : ∃ v, v ≤ 600 ∧ g 7 = nI v) : Ws 30 45 17 (s_try g) := by
  unfold s_try
  by_cases c : g 6 = 1
  · rw [if_pos c]
    by_cases d : irm (g 12) (g 4) = 0
    · rw [if_pos d]; exact s_sample_W W Wb0 h0 h7
    · rw [if_neg d]; exact W
  · rw [if_neg c]; exact W
theorem s_try_19 {g : Row} {t : Nat} (W : Ws 30 45 17 g) (h : ∃ m, m ≤ t ∧ g 19 = nI m) : ∃ m, m ≤ t + 1 ∧ s_try g 19 = nI m := by
  have h' : ∃ m, m ≤ t + 1 ∧ g 19 = nI m := by obtain ⟨m, hm, e⟩ := h; exact ⟨m, by omega, e⟩
  unfold s_try
  by_cases c : g 6 = 1
  · rw [if_pos c]
    by_cases d : irm (g 12) (g 4) = 0
    · rw [if_pos d]; exact s_sample_19 W h
    · rw [if_neg d]; exact h'
  · rw [if_neg c]; exact h'
theorem s_fly_out {g : Row} {j : Nat} (W : WF g) (h : j ≠ 6 ∧ j ≠ 7 ∧ j ≠ 8 ∧ j ≠ 10 ∧ j ≠ 11 ∧ j ≠ 14) (h2 : j ≠ 9 ∧ j ≠ 12 ∧ j ≠ 16) (h3 : j < 37 ∨ 135 ≤ j) (h4 : j ≠ 17 ∧ j ≠ 19 ∧ j ≠ 20) : s_fly g j = g j := by
  obtain ⟨Wg0, Wk0, Wb0, Wl0, -⟩ := W
  show s_try (s_f3 (s_wind g (g 7)) g) j = g j
  rw [s_try_out (Ws_congr Wl0 (s_f3_out Wb0 (by omega) (by omega) (by omega)) (fun j h1 h2 => s_f3_out Wb0 (by omega) (by omega) (by omega))) h4 (by omega), s_f3_out Wb0 h h2 (by omega)]
theorem s_fly_W {g : Row} {t : Nat} (W : WF g) (ht : t ≤ 9999) (h0 : g 0 = nI t) : (∃ s, s ≤ t + 1 ∧ s_fly g 14 = nI s) ∧ (∃ m, m ≤ t + 1 ∧ s_fly g 19 = nI m) ∧ Wk (s_fly g) ∧ Wb (s_fly g) ∧ Ws 30 45 17 (s_fly g) := by
  obtain ⟨Wg0, Wk0, Wb0, Wl0, -⟩ := W
  have hw := Wg_wind Wg0 Wk0.2.1
  obtain ⟨⟨t', ht', h0', hs, hm⟩, -, -⟩ := Wg0
  obtain rfl : t' = t := (nI_eq (by omega) (by omega)).mp (h0'.symm.trans h0)
  show (∃ s, s ≤ t' + 1 ∧ s_try (s_f3 (s_wind g (g 7)) g) 14 = nI s) ∧ (∃ m, m ≤ t' + 1 ∧ s_try (s_f3 (s_wind g (g 7)) g) 19 = nI m) ∧ Wk (s_try (s_f3 (s_wind g (g 7)) g)) ∧ Wb (s_try (s_f3 (s_wind g (g 7)) g)) ∧ Ws 30 45 17 (s_try (s_f3 (s_wind g (g 7)) g))
  generalize s_wind g (g 7) = w at hw ⊢
  have hl : Ws 30 45 17 (s_f3 w g) := Ws_congr Wl0 (s_f3_out Wb0 (by omega) (by omega) (by omega)) (fun j h1 h2 => s_f3_out Wb0 (by omega) (by omega) (by omega))
  have hb := s_f3_Wb Wb0 hw
  have hk := s_f3_Wk Wb0 Wk0 hw
  refine ⟨?_, ?_, ?_, ?_, ?_⟩
  · rw [s_try_out hl (by omega) (by omega)]; exact s_f3_14 Wb0 hs
  · exact s_try_19 hl (by rw [s_f3_out Wb0 (by omega) (by omega) (by omega)]; exact hm)
  · exact Wk_congr hk (fun j hj => s_try_out hl (by omega) (by omega))
  · exact Wb_congr hb (s_try_out hl (by omega) (by omega)) (fun k hk => s_try_out hl (by omega) (by omega))
  · exact s_try_W hl hb ⟨t', ht, by rw [s_f3_out Wb0 (by omega) (by omega) (by omega)]; exact h0⟩ hk.2.1
theorem Wg_next {g g' : Row} {t : Nat} (W : Wg g) (ht : t ≤ 9999) (h0 : g 0 = nI t) (e0 : g' 0 = nI (t + 1)) (e14 : ∃ s, s ≤ t + 1 ∧ g' 14 = nI s) (e19 : ∃ m, m ≤ t + 1 ∧ g' 19 = nI m) (he : ∀ j, j = 4 ∨ j = 5 ∨ (21 ≤ j ∧ j < 37) → g' j = g j) : Wg g' := by
  obtain ⟨-, ⟨n, h1, h2, h5, hg⟩, ⟨i, h3, h4, e4⟩⟩ := W
  refine ⟨⟨t + 1, by omega, e0, e14, e19⟩, ⟨n, h1, h2, by rw [he 5 (by omega)]; exact h5, fun k hk => by rw [he _ (by omega)]; exact hg k hk⟩, ⟨i, h3, h4, by rw [he 4 (by omega)]; exact e4⟩⟩
theorem s_pass_W {g : Row} (W : WF g) : WF (s_pass g) := by
  have W0 := W
  unfold s_pass
  by_cases c : g 0 = 10000
  · rw [if_pos c]; exact W
  · rw [if_neg c]
    obtain ⟨Wg0, Wk0, Wb0, Wl0, Wa0⟩ := W
    obtain ⟨t, ht, h0, hs, hm⟩ := Wg0.1
    have ht9 : t ≤ 9999 := by
      rcases Nat.lt_or_ge t 10000 with q | q
      · omega
      · exact absurd (by rw [h0, show t = 10000 from by omega]; rfl) c
    have hs1 : ∃ s, s ≤ t + 1 ∧ g 14 = nI s := by obtain ⟨m, hm, e⟩ := hs; exact ⟨m, by omega, e⟩
    have hm1 : ∃ s, s ≤ t + 1 ∧ g 19 = nI s := by obtain ⟨m, hm, e⟩ := hm; exact ⟨m, by omega, e⟩
    unfold s_tk
    by_cases d : g 6 = 2
    · rw [if_pos d]
      have o : ∀ j, j ≠ 0 → j ≠ 11 → inc (upd g 11 (imax 0 (g 11 - 1))) 0 j = g j := fun j h1 h2 => by rw [inc_at, if_neg h1, upd_at, if_neg h2]
      refine ⟨Wg_next Wg0 ht9 h0 ?_ (by rw [o _ (by omega) (by omega)]; exact hs1) (by rw [o _ (by omega) (by omega)]; exact hm1) (fun j hj => o j (by omega) (by omega)), ?_, Wb_congr Wb0 (o _ (by omega) (by omega)) (fun k hk => o _ (by omega) (by omega)), Ws_congr Wl0 (o _ (by omega) (by omega)) (fun j h1 h2 => o _ (by omega) (by omega)), Ws_congr Wa0 (o _ (by omega) (by omega)) (fun j h1 h2 => o _ (by omega) (by omega))⟩
      · show upd g 11 (imax 0 (g 11 - 1)) 0 + 1 = _
        rw [upd_at, if_neg (by decide), h0, nI_1]
      · obtain ⟨k6, k7, k8, b, hb, e11⟩ := Wk0
        refine ⟨by rw [o _ (by omega) (by omega)]; exact k6, by rw [o _ (by omega) (by omega)]; exact k7, by rw [o _ (by omega) (by omega)]; exact k8, ?_⟩
        rw [inc_at, if_neg (by decide), upd_at, if_pos rfl, e11, show nI b - 1 = nI b - nI 1 from rfl, imax0_sub (by omega) (by omega)]
        exact ⟨_, by omega, rfl⟩
    · rw [if_neg d]
      by_cases e : g 6 = 1
      · rw [if_pos e]
        obtain ⟨f1, f2, f3, f4, f5⟩ := s_fly_W W0 ht9 h0
        have o : ∀ j, j ≠ 0 → inc (s_fly g) 0 j = s_fly g j := fun j h1 => by rw [inc_at, if_neg h1]
        refine ⟨Wg_next Wg0 ht9 h0 ?_ (by rw [o _ (by omega)]; exact f1) (by rw [o _ (by omega)]; exact f2) (fun j hj => by rw [o j (by omega)]; exact s_fly_out W0 (by omega) (by omega) (by omega) (by omega)), Wk_congr f3 (fun j hj => o j (by omega)), Wb_congr f4 (o _ (by omega)) (fun k hk => o _ (by omega)), Ws_congr f5 (o _ (by omega)) (fun j h1 h2 => o _ (by omega)), Ws_congr Wa0 ?_ (fun j h1 h2 => ?_)⟩
        · rw [inc_at, if_pos rfl, s_fly_out W0 (by omega) (by omega) (by omega) (by omega), h0, nI_1]
        · rw [o _ (by omega)]; exact s_fly_out W0 (by omega) (by omega) (by omega) (by omega)
        · rw [o _ (by omega)]; exact s_fly_out W0 (by omega) (by omega) (by omega) (by omega)
      · rw [if_neg e]
        have o : ∀ j, j ≠ 0 → inc g 0 j = g j := fun j h1 => by rw [inc_at, if_neg h1]
        refine ⟨Wg_next Wg0 ht9 h0 (by rw [inc_at, if_pos rfl, h0, nI_1]) (by rw [o _ (by omega)]; exact hs1) (by rw [o _ (by omega)]; exact hm1) (fun j hj => o j (by omega)), Wk_congr Wk0 (fun j hj => o j (by omega)), Wb_congr Wb0 (o _ (by omega)) (fun k hk => o _ (by omega)), Ws_congr Wl0 (o _ (by omega)) (fun j h1 h2 => o _ (by omega)), Ws_congr Wa0 (o _ (by omega)) (fun j h1 h2 => o _ (by omega))⟩
/-- many ticks -/
def itr (f : Row → Row) : Nat → Row → Row
  | 0, g => g
  | n + 1, g => itr f n (f g)
theorem itr_W {n : Nat} : ∀ {g : Row}, WF g → WF (itr s_pass n g) := by
  induction n with
  | zero => exact fun h => h
  | succ n ih => exact fun h => ih (s_pass_W h)
theorem lpR_pass {N0 rr n : Nat} {k2 : Int32 → Mem → Option Mem} (hn : n < 2 ^ 31) (hN0 : 8 < N0) : ∀ (d i N : Nat) (M : Mem), i + d = n → d < N → WF (M rr) → lp_M_pass_2 N0 rr (nI n) N (nI i) M k2 = k2 (nI n) (setR M rr (itr s_pass d (M rr))) := by
  intro d
  induction d with
  | zero =>
    intro i N M hi hN W
    obtain ⟨N, rfl⟩ : ∃ n, N = n + 1 := ⟨N - 1, by omega⟩
    obtain rfl : i = n := by omega
    unfold lp_M_pass_2
    rw [if_neg (nI_nlt (Nat.le_refl _) (by omega))]
    show _ = k2 (nI i) (setR M rr (M rr))
    rw [setR_same]
  | succ d ih =>
    intro i N M hi hN W
    obtain ⟨N, rfl⟩ : ∃ n, N = n + 1 := ⟨N - 1, by omega⟩
    unfold lp_M_pass_2
    rw [if_pos (nI_lt (by omega) (by omega)), R_pass1 hN0 W, bndM_s, nm_eq, nI_1, ih (i + 1) N _ (by omega) (by omega) (by rw [setR_self]; exact s_pass_W W), setR_self, setR_setR]
    rfl
theorem R_pass {N rr n : Nat} {M : Mem} (hn : n < 2 ^ 31) (hN0 : 8 < N) (hN : n < N) (W : WF (M rr)) : f_M_pass N rr (nI n) M = some (setR M rr (itr s_pass n (M rr))) := by
  unfold f_M_pass
  rw [← nI_0, lpR_pass hn hN0 n 0 N M (by omega) hN W]
