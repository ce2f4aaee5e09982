/-! what the reference's steps do to a row, place by place; what holds of rows is kept -/
theorem s_app_at {g : Row} {w : Int32} {c j : Nat} (hc : c < 8) (h : g 16 = nI c) : s_app w g j = if j = 16 then nI (c + 1) else if j = 37 + c then w else g j := by
  unfold s_app inc
  rw [h, q37, nI_clamp (by omega), upd_at]
  by_cases e : j = 16
  · rw [if_pos e, if_pos e, upd_at, if_neg (by omega), h, nI_1]
  · rw [if_neg e, if_neg e, upd_at]
theorem s_buf_small {g : Row} {w : Int32} {c j : Nat} (hc : c < 8) (h : g 16 = nI c) : s_buf w g j = if j = 16 then nI (c + 1) else if j = 37 + c then w else g j := by
  unfold s_buf
  rw [if_neg (by rw [h]; exact fun e => by have := (nI_eq (by omega) (by omega)).mp (e.trans (show (8 : Int32) = nI 8 from rfl)); omega)]
  exact s_app_at hc h
theorem s_buf_full {g : Row} {w : Int32} {j : Nat} (h : g 16 = 8) : s_buf w g j = if j = 16 then nI 8 else if j = 44 then w else if 37 ≤ j ∧ j < 44 then g (j + 1) else g j := by
  unfold s_buf
  rw [if_pos h, s_app_at (c := 7) (by omega) (by rw [pk_cpy_out (by omega), upd_at, if_pos rfl, h]; rfl)]
  by_cases e : j = 16
  · rw [if_pos e, if_pos e]
  · rw [if_neg e, if_neg e]
    by_cases e2 : j = 44
    · rw [if_pos (by omega), if_pos e2]
    · rw [if_neg (by omega), if_neg e2]
      by_cases e3 : 37 ≤ j ∧ j < 44
      · rw [if_pos e3, pk_cpy_in (by omega) (by omega), upd_at, if_neg (by omega)]
        congr 1
        omega
      · rw [if_neg e3, pk_cpy_out (by omega), upd_at, if_neg e]
theorem Wb_split {g : Row} (W : Wb g) : (∃ c, c < 8 ∧ g 16 = nI c) ∨ g 16 = 8 := by
  obtain ⟨c, hc, h, -⟩ := W
  rcases Nat.lt_or_ge c 8 with q | q
  · exact Or.inl ⟨c, q, h⟩
  · exact Or.inr (by rw [h, show c = 8 from by omega]; rfl)
theorem s_buf_out {g : Row} {w : Int32} {j : Nat} (W : Wb g) (h : j ≠ 16) (h2 : j < 37 ∨ 45 ≤ j) : s_buf w g j = g j := by
  rcases Wb_split W with ⟨c, hc, e⟩ | e
  · rw [s_buf_small hc e, if_neg h, if_neg (by omega)]
  · rw [s_buf_full e, if_neg h, if_neg (by omega), if_neg (by omega)]
theorem s_buf_W {g : Row} {w : Int32} (W : Wb g) (hw : ∃ v, v ≤ 36 ∧ w = nI v) : Wb (s_buf w g) := by
  have W0 := W
  obtain ⟨c, hc, h, hv⟩ := W
  rcases Nat.lt_or_ge c 8 with q | q
  · refine ⟨c + 1, by omega, by rw [s_buf_small q h, if_pos rfl], fun k hk => ?_⟩
    rw [s_buf_small q h, if_neg (by omega)]
    by_cases e : k = c
    · rw [if_pos (by omega)]; exact hw
    · rw [if_neg (by omega)]; exact hv k (by omega)
  · have e8 : g 16 = 8 := by rw [h, show c = 8 from by omega]; rfl
    refine ⟨8, by omega, by rw [s_buf_full e8, if_pos rfl], fun k hk => ?_⟩
    rw [s_buf_full e8, if_neg (by omega)]
    by_cases e : k = 7
    · rw [if_pos (by omega)]; exact hw
    · rw [if_neg (by omega), if_pos (by omega), show 37 + k + 1 = 37 + (k + 1) from by omega]; exact hv (k + 1) (by omega)
theorem s_str_at {g : Row} {w : Int32} {j : Nat} (h : j ≠ 9) : s_str w g j = g j := if_neg h
theorem s_snap_at {g : Row} {w : Int32} {j : Nat} (h : j ≠ 6 ∧ j ≠ 7 ∧ j ≠ 8 ∧ j ≠ 10 ∧ j ≠ 11 ∧ j ≠ 14) : s_snap w g j = g j := by
  obtain ⟨h1, h2, h3, h4, h5, h6⟩ := h
  unfold s_snap
  simp only [upd_at]
  rw [if_neg h6, if_neg h5, if_neg h3, if_neg h2, if_neg h4, if_neg h1]
theorem s_strain_or {g : Row} {w : Int32} : s_strain w g = s_str w g ∨ s_strain w g = s_snap w (s_str w g) := by
  unfold s_strain
  by_cases c : s_str w g 9 < s_str w g 3
  · exact Or.inl (if_pos c)
  · exact Or.inr (if_neg c)
theorem s_strain_at {g : Row} {w : Int32} {j : Nat} (h : j ≠ 6 ∧ j ≠ 7 ∧ j ≠ 8 ∧ j ≠ 10 ∧ j ≠ 11 ∧ j ≠ 14) (h9 : j ≠ 9) : s_strain w g j = g j := by
  rcases s_strain_or (g := g) (w := w) with e | e
  · rw [e, s_str_at h9]
  · rw [e, s_snap_at h, s_str_at h9]
theorem s_cl_at {g : Row} {w : Int32} {j : Nat} (h6 : j ≠ 6) (h7 : j ≠ 7) : s_cl w g j = g j := by
  unfold s_cl s_climb
  by_cases c : g 6 = 1
  · rw [if_pos c]
    by_cases d : s_hgt w g = 0
    · rw [if_pos d, upd_at, if_neg h6, upd_at, if_neg h7]
    · rw [if_neg d, upd_at, if_neg h7]
  · rw [if_neg c]
theorem s_hgt_W {g : Row} {w : Int32} (W : Wk g) (hw : ∃ v, v ≤ 36 ∧ w = nI v) : ∃ h, h ≤ 600 ∧ s_hgt w g = nI h := by
  obtain ⟨-, ⟨h, hh, e7⟩, ⟨t, ht, e8⟩, -⟩ := W
  obtain ⟨v, hv, rfl⟩ := hw
  unfold s_hgt
  rw [e7, e8]
  by_cases c : v < 5
  · rw [if_pos (by show nI v < nI 5; exact nI_lt c (by omega)), show (6 : Int32) - nI v = nI (6 - v) from pk_sub (a := 6) (by omega), imax0_sub (by omega) (by omega)]
    exact ⟨_, by omega, rfl⟩
  · rw [if_neg (by show ¬ nI v < nI 5; exact nI_nlt (by omega) (by omega)), nI_add, imin_nI (by omega) (by omega)]
    exact ⟨_, by omega, rfl⟩
theorem s_cl_W {g : Row} {w : Int32} (W : Wk g) (hw : ∃ v, v ≤ 36 ∧ w = nI v) : Wk (s_cl w g) := by
  have hh := s_hgt_W W hw
  obtain ⟨h6, h7, h8, h11⟩ := W
  refine ⟨?_, ?_, by rw [s_cl_at (by decide) (by decide)]; exact h8, by rw [s_cl_at (by decide) (by decide)]; exact h11⟩
  · unfold s_cl s_climb
    by_cases c : g 6 = 1
    · rw [if_pos c]
      by_cases d : s_hgt w g = 0
      · rw [if_pos d, upd_at, if_pos rfl]; exact Or.inl rfl
      · rw [if_neg d, upd_at, if_neg (by decide)]; exact h6
    · rw [if_neg c]; exact h6
  · unfold s_cl s_climb
    by_cases c : g 6 = 1
    · rw [if_pos c]
      by_cases d : s_hgt w g = 0
      · rw [if_pos d, upd_at, if_neg (by decide), upd_at, if_pos rfl]; exact hh
      · rw [if_neg d, upd_at, if_pos rfl]; exact hh
    · rw [if_neg c]; exact h7
theorem s_strain_W {g : Row} {w : Int32} (W : Wk g) : Wk (s_strain w g) := by
  obtain ⟨h6, h7, h8, h11⟩ := W
  rcases s_strain_or (g := g) (w := w) with e | e
  · rw [e]; exact ⟨h6, h7, h8, h11⟩
  · rw [e]; exact ⟨Or.inr (Or.inr rfl), ⟨0, by omega, rfl⟩, ⟨0, by omega, rfl⟩, ⟨120, by omega, rfl⟩⟩
theorem s_strain_14 {g : Row} {w : Int32} {t : Nat} (h : ∃ s, s ≤ t ∧ g 14 = nI s) : ∃ s, s ≤ t + 1 ∧ s_strain w g 14 = nI s := by
  obtain ⟨s, hs, e14⟩ := h
  rcases s_strain_or (g := g) (w := w) with e | e
  · rw [e]; exact ⟨s, by omega, e14⟩
  · rw [e]; exact ⟨s + 1, by omega, by show g 14 + 1 = _; rw [e14, nI_1]⟩
theorem s_smp_at {g : Row} {c j : Nat} (hc : c < 30) (h : g 17 = nI c) : s_smp g j = if j = 19 then g 19 + 1 else if j = 17 then nI (c + 1) else if j = 45 + 3 * c + 2 then s_great g else if j = 45 + 3 * c + 1 then g 7 else if j = 45 + 3 * c then g 0 else g j := by
  unfold s_smp
  rw [h, cn_nI (by omega), inc_at]
  by_cases e : j = 19
  · rw [if_pos e, if_pos e, inc_at, if_neg (by omega), upd_at, if_neg (by omega), upd_at, if_neg (by omega), upd_at, if_neg (by omega)]
  · rw [if_neg e, if_neg e, inc_at]
    by_cases e2 : j = 17
    · rw [if_pos e2, if_pos e2, upd_at, if_neg (by omega), upd_at, if_neg (by omega), upd_at, if_neg (by omega), h, nI_1]
    · rw [if_neg e2, if_neg e2, upd_at, upd_at, upd_at]
theorem s_drop_at {g : Row} {j : Nat} (h : g 17 = 30) : s_drop g j = if 45 ≤ j ∧ j < 132 then g (j + 3) else if j = 20 then g 20 + 1 else if j = 17 then nI 29 else g j := by
  unfold s_drop
  by_cases e : 45 ≤ j ∧ j < 132
  · rw [if_pos e, pk_cpy_in (by omega) (by omega), upd_at, if_neg (by omega), upd_at, if_neg (by omega)]
    congr 1
    omega
  · rw [if_neg e, pk_cpy_out (by omega), upd_at]
    by_cases e2 : j = 20
    · rw [if_pos e2, if_pos e2]
    · rw [if_neg e2, if_neg e2, upd_at]
      by_cases e3 : j = 17
      · rw [if_pos e3, if_pos e3, h]; rfl
      · rw [if_neg e3, if_neg e3]
theorem s_great_congr {g g' : Row} (W : Wb g) (h : g' 16 = g 16) (h2 : ∀ k, k < 8 → g' (37 + k) = g (37 + k)) : s_great g' = s_great g := by
  obtain ⟨c, hc, e, -⟩ := W
  unfold s_great
  rw [h, e, cn_nI (by omega)]
  exact mx_congr (fun k hk => h2 k (by omega))
theorem Wb_congr {g g' : Row} (W : Wb g) (h : g' 16 = g 16) (h2 : ∀ k, k < 8 → g' (37 + k) = g (37 + k)) : Wb g' := by
  obtain ⟨c, hc, e, hv⟩ := W
  exact ⟨c, hc, h.trans e, fun k hk => by rw [h2 k (by omega)]; exact hv k hk⟩
theorem Ws_congr {n a i : Nat} {g g' : Row} (W : Ws n a i g) (h : g' i = g i) (h2 : ∀ j, a ≤ j → j < a + 3 * n → g' j = g j) : Ws n a i g' := by
  obtain ⟨c, hc, e, hv⟩ := W
  refine ⟨c, hc, h.trans e, fun k hk => ?_⟩
  rw [h2 _ (by omega) (by omega), h2 _ (by omega) (by omega), h2 _ (by omega) (by omega)]
  exact hv k hk
theorem Wk_congr {g g' : Row} (W : Wk g) (h : ∀ j, j = 6 ∨ j = 7 ∨ j = 8 ∨ j = 11 → g' j = g j) : Wk g' := by
  unfold Wk
  rw [h 6 (by simp), h 7 (by simp), h 8 (by simp), h 11 (by simp)]
  exact W
/-- a sample in a logger that isn't full -/
theorem s_smp_W {g : Row} {c : Nat} (hc : c < 30) (W : Ws 30 45 17 g) (h : g 17 = nI c) (h0 : ∃ t, t ≤ 9999 ∧ g 0 = nI t) (h7 : ∃ v, v ≤ 600 ∧ g 7 = nI v) (hg : ∃ v, v ≤ 36 ∧ s_great g = nI v) : Ws 30 45 17 (s_smp g) := by
  obtain ⟨c', hc', e, hv⟩ := W
  obtain rfl : c' = c := (nI_eq (by omega) (by omega)).mp (e.symm.trans h)
  refine ⟨c' + 1, by omega, by rw [s_smp_at hc h, if_neg (by decide), if_pos rfl], fun k hk => ?_⟩
  by_cases ek : k = c'
  · subst ek
    rw [s_smp_at hc h, if_neg (by omega), if_neg (by omega), if_neg (by omega), if_neg (by omega), if_pos rfl]
    rw [s_smp_at hc h, if_neg (by omega), if_neg (by omega), if_neg (by omega), if_pos rfl]
    rw [s_smp_at hc h, if_neg (by omega), if_neg (by omega), if_pos rfl]
    exact ⟨h0, h7, hg⟩
  · rw [s_smp_at hc h, if_neg (by omega), if_neg (by omega), if_neg (by omega), if_neg (by omega), if_neg (by omega)]
    rw [s_smp_at hc h, if_neg (by omega), if_neg (by omega), if_neg (by omega), if_neg (by omega), if_neg (by omega)]
    rw [s_smp_at hc h, if_neg (by omega), if_neg (by omega), if_neg (by omega), if_neg (by omega), if_neg (by omega)]
    exact hv k (by omega)
theorem s_drop_W {g : Row} (W : Ws 30 45 17 g) (h : g 17 = 30) : Ws 30 45 17 (s_drop g) := by
  obtain ⟨c, hc, e, hv⟩ := W
  obtain rfl : c = 30 := (nI_eq (by omega) (by omega)).mp (e.symm.trans h)
  refine ⟨29, by omega, s_drop_17 h, fun k hk => ?_⟩
  rw [s_drop_at h, if_pos (by omega), s_drop_at h, if_pos (by omega), s_drop_at h, if_pos (by omega)]
  have := hv (k + 1) (by omega)
  rw [show 45 + 3 * (k + 1) = 45 + 3 * k + 3 from by omega] at this
  exact this
theorem Ws_split {g : Row} (W : Ws 30 45 17 g) : (∃ c, c < 30 ∧ g 17 = nI c) ∨ g 17 = 30 := by
  obtain ⟨c, hc, h, -⟩ := W
  rcases Nat.lt_or_ge c 30 with q | q
  · exact Or.inl ⟨c, q, h⟩
  · exact Or.inr (by rw [h, show c = 30 from by omega]; rfl)
theorem s_sample_out {g : Row} {j : Nat} (W : Ws 30 45 17 g) (h : j ≠ 17 ∧ j ≠ 19 ∧ j ≠ 20) (h2 : j < 45 ∨ 135 ≤ j) : s_sample g j = g j := by
  unfold s_sample
  rcases Ws_split W with ⟨c, hc, e⟩ | e
  · rw [if_neg (by rw [e]; exact fun e => by have := (nI_eq (by omega) (by omega)).mp (e.trans (show (30 : Int32) = nI 30 from rfl)); omega)]
    rw [s_smp_at hc e, if_neg h.2.1, if_neg h.1, if_neg (by omega), if_neg (by omega), if_neg (by omega)]
  · rw [if_pos e, s_smp_at (c := 29) (by omega) (s_drop_17 e), if_neg h.2.1, if_neg h.1, if_neg (by omega), if_neg (by omega), if_neg (by omega), s_drop_at e, if_neg (by omega), if_neg h.2.2, if_neg h.1]
theorem s_great_W {g : Row} (W : Wb g) : ∃ v, v ≤ 36 ∧ s_great g = nI v := by
  obtain ⟨c, hc, e, hv⟩ := W
  unfold s_great
  rw [e, cn_nI (by omega)]
  exact mx_le hv
theorem s_sample_W {g : Row} (W : Ws 30 45 17 g) (Wb0 : Wb g) (h0 : ∃ t, t ≤ 9999 ∧ g 0 = nI t) (h7 : ∃ v, v ≤ 600 ∧ g 7 = nI v) : Ws 30 45 17 (s_sample g) := by
  have hg := s_great_W Wb0
  have W0 := W
  unfold s_sample
  rcases Ws_split W with ⟨c, hc, e⟩ | e
  · rw [if_neg (by rw [e]; exact fun e => by have := (nI_eq (by omega) (by omega)).mp (e.trans (show (30 : Int32) = nI 30 from rfl)); omega)]
    exact s_smp_W hc W e h0 h7 hg
  · rw [if_pos e]
    have eg : s_great (s_drop g) = s_great g := s_great_congr Wb0 (by rw [s_drop_at e, if_neg (by omega), if_neg (by omega), if_neg (by omega)]) (fun k hk => by rw [s_drop_at e, if_neg (by omega), if_neg (by omega), if_neg (by omega)])
    refine s_smp_W (c := 29) (by omega) (s_drop_W W e) (s_drop_17 e) ?_ ?_ (by rw [eg]; exact hg)
    · rw [s_drop_at e, if_neg (by omega), if_neg (by omega), if_neg (by omega)]; exact h0
    · rw [s_drop_at e, if_neg (by omega), if_neg (by omega), if_neg (by omega)]; exact h7
theorem s_sample_19 {g : Row} {t : Nat} (W : Ws 30 45 17 g) (h : ∃ m, m ≤ t ∧ g 19 = nI m) : ∃ m, m ≤ t + 1 ∧ s_sample g 19 = nI m := by
  obtain ⟨m, hm, em⟩ := h
  refine ⟨m + 1, by omega, ?_⟩
  unfold s_sample
  rcases Ws_split W with ⟨c, hc, e⟩ | e
  · rw [if_neg (by rw [e]; exact fun e => by have := (nI_eq (by omega) (by omega)).mp (e.trans (show (30 : Int32) = nI 30 from rfl)); omega)]
    rw [s_smp_at hc e, if_pos rfl, em, nI_1]
  · rw [if_pos e, s_smp_at (c := 29) (by omega) (s_drop_17 e), if_pos rfl, s_drop_at e, if_neg (by omega), if_neg (by omega), if_neg (by omega), em, nI_1]
