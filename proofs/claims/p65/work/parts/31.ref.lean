/-! the reference's own methods over its row -/
theorem q21 (n : Nat) : (21 : Int32) + nI n = nI (21 + n) := nI_add 21 n
theorem q37 (n : Nat) : (37 : Int32) + nI n = nI (37 + n) := nI_add 37 n
theorem q3 (n : Nat) : (3 : Int32) * nI n = nI (3 * n) := pk_mul 3 n
theorem q45 (n : Nat) : (45 : Int32) + nI n = nI (45 + n) := nI_add 45 n
theorem q135 (n : Nat) : (135 : Int32) + nI n = nI (135 + n) := nI_add 135 n
theorem q00 (n : Nat) : nI n + (0 : Int32) = nI n := nI_add n 0
theorem q02 (n : Nat) : nI n + (2 : Int32) = nI (n + 2) := nI_add n 2
theorem s_gust_v {g : Row} {t n : Nat} (ht : t < 2 ^ 31) (h1 : 1 ≤ n) (h2 : n ≤ 16) (h5 : g 5 = nI n) : s_gust g (nI t) = g (21 + t % n) := by
  have := Nat.mod_lt t (show 0 < n by omega)
  unfold s_gust
  rw [h5, irm_nI ht (by omega) (by omega), q21, nI_clamp (by omega)]
theorem mx_congr {f f' : Nat → Int32} {n : Nat} (h : ∀ k, k < n → f k = f' k) : mx f n = mx f' n := by
  induction n with
  | zero => rfl
  | succ n ih =>
    unfold mx
    rw [ih (fun k hk => h k (by omega)), h n (by omega)]
theorem mx_le {f : Nat → Int32} {n : Nat} (h : ∀ k, k < n → ∃ v, v ≤ 36 ∧ f k = nI v) : ∃ v, v ≤ 36 ∧ mx f n = nI v := by
  induction n with
  | zero => exact ⟨0, by omega, nI_0.symm⟩
  | succ n ih =>
    obtain ⟨a, ha, ea⟩ := ih (fun k hk => h k (by omega))
    obtain ⟨b, hb, eb⟩ := h n (by omega)
    refine ⟨max a b, by omega, ?_⟩
    unfold mx
    rw [ea, eb, imax_nI (by omega) (by omega)]
section REF
variable {N N0 rr : Nat} {M : Mem}
theorem R_gustOf {t n : Nat} (ht : t < 2 ^ 31) (h1 : 1 ≤ n) (h2 : n ≤ 16) (h5 : M rr 5 = nI n) : f_M_gustOf rr (nI t) M = some (s_gust (M rr) (nI t), M) := by
  have := Nat.mod_lt t (show 0 < n by omega)
  unfold f_M_gustOf s_gust
  rw [h5, grd_of (nzB_nI (by omega) (by omega)), irm_nI ht (by omega) (by omega), q21, grd_of (inB_nI (by omega) (by omega))]
theorem R_windNow {h : Int32} (W : Wg (M rr)) : f_M_windNow rr h M = some (s_wind (M rr) h, M) := by
  obtain ⟨⟨t, ht, h0, -⟩, ⟨n, h1, h2, h5, -⟩, -⟩ := W
  unfold f_M_windNow s_wind
  rw [h0, R_gustOf (by omega) h1 h2 h5]
  rfl
theorem R_is {k : Int32} : f_M_is rr k M = some (decide (M rr 6 = k), M) := by
  unfold f_M_is
  by_cases h : M rr 6 = k
  · rw [if_pos h, decide_eq_true h]
  · rw [if_neg h, decide_eq_false h]
theorem R_snap {w : Int32} : f_M_snap rr w M = some (setR M rr (s_snap w (M rr))) := by
  unfold f_M_snap
  simp only [nm_eq, put_setR, setR_setR, setR_self, upd_at, Nat.reduceEqDiff, reduceIte]
  rfl
theorem R_strain {w : Int32} : f_M_strain rr w M = some (setR M rr (s_strain w (M rr))) := by
  unfold f_M_strain
  rw [show f_M_load rr w M = some (s_load (M rr) w, M) from rfl]
  simp only [bnd_s, f_most_s, nm_eq]
  rw [show put M rr 9 (M rr 9 + imax 0 (s_load (M rr) w - M rr 2)) = setR M rr (s_str w (M rr)) from rfl]
  simp only [setR_self]
  unfold s_strain
  by_cases c : s_str w (M rr) 9 < s_str w (M rr) 3
  · rw [if_pos c, if_pos c]
  · rw [if_neg c, if_neg c, R_snap, setR_self, setR_setR]; rfl
theorem R_climb {w : Int32} : f_M_climb rr w M = some (setR M rr (s_climb w (M rr))) := by
  unfold f_M_climb s_climb s_hgt
  simp only [nm_eq, f_most_s, f_least_s, bnd_s, put_setR, setR_setR, setR_self, upd_at, Nat.reduceEqDiff, reduceIte]
  by_cases c : w < 5
  · simp only [c, reduceIte]
    by_cases d : imax 0 (M rr 7 - (6 - w)) = 0 <;> simp only [d, reduceIte]
  · simp only [c, reduceIte]
    by_cases d : imin (M rr 7 + w) (M rr 8) = 0 <;> simp only [d, reduceIte]
theorem lpR_great {c : Nat} (hc : c ≤ 8) (h : M rr 16 = nI c) (k4 : Int32 × Int32 → Mem → Option (Int32 × Mem)) : ∀ (d i N : Nat), i + d = c → d < N → lp_M_greatest_4 N0 rr N (mx (fun k => M rr (37 + k)) i, nI i) M k4 = k4 (mx (fun k => M rr (37 + k)) c, nI c) M := by
  intro d
  induction d with
  | zero =>
    intro i N hi hN
    obtain ⟨N, rfl⟩ : ∃ n, N = n + 1 := ⟨N - 1, by omega⟩
    obtain rfl : i = c := by omega
    unfold lp_M_greatest_4
    dsimp only
    rw [h, if_neg (nI_nlt (Nat.le_refl _) (by omega))]
  | succ d ih =>
    intro i N hi hN
    obtain ⟨N, rfl⟩ : ∃ n, N = n + 1 := ⟨N - 1, by omega⟩
    unfold lp_M_greatest_4
    dsimp only
    rw [h, if_pos (nI_lt (by omega) (by omega)), q37, grd_of (inB_nI (by omega) (by omega)), nI_clamp (by omega), f_most_s, bnd_s, nm_eq, nI_1]
    exact ih (i + 1) N (by omega) (by omega)
theorem R_great (hN : 8 < N) (W : Wb (M rr)) : f_M_greatest N rr M = some (s_great (M rr), M) := by
  obtain ⟨c, hc, h, -⟩ := W
  unfold f_M_greatest s_great
  rw [show (((0 : Int32), (0 : Int32)) : Int32 × Int32) = (mx (fun k => M rr (37 + k)) 0, nI 0) from rfl, lpR_great hc h _ c 0 N (by omega) (by omega), h, cn_nI (by omega)]
theorem R_app {w : Int32} {c : Nat} (hc : c < 8) (h : M rr 16 = nI c) : grd (inB ((37 : Int32) + M rr 16) 405) (nm (put M rr ((37 : Int32) + M rr 16).toNatClampNeg w) fun (M5 : Mem) => nm (put M5 rr 16 (M5 rr 16 + 1)) fun (M6 : Mem) => some M6) = some (setR M rr (s_app w (M rr))) := by
  rw [grd_of (by rw [h, q37]; exact inB_nI (by omega) (by omega))]
  simp only [nm_eq, put_setR, setR_setR, setR_self]
  rfl
theorem R_buf {w : Int32} (W : Wb (M rr)) : f_M_bufferWind rr w M = some (setR M rr (s_buf w (M rr))) := by
  obtain ⟨c, hc, h, -⟩ := W
  unfold f_M_bufferWind s_buf
  by_cases c8 : M rr 16 = 8
  · rw [if_pos c8, if_pos c8, nm_eq, grd_of (by decide), nm_eq]
    have e : setR (put M rr 16 (M rr 16 - 1)) rr (va_cpy ((put M rr 16 (M rr 16 - 1)) rr) ((put M rr 16 (M rr 16 - 1)) rr) (38 : Int32).toNatClampNeg (37 : Int32).toNatClampNeg (7 : Int32).toNatClampNeg) = setR M rr (va_cpy (upd (M rr) 16 (M rr 16 - 1)) (upd (M rr) 16 (M rr 16 - 1)) 38 37 7) := by
      rw [put_setR, setR_setR, setR_self]
      rfl
    rw [e]
    have h7 : (setR M rr (va_cpy (upd (M rr) 16 (M rr 16 - 1)) (upd (M rr) 16 (M rr 16 - 1)) 38 37 7)) rr 16 = nI 7 := by
      rw [setR_self, c8]
      rfl
    rw [R_app (by omega) h7, setR_setR, setR_self]
  · have hc8 : c < 8 := by
      rcases Nat.lt_or_ge c 8 with q | q
      · exact q
      · exact absurd (by rw [h, show c = 8 from by omega]; rfl) c8
    rw [if_neg c8, if_neg c8]
    exact R_app hc8 h
theorem R_smp0 {c : Nat} (hN : 8 < N) (W : Wb (M rr)) (hc : c < 30) (h : M rr 17 = nI c) : f_M_makeSample N rr M = some (setR M rr (s_smp (M rr))) := by
  unfold f_M_makeSample
  rw [if_neg (by rw [h]; exact fun e => by have := (nI_eq (by omega) (by omega)).mp (e.trans (show (30 : Int32) = nI 30 from rfl)); omega)]
  rw [nm_eq, h, q3, q45, q00, nI_1, q02, grd_of (inB_nI (by omega) (by omega)), nI_clamp (by omega), nm_eq, grd_of (inB_nI (by omega) (by omega)), nI_clamp (by omega), nm_eq]
  have e7 : (put M rr (45 + 3 * c) (M rr 0)) rr 7 = M rr 7 := by rw [put_row, upd_at, if_neg (by omega)]
  rw [e7]
  have hW : Wb ((put (put M rr (45 + 3 * c) (M rr 0)) rr (45 + 3 * c + 1) (M rr 7)) rr) := by
    obtain ⟨b, hb, e, hv⟩ := W
    refine ⟨b, hb, ?_, fun k hk => ?_⟩
    · rw [put_row, upd_at, if_neg (by omega), put_row, upd_at, if_neg (by omega)]; exact e
    · rw [put_row, upd_at, if_neg (by omega), put_row, upd_at, if_neg (by omega)]; exact hv k hk
  rw [R_great hN hW, bnd_s, grd_of (inB_nI (by omega) (by omega)), nI_clamp (by omega)]
  have eg : s_great ((put (put M rr (45 + 3 * c) (M rr 0)) rr (45 + 3 * c + 1) (M rr 7)) rr) = s_great (M rr) := by
    obtain ⟨b, hb, e, hv⟩ := W
    have e2 : (put (put M rr (45 + 3 * c) (M rr 0)) rr (45 + 3 * c + 1) (M rr 7)) rr 16 = nI b := by
      rw [put_row, upd_at, if_neg (by omega), put_row, upd_at, if_neg (by omega)]; exact e
    unfold s_great
    rw [e2, e, cn_nI (by omega)]
    refine mx_congr (fun k hk => ?_)
    rw [put_row, upd_at, if_neg (by omega), put_row, upd_at, if_neg (by omega)]
  rw [eg]
  simp only [nm_eq, put_setR, setR_setR, setR_self]
  unfold s_smp
  rw [h, cn_nI (by omega)]
  rfl
theorem s_drop_17 {g : Row} (h : g 17 = 30) : s_drop g 17 = nI 29 := by
  show g 17 - 1 = nI 29
  rw [h]
  rfl
theorem R_sample (hN : 8 < N) (W : Wb (M rr)) (Wl : Ws 30 45 17 (M rr)) : f_M_makeSample N rr M = some (setR M rr (s_sample (M rr))) := by
  obtain ⟨c, hc, h, -⟩ := Wl
  unfold s_sample
  by_cases c30 : M rr 17 = 30
  · rw [if_pos c30]
    have h2 := R_smp0 (M := setR M rr (s_drop (M rr))) (c := 29) hN (by
      rw [setR_self]
      obtain ⟨b, hb, e, hv⟩ := W
      refine ⟨b, hb, e, fun k hk => ?_⟩
      have : s_drop (M rr) (37 + k) = M rr (37 + k) := by
        unfold s_drop
        rw [pk_cpy_out (by omega), upd_at, if_neg (by omega), upd_at, if_neg (by omega)]
      rw [this]
      exact hv k hk) (by omega) (by rw [setR_self]; exact s_drop_17 c30)
    rw [setR_setR, setR_self] at h2
    rw [← h2]
    unfold f_M_makeSample
    rw [if_pos c30, if_neg (by rw [setR_self, s_drop_17 c30]; decide), nm_eq, nm_eq, grd_of (by decide), nm_eq]
    have e : setR (put (put M rr 17 (M rr 17 - 1)) rr 20 ((put M rr 17 (M rr 17 - 1)) rr 20 + 1)) rr (va_cpy ((put (put M rr 17 (M rr 17 - 1)) rr 20 ((put M rr 17 (M rr 17 - 1)) rr 20 + 1)) rr) ((put (put M rr 17 (M rr 17 - 1)) rr 20 ((put M rr 17 (M rr 17 - 1)) rr 20 + 1)) rr) (48 : Int32).toNatClampNeg (45 : Int32).toNatClampNeg (87 : Int32).toNatClampNeg) = setR M rr (s_drop (M rr)) := by
      simp only [put_setR, setR_setR, setR_self]
      rfl
    rw [e]
  · have hc8 : c < 30 := by
      rcases Nat.lt_or_ge c 30 with q | q
      · exact q
      · exact absurd (by rw [h, show c = 30 from by omega]; rfl) c30
    rw [if_neg c30]
    exact R_smp0 hN W hc8 h
end REF
