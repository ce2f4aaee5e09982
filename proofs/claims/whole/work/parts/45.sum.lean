/-! sums and counts over the samples, both sides -/
theorem nn64_div {a b : Int32} (h : b ≠ 0) : nn64 (FP.ddiv (FP.i2d a) (FP.i2d b)) = true := by
  have h1 := FP.Core.i2d_mag a
  obtain ⟨h2, h3⟩ := FP.Core.i2d_big (FP.Core.int32_ne h)
  have h4 := FP.Core.ddiv_mag (K := 1056) (L := 1023) h1 h2 h3 (by omega) (by omega)
  unfold nn64
  refine decide_eq_true ?_
  rw [UInt64.le_iff_toNat_le, UInt64.toNat_and]
  rw [show (0x7fffffffffffffff : UInt64).toNat = 2 ^ 63 - 1 from rfl, Nat.and_two_pow_sub_one_eq_mod, show (0x7ff0000000000000 : UInt64).toNat = 9218868437227405312 from rfl]
  have h5 : (FP.ddiv (FP.i2d a) (FP.i2d b)).toNat % 2 ^ 63 < (1056 + (1074 - 52 - 1) - 1023 + 3) * 2 ^ 52 := h4
  omega
theorem nn32_div {a b : Int32} (h : b ≠ 0) : nn32 (FP.fdiv (FP.i2f a) (FP.i2f b)) = true := by
  have h1 := FP.Core.i2f_mag a
  obtain ⟨h2, h3⟩ := FP.Core.i2f_big (FP.Core.int32_ne h)
  have h4 := FP.Core.fdiv_mag (K := 160) (L := 127) h1 h2 h3 (by omega) (by omega)
  unfold nn32
  refine decide_eq_true ?_
  rw [UInt32.le_iff_toNat_le, UInt32.toNat_and]
  rw [show (0x7fffffff : UInt32).toNat = 2 ^ 31 - 1 from rfl, Nat.and_two_pow_sub_one_eq_mod, show (0x7f800000 : UInt32).toNat = 2139095040 from rfl]
  have h5 : (FP.fdiv (FP.i2f a) (FP.i2f b)).toNat % 2 ^ 31 < (160 + (149 - 23 - 1) - 127 + 3) * 2 ^ 23 := h4
  omega
def mean (s : Int32) (c : Nat) : UInt64 := if c = 0 then 0 else FP.ddiv (FP.i2d s) (FP.i2d (nI c))
theorem C_mean {s : Int32} {c : Nat} {M : Mem} (hc : c < 2 ^ 31) : f_G_meanOf s (nI c) M = some (mean s c, M) := by
  unfold f_G_meanOf mean
  by_cases e : c = 0
  · subst e
    rw [if_pos (by decide), if_pos rfl]
  · rw [if_neg (by show ¬ nI c < nI 1; exact nI_nlt (by omega) hc), if_neg e, grd_of (nn64_div (nI_ne0 (by omega) hc))]
theorem R_mean {s : Int32} {c : Nat} {M : Mem} (hc : c < 2 ^ 31) : f_M_mean s (nI c) M = some (mean s c, M) := by
  unfold f_M_mean mean
  by_cases e : c = 0
  · subst e
    rw [if_pos (by decide), if_pos rfl]
  · rw [if_neg (nI_ne0 (by omega) hc), if_neg e, grd_of (nn64_div (nI_ne0 (by omega) hc))]
def sm (f : Nat → Int32) : Nat → Int32
  | 0 => 0
  | n + 1 => sm f n + f n
theorem lpC_sum {N0 rr : Nat} {M : Mem} {o c : Nat} {f : Nat → Int32} (ho : o < 8) (hc : c ≤ 8) (h1 : M 13 1 = nI o) (h2 : M 13 2 = nI c) (hf : ∀ k, k < c → M 14 ((o + k) % 8) = f k) (k4 : Int32 × Int32 → Mem → Option (Int32 × Mem)) : ∀ (d i N : Nat), i + d = c → d < N → lp_B_sum_4 N0 rr 13 N (sm f i, nI i) M k4 = k4 (sm f c, nI c) M := by
  intro d
  induction d with
  | zero =>
    intro i N hi hN
    obtain ⟨N, rfl⟩ : ∃ n, N = n + 1 := ⟨N - 1, by omega⟩
    obtain rfl : i = c := by omega
    unfold lp_B_sum_4
    dsimp only
    rw [h2, if_neg (nI_nlt (Nat.le_refl _) (by omega))]
  | succ d ih =>
    intro i N hi hN
    obtain ⟨N, rfl⟩ : ∃ n, N = n + 1 := ⟨N - 1, by omega⟩
    unfold lp_B_sum_4
    dsimp only
    rw [h2, if_pos (nI_lt (by omega) (by omega)), C_Bat ho (by omega) h1, bnd_s, nm_eq, nm_eq, nI_1, hf i (by omega)]
    exact ih (i + 1) N (by omega) (by omega)
theorem lpR_sum {N0 rr : Nat} {M : Mem} {c : Nat} (hc : c ≤ 8) (h : M rr 16 = nI c) (k4 : Int32 × Int32 → Mem → Option (UInt64 × Mem)) : ∀ (d i N : Nat), i + d = c → d < N → lp_M_meanWind_9 N0 rr N (sm (fun k => M rr (37 + k)) i, nI i) M k4 = k4 (sm (fun k => M rr (37 + k)) c, nI c) M := by
  intro d
  induction d with
  | zero =>
    intro i N hi hN
    obtain ⟨N, rfl⟩ : ∃ n, N = n + 1 := ⟨N - 1, by omega⟩
    obtain rfl : i = c := by omega
    unfold lp_M_meanWind_9
    dsimp only
    rw [h, if_neg (nI_nlt (Nat.le_refl _) (by omega))]
  | succ d ih =>
    intro i N hi hN
    obtain ⟨N, rfl⟩ : ∃ n, N = n + 1 := ⟨N - 1, by omega⟩
    unfold lp_M_meanWind_9
    dsimp only
    rw [h, if_pos (nI_lt (by omega) (by omega)), q37, grd_of (inB_nI (by omega) (by omega)), nI_clamp (by omega), nm_eq, nm_eq, nI_1]
    exact ih (i + 1) N (by omega) (by omega)
theorem j_meanWind {N : Nat} (hN : 8 < N) : JA (f_G_meanWind N 146) (f_M_meanWind N 146) := fun Mc Mr H => by
  obtain ⟨o, ho, h1, h2, hv⟩ := H.b
  obtain ⟨c, hc, h16, -⟩ := H.w.2.2.1
  rw [h16] at h2 hv
  rw [cn_nI (by omega)] at hv
  refine ⟨mean (sm (fun k => Mr 146 (37 + k)) c) c, Mc, put Mr 145 8 0, ?_, ?_, RR_thr H, Fr.rf, Fr.rf.put (by omega) (by omega)⟩
  · unfold f_G_meanWind f_B_sum
    rw [show (((0 : Int32), (0 : Int32)) : Int32 × Int32) = (sm (fun k => Mr 146 (37 + k)) 0, nI 0) from rfl, lpC_sum ho hc h1 h2 hv _ c 0 N (by omega) (by omega), bnd_s, h2, C_mean (by omega), bnd_s]
  · unfold f_M_meanWind
    have h' : (put Mr 145 8 0) 146 16 = nI c := by rw [put_ne (by decide)]; exact h16
    rw [nm_eq, show (((0 : Int32), (0 : Int32)) : Int32 × Int32) = (sm (fun k => (put Mr 145 8 0) 146 (37 + k)) 0, nI 0) from rfl, lpR_sum hc h' _ c 0 N (by omega) (by omega)]
    dsimp only
    rw [h', R_mean (by omega), bnd_s]
    rfl
/-- how many of the first n -/
def ct (P : Nat → Bool) : Nat → Int32
  | 0 => 0
  | n + 1 => if P n = true then ct P n + 1 else ct P n
/-- the sum of those -/
def cs (P : Nat → Bool) (f : Nat → Int32) : Nat → Int32
  | 0 => 0
  | n + 1 => if P n = true then cs P f n + f n else cs P f n
theorem ct_s {P : Nat → Bool} {n : Nat} : ct P (n + 1) = if P n = true then ct P n + 1 else ct P n := rfl
theorem cs_s {P : Nat → Bool} {f : Nat → Int32} {n : Nat} : cs P f (n + 1) = if P n = true then cs P f n + f n else cs P f n := rfl
theorem ct_le {P : Nat → Bool} {n : Nat} : ∃ m, m ≤ n ∧ ct P n = nI m := by
  induction n with
  | zero => exact ⟨0, by omega, nI_0.symm⟩
  | succ n ih =>
    obtain ⟨m, hm, e⟩ := ih
    unfold ct
    by_cases h : P n = true
    · rw [if_pos h, e, nI_1]; exact ⟨m + 1, by omega, rfl⟩
    · rw [if_neg h, e]; exact ⟨m, by omega, rfl⟩
theorem lpC_ct {N0 rr c : Nat} {M : Mem} {a1 a2 : Int32} {T H G : Nat → Int32} (hc : c ≤ 90) (h : LRg 90 c T H G (M 19) (M 20) (M 21) (M 22)) (k5 : Int32 × Int32 → Mem → Option (Int32 × Mem)) : ∀ (d i N : Nat), i + d = c → d < N → lp_S_countBetween_5 N0 rr 19 a1 a2 N (ct (fun k => !outB (H k) a1 a2) i, nI i) M k5 = k5 (ct (fun k => !outB (H k) a1 a2) c, nI c) M := by
  have h5 : M 19 5 = nI c := by obtain ⟨o, -, -, -, q, -⟩ := h; exact q
  intro d
  induction d with
  | zero =>
    intro i N hi hN
    obtain ⟨N, rfl⟩ : ∃ n, N = n + 1 := ⟨N - 1, by omega⟩
    obtain rfl : i = c := by omega
    unfold lp_S_countBetween_5
    dsimp only
    rw [h5, if_neg (nI_nlt (Nat.le_refl _) (by omega))]
  | succ d ih =>
    intro i N hi hN
    obtain ⟨N, rfl⟩ : ∃ n, N = n + 1 := ⟨N - 1, by omega⟩
    have := ih (i + 1) N (by omega) (by omega)
    rw [ct_s] at this
    unfold lp_S_countBetween_5
    dsimp only at this ⊢
    rw [h5, if_pos (nI_lt (by omega) (by omega)), (C_tickAt (p := 19) (by omega) (by omega) hc (by omega) z19 h).2.1, bnd_s, C_out, bnd_s]
    simp only [nm_eq, nI_1]
    cases e : outB (H i) a1 a2 with
    | true => rw [e] at this; exact this
    | false => rw [e] at this; exact this
theorem lpR_ct {N0 c : Nat} {M : Mem} {a1 a2 : Int32} (hc : c ≤ 90) (h : M 146 18 = nI c) (k5 : Int32 × Int32 → Mem → Option (Int32 × Mem)) : ∀ (d i N : Nat), i + d = c → d < N → lp_M_countBetween_5 N0 146 a1 a2 N (ct (fun k => !outB (M 146 (135 + 3 * k + 1)) a1 a2) i, nI i) M k5 = k5 (ct (fun k => !outB (M 146 (135 + 3 * k + 1)) a1 a2) c, nI c) M := by
  intro d
  induction d with
  | zero =>
    intro i N hi hN
    obtain ⟨N, rfl⟩ : ∃ n, N = n + 1 := ⟨N - 1, by omega⟩
    obtain rfl : i = c := by omega
    unfold lp_M_countBetween_5
    dsimp only
    rw [h, if_neg (nI_nlt (Nat.le_refl _) (by omega))]
  | succ d ih =>
    intro i N hi hN
    obtain ⟨N, rfl⟩ : ∃ n, N = n + 1 := ⟨N - 1, by omega⟩
    have := ih (i + 1) N (by omega) (by omega)
    rw [ct_s] at this
    unfold lp_M_countBetween_5
    dsimp only at this ⊢
    rw [h, if_pos (nI_lt (by omega) (by omega)), show (1 : Int32) = nI 1 from rfl, RR_arcR (by omega) (by omega), bnd_s, R_in, bnd_s]
    simp only [nm_eq, jn_eq, nI_add]
    cases e : outB (M 146 (135 + 3 * i + 1)) a1 a2 with
    | true =>
      rw [e] at this
      refine Eq.trans ?_ this
      show lp_M_countBetween_5 N0 146 a1 a2 N (ct _ i + 0, nI (i + 1)) M k5 = _
      rw [Int32.add_zero]
      rfl
    | false => rw [e] at this; exact this
theorem j_archivedBetween {N : Nat} {a b : Int32} (hN : 90 < N) : JA (f_G_archivedBetween N 146 a b) (f_M_archivedBetween N 146 a b) := fun Mc Mr H => by
  obtain ⟨c, hc, ec, -⟩ := H.w.2.2.2.2
  have h := H.a
  rw [LR_g (c := c) (by omega) ec] at h
  refine ⟨ct (fun k => !outB (Mr 146 (135 + 3 * k + 1)) a b) c, Mc, put Mr 145 8 0, ?_, ?_, RR_thr H, Fr.rf, Fr.rf.put (by omega) (by omega)⟩
  · unfold f_G_archivedBetween f_S_countBetween
    rw [show (((0 : Int32), (0 : Int32)) : Int32 × Int32) = (ct (fun k => !outB (Mr 146 (135 + 3 * k + 1)) a b) 0, nI 0) from rfl]
    have := lpC_ct (N0 := N) (rr := 146) (a1 := a) (a2 := b) hc h (fun (a9 : Int32 × Int32) (M8 : Mem) => some (a9.1, M8)) c 0 N (by omega) (by omega)
    rw [this, bnd_s]
  · unfold f_M_archivedBetween f_M_countBetween
    rw [nm_eq]
    have := lpR_ct (N0 := N) (M := put Mr 145 8 0) (a1 := a) (a2 := b) hc (by rw [put_ne (by decide)]; exact ec) (fun (a11 : Int32 × Int32) (M10 : Mem) => some (a11.1, M10)) c 0 N (by omega) (by omega)
    have e0 : (((0 : Int32), (0 : Int32)) : Int32 × Int32) = (ct (fun k => !outB ((put Mr 145 8 0) 146 (135 + 3 * k + 1)) a b) 0, nI 0) := rfl
    rw [e0, this, bnd_s]
    rfl
/-! the other walks over the archive -/
/-- the first greatest -/
def bst (f : Nat → Int32) : Nat → Int32
  | 0 => -1
  | n + 1 => if bst f n < 0 then nI n else if f (cn (bst f n)) < f n then nI n else bst f n
theorem bst_s {f : Nat → Int32} {n : Nat} : bst f (n + 1) = if bst f n < 0 then nI n else if f (cn (bst f n)) < f n then nI n else bst f n := rfl
theorem bst_or {f : Nat → Int32} {n : Nat} (hn : n < 2 ^ 30) : bst f n = -1 ∨ ∃ j, j < n ∧ bst f n = nI j := by
  induction n with
  | zero => exact Or.inl rfl
  | succ n ih =>
    rw [bst_s]
    by_cases h : bst f n < 0
    · rw [if_pos h]; exact Or.inr ⟨n, by omega, rfl⟩
    · rw [if_neg h]
      by_cases h2 : f (cn (bst f n)) < f n
      · rw [if_pos h2]; exact Or.inr ⟨n, by omega, rfl⟩
      · rw [if_neg h2]
        exact (ih (by omega)).imp id (fun ⟨j, hj, e⟩ => ⟨j, by omega, e⟩)
theorem lpC_bst {N0 rr c : Nat} {M : Mem} {T H G : Nat → Int32} (hc : c ≤ 90) (h : LRg 90 c T H G (M 19) (M 20) (M 21) (M 22)) (k5 : Int32 × Int32 → Mem → Option (Int32 × Mem)) : ∀ (d i N : Nat), i + d = c → d < N → lp_S_highest_4 N0 rr 19 N (bst H i, nI i) M k5 = k5 (bst H c, nI c) M := by
  have h5 : M 19 5 = nI c := by obtain ⟨o, -, -, -, q, -⟩ := h; exact q
  intro d
  induction d with
  | zero =>
    intro i N hi hN
    obtain ⟨N, rfl⟩ : ∃ n, N = n + 1 := ⟨N - 1, by omega⟩
    obtain rfl : i = c := by omega
    unfold lp_S_highest_4
    dsimp only
    rw [h5, if_neg (nI_nlt (Nat.le_refl _) (by omega))]
  | succ d ih =>
    intro i N hi hN
    obtain ⟨N, rfl⟩ : ∃ n, N = n + 1 := ⟨N - 1, by omega⟩
    have := ih (i + 1) N (by omega) (by omega)
    rw [bst_s] at this
    have hx : ∀ j, j < c → f_S_heightAt 19 (nI j) M = some (H j, M) := fun j hj => (C_tickAt (p := 19) (by omega) (by omega) hc hj z19 h).2.1
    unfold lp_S_highest_4
    dsimp only at this ⊢
    rw [h5, if_pos (nI_lt (by omega) (by omega))]
    by_cases e : bst H i < 0
    · rw [if_pos e] at this
      rw [if_pos e, nm_eq, nI_1]
      exact this
    · rw [if_neg e] at this
      rw [if_neg e, hx i (by omega), bnd_s]
      rcases bst_or (f := H) (n := i) (by omega) with q | ⟨j, hj, q⟩
      · exact absurd (by rw [q]; decide) e
      · rw [q, cn_nI (by omega)] at this
        rw [q, hx j (by omega), bnd_s]
        by_cases e2 : H j < H i
        · rw [if_pos e2] at this
          rw [if_pos e2, nm_eq, nI_1]
          exact this
        · rw [if_neg e2] at this
          rw [if_neg e2, nm_eq, nI_1]
          exact this
theorem lpR_bst {N0 c : Nat} {M : Mem} (hc : c ≤ 90) (h : M 146 18 = nI c) (k5 : Int32 × Int32 → Mem → Option (Int32 × Mem)) : ∀ (d i N : Nat), i + d = c → d < N → lp_M_highestArchived_9 N0 146 N (bst (fun k => M 146 (135 + 3 * k + 1)) i, nI i) M k5 = k5 (bst (fun k => M 146 (135 + 3 * k + 1)) c, nI c) M := by
  intro d
  induction d with
  | zero =>
    intro i N hi hN
    obtain ⟨N, rfl⟩ : ∃ n, N = n + 1 := ⟨N - 1, by omega⟩
    obtain rfl : i = c := by omega
    unfold lp_M_highestArchived_9
    dsimp only
    rw [h, if_neg (nI_nlt (Nat.le_refl _) (by omega))]
  | succ d ih =>
    intro i N hi hN
    obtain ⟨N, rfl⟩ : ∃ n, N = n + 1 := ⟨N - 1, by omega⟩
    have := ih (i + 1) N (by omega) (by omega)
    rw [bst_s] at this
    unfold lp_M_highestArchived_9
    simp only [jn_eq, nm_eq] at this ⊢
    rw [h, if_pos (nI_lt (by omega) (by omega))]
    have hx : ∀ j, j < c → f_M_ofArchive 146 (nI j) (1 : Int32) M = some (M 146 (135 + 3 * j + 1), M) := fun j hj => RR_arcR (w := 1) (by omega) (by omega)
    rcases bst_or (f := fun k => M 146 (135 + 3 * k + 1)) (n := i) (by omega) with q | ⟨j, hj, q⟩
    · rw [q, if_pos (by decide)] at this
      rw [q, if_pos rfl, if_pos trivial, nI_1]
      exact this
    · rw [q, if_neg (nI_pos (by omega)), cn_nI (by omega)] at this
      rw [q, if_neg (fun e => by have := nI_pos (n := j) (by omega); rw [e] at this; exact this (by decide)), hx i (by omega), bnd_s, hx j (by omega), bnd_s]
      by_cases e2 : M 146 (135 + 3 * j + 1) < M 146 (135 + 3 * i + 1)
      · rw [if_pos e2] at this
        rw [if_pos e2, if_pos trivial, nI_1]
        exact this
      · rw [if_neg e2] at this
        rw [if_neg e2, if_neg (by decide), nI_1]
        exact this
theorem j_highestArchived {N : Nat} (hN : 90 < N) : JA (f_G_highestArchived N 146) (f_M_highestArchived N 146) := fun Mc Mr H => by
  obtain ⟨c, hc, ec, -⟩ := H.w.2.2.2.2
  have h := H.a
  rw [LR_g (c := c) (by omega) ec] at h
  refine ⟨bst (fun k => Mr 146 (135 + 3 * k + 1)) c, Mc, put Mr 145 8 0, ?_, ?_, RR_thr H, Fr.rf, Fr.rf.put (by omega) (by omega)⟩
  · unfold f_G_highestArchived f_S_highest
    rw [show (((-1 : Int32), (0 : Int32)) : Int32 × Int32) = (bst (fun k => Mr 146 (135 + 3 * k + 1)) 0, nI 0) from rfl]
    have := lpC_bst (N0 := N) (rr := 146) hc h (fun (a9 : Int32 × Int32) (M8 : Mem) => some (a9.1, M8)) c 0 N (by omega) (by omega)
    rw [this, bnd_s]
  · unfold f_M_highestArchived
    rw [nm_eq]
    have := lpR_bst (N0 := N) (M := put Mr 145 8 0) hc (by rw [put_ne (by decide)]; exact ec) (fun (a11 : Int32 × Int32) (M10 : Mem) => some (a11.1, M10)) c 0 N (by omega) (by omega)
    have e0 : (((-1 : Int32), (0 : Int32)) : Int32 × Int32) = (bst (fun k => (put Mr 145 8 0) 146 (135 + 3 * k + 1)) 0, nI 0) := rfl
    rw [e0, this]
    rfl
/-- the last not greater -/
def lst (f : Nat → Int32) (a : Int32) : Nat → Int32
  | 0 => -1
  | n + 1 => if a < f n then lst f a n else nI n
theorem lst_s {f : Nat → Int32} {a : Int32} {n : Nat} : lst f a (n + 1) = if a < f n then lst f a n else nI n := rfl
theorem nI_m1 {n : Nat} : nI n + (-1 : Int32) = nI n - 1 := by
  rw [Int32.sub_eq_add_neg]
theorem m1_neg : nI 0 - (1 : Int32) < 0 := by decide
theorem lpC_lst {N0 rr c : Nat} {M : Mem} {a : Int32} {T H G : Nat → Int32} (hc : c ≤ 90) (h : LRg 90 c T H G (M 19) (M 20) (M 21) (M 22)) : ∀ (i N : Nat), i ≤ c → i < N → lp_S_lastUntil_7 N0 rr 19 a N (nI i - 1) M (fun (a6 : Int32) (M5 : Mem) => some ((-1 : Int32), M5)) = some (lst T a i, M) := by
  intro i
  induction i with
  | zero =>
    intro N hi hN
    obtain ⟨N, rfl⟩ : ∃ n, N = n + 1 := ⟨N - 1, by omega⟩
    unfold lp_S_lastUntil_7
    rw [if_pos m1_neg]
    rfl
  | succ i ih =>
    intro N hi hN
    obtain ⟨N, rfl⟩ : ∃ n, N = n + 1 := ⟨N - 1, by omega⟩
    unfold lp_S_lastUntil_7
    rw [nI_pred, if_neg (nI_pos (by omega)), (C_tickAt (p := 19) (by omega) (by omega) hc (by omega) z19 h).1, bnd_s, nm_eq, nI_m1, ih N (by omega) (by omega), lst_s]
    by_cases e : a < T i
    · rw [if_pos e, if_neg (Int32.not_le.mpr e)]
    · rw [if_neg e, if_pos (Int32.not_lt.mp e)]
theorem lpR_lst {N0 c : Nat} {M : Mem} {a : Int32} (hc : c ≤ 90) (h : M 146 18 = nI c) : ∀ (i N : Nat), i ≤ c → i < N → lp_M_archivedBefore_15 N0 146 a N (nI i - 1) M (fun (a7 : Int32) (M6 : Mem) => some (a7, M6)) = some (lst (fun k => M 146 (135 + 3 * k)) a i, M) := by
  intro i
  induction i with
  | zero =>
    intro N hi hN
    obtain ⟨N, rfl⟩ : ∃ n, N = n + 1 := ⟨N - 1, by omega⟩
    unfold lp_M_archivedBefore_15
    rw [if_pos m1_neg]
    rfl
  | succ i ih =>
    intro N hi hN
    obtain ⟨N, rfl⟩ : ∃ n, N = n + 1 := ⟨N - 1, by omega⟩
    unfold lp_M_archivedBefore_15
    rw [nI_pred, if_neg (nI_pos (by omega)), show (0 : Int32) = nI 0 from rfl, RR_arcR (by omega) (by omega), bnd_s, nm_eq, nI_m1, ih N (by omega) (by omega), lst_s, Nat.add_zero]
    by_cases e : a < M 146 (135 + 3 * i)
    · rw [if_pos e, if_pos e]
    · rw [if_neg e, if_neg e]
theorem j_archivedBefore {N : Nat} {a : Int32} (hN : 90 < N) : JA (f_G_archivedBefore N 146 a) (f_M_archivedBefore N 146 a) := fun Mc Mr H => by
  obtain ⟨c, hc, ec, -⟩ := H.w.2.2.2.2
  have h := H.a
  rw [LR_g (c := c) (by omega) ec] at h
  have h5 : Mc 19 5 = nI c := by obtain ⟨o, -, -, -, q, -⟩ := h; exact q
  refine ⟨lst (fun k => Mr 146 (135 + 3 * k)) a c, Mc, put Mr 145 8 0, ?_, ?_, RR_thr H, Fr.rf, Fr.rf.put (by omega) (by omega)⟩
  · unfold f_G_archivedBefore f_S_lastUntil
    rw [nm_eq, h5, lpC_lst hc h c N (Nat.le_refl _) (by omega), bnd_s]
  · unfold f_M_archivedBefore
    have e : (put Mr 145 8 0) 146 18 = nI c := by rw [put_ne (by decide)]; exact ec
    rw [nm_eq, nm_eq, e, lpR_lst hc e c N (Nat.le_refl _) (by omega)]
    rfl
