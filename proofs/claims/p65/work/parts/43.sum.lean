/-! the class's walks over its samples -/
theorem z15 : zn (15 + 1) = 30 ∧ zn (15 + 2) = 30 ∧ zn (15 + 3) = 30 := ⟨rfl, rfl, rfl⟩
theorem z19 : zn (19 + 1) = 90 ∧ zn (19 + 2) = 90 ∧ zn (19 + 3) = 90 := ⟨rfl, rfl, rfl⟩
/-! sums -/
theorem nn64_div {a b : Int32} (h : b ≠ 0) : nn64 (FP.ddiv (FP.i2d a) (FP.i2d b)) = true := by
  have h1 := FP.Core.i2d_mag a
  obtain ⟨h2, h3⟩ := FP.Core.i2d_big (FP.Core.int32_ne h)
  have h4 := FP.Core.ddiv_mag (K := 1056) (L := 1023) h1 h2 h3 (by omega) (by omega)
  unfold nn64
  refine decide_eq_true ?_
  rw [UInt64.le_iff_toNat_le, UInt64.toNat_and]
  rw [show (0x7fffffffffffffff : UInt64).toNat = 2 ^ 63 - 1 from rfl, Nat.and_two_pow_sub_one_eq_mod, show (0x7ff0000000000000 : UInt64).toNat = 9218868437227405312 from rfl]
  have h5 : (FP.ddiv (FP.i2d a) (FP.i2d b)).toNat % 2 ^ 63 < (1056 + (1074 - 52 - 1) - 1023 + 3) * 2 ^ 52 := h4
  omega
theorem nn32_div {a b : Int32} (h : b ≠ 0) : nn32 (FP.fdiv (FP.i2f a) (FP.i2f b)) = true := by
  have h1 := FP.Core.i2f_mag a
  obtain ⟨h2, h3⟩ := FP.Core.i2f_big (FP.Core.int32_ne h)
  have h4 := FP.Core.fdiv_mag (K := 160) (L := 127) h1 h2 h3 (by omega) (by omega)
  unfold nn32
  refine decide_eq_true ?_
  rw [UInt32.le_iff_toNat_le, UInt32.toNat_and]
  rw [show (0x7fffffff : UInt32).toNat = 2 ^ 31 - 1 from rfl, Nat.and_two_pow_sub_one_eq_mod, show (0x7f800000 : UInt32).toNat = 2139095040 from rfl]
  have h5 : (FP.fdiv (FP.i2f a) (FP.i2f b)).toNat % 2 ^ 31 < (160 + (149 - 23 - 1) - 127 + 3) * 2 ^ 23 := h4
  omega
def mean (s : Int32) (c : Nat) : UInt64 := if c = 0 then 0 else FP.ddiv (FP.i2d s) (FP.i2d (nI c))
theorem C_mean {s : Int32} {c : Nat} {M : Mem} (hc : c < 2 ^ 31) : f_G_meanOf s (nI c) M = some (mean s c, M) := by
  unfold f_G_meanOf mean
  by_cases e : c = 0
  · subst e
    rw [if_pos (by decide), if_pos rfl]
  · rw [if_neg (by show ¬ nI c < nI 1; exact nI_nlt (by omega) hc), if_neg e, grd_of (nn64_div (nI_ne0 (by omega) hc))]
def sm (f : Nat → Int32) : Nat → Int32
  | 0 => 0
  | n + 1 => sm f n + f n
theorem lpC_sum {N0 rr : Nat} {M : Mem} {o c : Nat} {f : Nat → Int32} (ho : o < 8) (hc : c ≤ 8) (h1 : M 13 1 = nI o) (h2 : M 13 2 = nI c) (hf : ∀ k, k < c → M 14 ((o + k) % 8) = f k) (k4 : Int32 × Int32 → Mem → Option (Int32 × Mem)) : ∀ (d i N : Nat), i + d = c → d < N → lp_B_sum_4 N0 rr 13 N (sm f i, nI i) M k4 = k4 (sm f c, nI c) M := by
  intro d
  induction d with
  | zero =>
    intro i N hi hN
    obtain ⟨N, rfl⟩ : ∃ n, N = n + 1 := ⟨N - 1, by omega⟩
    obtain rfl : i = c := by omega
    unfold lp_B_sum_4
    dsimp only
    rw [h2, if_neg (nI_nlt (Nat.le_refl _) (by omega))]
  | succ d ih =>
    intro i N hi hN
    obtain ⟨N, rfl⟩ : ∃ n, N = n + 1 := ⟨N - 1, by omega⟩
    unfold lp_B_sum_4
    dsimp only
    rw [h2, if_pos (nI_lt (by omega) (by omega)), C_Bat ho (by omega) h1, bnd_s, nm_eq, nm_eq, nI_1, hf i (by omega)]
    exact ih (i + 1) N (by omega) (by omega)
/-- how many of the first n -/
def ct (P : Nat → Bool) : Nat → Int32
  | 0 => 0
  | n + 1 => if P n = true then ct P n + 1 else ct P n
/-- the sum of those -/
def cs (P : Nat → Bool) (f : Nat → Int32) : Nat → Int32
  | 0 => 0
  | n + 1 => if P n = true then cs P f n + f n else cs P f n
theorem ct_s {P : Nat → Bool} {n : Nat} : ct P (n + 1) = if P n = true then ct P n + 1 else ct P n := rfl
theorem cs_s {P : Nat → Bool} {f : Nat → Int32} {n : Nat} : cs P f (n + 1) = if P n = true then cs P f n + f n else cs P f n := rfl
theorem ct_le {P : Nat → Bool} {n : Nat} : ∃ m, m ≤ n ∧ ct P n = nI m := by
  induction n with
  | zero => exact ⟨0, by omega, nI_0.symm⟩
  | succ n ih =>
    obtain ⟨m, hm, e⟩ := ih
    unfold ct
    by_cases h : P n = true
    · rw [if_pos h, e, nI_1]; exact ⟨m + 1, by omega, rfl⟩
    · rw [if_neg h, e]; exact ⟨m, by omega, rfl⟩
theorem lpC_ct {N0 rr c : Nat} {M : Mem} {a1 a2 : Int32} {T H G : Nat → Int32} (hc : c ≤ 90) (h : LRg 90 c T H G (M 19) (M 20) (M 21) (M 22)) (k5 : Int32 × Int32 → Mem → Option (Int32 × Mem)) : ∀ (d i N : Nat), i + d = c → d < N → lp_S_countBetween_5 N0 rr 19 a1 a2 N (ct (fun k => !outB (H k) a1 a2) i, nI i) M k5 = k5 (ct (fun k => !outB (H k) a1 a2) c, nI c) M := by
  have h5 : M 19 5 = nI c := by obtain ⟨o, -, -, -, q, -⟩ := h; exact q
  intro d
  induction d with
  | zero =>
    intro i N hi hN
    obtain ⟨N, rfl⟩ : ∃ n, N = n + 1 := ⟨N - 1, by omega⟩
    obtain rfl : i = c := by omega
    unfold lp_S_countBetween_5
    dsimp only
    rw [h5, if_neg (nI_nlt (Nat.le_refl _) (by omega))]
  | succ d ih =>
    intro i N hi hN
    obtain ⟨N, rfl⟩ : ∃ n, N = n + 1 := ⟨N - 1, by omega⟩
    have := ih (i + 1) N (by omega) (by omega)
    rw [ct_s] at this
    unfold lp_S_countBetween_5
    dsimp only at this ⊢
    rw [h5, if_pos (nI_lt (by omega) (by omega)), (C_tickAt (p := 19) (by omega) (by omega) hc (by omega) z19 h).2.1, bnd_s, C_out, bnd_s]
    simp only [nm_eq, nI_1]
    cases e : outB (H i) a1 a2 with
    | true => rw [e] at this; exact this
    | false => rw [e] at this; exact this
/-- the first greatest -/
def bst (f : Nat → Int32) : Nat → Int32
  | 0 => -1
  | n + 1 => if bst f n < 0 then nI n else if f (cn (bst f n)) < f n then nI n else bst f n
theorem bst_s {f : Nat → Int32} {n : Nat} : bst f (n + 1) = if bst f n < 0 then nI n else if f (cn (bst f n)) < f n then nI n else bst f n := rfl
theorem bst_or {f : Nat → Int32} {n : Nat} (hn : n < 2 ^ 30) : bst f n = -1 ∨ ∃ j, j < n ∧ bst f n = nI j := by
  induction n with
  | zero => exact Or.inl rfl
  | succ n ih =>
    rw [bst_s]
    by_cases h : bst f n < 0
    · rw [if_pos h]; exact Or.inr ⟨n, by omega, rfl⟩
    · rw [if_neg h]
      by_cases h2 : f (cn (bst f n)) < f n
      · rw [if_pos h2]; exact Or.inr ⟨n, by omega, rfl⟩
      · rw [if_neg h2]
        exact (ih (by omega)).imp id (fun ⟨j, hj, e⟩ => ⟨j, by omega, e⟩)
theorem lpC_bst {N0 rr c : Nat} {M : Mem} {T H G : Nat → Int32} (hc : c ≤ 90) (h : LRg 90 c T H G (M 19) (M 20) (M 21) (M 22)) (k5 : Int32 × Int32 → Mem → Option (Int32 × Mem)) : ∀ (d i N : Nat), i + d = c → d < N → lp_S_highest_4 N0 rr 19 N (bst H i, nI i) M k5 = k5 (bst H c, nI c) M := by
  have h5 : M 19 5 = nI c := by obtain ⟨o, -, -, -, q, -⟩ := h; exact q
  intro d
  induction d with
  | zero =>
    intro i N hi hN
    obtain ⟨N, rfl⟩ : ∃ n, N = n + 1 := ⟨N - 1, by omega⟩
    obtain rfl : i = c := by omega
    unfold lp_S_highest_4
    dsimp only
    rw [h5, if_neg (nI_nlt (Nat.le_refl _) (by omega))]
  | succ d ih =>
    intro i N hi hN
    obtain ⟨N, rfl⟩ : ∃ n, N = n + 1 := ⟨N - 1, by omega⟩
    have := ih (i + 1) N (by omega) (by omega)
    rw [bst_s] at this
    have hx : ∀ j, j < c → f_S_heightAt 19 (nI j) M = some (H j, M) := fun j hj => (C_tickAt (p := 19) (by omega) (by omega) hc hj z19 h).2.1
    unfold lp_S_highest_4
    dsimp only at this ⊢
    rw [h5, if_pos (nI_lt (by omega) (by omega))]
    by_cases e : bst H i < 0
    · rw [if_pos e] at this
      rw [if_pos e, nm_eq, nI_1]
      exact this
    · rw [if_neg e] at this
      rw [if_neg e, hx i (by omega), bnd_s]
      rcases bst_or (f := H) (n := i) (by omega) with q | ⟨j, hj, q⟩
      · exact absurd (by rw [q]; decide) e
      · rw [q, cn_nI (by omega)] at this
        rw [q, hx j (by omega), bnd_s]
        by_cases e2 : H j < H i
        · rw [if_pos e2] at this
          rw [if_pos e2, nm_eq, nI_1]
          exact this
        · rw [if_neg e2] at this
          rw [if_neg e2, nm_eq, nI_1]
          exact this
/-- the last not greater -/
def lst (f : Nat → Int32) (a : Int32) : Nat → Int32
  | 0 => -1
  | n + 1 => if a < f n then lst f a n else nI n
theorem lst_s {f : Nat → Int32} {a : Int32} {n : Nat} : lst f a (n + 1) = if a < f n then lst f a n else nI n := rfl
theorem nI_m1 {n : Nat} : nI n + (-1 : Int32) = nI n - 1 := by
  rw [Int32.sub_eq_add_neg]
theorem m1_neg : nI 0 - (1 : Int32) < 0 := by decide
theorem lpC_lst {N0 rr c : Nat} {M : Mem} {a : Int32} {T H G : Nat → Int32} (hc : c ≤ 90) (h : LRg 90 c T H G (M 19) (M 20) (M 21) (M 22)) : ∀ (i N : Nat), i ≤ c → i < N → lp_S_lastUntil_7 N0 rr 19 a N (nI i - 1) M (fun (a6 : Int32) (M5 : Mem) => some ((-1 : Int32), M5)) = some (lst T a i, M) := by
  intro i
  induction i with
  | zero =>
    intro N hi hN
    obtain ⟨N, rfl⟩ : ∃ n, N = n + 1 := ⟨N - 1, by omega⟩
    unfold lp_S_lastUntil_7
    rw [if_pos m1_neg]
    rfl
  | succ i ih =>
    intro N hi hN
    obtain ⟨N, rfl⟩ : ∃ n, N = n + 1 := ⟨N - 1, by omega⟩
    unfold lp_S_lastUntil_7
    rw [nI_pred, if_neg (nI_pos (by omega)), (C_tickAt (p := 19) (by omega) (by omega) hc (by omega) z19 h).1, bnd_s, nm_eq, nI_m1, ih N (by omega) (by omega), lst_s]
    by_cases e : a < T i
    · rw [if_pos e, if_neg (Int32.not_le.mpr e)]
    · rw [if_neg e, if_pos (Int32.not_lt.mp e)]
/-! more -/
theorem cs_congr {P P' : Nat → Bool} {f : Nat → Int32} {n : Nat} (h : ∀ k, k < n → P k = P' k) : cs P f n = cs P' f n := by
  induction n with
  | zero => rfl
  | succ n ih => rw [cs_s, cs_s, ih (fun k hk => h k (by omega)), h n (by omega)]
theorem lpC_cs {N0 rr c : Nat} {M : Mem} {a1 a2 : Int32} {T H G : Nat → Int32} (hc : c ≤ 90) (h : LRg 90 c T H G (M 19) (M 20) (M 21) (M 22)) (k5 : Int32 × Int32 → Mem → Option (Int32 × Mem)) : ∀ (d i N : Nat), i + d = c → d < N → lp_S_gustsBetween_5 N0 rr 19 a1 a2 N (cs (fun k => !outB (H k) a1 a2) G i, nI i) M k5 = k5 (cs (fun k => !outB (H k) a1 a2) G c, nI c) M := by
  have h5 : M 19 5 = nI c := by obtain ⟨o, -, -, -, q, -⟩ := h; exact q
  intro d
  induction d with
  | zero =>
    intro i N hi hN
    obtain ⟨N, rfl⟩ : ∃ n, N = n + 1 := ⟨N - 1, by omega⟩
    obtain rfl : i = c := by omega
    unfold lp_S_gustsBetween_5
    dsimp only
    rw [h5, if_neg (nI_nlt (Nat.le_refl _) (by omega))]
  | succ d ih =>
    intro i N hi hN
    obtain ⟨N, rfl⟩ : ∃ n, N = n + 1 := ⟨N - 1, by omega⟩
    have := ih (i + 1) N (by omega) (by omega)
    rw [cs_s] at this
    have hx := C_tickAt (p := 19) (k := i) (by omega) (by omega) hc (by omega) z19 h
    unfold lp_S_gustsBetween_5
    dsimp only at this ⊢
    rw [h5, if_pos (nI_lt (by omega) (by omega)), hx.2.1, bnd_s, C_out, bnd_s, hx.2.2, bnd_s]
    simp only [nm_eq, nI_1]
    cases e : outB (H i) a1 a2 with
    | true => rw [e] at this; exact this
    | false => rw [e] at this; exact this
theorem lay {h l : Nat} (hh : h ≤ 600) (hl : l ≤ 6) : (!outB (nI h) (nI (l * 100)) (nI (l * 100 + 99))) = decide (nI h / 100 = nI l) := by
  rw [show nI h / 100 = nI (h / 100) from pk_div (d := 100) (by omega) (by omega) (by omega)]
  by_cases e : h / 100 = l
  · have : outB (nI h) (nI (l * 100)) (nI (l * 100 + 99)) = false := outB_T (by omega) (by omega) (by omega) (by omega)
    rw [this, decide_eq_true (by rw [e])]
    rfl
  · rw [decide_eq_false (fun q => e ((nI_eq (by omega) (by omega)).mp q))]
    unfold outB
    by_cases c : h < l * 100
    · rw [decide_eq_true (nI_lt c (by omega))]; rfl
    · rw [decide_eq_false (nI_nlt (by omega) (by omega)), decide_eq_true (nI_lt (by omega) (by omega))]; rfl
/-- samples that aren't behind the one before -/
def ds (f : Nat → Int32) : Nat → Int32
  | 0 => 0
  | n + 1 => if f (n + 1) ≤ f n then ds f n + 1 else ds f n
theorem ds_s {f : Nat → Int32} {n : Nat} : ds f (n + 1) = if f (n + 1) ≤ f n then ds f n + 1 else ds f n := rfl
theorem lpC_ds {N0 rr n c p : Nat} {M : Mem} {T H G : Nat → Int32} (hn : n ≤ 90) (hn1 : 1 ≤ n) (hc : c ≤ n) (hz : zn (p + 1) = n ∧ zn (p + 2) = n ∧ zn (p + 3) = n) (h : LRg n c T H G (M p) (M (p + 1)) (M (p + 2)) (M (p + 3))) : ∀ (d i N : Nat), i + d = c - 1 → d < N → lp_S_misplaced_4 N0 rr p N (ds T i, nI (i + 1)) M (fun (a : Int32 × Int32) (M : Mem) => some (a.1, M)) = some (ds T (c - 1), M) := by
  have h5 : M p 5 = nI c := by obtain ⟨o, -, -, -, q, -⟩ := h; exact q
  intro d
  induction d with
  | zero =>
    intro i N hi hN
    obtain ⟨N, rfl⟩ : ∃ n, N = n + 1 := ⟨N - 1, by omega⟩
    unfold lp_S_misplaced_4
    dsimp only
    rw [h5, if_neg (nI_nlt (by omega) (by omega)), show i = c - 1 from by omega]
  | succ d ih =>
    intro i N hi hN
    obtain ⟨N, rfl⟩ : ∃ n, N = n + 1 := ⟨N - 1, by omega⟩
    have := ih (i + 1) N (by omega) (by omega)
    rw [ds_s] at this
    unfold lp_S_misplaced_4
    dsimp only at this ⊢
    rw [h5, if_pos (nI_lt (by omega) (by omega)), (C_tickAt (k := i + 1) hn1 hn hc (by omega) hz h).1, bnd_s, nI_pred, (C_tickAt (k := i) hn1 hn hc (by omega) hz h).1, bnd_s]
    simp only [nm_eq, nI_1]
    by_cases e : T (i + 1) ≤ T i
    · rw [if_pos e] at this
      rw [if_pos e]
      exact this
    · rw [if_neg e] at this
      rw [if_neg e]
      exact this
theorem sub3 {a b c d : Int32} : a - (b + c + d) = a - b - c - d := by grind
theorem C_obstacle {M : Mem} {g : Row} (W : WF g) (h : SR M 10 g) : f_T_obstacle 10 M = some (s_why g, M) := by
  rw [SR10] at h
  obtain ⟨r2, r6, r7, r8, rk, rg, rb, rl, r20, ra⟩ := h
  have hw : ∀ x : Int32, x + (0 : Int32) / 100 = x := fun x => by
    rw [show (0 : Int32) / 100 = 0 from rfl, Int32.add_zero]
  obtain ⟨t, ht, h0, -⟩ := W.1.1
  unfold f_T_obstacle s_why s_wind
  simp only [Nat.reduceAdd]
  rw [rk.1, rk.2.2.1, r7, h0, C_gustOf W.1 (by omega) r2 rg, bnd_s, ← h0, hw]
  by_cases c1 : g 6 = 1
  · rw [if_pos c1, if_pos c1]
  · rw [if_neg c1, if_neg c1]
    by_cases c2 : g 6 = 2
    · rw [if_pos c2, if_pos c2]
    · rw [if_neg c2, if_neg c2]
      by_cases c3 : g 8 < 10
      · rw [if_pos c3, if_pos c3]
      · rw [if_neg c3, if_neg c3]
        by_cases c4 : s_gust g (g 0) < 5
        · rw [if_pos c4, if_pos c4]
        · rw [if_neg c4, if_neg c4]
/-! forecasts -/
theorem lpC_gg {N0 rr n : Nat} {M : Mem} {f : Nat → Int32} (hn : n ≤ 16) (h : M 10 2 = nI n) (hf : ∀ k, k < n → M 12 k = f k) (k4 : Int32 × Int32 → Mem → Option (Int32 × Mem)) : ∀ (d i N : Nat), i + d = n → d < N → lp_T_greatestGust_4 N0 rr 10 N (mx f i, nI i) M k4 = k4 (mx f n, nI n) M := by
  intro d
  induction d with
  | zero =>
    intro i N hi hN
    obtain ⟨N, rfl⟩ : ∃ n, N = n + 1 := ⟨N - 1, by omega⟩
    obtain rfl : i = n := by omega
    unfold lp_T_greatestGust_4
    dsimp only
    rw [h, if_neg (nI_nlt (Nat.le_refl _) (by omega))]
  | succ d ih =>
    intro i N hi hN
    obtain ⟨N, rfl⟩ : ∃ n, N = n + 1 := ⟨N - 1, by omega⟩
    unfold lp_T_greatestGust_4
    dsimp only
    rw [h, if_pos (nI_lt (by omega) (by omega)), show (10 + 2 : Nat) = 12 from rfl, C_valueAt (a := 12) (by show i < 16; omega) (by decide), bnd_s, nm_eq, nm_eq, nI_1, hf i (by omega)]
    exact ih (i + 1) N (by omega) (by omega)
/-- the greatest safe height below layer k; G: the greatest gust -/
def sfe (g : Row) (G : Int32) : Nat → Int32
  | 0 => -1
  | k + 1 => if g 2 < s_load g (G + nI k) then sfe g G k else nI (min 600 (100 * k + 99))
theorem sfe_s {g : Row} {G : Int32} {k : Nat} : sfe g G (k + 1) = if g 2 < s_load g (G + nI k) then sfe g G k else nI (min 600 (100 * k + 99)) := rfl
theorem lpC_safe {N0 rr : Nat} {M : Mem} {g : Row} {G : Int32} (hk : KR (M 11) g) : ∀ (k N : Nat), k ≤ 7 → k < N → lp_G_safeHeight_11 N0 rr G N (nI k - 1) M (fun (a7 : Int32) (M6 : Mem) => some ((-1 : Int32), M6)) = some (sfe g G k, M) := by
  intro k
  induction k with
  | zero =>
    intro N hi hN
    obtain ⟨N, rfl⟩ : ∃ n, N = n + 1 := ⟨N - 1, by omega⟩
    unfold lp_G_safeHeight_11
    rw [if_pos m1_neg]
    rfl
  | succ k ih =>
    intro N hi hN
    obtain ⟨N, rfl⟩ : ∃ n, N = n + 1 := ⟨N - 1, by omega⟩
    have e1 : f_K_loadUnder 11 (G + nI k) M = some (s_load g (G + nI k), M) := by
      unfold f_K_loadUnder s_load
      rw [hk.2.2.2.1]
    unfold lp_G_safeHeight_11
    rw [nI_pred, if_neg (nI_pos (by omega)), e1, bnd_s, hk.2.2.2.2.1, nm_eq, nI_m1, ih N (by omega) (by omega), sfe_s]
    by_cases e : g 2 < s_load g (G + nI k)
    · rw [if_pos e, if_neg (Int32.not_le.mpr e)]
    · rw [if_neg e, if_pos (Int32.not_lt.mp e), show nI k * (100 : Int32) = nI (k * 100) from pk_mul k 100, show nI (k * 100) + (100 : Int32) = nI (k * 100 + 100) from nI_add _ 100, show nI (k * 100 + 100) - (1 : Int32) = nI (k * 100 + 99) from pk_sub (b := 1) (by omega), show imin (600 : Int32) (nI (k * 100 + 99)) = nI (min 600 (k * 100 + 99)) from imin_nI (a := 600) (by omega) (by omega), Nat.mul_comm k 100]
theorem s_pass_gust {g : Row} (W : WF g) : s_pass g 5 = g 5 ∧ ∀ k, k < 16 → s_pass g (21 + k) = g (21 + k) := by
  have o : ∀ j, (j = 5 ∨ (21 ≤ j ∧ j < 37)) → s_pass g j = g j := fun j hj => by
    unfold s_pass s_tk
    by_cases c : g 0 = 10000
    · rw [if_pos c]
    · rw [if_neg c, inc_at, if_neg (by omega)]
      by_cases c2 : g 6 = 2
      · rw [if_pos c2, upd_at, if_neg (by omega)]
      · rw [if_neg c2]
        by_cases c1 : g 6 = 1
        · rw [if_pos c1, s_fly_out W (by omega) (by omega) (by omega) (by omega)]
        · rw [if_neg c1]
  exact ⟨o 5 (by omega), fun k hk => o _ (by omega)⟩
theorem s_pass_KR {κ g : Row} (ht : ¬ g 0 = 10000) (h : KR κ (s_tk g)) : KR κ (s_pass g) := by
  unfold s_pass
  rw [if_neg ht]
  exact KR_congr h (fun j hj => by rw [inc_at, if_neg (by omega)])
theorem itr_stop {n : Nat} : ∀ {g : Row}, g 0 = 10000 → itr s_pass n g = g := by
  induction n with
  | zero => intro g _; rfl
  | succ n ih =>
    intro g h
    have e : s_pass g = g := if_pos h
    show itr s_pass n (s_pass g) = g
    rw [e]
    exact ih h
/-- what the forecasts stand on: the station's own cells, and the forecast's kite over a row i ticks on -/
def FC (M : Mem) (g : Row) (t i : Nat) : Prop := WF g ∧ g 0 = nI (t + i) ∧ t + i ≤ 10000 ∧ M 10 7 = nI t ∧ M 10 2 = g 5 ∧ (∀ k, k < cn (g 5) → M 12 k = g (21 + k)) ∧ KR (M 23) g
theorem FC_step {M : Mem} {g : Row} {t i : Nat} (h : FC M g t i) (hlt : t + i < 10000) : ∃ κ : Row, f_T_gustOf 10 (nI (t + i)) M = some (s_gust g (g 0), M) ∧ f_K_passTick 23 (s_gust g (g 0)) M = some (setR M 23 κ) ∧ FC (setR M 23 κ) (s_pass g) t (i + 1) ∧ KR κ (s_pass g) := by
  obtain ⟨W, h0, -, h7, h2, hg, hk⟩ := h
  obtain ⟨κ, k1, k2⟩ := C_Kpass (M := M) (p := 23) W hk
  have ht : ¬ g 0 = 10000 := by rw [h0]; exact fun e => by have := (nI_eq (by omega) (by omega)).mp (e.trans (show (10000 : Int32) = nI 10000 from rfl)); omega
  have k3 := s_pass_KR ht k2
  obtain ⟨p5, pg⟩ := s_pass_gust W
  refine ⟨κ, by rw [h0]; exact C_gustOf W.1 (by omega) h2 hg, k1, ⟨s_pass_W W, by rw [s_pass_0 W (by omega) h0]; rfl, by omega, by rw [setR_at, if_neg (by decide)]; exact h7, by rw [setR_at, if_neg (by decide), p5]; exact h2, fun k hk2 => ?_, by rw [setR_self]; exact k3⟩, k3⟩
  rw [p5] at hk2
  obtain ⟨n, n1, n2, e5, -⟩ := W.1.2.1
  have hk3 := hk2
  rw [e5, cn_nI (by omega)] at hk3
  rw [setR_at, if_neg (by decide), pg k (by omega)]
  exact hg k hk2
theorem lpC_ha {N0 rr n t : Nat} (hn : n ≤ 100) (k : Int32 → Mem → Option (Int32 × Mem)) : ∀ (d i N : Nat) (M : Mem) (g : Row), i + d = n → d < N → FC M g t i → ∃ (v : Int32) (κ : Row), lp_G_heightAfter_23 N0 rr (nI n) N (nI i) M k = k v (setR M 23 κ) ∧ KR κ (itr s_pass d g) := by
  intro d
  induction d with
  | zero =>
    intro i N M g hi hN h
    obtain ⟨N, rfl⟩ : ∃ n, N = n + 1 := ⟨N - 1, by omega⟩
    obtain rfl : i = n := by omega
    unfold lp_G_heightAfter_23
    rw [if_neg (nI_nlt (Nat.le_refl _) (by omega))]
    exact ⟨nI i, M 23, by rw [setR_same], h.2.2.2.2.2.2⟩
  | succ d ih =>
    intro i N M g hi hN h
    obtain ⟨N, rfl⟩ : ∃ n, N = n + 1 := ⟨N - 1, by omega⟩
    unfold lp_G_heightAfter_23
    rw [if_pos (nI_lt (by omega) (by omega)), h.2.2.2.1, nI_add]
    rcases Nat.lt_or_ge (t + i) 10000 with q | q
    · obtain ⟨κ, e1, e2, e3, e4⟩ := FC_step h q
      rw [if_pos (by show nI (t + i) < nI 10000; exact nI_lt q (by omega)), e1, bnd_s, e2, bndM_s, nm_eq, nI_1]
      obtain ⟨v, κ', f1, f2⟩ := ih (i + 1) N (setR M 23 κ) (s_pass g) (by omega) (by omega) e3
      exact ⟨v, κ', by rw [f1, setR_setR], f2⟩
    · have e : t + i = 10000 := by have := h.2.2.1; omega
      rw [if_neg (by show ¬ nI (t + i) < nI 10000; exact nI_nlt q (by omega)), itr_stop (by rw [h.2.1, e]; rfl)]
      exact ⟨nI i, M 23, by rw [setR_same], h.2.2.2.2.2.2⟩
/-!  -/
theorem inc_ne {g : Row} {k j : Nat} (h : j ≠ k) : inc g k j = g j := if_neg h
theorem s_pass_14 {g : Row} (W : WF g) (h6 : ¬ g 6 = 2) : (¬ s_pass g 6 = 2 ∧ s_pass g 14 = g 14) ∨ (s_pass g 6 = 2 ∧ s_pass g 14 = g 14 + 1 ∧ ¬ g 0 = 10000) := by
  unfold s_pass s_tk
  by_cases c : g 0 = 10000
  · rw [if_pos c]; exact Or.inl ⟨h6, rfl⟩
  · rw [if_neg c, if_neg h6, inc_ne (show (6 : Nat) ≠ 0 by decide), inc_ne (show (14 : Nat) ≠ 0 by decide)]
    by_cases c1 : g 6 = 1
    · rw [if_pos c1]
      obtain ⟨Wg0, Wk0, Wb0, Wl0, -⟩ := W
      show (¬ s_try (s_f3 (s_wind g (g 7)) g) 6 = 2 ∧ s_try (s_f3 (s_wind g (g 7)) g) 14 = g 14) ∨ (s_try (s_f3 (s_wind g (g 7)) g) 6 = 2 ∧ s_try (s_f3 (s_wind g (g 7)) g) 14 = g 14 + 1 ∧ ¬ g 0 = 10000)
      generalize s_wind g (g 7) = w
      have hl : Ws 30 45 17 (s_f3 w g) := Ws_congr Wl0 (s_f3_out Wb0 (by omega) (by omega) (by omega)) (fun j h1 h2 => s_f3_out Wb0 (by omega) (by omega) (by omega))
      rw [s_try_out hl (by omega) (by omega), s_try_out hl (by omega) (by omega)]
      have f1 : ∀ j, (j = 6 ∨ j = 14) → s_f1 w g j = g j := fun j hj => by
        show s_buf w (inc g 12) j = g j
        rw [s_buf_out (Wb_inc12 Wb0) (by omega) (by omega), inc_at, if_neg (by omega)]
      have e14 : s_f3 w g 14 = s_f2 w g 14 := s_cl_at (by decide) (by decide)
      rw [e14]
      rcases s_strain_or (g := s_f1 w g) (w := w) with e | e
      · have e2 : s_f2 w g = s_str w (s_f1 w g) := e
        refine Or.inl ⟨?_, ?_⟩
        · show ¬ s_cl w (s_f2 w g) 6 = 2
          rw [e2]
          have h61 : s_str w (s_f1 w g) 6 = 1 := by rw [s_str_at (by decide), f1 6 (by omega)]; exact c1
          unfold s_cl s_climb
          rw [if_pos h61]
          by_cases d : s_hgt w (s_str w (s_f1 w g)) = 0
          · rw [if_pos d, upd_at, if_pos rfl]; decide
          · rw [if_neg d, upd_at, if_neg (by decide), h61]; decide
        · rw [e2, s_str_at (by decide), f1 14 (by omega)]
      · have e2 : s_f2 w g = s_snap w (s_str w (s_f1 w g)) := e
        refine Or.inr ⟨?_, ?_, c⟩
        · show s_cl w (s_f2 w g) 6 = 2
          rw [e2]
          unfold s_cl
          rw [if_neg (by show ¬ (2 : Int32) = 1; decide)]
          rfl
        · rw [e2]
          show s_str w (s_f1 w g) 14 + 1 = g 14 + 1
          rw [s_str_at (by decide), f1 14 (by omega)]
    · rw [if_neg c1]; exact Or.inl ⟨h6, rfl⟩
theorem s_pass_idle {g : Row} (h6 : ¬ g 6 = 2) (h1 : ¬ g 6 = 1) : s_pass g 6 = g 6 ∧ s_pass g 14 = g 14 := by
  unfold s_pass s_tk
  by_cases c : g 0 = 10000
  · rw [if_pos c]; exact ⟨rfl, rfl⟩
  · rw [if_neg c, if_neg h6, if_neg h1, inc_at, if_neg (by decide), inc_at, if_neg (by decide)]; exact ⟨rfl, rfl⟩
/-- 200 ticks over the row: n are left -/
def sna : Nat → Row → Int32
  | 0, _ => -1
  | n + 1, g => if g 14 < s_pass g 14 then nI (200 - n) else sna n (s_pass g)
theorem sna_s {n : Nat} {g : Row} : sna (n + 1) g = if g 14 < s_pass g 14 then nI (200 - n) else sna n (s_pass g) := rfl
theorem WF_14 {g : Row} (W : WF g) : ∃ s, s ≤ 10000 ∧ g 14 = nI s := by
  obtain ⟨⟨t, ht, h0, ⟨s, hs, e⟩, -⟩, -⟩ := W.1
  exact ⟨s, by omega, e⟩
theorem lt_self_1 {s : Nat} (h : s ≤ 10000) : nI s < nI s + 1 := by rw [nI_1]; exact nI_lt (by omega) (by omega)
theorem sna_idle {n : Nat} : ∀ {g : Row}, WF g → g 6 = 0 ∨ g 6 = 2 ∨ g 0 = 10000 → (g 6 = 2 → s_pass g 14 = g 14) → sna n g = -1 := by
  induction n with
  | zero => intro g _ _ _; rfl
  | succ n ih =>
    intro g W h hs
    rw [sna_s]
    have key : s_pass g 14 = g 14 ∧ (s_pass g 6 = 0 ∨ s_pass g 6 = 2 ∨ s_pass g 0 = 10000) ∧ (s_pass g 6 = 2 → s_pass (s_pass g) 14 = s_pass g 14) := by
      rcases h with h | h | h
      · obtain ⟨e6, e14⟩ := s_pass_idle (g := g) (by rw [h]; decide) (by rw [h]; decide)
        exact ⟨e14, Or.inl (e6.trans h), fun q => absurd (q.symm.trans (e6.trans h)) (by decide)⟩
      · have two : ∀ g : Row, g 6 = 2 → s_pass g 6 = 2 ∧ s_pass g 14 = g 14 := fun g h => by
          unfold s_pass s_tk
          by_cases c : g 0 = 10000
          · rw [if_pos c]; exact ⟨h, rfl⟩
          · rw [if_neg c, if_pos h, inc_at, if_neg (by decide), inc_at, if_neg (by decide), upd_at, if_neg (by decide), upd_at, if_neg (by decide)]
            exact ⟨h, rfl⟩
        obtain ⟨a, b⟩ := two g h
        exact ⟨b, Or.inr (Or.inl a), fun q => (two _ q).2⟩
      · have e : s_pass g = g := if_pos h
        rw [e]
        exact ⟨rfl, Or.inr (Or.inr h), fun q => by rw [e]⟩
    rw [key.1, if_neg Int32.lt_irrefl]
    exact ih (s_pass_W W) key.2.1 key.2.2
theorem lpC_snap {N0 rr t : Nat} : ∀ (n N : Nat) (M : Mem) (g : Row), n ≤ 200 → n < N → FC M g t (200 - n) → ¬ g 6 = 2 → ∃ κ : Row, lp_G_ticksToSnap_32 N0 rr N (nI (200 - n)) M (fun (a9 : Int32) (M8 : Mem) => some ((-1 : Int32), M8)) = some (sna n g, setR M 23 κ) := by
  intro n
  induction n with
  | zero =>
    intro N M g hn hN h h6
    obtain ⟨N, rfl⟩ : ∃ n, N = n + 1 := ⟨N - 1, by omega⟩
    unfold lp_G_ticksToSnap_32
    rw [if_neg (by decide)]
    exact ⟨M 23, by rw [setR_same]; rfl⟩
  | succ n ih =>
    intro N M g hn hN h h6
    obtain ⟨N, rfl⟩ : ∃ n, N = n + 1 := ⟨N - 1, by omega⟩
    obtain ⟨s, hs, es⟩ := WF_14 h.1
    unfold lp_G_ticksToSnap_32
    rw [if_pos (by show nI (200 - (n + 1)) < nI 200; exact nI_lt (by omega) (by omega)), h.2.2.2.1, nI_add]
    rcases Nat.lt_or_ge (t + (200 - (n + 1))) 10000 with q | q
    · obtain ⟨κ, e1, e2, e3, e4⟩ := FC_step h q
      rw [if_pos (by show nI (t + (200 - (n + 1))) < nI 10000; exact nI_lt q (by omega)), e1, bnd_s, e2, bndM_s, setR_self, e4.1, sna_s]
      rcases s_pass_14 h.1 h6 with r | r
      · have c : ¬ g 14 < s_pass g 14 := by rw [r.2]; exact Int32.lt_irrefl
        rw [if_neg r.1, if_neg c, nm_eq, nI_1]
        rw [show 200 - (n + 1) + 1 = 200 - n from by omega] at e3 ⊢
        obtain ⟨κ', f⟩ := ih N (setR M 23 κ) (s_pass g) (by omega) (by omega) e3 r.1
        exact ⟨κ', by rw [f, setR_setR]⟩
      · have c : g 14 < s_pass g 14 := by rw [r.2.1, es]; exact lt_self_1 hs
        rw [if_pos r.1, if_pos c, nI_1, show 200 - (n + 1) + 1 = 200 - n from by omega]
        exact ⟨κ, rfl⟩
    · have e : t + (200 - (n + 1)) = 10000 := by have := h.2.2.1; omega
      have e10 : g 0 = 10000 := by rw [h.2.1, e]; rfl
      rw [if_neg (by show ¬ nI (t + (200 - (n + 1))) < nI 10000; exact nI_nlt q (by omega)), sna_idle h.1 (Or.inr (Or.inr e10)) (fun z => absurd z h6)]
      exact ⟨M 23, by rw [setR_same]⟩
