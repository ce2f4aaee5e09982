/-! a mean of small numbers lies between 0 and 36 -/
theorem i2d_val {n : Nat} (h : n < 2 ^ 31) : ∃ c q, FP.Core.val64 (FP.i2d (nI n)) = .fin false c q ∧ FP.Core.fits FP.Core.b64 (.fin false c q) ∧ FP.Core.inUnits c q FP.Core.b64.qmin = n * 2 ^ 1074 := by
  have h1 := FP.Core.i2d_int (nI n)
  have hf := FP.Core.val64_fits (FP.i2d (nI n))
  unfold FP.Core.DInt at h1
  have hs : n = 0 → FP.Core.val64 (FP.i2d (nI n)) = .fin false 0 FP.Core.b64.qmin := by
    rintro rfl
    decide +kernel
  rw [nI_toInt h] at h1
  generalize FP.Core.val64 (FP.i2d (nI n)) = d at h1 hf hs ⊢
  cases d with
  | nan => exact h1.elim
  | inf s => exact h1.elim
  | fin s c q =>
    have hsg : s = false := by
      by_cases e : n = 0
      · have := hs e
        injection this
      · rw [FP.Core.whole_sign h1 (by omega)]
        exact decide_eq_false (by omega)
    subst hsg
    refine ⟨c, q, rfl, hf, ?_⟩
    have h3 := FP.Core.whole_units (e := FP.Core.b64.qmin) h1 hf.2.1
    rw [FP.Core.qmin_b64] at h3 ⊢
    rw [show (-1074 : Int).toNat = 0 from rfl, show (-(-1074) : Int).toNat = 1074 from rfl] at h3
    have h4 : ((FP.Core.inUnits c q (-1074) : Nat) : Int) * ((2 ^ 0 : Nat) : Int) = (n : Int) * ((2 ^ 1074 : Nat) : Int) := h3
    rw [← Int.natCast_mul, ← Int.natCast_mul] at h4
    have h5 := Int.ofNat_inj.mp h4
    rw [Nat.pow_zero, Nat.mul_one] at h5
    exact h5
theorem d36 : FP.Core.val64 (4630263366890291200 : UInt64) ≠ .nan ∧ FP.Core.fits FP.Core.b64 (FP.Core.val64 (4630263366890291200 : UInt64)) ∧ FP.Core.zmag FP.Core.b64 (FP.Core.val64 (4630263366890291200 : UInt64)) = 36 * 2 ^ 1074 ∧ FP.Core.sgn (FP.Core.val64 (4630263366890291200 : UInt64)) = false := ⟨by decide +kernel, FP.Core.val64_fits _, by decide +kernel, by decide +kernel⟩
theorem mean_in {s c : Nat} (hc : 1 ≤ c ∧ c ≤ 100) (hs : s ≤ 36 * c) : ¬ Op.cmpValue (FP.dcmp (mean (nI s) c) 0) .g < 0 ∧ ¬ 0 < Op.cmpValue (FP.dcmp (mean (nI s) c) (4630263366890291200 : UInt64)) .l := by
  obtain ⟨a, q, e1, f1, u1⟩ := i2d_val (n := s) (by omega)
  obtain ⟨b, r, e2, f2, u2⟩ := i2d_val (n := c) (by omega)
  have hq := f1.2.1
  have hr := f2.2.1
  have hb : b ≠ 0 := by
    rintro rfl
    unfold FP.Core.inUnits at u2
    rw [Nat.zero_mul] at u2
    have := Nat.two_pow_pos 1074
    have := Nat.mul_pos (show 0 < c by omega) this
    omega
  have hm : mean (nI s) c = FP.ddiv (FP.i2d (nI s)) (FP.i2d (nI c)) := if_neg (by omega)
  rw [hm]
  have hv : FP.Core.val64 (FP.ddiv (FP.i2d (nI s)) (FP.i2d (nI c))) = FP.Core.roundRatio FP.Core.b64 (false != false) a b (q - r) := by
    show FP.Core.val64 (FP.Core.ddiv (FP.i2d (nI s)) (FP.i2d (nI c))) = _
    rw [FP.Core.val64_ddiv, e1, e2]
    show (if b = 0 then _ else _) = _
    rw [if_neg hb]
  have hne : FP.Core.val64 (FP.ddiv (FP.i2d (nI s)) (FP.i2d (nI c))) ≠ .nan := by
    rw [hv]; exact FP.Core.roundRatio_ne_nan _ _ _ _ _
  have hsg : FP.Core.sgn (FP.Core.val64 (FP.ddiv (FP.i2d (nI s)) (FP.i2d (nI c)))) = false := by
    rw [hv, FP.Core.sgn_roundRatio]; rfl
  have hz : FP.Core.zval FP.Core.b64 (FP.Core.val64 (FP.ddiv (FP.i2d (nI s)) (FP.i2d (nI c)))) = ((FP.Core.zmag FP.Core.b64 (FP.Core.val64 (FP.ddiv (FP.i2d (nI s)) (FP.i2d (nI c)))) : Nat) : Int) := by
    unfold FP.Core.zval
    rw [hsg]
    rfl
  obtain ⟨g1, g2, g3, g4⟩ := d36
  have hz36 : FP.Core.zval FP.Core.b64 (FP.Core.val64 (4630263366890291200 : UInt64)) = ((36 * 2 ^ 1074 : Nat) : Int) := by
    unfold FP.Core.zval
    rw [g4, g3]
    rfl
  have hle : FP.Core.zmag FP.Core.b64 (FP.Core.val64 (FP.ddiv (FP.i2d (nI s)) (FP.i2d (nI c)))) ≤ 36 * 2 ^ 1074 := by
    rw [← g3, hv]
    have hqm := FP.Core.qmin_b64
    refine FP.Core.zmag_roundRatio_le FP.Core.good_b64 (e0 := 2 * FP.Core.b64.qmin - r) (Nat.pos_of_ne_zero hb) g2 g1 (by omega) (by omega) ?_
    rw [g3]
    have k1 : FP.Core.inUnits a (q - r) (2 * FP.Core.b64.qmin - r) = s * 2 ^ 1074 * 2 ^ 1074 := by
      rw [← u1]
      unfold FP.Core.inUnits
      have e : (q - r - (2 * FP.Core.b64.qmin - r)).toNat = (q - FP.Core.b64.qmin).toNat + 1074 := by omega
      rw [e, Nat.pow_add, Nat.mul_assoc]
    have k2 : 2 ^ (FP.Core.b64.qmin - (2 * FP.Core.b64.qmin - r)).toNat * b = c * 2 ^ 1074 := by
      rw [← u2]
      unfold FP.Core.inUnits
      have e : FP.Core.b64.qmin - (2 * FP.Core.b64.qmin - r) = r - FP.Core.b64.qmin := by omega
      rw [e, Nat.mul_comm]
    rw [k1, Nat.mul_assoc (36 * 2 ^ 1074), k2]
    generalize 2 ^ 1074 = T
    calc s * T * T ≤ 36 * c * T * T := Nat.mul_le_mul_right _ (Nat.mul_le_mul_right _ hs)
      _ = 36 * T * (c * T) := by ac_rfl
  have r1 := FP.Core.dcmp_ge (a := FP.ddiv (FP.i2d (nI s)) (FP.i2d (nI c))) (b := 0) |>.mpr ⟨hne, (by rw [FP.Core.val64_zero]; intro h; cases h), by rw [FP.Core.zval64_zero, hz]; exact Int.natCast_nonneg _⟩
  have r2 := FP.Core.dcmp_le (a := FP.ddiv (FP.i2d (nI s)) (FP.i2d (nI c))) (b := (4630263366890291200 : UInt64)) |>.mpr ⟨hne, g1, by rw [hz, hz36]; exact Int.ofNat_le.mpr hle⟩
  constructor
  · show ¬ Op.cmpValue (FP.Core.dcmp _ 0) .g < 0
    rcases r1 with h | h
    · rw [h]; decide
    · rw [h]; decide
  · show ¬ 0 < Op.cmpValue (FP.Core.dcmp _ _) .l
    rcases r2 with h | h
    · rw [h]; decide
    · rw [h]; decide
theorem mean_0 {s : Int32} : Op.cmpValue (FP.dcmp (mean s 0) 0) .l = 0 ∧ ¬ Op.cmpValue (FP.dcmp (mean s 0) 0) .g < 0 ∧ ¬ 0 < Op.cmpValue (FP.dcmp (mean s 0) (4630263366890291200 : UInt64)) .l := by
  rw [show mean s 0 = 0 from rfl]
  exact ⟨by decide +kernel, by decide +kernel, by decide +kernel⟩
theorem dcmp_same {a b : UInt64} (h : nn64 a = true) (e : a = b) : Op.cmpValue (FP.dcmp a b) .l = 0 := by
  subst e
  have h1 : FP.Core.dcmp a a = some .eq := FP.Core.dcmp_self (by
    rw [FP.Core.ne_nan]
    unfold nn64 at h
    have h2 := of_decide_eq_true h
    rw [UInt64.le_iff_toNat_le, UInt64.toNat_and] at h2
    rw [show (0x7fffffffffffffff : UInt64).toNat = 2 ^ 63 - 1 from rfl, Nat.and_two_pow_sub_one_eq_mod] at h2
    exact h2)
  show Op.cmpValue (FP.Core.dcmp a a) .l = 0
  rw [h1]
  rfl
theorem fcmp_same {a b : UInt32} (h : nn32 a = true) (e : a = b) : Op.cmpValue (FP.fcmp a b) .l = 0 := by
  subst e
  have h1 : FP.Core.fcmp a a = some .eq := FP.Core.fcmp_self (by
    rw [FP.Core.ne_nan32]
    unfold nn32 at h
    have h2 := of_decide_eq_true h
    rw [UInt32.le_iff_toNat_le, UInt32.toNat_and] at h2
    rw [show (0x7fffffff : UInt32).toNat = 2 ^ 31 - 1 from rfl, Nat.and_two_pow_sub_one_eq_mod] at h2
    exact h2)
  show Op.cmpValue (FP.Core.fcmp a a) .l = 0
  rw [h1]
  rfl
