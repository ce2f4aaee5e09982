/-! the law's isStation -/
theorem jnB {ρ : Type} {p : Prop} [Decidable p] {f : Bool → Mem → Option ρ} {M : Mem} : jn f (fun j => if p then j true M else j false M) = f (decide p) M := by
  rw [jn_eq]
  by_cases c : p
  · rw [if_pos c, decide_eq_true c]
  · rw [if_neg c, decide_eq_false c]
theorem jnT {ρ α : Type} {p : Prop} [Decidable p] {f : α → Mem → Option ρ} {a b : α} {M : Mem} {o : (α → Mem → Option ρ) → Option ρ} (c : p) : jn f (fun j => if p then j a M else o j) = f a M := by
  rw [jn_eq, if_pos c]
theorem jnF {ρ α : Type} {p : Prop} [Decidable p] {f : α → Mem → Option ρ} {a : α} {M : Mem} {o : (α → Mem → Option ρ) → Option ρ} (c : ¬ p) : jn f (fun j => if p then o j else j a M) = f a M := by
  rw [jn_eq, if_neg c]
theorem load_mono {a x y : Nat} {g : Row} (ha : a ≤ 4) (e : g 1 = nI a) (hy : y ≤ 36) (h : x ≤ y) {L : Int32} (hl : ¬ L < s_load g (nI y)) : ¬ L < s_load g (nI x) := by
  have v : ∀ z, z ≤ 36 → s_load g (nI z) = nI (a * z * z / 8) ∧ a * z * z / 8 ≤ 700 := fun z hz => by
    have b1 : a * z ≤ 4 * 36 := Nat.mul_le_mul ha hz
    have b2 : a * z * z ≤ 4 * 36 * 36 := Nat.mul_le_mul b1 hz
    unfold s_load
    rw [e, pk_mul, pk_mul, show nI (a * z * z) / 8 = nI (a * z * z / 8) from pk_div (d := 8) (by omega) (by omega) (by omega)]
    exact ⟨rfl, by omega⟩
  have m : a * x * x / 8 ≤ a * y * y / 8 := Nat.div_le_div_right (Nat.mul_le_mul (Nat.mul_le_mul_left a h) h)
  obtain ⟨e1, k1⟩ := v x (by omega)
  obtain ⟨e2, k2⟩ := v y hy
  rw [e2] at hl
  rw [e1]
  intro q
  exact hl (Int32.lt_of_lt_of_le q (nI_le m (by omega)))
theorem mx_ge {f : Nat → Int32} : ∀ n, n ≤ 16 → (∀ k, k < n → ∃ v, v ≤ 30 ∧ f k = nI v) → ∃ m, m ≤ 30 ∧ mx f n = nI m ∧ ∀ k, k < n → ∃ v, v ≤ m ∧ f k = nI v := by
  intro n
  induction n with
  | zero => exact fun _ _ => ⟨0, by omega, rfl, fun k hk => by omega⟩
  | succ n ih =>
    intro hn hv
    obtain ⟨m, m1, m2, m3⟩ := ih (by omega) (fun k hk => hv k (by omega))
    obtain ⟨v, v1, v2⟩ := hv n (by omega)
    refine ⟨max m v, by omega, ?_, fun k hk => ?_⟩
    · show imax (mx f n) (f n) = _
      rw [m2, v2, imax_nI (by omega) (by omega)]
    · by_cases q : k = n
      · subst q
        exact ⟨v, by omega, v2⟩
      · obtain ⟨u, u1, u2⟩ := m3 k (by omega)
        exact ⟨u, by omega, u2⟩
theorem sfe_or {g : Row} {G : Int32} : ∀ k, k ≤ 7 → sfe g G k = -1 ∨ ∃ j, j < k ∧ sfe g G k = nI (min 600 (100 * j + 99)) ∧ ¬ g 2 < s_load g (G + nI j) := by
  intro k
  induction k with
  | zero => exact fun _ => Or.inl rfl
  | succ k ih =>
    intro hk
    rw [sfe_s]
    by_cases c : g 2 < s_load g (G + nI k)
    · rw [if_pos c]
      rcases ih (by omega) with q | ⟨j, j1, j2⟩
      · exact Or.inl q
      · exact Or.inr ⟨j, by omega, j2⟩
    · rw [if_neg c]
      exact Or.inr ⟨k, by omega, rfl, c⟩
section Q
variable {M : Mem} {g : Row} {N N0 rr : Nat} {u1 u2 u3 u4 u5 u8 u9 u10 : Int32} {u6 u7 : Bool}
theorem lpI_382 (h : RC M g) {n a j v : Nat} (e : g 5 = nI n) (hn : n ≤ 16) (ha : a ≤ 4) (e1 : g 1 = nI a) (hj : j ≤ 6) (hv : v ≤ 30) (hg : ∀ k, k < n → ∃ x, x ≤ v ∧ g (21 + k) = nI x) (hs : ¬ g 2 < s_load g (nI v + nI j)) (k : Int32 → Mem → Option (Bool × Mem)) : ∀ (m i N : Nat), i + m = n → m < N → lp_L_isStation_382 N0 rr u1 u2 u3 u4 u5 u6 u7 (nI (min 600 (100 * j + 99))) u9 u10 N (nI i) M k = k (nI n) M := by
  intro m
  induction m with
  | zero =>
    intro i N hi hN
    obtain ⟨N, rfl⟩ : ∃ n, N = n + 1 := ⟨N - 1, by omega⟩
    obtain rfl : i = n := by omega
    unfold lp_L_isStation_382
    rw [q_patternLength h, bnd_s, e, if_neg (nI_nlt (Nat.le_refl _) (by omega))]
  | succ m ih =>
    intro i N hi hN
    obtain ⟨N, rfl⟩ : ∃ n, N = n + 1 := ⟨N - 1, by omega⟩
    obtain ⟨x, x1, x2⟩ := hg i (by omega)
    have sg : s_gust g (nI i) = nI x := by
      rw [s_gust_v (n := n) (by omega) (by omega) hn e, Nat.mod_eq_of_lt (by omega)]
      exact x2
    have dv : nI (min 600 (100 * j + 99)) / (100 : Int32) = nI j := by
      rw [show nI (min 600 (100 * j + 99)) / (100 : Int32) = nI (min 600 (100 * j + 99) / 100) from pk_div (d := 100) (by omega) (by omega) (by omega)]
      congr 1
      omega
    have sv : ¬ g 2 < s_load g (nI (x + j)) := load_mono ha e1 (y := v + j) (by omega) (by omega) (by rw [← nI_add]; exact hs)
    unfold lp_L_isStation_382
    rw [q_patternLength h, bnd_s, e, if_pos (nI_lt (by omega) (by omega)), q_gust h (by omega), bnd_s, sg, dv, nI_add, q_loadOf h (by omega), bnd_s, q_limit h, bnd_s, if_neg sv, nm_eq, nI_1]
    exact ih (i + 1) N (by omega) (by omega)
theorem RC.k23 (h : RC M g) (κ : Row) : RC (setR M 23 κ) g := ⟨SR_congr h.1 (fun q _ h2 => setR_ne (by omega)), h.2⟩
theorem VM.k23 {c : Nat} {sn : Option Row} (h : VM M g c sn) (κ : Row) : VM (setR M 23 κ) g c sn := by
  obtain ⟨h1, ⟨h3, nx, h4, h5, h6⟩, h7, h8⟩ := h
  have e : ∀ q, q ≠ 23 → setR M 23 κ q = M q := fun q hq => setR_ne hq
  refine ⟨h1.k23 κ, ⟨h3, nx, h4, by rw [e 24 (by decide)]; exact h5, by rw [e 24 (by decide)]; exact h6⟩, fun p hp => ?_, fun s hs => ?_⟩
  · have := st_all p hp
    rw [e (p + 5) (by omega), e (p + 9) (by omega)]
    exact h7 p hp
  · obtain ⟨a1, a2, a3⟩ := h8 s hs
    exact ⟨by rw [e 0 (by decide)]; exact a1, SR_congr a2 (fun q _ _ => e q (by omega)), a3⟩
theorem b2i_dec {p q : Prop} [Decidable p] [Decidable q] (h : p ↔ q) : b2i (decide p) = b2i (decide q) := by
  by_cases c : p
  · rw [decide_eq_true c, decide_eq_true (h.mp c)]
  · rw [decide_eq_false c, decide_eq_false (fun x => c (h.mpr x))]
theorem dd {p : Prop} [Decidable p] : decide (decide p = true) = decide p := by
  by_cases c : p
  · rw [decide_eq_true c]; rfl
  · rw [decide_eq_false c]; rfl
theorem why_1 : s_why g = 1 ↔ g 6 = 1 := by
  unfold s_why
  by_cases c : g 6 = 1
  · rw [if_pos c]; exact ⟨fun _ => c, fun _ => rfl⟩
  · rw [if_neg c]
    refine ⟨fun e => ?_, fun e => absurd e c⟩
    by_cases c2 : g 6 = 2
    · rw [if_pos c2] at e; exact absurd e (by decide)
    · rw [if_neg c2] at e
      by_cases c3 : g 8 < 10
      · rw [if_pos c3] at e; exact absurd e (by decide)
      · rw [if_neg c3] at e
        by_cases c4 : s_wind g 0 < 5
        · rw [if_pos c4] at e; exact absurd e (by decide)
        · rw [if_neg c4] at e; exact absurd e (by decide)
theorem why_2 : s_why g = 2 ↔ g 6 = 2 := by
  unfold s_why
  by_cases c : g 6 = 1
  · rw [if_pos c]
    exact ⟨fun e => absurd e (by decide), fun e => absurd (c.symm.trans e) (by decide)⟩
  · rw [if_neg c]
    by_cases c2 : g 6 = 2
    · rw [if_pos c2]; exact ⟨fun _ => c2, fun _ => rfl⟩
    · rw [if_neg c2]
      refine ⟨fun e => ?_, fun e => absurd e c2⟩
      by_cases c3 : g 8 < 10
      · rw [if_pos c3] at e; exact absurd e (by decide)
      · rw [if_neg c3] at e
        by_cases c4 : s_wind g 0 < 5
        · rw [if_pos c4] at e; exact absurd e (by decide)
        · rw [if_neg c4] at e; exact absurd e (by decide)
theorem why_0 (h : s_why g = 0) : ¬ g 6 = 1 ∧ ¬ g 6 = 2 ∧ ¬ g 8 < 10 ∧ ¬ s_wind g 0 < 5 := by
  unfold s_why at h
  by_cases c : g 6 = 1
  · rw [if_pos c] at h; exact absurd h (by decide)
  · rw [if_neg c] at h
    by_cases c2 : g 6 = 2
    · rw [if_pos c2] at h; exact absurd h (by decide)
    · rw [if_neg c2] at h
      by_cases c3 : g 8 < 10
      · rw [if_pos c3] at h; exact absurd h (by decide)
      · rw [if_neg c3] at h
        by_cases c4 : s_wind g 0 < 5
        · rw [if_pos c4] at h; exact absurd h (by decide)
        · exact ⟨c, c2, c3, c4⟩
theorem ds_0 {f : Nat → Int32} : ∀ n, (∀ k, k < n → f k < f (k + 1)) → ds f n = 0 := by
  intro n
  induction n with
  | zero => exact fun _ => rfl
  | succ n ih =>
    intro h
    rw [ds_s, if_neg (Int32.not_le.mpr (h n (by omega)))]
    exact ih (fun k hk => h k (by omega))
end Q
