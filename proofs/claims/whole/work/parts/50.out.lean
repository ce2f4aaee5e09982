/-! the output, both sides -/
def OUl (Mc Mr : Mem) (l : Nat) : Prop := Mc 143 1 = nI l ∧ Mr 145 13 = nI l ∧ ∀ k, k < l → Mc 144 k = Mr 152 k
def OF (Mc Mc' Mr Mr' : Mem) : Prop := (∀ q, q ≠ 143 → q ≠ 144 → Mc' q = Mc q) ∧ (∀ q, q ≠ 145 → q ≠ 152 → Mr' q = Mr q) ∧ (∀ k, k ≠ 13 → Mr' 145 k = Mr 145 k)
theorem OF.rf {Mc Mr : Mem} : OF Mc Mc Mr Mr := ⟨fun _ _ _ => rfl, fun _ _ _ => rfl, fun _ _ => rfl⟩
theorem OF.trans {Mc Mc' Mc'' Mr Mr' Mr'' : Mem} (h : OF Mc Mc' Mr Mr') (h2 : OF Mc' Mc'' Mr' Mr'') : OF Mc Mc'' Mr Mr'' := ⟨fun q a b => (h2.1 q a b).trans (h.1 q a b), fun q a b => (h2.2.1 q a b).trans (h.2.1 q a b), fun k a => (h2.2.2 k a).trans (h.2.2 k a)⟩
theorem byte_id : ∀ s, s < 128 → (nI s).toInt8.toInt32 = nI s := by decide +kernel
theorem J_sign {s l : Nat} {Mc Mr : Mem} (hs : s < 128) (hl : l < 360) (h : OUl Mc Mr l) : ∃ Mc' Mr', f_O_addSign (nI s) Mc = some Mc' ∧ f_M_write (nI s) Mr = some Mr' ∧ OUl Mc' Mr' (l + 1) ∧ OF Mc Mc' Mr Mr' := by
  obtain ⟨h1, h2, h3⟩ := h
  unfold f_O_addSign f_M_write
  rw [h1, h2, if_neg (nI_pos (by omega)), if_pos (by show nI l < nI 360; exact nI_lt hl (by omega)), grd_of (inB_nI hl (by omega)), grd_of (inB_nI (by omega) (by omega)), nI_clamp (by omega), pk_vb, byte_id s hs]
  simp only [nm_eq]
  have a1 : (put Mc 144 l (nI s)) 143 1 = nI l := by rw [put_ne (by decide)]; exact h1
  have a2 : (put Mr 152 l (nI s)) 145 13 = nI l := by rw [put_ne (by decide)]; exact h2
  rw [a1, a2, nI_1]
  refine ⟨_, _, rfl, rfl, ⟨by rw [put_row, upd_at, if_pos rfl], by rw [put_row, upd_at, if_pos rfl], fun k hk => ?_⟩, fun q a b => by rw [put_ne a, put_ne b], fun q a b => by rw [put_ne a, put_ne b], fun k a => by rw [put_row, upd_at, if_neg a, put_ne (by decide)]⟩
  rw [put_ne (by decide), put_row, upd_at, put_ne (by decide), put_row, upd_at]
  by_cases e : k = l
  · rw [if_pos e, if_pos e]
  · rw [if_neg e, if_neg e]; exact h3 k (by omega)
def aS : List Nat → Mem → Option Mem
  | [], M => some M
  | s :: r, M => bndM (f_O_addSign (nI s) M) (aS r)
def wS : List Nat → Mem → Option Mem
  | [], M => some M
  | s :: r, M => bndM (f_M_write (nI s) M) (wS r)
theorem J_signs : ∀ (ss : List Nat) (l : Nat) (Mc Mr : Mem), (∀ s ∈ ss, s < 128) → l + ss.length ≤ 360 → OUl Mc Mr l → ∃ Mc' Mr', aS ss Mc = some Mc' ∧ wS ss Mr = some Mr' ∧ OUl Mc' Mr' (l + ss.length) ∧ OF Mc Mc' Mr Mr' := by
  intro ss
  induction ss with
  | nil => intro l Mc Mr _ _ h; exact ⟨Mc, Mr, rfl, rfl, h, OF.rf⟩
  | cons s r ih =>
    intro l Mc Mr hs hl h
    rw [List.length_cons] at hl
    obtain ⟨M1, M2, e1, e2, e3, e4⟩ := J_sign (hs s List.mem_cons_self) (by omega) h
    obtain ⟨M3, M4, f1, f2, f3, f4⟩ := ih (l + 1) M1 M2 (fun x hx => hs x (List.mem_cons_of_mem _ hx)) (by omega) e3
    refine ⟨M3, M4, ?_, ?_, ?_, e4.trans f4⟩
    · unfold aS; rw [e1, bndM_s, f1]
    · unfold wS; rw [e2, bndM_s, f2]
    · rw [List.length_cons, show l + (r.length + 1) = l + 1 + r.length from by omega]; exact f3
theorem chr {n : Nat} (h : n < 128) : ((nI n).toUInt32 % 65536).toInt32 = nI n := by
  rw [pk_char, pk_tn (by omega), Nat.mod_eq_of_lt (by omega)]
theorem q48 (n : Nat) : (48 : Int32) + nI n = nI (48 + n) := nI_add 48 n
theorem irm10 {a : Nat} (h : a < 2 ^ 31) : irm (nI a) (10 : Int32) = nI (a % 10) := irm_nI (d := 10) h (by omega) (by omega)
theorem div10 {a : Nat} (h : a < 2 ^ 31) : nI a / (10 : Int32) = nI (a / 10) := pk_div (d := 10) h (by omega) (by omega)
/-- a place of the class's digits: a sign, or none -/
theorem lpC_dig {N0 rr N v p : Nat} {b : Int32} {M : Mem} {k : Int32 × Int32 → Mem → Option Mem} (hv : v < 10000) (hp : 0 < p) (hp2 : p ≤ 1000) (hs : 0 < v / p % 10 ∨ ¬ b = 0 ∨ p = 1) : lp_O_addNumber_6 N0 rr (nI v) (N + 1) (b, nI p) M k = bndM (f_O_addSign (nI (48 + v / p % 10)) M) fun M3 => lp_O_addNumber_6 N0 rr (nI v) N (1, nI (p / 10)) M3 k := by
  have hm := mod_lt (n := 10) (a := v / p) (by omega)
  have hvp : v / p ≤ v := Nat.div_le_self v p
  conv => lhs; unfold lp_O_addNumber_6
  dsimp only
  rw [if_pos (by rw [← nI_0]; exact nI_lt hp (by omega)), grd_of (nzB_nI hp (by omega)), pk_div (by omega) hp (by omega), irm10 (by omega), nm_eq, q48, chr (by omega), div10 (by omega)]
  simp only [nm_eq]
  by_cases c1 : 0 < v / p % 10
  · rw [if_neg (by rw [← nI_0]; exact nI_ge c1 (by omega))]
  · rw [if_pos (by rw [← nI_0]; exact nI_le (by omega) (by omega))]
    by_cases c2 : b = 0
    · rw [if_pos c2]
      have : p = 1 := (hs.resolve_left c1).resolve_left (fun q => q c2)
      subst this
      rw [if_pos (show nI 1 = (1 : Int32) from rfl)]
    · rw [if_neg c2]
theorem lpC_dig0 {N0 rr N v p : Nat} {M : Mem} {k : Int32 × Int32 → Mem → Option Mem} (hv : v < 10000) (hp : 1 < p) (hp2 : p ≤ 1000) (hs : v / p % 10 = 0) : lp_O_addNumber_6 N0 rr (nI v) (N + 1) (0, nI p) M k = lp_O_addNumber_6 N0 rr (nI v) N (0, nI (p / 10)) M k := by
  have hvp : v / p ≤ v := Nat.div_le_self v p
  conv => lhs; unfold lp_O_addNumber_6
  dsimp only
  rw [if_pos (by rw [← nI_0]; exact nI_lt (by omega) (by omega)), grd_of (nzB_nI (by omega) (by omega)), pk_div (by omega) (by omega) (by omega), irm10 (by omega), nm_eq, hs, div10 (by omega)]
  simp only [nm_eq]
  rw [if_pos (by decide), if_pos trivial, if_neg (fun e => by have := (nI_eq (by omega) (by omega)).mp (e.trans (show (1 : Int32) = nI 1 from rfl)); omega)]
theorem lpC_digE {N0 rr N : Nat} {v : Int32} {b : Int32} {M : Mem} {k : Int32 × Int32 → Mem → Option Mem} : lp_O_addNumber_6 N0 rr v (N + 1) (b, nI 0) M k = k (b, nI 0) M := by
  unfold lp_O_addNumber_6
  dsimp only
  rw [if_neg (by decide)]
theorem lpR_pow {N0 rr N v p : Nat} {M : Mem} {k : Int32 → Mem → Option Mem} (hv : v < 10000) (hp : 0 < p) (hp2 : p ≤ 1000) : lp_M_writeNumber_2 N0 rr (nI v) (N + 1) (nI p) M k = if 9 < v / p then lp_M_writeNumber_2 N0 rr (nI v) N (nI (p * 10)) M k else k (nI p) M := by
  have hvp : v / p ≤ v := Nat.div_le_self v p
  conv => lhs; unfold lp_M_writeNumber_2
  rw [grd_of (nzB_nI hp (by omega)), pk_div (by omega) hp (by omega), nm_eq, show nI p * (10 : Int32) = nI (p * 10) from pk_mul p 10]
  by_cases c : 9 < v / p
  · rw [if_pos (by show nI 9 < nI (v / p); exact nI_lt c (by omega)), if_pos c]
  · rw [if_neg (by show ¬ nI 9 < nI (v / p); exact nI_nlt (by omega) (by omega)), if_neg c]
theorem lpR_dig {N0 rr N v p : Nat} {M : Mem} {k : Int32 → Mem → Option Mem} (hv : v < 10000) (hp : 0 < p) (hp2 : p ≤ 1000) : lp_M_writeNumber_20 N0 rr (nI v) (N + 1) (nI p) M k = bndM (f_M_write (nI (48 + v / p % 10)) M) fun M5 => lp_M_writeNumber_20 N0 rr (nI v) N (nI (p / 10)) M5 k := by
  have hvp : v / p ≤ v := Nat.div_le_self v p
  conv => lhs; unfold lp_M_writeNumber_20
  rw [if_pos (by rw [← nI_0]; exact nI_lt hp (by omega)), grd_of (nzB_nI hp (by omega)), pk_div (by omega) hp (by omega), irm10 (by omega), q48, div10 (by omega)]
  simp only [nm_eq]
theorem lpR_digE {N0 rr N : Nat} {v : Int32} {M : Mem} {k : Int32 → Mem → Option Mem} : lp_M_writeNumber_20 N0 rr v (N + 1) (nI 0) M k = k (nI 0) M := by
  unfold lp_M_writeNumber_20
  rw [if_neg (by decide)]
def dgs (v : Nat) : List Nat := if 1000 ≤ v then [48 + v / 1000 % 10, 48 + v / 100 % 10, 48 + v / 10 % 10, 48 + v / 1 % 10] else if 100 ≤ v then [48 + v / 100 % 10, 48 + v / 10 % 10, 48 + v / 1 % 10] else if 10 ≤ v then [48 + v / 10 % 10, 48 + v / 1 % 10] else [48 + v / 1 % 10]
theorem dgs_lt {v : Nat} : ∀ s ∈ dgs v, s < 128 := by
  intro s hs
  unfold dgs at hs
  by_cases c1 : 1000 ≤ v
  · rw [if_pos c1] at hs
    simp only [List.mem_cons, List.not_mem_nil, or_false] at hs
    omega
  · rw [if_neg c1] at hs
    by_cases c2 : 100 ≤ v
    · rw [if_pos c2] at hs
      simp only [List.mem_cons, List.not_mem_nil, or_false] at hs
      omega
    · rw [if_neg c2] at hs
      by_cases c3 : 10 ≤ v
      · rw [if_pos c3] at hs
        simp only [List.mem_cons, List.not_mem_nil, or_false] at hs
        omega
      · rw [if_neg c3] at hs
        simp only [List.mem_cons, List.not_mem_nil, or_false] at hs
        omega
theorem dgs_len {v : Nat} : (dgs v).length ≤ 4 ∧ (v < 1000 → (dgs v).length ≤ 3) ∧ (v < 100 → (dgs v).length ≤ 2) := by
  unfold dgs
  by_cases c1 : 1000 ≤ v
  · rw [if_pos c1]; simp only [List.length_cons, List.length_nil]; omega
  · rw [if_neg c1]
    by_cases c2 : 100 ≤ v
    · rw [if_pos c2]; simp only [List.length_cons, List.length_nil]; omega
    · rw [if_neg c2]
      by_cases c3 : 10 ≤ v
      · rw [if_pos c3]; simp only [List.length_cons, List.length_nil]; omega
      · rw [if_neg c3]; simp only [List.length_cons, List.length_nil]; omega
theorem C_num {N rr v : Nat} {M : Mem} (hN : 6 < N) (hv : v < 10000) : f_O_addNumber N rr (nI v) M = aS (dgs v) M := by
  obtain ⟨N', rfl⟩ : ∃ n, N = n + 5 := ⟨N - 5, by omega⟩
  have n1 : ¬ (1 : Int32) = 0 := by decide
  unfold f_O_addNumber dgs
  rw [show (1000 : Int32) = nI 1000 from rfl]
  by_cases c1 : 1000 ≤ v
  · rw [if_pos c1, lpC_dig hv (by omega) (by omega) (Or.inl (by omega)), show 1000 / 10 = 100 from rfl]
    unfold aS; congr 1; funext M1
    rw [lpC_dig hv (by omega) (by omega) (Or.inr (Or.inl n1)), show 100 / 10 = 10 from rfl]
    unfold aS; congr 1; funext M2
    rw [lpC_dig hv (by omega) (by omega) (Or.inr (Or.inl n1)), show 10 / 10 = 1 from rfl]
    unfold aS; congr 1; funext M3
    rw [lpC_dig hv (by omega) (by omega) (Or.inr (Or.inl n1)), show 1 / 10 = 0 from rfl]
    unfold aS; congr 1
  · rw [if_neg c1, lpC_dig0 hv (by omega) (by omega) (by omega), show 1000 / 10 = 100 from rfl]
    by_cases c2 : 100 ≤ v
    · rw [if_pos c2, lpC_dig hv (by omega) (by omega) (Or.inl (by omega)), show 100 / 10 = 10 from rfl]
      unfold aS; congr 1; funext M2
      rw [lpC_dig hv (by omega) (by omega) (Or.inr (Or.inl n1)), show 10 / 10 = 1 from rfl]
      unfold aS; congr 1; funext M3
      rw [lpC_dig hv (by omega) (by omega) (Or.inr (Or.inl n1)), show 1 / 10 = 0 from rfl]
      unfold aS; congr 1
    · rw [if_neg c2, lpC_dig0 hv (by omega) (by omega) (by omega), show 100 / 10 = 10 from rfl]
      by_cases c3 : 10 ≤ v
      · rw [if_pos c3, lpC_dig hv (by omega) (by omega) (Or.inl (by omega)), show 10 / 10 = 1 from rfl]
        unfold aS; congr 1; funext M3
        rw [lpC_dig hv (by omega) (by omega) (Or.inr (Or.inl n1)), show 1 / 10 = 0 from rfl]
        unfold aS; congr 1
      · rw [if_neg c3, lpC_dig0 hv (by omega) (by omega) (by omega), show 10 / 10 = 1 from rfl, lpC_dig hv (by omega) (by omega) (Or.inr (Or.inr rfl)), show 1 / 10 = 0 from rfl]
        unfold aS; congr 1
theorem R_num {N rr v : Nat} {M : Mem} (hN : 6 < N) (hv : v < 10000) : f_M_writeNumber N rr (nI v) M = wS (dgs v) M := by
  obtain ⟨N', rfl⟩ : ∃ n, N = n + 5 := ⟨N - 5, by omega⟩
  unfold f_M_writeNumber dgs
  rw [show (1 : Int32) = nI 1 from rfl, lpR_pow hv (by omega) (by omega)]
  by_cases c3 : 10 ≤ v
  · rw [if_pos (show 9 < v / 1 by omega), lpR_pow hv (by omega) (by omega), show 1 * 10 = 10 from rfl]
    by_cases c2 : 100 ≤ v
    · rw [if_pos (show 9 < v / 10 by omega), lpR_pow hv (by omega) (by omega), show 10 * 10 = 100 from rfl]
      by_cases c1 : 1000 ≤ v
      · rw [if_pos (show 9 < v / 100 by omega), lpR_pow hv (by omega) (by omega), show 100 * 10 = 1000 from rfl, if_neg (show ¬ 9 < v / 1000 by omega), if_pos c1]
        rw [lpR_dig hv (by omega) (by omega), show 1000 / 10 = 100 from rfl]
        unfold wS; congr 1; funext M1
        rw [lpR_dig hv (by omega) (by omega), show 100 / 10 = 10 from rfl]
        unfold wS; congr 1; funext M2
        rw [lpR_dig hv (by omega) (by omega), show 10 / 10 = 1 from rfl]
        unfold wS; congr 1; funext M3
        rw [lpR_dig hv (by omega) (by omega), show 1 / 10 = 0 from rfl]
        unfold wS; congr 1
      · rw [if_neg (show ¬ 9 < v / 100 by omega), if_neg c1, if_pos c2]
        rw [lpR_dig hv (by omega) (by omega), show 100 / 10 = 10 from rfl]
        unfold wS; congr 1; funext M2
        rw [lpR_dig hv (by omega) (by omega), show 10 / 10 = 1 from rfl]
        unfold wS; congr 1; funext M3
        rw [lpR_dig hv (by omega) (by omega), show 1 / 10 = 0 from rfl]
        unfold wS; congr 1
    · rw [if_neg (show ¬ 9 < v / 10 by omega), if_neg (show ¬ 1000 ≤ v by omega), if_neg c2, if_pos c3]
      rw [lpR_dig hv (by omega) (by omega), show 10 / 10 = 1 from rfl]
      unfold wS; congr 1; funext M3
      rw [lpR_dig hv (by omega) (by omega), show 1 / 10 = 0 from rfl]
      unfold wS; congr 1
  · rw [if_neg (show ¬ 9 < v / 1 by omega), if_neg (show ¬ 1000 ≤ v by omega), if_neg (show ¬ 100 ≤ v by omega), if_neg c3]
    rw [lpR_dig hv (by omega) (by omega), show 1 / 10 = 0 from rfl]
    unfold wS; congr 1
theorem J_num {N v l m : Nat} {Mc Mr : Mem} (hN : 6 < N) (hv : v < 10000) (hm : (dgs v).length ≤ m) (hl : l + m ≤ 360) (h : OUl Mc Mr l) : ∃ Mc' Mr' l', f_O_addNumber N 146 (nI v) Mc = some Mc' ∧ f_M_writeNumber N 146 (nI v) Mr = some Mr' ∧ OUl Mc' Mr' l' ∧ l' ≤ l + m ∧ OF Mc Mc' Mr Mr' := by
  obtain ⟨Mc', Mr', e1, e2, e3, e4⟩ := J_signs (dgs v) l Mc Mr dgs_lt (by omega) h
  exact ⟨Mc', Mr', _, (C_num hN hv).trans e1, (R_num hN hv).trans e2, e3, by omega, e4⟩
