/-! what the parsers are made of, both sides -/
/-- both go on well, or both have the same error -/
def OKB (L : Nat) (b : Nat → Nat) (Mc Mr : Mem) (r : Bool) (Mc' Mr' : Mem) : Prop := F1 Mc Mc' ∧ F145 Mr Mr' ∧ ((r = true ∧ GD Mc' Mr' L b) ∨ (r = false ∧ ER Mc' Mr' ∧ RB Mr' L b))
theorem kd3 {x y k : Nat} (h : (y = 59 ∧ k = 3) ∨ (y = 40 ∧ k = 4) ∨ (y = 41 ∧ k = 5)) : kd x = k ↔ x = y := by
  unfold kd
  constructor
  · intro e
    repeat' split at e
    all_goals omega
  · intro e
    subst e
    rcases h with ⟨rfl, rfl⟩ | ⟨rfl, rfl⟩ | ⟨rfl, rfl⟩ <;> decide
theorem R_isSym {Mc Mr : Mem} {L y k st nx : Nat} {b : Nat → Nat} (T : TS Mc Mr L b) (K : TK Mc Mr L b st nx) (e : Mr 145 20 = 0) (h : (y = 59 ∧ k = 3) ∨ (y = 40 ∧ k = 4) ∨ (y = 41 ∧ k = 5)) : f_M_isSymbol (nI y) Mr = some (decide (kb b L st = k), Mr) := by
  obtain ⟨k1, k2, k3, k4, k5, k6, k7, k8, k9⟩ := K
  have hL := T.1
  have h6 := kb_le (b := b) (L := L) (k := st)
  unfold f_M_isSymbol
  rw [if_pos e, k8, k2]
  by_cases c : 3 ≤ kb b L st
  · have hs : st < L := by
      unfold kb at c
      by_cases q : st < L
      · exact q
      · rw [if_neg q] at c; omega
    have ek : kb b L st = kd (b st) := if_pos hs
    rw [if_pos (by rw [Nat.min_eq_right c]; rfl), grd_of (inB_nI (by omega) (by omega)), nI_clamp (by omega), (T.2.2.2 st hs).2.1, ek]
    have hb := (T.2.2.2 st hs).1
    by_cases q : b st = y
    · rw [if_pos (by rw [q]), decide_eq_true ((kd3 h).mpr q)]
    · rw [if_neg (fun z => q ((nI_eq (by omega) (by omega)).mp z)), decide_eq_false (fun z => q ((kd3 h).mp z))]
  · rw [if_neg (fun z => by have := (nI_eq (by omega) (by omega)).mp (z.trans (show (3 : Int32) = nI 3 from rfl)); omega), decide_eq_false (by omega)]
theorem J_sgn {N rr r2 : Nat} {Mc Mr : Mem} {L y k : Nat} {b : Nat → Nat} (hN : 600 < N) (G : GD Mc Mr L b) (h : (y = 59 ∧ k = 3) ∨ (y = 40 ∧ k = 4) ∨ (y = 41 ∧ k = 5)) : ∃ r Mc' Mr', f_X_takeSign N rr (nI k) Mc = some (r, Mc') ∧ f_M_expect N r2 (nI y) Mr = some Mr' ∧ OKB L b Mc Mr r Mc' Mr' := by
  have G0 := G
  obtain ⟨T, ⟨st, nx, K⟩, e1, e2, e3⟩ := G
  have h6 := kb_le (b := b) (L := L) (k := st)
  unfold f_X_takeSign f_M_expect
  rw [R_isSym T K e1 h, bnd_s, K.2.2.2.2.2.2.1]
  by_cases c : kb b L st = k
  · rw [if_pos (by rw [c]), decide_eq_true c]
    obtain ⟨Mc', Mr', a1, a2, a3, a4, a5, a6⟩ := GD.adv (rr := rr) (r2 := r2) hN G0
    refine ⟨true, Mc', Mr', by rw [a1, bndM_s], ?_, a5.f, a6.f, Or.inl ⟨rfl, a4⟩⟩
    show bndM (some Mr) _ = _
    rw [bndM_s, a3, bndM_s]
  · rw [if_neg (fun z => c ((nI_eq (by omega) (by omega)).mp z)), decide_eq_false c]
    obtain ⟨Mc', Mr', a1, a2, a3, a4, a5, a6⟩ := GD.fail (c := 1) G0 (by omega) (by omega)
    refine ⟨false, Mc', Mr', ?_, ?_, a5, a6, Or.inr ⟨rfl, a3, a4⟩⟩
    · rw [show (1 : Int32) = nI 1 from rfl, a1, bnd_s]
    · rw [show (1 : Int32) = nI 1 from rfl, a2, bndM_s]
      unfold f_M_advance
      rw [if_neg a4.1, bndM_s]
theorem J_end {N rr : Nat} {Mc Mr : Mem} {L : Nat} {b : Nat → Nat} (hN : 600 < N) (G : GD Mc Mr L b) : ∃ r Mc' , f_X_takeSign N rr 0 Mc = some (r, Mc') ∧ (r = decide (Mr 145 19 = 0)) ∧ (r = true → GD Mc' Mr L b ∨ True) ∧ F1 Mc Mc' ∧ ((r = true ∧ Mc' 1 8 = 0 ∧ Mc' 1 9 = -1) ∨ (r = false ∧ ∃ Mr', f_M_check false 1 Mr = some Mr' ∧ ER Mc' Mr' ∧ RB Mr' L b ∧ F145 Mr Mr')) := by
  have G0 := G
  obtain ⟨T, ⟨st, nx, K⟩, e1, e2, e3⟩ := G
  have h6 := kb_le (b := b) (L := L) (k := st)
  unfold f_X_takeSign
  rw [K.2.2.2.2.2.2.1, K.2.2.2.2.2.2.2.1]
  by_cases c : kb b L st = 0
  · rw [if_pos (by rw [c]; rfl), decide_eq_true (by rw [c]; rfl)]
    obtain ⟨Mc', Mr', a1, a2, a3, a4, a5, a6⟩ := GD.adv (rr := rr) (r2 := rr) hN G0
    exact ⟨true, Mc', by rw [a1, bndM_s], rfl, fun _ => Or.inr trivial, a5.f, Or.inl ⟨rfl, a4.2.2.2.1, a4.2.2.2.2⟩⟩
  · rw [if_neg (nI_ne0 (by omega) (by omega)), decide_eq_false (nI_ne0 (by omega) (by omega))]
    obtain ⟨Mc', Mr', a1, a2, a3, a4, a5, a6⟩ := GD.fail (c := 1) G0 (by omega) (by omega)
    refine ⟨false, Mc', ?_, rfl, fun z => absurd z (by decide), a5, Or.inr ⟨rfl, Mr', a2, a3, a4, a6⟩⟩
    rw [show (1 : Int32) = nI 1 from rfl, a1, bnd_s]
/-! words -/
def wq (b : Nat → Nat) (st i : Nat) : Nat → Nat → Bool
  | 0, _ => true
  | f + 1, k => if nI (b (st + k)) = bytS i k then wq b st i f (k + 1) else false
theorem wq_s {b : Nat → Nat} {st i f k : Nat} : wq b st i (f + 1) k = if nI (b (st + k)) = bytS i k then wq b st i f (k + 1) else false := rfl
theorem lenS_lt9 : ∀ i, i < 20 → lenS i < 100 := by decide +kernel
theorem C_len {i : Nat} {M : Mem} : f_Str_length i M = some (nI (lenS i), M) := rfl
theorem C_chr {i k : Nat} {M : Mem} (hi : i < 20) (hk : k < lenS i) : f_Str_charAt i (nI k) M = some (bytS i k, M) := by
  have := lenS_lt9 i hi
  unfold f_Str_charAt
  rw [grd_of (inB_nI hk (by omega)), nI_clamp (by omega)]
theorem lpC_wq {N0 rr L st i : Nat} {b : Nat → Nat} {Mc Mr : Mem} (hi : i < 20) (T : TS Mc Mr L b) (h4 : Mc 1 4 = nI st) (hL : st + lenS i ≤ L) : ∀ (f k N : Nat), k + f = lenS i → f < N → lp_X_isAtWord_28 N0 rr i N (nI k) Mc (fun (a11 : Int32) (M10 : Mem) => some (true, M10)) = some (wq b st i f k, Mc) := by
  have hl := lenS_lt9 i hi
  have h500 := T.1
  intro f
  induction f with
  | zero =>
    intro k N hk hN
    obtain ⟨N, rfl⟩ : ∃ n, N = n + 1 := ⟨N - 1, by omega⟩
    unfold lp_X_isAtWord_28
    rw [C_len, bnd_s, if_neg (nI_nlt (by omega) (by omega))]
    rfl
  | succ f ih =>
    intro k N hk hN
    obtain ⟨N, rfl⟩ : ∃ n, N = n + 1 := ⟨N - 1, by omega⟩
    unfold lp_X_isAtWord_28
    rw [C_len, bnd_s, if_pos (nI_lt (by omega) (by omega)), h4, nI_add, C_byteAt T (by omega), bnd_s, C_chr hi (by omega), bnd_s, show by0 b L (st + k) = nI (b (st + k)) from if_pos (by omega), wq_s, nm_eq, nI_1, ih (k + 1) N (by omega) (by omega)]
    by_cases e : nI (b (st + k)) = bytS i k
    · rw [if_pos e, if_pos e]
    · rw [if_neg e, if_neg e]
theorem lpR_wq0 {N0 rr i N : Nat} {k : Int32} {Mr : Mem} : lp_M_isWord_39 N0 rr i (N + 1) (false, k) Mr (fun (a13 : Bool × Int32) (M12 : Mem) => some (a13.1, M12)) = some (false, Mr) := by
  unfold lp_M_isWord_39
  dsimp only
  rw [if_neg (by decide)]
theorem lpR_wq {N0 rr L st i : Nat} {b : Nat → Nat} {Mc Mr : Mem} (hi : i < 20) (T : TS Mc Mr L b) (h4 : Mr 145 18 = nI st) (hL : st + lenS i ≤ L) : ∀ (f k N : Nat), k + f = lenS i → f + 1 < N → lp_M_isWord_39 N0 rr i N (true, nI k) Mr (fun (a13 : Bool × Int32) (M12 : Mem) => some (a13.1, M12)) = some (wq b st i f k, Mr) := by
  have hl := lenS_lt9 i hi
  have h500 := T.1
  intro f
  induction f with
  | zero =>
    intro k N hk hN
    obtain ⟨N, rfl⟩ : ∃ n, N = n + 1 := ⟨N - 1, by omega⟩
    unfold lp_M_isWord_39
    dsimp only
    rw [if_pos rfl, C_len, bnd_s, if_neg (nI_nlt (by omega) (by omega))]
    rfl
  | succ f ih =>
    intro k N hk hN
    obtain ⟨N, rfl⟩ : ∃ n, N = n + 1 := ⟨N - 1, by omega⟩
    unfold lp_M_isWord_39
    dsimp only
    rw [if_pos rfl, C_len, bnd_s, if_pos (nI_lt (by omega) (by omega)), C_chr hi (by omega), bnd_s, h4, nI_add, grd_of (inB_nI (by omega) (by omega)), nI_clamp (by omega), (T.2.2.2 (st + k) (by omega)).2.1, wq_s, jn_eq]
    dsimp only
    rw [nm_eq, nI_1, nm_eq, ih (k + 1) N (by omega) (by omega)]
    by_cases e : nI (b (st + k)) = bytS i k
    · rw [if_pos e, if_pos e.symm]
    · rw [if_neg e, if_neg (fun z => e z.symm)]
      obtain ⟨N, rfl⟩ : ∃ n, N = n + 1 := ⟨N - 1, by omega⟩
      exact lpR_wq0
theorem J_isW {N rr r2 i : Nat} {Mc Mr : Mem} {L : Nat} {b : Nat → Nat} (hN : 600 < N) (hi : i < 20) (G : GD Mc Mr L b) : ∃ r, f_X_isAtWord N rr i Mc = some (r, Mc) ∧ f_M_isWord N r2 i Mr = some (r, Mr) ∧ (r = true → Mc 1 3 = 1) := by
  have hl := lenS_lt9 i hi
  obtain ⟨T, ⟨st, nx, k1, k2, k3, k4, k5, k6, k7, k8, k9⟩, e1, e2, e3⟩ := G
  have h500 := T.1
  have h6 := kb_le (b := b) (L := L) (k := st)
  have nofr : lp_M_isWord_39 N r2 i N (false, (0 : Int32)) Mr (fun (a13 : Bool × Int32) (M12 : Mem) => some (a13.1, M12)) = some (false, Mr) := by
    obtain ⟨N', hN'⟩ : ∃ n, N = n + 1 := ⟨N - 1, by omega⟩
    conv => lhs; arg 4; rw [hN']
    exact lpR_wq0
  unfold f_X_isAtWord f_M_isWord
  rw [jn_eq, if_pos e1, k7, k8, k3, k1]
  by_cases c : kb b L st = 1
  · rw [c, if_pos (show nI 1 = (1 : Int32) from rfl), if_pos (show nI (min 1 3) = (1 : Int32) from rfl), C_len, bnd_s, C_len, bnd_s, pk_sub k5]
    by_cases c2 : nx - st = lenS i
    · rw [if_pos (by rw [c2]), k4, k2, pk_sub k5, if_pos (by rw [c2])]
      dsimp only
      refine ⟨wq b st i (lenS i) 0, ?_, ?_, fun _ => rfl⟩
      · rw [← nI_0]; exact lpC_wq hi T k1 (by omega) (lenS i) 0 N (by omega) (by omega)
      · rw [← nI_0]; exact lpR_wq hi T k2 (by omega) (lenS i) 0 N (by omega) (by omega)
    · rw [if_neg (fun z => c2 ((nI_eq (by omega) (by omega)).mp z)), k4, k2, pk_sub k5, if_neg (fun z => c2 ((nI_eq (by omega) (by omega)).mp z.symm))]
      exact ⟨false, rfl, nofr, fun z => absurd z (by decide)⟩
  · rw [if_neg (fun z => c ((nI_eq (by omega) (by omega)).mp (z.trans (show (1 : Int32) = nI 1 from rfl)))), if_neg (fun z => by have := (nI_eq (by omega) (by omega)).mp (z.trans (show (1 : Int32) = nI 1 from rfl)); omega)]
    exact ⟨false, rfl, nofr, fun z => absurd z (by decide)⟩
/-- a given word -/
theorem J_wrd {N rr r2 i : Nat} {Mc Mr : Mem} {L : Nat} {b : Nat → Nat} (hN : 600 < N) (hi : i < 20) (G : GD Mc Mr L b) {α : Type} (o : Mem → Option α) : ∃ r Mc' Mr', f_X_takeWord N rr i Mc = some (r, Mc') ∧ (bnd (f_M_isWord N r2 i Mr) fun (x1 : Bool) (M2 : Mem) => bndM (f_M_check x1 (1 : Int32) M2) fun (M4 : Mem) => bndM (f_M_advance N r2 M4) o) = o Mr' ∧ OKB L b Mc Mr r Mc' Mr' := by
  obtain ⟨r, w1, w2, -⟩ := J_isW (rr := rr) (r2 := r2) hN hi G
  unfold f_X_takeWord
  rw [w1, bnd_s, w2, bnd_s]
  cases r with
  | true =>
    obtain ⟨Mc', Mr', a1, a2, a3, a4, a5, a6⟩ := GD.adv (rr := rr) (r2 := r2) hN G
    refine ⟨true, Mc', Mr', by rw [if_pos rfl, a1, bndM_s], ?_, a5.f, a6.f, Or.inl ⟨rfl, a4⟩⟩
    show bndM (some Mr) _ = _
    rw [bndM_s, a3, bndM_s]
  | false =>
    obtain ⟨Mc', Mr', a1, a2, a3, a4, a5, a6⟩ := GD.fail (c := 1) G (by omega) (by omega)
    refine ⟨false, Mc', Mr', ?_, ?_, a5, a6, Or.inr ⟨rfl, a3, a4⟩⟩
    · rw [if_neg (by decide), show (1 : Int32) = nI 1 from rfl, a1, bnd_s]
    · rw [show (1 : Int32) = nI 1 from rfl, a2, bndM_s]
      unfold f_M_advance
      rw [if_neg a4.1, bndM_s]
