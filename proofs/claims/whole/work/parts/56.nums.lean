/-! numbers, both sides -/
def rnm (b : Nat → Nat) (st : Nat) : Nat → Int32
  | 0 => 0
  | m + 1 => if 9999999 < rnm b st m then rnm b st m else 10 * rnm b st m + nI (b (st + m)) - 48
theorem rnm_s {b : Nat → Nat} {st m : Nat} : rnm b st (m + 1) = if 9999999 < rnm b st m then rnm b st m else 10 * rnm b st m + nI (b (st + m)) - 48 := rfl
def NRel (c r : Int32) : Prop := ∃ x, (x < 1000000 ∧ c = nI x ∧ r = nI x) ∨ (1000000 ≤ x ∧ x < 2 ^ 28 ∧ c = nI 1000000 ∧ r = nI x)
theorem nrel {b : Nat → Nat} {st : Nat} : ∀ m, (∀ k, st ≤ k → k < st + m → isDi (b k) = true) → NRel (cnm b st m) (rnm b st m) := by
  intro m
  induction m with
  | zero => intro _; exact ⟨0, Or.inl ⟨by omega, rfl, rfl⟩⟩
  | succ m ih =>
    intro hd
    have hx := hd (st + m) (by omega) (by omega)
    unfold isDi at hx
    simp only [Bool.and_eq_true, decide_eq_true_eq] at hx
    have e10 : ∀ x, nI x * (10 : Int32) = nI (x * 10) := fun x => pk_mul x 10
    have e10' : ∀ x, (10 : Int32) * nI x = nI (10 * x) := fun x => pk_mul 10 x
    have e48 : ∀ y, 48 ≤ y → nI y - (48 : Int32) = nI (y - 48) := fun y hy => pk_sub (b := 48) hy
    have em : ∀ y, y < 2 ^ 31 → imin (nI y) (1000000 : Int32) = nI (min y 1000000) := fun y hy => imin_nI (b := 1000000) hy (by omega)
    rw [cnm_s, rnm_s]
    obtain ⟨x, ⟨h1, h2, h3⟩ | ⟨h1, h2, h3, h4⟩⟩ := ih (fun k a c => hd k a (by omega))
    · rw [h2, h3, e10, nI_add, e48 _ (by omega), em _ (by omega), if_neg (by show ¬ nI 9999999 < nI x; exact nI_nlt (by omega) (by omega)), e10', nI_add, e48 _ (by omega)]
      refine ⟨10 * x + b (st + m) - 48, ?_⟩
      rcases Nat.lt_or_ge (10 * x + b (st + m) - 48) 1000000 with q | q
      · exact Or.inl ⟨q, by rw [Nat.min_eq_left (by omega), Nat.mul_comm], rfl⟩
      · exact Or.inr ⟨q, by omega, by rw [Nat.min_eq_right (by omega)], rfl⟩
    · rw [h3, h4, e10, nI_add, e48 _ (by omega), em _ (by omega), Nat.min_eq_right (by omega)]
      rcases Nat.lt_or_ge 9999999 x with q | q
      · rw [if_pos (by show nI 9999999 < nI x; exact nI_lt q (by omega))]
        exact ⟨x, Or.inr ⟨h1, h2, rfl, rfl⟩⟩
      · rw [if_neg (by show ¬ nI 9999999 < nI x; exact nI_nlt q (by omega)), e10', nI_add, e48 _ (by omega)]
        exact ⟨_, Or.inr ⟨by omega, by omega, rfl, rfl⟩⟩
theorem lpR_val {N0 rr L st nx : Nat} {b : Nat → Nat} {Mc Mr : Mem} (T : TS Mc Mr L b) (h19 : Mr 145 19 = 2) (h17 : Mr 145 17 = nI nx) (hn : nx ≤ L) : ∀ (f k N : Nat), k + f = nx → st ≤ k → f < N → lp_M_value_7 N0 rr N (rnm b st (k - st), nI k) Mr (fun (a6 : Int32 × Int32) (M5 : Mem) => some (a6.1, M5)) = some (rnm b st (nx - st), Mr) := by
  have hL := T.1
  intro f
  induction f with
  | zero =>
    intro k N hk hs hN
    obtain ⟨N, rfl⟩ : ∃ n, N = n + 1 := ⟨N - 1, by omega⟩
    obtain rfl : k = nx := by omega
    unfold lp_M_value_7
    dsimp only
    rw [h17, if_neg (nI_nlt (by omega) (by omega))]
  | succ f ih =>
    intro k N hk hs hN
    obtain ⟨N, rfl⟩ : ∃ n, N = n + 1 := ⟨N - 1, by omega⟩
    have := ih (k + 1) N (by omega) (by omega) (by omega)
    rw [show k + 1 - st = (k - st) + 1 from by omega, rnm_s, show st + (k - st) = k from by omega] at this
    unfold lp_M_value_7
    dsimp only at this ⊢
    rw [h17, if_pos (nI_lt (by omega) (by omega)), if_pos h19]
    by_cases c : 9999999 < rnm b st (k - st)
    · rw [if_pos c] at this
      rw [if_pos c, nm_eq, nI_1]
      exact this
    · rw [if_neg c] at this
      rw [if_neg c, grd_of (inB_nI (by omega) (by omega)), nI_clamp (by omega), (T.2.2.2 k (by omega)).2.1, nm_eq, nm_eq, nI_1]
      exact this
theorem lpR_valB {N0 rr nx : Nat} {Mr : Mem} (h17 : Mr 145 17 = nI nx) (hn : nx ≤ 500) : ∀ (f k N : Nat) (v : Int32), k + f = nx → f < N → ∃ w, lp_M_value_7 N0 rr N (v, nI k) Mr (fun (a6 : Int32 × Int32) (M5 : Mem) => some (a6.1, M5)) = some (w, Mr) := by
  intro f
  induction f with
  | zero =>
    intro k N v hk hN
    obtain ⟨N, rfl⟩ : ∃ n, N = n + 1 := ⟨N - 1, by omega⟩
    unfold lp_M_value_7
    dsimp only
    rw [h17, if_neg (nI_nlt (by omega) (by omega))]
    exact ⟨v, rfl⟩
  | succ f ih =>
    intro k N v hk hN
    obtain ⟨N, rfl⟩ : ∃ n, N = n + 1 := ⟨N - 1, by omega⟩
    unfold lp_M_value_7
    dsimp only
    rw [h17, if_pos (nI_lt (by omega) (by omega))]
    by_cases c0 : Mr 145 19 = 2
    · rw [if_pos c0]
      by_cases c : 9999999 < v
      · rw [if_pos c, nm_eq, nI_1]
        exact ih (k + 1) N v (by omega) (by omega)
      · rw [if_neg c, grd_of (inB_nI (by omega) (by omega)), nm_eq, nm_eq, nI_1]
        exact ih (k + 1) N _ (by omega) (by omega)
    · rw [if_neg c0]
      exact ⟨v, rfl⟩
section RBS
variable {N rr L : Nat} {b : Nat → Nat} {Mr : Mem}
theorem B_check {x : Bool} {c : Int32} (h : RB Mr L b) : f_M_check x c Mr = some Mr := by
  unfold f_M_check
  cases x with
  | true => rfl
  | false => rw [if_neg (by decide), if_neg h.1]
theorem B_adv (h : RB Mr L b) : f_M_advance N rr Mr = some Mr := by
  unfold f_M_advance
  rw [if_neg h.1]
theorem B_isSym {y : Int32} (h : RB Mr L b) : f_M_isSymbol y Mr = some (false, Mr) := by
  unfold f_M_isSymbol
  rw [if_neg h.1]
theorem B_expect {y : Int32} (h : RB Mr L b) : f_M_expect N rr y Mr = some Mr := by
  unfold f_M_expect
  rw [B_isSym h, bnd_s, B_check h, bndM_s, B_adv h, bndM_s]
theorem B_isWord {i : Nat} (hN : 1 < N) (h : RB Mr L b) : f_M_isWord N rr i Mr = some (false, Mr) := by
  unfold f_M_isWord
  rw [jn_eq, if_neg h.1]
  dsimp only
  obtain ⟨N', hN'⟩ : ∃ n, N = n + 1 := ⟨N - 1, by omega⟩
  conv => lhs; arg 4; rw [hN']
  exact lpR_wq0
theorem B_value (hN : 600 < N) (h : RB Mr L b) : ∃ w, f_M_value N rr Mr = some (w, Mr) := by
  obtain ⟨-, hL, st, nx, e1, e2, e3, e4⟩ := h
  unfold f_M_value
  rw [nm_eq, e1]
  exact lpR_valB e2 (by omega) (nx - st) st N 0 (by omega) (by omega)
theorem B_look {lo hi : Int32} (hN : 600 < N) (h : RB Mr L b) : f_M_look N rr lo hi Mr = some (lo, Mr) := by
  obtain ⟨w, e⟩ := B_value (rr := rr) hN h
  unfold f_M_look
  rw [jn_eq]
  by_cases c : Mr 145 19 = 2
  · rw [if_pos c]
    dsimp only
    rw [B_check h, bndM_s, e, bnd_s, R_in, bnd_s, B_check h, bndM_s, if_neg h.1]
  · rw [if_neg c]
    dsimp only
    rw [B_check h, bndM_s, e, bnd_s, R_in, bnd_s, B_check h, bndM_s, if_neg h.1]
theorem B_readNumber {lo hi : Int32} (hN : 600 < N) (h : RB Mr L b) : f_M_readNumber N rr lo hi Mr = some (lo, Mr) := by
  unfold f_M_readNumber
  rw [B_look hN h, bnd_s, B_adv h, bndM_s]
end RBS
theorem J_chk {N rr L lo hi : Nat} {b : Nat → Nat} {Mc Mr : Mem} (hN : 600 < N) (hl : lo ≤ hi) (hh : hi < 10000) (G : GD Mc Mr L b) : (∃ x, lo ≤ x ∧ x ≤ hi ∧ Mc 1 6 = nI x ∧ f_X_checkNumber (nI lo) (nI hi) Mc = some (true, Mc) ∧ f_M_look N rr (nI lo) (nI hi) Mr = some (nI x, Mr)) ∨ (∃ Mc' Mr', f_X_checkNumber (nI lo) (nI hi) Mc = some (false, Mc') ∧ f_M_look N rr (nI lo) (nI hi) Mr = some (nI lo, Mr') ∧ ER Mc' Mr' ∧ RB Mr' L b ∧ F1 Mc Mc' ∧ F145 Mr Mr') := by
  have G0 := G
  obtain ⟨T, ⟨st, nx, k1, k2, k3, k4, k5, k6, k7, k8, k9⟩, e1, e2, e3⟩ := G
  have h6 := kb_le (b := b) (L := L) (k := st)
  unfold f_X_checkNumber f_M_look
  rw [jn_eq, k7, k8]
  by_cases c : kb b L st = 2
  · obtain ⟨m6, mlt, mdi⟩ := k9 c
    have m19 : Mr 145 19 = 2 := by rw [k8, c]; rfl
    have nr := nrel (b := b) (st := st) (nx - st) (fun k a c => mdi k a (by omega))
    have val : f_M_value N rr Mr = some (rnm b st (nx - st), Mr) := by
      unfold f_M_value
      rw [nm_eq, k2]
      have := lpR_val (N0 := N) (rr := rr) (st := st) T m19 k4 k6 (nx - st) st N (by omega) (Nat.le_refl _) (by have := T.1; omega)
      rw [Nat.sub_self] at this
      exact this
    rw [c, if_pos (show nI 2 = (2 : Int32) from rfl), if_pos (show nI (min 2 3) = (2 : Int32) from rfl), C_out, bnd_s, m6]
    dsimp only
    rw [show f_M_check true (1 : Int32) Mr = some Mr from rfl, bndM_s, val, bnd_s, R_in, bnd_s]
    have bad : outB (cnm b st (nx - st)) (nI lo) (nI hi) = true → outB (rnm b st (nx - st)) (nI lo) (nI hi) = true → (∃ Mc' Mr', (if outB (cnm b st (nx - st)) (nI lo) (nI hi) = true then (bnd (f_X_fail (2 : Int32) Mc) fun (x3 : Bool) (M4 : Mem) => if x3 = true then (some (true, M4)) else (some (false, M4))) else (some (true, Mc))) = some (false, Mc') ∧ (bndM (f_M_check (!outB (rnm b st (nx - st)) (nI lo) (nI hi)) (2 : Int32) Mr) fun (M11 : Mem) => if (M11 145 20) = 0 then (some (rnm b st (nx - st), M11)) else (some (nI lo, M11))) = some (nI lo, Mr') ∧ ER Mc' Mr' ∧ RB Mr' L b ∧ F1 Mc Mc' ∧ F145 Mr Mr') := fun o1 o2 => by
      obtain ⟨Mc', Mr', a1, a2, a3, a4, a5, a6⟩ := GD.fail (c := 2) G0 (by omega) (by omega)
      refine ⟨Mc', Mr', ?_, ?_, a3, a4, a5, a6⟩
      · rw [o1, if_pos rfl, show (2 : Int32) = nI 2 from rfl, a1, bnd_s, if_neg (by decide)]
      · rw [o2, show (2 : Int32) = nI 2 from rfl]
        show bndM (f_M_check false (nI 2) Mr) _ = _
        rw [a2, bndM_s, if_neg a4.1]
    obtain ⟨x, ⟨h1, h2, h3⟩ | ⟨h1, h2, h3, h4⟩⟩ := nr
    · cases ho : outB (nI x) (nI lo) (nI hi) with
      | true => exact Or.inr (bad (by rw [h2]; exact ho) (by rw [h3]; exact ho))
      | false =>
        obtain ⟨y, y1, y2, y3⟩ := outB_F (by omega) hl ho
        refine Or.inl ⟨y, y1, y2, by rw [h2, y3], ?_, ?_⟩
        · rw [h2, ho, if_neg (by decide)]
        · rw [h3, ho]
          show bndM (some Mr) _ = _
          rw [bndM_s, if_pos e1, y3]
    · have o1 : outB (nI 1000000) (nI lo) (nI hi) = true := by
        unfold outB
        rw [decide_eq_true (nI_lt (a := hi) (b := 1000000) (by omega) (by omega)), Bool.or_true]
      have o2 : outB (nI x) (nI lo) (nI hi) = true := by
        unfold outB
        rw [decide_eq_true (nI_lt (a := hi) (b := x) (by omega) (by omega)), Bool.or_true]
      exact Or.inr (bad (by rw [h3]; exact o1) (by rw [h4]; exact o2))
  · obtain ⟨Mc', Mr', a1, a2, a3, a4, a5, a6⟩ := GD.fail (c := 1) G0 (by omega) (by omega)
    obtain ⟨w, ew⟩ := B_value (rr := rr) hN a4
    refine Or.inr ⟨Mc', Mr', ?_, ?_, a3, a4, a5, a6⟩
    · rw [if_neg (fun z => c ((nI_eq (by omega) (by omega)).mp (z.trans (show (2 : Int32) = nI 2 from rfl)))), show (1 : Int32) = nI 1 from rfl, a1, bnd_s]
    · rw [if_neg (fun z => by have := (nI_eq (by omega) (by omega)).mp (z.trans (show (2 : Int32) = nI 2 from rfl)); omega)]
      dsimp only
      rw [show (1 : Int32) = nI 1 from rfl, a2, bndM_s, ew, bnd_s, R_in, bnd_s, B_check a4, bndM_s, if_neg a4.1]
theorem J_num2 {N rr r2 L lo hi : Nat} {b : Nat → Nat} {Mc Mr : Mem} (hN : 600 < N) (hl : lo ≤ hi) (hh : hi < 10000) (G : GD Mc Mr L b) : ∃ r x Mc' Mr', f_X_takeNumber N rr (nI lo) (nI hi) Mc = some (r, Mc') ∧ f_M_readNumber N r2 (nI lo) (nI hi) Mr = some (nI x, Mr') ∧ lo ≤ x ∧ x ≤ hi ∧ OKB L b Mc Mr r Mc' Mr' ∧ (r = true → Mc' 1 7 = nI x) := by
  unfold f_X_takeNumber f_M_readNumber
  rcases J_chk (rr := r2) hN hl hh G with ⟨x, x1, x2, x3, x4, x5⟩ | ⟨Mc', Mr', a1, a2, a3, a4, a5, a6⟩
  · rw [x4, bnd_s, if_pos rfl, nm_eq, x5, bnd_s]
    have G2 : GD (put Mc 1 7 (Mc 1 6)) Mr L b := by
      obtain ⟨T, ⟨st, nx, k1, k2, k3, k4, k5, k6, k7, k8, k9⟩, e1, e2, e3⟩ := G
      refine ⟨T.kept (F1.rf.put (by omega)) F145.rf, ⟨st, nx, ?_, k2, ?_, k4, k5, k6, ?_, k8, fun z => ?_⟩, e1, ?_, ?_⟩
      · rw [put_row, upd_at, if_neg (by decide)]; exact k1
      · rw [put_row, upd_at, if_neg (by decide)]; exact k3
      · rw [put_row, upd_at, if_neg (by decide)]; exact k7
      · rw [put_row, upd_at, if_neg (by decide)]; exact k9 z
      · rw [put_row, upd_at, if_neg (by decide)]; exact e2
      · rw [put_row, upd_at, if_neg (by decide)]; exact e3
    obtain ⟨Mc', Mr', a1, a2, a3, a4, a5, a6⟩ := GD.adv (rr := rr) (r2 := r2) hN G2
    refine ⟨true, x, Mc', Mr', by rw [a1, bndM_s], by rw [a3, bndM_s], x1, x2, ⟨(F1.rf.put (by omega)).trans a5.f, a6.f, Or.inl ⟨rfl, a4⟩⟩, fun _ => ?_⟩
    rw [a5.2 7 (by omega), put_row, upd_at, if_pos rfl, x3]
  · rw [a1, bnd_s, if_neg (by decide), a2, bnd_s, B_adv a4, bndM_s]
    exact ⟨false, lo, Mc', Mr', rfl, rfl, Nat.le_refl _, hl, ⟨a5, a6, Or.inr ⟨rfl, a3, a4⟩⟩, fun z => absurd z (by decide)⟩
/-- reading begins -/
theorem J_beg {N rr r2 L f : Nat} {Mc Mr : Mem} (hN : 600 < N) (hf : f ≤ 500) (hL : L ≤ f) (ht : ∀ k, k < f → ∃ b, b < 256 ∧ Mr 153 k = nI b ∧ Mc 2 k &&& 255 = nI b) : ∃ Mc' Mr' b, f_X_begin N rr (nI L) Mc = some Mc' ∧ f_M_startText N r2 (nI L) Mr = some Mr' ∧ GD Mc' Mr' L b ∧ (∀ q, q ≠ 1 → Mc' q = Mc q) ∧ (∀ k, k < 2 → Mc' 1 k = Mc 1 k) ∧ (∀ q, q ≠ 145 → Mr' q = Mr q) ∧ (∀ k, (k < 16 ∨ k = 22 ∨ 24 ≤ k) → Mr' 145 k = Mr 145 k) := by
  unfold f_X_begin f_M_startText
  simp only [nm_eq]
  have T : TS (put (put (put (put Mc 1 2 (nI L)) 1 5 0) 1 8 0) 1 9 (-1)) (put (put (put (put Mr 145 16 (nI L)) 145 17 0) 145 20 0) 145 23 0) L (fun k => cn (Mr 153 k)) := by
    refine ⟨by omega, ?_, ?_, fun k hk => ?_⟩
    · rw [put_row, upd_at, if_neg (by decide), put_row, upd_at, if_neg (by decide), put_row, upd_at, if_neg (by decide), put_row, upd_at, if_pos rfl]
    · rw [put_row, upd_at, if_neg (by decide), put_row, upd_at, if_neg (by decide), put_row, upd_at, if_neg (by decide), put_row, upd_at, if_pos rfl]
    · obtain ⟨x, h1, h2, h3⟩ := ht k (by omega)
      rw [put_ne (by decide), put_ne (by decide), put_ne (by decide), put_ne (by decide), put_ne (by decide), put_ne (by decide), put_ne (by decide), put_ne (by decide)]
      dsimp only
      rw [h2, cn_nI (by omega)]
      exact ⟨h1, rfl, h3⟩
  have a5 : (put (put (put (put Mc 1 2 (nI L)) 1 5 0) 1 8 0) 1 9 (-1)) 1 5 = nI 0 := by rw [put_row, upd_at, if_neg (by decide), put_row, upd_at, if_neg (by decide), put_row, upd_at, if_pos rfl]; rfl
  have a17 : (put (put (put (put Mr 145 16 (nI L)) 145 17 0) 145 20 0) 145 23 0) 145 17 = nI 0 := by rw [put_row, upd_at, if_neg (by decide), put_row, upd_at, if_neg (by decide), put_row, upd_at, if_pos rfl]; rfl
  obtain ⟨Mc', Mr', st, nx, b1, b2, b3, b4, b5⟩ := J_scan (rr := rr) (r2 := r2) hN T a5 a17 (by omega)
  rw [b1, b2, bndM_s, bndM_s]
  refine ⟨Mc', Mr', _, rfl, rfl, ⟨T.kept b4.f b5.f, ⟨st, nx, b3⟩, ?_, ?_, ?_⟩, fun q hq => ?_, fun k hk => ?_, fun q hq => ?_, fun k hk => ?_⟩
  · rw [b5.2 20 (by omega), put_row, upd_at, if_neg (by decide), put_row, upd_at, if_pos rfl]
  · rw [b4.2 8 (by omega), put_row, upd_at, if_neg (by decide), put_row, upd_at, if_pos rfl]
  · rw [b4.2 9 (by omega), put_row, upd_at, if_pos rfl]
  · rw [b4.1 q hq, put_ne hq, put_ne hq, put_ne hq, put_ne hq]
  · rw [b4.2 k (by omega), put_row, upd_at, if_neg (by omega), put_row, upd_at, if_neg (by omega), put_row, upd_at, if_neg (by omega), put_row, upd_at, if_neg (by omega)]
  · rw [b5.1 q hq, put_ne hq, put_ne hq, put_ne hq, put_ne hq]
  · rw [b5.2 k (by omega), put_row, upd_at, if_neg (by omega), put_row, upd_at, if_neg (by omega), put_row, upd_at, if_neg (by omega), put_row, upd_at, if_neg (by omega)]
