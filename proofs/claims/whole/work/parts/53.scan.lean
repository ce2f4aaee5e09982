/-! the texts: bytes, tokens, both sides -/
def TS (Mc Mr : Mem) (L : Nat) (b : Nat → Nat) : Prop := L ≤ 500 ∧ Mc 1 2 = nI L ∧ Mr 145 16 = nI L ∧ ∀ k, k < L → b k < 256 ∧ Mr 153 k = nI (b k) ∧ Mc 2 k &&& 255 = nI (b k)
def F1 (Mc Mc' : Mem) : Prop := (∀ q, q ≠ 1 → Mc' q = Mc q) ∧ ∀ k, k < 3 → Mc' 1 k = Mc 1 k
def F145 (Mr Mr' : Mem) : Prop := (∀ q, q ≠ 145 → Mr' q = Mr q) ∧ ∀ k, (k < 17 ∨ 22 ≤ k) → Mr' 145 k = Mr 145 k
theorem F1.rf {M : Mem} : F1 M M := ⟨fun _ _ => rfl, fun _ _ => rfl⟩
theorem F1.put {M M' : Mem} {k : Nat} {v : Int32} (h : F1 M M') (hk : 3 ≤ k) : F1 M (put M' 1 k v) := ⟨fun q a => by rw [put_ne a]; exact h.1 q a, fun j hj => by rw [put_row, upd_at, if_neg (by omega)]; exact h.2 j hj⟩
theorem F1.trans {M M' M'' : Mem} (h : F1 M M') (h2 : F1 M' M'') : F1 M M'' := ⟨fun q a => (h2.1 q a).trans (h.1 q a), fun k a => (h2.2 k a).trans (h.2 k a)⟩
theorem F145.rf {M : Mem} : F145 M M := ⟨fun _ _ => rfl, fun _ _ => rfl⟩
theorem F145.put {M M' : Mem} {k : Nat} {v : Int32} (h : F145 M M') (hk : 17 ≤ k ∧ k < 22) : F145 M (put M' 145 k v) := ⟨fun q a => by rw [put_ne a]; exact h.1 q a, fun j hj => by rw [put_row, upd_at, if_neg (by omega)]; exact h.2 j hj⟩
theorem F145.trans {M M' M'' : Mem} (h : F145 M M') (h2 : F145 M' M'') : F145 M M'' := ⟨fun q a => (h2.1 q a).trans (h.1 q a), fun k a => (h2.2 k a).trans (h.2 k a)⟩
theorem TS.kept {Mc Mr Mc' Mr' : Mem} {L : Nat} {b : Nat → Nat} (h : TS Mc Mr L b) (f : F1 Mc Mc') (g : F145 Mr Mr') : TS Mc' Mr' L b := by
  obtain ⟨h1, h2, h3, h4⟩ := h
  refine ⟨h1, by rw [f.2 2 (by omega)]; exact h2, by rw [g.2 16 (by omega)]; exact h3, fun k hk => ?_⟩
  rw [f.1 2 (by decide), g.1 153 (by decide)]
  exact h4 k hk
/-- a byte, or none -/
def by0 (b : Nat → Nat) (L k : Nat) : Int32 := if k < L then nI (b k) else -1
theorem C_byteAt {Mc Mr : Mem} {L k : Nat} {b : Nat → Nat} (h : TS Mc Mr L b) (hk : k ≤ 500) : f_X_byteAt (nI k) Mc = some (by0 b L k, Mc) := by
  obtain ⟨h1, h2, h3, h4⟩ := h
  unfold f_X_byteAt by0
  rw [if_neg (nI_pos (by omega)), h2]
  by_cases e : k < L
  · rw [if_pos (nI_lt e (by omega)), if_pos (by show nI k < nI 500; exact nI_lt (by omega) (by omega)), grd_of (inB_nI (by omega) (by omega)), nI_clamp (by omega), (h4 k e).2.2, if_pos e]
  · rw [if_neg (nI_nlt (by omega) (by omega)), if_neg e]
theorem R_byteAt {Mc Mr : Mem} {L k : Nat} {b : Nat → Nat} (h : TS Mc Mr L b) (hk : k ≤ 500) : f_M_byteAt (nI k) Mr = some (by0 b L k, Mr) := by
  obtain ⟨h1, h2, h3, h4⟩ := h
  unfold f_M_byteAt by0
  rw [h3]
  by_cases e : k < L
  · rw [if_pos (nI_lt e (by omega)), grd_of (inB_nI (by omega) (by omega)), nI_clamp (by omega), (h4 k e).2.1, if_pos e]
  · rw [if_neg (nI_nlt (by omega) (by omega)), if_neg e]
/-- the kind of a byte -/
def kd (x : Nat) : Nat := if 97 ≤ x ∧ x ≤ 122 then 1 else if 48 ≤ x ∧ x ≤ 57 then 2 else if x = 59 then 3 else if x = 40 then 4 else if x = 41 then 5 else 6
def kI (a1 : Int32) : Int32 := if a1 < 97 then (if a1 < 48 then (if a1 = -1 then 0 else if a1 = 40 then 4 else if a1 = 41 then 5 else if a1 = 59 then 3 else 6) else if a1 ≤ 57 then 2 else (if a1 = -1 then 0 else if a1 = 40 then 4 else if a1 = 41 then 5 else if a1 = 59 then 3 else 6)) else if a1 ≤ 122 then 1 else if a1 < 48 then (if a1 = -1 then 0 else if a1 = 40 then 4 else if a1 = 41 then 5 else if a1 = 59 then 3 else 6) else if a1 ≤ 57 then 2 else (if a1 = -1 then 0 else if a1 = 40 then 4 else if a1 = 41 then 5 else if a1 = 59 then 3 else 6)
theorem ite_sm {α : Type} {c : Prop} [Decidable c] {x y : α} {M : Mem} : (if c then some (x, M) else some (y, M)) = some (if c then x else y, M) := by
  by_cases h : c
  · rw [if_pos h, if_pos h]
  · rw [if_neg h, if_neg h]
theorem C_kindOf {a : Int32} {M : Mem} : f_X_kindOf a M = some (kI a, M) := by
  unfold f_X_kindOf kI
  simp only [ite_sm]
theorem kI_b : ∀ x, x < 256 → kI (nI x) = nI (kd x) := by decide +kernel
theorem kd_pos {x : Nat} : 1 ≤ kd x ∧ kd x ≤ 6 := by
  unfold kd
  repeat' split
  all_goals omega
def kb (b : Nat → Nat) (L k : Nat) : Nat := if k < L then kd (b k) else 0
theorem kI_by {Mc Mr : Mem} {L k : Nat} {b : Nat → Nat} (h : TS Mc Mr L b) : kI (by0 b L k) = nI (kb b L k) := by
  unfold by0 kb
  by_cases e : k < L
  · rw [if_pos e, if_pos e]; exact kI_b _ (h.2.2.2 k e).1
  · rw [if_neg e, if_neg e]; decide
theorem kb_le {b : Nat → Nat} {L k : Nat} : kb b L k ≤ 6 := by
  unfold kb
  by_cases e : k < L
  · rw [if_pos e]; exact kd_pos.2
  · rw [if_neg e]; omega
/-- a run -/
def run (P : Nat → Bool) (b : Nat → Nat) (L : Nat) : Nat → Nat → Nat
  | 0, n => n
  | f + 1, n => if n < L ∧ P (b n) = true then run P b L f (n + 1) else n
theorem run_s {P : Nat → Bool} {b : Nat → Nat} {L f n : Nat} : run P b L (f + 1) n = if n < L ∧ P (b n) = true then run P b L f (n + 1) else n := rfl
theorem run_W {P : Nat → Bool} {b : Nat → Nat} {L : Nat} : ∀ (f n : Nat), n + f = L → n ≤ run P b L f n ∧ run P b L f n ≤ L ∧ (∀ k, n ≤ k → k < run P b L f n → P (b k) = true) := by
  intro f
  induction f with
  | zero => intro n h; exact ⟨Nat.le_refl _, by show n ≤ L; omega, fun k h1 h2 => absurd h2 (by show ¬ k < n; omega)⟩
  | succ f ih =>
    intro n h
    rw [run_s]
    by_cases c : n < L ∧ P (b n) = true
    · rw [if_pos c]
      obtain ⟨h1, h2, h3⟩ := ih (n + 1) (by omega)
      refine ⟨by omega, h2, fun k q1 q2 => ?_⟩
      by_cases e : k = n
      · rw [e]; exact c.2
      · exact h3 k (by omega) q2
    · rw [if_neg c]; exact ⟨Nat.le_refl _, by omega, fun k h1 h2 => absurd h2 (by omega)⟩
def isBl (x : Nat) : Bool := decide (x = 32) || decide (x = 10)
def isLe (x : Nat) : Bool := decide (97 ≤ x) && decide (x ≤ 122)
def isDi (x : Nat) : Bool := decide (48 ≤ x) && decide (x ≤ 57)
theorem C_blank {b : Nat → Nat} {L k : Nat} {M : Mem} (hk : k < L) (hb : b k < 256) : f_X_isBlank (by0 b L k) M = some (isBl (b k), M) := by
  unfold f_X_isBlank by0 isBl
  rw [if_pos hk]
  by_cases e : b k = 32
  · rw [e, if_pos (by decide)]; rfl
  · rw [if_neg (fun q => e ((nI_eq (by omega) (by omega)).mp (q.trans (show (32 : Int32) = nI 32 from rfl)))), decide_eq_false e]
    by_cases e2 : b k = 10
    · rw [e2, if_pos (by decide)]; rfl
    · rw [if_neg (fun q => e2 ((nI_eq (by omega) (by omega)).mp (q.trans (show (10 : Int32) = nI 10 from rfl)))), decide_eq_false e2]; rfl
theorem isLe_kd {x : Nat} : isLe x = decide (kd x = 1) := by
  unfold isLe kd
  by_cases c : 97 ≤ x ∧ x ≤ 122
  · rw [if_pos c, decide_eq_true c.1, decide_eq_true c.2]; rfl
  · rw [if_neg c]
    have : ¬ ((if 48 ≤ x ∧ x ≤ 57 then 2 else if x = 59 then 3 else if x = 40 then 4 else if x = 41 then 5 else 6) = 1) := by
      repeat' split
      all_goals omega
    rw [decide_eq_false this]
    by_cases c1 : 97 ≤ x
    · rw [decide_eq_true c1, decide_eq_false (fun q => c ⟨c1, q⟩)]; rfl
    · rw [decide_eq_false c1]; rfl
theorem isDi_kd {x : Nat} : isDi x = decide (kd x = 2) := by
  unfold isDi kd
  by_cases c : 97 ≤ x ∧ x ≤ 122
  · rw [if_pos c, decide_eq_false (show ¬ (1 = 2) by omega), decide_eq_false (show ¬ x ≤ 57 by omega), Bool.and_false]
  · rw [if_neg c]
    by_cases c1 : 48 ≤ x ∧ x ≤ 57
    · rw [if_pos c1, decide_eq_true c1.1, decide_eq_true c1.2]; rfl
    · rw [if_neg c1]
      have : ¬ ((if x = 59 then 3 else if x = 40 then 4 else if x = 41 then 5 else 6) = 2) := by
        repeat' split
        all_goals omega
      rw [decide_eq_false this]
      by_cases c2 : 48 ≤ x
      · rw [decide_eq_true c2, decide_eq_false (fun q => c1 ⟨c2, q⟩)]; rfl
      · rw [decide_eq_false c2]; rfl
theorem R_letter {Mc Mr : Mem} {L k : Nat} {b : Nat → Nat} (h : TS Mc Mr L b) (hk : k ≤ 500) : f_M_isLetter (nI k) Mr = some (decide (kb b L k = 1), Mr) := by
  unfold f_M_isLetter
  rw [R_byteAt h hk, bnd_s, R_byteAt h hk, bnd_s]
  unfold by0 kb
  by_cases e : k < L
  · have hb := (h.2.2.2 k e).1
    rw [if_pos e, if_pos e, ← isLe_kd]
    unfold isLe
    by_cases c1 : 97 ≤ b k
    · rw [if_neg (by show ¬ nI (b k) < nI 97; exact nI_nlt c1 (by omega)), decide_eq_true c1]
      by_cases c2 : b k ≤ 122
      · rw [if_pos (by show nI (b k) ≤ nI 122; exact nI_le c2 (by omega)), decide_eq_true c2]; rfl
      · rw [if_neg (by show ¬ nI (b k) ≤ nI 122; exact nI_ge (by omega) (by omega)), decide_eq_false c2]; rfl
    · rw [if_pos (by show nI (b k) < nI 97; exact nI_lt (by omega) (by omega)), decide_eq_false c1]; rfl
  · rw [if_neg e, if_neg e]; rfl
theorem R_digit {Mc Mr : Mem} {L k : Nat} {b : Nat → Nat} (h : TS Mc Mr L b) (hk : k ≤ 500) : f_M_isDigit (nI k) Mr = some (decide (kb b L k = 2), Mr) := by
  unfold f_M_isDigit
  rw [R_byteAt h hk, bnd_s, R_byteAt h hk, bnd_s]
  unfold by0 kb
  by_cases e : k < L
  · have hb := (h.2.2.2 k e).1
    rw [if_pos e, if_pos e, ← isDi_kd]
    unfold isDi
    by_cases c1 : 48 ≤ b k
    · rw [if_neg (by show ¬ nI (b k) < nI 48; exact nI_nlt c1 (by omega)), decide_eq_true c1]
      by_cases c2 : b k ≤ 57
      · rw [if_pos (by show nI (b k) ≤ nI 57; exact nI_le c2 (by omega)), decide_eq_true c2]; rfl
      · rw [if_neg (by show ¬ nI (b k) ≤ nI 57; exact nI_ge (by omega) (by omega)), decide_eq_false c2]; rfl
    · rw [if_pos (by show nI (b k) < nI 48; exact nI_lt (by omega) (by omega)), decide_eq_false c1]; rfl
  · rw [if_neg e, if_neg e]; rfl
theorem put_self {M : Mem} {p k : Nat} {v : Int32} (h : M p k = v) : put M p k v = M := by
  funext q
  rw [put_setR, setR_at]
  by_cases e : q = p
  · subst e
    rw [if_pos rfl]
    funext j
    rw [upd_at]
    by_cases e2 : j = k
    · rw [if_pos e2, e2, h]
    · rw [if_neg e2]
  · rw [if_neg e]
theorem put_put {M : Mem} {p k : Nat} {v w : Int32} : put (put M p k v) p k w = put M p k w := by
  rw [put_setR, put_setR, put_setR, setR_setR, setR_self]
  congr 1
  funext j
  rw [upd_at, upd_at, upd_at]
  by_cases e2 : j = k
  · rw [if_pos e2, if_pos e2]
  · rw [if_neg e2, if_neg e2, if_neg e2]
/-- blanks are passed -/
theorem lpC_sk {N0 rr L : Nat} {b : Nat → Nat} {k0 : Unit → Mem → Option Mem} : ∀ (f n N : Nat) (Mc Mr : Mem), n + f = L → f < N → TS Mc Mr L b → Mc 1 5 = nI n → lp_X_advance_0 N0 rr N () Mc k0 = k0 () (put Mc 1 5 (nI (run isBl b L f n))) := by
  intro f
  induction f with
  | zero =>
    intro n N Mc Mr h hN T h5
    obtain ⟨N, rfl⟩ : ∃ n, N = n + 1 := ⟨N - 1, by omega⟩
    unfold lp_X_advance_0
    rw [h5, T.2.1, if_neg (nI_nlt (by omega) (by have := T.1; omega))]
    show k0 () Mc = k0 () (put Mc 1 5 (nI n))
    rw [put_self h5]
  | succ f ih =>
    intro n N Mc Mr h hN T h5
    obtain ⟨N, rfl⟩ : ∃ n, N = n + 1 := ⟨N - 1, by omega⟩
    have hL := T.1
    unfold lp_X_advance_0
    rw [h5, T.2.1, if_pos (nI_lt (by omega) (by omega)), C_byteAt T (by omega), bnd_s, C_blank (by omega) (T.2.2.2 n (by omega)).1, bnd_s, run_s]
    by_cases e : isBl (b n) = true
    · rw [if_pos e, if_pos ⟨by omega, e⟩, nm_eq, h5, nI_1, ih (n + 1) N (put Mc 1 5 (nI (n + 1))) Mr (by omega) (by omega) (T.kept (F1.rf.put (by omega)) F145.rf) (by rw [put_row, upd_at, if_pos rfl]), put_put]
    · rw [if_neg e, if_neg (fun q => e q.2), put_self h5]
theorem lpR_sk {N0 rr L : Nat} {b : Nat → Nat} {k0 : Unit → Mem → Option Mem} : ∀ (f n N : Nat) (Mc Mr : Mem), n + f = L → f < N → TS Mc Mr L b → Mr 145 17 = nI n → lp_M_scan_0 N0 rr N () Mr k0 = k0 () (put Mr 145 17 (nI (run isBl b L f n))) := by
  intro f
  induction f with
  | zero =>
    intro n N Mc Mr h hN T h5
    obtain ⟨N, rfl⟩ : ∃ n, N = n + 1 := ⟨N - 1, by omega⟩
    have hL := T.1
    have e0 : by0 b L n = -1 := if_neg (by omega)
    unfold lp_M_scan_0
    rw [h5, R_byteAt T (by omega), bnd_s, e0, if_neg (by decide), h5, R_byteAt T (by omega), bnd_s, e0, if_neg (by decide)]
    show k0 () Mr = k0 () (put Mr 145 17 (nI n))
    rw [put_self h5]
  | succ f ih =>
    intro n N Mc Mr h hN T h5
    obtain ⟨N, rfl⟩ : ∃ n, N = n + 1 := ⟨N - 1, by omega⟩
    have hL := T.1
    have hb := (T.2.2.2 n (by omega)).1
    have e0 : by0 b L n = nI (b n) := if_pos (by omega)
    have next : isBl (b n) = true → lp_M_scan_0 N0 rr N () (put Mr 145 17 (nI (n + 1))) k0 = k0 () (put Mr 145 17 (nI (run isBl b L (f + 1) n))) := fun e => by
      rw [run_s, if_pos ⟨by omega, e⟩, ih (n + 1) N Mc (put Mr 145 17 (nI (n + 1))) (by omega) (by omega) (T.kept F1.rf (F145.rf.put (by omega))) (by rw [put_row, upd_at, if_pos rfl]), put_put]
    unfold lp_M_scan_0
    rw [h5, R_byteAt T (by omega), bnd_s, e0, h5, R_byteAt T (by omega), bnd_s, e0, nm_eq, nm_eq, h5, nI_1]
    by_cases e : b n = 32
    · rw [if_pos (by rw [e]; rfl)]
      exact next (by rw [e]; rfl)
    · rw [if_neg (fun q => e ((nI_eq (by omega) (by omega)).mp (q.trans (show (32 : Int32) = nI 32 from rfl))))]
      by_cases e2 : b n = 10
      · rw [if_pos (by rw [e2]; rfl)]
        exact next (by rw [e2]; rfl)
      · rw [if_neg (fun q => e2 ((nI_eq (by omega) (by omega)).mp (q.trans (show (10 : Int32) = nI 10 from rfl)))), run_s, if_neg (fun q => by
          have := q.2
          unfold isBl at this
          rw [decide_eq_false e, decide_eq_false e2] at this
          exact absurd this (by decide)), put_self h5]
/-- a word's letters -/
theorem lpC_wd {N0 rr L : Nat} {b : Nat → Nat} {k0 : Unit → Mem → Option Mem} : ∀ (f n N : Nat) (Mc Mr : Mem), n + f = L → f < N → TS Mc Mr L b → Mc 1 5 = nI n → lp_X_advance_69 N0 rr N () Mc k0 = k0 () (put Mc 1 5 (nI (run isLe b L f n))) := by
  intro f
  induction f with
  | zero =>
    intro n N Mc Mr h hN T h5
    obtain ⟨N, rfl⟩ : ∃ n, N = n + 1 := ⟨N - 1, by omega⟩
    unfold lp_X_advance_69
    rw [h5, T.2.1, if_neg (nI_nlt (by omega) (by have := T.1; omega))]
    show k0 () Mc = k0 () (put Mc 1 5 (nI n))
    rw [put_self h5]
  | succ f ih =>
    intro n N Mc Mr h hN T h5
    obtain ⟨N, rfl⟩ : ∃ n, N = n + 1 := ⟨N - 1, by omega⟩
    have hL := T.1
    have ek : kb b L n = kd (b n) := if_pos (by omega)
    have hk := kd_pos (x := b n)
    unfold lp_X_advance_69
    rw [h5, T.2.1, if_pos (nI_lt (by omega) (by omega)), C_byteAt T (by omega), bnd_s, C_kindOf, bnd_s, kI_by T, ek, run_s, isLe_kd]
    by_cases e : kd (b n) = 1
    · rw [if_pos (by rw [e]; rfl), if_pos ⟨by omega, decide_eq_true e⟩, nm_eq, h5, nI_1, ih (n + 1) N (put Mc 1 5 (nI (n + 1))) Mr (by omega) (by omega) (T.kept (F1.rf.put (by omega)) F145.rf) (by rw [put_row, upd_at, if_pos rfl]), put_put]
    · rw [if_neg (fun q => e ((nI_eq (by omega) (by omega)).mp (q.trans (show (1 : Int32) = nI 1 from rfl)))), if_neg (fun q => e (of_decide_eq_true q.2)), put_self h5]
theorem lpR_wd {N0 rr L : Nat} {b : Nat → Nat} {k0 : Unit → Mem → Option Mem} : ∀ (f n N : Nat) (Mc Mr : Mem), n + f = L → f < N → TS Mc Mr L b → Mr 145 17 = nI n → lp_M_scan_77 N0 rr N () Mr k0 = k0 () (put Mr 145 17 (nI (run isLe b L f n))) := by
  intro f
  induction f with
  | zero =>
    intro n N Mc Mr h hN T h5
    obtain ⟨N, rfl⟩ : ∃ n, N = n + 1 := ⟨N - 1, by omega⟩
    have hL := T.1
    have e0 : kb b L n = 0 := if_neg (by omega)
    unfold lp_M_scan_77
    rw [h5, R_letter T (by omega), bnd_s, e0, if_neg (by decide)]
    show k0 () Mr = k0 () (put Mr 145 17 (nI n))
    rw [put_self h5]
  | succ f ih =>
    intro n N Mc Mr h hN T h5
    obtain ⟨N, rfl⟩ : ∃ n, N = n + 1 := ⟨N - 1, by omega⟩
    have hL := T.1
    have ek : kb b L n = kd (b n) := if_pos (by omega)
    unfold lp_M_scan_77
    rw [h5, R_letter T (by omega), bnd_s, ek, run_s, isLe_kd]
    by_cases e : kd (b n) = 1
    · rw [if_pos (decide_eq_true e), if_pos ⟨by omega, decide_eq_true e⟩, nm_eq, h5, nI_1, ih (n + 1) N Mc (put Mr 145 17 (nI (n + 1))) (by omega) (by omega) (T.kept F1.rf (F145.rf.put (by omega))) (by rw [put_row, upd_at, if_pos rfl]), put_put]
    · rw [if_neg (fun q => e (of_decide_eq_true q)), if_neg (fun q => e (of_decide_eq_true q.2)), put_self h5]
/-- a number's value: the class's and the reference's -/
def cnm (b : Nat → Nat) (st : Nat) : Nat → Int32
  | 0 => 0
  | m + 1 => imin (cnm b st m * 10 + nI (b (st + m)) - 48) 1000000
theorem cnm_s {b : Nat → Nat} {st m : Nat} : cnm b st (m + 1) = imin (cnm b st m * 10 + nI (b (st + m)) - 48) 1000000 := rfl
theorem lpC_nm {N0 rr L st : Nat} {b : Nat → Nat} {k0 : Unit → Mem → Option Mem} : ∀ (f n N : Nat) (Mc Mr : Mem), n + f = L → f < N → st ≤ n → TS Mc Mr L b → Mc 1 5 = nI n → Mc 1 6 = cnm b st (n - st) → lp_X_advance_121 N0 rr N () Mc k0 = k0 () (put (put Mc 1 5 (nI (run isDi b L f n))) 1 6 (cnm b st (run isDi b L f n - st))) := by
  intro f
  induction f with
  | zero =>
    intro n N Mc Mr h hN hs T h5 h6
    obtain ⟨N, rfl⟩ : ∃ n, N = n + 1 := ⟨N - 1, by omega⟩
    unfold lp_X_advance_121
    rw [h5, T.2.1, if_neg (nI_nlt (by omega) (by have := T.1; omega))]
    show k0 () Mc = k0 () (put (put Mc 1 5 (nI n)) 1 6 (cnm b st (n - st)))
    rw [put_self h5, put_self h6]
  | succ f ih =>
    intro n N Mc Mr h hN hs T h5 h6
    obtain ⟨N, rfl⟩ : ∃ n, N = n + 1 := ⟨N - 1, by omega⟩
    have hL := T.1
    have ek : kb b L n = kd (b n) := if_pos (by omega)
    have eb : by0 b L n = nI (b n) := if_pos (by omega)
    unfold lp_X_advance_121
    rw [h5, T.2.1, if_pos (nI_lt (by omega) (by omega)), C_byteAt T (by omega), bnd_s, C_kindOf, bnd_s, kI_by T, ek, run_s, isDi_kd, h5, C_byteAt T (by omega), bnd_s, eb]
    by_cases e : kd (b n) = 2
    · rw [if_pos (by rw [e]; rfl), if_pos ⟨by omega, decide_eq_true e⟩, nm_eq, nm_eq, h6]
      have e6 : imin (cnm b st (n - st) * 10 + nI (b n) - 48) 1000000 = cnm b st (n + 1 - st) := by
        rw [show n + 1 - st = (n - st) + 1 from by omega, cnm_s, show st + (n - st) = n from by omega]
      have e5 : (put Mc 1 6 (cnm b st (n + 1 - st))) 1 5 = nI n := by rw [put_row, upd_at, if_neg (by decide)]; exact h5
      rw [e6, e5, nI_1, ih (n + 1) N (put (put Mc 1 6 (cnm b st (n + 1 - st))) 1 5 (nI (n + 1))) Mr (by omega) (by omega) (by omega) (T.kept ((F1.rf.put (by omega)).put (by omega)) F145.rf) (by rw [put_row, upd_at, if_pos rfl]) (by rw [put_row, upd_at, if_neg (by decide), put_row, upd_at, if_pos rfl]), put_put]
      congr 1
      funext q j
      simp only [put_at]
      by_cases cq : q = 1
      · by_cases c6 : j = 6
        · simp [cq, c6]
        · simp [cq, c6]
      · simp [cq]
    · rw [if_neg (fun q => e ((nI_eq (by have := kd_pos (x := b n); omega) (by omega)).mp (q.trans (show (2 : Int32) = nI 2 from rfl)))), if_neg (fun q => e (of_decide_eq_true q.2)), put_self h5, put_self h6]
theorem lpR_nm {N0 rr L : Nat} {b : Nat → Nat} {k0 : Unit → Mem → Option Mem} : ∀ (f n N : Nat) (Mc Mr : Mem), n + f = L → f < N → TS Mc Mr L b → Mr 145 17 = nI n → lp_M_scan_120 N0 rr N () Mr k0 = k0 () (put Mr 145 17 (nI (run isDi b L f n))) := by
  intro f
  induction f with
  | zero =>
    intro n N Mc Mr h hN T h5
    obtain ⟨N, rfl⟩ : ∃ n, N = n + 1 := ⟨N - 1, by omega⟩
    have hL := T.1
    have e0 : kb b L n = 0 := if_neg (by omega)
    unfold lp_M_scan_120
    rw [h5, R_digit T (by omega), bnd_s, e0, if_neg (by decide)]
    show k0 () Mr = k0 () (put Mr 145 17 (nI n))
    rw [put_self h5]
  | succ f ih =>
    intro n N Mc Mr h hN T h5
    obtain ⟨N, rfl⟩ : ∃ n, N = n + 1 := ⟨N - 1, by omega⟩
    have hL := T.1
    have ek : kb b L n = kd (b n) := if_pos (by omega)
    unfold lp_M_scan_120
    rw [h5, R_digit T (by omega), bnd_s, ek, run_s, isDi_kd]
    by_cases e : kd (b n) = 2
    · rw [if_pos (decide_eq_true e), if_pos ⟨by omega, decide_eq_true e⟩, nm_eq, h5, nI_1, ih (n + 1) N Mc (put Mr 145 17 (nI (n + 1))) (by omega) (by omega) (T.kept F1.rf (F145.rf.put (by omega))) (by rw [put_row, upd_at, if_pos rfl]), put_put]
    · rw [if_neg (fun q => e (of_decide_eq_true q)), if_neg (fun q => e (of_decide_eq_true q.2)), put_self h5]
