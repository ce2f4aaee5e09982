/-! the law's walks over the station -/
theorem sub1_lt {a b : Nat} (h : a ≤ b) (hb : b < 2 ^ 30) : nI a - 1 < nI b := by
  rcases Nat.eq_zero_or_pos a with q | q
  · subst q
    exact Int32.lt_of_lt_of_le (show nI 0 - (1 : Int32) < 0 by decide) (nI_pos' (by omega))
  · rw [show nI a - (1 : Int32) = nI (a - 1) from pk_sub (b := 1) (by omega)]
    exact nI_lt (by omega) (by omega)
theorem sub1_nlt {a b : Nat} (h : b < a) (ha : a < 2 ^ 30) : ¬ nI a - 1 < nI b := by
  rw [show nI a - (1 : Int32) = nI (a - 1) from pk_sub (b := 1) (by omega)]
  exact nI_nlt (by omega) (by omega)
section LST
variable {f : Nat → Int32} {d : Nat}
theorem lst_at (o : ∀ j k, j < k → k < d → f j < f k) {k : Nat} (hk : k < d) : ∀ n, k < n → n ≤ d → lst f (f k) n = nI k := by
  intro n
  induction n with
  | zero => exact fun h => by omega
  | succ n ih =>
    intro h1 h2
    rw [lst_s]
    by_cases e : k = n
    · subst e
      rw [if_neg Int32.lt_irrefl]
    · rw [if_pos (o k n (by omega) (by omega))]
      exact ih (by omega) (by omega)
theorem lst_be (o : ∀ j k, j < k → k < d → f j < f k) (v : ∀ k, k < d → ∃ t, t ≤ 9999 ∧ f k = nI t) {k : Nat} (hk : k < d) : ∀ n, k ≤ n → n ≤ d → lst f (f k - 1) n = nI k - 1 := by
  obtain ⟨t, ht, et⟩ := v k hk
  intro n
  induction n with
  | zero =>
    intro h1 _
    obtain rfl : k = 0 := by omega
    rfl
  | succ n ih =>
    intro h1 h2
    rw [lst_s]
    obtain ⟨u, hu, eu⟩ := v n (by omega)
    by_cases e : k ≤ n
    · have le : t ≤ u := by
        rcases Nat.lt_or_ge n (k + 1) with q | q
        · obtain rfl : n = k := by omega
          have := (nI_eq (by omega) (by omega)).mp (et.symm.trans eu)
          omega
        · have := o k n (by omega) (by omega)
          rw [et, eu] at this
          exact Nat.le_of_lt ((nI_ltI (by omega) (by omega)).mp this)
      rw [if_pos (by rw [et, eu]; exact sub1_lt le (by omega))]
      exact ih e (by omega)
    · obtain rfl : k = n + 1 := by omega
      have lt := o n (n + 1) (by omega) hk
      rw [et, eu] at lt
      have lt2 := (nI_ltI (by omega) (by omega)).mp lt
      rw [if_neg (by rw [et, eu]; exact sub1_nlt lt2 (by omega)), nI_pred]
theorem bst_max : ∀ n, n ≤ d → 0 < n → n < 2 ^ 30 → ∃ j, j < n ∧ bst f n = nI j ∧ ∀ m, m < n → ¬ f j < f m := by
  intro n
  induction n with
  | zero => exact fun _ h => by omega
  | succ n ih =>
    intro h1 _ h3
    rcases Nat.eq_zero_or_pos n with q | q
    · subst q
      refine ⟨0, by omega, rfl, fun m hm => ?_⟩
      obtain rfl : m = 0 := by omega
      exact Int32.lt_irrefl
    · obtain ⟨j, j1, j2, j3⟩ := ih (by omega) q (by omega)
      rw [bst_s, j2, if_neg (nI_pos (by omega)), cn_nI (by omega)]
      by_cases c : f j < f n
      · rw [if_pos c]
        refine ⟨n, by omega, rfl, fun m hm h => ?_⟩
        by_cases e : m = n
        · subst e; exact Int32.lt_irrefl h
        · exact j3 m (by omega) (Int32.lt_trans c h)
      · rw [if_neg c]
        refine ⟨j, by omega, rfl, fun m hm h => ?_⟩
        by_cases e : m = n
        · subst e; exact c h
        · exact j3 m (by omega) h
end LST
/-- the tick before -/
def bf (g : Row) (a : Nat) (z : Int32) : Nat → Int32
  | 0 => z
  | n + 1 => g (a + 3 * n)
section Q
variable {M : Mem} {g : Row} {N N0 rr : Nat} {u1 u2 u3 : Int32}
theorem lpI_6 (h : RC M g) {c : Nat} (e : g 16 = nI c) (hc : c ≤ 8) (k : Int32 × Int32 × Int32 → Mem → Option (Bool × Mem)) : ∀ (d i N : Nat), i + d = c → d < N → lp_L_isStation_6 N0 rr N (sm (fun j => g (37 + j)) i, mx (fun j => g (37 + j)) i, nI i) M k = k (sm (fun j => g (37 + j)) c, mx (fun j => g (37 + j)) c, nI c) M := by
  intro d
  induction d with
  | zero =>
    intro i N hi hN
    obtain ⟨N, rfl⟩ : ∃ n, N = n + 1 := ⟨N - 1, by omega⟩
    obtain rfl : i = c := by omega
    unfold lp_L_isStation_6
    dsimp only
    rw [q_bufferSize h, bnd_s, e, if_neg (nI_nlt (Nat.le_refl _) (by omega))]
  | succ d ih =>
    intro i N hi hN
    obtain ⟨N, rfl⟩ : ∃ n, N = n + 1 := ⟨N - 1, by omega⟩
    unfold lp_L_isStation_6
    dsimp only
    rw [q_bufferSize h, bnd_s, e, if_pos (nI_lt (by omega) (by omega)), q_bufferedWind h e hc (by omega), bnd_s, nm_eq, q_bufferedWind h e hc (by omega), bnd_s, nm_eq, nm_eq, nI_1]
    exact ih (i + 1) N (by omega) (by omega)
theorem lpI_43 (hN0 : 90 < N0) (h : RC M g) {c d : Nat} (e : g 18 = nI d) (hd2 : d ≤ 90) (o : Ro c d g) (k : Int32 × Int32 → Mem → Option (Bool × Mem)) : ∀ (m i N : Nat), i + m = d → m < N → lp_L_isStation_43 N0 rr u1 u2 N (bf g 135 (-1) i, nI i) M k = k (bf g 135 (-1) d, nI d) M := by
  obtain ⟨o1, -, -, -, -⟩ := o
  have tv : ∀ k, k < d → ∃ t, t ≤ 9999 ∧ g (135 + 3 * k) = nI t := fun k hk => by
    obtain ⟨c', hc', e', hv⟩ := h.w.2.2.2.2
    obtain rfl : c' = d := (nI_eq (by omega) (by omega)).mp (e'.symm.trans e)
    exact (hv k hk).1
  intro m
  induction m with
  | zero =>
    intro i N hi hN
    obtain ⟨N, rfl⟩ : ∃ n, N = n + 1 := ⟨N - 1, by omega⟩
    obtain rfl : i = d := by omega
    unfold lp_L_isStation_43
    dsimp only
    rw [q_archivedCount h, bnd_s, e, if_neg (nI_nlt (Nat.le_refl _) (by omega))]
  | succ m ih =>
    intro i N hi hN
    obtain ⟨N, rfl⟩ : ∃ n, N = n + 1 := ⟨N - 1, by omega⟩
    have hi2 : i < d := by omega
    obtain ⟨q1, q2, q3⟩ := q_arc h e hd2 hi2
    have lt : bf g 135 (-1) i < g (135 + 3 * i) := by
      cases i with
      | zero =>
        obtain ⟨t, ht, et⟩ := tv 0 hi2
        show (-1 : Int32) < g (135 + 3 * 0)
        rw [et]
        exact Int32.lt_of_lt_of_le (show (-1 : Int32) < 0 by decide) (nI_pos' (by omega))
      | succ i => exact o1 i (i + 1) (by omega) hi2
    obtain ⟨j, j1, j2, j3⟩ := bst_max (f := fun k => g (135 + 3 * k + 1)) (d := d) d (Nat.le_refl _) (by omega) (by omega)
    unfold lp_L_isStation_43
    dsimp only
    rw [q_archivedCount h, bnd_s, e, if_pos (nI_lt (by omega) (by omega)), q1, bnd_s, if_pos lt, q1, bnd_s, q_before hN0 h e hd2, bnd_s, if_pos (lst_at (f := fun k => g (135 + 3 * k)) o1 hi2 d hi2 (Nat.le_refl _)), q1, bnd_s, q_before hN0 h e hd2, bnd_s, if_pos (lst_be (f := fun k => g (135 + 3 * k)) o1 tv hi2 d (by omega) (Nat.le_refl _)), q2, bnd_s, q_highest hN0 h e hd2, bnd_s, j2, (q_arc h e hd2 j1).2.1, bnd_s, if_neg (j3 i hi2), q1, bnd_s, nm_eq, nI_1]
    exact ih (i + 1) N (by omega) (by omega)
theorem lpI_131 (h : RC M g) {c d : Nat} (e : g 17 = nI c) (hc : c ≤ 30) (e8 : g 18 = nI d) (hd2 : d ≤ 90) (o : Ro c d g) (l : Rl c g) (k : Int32 × Int32 → Mem → Option (Bool × Mem)) : ∀ (m i N : Nat), i + m = c → m < N → lp_L_isStation_131 N0 rr u1 u2 N (bf g 45 (bf g 135 (-1) d) i, nI i) M k = k (bf g 45 (bf g 135 (-1) d) c, nI c) M := by
  obtain ⟨-, o2, o3, o4, -⟩ := o
  have tv : ∀ k, k < c → (∃ t, t ≤ 9999 ∧ g (45 + 3 * k) = nI t) ∧ ∃ v, v ≤ 36 ∧ g (45 + 3 * k + 2) = nI v := fun k hk => by
    obtain ⟨c', hc', e', hv⟩ := h.w.2.2.2.1
    obtain rfl : c' = c := (nI_eq (by omega) (by omega)).mp (e'.symm.trans e)
    exact ⟨(hv k hk).1, (hv k hk).2.2⟩
  intro m
  induction m with
  | zero =>
    intro i N hi hN
    obtain ⟨N, rfl⟩ : ∃ n, N = n + 1 := ⟨N - 1, by omega⟩
    obtain rfl : i = c := by omega
    unfold lp_L_isStation_131
    dsimp only
    rw [q_loggedCount h, bnd_s, e, if_neg (nI_nlt (Nat.le_refl _) (by omega))]
  | succ m ih =>
    intro i N hi hN
    obtain ⟨N, rfl⟩ : ∃ n, N = n + 1 := ⟨N - 1, by omega⟩
    have hi2 : i < c := by omega
    obtain ⟨q1, q2, q3⟩ := q_log h e hc hi2
    have lt : bf g 45 (bf g 135 (-1) d) i < g (45 + 3 * i) := by
      cases i with
      | zero =>
        show bf g 135 (-1) d < g (45 + 3 * 0)
        cases d with
        | zero =>
          obtain ⟨⟨t, ht, et⟩, -⟩ := tv 0 hi2
          show (-1 : Int32) < g (45 + 3 * 0)
          rw [et]
          exact Int32.lt_of_lt_of_le (show (-1 : Int32) < 0 by decide) (nI_pos' (by omega))
        | succ d => exact o3 d 0 (by omega) hi2
      | succ i => exact o2 i (i + 1) (by omega) hi2
    obtain ⟨x, x1, x2, ex⟩ := l i hi2
    obtain ⟨-, v, v1, ev⟩ := tv i hi2
    unfold lp_L_isStation_131
    dsimp only
    rw [q_loggedCount h, bnd_s, e, if_pos (nI_lt (by omega) (by omega)), q1, bnd_s, if_pos lt, q1, bnd_s, q_tick h, bnd_s, if_pos (o4 i hi2), q2, bnd_s, ex, if_neg (show ¬ nI x < 1 from nI_nlt (b := 1) (by omega) (by omega)), q2, bnd_s, ex, if_pos (show nI x ≤ 600 from nI_le (b := 600) (by omega) (by omega)), q3, bnd_s, ev, if_neg (show ¬ (36 : Int32) < nI v from nI_nlt (a := 36) (by omega) (by omega)), q1, bnd_s, nm_eq, nI_1]
    exact ih (i + 1) N (by omega) (by omega)
end Q
/-- a sample of layer l -/
def inL (g : Row) (l : Nat) (k : Nat) : Bool := !outB (g (135 + 3 * k + 1)) (nI (l * 100)) (nI (l * 100 + 99))
theorem inL_v {g : Row} {l k h : Nat} (hh : h ≤ 600) (hl : l ≤ 6) (e : g (135 + 3 * k + 1) = nI h) : inL g l k = decide (h / 100 = l) := by
  unfold inL
  rw [e, lay hh hl, show nI h / 100 = nI (h / 100) from pk_div (d := 100) (by omega) (by omega) (by omega)]
  exact decide_eq_decide.mpr (nI_eq (by omega) (by omega))
theorem lays {g : Row} : ∀ d, (∀ k, k < d → ∃ h, h ≤ 600 ∧ g (135 + 3 * k + 1) = nI h) → sm (fun l => ct (inL g l) d) 7 = nI d := by
  intro d
  induction d with
  | zero => exact fun _ => rfl
  | succ d ih =>
    intro hv
    have a := ih (fun k hk => hv k (by omega))
    obtain ⟨h, hh, e⟩ := hv d (by omega)
    have s : ∀ f : Nat → Int32, sm f 7 = 0 + f 0 + f 1 + f 2 + f 3 + f 4 + f 5 + f 6 := fun f => rfl
    have p : ∀ l, l ≤ 6 → ct (inL g l) (d + 1) = if h / 100 = l then ct (inL g l) d + 1 else ct (inL g l) d := fun l hl => by
      rw [ct_s, inL_v hh hl e]
      by_cases q : h / 100 = l
      · rw [if_pos (decide_eq_true q), if_pos q]
      · rw [if_neg (by rw [decide_eq_false q]; decide), if_neg q]
    rw [s] at a ⊢
    rw [p 0 (by omega), p 1 (by omega), p 2 (by omega), p 3 (by omega), p 4 (by omega), p 5 (by omega), p 6 (by omega)]
    have c : h / 100 = 0 ∨ h / 100 = 1 ∨ h / 100 = 2 ∨ h / 100 = 3 ∨ h / 100 = 4 ∨ h / 100 = 5 ∨ h / 100 = 6 := by omega
    rw [← nI_1, ← a]
    rcases c with q | q | q | q | q | q | q <;> rw [q] <;> simp only [Nat.reduceEqDiff, reduceIte, if_true, if_false, Nat.succ_ne_self, Nat.zero_ne_one] <;> grind
theorem cs_le {P : Nat → Bool} {f : Nat → Int32} : ∀ n, n ≤ 100 → (∀ k, k < n → ∃ v, v ≤ 36 ∧ f k = nI v) → ∃ s m, m ≤ n ∧ s ≤ 36 * m ∧ cs P f n = nI s ∧ ct P n = nI m := by
  intro n
  induction n with
  | zero => exact fun _ _ => ⟨0, 0, by omega, by omega, rfl, rfl⟩
  | succ n ih =>
    intro hn hv
    obtain ⟨s, m, a1, a2, a3, a4⟩ := ih (by omega) (fun k hk => hv k (by omega))
    obtain ⟨v, v1, v2⟩ := hv n (by omega)
    rw [cs_s, ct_s]
    by_cases c : P n = true
    · rw [if_pos c, if_pos c, a3, a4, v2, nI_add, nI_1]
      exact ⟨_, _, by omega, by omega, rfl, rfl⟩
    · rw [if_neg c, if_neg c]
      exact ⟨s, m, by omega, a2, a3, a4⟩
section Q
variable {M : Mem} {g : Row} {N N0 rr : Nat} {u1 u2 u3 : Int32}
theorem lpI_217 (hN0 : 90 < N0) (h : RC M g) {d : Nat} (e : g 18 = nI d) (hd2 : d ≤ 90) (k : Int32 × Int32 → Mem → Option (Bool × Mem)) : ∀ (m i N : Nat), i + m = 7 → m < N → lp_L_isStation_217 N0 rr u1 u2 u3 N (sm (fun l => ct (inL g l) d) i, nI i) M k = k (sm (fun l => ct (inL g l) d) 7, nI 7) M := by
  have gv : ∀ k, k < d → ∃ v, v ≤ 36 ∧ g (135 + 3 * k + 2) = nI v := fun k hk => by
    obtain ⟨c', hc', e', hv⟩ := h.w.2.2.2.2
    obtain rfl : c' = d := (nI_eq (by omega) (by omega)).mp (e'.symm.trans e)
    exact (hv k hk).2.2
  intro m
  induction m with
  | zero =>
    intro i N hi hN
    obtain ⟨N, rfl⟩ : ∃ n, N = n + 1 := ⟨N - 1, by omega⟩
    obtain rfl : i = 7 := by omega
    unfold lp_L_isStation_217
    dsimp only
    rw [if_neg (by decide)]
  | succ m ih =>
    intro i N hi hN
    obtain ⟨N, rfl⟩ : ∃ n, N = n + 1 := ⟨N - 1, by omega⟩
    obtain ⟨s, m', m1, m2, m3, m4⟩ := cs_le (P := inL g i) (f := fun k => g (135 + 3 * k + 2)) d (by omega) gv
    have mg := q_meanGust (rr := rr) hN0 h (l := i) (m := m') e hd2 (by omega) m4 m1
    have mg2 : f_G_meanGust N0 rr (nI i) M = some (mean (nI s) m', M) := by
      rw [mg]
      rw [show cs (fun k => !outB (g (135 + 3 * k + 1)) (nI (i * 100)) (nI (i * 100 + 99))) (fun k => g (135 + 3 * k + 2)) d = nI s from m3]
    have bt : f_G_archivedBetween N0 rr (nI (i * 100)) (nI (i * 100 + 99)) M = some (nI m', M) := by
      rw [q_between hN0 h e hd2]
      rw [show ct (fun k => !outB (g (135 + 3 * k + 1)) (nI (i * 100)) (nI (i * 100 + 99))) d = nI m' from m4]
    have e1 : (100 : Int32) * nI i = nI (i * 100) := by
      rw [show (100 : Int32) * nI i = nI (100 * i) from pk_mul 100 i, Nat.mul_comm]
    have e2 : nI (i * 100) + (99 : Int32) = nI (i * 100 + 99) := nI_add _ 99
    unfold lp_L_isStation_217
    dsimp only
    rw [if_pos (show nI i < 7 from nI_lt (b := 7) (by omega) (by omega)), e1, e2, bt, bnd_s, nm_eq, jn_eq]
    have step : sm (fun l => ct (inL g l) d) i + nI m' = sm (fun l => ct (inL g l) d) (i + 1) := by
      show _ = sm (fun l => ct (inL g l) d) i + ct (inL g i) d
      rw [m4]
    have nx := ih (i + 1) N (by omega) (by omega)
    by_cases z : m' = 0
    · subst z
      obtain ⟨z1, z2, z3⟩ := mean_0 (s := nI s)
      rw [if_pos nI_0, mg2, bnd_s, if_pos z1]
      dsimp only
      rw [mg2, bnd_s, if_neg z2, mg2, bnd_s, if_neg z3, nm_eq, nI_1, step]
      exact nx
    · obtain ⟨z2, z3⟩ := mean_in (s := s) (c := m') (by omega) m2
      rw [if_neg (nI_ne0 (by omega) (by omega))]
      dsimp only
      rw [mg2, bnd_s, if_neg z2, mg2, bnd_s, if_neg z3, nm_eq, nI_1, step]
      exact nx
end Q
