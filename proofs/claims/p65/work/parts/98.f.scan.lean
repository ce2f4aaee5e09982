/-! the reader over the text, token by token -/
def kd (x : Nat) : Nat := if 97 ≤ x ∧ x ≤ 122 then 1 else if 48 ≤ x ∧ x ≤ 57 then 2 else if x = 59 then 3 else if x = 40 then 4 else if x = 41 then 5 else 6
def kI (a1 : Int32) : Int32 := if a1 < 97 then (if a1 < 48 then (if a1 = -1 then 0 else if a1 = 40 then 4 else if a1 = 41 then 5 else if a1 = 59 then 3 else 6) else if a1 ≤ 57 then 2 else (if a1 = -1 then 0 else if a1 = 40 then 4 else if a1 = 41 then 5 else if a1 = 59 then 3 else 6)) else if a1 ≤ 122 then 1 else if a1 < 48 then (if a1 = -1 then 0 else if a1 = 40 then 4 else if a1 = 41 then 5 else if a1 = 59 then 3 else 6) else if a1 ≤ 57 then 2 else (if a1 = -1 then 0 else if a1 = 40 then 4 else if a1 = 41 then 5 else if a1 = 59 then 3 else 6)
theorem ite_sm {α : Type} {c : Prop} [Decidable c] {x y : α} {M : Mem} : (if c then some (x, M) else some (y, M)) = some (if c then x else y, M) := by
  by_cases h : c
  · rw [if_pos h, if_pos h]
  · rw [if_neg h, if_neg h]
theorem C_kindOf {a : Int32} {M : Mem} : f_X_kindOf a M = some (kI a, M) := by
  unfold f_X_kindOf kI
  simp only [ite_sm]
theorem kI_b : ∀ x, x < 256 → kI (nI x) = nI (kd x) := by decide +kernel
theorem put_self {M : Mem} {p k : Nat} {v : Int32} (h : M p k = v) : put M p k v = M := by
  funext q
  rw [put_setR, setR_at]
  by_cases e : q = p
  · subst e
    rw [if_pos rfl]
    funext j
    rw [upd_at]
    by_cases e2 : j = k
    · rw [if_pos e2, e2, h]
    · rw [if_neg e2]
  · rw [if_neg e]
theorem put_put {M : Mem} {p k : Nat} {v w : Int32} : put (put M p k v) p k w = put M p k w := by
  rw [put_setR, put_setR, put_setR, setR_setR, setR_self]
  congr 1
  funext j
  rw [upd_at, upd_at, upd_at]
  by_cases e2 : j = k
  · rw [if_pos e2, if_pos e2]
  · rw [if_neg e2, if_neg e2, if_neg e2]
/-- from place n on the reader holds r, to its end -/
def RT (M : Mem) (n : Nat) (r : List Nat) : Prop := M 1 2 = nI (n + r.length) ∧ n + r.length ≤ 500 ∧ ∀ k, k < r.length → r.getD k 0 < 256 ∧ M 2 (n + k) &&& 255 = nI (r.getD k 0)
theorem RT.kept {M M' : Mem} {n : Nat} {r : List Nat} (h : RT M n r) (e1 : M' 1 2 = M 1 2) (e2 : M' 2 = M 2) : RT M' n r := ⟨e1.trans h.1, h.2.1, fun k hk => by rw [e2]; exact h.2.2 k hk⟩
theorem getD_r {a r : List Nat} {k : Nat} : (a ++ r).getD (a.length + k) 0 = r.getD k 0 := by
  rw [List.getD_eq_getElem?_getD, List.getD_eq_getElem?_getD, List.getElem?_append_right (by omega), Nat.add_sub_cancel_left]
theorem getD_l {a r : List Nat} {k : Nat} (h : k < a.length) : (a ++ r).getD k 0 = a.getD k 0 := by
  rw [List.getD_eq_getElem?_getD, List.getD_eq_getElem?_getD, List.getElem?_append_left h]
theorem RT.app {M : Mem} {n : Nat} {a r : List Nat} (h : RT M n (a ++ r)) : RT M (n + a.length) r := by
  obtain ⟨h1, h2, h3⟩ := h
  rw [List.length_append] at h1 h2 h3
  refine ⟨by rw [h1]; congr 1; omega, by omega, fun k hk => ?_⟩
  have := h3 (a.length + k) (by omega)
  rw [getD_r, ← Nat.add_assoc] at this
  exact this
theorem RT.tl {M : Mem} {n x : Nat} {r : List Nat} (h : RT M n (x :: r)) : RT M (n + 1) r := RT.app (a := [x]) h
theorem RT.at {M : Mem} {n k : Nat} {r : List Nat} (h : RT M n r) (hk : k < r.length) : f_X_byteAt (nI (n + k)) M = some (nI (r.getD k 0), M) := by
  obtain ⟨h1, h2, h3⟩ := h
  unfold f_X_byteAt
  rw [if_neg (nI_pos (by omega)), h1, if_pos (nI_lt (by omega) (by omega)), if_pos (show nI (n + k) < 500 from nI_lt (b := 500) (by omega) (by omega)), grd_of (inB_nI (by omega) (by omega)), nI_clamp (by omega), (h3 k hk).2]
theorem RT.hd {M : Mem} {n x : Nat} {r : List Nat} (h : RT M n (x :: r)) : f_X_byteAt (nI n) M = some (nI x, M) := RT.at (k := 0) h (by simp)
theorem RT.nil {M : Mem} {n : Nat} (h : RT M n []) : f_X_byteAt (nI n) M = some (-1, M) := by
  obtain ⟨h1, h2, h3⟩ := h
  unfold f_X_byteAt
  have hl : n + ([] : List Nat).length = n := rfl
  rw [hl] at h1 h2
  rw [if_neg (nI_pos (by omega)), h1, if_neg (nI_nlt (Nat.le_refl _) (by omega))]
theorem RT.b {M : Mem} {n x : Nat} {r : List Nat} (h : RT M n (x :: r)) : x < 256 := (h.2.2 0 (by simp)).1
theorem RT.lt {M : Mem} {n x : Nat} {r : List Nat} (h : RT M n (x :: r)) : nI n < M 1 2 ∧ n < 500 := by
  obtain ⟨h1, h2, -⟩ := h
  rw [List.length_cons] at h1 h2
  rw [h1]
  exact ⟨nI_lt (by omega) (by omega), by omega⟩
theorem RT.nlt {M : Mem} {n : Nat} (h : RT M n []) : ¬ nI n < M 1 2 := by
  obtain ⟨h1, h2, -⟩ := h
  have hl : n + ([] : List Nat).length = n := rfl
  rw [hl] at h1 h2
  rw [h1]
  exact nI_nlt (Nat.le_refl _) (by omega)
theorem C_blk {x : Nat} {M : Mem} (hx : x < 256) : f_X_isBlank (nI x) M = some (decide (x = 32 ∨ x = 10), M) := by
  unfold f_X_isBlank
  by_cases c : x = 32
  · rw [if_pos (by rw [c]; rfl), decide_eq_true (Or.inl c)]
  · rw [if_neg (show ¬ nI x = (32 : Int32) from nd (m := 32) (by omega) (by omega) c)]
    by_cases d : x = 10
    · rw [if_pos (by rw [d]; rfl), decide_eq_true (Or.inr d)]
    · rw [if_neg (show ¬ nI x = (10 : Int32) from nd (m := 10) (by omega) (by omega) d), decide_eq_false (by omega)]
theorem C_kd {x : Nat} {M : Mem} (hx : x < 256) : f_X_kindOf (nI x) M = some (nI (kd x), M) := by rw [C_kindOf, kI_b x hx]
/-- a scan touches the token alone -/
def Fs (M M' : Mem) : Prop := (∀ q, q ≠ 1 → M' q = M q) ∧ ∀ k, (k < 3 ∨ 7 ≤ k) → M' 1 k = M 1 k
theorem Fs.rf {M : Mem} : Fs M M := ⟨fun _ _ => rfl, fun _ _ => rfl⟩
theorem Fs.put {M M' : Mem} {k : Nat} {v : Int32} (h : Fs M M') (hk : 3 ≤ k ∧ k < 7) : Fs M (put M' 1 k v) := ⟨fun q a => by rw [put_ne a]; exact h.1 q a, fun j hj => by rw [put_row, upd_at, if_neg (by omega)]; exact h.2 j hj⟩
theorem Fs.trans {M M' M2 : Mem} (h : Fs M M') (h2 : Fs M' M2) : Fs M M2 := ⟨fun q a => (h2.1 q a).trans (h.1 q a), fun k a => (h2.2 k a).trans (h.2 k a)⟩
theorem RT.fs {M M' : Mem} {n : Nat} {r : List Nat} (h : RT M n r) (f : Fs M M') : RT M' n r := h.kept (f.2 2 (by omega)) (f.1 2 (by decide))
section S
variable {N N0 rr n : Nat} {M : Mem} {r post w : List Nat}
def nbl (r : List Nat) : Prop := ∀ x t, r = x :: t → ¬ (x = 32 ∨ x = 10)
theorem sk_no {k0 : Unit → Mem → Option Mem} (h : RT M n r) (h5 : M 1 5 = nI n) (hb : nbl r) : lp_X_advance_0 N0 rr (N + 1) () M k0 = k0 () M := by
  unfold lp_X_advance_0
  rw [h5]
  cases r with
  | nil => rw [if_neg h.nlt]
  | cons x t =>
    rw [if_pos h.lt.1, h.hd, bnd_s, C_blk h.b, bnd_s, if_neg (by rw [decide_eq_false (hb x t rfl)]; decide)]
theorem sk_one {k0 : Unit → Mem → Option Mem} (h : RT M n (32 :: r)) (h5 : M 1 5 = nI n) (hb : nbl r) : lp_X_advance_0 N0 rr (N + 2) () M k0 = k0 () (put M 1 5 (nI (n + 1))) := by
  unfold lp_X_advance_0
  rw [h5, if_pos h.lt.1, h.hd, bnd_s, C_blk (by omega), bnd_s, if_pos (decide_eq_true (Or.inl rfl)), nm_eq, h5, nI_1]
  exact sk_no (h.tl.fs (Fs.rf.put (by omega))) (by rw [put_row, upd_at, if_pos rfl]) hb
def aft (N rr : Nat) (M6 : Mem) : Option Mem := nm (put M6 1 4 (M6 1 5)) fun (M8 : Mem) => bnd (f_X_byteAt (M8 1 4) M8) fun (x9 : Int32) (M10 : Mem) => bnd (f_X_kindOf x9 M10) fun (x11 : Int32) (M12 : Mem) => nm (put M12 1 3 x11) fun (M13 : Mem) => if (M13 1 3) = (1 : Int32) then (lp_X_advance_69 N rr N () M13 (fun (a20 : Unit) (M19 : Mem) => some M19)) else (if (M13 1 3) = (2 : Int32) then (nm (put M13 1 6 (0 : Int32)) fun (M21 : Mem) => lp_X_advance_121 N rr N () M21 (fun (a31 : Unit) (M30 : Mem) => some M30)) else (if (M13 1 3) = 0 then (some M13) else (nm (put M13 1 5 ((M13 1 5) + (1 : Int32))) fun (M32 : Mem) => some M32)))
/-- the next token is behind bl -/
def TA (M : Mem) (r : List Nat) : Prop := ∃ nx, M 1 5 = nI nx ∧ RT M nx r
theorem adv_aft {bl : List Nat} (hN : 2 < N) (h : TA M (bl ++ r)) (hbl : bl = [] ∨ bl = [32]) (hb : nbl r) : ∃ n M1, f_X_advance N rr M = aft N rr M1 ∧ M1 1 5 = nI n ∧ RT M1 n r ∧ Fs M M1 := by
  obtain ⟨nx, h5, hr⟩ := h
  obtain ⟨N', rfl⟩ : ∃ n, N = n + 2 := ⟨N - 2, by omega⟩
  rcases hbl with rfl | rfl
  · exact ⟨nx, M, sk_no (N := N' + 1) (k0 := fun _ M6 => aft (N' + 2) rr M6) hr h5 hb, h5, hr, Fs.rf⟩
  · exact ⟨nx + 1, put M 1 5 (nI (nx + 1)), sk_one (N := N') (k0 := fun _ M6 => aft (N' + 2) rr M6) hr h5 hb, by rw [put_row, upd_at, if_pos rfl], hr.tl.fs (Fs.rf.put (by omega)), Fs.rf.put (by omega)⟩
theorem lp_wd {k0 : Unit → Mem → Option Mem} : ∀ (w : List Nat) (n N : Nat) (M : Mem), w.length < N → RT M n (w ++ post) → M 1 5 = nI n → (∀ x, x ∈ w → kd x = 1) → (∀ x t, post = x :: t → kd x ≠ 1) → lp_X_advance_69 N0 rr N () M k0 = k0 () (put M 1 5 (nI (n + w.length))) := by
  intro w
  induction w with
  | nil =>
    intro n N M hN h h5 _ hp
    obtain ⟨N, rfl⟩ : ∃ n, N = n + 1 := ⟨N - 1, by omega⟩
    have h' : RT M n post := h
    show _ = k0 () (put M 1 5 (nI n))
    rw [put_self h5]
    unfold lp_X_advance_69
    rw [h5]
    cases post with
    | nil => rw [if_neg h'.nlt]
    | cons x t =>
      have := hp x t rfl
      have k6 : kd x ≤ 6 := by
        unfold kd
        repeat' split
        all_goals omega
      rw [if_pos h'.lt.1, h'.hd, bnd_s, C_kd h'.b, bnd_s, if_neg (show ¬ nI (kd x) = (1 : Int32) from nd (m := 1) (by omega) (by omega) this)]
  | cons x w ih =>
    intro n N M hN h h5 hw hp
    rw [List.length_cons] at hN
    obtain ⟨N, rfl⟩ : ∃ n, N = n + 1 := ⟨N - 1, by omega⟩
    have h' : RT M n (x :: (w ++ post)) := h
    unfold lp_X_advance_69
    rw [h5, if_pos h'.lt.1, h'.hd, bnd_s, C_kd h'.b, bnd_s, hw x (List.mem_cons_self ..), if_pos (show nI 1 = (1 : Int32) from rfl), nm_eq, h5, nI_1, ih (n + 1) N (put M 1 5 (nI (n + 1))) (by omega) (h'.tl.fs (Fs.rf.put (by omega))) (by rw [put_row, upd_at, if_pos rfl]) (fun y hy => hw y (List.mem_cons_of_mem _ hy)) hp, put_put, List.length_cons]
    congr 3
    omega
/-- what digits say -/
def dvl : Nat → List Nat → Nat
  | v, [] => v
  | v, d :: t => dvl (v * 10 + d - 48) t
theorem lp_nm {k0 : Unit → Mem → Option Mem} : ∀ (w : List Nat) (j v n N : Nat) (M : Mem), w.length < N → RT M n (w ++ post) → M 1 5 = nI n → M 1 6 = nI v → v < 10 ^ j → j + w.length ≤ 5 → (∀ x, x ∈ w → 48 ≤ x ∧ x ≤ 57) → (∀ x t, post = x :: t → kd x ≠ 2) → ∃ M', lp_X_advance_121 N0 rr N () M k0 = k0 () M' ∧ M' 1 5 = nI (n + w.length) ∧ M' 1 6 = nI (dvl v w) ∧ (∀ k, k ≠ 5 → k ≠ 6 → M' 1 k = M 1 k) ∧ ∀ q, q ≠ 1 → M' q = M q := by
  intro w
  induction w with
  | nil =>
    intro j v n N M hN h h5 h6 _ _ _ hp
    obtain ⟨N, rfl⟩ : ∃ n, N = n + 1 := ⟨N - 1, by omega⟩
    have h' : RT M n post := h
    refine ⟨M, ?_, h5, h6, fun _ _ _ => rfl, fun _ _ => rfl⟩
    unfold lp_X_advance_121
    rw [h5]
    cases post with
    | nil => rw [if_neg h'.nlt]
    | cons x t =>
      have := hp x t rfl
      have k6 : kd x ≤ 6 := by
        unfold kd
        repeat' split
        all_goals omega
      rw [if_pos h'.lt.1, h'.hd, bnd_s, C_kd h'.b, bnd_s, if_neg (show ¬ nI (kd x) = (2 : Int32) from nd (m := 2) (by omega) (by omega) this)]
  | cons x w ih =>
    intro j v n N M hN h h5 h6 hv hj hw hp
    rw [List.length_cons] at hN hj
    obtain ⟨N, rfl⟩ : ∃ n, N = n + 1 := ⟨N - 1, by omega⟩
    have h' : RT M n (x :: (w ++ post)) := h
    have hx := hw x (List.mem_cons_self ..)
    have k2 : kd x = 2 := by
      unfold kd
      rw [if_neg (by omega), if_pos hx]
    have p1 : (10 : Nat) ^ (j + 1) ≤ 10 ^ 5 := Nat.pow_le_pow_right (by omega) (by omega)
    rw [show (10 : Nat) ^ 5 = 100000 from rfl, Nat.pow_succ] at p1
    have vv : imin ((nI v * (10 : Int32) + nI x) - (48 : Int32)) (1000000 : Int32) = nI (v * 10 + x - 48) := by
      rw [show nI v * (10 : Int32) = nI (v * 10) from pk_mul v 10, nI_add, show nI (v * 10 + x) - (48 : Int32) = nI (v * 10 + x - 48) from pk_sub (b := 48) (by omega), show imin (nI (v * 10 + x - 48)) (1000000 : Int32) = nI (min (v * 10 + x - 48) 1000000) from imin_nI (b := 1000000) (by omega) (by omega)]
      congr 1
      omega
    obtain ⟨M1, e1⟩ : ∃ M1, M1 = put (put M 1 6 (nI (v * 10 + x - 48))) 1 5 (nI (n + 1)) := ⟨_, rfl⟩
    have f1 : Fs M M1 := by rw [e1]; exact (Fs.rf.put (by omega)).put (by omega)
    obtain ⟨M', g1, g2, g3, g4, g5⟩ := ih (j + 1) (v * 10 + x - 48) (n + 1) N M1 (by omega) (h'.tl.fs f1) (by rw [e1, put_row, upd_at, if_pos rfl]) (by rw [e1, put_row, upd_at, if_neg (by decide), put_row, upd_at, if_pos rfl]) (by rw [Nat.pow_succ]; omega) (by omega) (fun y hy => hw y (List.mem_cons_of_mem _ hy)) hp
    refine ⟨M', ?_, ?_, g3, fun k a b => ?_, fun q a => (g5 q a).trans (f1.1 q a)⟩
    · unfold lp_X_advance_121
      have q5 : put M 1 6 (nI (v * 10 + x - 48)) 1 5 = nI n := by rw [put_row, upd_at, if_neg (by decide)]; exact h5
      rw [h5, if_pos h'.lt.1, h'.hd, bnd_s, C_kd h'.b, bnd_s, k2, if_pos (show nI 2 = (2 : Int32) from rfl), h5, h'.hd, bnd_s, h6, vv, nm_eq, nm_eq, q5, nI_1, ← e1]
      exact g1
    · rw [g2, List.length_cons]
      congr 1
      omega
    · rw [g4 k a b, e1, put_row, upd_at, if_neg a, put_row, upd_at, if_neg b]
/-! tokens -/
def TW (M : Mem) (w r : List Nat) : Prop := M 1 3 = 1 ∧ ∃ st, M 1 4 = nI st ∧ M 1 5 = nI (st + w.length) ∧ RT M st (w ++ r)
def TN (M : Mem) (v : Nat) (r : List Nat) : Prop := M 1 3 = 2 ∧ M 1 6 = nI v ∧ TA M r
def TS (M : Mem) (r : List Nat) : Prop := M 1 3 = 3 ∧ TA M r
def TE (M : Mem) : Prop := M 1 3 = 0 ∧ TA M []
theorem TW.ta {w r : List Nat} (h : TW M w r) : TA M r := by
  obtain ⟨-, st, -, h2, h3⟩ := h
  exact ⟨_, h2, h3.app⟩
theorem aft_word (hN : 500 < N) (h : RT M n (w ++ post)) (h5 : M 1 5 = nI n) (hw : 1 ≤ w.length) (hl : ∀ x, x ∈ w → kd x = 1) (hp : ∀ x t, post = x :: t → kd x ≠ 1) : ∃ M', aft N rr M = some M' ∧ TW M' w post ∧ Fs M M' := by
  have hl2 := h.2.1
  rw [List.length_append] at hl2
  obtain ⟨M1, e1⟩ : ∃ M1, M1 = put (put M 1 4 (nI n)) 1 3 (nI 1) := ⟨_, rfl⟩
  have f1 : Fs M M1 := by rw [e1]; exact (Fs.rf.put (by omega)).put (by omega)
  have r1 := h.fs f1
  have p5 : M1 1 5 = nI n := by rw [e1, put_row, upd_at, if_neg (by decide), put_row, upd_at, if_neg (by decide)]; exact h5
  have p4 : M1 1 4 = nI n := by rw [e1, put_row, upd_at, if_neg (by decide), put_row, upd_at, if_pos rfl]
  have p3 : M1 1 3 = 1 := by rw [e1, put_row, upd_at, if_pos rfl]; rfl
  have f2 : Fs M (put M1 1 5 (nI (n + w.length))) := f1.put (by omega)
  refine ⟨put M1 1 5 (nI (n + w.length)), ?_, ⟨by rw [put_row, upd_at, if_neg (by decide)]; exact p3, n, by rw [put_row, upd_at, if_neg (by decide)]; exact p4, by rw [put_row, upd_at, if_pos rfl], h.fs f2⟩, f2⟩
  have q4 : put M 1 4 (nI n) 1 4 = nI n := by rw [put_row, upd_at, if_pos rfl]
  obtain ⟨x, t, rfl⟩ : ∃ x t, w = x :: t := by
    cases w with
    | nil => simp at hw
    | cons x t => exact ⟨x, t, rfl⟩
  have hx : RT (put M 1 4 (nI n)) n (x :: (t ++ post)) := h.fs (Fs.rf.put (by omega))
  unfold aft
  rw [h5, nm_eq, q4, hx.hd, bnd_s, C_kd hx.b, bnd_s, hl x (List.mem_cons_self ..), nm_eq, ← e1, if_pos p3]
  exact lp_wd (N0 := N) (rr := rr) (k0 := fun (a20 : Unit) (M19 : Mem) => some M19) (x :: t) n N M1 (by omega) r1 p5 hl hp
theorem aft_num (hN : 500 < N) (h : RT M n (w ++ post)) (h5 : M 1 5 = nI n) (hw : 1 ≤ w.length) (hw5 : w.length ≤ 5) (hl : ∀ x, x ∈ w → 48 ≤ x ∧ x ≤ 57) (hp : ∀ x t, post = x :: t → kd x ≠ 2) : ∃ M', aft N rr M = some M' ∧ TN M' (dvl 0 w) post ∧ Fs M M' := by
  obtain ⟨M1, e1⟩ : ∃ M1, M1 = put (put (put M 1 4 (nI n)) 1 3 (nI 2)) 1 6 0 := ⟨_, rfl⟩
  have f1 : Fs M M1 := by rw [e1]; exact ((Fs.rf.put (by omega)).put (by omega)).put (by omega)
  have r1 := h.fs f1
  have p5 : M1 1 5 = nI n := by rw [e1, put_row, upd_at, if_neg (by decide), put_row, upd_at, if_neg (by decide), put_row, upd_at, if_neg (by decide)]; exact h5
  have p6 : M1 1 6 = nI 0 := by rw [e1, put_row, upd_at, if_pos rfl]; rfl
  have p3 : M1 1 3 = 2 := by rw [e1, put_row, upd_at, if_neg (by decide), put_row, upd_at, if_pos rfl]; rfl
  have q4 : put M 1 4 (nI n) 1 4 = nI n := by rw [put_row, upd_at, if_pos rfl]
  have q3 : put (put M 1 4 (nI n)) 1 3 (nI 2) 1 3 = nI 2 := by rw [put_row, upd_at, if_pos rfl]
  obtain ⟨M', g1, g2, g3, g4, g5⟩ := lp_nm (N0 := N) (rr := rr) (k0 := fun (a31 : Unit) (M30 : Mem) => some M30) w 0 0 n N M1 (by omega) r1 p5 p6 (by decide) (by omega) hl hp
  have f2 : Fs M M' := ⟨fun q a => (g5 q a).trans (f1.1 q a), fun k hk => (g4 k (by omega) (by omega)).trans (f1.2 k hk)⟩
  refine ⟨M', ?_, ⟨(g4 3 (by decide) (by decide)).trans p3, g3, n + w.length, g2, (h.fs f2).app⟩, f2⟩
  obtain ⟨x, t, rfl⟩ : ∃ x t, w = x :: t := by
    cases w with
    | nil => simp at hw
    | cons x t => exact ⟨x, t, rfl⟩
  have hx : RT (put M 1 4 (nI n)) n (x :: (t ++ post)) := h.fs (Fs.rf.put (by omega))
  have k2 : kd x = 2 := by
    unfold kd
    rw [if_neg (by have := hl x (List.mem_cons_self ..); omega), if_pos (hl x (List.mem_cons_self ..))]
  unfold aft
  rw [h5, nm_eq, q4, hx.hd, bnd_s, C_kd hx.b, bnd_s, k2, nm_eq, q3, if_neg (by decide), if_pos (show nI 2 = (2 : Int32) from rfl), nm_eq, ← e1]
  exact g1
theorem aft_sem (h : RT M n (59 :: post)) (h5 : M 1 5 = nI n) : ∃ M', aft N rr M = some M' ∧ TS M' post ∧ Fs M M' := by
  obtain ⟨M1, e1⟩ : ∃ M1, M1 = put (put M 1 4 (nI n)) 1 3 (nI 3) := ⟨_, rfl⟩
  have f1 : Fs M M1 := by rw [e1]; exact (Fs.rf.put (by omega)).put (by omega)
  have p5 : M1 1 5 = nI n := by rw [e1, put_row, upd_at, if_neg (by decide), put_row, upd_at, if_neg (by decide)]; exact h5
  have p3 : M1 1 3 = nI 3 := by rw [e1, put_row, upd_at, if_pos rfl]
  have f2 : Fs M (put M1 1 5 (nI (n + 1))) := f1.put (by omega)
  have q4 : put M 1 4 (nI n) 1 4 = nI n := by rw [put_row, upd_at, if_pos rfl]
  have hx : RT (put M 1 4 (nI n)) n (59 :: post) := h.fs (Fs.rf.put (by omega))
  refine ⟨put M1 1 5 (nI (n + 1)), ?_, ⟨by rw [put_row, upd_at, if_neg (by decide)]; exact p3, n + 1, by rw [put_row, upd_at, if_pos rfl], (h.fs f2).tl⟩, f2⟩
  unfold aft
  rw [h5, nm_eq, q4, hx.hd, bnd_s, C_kd hx.b, bnd_s, show kd 59 = 3 from rfl, nm_eq, ← e1, p3, if_neg (by decide), if_neg (by decide), if_neg (by decide), nm_eq, p5, nI_1]
theorem aft_end (h : RT M n []) (h5 : M 1 5 = nI n) : ∃ M', aft N rr M = some M' ∧ TE M' ∧ Fs M M' := by
  obtain ⟨M1, e1⟩ : ∃ M1, M1 = put (put M 1 4 (nI n)) 1 3 0 := ⟨_, rfl⟩
  have f1 : Fs M M1 := by rw [e1]; exact (Fs.rf.put (by omega)).put (by omega)
  have p5 : M1 1 5 = nI n := by rw [e1, put_row, upd_at, if_neg (by decide), put_row, upd_at, if_neg (by decide)]; exact h5
  have p3 : M1 1 3 = 0 := by rw [e1, put_row, upd_at, if_pos rfl]
  have q4 : put M 1 4 (nI n) 1 4 = nI n := by rw [put_row, upd_at, if_pos rfl]
  have hx : RT (put M 1 4 (nI n)) n [] := h.fs (Fs.rf.put (by omega))
  refine ⟨M1, ?_, ⟨p3, n, p5, h.fs f1⟩, f1⟩
  unfold aft
  rw [h5, nm_eq, q4, hx.nil, bnd_s, C_kindOf, bnd_s, show kI (-1) = 0 from by decide, nm_eq, ← e1, p3, if_neg (by decide), if_neg (by decide), if_pos rfl]
theorem adv_word {bl : List Nat} (hN : 500 < N) (h : TA M (bl ++ (w ++ post))) (hbl : bl = [] ∨ bl = [32]) (hw : 1 ≤ w.length) (hl : ∀ x, x ∈ w → kd x = 1) (hp : ∀ x t, post = x :: t → kd x ≠ 1) : ∃ M', f_X_advance N rr M = some M' ∧ TW M' w post ∧ Fs M M' := by
  obtain ⟨n, M1, e1, h5, hr, f1⟩ := adv_aft (N := N) (rr := rr) (by omega) h hbl (fun x t e => by
    cases w with
    | nil => simp at hw
    | cons y s =>
      obtain rfl : y = x := (List.cons.inj e).1
      have := hl y (List.mem_cons_self ..)
      rintro (rfl | rfl)
      · exact absurd this (by decide)
      · exact absurd this (by decide))
  obtain ⟨M2, e2, t2, f2⟩ := aft_word (N := N) (rr := rr) hN hr h5 hw hl hp
  exact ⟨M2, e1.trans e2, t2, f1.trans f2⟩
theorem adv_num {bl : List Nat} (hN : 500 < N) (h : TA M (bl ++ (w ++ post))) (hbl : bl = [] ∨ bl = [32]) (hw : 1 ≤ w.length) (hw5 : w.length ≤ 5) (hl : ∀ x, x ∈ w → 48 ≤ x ∧ x ≤ 57) (hp : ∀ x t, post = x :: t → kd x ≠ 2) : ∃ M', f_X_advance N rr M = some M' ∧ TN M' (dvl 0 w) post ∧ Fs M M' := by
  obtain ⟨n, M1, e1, h5, hr, f1⟩ := adv_aft (N := N) (rr := rr) (by omega) h hbl (fun x t e => by
    cases w with
    | nil => simp at hw
    | cons y s =>
      obtain rfl : y = x := (List.cons.inj e).1
      have := hl y (List.mem_cons_self ..)
      omega)
  obtain ⟨M2, e2, t2, f2⟩ := aft_num (N := N) (rr := rr) hN hr h5 hw hw5 hl hp
  exact ⟨M2, e1.trans e2, t2, f1.trans f2⟩
theorem adv_sem (hN : 500 < N) (h : TA M (59 :: post)) : ∃ M', f_X_advance N rr M = some M' ∧ TS M' post ∧ Fs M M' := by
  obtain ⟨n, M1, e1, h5, hr, f1⟩ := adv_aft (N := N) (rr := rr) (bl := []) (r := 59 :: post) (by omega) h (Or.inl rfl) (fun x t e => by
    obtain rfl : 59 = x := (List.cons.inj e).1
    omega)
  obtain ⟨M2, e2, t2, f2⟩ := aft_sem (N := N) (rr := rr) hr h5
  exact ⟨M2, e1.trans e2, t2, f1.trans f2⟩
theorem adv_end (hN : 500 < N) (h : TA M []) : ∃ M', f_X_advance N rr M = some M' ∧ TE M' ∧ Fs M M' := by
  obtain ⟨n, M1, e1, h5, hr, f1⟩ := adv_aft (N := N) (rr := rr) (bl := []) (r := []) (by omega) h (Or.inl rfl) (fun x t e => by cases e)
  obtain ⟨M2, e2, t2, f2⟩ := aft_end (N := N) (rr := rr) hr h5
  exact ⟨M2, e1.trans e2, t2, f1.trans f2⟩
/-! words, numbers -/
theorem lenS_lt9 : ∀ i, i < 20 → lenS i < 100 := by decide +kernel
theorem C_len {i : Nat} {M : Mem} : f_Str_length i M = some (nI (lenS i), M) := rfl
theorem C_chr {i k : Nat} {M : Mem} (hi : i < 20) (hk : k < lenS i) : f_Str_charAt i (nI k) M = some (bytS i k, M) := by
  have := lenS_lt9 i hi
  unfold f_Str_charAt
  rw [grd_of (inB_nI hk (by omega)), nI_clamp (by omega)]
theorem lp_wq {i st : Nat} (hi : i < 20) (h : RT M st (w ++ post)) (h4 : M 1 4 = nI st) (hl : w.length = lenS i) (hb : ∀ k, k < lenS i → bytS i k = nI (w.getD k 0)) : ∀ (f k N : Nat), k + f = lenS i → f < N → lp_X_isAtWord_28 N0 rr i N (nI k) M (fun (a11 : Int32) (M10 : Mem) => some (true, M10)) = some (true, M) := by
  have l9 := lenS_lt9 i hi
  intro f
  induction f with
  | zero =>
    intro k N hk hN
    obtain ⟨N, rfl⟩ : ∃ n, N = n + 1 := ⟨N - 1, by omega⟩
    unfold lp_X_isAtWord_28
    rw [C_len, bnd_s, if_neg (nI_nlt (by omega) (by omega))]
  | succ f ih =>
    intro k N hk hN
    obtain ⟨N, rfl⟩ : ∃ n, N = n + 1 := ⟨N - 1, by omega⟩
    unfold lp_X_isAtWord_28
    rw [C_len, bnd_s, if_pos (nI_lt (by omega) (by omega)), h4, nI_add, h.at (by rw [List.length_append]; omega), bnd_s, C_chr hi (by omega), bnd_s, getD_l (by omega), hb k (by omega), if_pos rfl, nm_eq, nI_1]
    exact ih (k + 1) N (by omega) (by omega)
theorem take_w {i : Nat} (hN : 500 < N) (hi : i < 20) (h : TW M w post) (hl : w.length = lenS i) (hb : ∀ k, k < lenS i → bytS i k = nI (w.getD k 0)) : f_X_takeWord N rr i M = bndM (f_X_advance N rr M) fun (M4 : Mem) => some (true, M4) := by
  obtain ⟨h3, st, h4, h5, hr⟩ := h
  have l9 := lenS_lt9 i hi
  have hh := hr.2.1
  rw [List.length_append] at hh
  have iw : f_X_isAtWord N rr i M = some (true, M) := by
    unfold f_X_isAtWord
    rw [h3, if_pos rfl, C_len, bnd_s, h5, h4, pk_sub (by omega), Nat.add_sub_cancel_left, if_pos (by rw [hl])]
    exact lp_wq hi hr h4 hl hb (lenS i) 0 N (by omega) (by omega)
  unfold f_X_takeWord
  rw [iw, bnd_s, if_pos rfl]
theorem chk_n {v lo hi : Nat} (h : TN M v post) (h1 : lo ≤ v) (h2 : v ≤ hi) (h3 : hi < 2 ^ 31) : f_X_checkNumber (nI lo) (nI hi) M = some (true, M) := by
  unfold f_X_checkNumber
  rw [h.1, if_pos rfl, h.2.1, C_out, bnd_s, outB_T (by omega) h1 h2 h3, if_neg (by decide)]
theorem take_n {v lo hi : Nat} (h : TN M v post) (h1 : lo ≤ v) (h2 : v ≤ hi) (h3 : hi < 2 ^ 31) : f_X_takeNumber N rr (nI lo) (nI hi) M = bndM (f_X_advance N rr (put M 1 7 (nI v))) fun (M5 : Mem) => some (true, M5) := by
  unfold f_X_takeNumber
  rw [chk_n h h1 h2 h3, bnd_s, if_pos rfl, nm_eq, h.2.1]
theorem take_s {k : Int32} (h : M 1 3 = k) : f_X_takeSign N rr k M = bndM (f_X_advance N rr M) fun (M2 : Mem) => some (true, M2) := by
  unfold f_X_takeSign
  rw [if_pos h]
theorem TA.pt {k : Nat} {v : Int32} (h : TA M r) (hk : 6 ≤ k) : TA (put M 1 k v) r := by
  obtain ⟨nx, h5, hr⟩ := h
  exact ⟨nx, by rw [put_row, upd_at, if_neg (by omega)]; exact h5, hr.kept (by rw [put_row, upd_at, if_neg (by omega)]) (put_ne (by decide))⟩
end S
