/-! all that the law asks of the station, as a list of the row -/
def QL (M : Mem) (q : Nat) (l : List Int32) : Mem := setR M q (fun i => l.getD i 0)
theorem getD_app {l : List Int32} {x : Int32} {i : Nat} : (l ++ [x]).getD i 0 = if i = l.length then x else l.getD i 0 := by
  rw [List.getD_eq_getElem?_getD, List.getD_eq_getElem?_getD]
  by_cases c : i = l.length
  · subst c
    rw [if_pos rfl, List.getElem?_append_right (Nat.le_refl _), Nat.sub_self]
    rfl
  · rw [if_neg c]
    rcases Nat.lt_or_ge i l.length with q | q
    · rw [List.getElem?_append_left q]
    · rw [List.getElem?_append_right q, List.getElem?_eq_none (by simp; omega), List.getElem?_eq_none q]
theorem QL_put {M : Mem} {q : Nat} {l : List Int32} {x : Int32} : put (QL M q l) q l.length x = QL M q (l ++ [x]) := by
  unfold QL
  rw [put_setR, setR_setR, setR_self]
  congr 1
  funext i
  rw [upd_at, getD_app]
theorem RC.q {M : Mem} {g : Row} {q : Nat} (h : RC M g) (hq : 145 < q) (l : List Int32) : RC (QL M q l) g := ⟨SR_congr h.1 (fun p _ h2 => setR_ne (by omega)), h.2⟩
theorem stq {ρ : Type} {M : Mem} {q nq : Nat} {l : List Int32} {v a : Int32} {o : Option (Int32 × Mem)} {F : Int32 → Mem → Option ρ} (ho : o = some (v, QL M q l)) (ha : a = nI l.length) (hl : l.length + 1 ≤ nq) (hn : nq < 2 ^ 31) : (nm (a + 1) fun x5 => bnd o fun x M2 => grd (inB a nq) (nm (put M2 q a.toNatClampNeg x) fun M4 => F x5 M4)) = F (nI (l ++ [v]).length) (QL M q (l ++ [v])) := by
  rw [nm_eq, ho, bnd_s, ha, grd_of (inB_nI hl hn), nm_eq, nI_clamp (by omega), QL_put, nI_1, List.length_append]
  rfl
theorem stq0 {ρ : Type} {M : Mem} {q nq : Nat} {l : List Int32} {v a : Int32} {F : Int32 → Mem → Option ρ} (ha : a = nI l.length) (hl : l.length + 1 ≤ nq) (hn : nq < 2 ^ 31) : (nm (a + 1) fun x5 => grd (inB a nq) (nm (put (QL M q l) q a.toNatClampNeg v) fun M4 => F x5 M4)) = F (nI (l ++ [v]).length) (QL M q (l ++ [v])) := by
  rw [nm_eq, ha, grd_of (inB_nI hl hn), nm_eq, nI_clamp (by omega), QL_put, nI_1, List.length_append]
  rfl
def hdX (g : Row) (x y : Int32) : List Int32 := [g 0, if g 6 = 0 then 0 else if g 6 = 1 then 1 else 2, g 7, g 8, g 2, g 3, g 9, if g 6 = 1 then g 12 else 0, if g 6 = 2 then g 11 else 0, g 13, g 14, g 15, g 4, x, y, g 20, g 1, g 5, g 16]
def hd (g : Row) : List Int32 := hdX g (g 17) (g 18)
def win (g : Row) : Nat → List Int32
  | 0 => []
  | n + 1 => win g n ++ [g (37 + n)]
def trp (g : Row) (a : Nat) : Nat → List Int32
  | 0 => []
  | n + 1 => trp g a n ++ [g (a + 3 * n)] ++ [g (a + 3 * n + 1)] ++ [g (a + 3 * n + 2)]
theorem win_len {g : Row} {n : Nat} : (win g n).length = n := by
  induction n with
  | zero => rfl
  | succ n ih => rw [win, List.length_append, ih]; rfl
theorem trp_len {g : Row} {a n : Nat} : (trp g a n).length = 3 * n := by
  induction n with
  | zero => rfl
  | succ n ih =>
    rw [trp, List.length_append, List.length_append, List.length_append, ih]
    show 3 * n + 1 + 1 + 1 = _
    omega
theorem hdX_len {g : Row} {x y : Int32} : (hdX g x y).length = 19 := rfl
theorem hd_len {g : Row} : (hd g).length = 19 := rfl
def rowL (g : Row) : List Int32 := hd g ++ win g (cn (g 16)) ++ trp g 45 (cn (g 17)) ++ trp g 135 (cn (g 18))
theorem rowL_len {g : Row} {b c d : Nat} (e1 : g 16 = nI b) (e2 : g 17 = nI c) (e3 : g 18 = nI d) (hb : b ≤ 8) (hc : c ≤ 30) (hd2 : d ≤ 90) : (rowL g).length = 19 + b + 3 * c + 3 * d := by
  unfold rowL
  rw [List.length_append, List.length_append, List.length_append, win_len, trp_len, trp_len, hd_len, e1, e2, e3, cn_nI (by omega), cn_nI (by omega), cn_nI (by omega)]
theorem stk {ρ : Type} {M : Mem} {q nq k : Nat} {l : List Int32} {v : Int32} {o : Option (Int32 × Mem)} {F : Int32 → Mem → Option ρ} (ho : o = some (v, QL M q l)) (hk : l.length = k) (hl : k + 1 ≤ nq) (hn : nq < 2 ^ 31) : (nm (nI k + 1) fun x5 => bnd o fun x M2 => grd (inB (nI k) nq) (nm (put M2 q (nI k).toNatClampNeg x) fun M4 => F x5 M4)) = F (nI (k + 1)) (QL M q (l ++ [v])) := by
  subst hk
  exact (stq ho rfl hl hn).trans (by rw [List.length_append]; rfl)
theorem stk0 {ρ : Type} {M : Mem} {q nq k : Nat} {l : List Int32} {v : Int32} {F : Int32 → Mem → Option ρ} (hk : l.length = k) (hl : k + 1 ≤ nq) (hn : nq < 2 ^ 31) : (nm (nI k + 1) fun x5 => grd (inB (nI k) nq) (nm (put (QL M q l) q (nI k).toNatClampNeg v) fun M4 => F x5 M4)) = F (nI (k + 1)) (QL M q (l ++ [v])) := by
  subst hk
  exact (stq0 rfl hl hn).trans (by rw [List.length_append]; rfl)
section Q
variable {M : Mem} {g : Row} {N N0 rr q nq : Nat} {u1 u2 : Int32}
theorem lpQ_win (h : RC M g) (hq : 145 < q) {c : Nat} {l0 : List Int32} (e : g 16 = nI c) (hc : c ≤ 8) (hn : l0.length + c ≤ nq) (hn2 : nq < 2 ^ 31) (k : Int32 × Int32 → Mem → Option Mem) : ∀ (d i N : Nat), i + d = c → d < N → lp_L_all_256 N0 rr q nq u1 u2 N (nI (l0 ++ win g i).length, nI i) (QL M q (l0 ++ win g i)) k = k (nI (l0 ++ win g c).length, nI c) (QL M q (l0 ++ win g c)) := by
  intro d
  induction d with
  | zero =>
    intro i N hi hN
    obtain ⟨N, rfl⟩ : ∃ n, N = n + 1 := ⟨N - 1, by omega⟩
    obtain rfl : i = c := by omega
    unfold lp_L_all_256
    dsimp only
    rw [q_bufferSize (h.q hq _), bnd_s, e, if_neg (nI_nlt (Nat.le_refl _) (by omega))]
  | succ d ih =>
    intro i N hi hN
    obtain ⟨N, rfl⟩ : ∃ n, N = n + 1 := ⟨N - 1, by omega⟩
    unfold lp_L_all_256
    dsimp only
    rw [q_bufferSize (h.q hq _), bnd_s, e, if_pos (nI_lt (by omega) (by omega))]
    refine (stq (q_bufferedWind (h.q hq _) e hc (by omega)) rfl (by rw [List.length_append, win_len]; omega) hn2).trans ?_
    rw [nm_eq, nI_1, List.append_assoc]
    exact ih (i + 1) N (by omega) (by omega)
theorem lpQ_log (h : RC M g) (hq : 145 < q) {c : Nat} {l0 : List Int32} (e : g 17 = nI c) (hc : c ≤ 30) (hn : l0.length + 3 * c ≤ nq) (hn2 : nq < 2 ^ 31) (k : Int32 × Int32 → Mem → Option Mem) : ∀ (d i N : Nat), i + d = c → d < N → lp_L_all_287 N0 rr q nq (nI c) u2 N (nI (l0 ++ trp g 45 i).length, nI i) (QL M q (l0 ++ trp g 45 i)) k = k (nI (l0 ++ trp g 45 c).length, nI c) (QL M q (l0 ++ trp g 45 c)) := by
  intro d
  induction d with
  | zero =>
    intro i N hi hN
    obtain ⟨N, rfl⟩ : ∃ n, N = n + 1 := ⟨N - 1, by omega⟩
    obtain rfl : i = c := by omega
    unfold lp_L_all_287
    dsimp only
    rw [if_neg (nI_nlt (Nat.le_refl _) (by omega))]
  | succ d ih =>
    intro i N hi hN
    obtain ⟨N, rfl⟩ : ∃ n, N = n + 1 := ⟨N - 1, by omega⟩
    unfold lp_L_all_287
    dsimp only
    rw [if_pos (nI_lt (by omega) (by omega))]
    have L : ∀ (x y : List Int32), (l0 ++ trp g 45 i ++ x).length = l0.length + 3 * i + x.length := fun x y => by rw [List.length_append, List.length_append, trp_len]
    refine (stq (q_log (h.q hq _) e hc (by omega)).1 rfl (by rw [List.length_append, trp_len]; omega) hn2).trans ?_
    refine (stq (q_log (h.q hq _) e hc (by omega)).2.1 rfl (by rw [List.length_append, List.length_append, trp_len]; show l0.length + 3 * i + 1 + 1 ≤ nq; omega) hn2).trans ?_
    refine (stq (q_log (h.q hq _) e hc (by omega)).2.2 rfl (by rw [List.length_append, List.length_append, List.length_append, trp_len]; show l0.length + 3 * i + 1 + 1 + 1 ≤ nq; omega) hn2).trans ?_
    rw [nm_eq, nI_1, List.append_assoc, List.append_assoc, List.append_assoc, ← List.append_assoc [_] [_] [_]]
    have := ih (i + 1) N (by omega) (by omega)
    rw [trp, List.append_assoc, List.append_assoc, ← List.append_assoc [_] [_] [_]] at this
    exact this
theorem lpQ_arc (h : RC M g) (hq : 145 < q) {c : Nat} {l0 : List Int32} (e : g 18 = nI c) (hc : c ≤ 90) (hn : l0.length + 3 * c ≤ nq) (hn2 : nq < 2 ^ 31) (k : Int32 × Int32 → Mem → Option Mem) : ∀ (d i N : Nat), i + d = c → d < N → lp_L_all_341 N0 rr q nq u1 (nI c) N (nI (l0 ++ trp g 135 i).length, nI i) (QL M q (l0 ++ trp g 135 i)) k = k (nI (l0 ++ trp g 135 c).length, nI c) (QL M q (l0 ++ trp g 135 c)) := by
  intro d
  induction d with
  | zero =>
    intro i N hi hN
    obtain ⟨N, rfl⟩ : ∃ n, N = n + 1 := ⟨N - 1, by omega⟩
    obtain rfl : i = c := by omega
    unfold lp_L_all_341
    dsimp only
    rw [if_neg (nI_nlt (Nat.le_refl _) (by omega))]
  | succ d ih =>
    intro i N hi hN
    obtain ⟨N, rfl⟩ : ∃ n, N = n + 1 := ⟨N - 1, by omega⟩
    unfold lp_L_all_341
    dsimp only
    rw [if_pos (nI_lt (by omega) (by omega))]
    refine (stq (q_arc (h.q hq _) e hc (by omega)).1 rfl (by rw [List.length_append, trp_len]; omega) hn2).trans ?_
    refine (stq (q_arc (h.q hq _) e hc (by omega)).2.1 rfl (by rw [List.length_append, List.length_append, trp_len]; show l0.length + 3 * i + 1 + 1 ≤ nq; omega) hn2).trans ?_
    refine (stq (q_arc (h.q hq _) e hc (by omega)).2.2 rfl (by rw [List.length_append, List.length_append, List.length_append, trp_len]; show l0.length + 3 * i + 1 + 1 + 1 ≤ nq; omega) hn2).trans ?_
    rw [nm_eq, nI_1, List.append_assoc, List.append_assoc, List.append_assoc, ← List.append_assoc [_] [_] [_]]
    have := ih (i + 1) N (by omega) (by omega)
    rw [trp, List.append_assoc, List.append_assoc, ← List.append_assoc [_] [_] [_]] at this
    exact this
theorem q_all (hN : 90 < N) (h : RC M g) (hq : 145 < q) {b c d : Nat} (e1 : g 16 = nI b) (e2 : g 17 = nI c) (e3 : g 18 = nI d) (hb : b ≤ 8) (hc : c ≤ 30) (hd2 : d ≤ 90) : f_L_all N rr q (rowL g).length (nI c) (nI d) (setR M q (fun _ => 0)) = some (setR M q (fun i => (rowL g).getD i 0)) := by
  have len := rowL_len e1 e2 e3 hb hc hd2
  have hl : ∀ x : Nat, x ≤ 19 → x ≤ (rowL g).length := fun x hx => by omega
  have hn : (rowL g).length < 2 ^ 31 := by omega
  have z : setR M q (fun _ => 0) = QL M q [] := rfl
  rw [z]
  unfold f_L_all
  refine Eq.trans (stk (k := 0) (l := []) (q_tick (h.q hq _)) rfl (by omega) hn) ?_
  have mode : ∀ (k : Nat) (F : Int32 → Mem → Option Mem) (l : List Int32), l.length = k → k + 1 ≤ (rowL g).length → (nm (nI k + 1) fun x5 => bnd (f_G_isLanded (QL M q l)) fun x6 M7 => jn (fun (x9 : Int32) (M10 : Mem) => grd (inB (nI k) (rowL g).length) (nm (put M10 q (nI k).toNatClampNeg x9) fun M4 => F x5 M4)) (fun j8 => if x6 = true then (j8 (0 : Int32) M7) else (bnd (f_G_isFlying M7) fun (x115 : Bool) (M116 : Mem) => if x115 = true then (j8 (1 : Int32) M116) else (j8 (2 : Int32) M116)))) = F (nI (k + 1)) (QL M q (l ++ [if g 6 = 0 then 0 else if g 6 = 1 then 1 else 2])) := fun k F l hk hl2 => by
    refine Eq.trans ?_ (stk0 (v := if g 6 = 0 then 0 else if g 6 = 1 then 1 else 2) (F := F) hk hl2 hn)
    rw [nm_eq, nm_eq, q_isLanded (h.q hq _), bnd_s, jn_eq]
    by_cases c0 : g 6 = 0
    · rw [if_pos (decide_eq_true c0), if_pos c0]
    · rw [if_neg (by rw [decide_eq_false c0]; decide), if_neg c0, q_isFlying (h.q hq _), bnd_s]
      by_cases c1 : g 6 = 1
      · rw [if_pos (decide_eq_true c1), if_pos c1]
      · rw [if_neg (by rw [decide_eq_false c1]; decide), if_neg c1]
  refine Eq.trans (mode _ _ _ (by rfl) (by omega)) ?_
  have kL1 : ([] ++ [g 0] ++ [if g 6 = 0 then 0 else if g 6 = 1 then 1 else 2] : List Int32).length = 2 := rfl
  generalize eL1 : ([] ++ [g 0] ++ [if g 6 = 0 then 0 else if g 6 = 1 then 1 else 2] : List Int32) = L1 at kL1 ⊢
  refine Eq.trans (stk (k := 2) (l := L1) (q_height (h.q hq _)) kL1 (by omega) hn) ?_
  obtain ⟨L2, eL2, kL2⟩ : ∃ l, l = L1 ++ [g 7] ∧ l.length = 3 := ⟨_, rfl, by rw [List.length_append, kL1]; rfl⟩
  rw [← eL2]
  refine Eq.trans (stk (k := 3) (l := L2) (q_tether (h.q hq _)) kL2 (by omega) hn) ?_
  obtain ⟨L3, eL3, kL3⟩ : ∃ l, l = L2 ++ [g 8] ∧ l.length = 4 := ⟨_, rfl, by rw [List.length_append, kL2]; rfl⟩
  rw [← eL3]
  refine Eq.trans (stk (k := 4) (l := L3) (q_limit (h.q hq _)) kL3 (by omega) hn) ?_
  obtain ⟨L4, eL4, kL4⟩ : ∃ l, l = L3 ++ [g 2] ∧ l.length = 5 := ⟨_, rfl, by rw [List.length_append, kL3]; rfl⟩
  rw [← eL4]
  refine Eq.trans (stk (k := 5) (l := L4) (q_endurance (h.q hq _)) kL4 (by omega) hn) ?_
  obtain ⟨L5, eL5, kL5⟩ : ∃ l, l = L4 ++ [g 3] ∧ l.length = 6 := ⟨_, rfl, by rw [List.length_append, kL4]; rfl⟩
  rw [← eL5]
  refine Eq.trans (stk (k := 6) (l := L5) (q_wear (h.q hq _)) kL5 (by omega) hn) ?_
  obtain ⟨L6, eL6, kL6⟩ : ∃ l, l = L5 ++ [g 9] ∧ l.length = 7 := ⟨_, rfl, by rw [List.length_append, kL5]; rfl⟩
  rw [← eL6]
  refine Eq.trans (stk (k := 7) (l := L6) (q_flightTime (h.q hq _)) kL6 (by omega) hn) ?_
  obtain ⟨L7, eL7, kL7⟩ : ∃ l, l = L6 ++ [if g 6 = 1 then g 12 else 0] ∧ l.length = 8 := ⟨_, rfl, by rw [List.length_append, kL6]; rfl⟩
  rw [← eL7]
  refine Eq.trans (stk (k := 8) (l := L7) (q_beaconTime (h.q hq _)) kL7 (by omega) hn) ?_
  obtain ⟨L8, eL8, kL8⟩ : ∃ l, l = L7 ++ [if g 6 = 2 then g 11 else 0] ∧ l.length = 9 := ⟨_, rfl, by rw [List.length_append, kL7]; rfl⟩
  rw [← eL8]
  refine Eq.trans (stk (k := 9) (l := L8) (q_launches (h.q hq _)) kL8 (by omega) hn) ?_
  obtain ⟨L9, eL9, kL9⟩ : ∃ l, l = L8 ++ [g 13] ∧ l.length = 10 := ⟨_, rfl, by rw [List.length_append, kL8]; rfl⟩
  rw [← eL9]
  refine Eq.trans (stk (k := 10) (l := L9) (q_snaps (h.q hq _)) kL9 (by omega) hn) ?_
  obtain ⟨L10, eL10, kL10⟩ : ∃ l, l = L9 ++ [g 14] ∧ l.length = 11 := ⟨_, rfl, by rw [List.length_append, kL9]; rfl⟩
  rw [← eL10]
  refine Eq.trans (stk (k := 11) (l := L10) (q_searches (h.q hq _)) kL10 (by omega) hn) ?_
  obtain ⟨L11, eL11, kL11⟩ : ∃ l, l = L10 ++ [g 15] ∧ l.length = 12 := ⟨_, rfl, by rw [List.length_append, kL10]; rfl⟩
  rw [← eL11]
  refine Eq.trans (stk (k := 12) (l := L11) (q_interval (h.q hq _)) kL11 (by omega) hn) ?_
  obtain ⟨L12, eL12, kL12⟩ : ∃ l, l = L11 ++ [g 4] ∧ l.length = 13 := ⟨_, rfl, by rw [List.length_append, kL11]; rfl⟩
  rw [← eL12]
  refine Eq.trans (stk0 (k := 13) (l := L12) kL12 (by omega) hn) ?_
  obtain ⟨L13, eL13, kL13⟩ : ∃ l, l = L12 ++ [nI c] ∧ l.length = 14 := ⟨_, rfl, by rw [List.length_append, kL12]; rfl⟩
  rw [← eL13]
  refine Eq.trans (stk0 (k := 14) (l := L13) kL13 (by omega) hn) ?_
  obtain ⟨L14, eL14, kL14⟩ : ∃ l, l = L13 ++ [nI d] ∧ l.length = 15 := ⟨_, rfl, by rw [List.length_append, kL13]; rfl⟩
  rw [← eL14]
  refine Eq.trans (stk (k := 15) (l := L14) (q_droppedCount (h.q hq _)) kL14 (by omega) hn) ?_
  obtain ⟨L15, eL15, kL15⟩ : ∃ l, l = L14 ++ [g 20] ∧ l.length = 16 := ⟨_, rfl, by rw [List.length_append, kL14]; rfl⟩
  rw [← eL15]
  refine Eq.trans (stk (k := 16) (l := L15) (q_area (h.q hq _)) kL15 (by omega) hn) ?_
  obtain ⟨L16, eL16, kL16⟩ : ∃ l, l = L15 ++ [g 1] ∧ l.length = 17 := ⟨_, rfl, by rw [List.length_append, kL15]; rfl⟩
  rw [← eL16]
  refine Eq.trans (stk (k := 17) (l := L16) (q_patternLength (h.q hq _)) kL16 (by omega) hn) ?_
  obtain ⟨L17, eL17, kL17⟩ : ∃ l, l = L16 ++ [g 5] ∧ l.length = 18 := ⟨_, rfl, by rw [List.length_append, kL16]; rfl⟩
  rw [← eL17]
  refine Eq.trans (stk (k := 18) (l := L17) (q_bufferSize (h.q hq _)) kL17 (by omega) hn) ?_
  obtain ⟨L18, eL18, kL18⟩ : ∃ l, l = L17 ++ [g 16] ∧ l.length = 19 := ⟨_, rfl, by rw [List.length_append, kL17]; rfl⟩
  rw [← eL18]
  have eh : L18 = hdX g (nI c) (nI d) := by
    rw [eL18, eL17, eL16, eL15, eL14, eL13, eL12, eL11, eL10, eL9, eL8, eL7, eL6, eL5, eL4, eL3, eL2, ← eL1]
    rfl
  rw [eh]
  have x1 := lpQ_win (N0 := N) (rr := rr) (nq := (rowL g).length) (u1 := nI c) (u2 := nI d) h hq (l0 := hdX g (nI c) (nI d)) e1 hb (by rw [hdX_len]; omega) hn (fun (a84 : Int32 × Int32) (M83 : Mem) => lp_L_all_287 N rr q (rowL g).length (nI c) (nI d) N (a84.1, (0 : Int32)) M83 (fun (a99 : Int32 × Int32) (M98 : Mem) => lp_L_all_341 N rr q (rowL g).length (nI c) (nI d) N (a99.1, (0 : Int32)) M98 (fun (a114 : Int32 × Int32) (M113 : Mem) => some M113))) b 0 N (by omega) (by omega)
  have x2 := lpQ_log (N0 := N) (rr := rr) (nq := (rowL g).length) (u2 := nI d) h hq (l0 := hdX g (nI c) (nI d) ++ win g b) e2 hc (by rw [List.length_append, hdX_len, win_len]; omega) hn (fun (a99 : Int32 × Int32) (M98 : Mem) => lp_L_all_341 N rr q (rowL g).length (nI c) (nI d) N (a99.1, (0 : Int32)) M98 (fun (a114 : Int32 × Int32) (M113 : Mem) => some M113)) c 0 N (by omega) (by omega)
  have x3 := lpQ_arc (N0 := N) (rr := rr) (nq := (rowL g).length) (u1 := nI c) h hq (l0 := hdX g (nI c) (nI d) ++ win g b ++ trp g 45 c) e3 hd2 (by rw [List.length_append, List.length_append, hdX_len, win_len, trp_len]; omega) hn (fun (a114 : Int32 × Int32) (M113 : Mem) => some M113) d 0 N (by omega) (by omega)
  have y1 : hdX g (nI c) (nI d) ++ win g 0 = hdX g (nI c) (nI d) := List.append_nil _
  have y2 : hdX g (nI c) (nI d) ++ win g b ++ trp g 45 0 = hdX g (nI c) (nI d) ++ win g b := List.append_nil _
  have y3 : hdX g (nI c) (nI d) ++ win g b ++ trp g 45 c ++ trp g 135 0 = hdX g (nI c) (nI d) ++ win g b ++ trp g 45 c := List.append_nil _
  rw [y1] at x1
  rw [y2] at x2
  rw [y3] at x3
  have e4 : rowL g = hdX g (nI c) (nI d) ++ win g b ++ trp g 45 c ++ trp g 135 d := by
    unfold rowL hd
    rw [e1, e2, e3, cn_nI (by omega), cn_nI (by omega), cn_nI (by omega)]
  have goal : QL M q (hdX g (nI c) (nI d) ++ win g b ++ trp g 45 c ++ trp g 135 d) = setR M q (fun i => (rowL g).getD i 0) := by rw [e4]; rfl
  rw [← goal]
  exact (x1.trans (x2.trans x3))
end Q
