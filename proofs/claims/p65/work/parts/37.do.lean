/-! the changes over the row: what the reference does -/
def s_why (g : Row) : Int32 := if g 6 = 1 then 1 else if g 6 = 2 then 2 else if g 8 < 10 then 3 else if s_wind g 0 < 5 then 4 else 0
def s_launch (g : Row) : Row := inc (upd (upd (upd (upd g 6 1) 7 10) 12 0) 16 0) 13
def s_out (a : Int32) (g : Row) : Row := upd g 8 (g 8 + a)
def s_in0 (a : Int32) (g : Row) : Row := upd (upd g 8 (imax 0 (g 8 - a))) 7 (imin (g 7) (imax 0 (g 8 - a)))
def s_in (a : Int32) (g : Row) : Row := if s_in0 a g 7 = 0 then upd (s_in0 a g) 6 0 else s_in0 a g
def s_bri (a b : Int32) (g : Row) : Row := upd (upd (upd g 9 0) 2 a) 3 b
def s_evy (a : Int32) (g : Row) : Row := upd g 4 a
def s_lim (g : Row) : Int32 := if g 11 = 0 then 3 else 20
def s_sea (a : Int32) (g : Row) : Row := if iabs (a - g 10) ≤ s_lim g then upd (inc g 15) 6 0 else inc g 15
def s_seaA (a : Int32) (g : Row) : Int32 := if iabs (a - g 10) ≤ s_lim g then 0 else if g 11 = 0 then -1 else iabs (a - g 10) / 20
def s_arc (g : Row) : Row := upd (upd (va_cpy g g 45 (135 + 3 * cn (g 18)) (3 * cn (g 17))) 18 (g 18 + g 17)) 17 0
def res (M : Mem) (rr : Nat) (g : Row) (v : Int32) : Mem := put (setR M rr g) 145 10 v
theorem f_size_s {a : Int32} {M : Mem} : f_M_sizeOf a M = some (iabs a, M) := by
  unfold f_M_sizeOf iabs
  by_cases h : a < 0
  · rw [if_pos h, if_neg (Int32.not_le.mpr h)]
    have : -a = 0 - a := by simp
    rw [this]
  · rw [if_neg h, if_pos (Int32.not_lt.mp h)]
section REF
variable {N rr : Nat} {M : Mem}
theorem R_why (W : Wg (M rr)) : f_M_whyNotLaunch rr M = some (s_why (M rr), M) := by
  unfold f_M_whyNotLaunch s_why
  rw [R_is, bnd_s]
  by_cases c1 : M rr 6 = 1
  · rw [if_pos (decide_eq_true c1), if_pos c1]
  · rw [if_neg (by rw [decide_eq_false c1]; decide), if_neg c1, R_is, bnd_s]
    by_cases c2 : M rr 6 = 2
    · rw [if_pos (decide_eq_true c2), if_pos c2]
    · rw [if_neg (by rw [decide_eq_false c2]; decide), if_neg c2]
      by_cases c3 : M rr 8 < 10
      · rw [if_pos c3, if_pos c3]
      · rw [if_neg c3, if_neg c3, R_windNow W, bnd_s]
        by_cases c4 : s_wind (M rr) 0 < 5
        · rw [if_pos c4, if_pos c4]
        · rw [if_neg c4, if_neg c4]
theorem res_put {g : Row} {v : Int32} : put (setR M rr g) 145 10 v = res M rr g v := rfl
theorem R_doLaunch (W : Wg (M rr)) (h : s_why (M rr) = 0) : f_M_doLaunch rr M = some (0, res M rr (s_launch (M rr)) (M rr 13 + 1)) := by
  unfold f_M_doLaunch
  rw [R_why W, bnd_s, h, if_pos rfl]
  simp only [nm_eq, put_setR (p := rr), setR_setR, setR_self, upd_at, Nat.reduceEqDiff, reduceIte]
  rfl
theorem R_doLaunchN (W : Wg (M rr)) (h : ¬ s_why (M rr) = 0) : f_M_doLaunch rr M = some (1, M) := by
  unfold f_M_doLaunch
  rw [R_why W, bnd_s, if_neg h]
theorem R_doOut {a : Int32} (h : ¬ M rr 6 = 2) (h2 : ¬ 600 < M rr 8 + a) : f_M_doOut rr a M = some (0, res M rr (s_out a (M rr)) (M rr 8 + a)) := by
  unfold f_M_doOut
  rw [R_is, bnd_s, if_neg (by rw [decide_eq_false h]; decide), if_neg h2]
  simp only [nm_eq, put_setR (p := rr), setR_setR, setR_self, upd_at, Nat.reduceEqDiff, reduceIte]
  rfl
theorem R_doOutN {a : Int32} (h : M rr 6 = 2 ∨ 600 < M rr 8 + a) : f_M_doOut rr a M = some (2, M) := by
  unfold f_M_doOut
  rw [R_is, bnd_s]
  by_cases c : M rr 6 = 2
  · rw [if_pos (decide_eq_true c)]
  · rw [if_neg (by rw [decide_eq_false c]; decide), if_pos (h.resolve_left c)]
theorem R_doIn {a : Int32} (h : ¬ M rr 6 = 2) : f_M_doIn rr a M = some (0, res M rr (s_in a (M rr)) (imax 0 (M rr 8 - a))) := by
  unfold f_M_doIn
  rw [R_is, bnd_s, if_neg (by rw [decide_eq_false h]; decide), f_most_s, bnd_s, nm_eq, put_row, upd_at, if_neg (by decide), upd_at, if_pos rfl, f_least_s, bnd_s, nm_eq]
  have e : put (put M rr 8 (imax 0 (M rr 8 - a))) rr 7 (imin (M rr 7) (imax 0 (M rr 8 - a))) = setR M rr (s_in0 a (M rr)) := by
    simp only [put_setR, setR_setR, setR_self]
    rfl
  rw [e, setR_self]
  unfold s_in
  by_cases c : s_in0 a (M rr) 7 = 0
  · rw [if_pos c, if_pos c, nm_eq, nm_eq, put_setR (p := rr), setR_setR, setR_self, setR_self]
    rfl
  · rw [if_neg c, if_neg c, nm_eq]
    rfl
theorem R_doInN {a : Int32} (h : M rr 6 = 2) : f_M_doIn rr a M = some (2, M) := by
  unfold f_M_doIn
  rw [R_is, bnd_s, if_pos (decide_eq_true h)]
theorem R_doBri {a b : Int32} (hr : rr ≠ 145) (h : M rr 6 = 0) : f_M_doBridle rr a b M = some (0, res M rr (s_bri a b (M rr)) (M rr 9)) := by
  unfold f_M_doBridle
  rw [R_is, bnd_s, if_pos (decide_eq_true h)]
  simp only [nm_eq]
  refine congrArg (fun z => some ((0 : Int32), z)) ?_
  funext q
  unfold res
  simp only [put_setR, setR_at]
  by_cases e1 : q = 145
  · subst e1
    simp only [hr.symm, if_false, if_true]
  · by_cases e2 : q = rr
    · subst e2
      simp only [hr, e1, if_false, if_true]
      rfl
    · simp only [e1, e2, if_false]
theorem R_doBriN {a b : Int32} (h : ¬ M rr 6 = 0) : f_M_doBridle rr a b M = some (2, M) := by
  unfold f_M_doBridle
  rw [R_is, bnd_s, if_neg (by rw [decide_eq_false h]; decide)]
theorem R_doEvy {a : Int32} (hr : rr ≠ 145) : f_M_doEvery rr a M = some (0, res M rr (s_evy a (M rr)) (M rr 4)) := by
  unfold f_M_doEvery
  simp only [nm_eq]
  refine congrArg (fun z => some ((0 : Int32), z)) ?_
  funext q
  unfold res
  simp only [put_setR, setR_at]
  by_cases e1 : q = 145
  · subst e1
    simp only [hr.symm, if_false, if_true]
  · by_cases e2 : q = rr
    · subst e2
      simp only [hr, e1, if_false, if_true]
      rfl
    · simp only [e1, e2, if_false]
theorem R_doSea {a : Int32} (h : M rr 6 = 2) : f_M_doSearch rr a M = some (0, res M rr (s_sea a (M rr)) (s_seaA a (M rr))) := by
  unfold f_M_doSearch
  rw [R_is, bnd_s, if_pos (decide_eq_true h), f_size_s, bnd_s]
  simp only [jn_eq, nm_eq]
  have e : put M rr 15 (M rr 15 + 1) = setR M rr (inc (M rr) 15) := rfl
  unfold s_sea s_seaA s_lim
  by_cases c : M rr 11 = 0
  · simp only [c, if_true, e]
    by_cases d : iabs (a - M rr 10) ≤ 3
    · simp only [d, if_true, put_setR (p := rr), setR_setR, setR_self]
      rfl
    · simp only [d, if_false]
      rfl
  · simp only [c, if_false, e]
    by_cases d : iabs (a - M rr 10) ≤ 20
    · simp only [d, if_true, put_setR (p := rr), setR_setR, setR_self]
      rfl
    · simp only [d, if_false]
      rfl
theorem R_doSeaN {a : Int32} (h : ¬ M rr 6 = 2) : f_M_doSearch rr a M = some (2, M) := by
  unfold f_M_doSearch
  rw [R_is, bnd_s, if_neg (by rw [decide_eq_false h]; decide)]
theorem R_doArc {c d : Nat} (hr : rr ≠ 145) (h : M rr 6 = 0) (hc : M rr 17 = nI c) (hd : M rr 18 = nI d) (hs : d + c ≤ 90) (h30 : c ≤ 30) : f_M_doArchive rr M = some (0, res M rr (s_arc (M rr)) (M rr 17)) := by
  unfold f_M_doArchive
  rw [R_is, bnd_s, if_pos (decide_eq_true h)]
  have e1 : (135 : Int32) + 3 * M rr 18 = nI (135 + 3 * d) := by rw [hd, q3, q135]
  have e2 : (3 : Int32) * M rr 17 = nI (3 * c) := by rw [hc, q3]
  rw [if_neg (by rw [hc, hd, nI_add]; show ¬ nI 90 < nI (d + c); exact nI_nlt (by omega) (by omega)), e1, e2, grd_of (by show cpB (nI 45) _ _ _ _ = true; exact cpB_nI (by omega) (by omega) (by omega) (by omega)), nI_clamp (by omega), nI_clamp (by omega)]
  have e3 : (45 : Int32).toNatClampNeg = 45 := rfl
  rw [e3]
  simp only [nm_eq]
  have p1 : va_cpy (M rr) (M rr) 45 (135 + 3 * d) (3 * c) 18 = M rr 18 := pk_cpy_out (by omega)
  have p2 : va_cpy (M rr) (M rr) 45 (135 + 3 * d) (3 * c) 17 = M rr 17 := pk_cpy_out (by omega)
  have e4 : put (setR M rr (va_cpy (M rr) (M rr) 45 (135 + 3 * d) (3 * c))) rr 18 ((setR M rr (va_cpy (M rr) (M rr) 45 (135 + 3 * d) (3 * c))) rr 18 + (setR M rr (va_cpy (M rr) (M rr) 45 (135 + 3 * d) (3 * c))) rr 17) = setR M rr (upd (va_cpy (M rr) (M rr) 45 (135 + 3 * cn (M rr 18)) (3 * cn (M rr 17))) 18 (M rr 18 + M rr 17)) := by
    rw [put_setR, setR_setR, setR_self, p1, p2, hc, hd, cn_nI (by omega), cn_nI (by omega)]
  have p3 : va_cpy (M rr) (M rr) 45 (135 + 3 * cn (M rr 18)) (3 * cn (M rr 17)) 17 = M rr 17 := pk_cpy_out (by omega)
  rw [e4, setR_self, upd_at, if_neg (by decide), p3]
  refine congrArg (fun z => some ((0 : Int32), z)) ?_
  funext q
  unfold res
  simp only [put_setR, setR_at]
  by_cases e1 : q = 145
  · subst e1
    simp only [hr.symm, if_false, if_true]
  · by_cases e2 : q = rr
    · subst e2
      simp only [hr, e1, if_false, if_true]
      rfl
    · simp only [e1, e2, if_false]
theorem R_doArcN {c d : Nat} (hc : M rr 17 = nI c) (hd : M rr 18 = nI d) (h30 : c ≤ 30) (h90 : d ≤ 90) (h : ¬ M rr 6 = 0 ∨ 90 < d + c) : f_M_doArchive rr M = some (1, M) := by
  unfold f_M_doArchive
  rw [R_is, bnd_s]
  by_cases c0 : M rr 6 = 0
  · rw [if_pos (decide_eq_true c0), if_pos]
    rw [hc, hd, nI_add]
    show nI 90 < nI (d + c)
    exact nI_lt (h.resolve_left (fun q => q c0)) (by omega)
  · rw [if_neg (by rw [decide_eq_false c0]; decide)]
theorem R_doWait {n t : Nat} (hN0 : 8 < N) (hN : n < N) (hn : n < 2 ^ 30) (W : WF (M rr)) (h0 : M rr 0 = nI t) (ht : t + n ≤ 10000) : f_M_doWait N rr (nI n) M = some (0, res M rr (itr s_pass n (M rr)) (itr s_pass n (M rr) 19 - M rr 19)) := by
  unfold f_M_doWait
  rw [h0, nI_add, if_neg (by show ¬ nI 10000 < _; exact nI_nlt ht (by omega)), nm_eq, R_pass (by omega) hN0 hN W, bndM_s, nm_eq, setR_self]
  rfl
theorem R_doWaitN {n t : Nat} (hn : n < 2 ^ 30) (h0 : M rr 0 = nI t) (ht0 : t ≤ 10000) (ht : 10000 < t + n) : f_M_doWait N rr (nI n) M = some (2, M) := by
  unfold f_M_doWait
  rw [h0, nI_add, if_pos (by show nI 10000 < _; exact nI_lt ht (by omega))]
end REF
