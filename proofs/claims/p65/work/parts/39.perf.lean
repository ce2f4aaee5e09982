/-! the changes, by their numbers: 1 launch, 2 out, 3 in, 4 bridle, 5 every, 6 search, 7 archive, 8 wait -/
def outB (x lo hi : Int32) : Bool := decide (x < lo) || decide (hi < x)
theorem C_out {x lo hi : Int32} {M : Mem} : f_G_isOutside x lo hi M = some (outB x lo hi, M) := by
  unfold f_G_isOutside outB
  by_cases h : x < lo
  · rw [if_pos h, decide_eq_true h]; rfl
  · rw [if_neg h, decide_eq_false h]
    by_cases h2 : hi < x
    · rw [if_pos h2, decide_eq_true h2]; rfl
    · rw [if_neg h2, decide_eq_false h2]; rfl
theorem R_in {x lo hi : Int32} {M : Mem} : f_M_inRange x lo hi M = some (!outB x lo hi, M) := by
  unfold f_M_inRange outB
  by_cases h : x < lo
  · rw [if_pos h, decide_eq_true h]; rfl
  · rw [if_neg h, decide_eq_false h]
    by_cases h2 : hi < x
    · rw [if_neg (Int32.not_le.mpr h2), decide_eq_true h2]; rfl
    · rw [if_pos (Int32.not_lt.mp h2), decide_eq_false h2]; rfl
theorem outB_F {x : Int32} {lo hi : Nat} (hh : hi < 2 ^ 31) (hl : lo ≤ hi) (h : outB x (nI lo) (nI hi) = false) : ∃ n, lo ≤ n ∧ n ≤ hi ∧ x = nI n := by
  unfold outB at h
  simp only [Bool.or_eq_false_iff, decide_eq_false_iff_not] at h
  have h0 : ¬ x < 0 := fun q => h.1 (Int32.lt_of_lt_of_le q (nI_pos' (by omega)))
  obtain ⟨j, hj, rfl⟩ := nI_of h0
  refine ⟨j, ?_, ?_, rfl⟩
  · rcases Nat.lt_or_ge j lo with q | q
    · exact absurd (nI_lt q (by omega)) h.1
    · exact q
  · rcases Nat.lt_or_ge hi j with q | q
    · exact absurd (nI_lt q hj) h.2
    · exact q
theorem outB_T {n lo hi : Nat} (hn : n < 2 ^ 31) (h1 : lo ≤ n) (h2 : n ≤ hi) (hh : hi < 2 ^ 31) : outB (nI n) (nI lo) (nI hi) = false := by
  unfold outB
  simp [nI_nlt h1 hn, nI_nlt h2 hh]
def s_bad (c : Nat) (a b : Int32) : Bool := match c with
  | 2 => outB a 1 200
  | 3 => outB a 1 200
  | 4 => outB a 1 999 || outB b 1 9999
  | 5 => outB a 1 20
  | 6 => outB a 0 2200
  | 8 => outB a 1 60
  | _ => false
def s_stop (c : Nat) (a : Int32) (g : Row) : Bool := match c with
  | 1 => !decide (s_why g = 0)
  | 2 => decide (g 6 = 2) || decide (600 < g 8 + a)
  | 3 => decide (g 6 = 2)
  | 4 => !decide (g 6 = 0)
  | 6 => !decide (g 6 = 2)
  | 7 => !decide (g 6 = 0) || decide (90 < g 18 + g 17)
  | 8 => decide (10000 < g 0 + a)
  | _ => false
def s_do (c : Nat) (a b : Int32) (g : Row) : Row := match c with
  | 1 => s_launch g
  | 2 => s_out a g
  | 3 => s_in a g
  | 4 => s_bri a b g
  | 5 => s_evy a g
  | 6 => s_sea a g
  | 7 => s_arc g
  | 8 => itr s_pass (cn a) g
  | _ => g
def s_an (c : Nat) (a b : Int32) (g : Row) : Int32 := match c with
  | 1 => g 13 + 1
  | 2 => g 8 + a
  | 3 => imax 0 (g 8 - a)
  | 4 => g 9
  | 5 => g 4
  | 6 => s_seaA a g
  | 7 => g 17
  | 8 => itr s_pass (cn a) g 19 - g 19
  | _ => 0
def R_do (N rr c : Nat) (a b : Int32) (M : Mem) : Option (Int32 × Mem) := match c with
  | 1 => f_M_doLaunch rr M
  | 2 => f_M_doOut rr a M
  | 3 => f_M_doIn rr a M
  | 4 => f_M_doBridle rr a b M
  | 5 => f_M_doEvery rr a M
  | 6 => f_M_doSearch rr a M
  | 7 => f_M_doArchive rr M
  | 8 => f_M_doWait N rr a M
  | _ => none
theorem Wl_two {g : Row} (W : WF g) : ∃ c d, c ≤ 30 ∧ d ≤ 90 ∧ g 17 = nI c ∧ g 18 = nI d := by
  obtain ⟨-, -, -, ⟨c, h1, h2, -⟩, ⟨d, h3, h4, -⟩⟩ := W
  exact ⟨c, d, h1, h3, h2, h4⟩
theorem C_bad {c : Nat} {a b : Int32} {M : Mem} (hc : 1 ≤ c ∧ c ≤ 8) : f_T_hasBadNumber (nI c) a b M = some (s_bad c a b, M) := by
  have hh : c = 1 ∨ c = 2 ∨ c = 3 ∨ c = 4 ∨ c = 5 ∨ c = 6 ∨ c = 7 ∨ c = 8 := by omega
  unfold f_T_hasBadNumber
  simp only [C_out, bnd_s]
  rcases hh with rfl | rfl | rfl | rfl | rfl | rfl | rfl | rfl
  · rw [if_neg (by decide), if_neg (by decide), if_neg (by decide), if_neg (by decide), if_neg (by decide), if_neg (by decide), if_neg (by decide)]; rfl
  · rw [if_pos (by decide)]; rfl
  · rw [if_neg (by decide), if_pos (by decide)]; rfl
  · rw [if_neg (by decide), if_neg (by decide), if_pos (by decide)]
    unfold s_bad
    cases outB a 1 999 <;> cases outB b 1 9999 <;> rfl
  · rw [if_neg (by decide), if_neg (by decide), if_neg (by decide), if_pos (by decide)]; rfl
  · rw [if_neg (by decide), if_neg (by decide), if_neg (by decide), if_neg (by decide), if_pos (by decide)]; rfl
  · rw [if_neg (by decide), if_neg (by decide), if_neg (by decide), if_neg (by decide), if_neg (by decide), if_neg (by decide), if_pos (by decide)]; rfl
  · rw [if_neg (by decide), if_neg (by decide), if_neg (by decide), if_neg (by decide), if_neg (by decide), if_pos (by decide)]; rfl
theorem C_forb {c : Nat} {a : Int32} {M : Mem} {g : Row} (W : WF g) (h : SR M 10 g) (hc : 1 ≤ c ∧ c ≤ 8) : f_T_isForbidden 10 (nI c) a M = some (s_stop c a g, M) := by
  have hh : c = 1 ∨ c = 2 ∨ c = 3 ∨ c = 4 ∨ c = 5 ∨ c = 6 ∨ c = 7 ∨ c = 8 := by omega
  rw [SR10] at h
  obtain ⟨r2, r6, r7, r8, rk, rg, rb, rl, r20, ra⟩ := h
  have hw : ∀ x : Int32, x + (0 : Int32) / 100 = x := fun x => by
    rw [show (0 : Int32) / 100 = 0 from rfl, Int32.add_zero]
  obtain ⟨t, ht, h0, -⟩ := W.1.1
  have ho : f_T_obstacle 10 M = some (s_why g, M) := by
    unfold f_T_obstacle s_why s_wind
    simp only [Nat.reduceAdd]
    rw [rk.1, rk.2.2.1, r7, h0, C_gustOf W.1 (by omega) r2 rg, bnd_s, ← h0, hw]
    by_cases c1 : g 6 = 1
    · rw [if_pos c1, if_pos c1]
    · rw [if_neg c1, if_neg c1]
      by_cases c2 : g 6 = 2
      · rw [if_pos c2, if_pos c2]
      · rw [if_neg c2, if_neg c2]
        by_cases c3 : g 8 < 10
        · rw [if_pos c3, if_pos c3]
        · rw [if_neg c3, if_neg c3]
          by_cases c4 : s_gust g (g 0) < 5
          · rw [if_pos c4, if_pos c4]
          · rw [if_neg c4, if_neg c4]
  obtain ⟨o1, p1, q1, q2, q3, q4⟩ := rl
  obtain ⟨o2, p2, y1, y2, y3, y4⟩ := ra
  unfold f_T_isForbidden
  simp only [Nat.reduceAdd, ho, bnd_s]
  rw [rk.1, rk.2.2.1, r7, q3, y3]
  rcases hh with rfl | rfl | rfl | rfl | rfl | rfl | rfl | rfl
  · show (if s_why g = 0 then some (false, M) else some (true, M)) = some (!decide (s_why g = 0), M)
    by_cases e : s_why g = 0
    · rw [if_pos e, decide_eq_true e]; rfl
    · rw [if_neg e, decide_eq_false e]; rfl
  · show (if g 6 = 2 then some (true, M) else if 600 < g 8 + a then some (true, M) else some (false, M)) = some (decide (g 6 = 2) || decide (600 < g 8 + a), M)
    by_cases e : g 6 = 2
    · rw [if_pos e, decide_eq_true e]; rfl
    · rw [if_neg e, decide_eq_false e]
      by_cases e2 : 600 < g 8 + a
      · rw [if_pos e2, decide_eq_true e2]; rfl
      · rw [if_neg e2, decide_eq_false e2]; rfl
  · show (if g 6 = 2 then some (true, M) else some (false, M)) = some (decide (g 6 = 2), M)
    by_cases e : g 6 = 2
    · rw [if_pos e, decide_eq_true e]
    · rw [if_neg e, decide_eq_false e]
  · show (if g 6 = 0 then some (false, M) else some (true, M)) = some (!decide (g 6 = 0), M)
    by_cases e : g 6 = 0
    · rw [if_pos e, decide_eq_true e]; rfl
    · rw [if_neg e, decide_eq_false e]; rfl
  · rfl
  · show (if g 6 = 2 then some (false, M) else some (true, M)) = some (!decide (g 6 = 2), M)
    by_cases e : g 6 = 2
    · rw [if_pos e, decide_eq_true e]; rfl
    · rw [if_neg e, decide_eq_false e]; rfl
  · show (if g 6 = 0 then (if 90 < g 18 + g 17 then some (true, M) else some (false, M)) else some (true, M)) = some (!decide (g 6 = 0) || decide (90 < g 18 + g 17), M)
    by_cases e : g 6 = 0
    · rw [if_pos e, decide_eq_true e]
      by_cases e2 : 90 < g 18 + g 17
      · rw [if_pos e2, decide_eq_true e2]; rfl
      · rw [if_neg e2, decide_eq_false e2]; rfl
    · rw [if_neg e, decide_eq_false e]; rfl
  · show (if 10000 < g 0 + a then some (true, M) else some (false, M)) = some (decide (10000 < g 0 + a), M)
    by_cases e : 10000 < g 0 + a
    · rw [if_pos e, decide_eq_true e]
    · rw [if_neg e, decide_eq_false e]
theorem C_fault {c : Nat} {a b : Int32} {M : Mem} {g : Row} (W : WF g) (h : SR M 10 g) (hc : 1 ≤ c ∧ c ≤ 8) : f_T_faultOf 10 (nI c) a b M = some (if s_bad c a b = true then 1 else if s_stop c a g = true then 2 else 0, M) := by
  unfold f_T_faultOf
  rw [C_bad hc, bnd_s, C_forb W h hc, bnd_s]
  cases s_bad c a b <;> cases s_stop c a g <;> rfl
/-- what isn't barred keeps the row well -/
theorem s_do_W {c : Nat} {a b : Int32} {g : Row} (W : WF g) (hb : s_bad c a b = false) (hs : s_stop c a g = false) (hc : 1 ≤ c ∧ c ≤ 8) : WF (s_do c a b g) := by
  have hh : c = 1 ∨ c = 2 ∨ c = 3 ∨ c = 4 ∨ c = 5 ∨ c = 6 ∨ c = 7 ∨ c = 8 := by omega
  rcases hh with rfl | rfl | rfl | rfl | rfl | rfl | rfl | rfl
  · exact s_launch_W W
  · obtain ⟨n, h1, h2, rfl⟩ := outB_F (lo := 1) (hi := 200) (by omega) (by omega) hb
    obtain ⟨t, ht, e8⟩ := W.2.1.2.2.1
    refine s_out_W W e8 ?_
    unfold s_stop at hs
    simp only [Bool.or_eq_false_iff, decide_eq_false_iff_not] at hs
    have := hs.2
    rw [e8, nI_add] at this
    rcases Nat.lt_or_ge 600 (t + n) with q | q
    · exact absurd (nI_lt q (by omega)) this
    · exact q
  · obtain ⟨n, h1, h2, rfl⟩ := outB_F (lo := 1) (hi := 200) (by omega) (by omega) hb
    exact s_in_W W h2
  · exact s_bri_W W
  · obtain ⟨n, h1, h2, rfl⟩ := outB_F (lo := 1) (hi := 20) (by omega) (by omega) hb
    exact s_evy_W W h1 h2
  · exact s_sea_W W
  · obtain ⟨c, d, h1, h2, h3, h4⟩ := Wl_two W
    refine s_arc_W W h3 h4 ?_
    unfold s_stop at hs
    simp only [Bool.or_eq_false_iff, decide_eq_false_iff_not] at hs
    have := hs.2
    rw [h3, h4, nI_add] at this
    rcases Nat.lt_or_ge 90 (d + c) with q | q
    · exact absurd (nI_lt q (by omega)) this
    · exact q
  · exact itr_W W
theorem stop8 {n t : Nat} {g : Row} (h0 : g 0 = nI t) (ht : t ≤ 10000) (hn : n ≤ 60) (hs : s_stop 8 (nI n) g = false) : t + n ≤ 10000 := by
  unfold s_stop at hs
  simp only [decide_eq_false_iff_not] at hs
  rw [h0, nI_add] at hs
  rcases Nat.lt_or_ge 10000 (t + n) with q | q
  · exact absurd (nI_lt q (by omega)) hs
  · exact q
theorem R_do_ok {N rr c : Nat} {a b : Int32} {M : Mem} (hr : rr ≠ 145) (hN : 100 < N) (W : WF (M rr)) (hb : s_bad c a b = false) (hs : s_stop c a (M rr) = false) (hc : 1 ≤ c ∧ c ≤ 8) : R_do N rr c a b M = some (0, res M rr (s_do c a b (M rr)) (s_an c a b (M rr))) := by
  have hh : c = 1 ∨ c = 2 ∨ c = 3 ∨ c = 4 ∨ c = 5 ∨ c = 6 ∨ c = 7 ∨ c = 8 := by omega
  have hs0 := hs
  unfold s_stop at hs
  rcases hh with rfl | rfl | rfl | rfl | rfl | rfl | rfl | rfl
  · exact R_doLaunch W.1 (by simpa using hs)
  · simp only [Bool.or_eq_false_iff, decide_eq_false_iff_not] at hs
    exact R_doOut hs.1 hs.2
  · simp only [decide_eq_false_iff_not] at hs
    exact R_doIn hs
  · exact R_doBri hr (by simpa using hs)
  · exact R_doEvy hr
  · exact R_doSea (by simpa using hs)
  · obtain ⟨c, d, h1, h2, h3, h4⟩ := Wl_two W
    simp only [Bool.or_eq_false_iff, decide_eq_false_iff_not, Bool.not_eq_false', decide_eq_true_eq] at hs
    refine R_doArc hr hs.1 h3 h4 ?_ h1
    have := hs.2
    rw [h3, h4, nI_add] at this
    rcases Nat.lt_or_ge 90 (d + c) with q | q
    · exact absurd (nI_lt q (by omega)) this
    · exact q
  · obtain ⟨n, h1, h2, rfl⟩ := outB_F (lo := 1) (hi := 60) (by omega) (by omega) hb
    obtain ⟨t, ht, h0, -⟩ := W.1.1
    have := R_doWait (N := N) (rr := rr) (M := M) (n := n) (by omega) (by omega) (by omega) W h0 (stop8 h0 ht h2 hs0)
    show f_M_doWait N rr (nI n) M = some (0, res M rr (itr s_pass (cn (nI n)) (M rr)) (itr s_pass (cn (nI n)) (M rr) 19 - M rr 19))
    rw [cn_nI (by omega)]
    exact this
theorem R_do_no {N rr c : Nat} {a b : Int32} {M : Mem} (W : WF (M rr)) (hb : s_bad c a b = false) (hs : s_stop c a (M rr) = true) (hc : 1 ≤ c ∧ c ≤ 8) : R_do N rr c a b M = some (if c = 1 ∨ c = 7 then 1 else 2, M) := by
  have hh : c = 1 ∨ c = 2 ∨ c = 3 ∨ c = 4 ∨ c = 5 ∨ c = 6 ∨ c = 7 ∨ c = 8 := by omega
  unfold s_stop at hs
  rcases hh with rfl | rfl | rfl | rfl | rfl | rfl | rfl | rfl
  · exact R_doLaunchN W.1 (by simpa using hs)
  · simp only [Bool.or_eq_true, decide_eq_true_eq] at hs
    exact R_doOutN hs
  · simp only [decide_eq_true_eq] at hs
    exact R_doInN hs
  · exact R_doBriN (by simpa using hs)
  · exact absurd (show false = true from hs) (by decide)
  · exact R_doSeaN (by simpa using hs)
  · obtain ⟨c, d, h1, h2, h3, h4⟩ := Wl_two W
    simp only [Bool.or_eq_true, decide_eq_true_eq, Bool.not_eq_true', decide_eq_false_iff_not] at hs
    refine R_doArcN h3 h4 h1 h2 (hs.imp id (fun q => ?_))
    rw [h3, h4, nI_add] at q
    rcases Nat.lt_or_ge 90 (d + c) with r | r
    · exact r
    · exact absurd q (show ¬ nI 90 < nI (d + c) from nI_nlt r (by omega))
  · obtain ⟨n, h1, h2, rfl⟩ := outB_F (lo := 1) (hi := 60) (by omega) (by omega) hb
    obtain ⟨t, ht, h0, -⟩ := W.1.1
    refine R_doWaitN (by omega) h0 ht ?_
    simp only [decide_eq_true_eq] at hs
    rw [h0, nI_add] at hs
    rcases Nat.lt_or_ge 10000 (t + n) with q | q
    · exact q
    · exact absurd hs (show ¬ nI 10000 < nI (t + n) from nI_nlt q (by omega))
