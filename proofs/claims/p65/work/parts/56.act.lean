/-! the other acts -/
section A
variable {N rr i c w : Nat} {M : Mem} {g : Row} {sn : Option Row} {u v : Int32}
theorem nd {n m : Nat} (hn : n < 2 ^ 31) (hm : m < 2 ^ 31) (h : ¬ n = m) : ¬ nI n = nI m := fun e => h ((nI_eq hn hm).mp e)
theorem act_7 (hN : 300 < N) (h : VV i M g c sn) (hi : i ≤ 100) (hw : w < 24) : AG rr i M g c sn (fk_L_act_586 N rr u (nI w) v M) (act7 g w v) := by
  have R := h.rc
  obtain ⟨t, ht, hj⟩ := h.2.1
  obtain ⟨lc, ld, l1, l2, e17, e18, -, -⟩ := hj.2.2.2.2.2.2.2
  unfold fk_L_act_586 act7
  by_cases z : w < 14
  · rw [if_pos z, if_pos (show nI w < 14 from nI_lt (b := 14) z (by omega)), q_loggedCount R, bnd_s, q_archivedCount R, bnd_s, q_isLanded R, bnd_s]
    by_cases p : g 6 = 0
    · rw [if_pos p, if_pos (decide_eq_true p)]
      by_cases q : g 18 + g 17 ≤ 90
      · rw [if_pos q, if_pos q]
        have hst : s_stop 7 0 g = false := by
          show (!decide (g 6 = 0) || decide (90 < g 18 + g 17)) = false
          rw [decide_eq_true p, decide_eq_false (Int32.not_lt.mpr q)]
          rfl
        obtain ⟨M3, e3, r3, a3⟩ := AC.chg (N := N) (rr := rr) (k := 7) (a := 0) (b := 0) (by omega) h hi (by omega) rfl hst (fun e => by omega)
        have c3 : f_G_archive N rr M = some (g 17, M3) := by
          unfold f_G_archive
          rw [show f_G_change N rr (7 : Int32) 0 0 M = _ from e3, bnd_s]
          rfl
        have k17 : s_do 7 0 0 g 17 = 0 := rfl
        have k18 : s_do 7 0 0 g 18 = g 18 + g 17 := rfl
        refine ⟨M3, ?_, a3⟩
        rw [c3, bnd_s, if_pos rfl, q_loggedCount r3, bnd_s, if_pos k17, q_archivedCount r3, bnd_s, if_pos k18]
      · rw [if_neg q, if_neg q]
        exact ⟨M, rfl, AC.same h⟩
    · rw [if_neg p, if_neg (by rw [decide_eq_false p]; decide)]
      exact ⟨M, rfl, AC.same h⟩
  · rw [if_neg z, if_neg (show ¬ nI w < 14 from nI_nlt (b := 14) (by omega) (by omega))]
    exact act_8 hN h hi
theorem act_6 (hN : 300 < N) (h : VV i M g c sn) (hi : i ≤ 100) (hw : w < 24) : AG rr i M g c sn (fk_L_act_538 N rr u (nI w) v M) (act6 g w v) := by
  have R := h.rc
  unfold fk_L_act_538 act6
  by_cases z : w = 11
  · subst z
    have m5 := fun M => q_most v (m := 5) (by omega) (by omega) M
    have l5 := mo_lt v (m := 5) (by omega) (by omega)
    obtain ⟨M3, e3, r3, a3⟩ := AC.chg (N := N) (rr := rr) (k := 5) (a := nI (1 + mo v 5)) (b := 0) (by omega) h hi (by omega) (bad_in (k := 5) (lo := 1) (hi := 20) (by omega) (by omega) (by omega)) rfl (fun e => by omega)
    have c3 : f_G_setInterval N rr (nI (1 + mo v 5)) M = some (g 4, M3) := by
      unfold f_G_setInterval
      rw [show f_G_change N rr (5 : Int32) (nI (1 + mo v 5)) 0 M = _ from e3, bnd_s]
      rfl
    have k4 : s_do 5 (nI (1 + mo v 5)) 0 g 4 = nI (1 + mo v 5) := rfl
    refine ⟨M3, ?_, by rw [if_pos rfl]; exact a3⟩
    rw [if_pos (show nI 11 = (11 : Int32) from rfl), q_interval R, bnd_s, show f_L_most v (5 : Int32) M = _ from m5 M, bnd_s, a_1, c3, bnd_s, if_pos rfl, q_interval r3, bnd_s, show f_L_most v (5 : Int32) M3 = _ from m5 M3, bnd_s, a_1, if_pos k4]
  · rw [if_neg z, if_neg (show ¬ nI w = (11 : Int32) from nd (m := 11) (by omega) (by omega) z)]
    exact act_7 hN h hi hw
theorem act_5 (hN : 300 < N) (h : VV i M g c sn) (hi : i ≤ 100) (hw : w < 24) : AG rr i M g c sn (fk_L_act_463 N rr u (nI w) v M) (act5 g w v) := by
  have R := h.rc
  unfold fk_L_act_463 act5
  by_cases z : w = 10
  · subst z
    rw [if_pos rfl, if_pos (show nI 10 = (10 : Int32) from rfl), q_wear R, bnd_s, q_isLanded R, bnd_s]
    by_cases p : g 6 = 0
    · rw [if_pos p, if_pos (decide_eq_true p)]
      have m9 := fun M => q_most v (m := 90) (by omega) (by omega) M
      have l9 := mo_lt v (m := 90) (by omega) (by omega)
      have m2 := fun M => q_most (v >>> ((2 : Int32) &&& 31)) (m := 200) (by omega) (by omega) M
      have l2 := mo_lt (v >>> ((2 : Int32) &&& 31)) (m := 200) (by omega) (by omega)
      have hb : s_bad 4 (nI (1 + mo v 90)) (nI (1 + mo (v >>> ((2 : Int32) &&& 31)) 200)) = false := by
        show (outB (nI (1 + mo v 90)) (nI 1) (nI 999) || outB (nI (1 + mo (v >>> ((2 : Int32) &&& 31)) 200)) (nI 1) (nI 9999)) = false
        rw [outB_T (by omega) (by omega) (by omega) (by omega), outB_T (by omega) (by omega) (by omega) (by omega)]
        rfl
      have hst : s_stop 4 (nI (1 + mo v 90)) g = false := by
        show (!decide (g 6 = 0)) = false
        rw [decide_eq_true p]
        rfl
      obtain ⟨M3, e3, r3, a3⟩ := AC.chg (N := N) (rr := rr) (k := 4) (by omega) h hi (by omega) hb hst (fun e => by omega)
      have c3 : f_G_replaceBridle N rr (nI (1 + mo v 90)) (nI (1 + mo (v >>> ((2 : Int32) &&& 31)) 200)) M = some (g 9, M3) := by
        unfold f_G_replaceBridle
        rw [show f_G_change N rr (4 : Int32) (nI (1 + mo v 90)) (nI (1 + mo (v >>> ((2 : Int32) &&& 31)) 200)) M = _ from e3, bnd_s]
        rfl
      have k9 : s_do 4 (nI (1 + mo v 90)) (nI (1 + mo (v >>> ((2 : Int32) &&& 31)) 200)) g 9 = 0 := rfl
      have k2 : s_do 4 (nI (1 + mo v 90)) (nI (1 + mo (v >>> ((2 : Int32) &&& 31)) 200)) g 2 = nI (1 + mo v 90) := rfl
      refine ⟨M3, ?_, a3⟩
      rw [show f_L_most v (90 : Int32) M = _ from m9 M, bnd_s, show f_L_most (v >>> ((2 : Int32) &&& 31)) (200 : Int32) M = _ from m2 M, bnd_s, a_1, a_1, c3, bnd_s, if_pos rfl, q_wear r3, bnd_s, if_pos k9, q_limit r3, bnd_s, show f_L_most v (90 : Int32) M3 = _ from m9 M3, bnd_s, a_1, if_pos k2]
    · rw [if_neg p, if_neg (by rw [decide_eq_false p]; decide)]
      exact ⟨M, rfl, AC.same h⟩
  · rw [if_neg z, if_neg (show ¬ nI w = (10 : Int32) from nd (m := 10) (by omega) (by omega) z)]
    exact act_6 hN h hi hw
theorem in_at {a : Int32} : s_in a g 8 = imax 0 (g 8 - a) ∧ s_in a g 7 = imin (g 7) (imax 0 (g 8 - a)) := by
  have k : s_in0 a g 8 = imax 0 (g 8 - a) ∧ s_in0 a g 7 = imin (g 7) (imax 0 (g 8 - a)) := by
    unfold s_in0
    exact ⟨by rw [upd_at, if_neg (by decide), upd_at, if_pos rfl], by rw [upd_at, if_pos rfl]⟩
  unfold s_in
  by_cases z : s_in0 a g 7 = 0
  · rw [if_pos z, upd_at, if_neg (by decide), upd_at, if_neg (by decide)]; exact k
  · rw [if_neg z]; exact k
theorem act_4 (hN : 300 < N) (h : VV i M g c sn) (hi : i ≤ 100) (hw : w < 24) : AG rr i M g c sn (fk_L_act_388 N rr u (nI w) v M) (act4 g w v) := by
  have R := h.rc
  unfold fk_L_act_388 act4
  by_cases z : w < 10
  · have m9 := q_most v (m := 90) (by omega) (by omega) M
    have l9 := mo_lt v (m := 90) (by omega) (by omega)
    rw [if_pos z, if_pos (show nI w < 10 from nI_lt (b := 10) z (by omega)), q_tether R, bnd_s, q_height R, bnd_s, show f_L_most v (90 : Int32) M = _ from m9, bnd_s, nm_eq, a_1, q_isFallen R, bnd_s]
    by_cases p : g 6 = 2
    · rw [if_pos p, if_pos (decide_eq_true p)]
      exact ⟨M, rfl, AC.same h⟩
    · rw [if_neg p, if_neg (by rw [decide_eq_false p]; decide)]
      obtain ⟨M3, e3, r3, a3⟩ := AC.chg (N := N) (rr := rr) (k := 3) (a := nI (1 + mo v 90)) (b := 0) (by omega) h hi (by omega) (bad_in (k := 3) (lo := 1) (hi := 200) (by omega) (by omega) (by omega)) (decide_eq_false p) (fun e => by omega)
      have c3 : f_G_reelIn N rr (nI (1 + mo v 90)) M = some (imax 0 (g 8 - nI (1 + mo v 90)), M3) := by
        unfold f_G_reelIn
        rw [show f_G_change N rr (3 : Int32) (nI (1 + mo v 90)) 0 M = _ from e3, bnd_s]
        rfl
      have k := in_at (g := g) (a := nI (1 + mo v 90))
      have k8 : s_do 3 (nI (1 + mo v 90)) 0 g 8 = imax 0 (g 8 - nI (1 + mo v 90)) := k.1
      have k7 : s_do 3 (nI (1 + mo v 90)) 0 g 7 = imin (g 7) (imax 0 (g 8 - nI (1 + mo v 90))) := k.2
      refine ⟨M3, ?_, a3⟩
      rw [c3, bnd_s, if_pos rfl, q_height r3, bnd_s, q_tether r3, bnd_s, k8, if_pos k7]
  · rw [if_neg z, if_neg (show ¬ nI w < 10 from nI_nlt (b := 10) (by omega) (by omega))]
    exact act_5 hN h hi hw
theorem act_3 (hN : 300 < N) (h : VV i M g c sn) (hi : i ≤ 100) (hw : w < 24) : AG rr i M g c sn (fk_L_act_291 N rr u (nI w) v M) (act3 g w v) := by
  have R := h.rc
  obtain ⟨te, te1, e8⟩ := R.w.2.1.2.2.1
  unfold fk_L_act_291 act3
  by_cases z : w < 8
  · have m8 := q_most v (m := 80) (by omega) (by omega) M
    have l8 := mo_lt v (m := 80) (by omega) (by omega)
    rw [if_pos z, if_pos (show nI w < 8 from nI_lt (b := 8) z (by omega)), q_tether R, bnd_s, q_height R, bnd_s, show f_L_most v (80 : Int32) M = _ from m8, bnd_s, nm_eq, a_1, q_isFallen R, bnd_s, jn_eq]
    by_cases p : g 6 = 2
    · rw [if_pos p, if_pos (decide_eq_true p)]
      dsimp only
      rw [q_obstacle R, bnd_s, if_pos (why_2.mpr p)]
      exact ⟨M, rfl, AC.same h⟩
    · rw [if_neg p, if_neg (by rw [decide_eq_false p]; decide)]
      by_cases q : 600 < g 8 + nI (1 + mo v 80)
      · rw [if_pos q, if_pos q]
        dsimp only
        have hi5 : 500 < g 8 := by
          rw [e8, nI_add] at q
          have := (nI_ltI (a := 600) (by omega) (by omega)).mp q
          rw [e8]
          exact nI_lt (a := 500) (by omega) (by omega)
        rw [q_obstacle R, bnd_s, if_neg (fun e => p (why_2.mp e)), if_pos hi5]
        exact ⟨M, rfl, AC.same h⟩
      · rw [if_neg q, if_neg q]
        have hst : s_stop 2 (nI (1 + mo v 80)) g = false := by
          show (decide (g 6 = 2) || decide (600 < g 8 + nI (1 + mo v 80))) = false
          rw [decide_eq_false p, decide_eq_false q]
          rfl
        obtain ⟨M3, e3, r3, a3⟩ := AC.chg (N := N) (rr := rr) (k := 2) (a := nI (1 + mo v 80)) (b := 0) (by omega) h hi (by omega) (bad_in (k := 2) (lo := 1) (hi := 200) (by omega) (by omega) (by omega)) hst (fun e => by omega)
        have c3 : f_G_payOut N rr (nI (1 + mo v 80)) M = some (g 8 + nI (1 + mo v 80), M3) := by
          unfold f_G_payOut
          rw [show f_G_change N rr (2 : Int32) (nI (1 + mo v 80)) 0 M = _ from e3, bnd_s]
          rfl
        have k7 : s_do 2 (nI (1 + mo v 80)) 0 g 7 = g 7 := by
          show s_out _ g 7 = g 7
          unfold s_out
          rw [upd_at, if_neg (by decide)]
        refine ⟨M3, ?_, a3⟩
        rw [c3, bnd_s, if_pos rfl, q_height r3, bnd_s, if_pos k7]
  · rw [if_neg z, if_neg (show ¬ nI w < 8 from nI_nlt (b := 8) (by omega) (by omega))]
    exact act_4 hN h hi hw
theorem launch_at : s_launch g 6 = 1 ∧ s_launch g 7 = 10 ∧ s_launch g 16 = 0 ∧ s_launch g 12 = 0 := by
  unfold s_launch
  refine ⟨?_, ?_, ?_, ?_⟩
  · rw [inc_ne (by decide), upd_at, if_neg (by decide), upd_at, if_neg (by decide), upd_at, if_neg (by decide), upd_at, if_pos rfl]
  · rw [inc_ne (by decide), upd_at, if_neg (by decide), upd_at, if_neg (by decide), upd_at, if_pos rfl]
  · rw [inc_ne (by decide), upd_at, if_pos rfl]
  · rw [inc_ne (by decide), upd_at, if_neg (by decide), upd_at, if_pos rfl]
theorem act_launch (hN : 300 < N) (h : VV i M g c sn) (hi : i ≤ 100) : AG rr i M g c sn (bnd (f_G_launchObstacle M) fun (x37 : Int32) (M38 : Mem) => if 0 < x37 then (if x37 = (1 : Int32) then (bnd (f_G_isFlying M38) fun (x39 : Bool) (M40 : Mem) => some (x39, M40)) else (if x37 = (2 : Int32) then (bnd (f_G_isFallen M38) fun (x41 : Bool) (M42 : Mem) => some (x41, M42)) else (if x37 = (3 : Int32) then (bnd (f_G_tether M38) fun (x43 : Int32) (M44 : Mem) => if x43 < (10 : Int32) then (some (true, M44)) else (some (false, M44))) else (bnd (f_G_windAt (0 : Int32) M38) fun (x45 : Int32) (M46 : Mem) => if x45 < (5 : Int32) then (some (true, M46)) else (some (false, M46)))))) else (bnd (f_G_launches M38) fun (x47 : Int32) (M48 : Mem) => bnd (f_G_launch N rr M48) fun (x49 : Int32) (M50 : Mem) => if x49 = (x47 + (1 : Int32)) then (bnd (f_G_isFlying M50) fun (x51 : Bool) (M52 : Mem) => if x51 = true then (bnd (f_G_height M52) fun (x53 : Int32) (M54 : Mem) => if x53 = (10 : Int32) then (bnd (f_G_bufferSize M54) fun (x55 : Int32) (M56 : Mem) => if x55 = 0 then (bnd (f_G_flightTime M56) fun (x57 : Int32) (M58 : Mem) => if x57 = 0 then (some (true, M58)) else (some (false, M58))) else (some (false, M56))) else (some (false, M54))) else (some (false, M52))) else (some (false, M50)))) (if s_why g = 0 then s_do 1 0 0 g else g) := by
  have R := h.rc
  rw [q_obstacle R, bnd_s]
  by_cases z : s_why g = 0
  · rw [if_pos z, if_neg (by rw [z]; decide), q_launches R, bnd_s]
    have hst : s_stop 1 0 g = false := by
      show (!decide (s_why g = 0)) = false
      rw [decide_eq_true z]
      rfl
    obtain ⟨M3, e3, r3, a3⟩ := AC.chg (N := N) (rr := rr) (k := 1) (a := 0) (b := 0) (by omega) h hi (by omega) rfl hst (fun e => by omega)
    have c3 : f_G_launch N rr M = some (g 13 + 1, M3) := by
      unfold f_G_launch
      rw [show f_G_change N rr (1 : Int32) 0 0 M = _ from e3, bnd_s]
      rfl
    obtain ⟨k6, k7, k16, k12⟩ := launch_at (g := g)
    have d6 : s_do 1 0 0 g 6 = 1 := k6
    have d7 : s_do 1 0 0 g 7 = 10 := k7
    have d16 : s_do 1 0 0 g 16 = 0 := k16
    have d12 : s_do 1 0 0 g 12 = 0 := k12
    refine ⟨M3, ?_, a3⟩
    rw [c3, bnd_s, if_pos rfl, q_isFlying r3, bnd_s, if_pos (decide_eq_true d6), q_height r3, bnd_s, if_pos d7, q_bufferSize r3, bnd_s, if_pos d16, q_flightTime r3, bnd_s, if_pos d6, if_pos d12]
  · rw [if_neg z]
    refine ⟨M, ?_, AC.same h⟩
    by_cases c1 : g 6 = 1
    · have y := why_1.mpr c1
      rw [y, if_pos (by decide), if_pos rfl, q_isFlying R, bnd_s, decide_eq_true c1]
    · by_cases c2 : g 6 = 2
      · have y := why_2.mpr c2
        rw [y, if_pos (by decide), if_neg (by decide), if_pos rfl, q_isFallen R, bnd_s, decide_eq_true c2]
      · by_cases c3 : g 8 < 10
        · have y : s_why g = 3 := by
            unfold s_why
            rw [if_neg c1, if_neg c2, if_pos c3]
          rw [y, if_pos (by decide), if_neg (by decide), if_neg (by decide), if_pos rfl, q_tether R, bnd_s, if_pos c3]
        · by_cases c4 : s_wind g 0 < 5
          · have y : s_why g = 4 := by
              unfold s_why
              rw [if_neg c1, if_neg c2, if_neg c3, if_pos c4]
            have q0 := q_windAt R (n := 0) (by omega)
            rw [nI_0] at q0
            rw [y, if_pos (by decide), if_neg (by decide), if_neg (by decide), if_neg (by decide), q0, bnd_s, if_pos c4]
          · exact absurd (by
              unfold s_why
              rw [if_neg c1, if_neg c2, if_neg c3, if_neg c4]) z
theorem act_2 (hN : 300 < N) (h : VV i M g c sn) (hi : i ≤ 100) (hw : w < 24) : AG rr i M g c sn (fk_L_act_152 N rr u (nI w) v M) (act2 g w v) := by
  unfold fk_L_act_152 act2
  rw [jn_eq]
  by_cases z : w < 4
  · rw [if_pos (Or.inl z), if_pos (show nI w < 4 from nI_lt (b := 4) z (by omega))]
    exact act_launch hN h hi
  · rw [if_neg (show ¬ nI w < 4 from nI_nlt (b := 4) (by omega) (by omega))]
    by_cases z2 : w = 23
    · subst z2
      rw [if_pos (Or.inr rfl), if_pos (show nI 23 = (23 : Int32) from rfl)]
      exact act_launch hN h hi
    · rw [if_neg (show ¬ (w < 4 ∨ w = 23) by omega), if_neg (show ¬ nI w = (23 : Int32) from nd (m := 23) (by omega) (by omega) z2)]
      exact act_3 hN h hi hw
theorem q_act (hN : 300 < N) (h : VV i M g c sn) (hi : i ≤ 100) : AG rr i M g c sn (f_L_act N rr u M) (actR g u) := by
  have R := h.rc
  have l24 := mo_lt u (m := 24) (by omega) (by omega)
  unfold f_L_act actR
  rw [show f_L_most u (24 : Int32) M = _ from q_most u (m := 24) (by omega) (by omega) M, bnd_s, nm_eq, q_isFallen R, bnd_s]
  by_cases p : g 6 = 2
  · rw [if_pos (decide_eq_true p)]
    by_cases z : mo u 24 < 8
    · rw [if_pos (show g 6 = 2 ∧ mo u 24 < 8 from ⟨p, z⟩), if_pos (show nI (mo u 24) < 8 from nI_lt (b := 8) z (by omega)), q_searches R, bnd_s, q_beaconTime R, bnd_s, if_pos p, jnB, q_wear R, bnd_s]
      generalize u >>> ((4 : Int32) &&& 31) = v
      unfold actS
      rw [show f_L_most (v >>> ((3 : Int32) &&& 31)) (3 : Int32) M = _ from q_most (v >>> ((3 : Int32) &&& 31)) (m := 3) (by omega) (by omega) M, bnd_s]
      have s17 : ∀ f : Int32 → Mem → Option (Bool × Mem), jn f (fun j => if nI (mo (v >>> ((3 : Int32) &&& 31)) 3) = 0 then j (2201 : Int32) M else j (120 : Int32) M) = f (nI (if mo (v >>> ((3 : Int32) &&& 31)) 3 = 0 then 2201 else 120)) M := fun f => by
        rw [jn_eq]
        by_cases z : mo (v >>> ((3 : Int32) &&& 31)) 3 = 0
        · rw [if_pos z, z, if_pos nI_0]; rfl
        · have := mo_lt (v >>> ((3 : Int32) &&& 31)) (m := 3) (by omega) (by omega)
          rw [if_neg z, if_neg (nI_ne0 (by omega) (by omega))]; rfl
      rw [s17]
      have mb : 1 ≤ (if mo (v >>> ((3 : Int32) &&& 31)) 3 = 0 then 2201 else 120) ∧ (if mo (v >>> ((3 : Int32) &&& 31)) 3 = 0 then 2201 else 120) ≤ 2201 := by
        by_cases z : mo (v >>> ((3 : Int32) &&& 31)) 3 = 0
        · rw [if_pos z]; omega
        · rw [if_neg z]; omega
      generalize (if mo (v >>> ((3 : Int32) &&& 31)) 3 = 0 then 2201 else 120) = m at mb ⊢
      have ml := mo_lt v (m := m) (by omega) (by omega)
      rw [q_most v (m := m) (by omega) (by omega), bnd_s]
      generalize mo v m = n at ml ⊢
      have hst : s_stop 6 (nI n) g = false := by
        show (!decide (g 6 = 2)) = false
        rw [decide_eq_true p]
        rfl
      obtain ⟨M3, e3, r3, a3⟩ := AC.chg (N := N) (rr := rr) (k := 6) (a := nI n) (b := 0) (by omega) h hi (by omega) (bad_in (k := 6) (lo := 0) (hi := 2200) (by omega) (by omega) (by omega)) hst (fun e => by omega)
      have c3 : f_G_search N rr (nI n) M = some (s_seaA (nI n) g, M3) := by
        unfold f_G_search
        rw [show f_G_change N rr (6 : Int32) (nI n) 0 M = _ from e3, bnd_s]
        rfl
      refine ⟨M3, ?_, a3⟩
      have d : s_do 6 (nI n) 0 g = s_sea (nI n) g := rfl
      rw [d] at r3
      rw [c3, bnd_s, q_searches r3, bnd_s]
      by_cases y : iabs (nI n - g 10) ≤ s_lim g
      · have sA : s_seaA (nI n) g = 0 := if_pos y
        have sR : s_sea (nI n) g = upd (inc g 15) 6 0 := if_pos y
        rw [sR] at r3 ⊢
        have f15 : upd (inc g 15) 6 0 15 = g 15 + 1 := rfl
        have f9 : upd (inc g 15) 6 0 9 = g 9 := rfl
        have f6 : upd (inc g 15) 6 0 6 = 0 := rfl
        rw [if_pos f15, q_wear r3, bnd_s, if_pos f9, if_pos sA, q_isLanded r3, bnd_s, if_pos (decide_eq_true f6), q_beaconTime r3, bnd_s, f6, if_neg (show ¬ (0 : Int32) = 2 by decide), if_pos rfl]
      · have sR : s_sea (nI n) g = inc g 15 := if_neg y
        rw [sR] at r3 ⊢
        have f15 : inc g 15 15 = g 15 + 1 := rfl
        have f9 : inc g 15 9 = g 9 := inc_ne (by decide)
        have f6 : inc g 15 6 = 2 := by rw [inc_ne (by decide)]; exact p
        by_cases si : g 11 = 0
        · have sA : s_seaA (nI n) g = -1 := by
            unfold s_seaA
            rw [if_neg y, if_pos si]
          rw [sA, if_pos f15, q_wear r3, bnd_s, if_pos f9, if_neg (by decide), q_isFallen r3, bnd_s, if_pos (decide_eq_true f6), if_pos (decide_eq_true si), if_pos rfl]
        · have lim : s_lim g = 20 := if_neg si
          rw [lim] at y
          have sA : s_seaA (nI n) g = iabs (nI n - g 10) / 20 := by
            unfold s_seaA
            rw [lim, if_neg y, if_neg si]
          have pos : 0 < iabs (nI n - g 10) / 20 := by
            have y2 := Int32.not_le.mp y
            obtain ⟨j, hj, ej⟩ := nI_of (x := iabs (nI n - g 10)) (fun q => Int32.lt_irrefl (Int32.lt_trans (Int32.lt_trans q (show (0 : Int32) < 20 by decide)) y2))
            rw [ej] at y2 ⊢
            have := (nI_ltI (a := 20) (by omega) hj).mp y2
            rw [show nI j / 20 = nI (j / 20) from pk_div (d := 20) hj (by omega) (by omega)]
            show nI 0 < nI (j / 20)
            exact nI_lt (by omega) (by omega)
          have ne : ¬ iabs (nI n - g 10) / 20 = 0 := fun q => by
            rw [q] at pos
            exact absurd pos (by decide)
          rw [sA, if_pos f15, q_wear r3, bnd_s, if_pos f9, if_neg ne, q_isFallen r3, bnd_s, if_pos (decide_eq_true f6), if_neg (by rw [decide_eq_false si]; decide), if_pos pos]
    · rw [if_neg (fun q : g 6 = 2 ∧ mo u 24 < 8 => z q.2), if_neg (show ¬ nI (mo u 24) < 8 from nI_nlt (b := 8) (by omega) (by omega))]
      exact act_2 hN h hi l24
  · rw [if_neg (by rw [decide_eq_false p]; decide), if_neg (fun q : g 6 = 2 ∧ mo u 24 < 8 => p q.1)]
    exact act_2 hN h hi l24
end A
