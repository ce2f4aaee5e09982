/-! the law's acts, one by one -/
def act8 (g : Row) (v : Int32) : Row := s_do 8 (nI (1 + mo v (if mo (v >>> ((3 : Int32) &&& 31)) 4 = 0 then 60 else 9))) 0 g
def act7 (g : Row) (w : Nat) (v : Int32) : Row := if w < 14 then (if g 6 = 0 then (if g 18 + g 17 ≤ 90 then s_do 7 0 0 g else g) else g) else act8 g v
def act6 (g : Row) (w : Nat) (v : Int32) : Row := if w = 11 then s_do 5 (nI (1 + mo v 5)) 0 g else act7 g w v
def act5 (g : Row) (w : Nat) (v : Int32) : Row := if w = 10 then (if g 6 = 0 then s_do 4 (nI (1 + mo v 90)) (nI (1 + mo (v >>> ((2 : Int32) &&& 31)) 200)) g else g) else act6 g w v
def act4 (g : Row) (w : Nat) (v : Int32) : Row := if w < 10 then (if g 6 = 2 then g else s_do 3 (nI (1 + mo v 90)) 0 g) else act5 g w v
def act3 (g : Row) (w : Nat) (v : Int32) : Row := if w < 8 then (if g 6 = 2 then g else if 600 < g 8 + nI (1 + mo v 80) then g else s_do 2 (nI (1 + mo v 80)) 0 g) else act4 g w v
def act2 (g : Row) (w : Nat) (v : Int32) : Row := if w < 4 ∨ w = 23 then (if s_why g = 0 then s_do 1 0 0 g else g) else act3 g w v
def actS (g : Row) (v : Int32) : Row := s_do 6 (nI (mo v (if mo (v >>> ((3 : Int32) &&& 31)) 3 = 0 then 2201 else 120))) 0 g
def actR (g : Row) (u : Int32) : Row := if g 6 = 2 ∧ mo u 24 < 8 then actS g (u >>> ((4 : Int32) &&& 31)) else act2 g (mo u 24) (u >>> ((4 : Int32) &&& 31))
section A
variable {N rr i c w : Nat} {M : Mem} {g : Row} {sn : Option Row} {u v : Int32}
theorem a_1 (x : Nat) : (1 : Int32) + nI x = nI (1 + x) := nI_add 1 x
theorem bad_in {k lo hi n : Nat} {b : Int32} (hk : (k = 2 ∧ lo = 1 ∧ hi = 200) ∨ (k = 3 ∧ lo = 1 ∧ hi = 200) ∨ (k = 5 ∧ lo = 1 ∧ hi = 20) ∨ (k = 6 ∧ lo = 0 ∧ hi = 2200) ∨ (k = 8 ∧ lo = 1 ∧ hi = 60)) (h1 : lo ≤ n) (h2 : n ≤ hi) : s_bad k (nI n) b = false := by
  have t := outB_T (n := n) (lo := lo) (hi := hi) (by omega) h1 h2 (by omega)
  rcases hk with ⟨rfl, rfl, rfl⟩ | ⟨rfl, rfl, rfl⟩ | ⟨rfl, rfl, rfl⟩ | ⟨rfl, rfl, rfl⟩ | ⟨rfl, rfl, rfl⟩ <;> exact t
theorem act_8 (hN : 300 < N) (h : VV i M g c sn) (hi : i ≤ 100) : AG rr i M g c sn (fk_L_act_655 N rr u (nI w) v M) (act8 g v) := by
  obtain ⟨t, ht, hj⟩ := h.2.1
  have m4 := q_most (v >>> ((3 : Int32) &&& 31)) (m := 4) (by omega) (by omega) M
  unfold fk_L_act_655 act8
  rw [show f_L_most (v >>> ((3 : Int32) &&& 31)) (4 : Int32) M = some (nI (mo (v >>> ((3 : Int32) &&& 31)) 4), M) from m4, bnd_s]
  have s132 : ∀ f : Int32 → Mem → Option (Bool × Mem), jn f (fun j => if nI (mo (v >>> ((3 : Int32) &&& 31)) 4) = 0 then j (60 : Int32) M else j (9 : Int32) M) = f (nI (if mo (v >>> ((3 : Int32) &&& 31)) 4 = 0 then 60 else 9)) M := fun f => by
    rw [jn_eq]
    by_cases z : mo (v >>> ((3 : Int32) &&& 31)) 4 = 0
    · rw [if_pos z, z, if_pos nI_0]; rfl
    · have := mo_lt (v >>> ((3 : Int32) &&& 31)) (m := 4) (by omega) (by omega)
      rw [if_neg z, if_neg (nI_ne0 (by omega) (by omega))]; rfl
  rw [s132]
  have mb : 1 ≤ (if mo (v >>> ((3 : Int32) &&& 31)) 4 = 0 then 60 else 9) ∧ (if mo (v >>> ((3 : Int32) &&& 31)) 4 = 0 then 60 else 9) ≤ 60 := by
    by_cases z : mo (v >>> ((3 : Int32) &&& 31)) 4 = 0
    · rw [if_pos z]; omega
    · rw [if_neg z]; omega
  generalize (if mo (v >>> ((3 : Int32) &&& 31)) 4 = 0 then 60 else 9) = m at mb ⊢
  have ml := mo_lt v (m := m) (by omega) (by omega)
  rw [q_most v (m := m) (by omega) (by omega), bnd_s, nm_eq, a_1]
  obtain ⟨n, en⟩ : ∃ n, n = 1 + mo v m := ⟨_, rfl⟩
  rw [← en]
  have n1 : 1 ≤ n ∧ n ≤ 60 := by omega
  obtain ⟨κ1, k1⟩ := q_heightAfter (N := N) (rr := rr) (n := n) (by omega) h.rc (by omega)
  have h1 := h.k23 κ1
  obtain ⟨κ2, k2⟩ := q_snap (N := N) (rr := rr) (by omega) h1.rc
  have h2 := h1.k23 κ2
  have W := h.rc.w
  have RC2 := h2.rc
  rw [k1, bnd_s, k2, bnd_s, q_snaps RC2, bnd_s, q_loggedCount RC2, bnd_s, q_droppedCount RC2, bnd_s, nm_eq, q_beaconTime RC2, bnd_s, q_tick RC2, bnd_s, q_height RC2, bnd_s]
  obtain ⟨hh, hh1, e7⟩ := W.2.1.2.1
  obtain ⟨wv, wv1, ew⟩ := Wg_wind W.1 W.2.1.2.1
  have qw := q_windAt RC2 hh1
  rw [← e7] at qw
  rw [qw, bnd_s, q_wear RC2, bnd_s, q_isFlying RC2, bnd_s, q_limit RC2, bnd_s]
  have h0 := hj.2.1
  have hst : s_stop 8 (nI n) g = false := by
    show decide (10000 < g 0 + nI n) = false
    rw [h0, nI_add]
    exact decide_eq_false (nI_nlt (a := 10000) (by omega) (by omega))
  obtain ⟨M3, e3, r3, a3⟩ := AC.chg (N := N) (rr := rr) (k := 8) (b := 0) (by omega) h2 hi (by omega) (bad_in (k := 8) (lo := 1) (hi := 60) (by omega) (by omega) (by omega)) hst (fun _ => ⟨n, by omega, rfl⟩)
  have c3 : f_G_passTicks N rr (nI n) (setR (setR M 23 κ1) 23 κ2) = some (s_an 8 (nI n) 0 g, M3) := by
    unfold f_G_passTicks
    rw [show f_G_change N rr (8 : Int32) (nI n) 0 (setR (setR M 23 κ1) 23 κ2) = _ from e3, bnd_s]
  rw [c3, bnd_s]
  have an : s_an 8 (nI n) 0 g = itr s_pass n g 19 - g 19 := by
    show itr s_pass (cn (nI n)) g 19 - g 19 = _
    rw [cn_nI (by omega)]
  have dd8 : s_do 8 (nI n) 0 g = itr s_pass n g := by
    show itr s_pass (cn (nI n)) g = _
    rw [cn_nI (by omega)]
  rw [an]
  rw [dd8] at r3 a3
  rw [dd8]
  refine ⟨M3, ?_, a3.from23.from23⟩
  have J := itr_RJ (n := n) hj (by omega)
  -- behind the ticks
  have tail : ∀ (x1 : Int32), fk_L_act_810 N rr u (nI w) v (nI n) (itr s_pass n g 7) (if g 6 = 1 then sna 200 g else -1) (g 14) (g 17 + g 20) (if g 6 = 2 then g 11 else 0) (g 0) x1 (g 9) (decide (g 6 = 1)) (g 2) (itr s_pass n g 19 - g 19) M3 = some (true, M3) := fun x1 => by
    unfold fk_L_act_810
    have e18 := itr_18 (n := n) W
    have R1 := hj.2.2.2.2.2.1
    have R2 := J.2.2.2.2.2.1
    unfold Re at R1 R2
    rw [q_height r3, bnd_s, if_pos rfl, q_tick r3, bnd_s, if_pos (by rw [J.2.1, h0, nI_add]), q_loggedCount r3, bnd_s, q_droppedCount r3, bnd_s, if_pos (by rw [R1, R2, e18]; grind), q_snaps r3, bnd_s]
    have s183 : ∀ (y z : Int32) (f : Bool → Mem → Option (Bool × Mem)), jn f (fun j183 => jn (fun (x194 : Unit) (M195 : Mem) => j183 false M195) (fun j193 => if 0 < y then (if y ≤ z then (j183 true M3) else (j193 () M3)) else (j193 () M3))) = f (decide (0 < y ∧ y ≤ z)) M3 := fun y z f => by
      rw [jn_eq, jn_eq]
      by_cases p1 : 0 < y
      · rw [if_pos p1]
        by_cases p2 : y ≤ z
        · rw [if_pos p2, decide_eq_true ⟨p1, p2⟩]
        · rw [if_neg p2, decide_eq_false (fun q => p2 q.2)]
      · rw [if_neg p1, decide_eq_false (fun q => p1 q.1)]
    have sn14 : itr s_pass n g 14 = g 14 + b2i (decide (0 < (if g 6 = 1 then sna 200 g else -1) ∧ (if g 6 = 1 then sna 200 g else -1) ≤ nI n)) := by
      by_cases z : g 6 = 1
      · rw [if_pos z]
        have := snap_itr (n := n) (m := 200) W (by rw [z]; decide) (by omega) (by omega)
        rw [show 200 - 200 + n = n from by omega] at this
        exact this
      · rw [if_neg z, idle_itr (by decide) (by decide) z, decide_eq_false (fun q => absurd q.1 (by decide))]
        show g 14 = g 14 + 0
        rw [Int32.add_zero]
    rw [s183, if_pos sn14]
    have s186 : ∀ f : Unit → Mem → Option (Bool × Mem), jn f (fun j186 => if (if g 6 = 2 then g 11 else 0) = 0 then (j186 () M3) else (bnd (f_G_beaconTime M3) fun (x191 : Int32) (M192 : Mem) => if x191 = (imax (0 : Int32) ((if g 6 = 2 then g 11 else 0) - nI n)) then (j186 () M192) else (some (false, M192)))) = f () M3 := fun f => by
      rw [jn_eq]
      by_cases z : g 6 = 2
      · obtain ⟨b, b1, e11⟩ := W.2.1.2.2.2
        rw [if_pos z]
        by_cases z2 : g 11 = 0
        · rw [if_pos z2]
        · have g6 : ¬ g 6 = 1 := by rw [z]; decide
          rw [if_neg z2, q_beaconTime r3, bnd_s, idle_itr (by decide) (by decide) g6, if_pos z, beac_itr z h0 (by omega) e11 b1, e11, imax0_sub (by omega) (by omega), if_pos rfl]
      · rw [if_neg z, if_pos rfl]
    rw [s186]
    by_cases z : g 6 = 1
    · rw [if_pos (decide_eq_true z)]
    · rw [if_neg (by rw [decide_eq_false z]; decide), q_wear r3, bnd_s, idle_itr (by decide) (by decide) z, if_pos rfl, idle_itr (by decide) (by decide) z, Int32.sub_self, if_pos rfl]
  by_cases q1 : nI n = (1 : Int32)
  · rw [if_pos q1]
    by_cases q2 : g 6 = 1
    · have q1' : n = 1 := (nI_eq (by omega) (by omega)).mp (show nI n = nI 1 from q1)
      obtain ⟨b, hb, e16, -⟩ := W.2.2.1
      obtain ⟨k, hk, f16, f37, f9, f1⟩ := fly_one (t := t) W q2 h0 (by omega) e16 hb ew wv1
      have i1 : itr s_pass n g = s_pass g := by rw [q1']; rfl
      have ta := tail
      rw [i1] at r3 ta
      rw [if_pos (decide_eq_true q2), q_bufferSize r3, bnd_s, f16, nI_pred, q_bufferedWind r3 f16 (by omega) (by omega), bnd_s, f37, ew, if_pos rfl, q_wear r3, bnd_s, q_loadOf r3 wv1, bnd_s, f9]
      have ld : s_load (s_pass g) (nI wv) = s_load g (nI wv) := by
        unfold s_load
        rw [f1]
      rw [ld, if_pos rfl, i1]
      exact ta _
    · rw [if_neg (by rw [decide_eq_false q2]; decide)]
      exact tail _
  · rw [if_neg q1]
    exact tail _
end A
