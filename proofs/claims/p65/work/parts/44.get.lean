/-! what the class's calls answer, by its row -/
/-- the station's cells hold the row g -/
def RC (M : Mem) (g : Row) : Prop := SR M 10 g ∧ WF g
theorem RC.s {M : Mem} {g : Row} (h : RC M g) : M 10 2 = g 5 ∧ M 10 6 = g 4 ∧ M 10 7 = g 0 ∧ M 10 8 = g 19 ∧ KR (M 11) g ∧ (∀ k, k < cn (g 5) → M 12 k = g (21 + k)) ∧ BR (M 13) (M 14) g ∧ LR 30 45 17 (M 15) (M 16) (M 17) (M 18) g ∧ M 15 6 = g 20 ∧ LR 90 135 18 (M 19) (M 20) (M 21) (M 22) g := h.1
theorem RC.k {M : Mem} {g : Row} (h : RC M g) : KR (M 11) g := h.s.2.2.2.2.1
theorem RC.w {M : Mem} {g : Row} (h : RC M g) : WF g := h.2
theorem RC.b {M : Mem} {g : Row} (h : RC M g) : BR (M 13) (M 14) g := h.s.2.2.2.2.2.2.1
theorem RC.l {M : Mem} {g : Row} (h : RC M g) : LR 30 45 17 (M 15) (M 16) (M 17) (M 18) g := h.s.2.2.2.2.2.2.2.1
theorem RC.a {M : Mem} {g : Row} (h : RC M g) : LR 90 135 18 (M 19) (M 20) (M 21) (M 22) g := h.s.2.2.2.2.2.2.2.2.2
section Q
variable {M : Mem} {g : Row} {N rr : Nat}
theorem q_tick (h : RC M g) : f_G_tick M = some (g 0, M) := by rw [f_G_tick, h.s.2.2.1]
theorem q_patternLength (h : RC M g) : f_G_patternLength M = some (g 5, M) := by rw [f_G_patternLength, h.s.1]
theorem q_bufferSize (h : RC M g) : f_G_bufferSize M = some (g 16, M) := by
  obtain ⟨o, -, -, e, -⟩ := h.b
  rw [f_G_bufferSize, e]
theorem q_height (h : RC M g) : f_G_height M = some (g 7, M) := by rw [f_G_height, h.k.2.1]
theorem q_tether (h : RC M g) : f_G_tether M = some (g 8, M) := by rw [f_G_tether, h.k.2.2.1]
theorem q_area (h : RC M g) : f_G_area M = some (g 1, M) := by rw [f_G_area, h.k.2.2.2.1]
theorem q_limit (h : RC M g) : f_G_limit M = some (g 2, M) := by rw [f_G_limit, h.k.2.2.2.2.1]
theorem q_endurance (h : RC M g) : f_G_endurance M = some (g 3, M) := by rw [f_G_endurance, h.k.2.2.2.2.2.1]
theorem q_wear (h : RC M g) : f_G_wear M = some (g 9, M) := by rw [f_G_wear, h.k.2.2.2.2.2.2.1]
theorem q_beaconTime (h : RC M g) : f_G_beaconTime M = some (if g 6 = 2 then g 11 else 0, M) := by rw [f_G_beaconTime, h.k.2.2.2.2.2.2.2.2.1]
theorem q_flightTime (h : RC M g) : f_G_flightTime M = some (if g 6 = 1 then g 12 else 0, M) := by rw [f_G_flightTime, h.k.2.2.2.2.2.2.2.2.2.1]
theorem q_launches (h : RC M g) : f_G_launches M = some (g 13, M) := by rw [f_G_launches, h.k.2.2.2.2.2.2.2.2.2.2.1]
theorem q_snaps (h : RC M g) : f_G_snaps M = some (g 14, M) := by rw [f_G_snaps, h.k.2.2.2.2.2.2.2.2.2.2.2.1]
theorem q_searches (h : RC M g) : f_G_searches M = some (g 15, M) := by rw [f_G_searches, h.k.2.2.2.2.2.2.2.2.2.2.2.2]
theorem q_interval (h : RC M g) : f_G_interval M = some (g 4, M) := by rw [f_G_interval, h.s.2.1]
theorem q_loggedCount (h : RC M g) : f_G_loggedCount M = some (g 17, M) := by
  obtain ⟨o, -, -, -, e, -⟩ := h.l
  rw [f_G_loggedCount, e]
theorem q_archivedCount (h : RC M g) : f_G_archivedCount M = some (g 18, M) := by
  obtain ⟨o, -, -, -, e, -⟩ := h.a
  rw [f_G_archivedCount, e]
theorem q_droppedCount (h : RC M g) : f_G_droppedCount M = some (g 20, M) := by rw [f_G_droppedCount, h.s.2.2.2.2.2.2.2.2.1]
theorem q_is {k : Int32} (h : RC M g) : (if (M 11 0) = k then some (true, M) else some (false, M)) = some (decide (g 6 = k), M) := by
  rw [h.k.1]
  by_cases e : g 6 = k
  · rw [if_pos e, decide_eq_true e]
  · rw [if_neg e, decide_eq_false e]
theorem q_isLanded (h : RC M g) : f_G_isLanded M = some (decide (g 6 = 0), M) := q_is h
theorem q_isFlying (h : RC M g) : f_G_isFlying M = some (decide (g 6 = 1), M) := q_is h
theorem q_isFallen (h : RC M g) : f_G_isFallen M = some (decide (g 6 = 2), M) := q_is h
theorem q_ref {a lo hi : Int32} (hb : outB a lo hi = false) : f_G_refuseOutside a lo hi M = some M := by
  unfold f_G_refuseOutside
  rw [C_out, bnd_s, hb]
  rfl
theorem RC.gustOf (h : RC M g) {t : Nat} (ht : t < 2 ^ 31) : f_T_gustOf 10 (nI t) M = some (s_gust g (nI t), M) := C_gustOf h.w.1 ht h.s.1 h.s.2.2.2.2.2.1
theorem q_gust (h : RC M g) {t : Nat} (ht : t ≤ 9999) : f_G_gust (nI t) M = some (s_gust g (nI t), M) := by
  unfold f_G_gust
  rw [q_ref (lo := 0) (hi := 9999) (outB_T (lo := 0) (hi := 9999) (by omega) (by omega) (by omega) (by omega)), bndM_s, h.gustOf (by omega), bnd_s]
theorem q_windAt (h : RC M g) {n : Nat} (hn : n ≤ 600) : f_G_windAt (nI n) M = some (s_wind g (nI n), M) := by
  obtain ⟨t, ht, e0, -⟩ := h.w.1.1
  unfold f_G_windAt
  rw [q_ref (lo := 0) (hi := 600) (outB_T (lo := 0) (hi := 600) (by omega) (by omega) (by omega) (by omega)), bndM_s, h.s.2.2.1, e0, h.gustOf (by omega), bnd_s, ← e0]
  rfl
theorem q_loadOf (h : RC M g) {n : Nat} (hn : n ≤ 36) : f_G_loadOf (nI n) M = some (s_load g (nI n), M) := by
  unfold f_G_loadOf f_K_loadUnder
  rw [q_ref (lo := 0) (hi := 36) (outB_T (lo := 0) (hi := 36) (by omega) (by omega) (by omega) (by omega)), bndM_s, bnd_s, h.k.2.2.2.1]
  rfl
theorem q_bufferedWind (h : RC M g) {c j : Nat} (e : g 16 = nI c) (hc : c ≤ 8) (hj : j < c) : f_G_bufferedWind (nI j) M = some (g (37 + j), M) := by
  obtain ⟨o, ho, h1, h2, hv⟩ := h.b
  rw [e] at h2 hv
  rw [cn_nI (by omega)] at hv
  unfold f_G_bufferedWind f_B_has
  rw [h2, if_neg (nI_pos (by omega)), if_pos (nI_lt hj (by omega)), bnd_s, if_pos rfl, C_Bat ho (by omega) h1, bnd_s, hv j hj]
theorem q_greatestWind (hN : 8 < N) (h : RC M g) : f_G_greatestWind N rr M = some (s_great g, M) := by
  unfold f_G_greatestWind
  rw [C_great hN h.w.2.2.1 h.b, bnd_s]
theorem q_meanWind (hN : 8 < N) (h : RC M g) {c : Nat} (e : g 16 = nI c) (hc : c ≤ 8) : f_G_meanWind N rr M = some (mean (sm (fun k => g (37 + k)) c) c, M) := by
  obtain ⟨o, ho, h1, h2, hv⟩ := h.b
  rw [e] at h2 hv
  rw [cn_nI (by omega)] at hv
  unfold f_G_meanWind f_B_sum
  rw [show (((0 : Int32), (0 : Int32)) : Int32 × Int32) = (sm (fun k => g (37 + k)) 0, nI 0) from rfl, lpC_sum ho hc h1 h2 hv _ c 0 N (by omega) (by omega), bnd_s, h2, C_mean (by omega), bnd_s]
theorem q_refM {p n b i c j : Nat} (hn : n < 100) (hc : c ≤ n) (hi : g i = nI c) (hj : j < c) (h : LR n b i (M p) (M (p + 1)) (M (p + 2)) (M (p + 3)) g) : f_G_refuseMissing p (nI j) M = some M := by
  obtain ⟨o, ho, -, -, h5, -⟩ := h
  unfold f_G_refuseMissing f_S_has
  rw [h5, hi, if_neg (nI_pos (by omega)), if_pos (nI_lt hj (by omega)), bnd_s]
  rfl
theorem q_log (h : RC M g) {c j : Nat} (e : g 17 = nI c) (hc : c ≤ 30) (hj : j < c) : f_G_loggedTick (nI j) M = some (g (45 + 3 * j), M) ∧ f_G_loggedHeight (nI j) M = some (g (45 + 3 * j + 1), M) ∧ f_G_loggedGust (nI j) M = some (g (45 + 3 * j + 2), M) := by
  have h1 := h.l
  have hr := q_refM (p := 15) (by omega) hc e hj h1
  rw [LR_g (c := c) (by omega) e] at h1
  obtain ⟨a1, a2, a3⟩ := C_tickAt (p := 15) (by omega) (by omega) hc hj z15 h1
  refine ⟨?_, ?_, ?_⟩
  · unfold f_G_loggedTick; rw [hr, bndM_s, a1, bnd_s]
  · unfold f_G_loggedHeight; rw [hr, bndM_s, a2, bnd_s]
  · unfold f_G_loggedGust; rw [hr, bndM_s, a3, bnd_s]
theorem q_arc (h : RC M g) {c j : Nat} (e : g 18 = nI c) (hc : c ≤ 90) (hj : j < c) : f_G_archivedTick (nI j) M = some (g (135 + 3 * j), M) ∧ f_G_archivedHeight (nI j) M = some (g (135 + 3 * j + 1), M) ∧ f_G_archivedGust (nI j) M = some (g (135 + 3 * j + 2), M) := by
  have h1 := h.a
  have hr := q_refM (p := 19) (by omega) hc e hj h1
  rw [LR_g (c := c) (by omega) e] at h1
  obtain ⟨a1, a2, a3⟩ := C_tickAt (p := 19) (by omega) (by omega) hc hj z19 h1
  refine ⟨?_, ?_, ?_⟩
  · unfold f_G_archivedTick; rw [hr, bndM_s, a1, bnd_s]
  · unfold f_G_archivedHeight; rw [hr, bndM_s, a2, bnd_s]
  · unfold f_G_archivedGust; rw [hr, bndM_s, a3, bnd_s]
theorem q_between (hN : 90 < N) (h : RC M g) {c : Nat} {a b : Int32} (ec : g 18 = nI c) (hc : c ≤ 90) : f_G_archivedBetween N rr a b M = some (ct (fun k => !outB (g (135 + 3 * k + 1)) a b) c, M) := by
  have h1 := h.a
  rw [LR_g (c := c) (by omega) ec] at h1
  unfold f_G_archivedBetween f_S_countBetween
  rw [show (((0 : Int32), (0 : Int32)) : Int32 × Int32) = (ct (fun k => !outB (g (135 + 3 * k + 1)) a b) 0, nI 0) from rfl]
  have := lpC_ct (N0 := N) (rr := rr) (a1 := a) (a2 := b) hc h1 (fun (a9 : Int32 × Int32) (M8 : Mem) => some (a9.1, M8)) c 0 N (by omega) (by omega)
  rw [this, bnd_s]
theorem q_highest (hN : 90 < N) (h : RC M g) {c : Nat} (ec : g 18 = nI c) (hc : c ≤ 90) : f_G_highestArchived N rr M = some (bst (fun k => g (135 + 3 * k + 1)) c, M) := by
  have h1 := h.a
  rw [LR_g (c := c) (by omega) ec] at h1
  unfold f_G_highestArchived f_S_highest
  rw [show (((-1 : Int32), (0 : Int32)) : Int32 × Int32) = (bst (fun k => g (135 + 3 * k + 1)) 0, nI 0) from rfl]
  have := lpC_bst (N0 := N) (rr := rr) hc h1 (fun (a9 : Int32 × Int32) (M8 : Mem) => some (a9.1, M8)) c 0 N (by omega) (by omega)
  rw [this, bnd_s]
theorem q_before (hN : 90 < N) (h : RC M g) {c : Nat} {a : Int32} (ec : g 18 = nI c) (hc : c ≤ 90) : f_G_archivedBefore N rr a M = some (lst (fun k => g (135 + 3 * k)) a c, M) := by
  have h1 := h.a
  rw [LR_g (c := c) (by omega) ec] at h1
  have h5 : M 19 5 = nI c := by obtain ⟨o, -, -, -, q, -⟩ := h1; exact q
  unfold f_G_archivedBefore f_S_lastUntil
  rw [nm_eq, h5, lpC_lst hc h1 c N (Nat.le_refl _) (by omega), bnd_s]
theorem q_meanGust (hN : 90 < N) (h : RC M g) {c l m : Nat} (ec : g 18 = nI c) (hc : c ≤ 90) (hl : l ≤ 6) (em : ct (fun k => !outB (g (135 + 3 * k + 1)) (nI (l * 100)) (nI (l * 100 + 99))) c = nI m) (hm : m ≤ c) : f_G_meanGust N rr (nI l) M = some (mean (cs (fun k => !outB (g (135 + 3 * k + 1)) (nI (l * 100)) (nI (l * 100 + 99))) (fun k => g (135 + 3 * k + 2)) c) m, M) := by
  have h1 := h.a
  rw [LR_g (c := c) (by omega) ec] at h1
  have e1 : nI l * (100 : Int32) = nI (l * 100) := pk_mul l 100
  have e2 : nI (l * 100) + (100 : Int32) - 1 = nI (l * 100 + 99) := by rw [show nI (l * 100) + (100 : Int32) = nI (l * 100 + 100) from nI_add _ 100]; exact pk_sub (b := 1) (by omega)
  unfold f_G_meanGust
  rw [q_ref (lo := 0) (hi := 6) (outB_T (lo := 0) (hi := 6) (by omega) (by omega) (by omega) (by omega)), bndM_s, nm_eq, nm_eq, e1, e2]
  have a1 := lpC_cs (N0 := N) (rr := rr) (a1 := nI (l * 100)) (a2 := nI (l * 100 + 99)) hc h1 (fun (a11 : Int32 × Int32) (M10 : Mem) => some (a11.1, M10)) c 0 N (by omega) (by omega)
  have a2 := lpC_ct (N0 := N) (rr := rr) (a1 := nI (l * 100)) (a2 := nI (l * 100 + 99)) hc h1 (fun (a9 : Int32 × Int32) (M8 : Mem) => some (a9.1, M8)) c 0 N (by omega) (by omega)
  unfold f_S_gustsBetween f_S_countBetween
  have a1' : lp_S_gustsBetween_5 N rr 19 (nI (l * 100)) (nI (l * 100 + 99)) N ((0 : Int32), (0 : Int32)) M (fun (a11 : Int32 × Int32) (M10 : Mem) => some (a11.1, M10)) = _ := a1
  have a2' : lp_S_countBetween_5 N rr 19 (nI (l * 100)) (nI (l * 100 + 99)) N ((0 : Int32), (0 : Int32)) M (fun (a9 : Int32 × Int32) (M8 : Mem) => some (a9.1, M8)) = _ := a2
  rw [a1', bnd_s, a2', bnd_s]
  dsimp only
  rw [em, C_mean (by omega), bnd_s]
def share (d m : Int32) : UInt32 := if m < 1 then 0 else FP.fdiv (FP.i2f d) (FP.i2f m)
theorem q_share (h : RC M g) : f_G_archivedShare M = some (share (g 18) (g 19), M) := by
  obtain ⟨t, ht, h0, -, m, hm, em⟩ := h.w.1.1
  have h5 : M 19 5 = g 18 := by obtain ⟨o, -, -, -, q, -⟩ := h.a; exact q
  have h8 : M 10 8 = nI m := h.s.2.2.2.1.trans em
  unfold f_G_archivedShare share
  rw [h8, h5, em]
  by_cases e : m = 0
  · subst e
    rw [if_pos (by decide), if_pos (by decide)]
  · have hh : ¬ nI m < 1 := by show ¬ nI m < nI 1; exact nI_nlt (by omega) (by omega)
    rw [if_neg hh, if_neg hh, grd_of (nn32_div (nI_ne0 (by omega) (by omega)))]
theorem q_gap (hN : 90 < N) (h : RC M g) {c d : Nat} (ec : g 17 = nI c) (ed : g 18 = nI d) (hc : c ≤ 30) (hd : d ≤ 90) : f_G_gap N rr M = some (iabs (g 19 - (g 17 + g 18 + g 20)) + ds (fun k => g (45 + 3 * k)) (c - 1) + ds (fun k => g (135 + 3 * k)) (d - 1), M) := by
  have hl := h.l
  have ha := h.a
  have l5 : M 15 5 = g 17 := by obtain ⟨o, -, -, -, q, -⟩ := hl; exact q
  have a5 : M 19 5 = g 18 := by obtain ⟨o, -, -, -, q, -⟩ := ha; exact q
  rw [LR_g (c := c) (by omega) ec] at hl
  rw [LR_g (c := d) (by omega) ed] at ha
  unfold f_G_gap f_S_misplaced
  have e1 := lpC_ds (N0 := N) (rr := rr) (p := 15) (by omega) (by omega) hc z15 hl (c - 1) 0 N (by omega) (by omega)
  have e2 := lpC_ds (N0 := N) (rr := rr) (p := 19) (by omega) (by omega) hd z19 ha (d - 1) 0 N (by omega) (by omega)
  have e1' : lp_S_misplaced_4 N rr 15 N ((0 : Int32), (1 : Int32)) M (fun (a : Int32 × Int32) (M : Mem) => some (a.1, M)) = _ := e1
  have e2' : lp_S_misplaced_4 N rr 19 N ((0 : Int32), (1 : Int32)) M (fun (a : Int32 × Int32) (M : Mem) => some (a.1, M)) = _ := e2
  rw [nm_eq, e1', bnd_s, e2', bnd_s, l5, a5, h.s.2.2.2.2.2.2.2.2.1, h.s.2.2.2.1]
theorem q_obstacle (h : RC M g) : f_G_launchObstacle M = some (s_why g, M) := by
  unfold f_G_launchObstacle
  rw [C_obstacle h.w h.1, bnd_s]
theorem q_safe (hN : 20 < N) (h : RC M g) {n : Nat} (e5 : g 5 = nI n) (n2 : n ≤ 16) : f_G_safeHeight N rr M = some (sfe g (mx (fun k => g (21 + k)) n) 7, M) := by
  have hf : ∀ k, k < n → M 12 k = g (21 + k) := fun k hk => h.s.2.2.2.2.2.1 k (by rw [e5, cn_nI (by omega)]; exact hk)
  unfold f_G_safeHeight f_T_greatestGust
  have e1 := lpC_gg (N0 := N) (rr := rr) (M := M) n2 (h.s.1.trans e5) hf (fun (a6 : Int32 × Int32) (M5 : Mem) => some (a6.1, M5)) n 0 N (by omega) (by omega)
  have e1' : lp_T_greatestGust_4 N rr 10 N ((0 : Int32), (0 : Int32)) M (fun (a6 : Int32 × Int32) (M5 : Mem) => some (a6.1, M5)) = _ := e1
  rw [e1', bnd_s]
  exact lpC_safe (N0 := N) (rr := rr) h.k 7 N (by omega) (by omega)
theorem FC_0 {t : Nat} {κ : Row} (H : RC M g) (h0 : g 0 = nI t) (ht : t ≤ 10000) (hk : KR κ g) : FC (setR M 23 κ) g t 0 := by
  refine ⟨H.w, h0, ht, ?_, ?_, fun k hk2 => ?_, by rw [setR_self]; exact hk⟩
  · rw [setR_at, if_neg (by decide)]; exact H.s.2.2.1.trans h0
  · rw [setR_at, if_neg (by decide)]; exact H.s.1
  · rw [setR_at, if_neg (by decide)]; exact H.s.2.2.2.2.2.1 k hk2
theorem q_heightAfter (hN : 200 < N) (h : RC M g) {n : Nat} (hn : n ≤ 100) : ∃ κ : Row, f_G_heightAfter N rr (nI n) M = some (itr s_pass n g 7, setR M 23 κ) := by
  obtain ⟨t, ht, e0, -⟩ := h.w.1.1
  obtain ⟨κ, k1, k2⟩ := K_copy (M := M) (p := 23) (a := 11) (by decide) h.k
  obtain ⟨v, κ', f1, f2⟩ := lpC_ha (N0 := N) (rr := rr) (n := n) (t := t) hn (fun (a11 : Int32) (M10 : Mem) => some (M10 23 1, M10)) n 0 N (setR M 23 κ) g (by omega) (by omega) (FC_0 h e0 ht k2)
  refine ⟨κ', ?_⟩
  unfold f_G_heightAfter
  rw [q_ref (lo := 0) (hi := 100) (outB_T (lo := 0) (hi := 100) (by omega) (by omega) (by omega) (by omega)), bndM_s, k1, bndM_s]
  refine Eq.trans f1 ?_
  rw [setR_setR, setR_self, f2.2.1]
theorem q_snap (hN : 300 < N) (h : RC M g) : ∃ κ : Row, f_G_ticksToSnap N rr M = some (if g 6 = 1 then sna 200 g else -1, setR M 23 κ) := by
  obtain ⟨t, ht, e0, -⟩ := h.w.1.1
  unfold f_G_ticksToSnap
  rw [h.k.1]
  by_cases c : g 6 = 1
  · obtain ⟨κ, k1, k2⟩ := K_copy (M := M) (p := 23) (a := 11) (by decide) h.k
    obtain ⟨κ', f1⟩ := lpC_snap (N0 := N) (rr := rr) (t := t) 200 N (setR M 23 κ) g (by omega) (by omega) (FC_0 h e0 ht k2) (by rw [c]; decide)
    rw [setR_setR] at f1
    exact ⟨κ', by rw [if_pos c, if_pos c, k1, bndM_s]; exact f1⟩
  · exact ⟨M 23, by rw [if_neg c, if_neg c, setR_same]⟩
end Q
