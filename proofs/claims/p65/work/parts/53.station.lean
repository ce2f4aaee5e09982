/-! the law's isStation says true -/
theorem nn64_mean {s : Int32} {c : Nat} (hc : c ≤ 100) : nn64 (mean s c) = true := by
  unfold mean
  by_cases e : c = 0
  · rw [if_pos e]; decide +kernel
  · rw [if_neg e]; exact nn64_div (nI_ne0 (by omega) (by omega))
theorem nn32_share {d : Int32} {m : Nat} (hm : m < 2 ^ 31) : nn32 (share d (nI m)) = true := by
  unfold share
  by_cases e : m = 0
  · subst e
    rw [if_pos (by decide)]; decide +kernel
  · rw [if_neg (show ¬ nI m < 1 from nI_nlt (b := 1) (by omega) (by omega))]
    exact nn32_div (nI_ne0 (by omega) (by omega))
set_option maxHeartbeats 4000000 in
theorem q_isStation {M : Mem} {g : Row} {N rr t i : Nat} (hN : 300 < N) (ht : t ≤ 10000) (hi : i ≤ 1000) (h : RC M g) (R : RJ t i g) : ∃ κ, f_L_isStation N rr M = some (true, setR M 23 κ) := by
  obtain ⟨W, h0, ⟨la, s, l1, l2, l3, l4⟩, ⟨hh, te, b1, b2, b3, b4, b5⟩, Rb0, Re0, ⟨a, a1, a2, a3⟩, c, d, hc, hd2, e17, e18, o, l⟩ := R
  obtain ⟨b, hb, e16, -⟩ := W.2.2.1
  obtain ⟨⟨t', ht', h0', ⟨s', hs', es'⟩, m, hm, em⟩, ⟨n, n1, n2, e5, gv⟩, -⟩ := W.1
  obtain ⟨mg, mg1, mg2, mg3⟩ := mx_ge (f := fun k => g (21 + k)) n n2 gv
  have hv := (fun k hk => by
    obtain ⟨c', hc', e', hv⟩ := W.2.2.2.2
    obtain rfl : c' = d := (nI_eq (by omega) (by omega)).mp (e'.symm.trans e18)
    exact (hv k hk).2.1 : ∀ k, k < d → ∃ h, h ≤ 600 ∧ g (135 + 3 * k + 1) = nI h)
  have mode := W.2.1.1
  unfold f_L_isStation
  rw [show (((0 : Int32), (0 : Int32), (0 : Int32)) : Int32 × Int32 × Int32) = (sm (fun j => g (37 + j)) 0, mx (fun j => g (37 + j)) 0, nI 0) from rfl, lpI_6 h e16 hb _ b 0 N (by omega) (by omega)]
  dsimp only
  rw [show (((-1 : Int32), (0 : Int32)) : Int32 × Int32) = (bf g 135 (-1) 0, nI 0) from rfl, lpI_43 (by omega) h e18 hd2 o _ d 0 N (by omega) (by omega)]
  dsimp only
  rw [show ((bf g 135 (-1) d, (0 : Int32)) : Int32 × Int32) = (bf g 45 (bf g 135 (-1) d) 0, nI 0) from rfl, lpI_131 h e17 hc e18 hd2 o l _ c 0 N (by omega) (by omega)]
  dsimp only
  rw [show (((0 : Int32), (0 : Int32)) : Int32 × Int32) = (sm (fun l => ct (inL g l) d) 0, nI 0) from rfl, lpI_217 (by omega) h e18 hd2 _ 7 0 N (by omega) (by omega)]
  dsimp only
  rw [q_loggedCount h, bnd_s, q_archivedCount h, bnd_s, q_droppedCount h, bnd_s, nm_eq, q_isLanded h, bnd_s, q_isFlying h, bnd_s, q_safe (by omega) h e5 n2, bnd_s, q_obstacle h, bnd_s, jnB, jnB, q_isFallen h, bnd_s, jnB, nm_eq]
  have s96 : ∀ (u1 u2 u3 u4 u5 u9 u10 : Int32) (u6 u7 : Bool) (f : Unit → Mem → Option (Bool × Mem)), jn f (fun j => if sfe g (mx (fun k => g (21 + k)) n) 7 < 0 then j () M else lp_L_isStation_382 N rr u1 u2 u3 u4 u5 u6 u7 (sfe g (mx (fun k => g (21 + k)) n) 7) u9 u10 N (0 : Int32) M (fun _ M' => j () M')) = f () M := fun u1 u2 u3 u4 u5 u9 u10 u6 u7 f => by
    rw [jn_eq]
    rcases sfe_or (g := g) (G := mx (fun k => g (21 + k)) n) 7 (by omega) with q | ⟨j, j1, j2, j3⟩
    · rw [q, if_pos (by decide)]
    · rw [mg2] at j3
      rw [j2, if_neg (nI_pos (by omega))]
      exact lpI_382 (N0 := N) (rr := rr) h (j := j) (v := mg) e5 n2 a2 a3 (by omega) mg1 mg3 j3 (fun _ M' => f () M') n 0 N (by omega) (by omega)
  rw [s96]
  have hx : b2i (decide (decide (g 6 = 0) = true)) + b2i (decide (decide (g 6 = 1) = true)) + b2i (decide (decide (g 6 = 2) = true)) = 1 := by
    rw [dd, dd, dd]
    rcases mode with q | q | q <;> rw [q] <;> decide
  rw [if_pos hx, q_height h, bnd_s, q_tether h, bnd_s, if_pos (show g 7 ≤ g 8 by rw [b1, b2]; exact nI_le b3 (by omega)), q_height h, bnd_s, jnB]
  have fl : (g 6 = 1) ↔ (0 < g 7) := by
    rw [b5, b1]
    constructor
    · intro q
      show nI 0 < nI hh
      exact nI_lt q (by omega)
    · intro q
      rcases Nat.eq_zero_or_pos hh with z | z
      · subst z
        exact absurd q (by decide)
      · exact z
  rw [if_pos (b2i_dec fl)]
  obtain ⟨κ1, s108⟩ : ∃ κ1, ∀ f : Unit → Mem → Option (Bool × Mem), jn f (fun j => if decide (g 6 = 1) = true then j () M else bnd (f_G_flightTime M) fun (x172 : Int32) (M173 : Mem) => if x172 = 0 then bnd (f_G_ticksToSnap N rr M173) fun (x174 : Int32) (M175 : Mem) => if x174 = (-1 : Int32) then j () M175 else some (false, M175) else some (false, M173)) = f () (setR M 23 κ1) := by
    obtain ⟨κ1, k1⟩ := q_snap (rr := rr) hN h
    by_cases z : g 6 = 1
    · refine ⟨M 23, fun f => ?_⟩
      rw [jn_eq, if_pos (decide_eq_true z), setR_same]
    · refine ⟨κ1, fun f => ?_⟩
      rw [if_neg z] at k1
      rw [jn_eq, if_neg (by rw [decide_eq_false z]; decide), q_flightTime h, bnd_s, if_neg z, if_pos rfl, k1, bnd_s, if_pos rfl]
  rw [s108]
  have h1 := h.k23 κ1
  generalize hM1 : setR M 23 κ1 = M1 at h1 ⊢
  have s113 : ∀ f : Unit → Mem → Option (Bool × Mem), jn f (fun j => if decide (g 6 = 2) = true then j () M1 else bnd (f_G_beaconTime M1) fun (x170 : Int32) (M171 : Mem) => if x170 = 0 then j () M171 else some (false, M171)) = f () M1 := fun f => by
    rw [jn_eq]
    by_cases z : g 6 = 2
    · rw [if_pos (decide_eq_true z)]
    · rw [if_neg (by rw [decide_eq_false z]; decide), q_beaconTime h1, bnd_s, if_neg z, if_pos rfl]
  have hbe : (if g 6 = 2 then g 11 else 0) ≤ (120 : Int32) := by
    obtain ⟨x, x1, x2⟩ := W.2.1.2.2.2
    by_cases z : g 6 = 2
    · rw [if_pos z, x2]
      exact nI_le (b := 120) x1 (by omega)
    · rw [if_neg z]; decide
  have s118 : ∀ f : Unit → Mem → Option (Bool × Mem), jn f (fun j => if decide (g 6 = 1) = true then bnd (f_G_bufferSize M1) fun (x166 : Int32) (M167 : Mem) => bnd (f_G_flightTime M167) fun (x168 : Int32) (M169 : Mem) => if x166 = imin (8 : Int32) x168 then j () M169 else some (false, M169) else j () M1) = f () M1 := fun f => by
    rw [jn_eq]
    by_cases z : g 6 = 1
    · obtain ⟨ft, f1, f2, f3⟩ := Rb0 z
      rw [if_pos (decide_eq_true z), q_bufferSize h1, bnd_s, q_flightTime h1, bnd_s, if_pos z, if_pos (by rw [f3, f2]; exact (imin_nI (a := 8) (by omega) (by omega)).symm)]
    · rw [if_neg (by rw [decide_eq_false z]; decide)]
  have s129 : ∀ f : Unit → Mem → Option (Bool × Mem), jn f (fun j => if s_why g = 0 then bnd (f_G_tether M1) fun (x162 : Int32) (M163 : Mem) => if x162 < (10 : Int32) then some (false, M163) else bnd (f_G_windAt (0 : Int32) M163) fun (x164 : Int32) (M165 : Mem) => if x164 < (5 : Int32) then some (false, M165) else j () M165 else j () M1) = f () M1 := fun f => by
    rw [jn_eq]
    by_cases z : s_why g = 0
    · obtain ⟨-, -, z3, z4⟩ := why_0 z
      have q0 := q_windAt h1 (n := 0) (by omega)
      rw [nI_0] at q0
      rw [if_pos z, q_tether h1, bnd_s, if_neg z3, q0, bnd_s, if_neg z4]
    · rw [if_neg z]
  rw [q_isFallen h1, bnd_s, s113, q_beaconTime h1, bnd_s, if_pos hbe, s118, jnB, if_pos (b2i_dec why_1), jnB, q_isFallen h1, bnd_s, if_pos (b2i_dec why_2), s129, q_snaps h1, bnd_s, q_launches h1, bnd_s]
  rw [if_pos (show g 14 ≤ g 13 by rw [l1, l2]; exact nI_le (by omega) (by omega)), q_archivedCount h1, bnd_s, if_pos ((lays d hv).trans e18.symm), q_greatestWind (by omega) h1, bnd_s]
  have gr : mx (fun j => g (37 + j)) b = s_great g := by
    unfold s_great
    rw [e16, cn_nI (by omega)]
  rw [if_pos gr, q_meanWind (by omega) h1 e16 hb, bnd_s, q_bufferSize h1, bnd_s]
  have s144 : ∀ f : UInt64 → Mem → Option (Bool × Mem), jn f (fun j => if g 16 = 0 then j 0 M1 else bnd (f_G_bufferSize M1) fun (x160 : Int32) (M161 : Mem) => grd (nn64 (FP.ddiv (FP.i2d (sm (fun j => g (37 + j)) b)) (FP.i2d x160))) (j (FP.ddiv (FP.i2d (sm (fun j => g (37 + j)) b)) (FP.i2d x160)) M161)) = f (mean (sm (fun j => g (37 + j)) b) b) M1 := fun f => by
    rw [jn_eq, e16]
    by_cases z : b = 0
    · subst z
      rw [if_pos nI_0]
      rfl
    · rw [if_neg (nI_ne0 (by omega) (by omega)), q_bufferSize h1, bnd_s, e16, grd_of (nn64_div (nI_ne0 (by omega) (by omega)))]
      unfold mean
      rw [if_neg z]
  rw [s144, if_pos (dcmp_same (nn64_mean (by omega)) rfl), q_share h1, bnd_s]
  have s149 : ∀ f : UInt32 → Mem → Option (Bool × Mem), jn f (fun j => if g 17 + g 18 + g 20 = 0 then j 0 M1 else bnd (f_G_archivedCount M1) fun (x158 : Int32) (M159 : Mem) => grd (nn32 (FP.fdiv (FP.i2f x158) (FP.i2f (g 17 + g 18 + g 20)))) (j (FP.fdiv (FP.i2f x158) (FP.i2f (g 17 + g 18 + g 20))) M159)) = f (share (g 18) (g 19)) M1 := fun f => by
    have r : g 17 + g 18 + g 20 = nI m := Re0.symm.trans em
    rw [jn_eq, r, em]
    unfold share
    by_cases z : m = 0
    · subst z
      rw [if_pos nI_0, if_pos (by decide)]
    · rw [if_neg (nI_ne0 (by omega) (by omega)), q_archivedCount h1, bnd_s, grd_of (nn32_div (nI_ne0 (by omega) (by omega))), if_neg (show ¬ nI m < 1 from nI_nlt (b := 1) (by omega) (by omega))]
  rw [s149, if_pos (fcmp_same (by rw [em]; exact nn32_share (by omega)) rfl)]
  obtain ⟨κ2, k2⟩ := q_heightAfter (N := N) (rr := rr) (n := 0) (by omega) h1 (by omega)
  have h2 := h1.k23 κ2
  rw [nI_0] at k2
  rw [k2, bnd_s, q_height h2, bnd_s, if_pos (show itr s_pass 0 g 7 = g 7 from rfl), q_gap (by omega) h2 e17 e18 hc hd2, bnd_s]
  have gz : iabs (g 19 - (g 17 + g 18 + g 20)) + ds (fun k => g (45 + 3 * k)) (c - 1) + ds (fun k => g (135 + 3 * k)) (d - 1) = 0 := by
    rw [ds_0 (c - 1) (fun k hk => o.2.1 k (k + 1) (by omega) (by omega)), ds_0 (d - 1) (fun k hk => o.1 k (k + 1) (by omega) (by omega)), ← Re0, Int32.sub_self]
    decide
  rw [if_pos gz]
  refine ⟨κ2, ?_⟩
  rw [← hM1, setR_setR]
