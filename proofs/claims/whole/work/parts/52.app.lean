/-! appendText, both sides -/
def bb (a : Int32) (j : Nat) : Nat := a.toBitVec.toNat / 2 ^ (24 - 8 * j) % 256
theorem and255 (x : Int32) : x &&& 255 = nI (x.toBitVec.toNat % 256) := pk_and x 8 rfl
theorem toInt8_mod {z : Int32} : z.toInt8.toInt32 &&& 255 = nI (z.toBitVec.toNat % 256) := by
  have h : z.toInt8 = (nI (z.toBitVec.toNat % 256)).toInt8 := by
    apply Int8.toBitVec_inj.mp
    rw [Int32.toBitVec_toInt8, Int32.toBitVec_toInt8]
    apply BitVec.eq_of_toNat_eq
    rw [BitVec.signExtend_eq_setWidth_of_le _ (by omega), BitVec.signExtend_eq_setWidth_of_le _ (by omega), BitVec.toNat_setWidth, BitVec.toNat_setWidth, pk_tn (by omega)]
    omega
  rw [h]
  exact sc_k8 _ (by omega)
theorem ush_bb {a : Int32} {j : Nat} (hj : j < 4) : (((a.toUInt32 >>> ((nI (24 - 8 * j)).toUInt32 &&& Int32.toUInt32 31)).toInt32).toInt8.toInt32) &&& 255 = nI (bb a j) := by
  have hh : j = 0 ∨ j = 1 ∨ j = 2 ∨ j = 3 := by omega
  rw [toInt8_mod, pk_ushr a (nI (24 - 8 * j)) (24 - 8 * j) (by rcases hh with rfl | rfl | rfl | rfl <;> decide)]
  rfl
theorem shr_bb {a : Int32} {j : Nat} (hj : j < 4) : (a >>> (nI (24 - 8 * j) &&& 31)) &&& 255 = nI (bb a j) := by
  have hh : j = 0 ∨ j = 1 ∨ j = 2 ∨ j = 3 := by omega
  rw [and255]
  congr 1
  have hi := pk_shr a (nI (24 - 8 * j) &&& 31) (24 - 8 * j) (by rcases hh with rfl | rfl | rfl | rfl <;> decide)
  unfold bb
  generalize a >>> (nI (24 - 8 * j) &&& 31) = y at hi ⊢
  have hy : y.toInt = if 2 * y.toBitVec.toNat < 2 ^ 32 then (y.toBitVec.toNat : Int) else (y.toBitVec.toNat : Int) - (2 ^ 32 : Nat) := BitVec.toInt_eq_toNat_cond _
  have ha : a.toInt = if 2 * a.toBitVec.toNat < 2 ^ 32 then (a.toBitVec.toNat : Int) else (a.toBitVec.toNat : Int) - (2 ^ 32 : Nat) := BitVec.toInt_eq_toNat_cond _
  have l1 := y.toBitVec.isLt
  have l2 := a.toBitVec.isLt
  rw [hy, ha, Int.shiftRight_eq_div_pow] at hi
  rcases hh with rfl | rfl | rfl | rfl
  · simp only [Nat.mul_zero, Nat.sub_zero] at hi ⊢
    split at hi <;> split at hi <;> omega
  · simp only [Nat.reduceMul, Nat.reduceSub] at hi ⊢
    split at hi <;> split at hi <;> omega
  · simp only [Nat.reduceMul, Nat.reduceSub] at hi ⊢
    split at hi <;> split at hi <;> omega
  · simp only [Nat.reduceMul, Nat.reduceSub] at hi ⊢
    split at hi <;> split at hi <;> omega
theorem bb_lt {a : Int32} {j : Nat} : bb a j < 256 := Nat.mod_lt _ (by omega)
/-- what four bytes more leave -/
def F4 (M M' : Mem) (f m : Nat) (w : Nat → Nat) : Prop := M' 1 1 = nI (f + m) ∧ (∀ k, k ≠ 1 → M' 1 k = M 1 k) ∧ (∀ q, q ≠ 1 → q ≠ 2 → M' q = M q) ∧ (∀ k, k < f → M' 2 k = M 2 k) ∧ ∀ j, j < m → M' 2 (f + j) &&& 255 = nI (w j)
theorem F4.step {M M' : Mem} {f m x : Nat} {w : Nat → Nat} {b : Int32} (h : F4 M M' f m w) (hb : b &&& 255 = nI x) : F4 M (put (put M' 2 (f + m) b) 1 1 (nI (f + m + 1))) f (m + 1) (fun j => if j = m then x else w j) := by
  obtain ⟨h1, h2, h3, h4, h5⟩ := h
  refine ⟨by rw [put_row, upd_at, if_pos rfl]; rfl, fun k hk => by rw [put_row, upd_at, if_neg hk, put_ne (by decide)]; exact h2 k hk, fun q a b => by rw [put_ne a, put_ne b]; exact h3 q a b, fun k hk => by rw [put_ne (by decide), put_row, upd_at, if_neg (by omega)]; exact h4 k hk, fun j hj => ?_⟩
  rw [put_ne (by decide), put_row, upd_at]
  dsimp only
  by_cases e : j = m
  · rw [if_pos (by omega), if_pos e]; exact hb
  · rw [if_neg (by omega), if_neg e]; exact h5 j (by omega)
theorem lpC_four {N0 rr N f m : Nat} {a : Int32} {M M' : Mem} {w : Nat → Nat} {k : Int32 → Mem → Option Mem} {s : Nat} (h : F4 M M' f m w) (hf : f + m < 500) (hs : s ≤ 24) : lp_X_appendFour_3 N0 rr a (N + 1) (nI s) M' k = lp_X_appendFour_3 N0 rr a N (nI s + (-8 : Int32)) (put (put M' 2 (f + m) (((a.toUInt32 >>> ((nI s).toUInt32 &&& Int32.toUInt32 31)).toInt32).toInt8.toInt32)) 1 1 (nI (f + m + 1))) k := by
  conv => lhs; unfold lp_X_appendFour_3
  have a1 : (put M' 2 (f + m) (((a.toUInt32 >>> ((nI s).toUInt32 &&& Int32.toUInt32 31)).toInt32).toInt8.toInt32)) 1 1 = nI (f + m) := by rw [put_ne (by decide)]; exact h.1
  rw [if_neg (nI_pos (by omega)), h.1, if_neg (nI_pos (by omega)), if_pos (by show nI (f + m) < nI 500; exact nI_lt (by omega) (by omega)), grd_of (inB_nI (by omega) (by omega)), nI_clamp (by omega), pk_vb, nm_eq, nm_eq, a1, nI_1, nm_eq]
theorem C_four {N rr f m : Nat} {a : Int32} {M M' : Mem} {w : Nat → Nat} (hN : 6 < N) (h : F4 M M' f m w) (hf : f + m + 4 ≤ 500) : ∃ M'', f_X_appendFour N rr a M' = some M'' ∧ F4 M M'' f (m + 4) (fun j => if m ≤ j then bb a (j - m) else w j) := by
  obtain ⟨N', rfl⟩ : ∃ n, N = n + 5 := ⟨N - 5, by omega⟩
  unfold f_X_appendFour
  have s1 := h.step (b := ((a.toUInt32 >>> ((nI 24).toUInt32 &&& Int32.toUInt32 31)).toInt32).toInt8.toInt32) (ush_bb (a := a) (j := 0) (by omega))
  have s2 := s1.step (b := ((a.toUInt32 >>> ((nI 16).toUInt32 &&& Int32.toUInt32 31)).toInt32).toInt8.toInt32) (ush_bb (a := a) (j := 1) (by omega))
  have s3 := s2.step (b := ((a.toUInt32 >>> ((nI 8).toUInt32 &&& Int32.toUInt32 31)).toInt32).toInt8.toInt32) (ush_bb (a := a) (j := 2) (by omega))
  have s4 := s3.step (b := ((a.toUInt32 >>> ((nI 0).toUInt32 &&& Int32.toUInt32 31)).toInt32).toInt8.toInt32) (ush_bb (a := a) (j := 3) (by omega))
  have key : ∀ (M'' : Mem) (w4 : Nat → Nat), F4 M M'' f (m + 1 + 1 + 1 + 1) w4 → (∀ j, j < m + 4 → w4 j = if m ≤ j then bb a (j - m) else w j) → F4 M M'' f (m + 4) (fun j => if m ≤ j then bb a (j - m) else w j) := fun M'' w4 ⟨q1, q2, q3, q4, q5⟩ hw => ⟨q1, q2, q3, q4, fun j hj => by rw [q5 j (by omega), hw j hj]⟩
  refine ⟨_, ?_, key _ _ s4 (fun j hj => ?_)⟩
  · rw [show (24 : Int32) = nI 24 from rfl, lpC_four h (by omega) (by omega), show nI 24 + (-8 : Int32) = nI 16 from by decide, lpC_four s1 (by omega) (by omega), show nI 16 + (-8 : Int32) = nI 8 from by decide, lpC_four s2 (by omega) (by omega), show nI 8 + (-8 : Int32) = nI 0 from by decide, lpC_four s3 (by omega) (by omega)]
    unfold lp_X_appendFour_3
    rw [if_pos (by decide)]
  · by_cases e : m ≤ j
    · rw [if_pos e]
      by_cases e3 : j = m + 1 + 1 + 1
      · rw [if_pos e3, show j - m = 3 from by omega]
      · rw [if_neg e3]
        by_cases e2 : j = m + 1 + 1
        · rw [if_pos e2, show j - m = 2 from by omega]
        · rw [if_neg e2]
          by_cases e1 : j = m + 1
          · rw [if_pos e1, show j - m = 1 from by omega]
          · rw [if_neg e1, if_pos (show j = m by omega), show j - m = 0 from by omega]
    · rw [if_neg e, if_neg (by omega), if_neg (by omega), if_neg (by omega), if_neg (by omega)]
def wd (a b c d e : Int32) (j : Nat) : Int32 := if j < 4 then a else if j < 8 then b else if j < 12 then c else if j < 16 then d else e
theorem lpR_app {N0 rr f : Nat} {a b c d e : Int32} {M : Mem} (hf : f + 20 ≤ 500) : ∀ (m i N : Nat) (M' : Mem), i + m = 20 → m < N → M' 145 15 = nI (f + i) → (∀ k, k ≠ 15 → M' 145 k = M 145 k) → (∀ q, q ≠ 145 → q ≠ 153 → M' q = M q) → (∀ k, k < f → M' 153 k = M 153 k) → (∀ j, j < i → M' 153 (f + j) = nI (bb (wd a b c d e j) (j % 4))) → ∃ M'' : Mem, lp_M_appendText_23 N0 rr a b c d e N (nI i) M' (fun (a9 : Int32) (M8 : Mem) => some (M8 145 15, M8)) = some (nI (f + 20), M'') ∧ M'' 145 15 = nI (f + 20) ∧ (∀ k, k ≠ 15 → M'' 145 k = M 145 k) ∧ (∀ q, q ≠ 145 → q ≠ 153 → M'' q = M q) ∧ (∀ k, k < f → M'' 153 k = M 153 k) ∧ ∀ j, j < 20 → M'' 153 (f + j) = nI (bb (wd a b c d e j) (j % 4)) := by
  intro m
  induction m with
  | zero =>
    intro i N M' hi hN h1 h2 h3 h4 h5
    obtain ⟨N, rfl⟩ : ∃ n, N = n + 1 := ⟨N - 1, by omega⟩
    obtain rfl : i = 20 := by omega
    unfold lp_M_appendText_23
    rw [if_neg (by decide)]
    exact ⟨M', by dsimp only; rw [h1], h1, h2, h3, h4, h5⟩
  | succ m ih =>
    intro i N M' hi hN h1 h2 h3 h4 h5
    obtain ⟨N, rfl⟩ : ∃ n, N = n + 1 := ⟨N - 1, by omega⟩
    have hm := mod_lt (n := 4) (a := i) (by omega)
    have es : (24 : Int32) - (8 : Int32) * irm (nI i) (4 : Int32) = nI (24 - 8 * (i % 4)) := by
      rw [show irm (nI i) (4 : Int32) = nI (i % 4) from irm_nI (d := 4) (by omega) (by omega) (by omega), show (8 : Int32) * nI (i % 4) = nI (8 * (i % 4)) from pk_mul 8 (i % 4)]
      exact pk_sub (a := 24) (by omega)
    unfold lp_M_appendText_23
    rw [if_pos (by show nI i < nI 20; exact nI_lt (by omega) (by omega)), jn_eq]
    have ew : ∀ (J : Int32 → Mem → Option (Int32 × Mem)), (if nI i < (4 : Int32) then (J a M') else (if nI i < (8 : Int32) then (J b M') else (if nI i < (12 : Int32) then (J c M') else (if nI i < (16 : Int32) then (J d M') else (J e M'))))) = J (wd a b c d e i) M' := fun J => by
      have c4 : nI i < (4 : Int32) ↔ i < 4 := nI_ltI (b := 4) (by omega) (by omega)
      have c8 : nI i < (8 : Int32) ↔ i < 8 := nI_ltI (b := 8) (by omega) (by omega)
      have c12 : nI i < (12 : Int32) ↔ i < 12 := nI_ltI (b := 12) (by omega) (by omega)
      have c16 : nI i < (16 : Int32) ↔ i < 16 := nI_ltI (b := 16) (by omega) (by omega)
      unfold wd
      by_cases q1 : i < 4
      · rw [if_pos (c4.mpr q1), if_pos q1]
      · rw [if_neg (fun z => q1 (c4.mp z)), if_neg q1]
        by_cases q2 : i < 8
        · rw [if_pos (c8.mpr q2), if_pos q2]
        · rw [if_neg (fun z => q2 (c8.mp z)), if_neg q2]
          by_cases q3 : i < 12
          · rw [if_pos (c12.mpr q3), if_pos q3]
          · rw [if_neg (fun z => q3 (c12.mp z)), if_neg q3]
            by_cases q4 : i < 16
            · rw [if_pos (c16.mpr q4), if_pos q4]
            · rw [if_neg (fun z => q4 (c16.mp z)), if_neg q4]
    have E := ew (fun (x3 : Int32) (M4 : Mem) => grd (inB (M4 145 15) 500) (nm (put M4 153 (M4 145 15).toNatClampNeg ((x3 >>> (((24 : Int32) - ((8 : Int32) * (irm (nI i) (4 : Int32)))) &&& 31)) &&& (255 : Int32))) fun (M5 : Mem) => nm (put M5 145 15 ((M5 145 15) + (1 : Int32))) fun (M6 : Mem) => nm (nI i + (1 : Int32)) fun (x7 : Int32) => lp_M_appendText_23 N0 rr a b c d e N x7 M6 (fun (a9 : Int32) (M8 : Mem) => some (M8 145 15, M8))))
    dsimp only at E ⊢
    rw [E]
    rw [h1, grd_of (inB_nI (by omega) (by omega)), nI_clamp (by omega), es, shr_bb hm, nm_eq, nm_eq, nm_eq]
    have p1 : (put M' 153 (f + i) (nI (bb (wd a b c d e i) (i % 4)))) 145 15 = nI (f + i) := by rw [put_ne (by decide)]; exact h1
    rw [p1, nI_1, nI_1]
    refine ih (i + 1) N _ (by omega) (by omega) (by rw [put_row, upd_at, if_pos rfl]; rfl) (fun k hk => by rw [put_row, upd_at, if_neg hk, put_ne (by decide)]; exact h2 k hk) (fun q a b => by rw [put_ne a, put_ne b]; exact h3 q a b) (fun k hk => by rw [put_ne (by decide), put_row, upd_at, if_neg (by omega)]; exact h4 k hk) (fun j hj => ?_)
    rw [put_ne (by decide), put_row, upd_at]
    by_cases q : j = i
    · subst q; rw [if_pos rfl]
    · rw [if_neg (by omega)]; exact h5 j (by omega)
theorem j_appendText {N : Nat} {a b c d e : Int32} (hN : 30 < N) : JA (f_G_appendText N 146 a b c d e) (f_M_appendText N 146 a b c d e) := fun Mc Mr H => by
  obtain ⟨hst, hh, hsn, ⟨⟨f, hf, t1, t2, t3⟩, t4, t5⟩, hou, hz⟩ := id H
  unfold f_G_appendText f_M_appendText f_X_hasRoomFor
  have p15 : (put Mr 145 8 0) 145 15 = nI f := by rw [put_row, upd_at, if_neg (by decide)]; exact t2
  rw [t1, nm_eq, p15, show nI f + (20 : Int32) = nI (f + 20) from nI_add f 20]
  rcases Nat.lt_or_ge 500 (f + 20) with q | q
  · rw [if_neg (by show ¬ nI (f + 20) ≤ nI 500; exact nI_ge q (by omega)), if_pos (by show nI 500 < nI (f + 20); exact nI_lt q (by omega)), bnd_s, if_neg (by decide)]
    exact ⟨_, _, _, rfl, rfl, RR_thr H, Fr.rf, Fr.rf.put (by omega) (by omega)⟩
  · rw [if_pos (by show nI (f + 20) ≤ nI 500; exact nI_le q (by omega)), if_neg (by show ¬ nI 500 < nI (f + 20); exact nI_nlt q (by omega)), bnd_s, if_pos rfl]
    have h0 : F4 Mc Mc f 0 (fun _ => 0) := ⟨t1, fun _ _ => rfl, fun _ _ _ => rfl, fun _ _ => rfl, fun j hj => absurd hj (Nat.not_lt_zero j)⟩
    obtain ⟨M1, e1, h1⟩ := C_four (N := N) (rr := 146) (a := a) (by omega) h0 (by omega)
    obtain ⟨M2, e2, h2⟩ := C_four (N := N) (rr := 146) (a := b) (by omega) h1 (by omega)
    obtain ⟨M3, e3, h3⟩ := C_four (N := N) (rr := 146) (a := c) (by omega) h2 (by omega)
    obtain ⟨M4, e4, h4⟩ := C_four (N := N) (rr := 146) (a := d) (by omega) h3 (by omega)
    obtain ⟨M5, e5, h5⟩ := C_four (N := N) (rr := 146) (a := e) (by omega) h4 (by omega)
    obtain ⟨Mr', r1, r2, r3, r4, r5, r6⟩ := lpR_app (N0 := N) (rr := 146) (a := a) (b := b) (c := c) (d := d) (e := e) (M := put Mr 145 8 0) q 20 0 N (put Mr 145 8 0) (by omega) (by omega) p15 (fun _ _ => rfl) (fun _ _ _ => rfl) (fun _ _ => rfl) (fun j hj => absurd hj (Nat.not_lt_zero j))
    rw [e1, bndM_s, e2, bndM_s, e3, bndM_s, e4, bndM_s, e5, bndM_s]
    obtain ⟨g1, g2, g3, g4, g5⟩ := h5
    have r4' : ∀ q, q ≠ 145 → q ≠ 153 → Mr' q = Mr q := fun q a b => by rw [r4 q a b, put_ne a]
    have r3' : ∀ k, k ≠ 15 → k ≠ 8 → Mr' 145 k = Mr 145 k := fun k a b => by rw [r3 k a, put_row, upd_at, if_neg b]
    refine ⟨nI (f + 20), M5, Mr', by rw [g1], r1, ⟨ST_congr hst (fun q a b => g3 q (by omega) (by omega)) (r4' _ (by decide) (by decide)), HH_congr hh (fun q hq => g3 q (by omega) (by omega)) (r4' _ (by decide) (by decide)) (r3' _ (by decide) (by decide)), SN_congr hsn (by rw [g3 0 (by omega) (by omega)]) (fun q a b => g3 q (by omega) (by omega)) (r4' _ (by decide) (by decide)) (r3' _ (by decide) (by decide)), ⟨⟨f + 20, q, g1, r2, fun k hk => ?_⟩, ?_, ?_⟩, OU_congr hou (by rw [g3 143 (by omega) (by omega)]) (g3 _ (by omega) (by omega)) (r4' _ (by decide) (by decide)) (r3' _ (by decide) (by decide)), ZS_congr hz (fun p hp => ?_)⟩, fun q hq => g3 q (by omega) (by omega), fun q hq => r4' q (by omega) (by omega)⟩
    · rcases Nat.lt_or_ge k f with z | z
      · rw [r5 k z, g4 k z, put_ne (by decide)]; exact t3 k z
      · obtain ⟨j, rfl⟩ : ∃ j, k = f + j := ⟨k - f, by omega⟩
        rw [r6 j (by omega), g5 j (by omega)]
        refine ⟨_, bb_lt, rfl, ?_⟩
        congr 1
        unfold wd
        dsimp only
        by_cases z1 : j < 4
        · rw [if_neg (by omega), if_neg (by omega), if_neg (by omega), if_neg (by omega), if_pos (by omega), if_pos z1]; congr 1; omega
        · rw [if_neg z1]
          by_cases z2 : j < 8
          · rw [if_neg (by omega), if_neg (by omega), if_neg (by omega), if_pos (by omega), if_pos z2]; congr 1; omega
          · rw [if_neg z2]
            by_cases z3 : j < 12
            · rw [if_neg (by omega), if_neg (by omega), if_pos (by omega), if_pos z3]; congr 1; omega
            · rw [if_neg z3]
              by_cases z4 : j < 16
              · rw [if_neg (by omega), if_pos (by omega), if_pos z4]; congr 1; omega
              · rw [if_pos (by omega), if_neg z4]; congr 1; omega
    · rw [g2 8 (by decide), r3' 9 (by decide) (by decide)]; exact t4
    · rw [g2 9 (by decide), r3' 22 (by decide) (by decide)]; exact t5
    · have := st_lt p hp
      rw [g3 (p + 5) (by omega) (by omega), g3 (p + 9) (by omega) (by omega)]
      exact ⟨rfl, rfl⟩
