/-! the station's text goes into the reader -/
def bb (a : Int32) (j : Nat) : Nat := a.toBitVec.toNat / 2 ^ (24 - 8 * j) % 256
theorem and255 (x : Int32) : x &&& 255 = nI (x.toBitVec.toNat % 256) := pk_and x 8 rfl
theorem toInt8_mod {z : Int32} : z.toInt8.toInt32 &&& 255 = nI (z.toBitVec.toNat % 256) := by
  have h : z.toInt8 = (nI (z.toBitVec.toNat % 256)).toInt8 := by
    apply Int8.toBitVec_inj.mp
    rw [Int32.toBitVec_toInt8, Int32.toBitVec_toInt8]
    apply BitVec.eq_of_toNat_eq
    rw [BitVec.signExtend_eq_setWidth_of_le _ (by omega), BitVec.signExtend_eq_setWidth_of_le _ (by omega), BitVec.toNat_setWidth, BitVec.toNat_setWidth, pk_tn (by omega)]
    omega
  rw [h]
  exact sc_k8 _ (by omega)
theorem ush_bb {a : Int32} {j : Nat} (hj : j < 4) : (((a.toUInt32 >>> ((nI (24 - 8 * j)).toUInt32 &&& Int32.toUInt32 31)).toInt32).toInt8.toInt32) &&& 255 = nI (bb a j) := by
  have hh : j = 0 ∨ j = 1 ∨ j = 2 ∨ j = 3 := by omega
  rw [toInt8_mod, pk_ushr a (nI (24 - 8 * j)) (24 - 8 * j) (by rcases hh with rfl | rfl | rfl | rfl <;> decide)]
  rfl
theorem bb_lt {a : Int32} {j : Nat} : bb a j < 256 := Nat.mod_lt _ (by omega)
/-- what four bytes more leave -/
def F4 (M M' : Mem) (f m : Nat) (w : Nat → Nat) : Prop := M' 1 1 = nI (f + m) ∧ (∀ k, k ≠ 1 → M' 1 k = M 1 k) ∧ (∀ q, q ≠ 1 → q ≠ 2 → M' q = M q) ∧ (∀ k, k < f → M' 2 k = M 2 k) ∧ ∀ j, j < m → M' 2 (f + j) &&& 255 = nI (w j)
theorem F4.step {M M' : Mem} {f m x : Nat} {w : Nat → Nat} {b : Int32} (h : F4 M M' f m w) (hb : b &&& 255 = nI x) : F4 M (put (put M' 2 (f + m) b) 1 1 (nI (f + m + 1))) f (m + 1) (fun j => if j = m then x else w j) := by
  obtain ⟨h1, h2, h3, h4, h5⟩ := h
  refine ⟨by rw [put_row, upd_at, if_pos rfl]; rfl, fun k hk => by rw [put_row, upd_at, if_neg hk, put_ne (by decide)]; exact h2 k hk, fun q a b => by rw [put_ne a, put_ne b]; exact h3 q a b, fun k hk => by rw [put_ne (by decide), put_row, upd_at, if_neg (by omega)]; exact h4 k hk, fun j hj => ?_⟩
  rw [put_ne (by decide), put_row, upd_at]
  dsimp only
  by_cases e : j = m
  · rw [if_pos (by omega), if_pos e]; exact hb
  · rw [if_neg (by omega), if_neg e]; exact h5 j (by omega)
theorem lpC_four {N0 rr N f m : Nat} {a : Int32} {M M' : Mem} {w : Nat → Nat} {k : Int32 → Mem → Option Mem} {s : Nat} (h : F4 M M' f m w) (hf : f + m < 500) (hs : s ≤ 24) : lp_X_appendFour_3 N0 rr a (N + 1) (nI s) M' k = lp_X_appendFour_3 N0 rr a N (nI s + (-8 : Int32)) (put (put M' 2 (f + m) (((a.toUInt32 >>> ((nI s).toUInt32 &&& Int32.toUInt32 31)).toInt32).toInt8.toInt32)) 1 1 (nI (f + m + 1))) k := by
  conv => lhs; unfold lp_X_appendFour_3
  have a1 : (put M' 2 (f + m) (((a.toUInt32 >>> ((nI s).toUInt32 &&& Int32.toUInt32 31)).toInt32).toInt8.toInt32)) 1 1 = nI (f + m) := by rw [put_ne (by decide)]; exact h.1
  rw [if_neg (nI_pos (by omega)), h.1, if_neg (nI_pos (by omega)), if_pos (by show nI (f + m) < nI 500; exact nI_lt (by omega) (by omega)), grd_of (inB_nI (by omega) (by omega)), nI_clamp (by omega), pk_vb, nm_eq, nm_eq, a1, nI_1, nm_eq]
theorem C_four {N rr f m : Nat} {a : Int32} {M M' : Mem} {w : Nat → Nat} (hN : 6 < N) (h : F4 M M' f m w) (hf : f + m + 4 ≤ 500) : ∃ M'', f_X_appendFour N rr a M' = some M'' ∧ F4 M M'' f (m + 4) (fun j => if m ≤ j then bb a (j - m) else w j) := by
  obtain ⟨N', rfl⟩ : ∃ n, N = n + 5 := ⟨N - 5, by omega⟩
  unfold f_X_appendFour
  have s1 := h.step (b := ((a.toUInt32 >>> ((nI 24).toUInt32 &&& Int32.toUInt32 31)).toInt32).toInt8.toInt32) (ush_bb (a := a) (j := 0) (by omega))
  have s2 := s1.step (b := ((a.toUInt32 >>> ((nI 16).toUInt32 &&& Int32.toUInt32 31)).toInt32).toInt8.toInt32) (ush_bb (a := a) (j := 1) (by omega))
  have s3 := s2.step (b := ((a.toUInt32 >>> ((nI 8).toUInt32 &&& Int32.toUInt32 31)).toInt32).toInt8.toInt32) (ush_bb (a := a) (j := 2) (by omega))
  have s4 := s3.step (b := ((a.toUInt32 >>> ((nI 0).toUInt32 &&& Int32.toUInt32 31)).toInt32).toInt8.toInt32) (ush_bb (a := a) (j := 3) (by omega))
  have key : ∀ (M'' : Mem) (w4 : Nat → Nat), F4 M M'' f (m + 1 + 1 + 1 + 1) w4 → (∀ j, j < m + 4 → w4 j = if m ≤ j then bb a (j - m) else w j) → F4 M M'' f (m + 4) (fun j => if m ≤ j then bb a (j - m) else w j) := fun M'' w4 ⟨q1, q2, q3, q4, q5⟩ hw => ⟨q1, q2, q3, q4, fun j hj => by rw [q5 j (by omega), hw j hj]⟩
  refine ⟨_, ?_, key _ _ s4 (fun j hj => ?_)⟩
  · rw [show (24 : Int32) = nI 24 from rfl, lpC_four h (by omega) (by omega), show nI 24 + (-8 : Int32) = nI 16 from by decide, lpC_four s1 (by omega) (by omega), show nI 16 + (-8 : Int32) = nI 8 from by decide, lpC_four s2 (by omega) (by omega), show nI 8 + (-8 : Int32) = nI 0 from by decide, lpC_four s3 (by omega) (by omega)]
    unfold lp_X_appendFour_3
    rw [if_pos (by decide)]
  · by_cases e : m ≤ j
    · rw [if_pos e]
      by_cases e3 : j = m + 1 + 1 + 1
      · rw [if_pos e3, show j - m = 3 from by omega]
      · rw [if_neg e3]
        by_cases e2 : j = m + 1 + 1
        · rw [if_pos e2, show j - m = 2 from by omega]
        · rw [if_neg e2]
          by_cases e1 : j = m + 1
          · rw [if_pos e1, show j - m = 1 from by omega]
          · rw [if_neg e1, if_pos (show j = m by omega), show j - m = 0 from by omega]
    · rw [if_neg e, if_neg (by omega), if_neg (by omega), if_neg (by omega), if_neg (by omega)]
def wd (a b c d e : Int32) (j : Nat) : Int32 := if j < 4 then a else if j < 8 then b else if j < 12 then c else if j < 16 then d else e
theorem C_app {N rr f : Nat} {a b c d e : Int32} {M : Mem} (hN : 30 < N) (h1 : M 1 1 = nI f) (hf : f + 20 ≤ 500) : ∃ M5, f_G_appendText N rr a b c d e M = some (nI (f + 20), M5) ∧ F4 M M5 f 20 (fun j => bb (wd a b c d e j) (j % 4)) := by
  have s0 : F4 M M f 0 (fun _ => 0) := ⟨h1, fun _ _ => rfl, fun _ _ _ => rfl, fun _ _ => rfl, fun j hj => by omega⟩
  obtain ⟨M1, e1, s1⟩ := C_four (N := N) (rr := rr) (a := a) (by omega) s0 (by omega)
  obtain ⟨M2, e2, s2⟩ := C_four (N := N) (rr := rr) (a := b) (by omega) s1 (by omega)
  obtain ⟨M3, e3, s3⟩ := C_four (N := N) (rr := rr) (a := c) (by omega) s2 (by omega)
  obtain ⟨M4, e4, s4⟩ := C_four (N := N) (rr := rr) (a := d) (by omega) s3 (by omega)
  obtain ⟨M5, e5, s5⟩ := C_four (N := N) (rr := rr) (a := e) (by omega) s4 (by omega)
  have hr : f_X_hasRoomFor (20 : Int32) M = some (true, M) := by
    unfold f_X_hasRoomFor
    rw [h1, show nI f + (20 : Int32) = nI (f + 20) from nI_add f 20, if_pos (show nI (f + 20) ≤ 500 from nI_le (b := 500) hf (by omega))]
  refine ⟨M5, ?_, s5.1, s5.2.1, s5.2.2.1, s5.2.2.2.1, fun j hj => ?_⟩
  · unfold f_G_appendText
    rw [hr, bnd_s, if_pos rfl, e1, bndM_s, e2, bndM_s, e3, bndM_s, e4, bndM_s, e5, bndM_s, s5.1]
  · rw [s5.2.2.2.2 j hj]
    dsimp only
    unfold wd
    have c : j < 4 ∨ (4 ≤ j ∧ j < 8) ∨ (8 ≤ j ∧ j < 12) ∨ (12 ≤ j ∧ j < 16) ∨ (16 ≤ j ∧ j < 20) := by omega
    rcases c with q | q | q | q | q
    · rw [if_neg (by omega), if_neg (by omega), if_neg (by omega), if_neg (by omega), if_pos (by omega), if_pos (by omega), show j - 0 = j % 4 from by omega]
    · rw [if_neg (by omega), if_neg (by omega), if_neg (by omega), if_pos (by omega), if_neg (by omega), if_pos (by omega), show j - (0 + 4) = j % 4 from by omega]
    · rw [if_neg (by omega), if_neg (by omega), if_pos (by omega), if_neg (by omega), if_neg (by omega), if_pos (by omega), show j - (0 + 4 + 4) = j % 4 from by omega]
    · rw [if_neg (by omega), if_pos (by omega), if_neg (by omega), if_neg (by omega), if_neg (by omega), if_pos (by omega), show j - (0 + 4 + 4 + 4) = j % 4 from by omega]
    · rw [if_pos (by omega), if_neg (by omega), if_neg (by omega), if_neg (by omega), if_neg (by omega), show j - (0 + 4 + 4 + 4 + 4) = j % 4 from by omega]
theorem or_mod (X Y s : Nat) : (X ||| Y) / 2 ^ s % 256 = (X / 2 ^ s % 256) ||| (Y / 2 ^ s % 256) := by
  apply Nat.eq_of_testBit_eq
  intro i
  rw [show (256 : Nat) = 2 ^ 8 from rfl]
  simp only [Nat.testBit_or, Nat.testBit_mod_two_pow, Nat.testBit_div_two_pow]
  cases decide (i < 8) <;> simp
theorem bb_or {x : Int32} {b e e0 : Nat} (he : e < 4) (h0 : e0 < 4) (hb : b < 256) (hx : bb x e0 = 0) : bb (x ||| (nI b <<< (nI (24 - 8 * e0) &&& 31))) e = if e = e0 then b else bb x e := by
  have hh : e0 = 0 ∨ e0 = 1 ∨ e0 = 2 ∨ e0 = 3 := by omega
  have hk : e = 0 ∨ e = 1 ∨ e = 2 ∨ e = 3 := by omega
  have hs : ((nI (24 - 8 * e0) &&& 31).toBitVec.smod 32).toNat = 24 - 8 * e0 := by rcases hh with rfl | rfl | rfl | rfl <;> decide
  have hl : b * 2 ^ (24 - 8 * e0) < 2 ^ 32 := by rcases hh with rfl | rfl | rfl | rfl <;> simp only [Nat.reduceMul, Nat.reduceSub, Nat.reducePow] <;> omega
  rw [pk_shlN (nI (24 - 8 * e0) &&& 31) (24 - 8 * e0) hs hl]
  unfold bb at hx ⊢
  rw [Int32.toBitVec_or, BitVec.toNat_or, pk_tn hl, or_mod]
  by_cases q : e = e0
  · subst q
    rw [if_pos rfl, hx, Nat.zero_or, Nat.mul_div_cancel _ (Nat.two_pow_pos _)]
    omega
  · rw [if_neg q]
    have z : b * 2 ^ (24 - 8 * e0) / 2 ^ (24 - 8 * e) % 256 = 0 := by
      rcases hh with rfl | rfl | rfl | rfl <;> rcases hk with rfl | rfl | rfl | rfl <;> simp only [Nat.reduceMul, Nat.reduceSub, Nat.reducePow] <;> omega
    rw [z, Nat.or_zero]
/-- k bytes of the text T are told: whole twenties are with the reader, the rest stands in the law's words -/
def AD (M0 M : Mem) (T : Nat → Nat) (k : Nat) : Prop := M 145 5 = nI k ∧ M 1 1 = nI (20 * (k / 20)) ∧ (∀ j, j < 20 * (k / 20) → M 2 j &&& 255 = nI (T j)) ∧ (∀ w e, w < 5 → e < 4 → bb (M 145 w) e = if 4 * w + e < k % 20 then T (20 * (k / 20) + (4 * w + e)) else 0) ∧ (∀ q, q ≠ 1 → q ≠ 2 → q ≠ 145 → M q = M0 q) ∧ ∀ j, j ≠ 1 → M 1 j = M0 1 j
theorem lp65 {N0 rr : Nat} {a3 : Int32} {k : Int32 → Mem → Option Mem} : ∀ (m i N : Nat) (M : Mem), i + m = 5 → m < N → ∃ r : Row, lp_L_add_65 N0 rr a3 N (nI i) M k = k (nI 5) (setR M 145 r) ∧ (∀ j, i ≤ j → j < 5 → r j = 0) ∧ ∀ j, (j < i ∨ 5 ≤ j) → r j = M 145 j := by
  intro m
  induction m with
  | zero =>
    intro i N M hi hN
    obtain ⟨N, rfl⟩ : ∃ n, N = n + 1 := ⟨N - 1, by omega⟩
    obtain rfl : i = 5 := by omega
    refine ⟨M 145, ?_, fun j h1 h2 => by omega, fun _ _ => rfl⟩
    unfold lp_L_add_65
    rw [if_neg (by decide), setR_same]
  | succ m ih =>
    intro i N M hi hN
    obtain ⟨N, rfl⟩ : ∃ n, N = n + 1 := ⟨N - 1, by omega⟩
    obtain ⟨r, e, h1, h2⟩ := ih (i + 1) N (put M 145 i 0) (by omega) (by omega)
    refine ⟨r, ?_, fun j q1 q2 => ?_, fun j q => ?_⟩
    · unfold lp_L_add_65
      rw [if_pos (show nI i < 5 from nI_lt (b := 5) (by omega) (by omega)), grd_of (inB_nI (by omega) (by omega)), nm_eq, nm_eq, nI_clamp (by omega), nI_1, e, put_setR, setR_setR]
    · by_cases c : j = i
      · subst c
        rw [h2 j (by omega), put_row, upd_at, if_pos rfl]
      · exact h1 j (by omega) q2
    · rw [h2 j (by omega), put_row, upd_at, if_neg (by omega)]
theorem AD.step {N rr k : Nat} {M0 M : Mem} {T : Nat → Nat} (hN : 30 < N) (h : AD M0 M T k) (hk : k < 480) (hT : ∀ j, T j < 256) : ∃ M', f_L_add N rr (nI (T k)) M = some M' ∧ AD M0 M' T (k + 1) := by
  obtain ⟨h1, h2, h3, h4, h5, h6⟩ := h
  have m20 : irm (nI k) (20 : Int32) = nI (k % 20) := irm_nI (d := 20) (by omega) (by omega) (by omega)
  have m4 : irm (nI k) (4 : Int32) = nI (k % 4) := irm_nI (d := 4) (by omega) (by omega) (by omega)
  have dv : nI (k % 20) / (4 : Int32) = nI (k % 20 / 4) := pk_div (d := 4) (by omega) (by omega) (by omega)
  have e8 : (24 : Int32) - (8 : Int32) * nI (k % 4) = nI (24 - 8 * (k % 4)) := by
    rw [show (8 : Int32) * nI (k % 4) = nI (8 * (k % 4)) from pk_mul 8 _]
    exact pk_sub (a := 24) (by omega)
  obtain ⟨M1, eM1⟩ : ∃ M1, M1 = put (put M 145 (k % 20 / 4) (M 145 (k % 20 / 4) ||| (nI (T k) <<< (nI (24 - 8 * (k % 4)) &&& 31)))) 145 5 (nI (k + 1)) := ⟨_, rfl⟩
  have r5 : M1 145 5 = nI (k + 1) := by rw [eM1, put_row, upd_at, if_pos rfl]
  have rw0 : ∀ w, w < 5 → M1 145 w = if w = k % 20 / 4 then M 145 w ||| (nI (T k) <<< (nI (24 - 8 * (k % 4)) &&& 31)) else M 145 w := fun w hw => by
    rw [eM1, put_row, upd_at, if_neg (by omega), put_row, upd_at]
    by_cases c : w = k % 20 / 4
    · rw [if_pos c, if_pos c, c]
    · rw [if_neg c, if_neg c]
  have ro : ∀ q, q ≠ 145 → M1 q = M q := fun q hq => by rw [eM1, put_ne hq, put_ne hq]
  have wb : ∀ w e, w < 5 → e < 4 → bb (M1 145 w) e = if 4 * w + e < k % 20 + 1 then T (20 * (k / 20) + (4 * w + e)) else 0 := fun w e hw he => by
    rw [rw0 w hw]
    by_cases c : w = k % 20 / 4
    · have z : bb (M 145 w) (k % 4) = 0 := by rw [h4 w _ hw (by omega), if_neg (by omega)]
      rw [if_pos c, bb_or he (by omega) (hT k) z]
      by_cases d : e = k % 4
      · rw [if_pos d, if_pos (by omega)]
        congr 1
        omega
      · rw [if_neg d, h4 w e hw he]
        by_cases f : 4 * w + e < k % 20
        · rw [if_pos f, if_pos (by omega)]
        · rw [if_neg f, if_neg (by omega)]
    · rw [if_neg c, h4 w e hw he]
      by_cases f : 4 * w + e < k % 20
      · rw [if_pos f, if_pos (by omega)]
      · rw [if_neg f, if_neg (by omega)]
  have up : f_L_add N rr (nI (T k)) M = if irm (M1 145 5) (20 : Int32) = 0 then (bnd (f_G_appendText N rr (M1 145 0) (M1 145 1) (M1 145 2) (M1 145 3) (M1 145 4) M1) fun (x3 : Int32) (M4 : Mem) => lp_L_add_65 N rr (nI (T k)) N (0 : Int32) M4 (fun (a8 : Int32) (M7 : Mem) => some M7)) else some M1 := by
    unfold f_L_add
    have q5 : put M 145 (k % 20 / 4) (M 145 (k % 20 / 4) ||| (nI (T k) <<< (nI (24 - 8 * (k % 4)) &&& 31))) 145 5 = nI k := by rw [put_row, upd_at, if_neg (by omega)]; exact h1
    rw [h1, m20, m4, dv, e8, grd_of (inB_nI (by omega) (by omega)), grd_of (inB_nI (by omega) (by omega)), nm_eq, nm_eq, nI_clamp (by omega), q5, nI_1, ← eM1]
  have m21 : irm (nI (k + 1)) (20 : Int32) = nI ((k + 1) % 20) := irm_nI (d := 20) (by omega) (by omega) (by omega)
  rw [up, r5, m21]
  by_cases z : (k + 1) % 20 = 0
  · rw [z, if_pos nI_0]
    obtain ⟨M5, e5, f1, f2, f3, f4, f5⟩ := C_app (N := N) (rr := rr) (f := 20 * (k / 20)) (a := M1 145 0) (b := M1 145 1) (c := M1 145 2) (d := M1 145 3) (e := M1 145 4) (M := M1) hN (by rw [ro 1 (by decide)]; exact h2) (by omega)
    obtain ⟨r, e6, g1, g2⟩ := lp65 (N0 := N) (rr := rr) (a3 := nI (T k)) (k := fun (a8 : Int32) (M7 : Mem) => some M7) 5 0 N M5 (by omega) (by omega)
    have e145 : M5 145 = M1 145 := f3 145 (by decide) (by decide)
    refine ⟨setR M5 145 r, ?_, ?_, ?_, fun j hj => ?_, fun w e hw he => ?_, fun q q1 q2 q3 => ?_, fun j hj => ?_⟩
    · rw [e5, bnd_s]; exact e6
    · rw [setR_self, g2 5 (by omega), e145, r5]
    · rw [setR_ne (by decide), f1]
      congr 1
      omega
    · rw [setR_ne (by decide)]
      by_cases c : j < 20 * (k / 20)
      · rw [f4 j c, ro 2 (by decide)]; exact h3 j c
      · obtain ⟨x, rfl⟩ : ∃ x, j = 20 * (k / 20) + x := ⟨j - 20 * (k / 20), by omega⟩
        rw [f5 x (by omega)]
        have wx : wd (M1 145 0) (M1 145 1) (M1 145 2) (M1 145 3) (M1 145 4) x = M1 145 (x / 4) := by
          unfold wd
          have cc : x < 4 ∨ (4 ≤ x ∧ x < 8) ∨ (8 ≤ x ∧ x < 12) ∨ (12 ≤ x ∧ x < 16) ∨ (16 ≤ x ∧ x < 20) := by omega
          rcases cc with q | q | q | q | q
          · rw [if_pos (by omega), show x / 4 = 0 from by omega]
          · rw [if_neg (by omega), if_pos (by omega), show x / 4 = 1 from by omega]
          · rw [if_neg (by omega), if_neg (by omega), if_pos (by omega), show x / 4 = 2 from by omega]
          · rw [if_neg (by omega), if_neg (by omega), if_neg (by omega), if_pos (by omega), show x / 4 = 3 from by omega]
          · rw [if_neg (by omega), if_neg (by omega), if_neg (by omega), if_neg (by omega), show x / 4 = 4 from by omega]
        dsimp only
        rw [wx, wb (x / 4) (x % 4) (by omega) (by omega), if_pos (by omega)]
        congr 2
        omega
    · rw [setR_self, g1 w (by omega) hw, z, if_neg (by omega)]
      have : bb (0 : Int32) e = 0 := by
        unfold bb
        show 0 / _ % 256 = 0
        rw [Nat.zero_div]
      exact this
    · rw [setR_ne q3, f3 q q1 q2, ro q q3]; exact h5 q q1 q2 q3
    · rw [setR_ne (by decide), f2 j hj, ro 1 (by decide)]; exact h6 j hj
  · rw [if_neg (nI_ne0 (by omega) (by omega))]
    have k20 : (k + 1) / 20 = k / 20 := by omega
    refine ⟨M1, rfl, r5, ?_, fun j hj => ?_, fun w e hw he => ?_, fun q q1 q2 q3 => ?_, fun j hj => ?_⟩
    · rw [ro 1 (by decide), k20]; exact h2
    · rw [k20] at hj
      rw [ro 2 (by decide)]; exact h3 j hj
    · rw [wb w e hw he, k20, show (k + 1) % 20 = k % 20 + 1 from by omega]
    · rw [ro q q3]; exact h5 q q1 q2 q3
    · rw [ro 1 (by decide)]; exact h6 j hj
theorem AD.begin {M0 : Mem} {T : Nat → Nat} (h1 : M0 145 = fun _ => 0) (h2 : M0 1 1 = 0) : AD M0 M0 T 0 := by
  refine ⟨by rw [h1]; rfl, h2, fun j hj => by omega, fun w e _ _ => ?_, fun _ _ _ _ => rfl, fun _ _ => rfl⟩
  rw [h1, if_neg (by omega)]
  unfold bb
  show 0 / _ % 256 = 0
  rw [Nat.zero_div]
/-- the law's words behind k bytes -/
def adm (N rr : Nat) (T : Nat → Nat) (M0 : Mem) : Nat → Mem
  | 0 => M0
  | k + 1 => (f_L_add N rr (nI (T k)) (adm N rr T M0 k)).getD M0
theorem adm_AD {N rr : Nat} {T : Nat → Nat} {M0 : Mem} (hN : 30 < N) (hT : ∀ j, T j < 256) (h0 : AD M0 M0 T 0) : ∀ k, k ≤ 480 → AD M0 (adm N rr T M0 k) T k := by
  intro k
  induction k with
  | zero => exact fun _ => h0
  | succ k ih =>
    intro hk
    obtain ⟨M', e, h⟩ := (ih (by omega)).step (N := N) (rr := rr) hN (by omega) hT
    show AD M0 ((f_L_add N rr (nI (T k)) (adm N rr T M0 k)).getD M0) T (k + 1)
    rw [e]
    exact h
theorem adm_s {N rr : Nat} {T : Nat → Nat} {M0 : Mem} (hN : 30 < N) (hT : ∀ j, T j < 256) (h0 : AD M0 M0 T 0) {k : Nat} (hk : k < 480) : f_L_add N rr (nI (T k)) (adm N rr T M0 k) = some (adm N rr T M0 (k + 1)) := by
  obtain ⟨M', e, h⟩ := (adm_AD hN hT h0 k (by omega)).step (N := N) (rr := rr) hN hk hT
  show _ = some ((f_L_add N rr (nI (T k)) (adm N rr T M0 k)).getD M0)
  rw [e]
  rfl
theorem AD.end {N rr n : Nat} {M0 : Mem} {T : Nat → Nat} {c2 : Int32} (hN : 30 < N) (hT : ∀ j, T j < 256) (h32 : ∀ j, n ≤ j → T j = 32) (kk : Unit → Mem → Option (Int32 × Mem)) : ∀ (d k N' : Nat) (M : Mem), n ≤ k → (k + d) % 20 = 0 → k + d ≤ 480 → d < N' → (∀ x, x < d → ¬ (k + x) % 20 = 0) → AD M0 M T k → ∃ M', lp_L_end_4 N rr c2 N' () M kk = kk () M' ∧ AD M0 M' T (k + d) := by
  intro d
  induction d with
  | zero =>
    intro k N' M _ h1 h2 hN' _ h
    obtain ⟨N', rfl⟩ : ∃ n, N' = n + 1 := ⟨N' - 1, by omega⟩
    refine ⟨M, ?_, h⟩
    unfold lp_L_end_4
    rw [h.1, show irm (nI k) (20 : Int32) = nI (k % 20) from irm_nI (d := 20) (by omega) (by omega) (by omega), if_pos (by rw [show k % 20 = 0 from h1]; exact nI_0)]
  | succ d ih =>
    intro k N' M hn h1 h2 hN' hx h
    obtain ⟨N', rfl⟩ : ∃ n, N' = n + 1 := ⟨N' - 1, by omega⟩
    have hz := hx 0 (by omega)
    obtain ⟨M1, e1, g1⟩ := h.step (N := N) (rr := rr) hN (by omega) hT
    rw [h32 k hn] at e1
    obtain ⟨M2, e2, g2⟩ := ih (k + 1) N' M1 (by omega) (by rw [show k + 1 + d = k + (d + 1) from by omega]; exact h1) (by omega) (by omega) (fun x hd => by rw [show k + 1 + x = k + (x + 1) from by omega]; exact hx (x + 1) (by omega)) g1
    refine ⟨M2, ?_, by rw [show k + (d + 1) = k + 1 + d from by omega]; exact g2⟩
    unfold lp_L_end_4
    rw [h.1, show irm (nI k) (20 : Int32) = nI (k % 20) from irm_nI (d := 20) (by omega) (by omega) (by omega), if_neg (nI_ne0 (by omega) (by omega)), show f_L_add N rr (32 : Int32) M = some M1 from e1, bndM_s]
    exact e2
theorem C_end {N rr n : Nat} {M0 M : Mem} {T : Nat → Nat} (hN : 30 < N) (hT : ∀ j, T j < 256) (h32 : ∀ j, n ≤ j → T j = 32) (hn : n ≤ 460) (h : AD M0 M T n) : ∃ Me f, f_L_end N rr M = some (nI n, Me) ∧ n ≤ f ∧ f ≤ 480 ∧ Me 1 1 = nI f ∧ (∀ j, j < f → Me 2 j &&& 255 = nI (T j)) ∧ (∀ q, q ≠ 1 → q ≠ 2 → q ≠ 145 → Me q = M0 q) ∧ ∀ j, j ≠ 1 → Me 1 j = M0 1 j := by
  obtain ⟨M2, e2, g2⟩ := AD.end (N := N) (rr := rr) (c2 := nI n) hN hT h32 (fun (_ : Unit) (M4 : Mem) => nm (put M4 145 5 (0 : Int32)) fun (M6 : Mem) => some (nI n, M6)) ((20 - n % 20) % 20) n N M (Nat.le_refl _) (by omega) (by omega) (by omega) (fun x hx => by omega) h
  obtain ⟨h1, h2, h3, h4, h5, h6⟩ := g2
  have k20 : 20 * ((n + (20 - n % 20) % 20) / 20) = n + (20 - n % 20) % 20 := by omega
  rw [k20] at h2 h3
  refine ⟨put M2 145 5 0, n + (20 - n % 20) % 20, ?_, by omega, by omega, ?_, fun j hj => ?_, fun q q1 q2 q3 => ?_, fun j hj => ?_⟩
  · unfold f_L_end
    rw [nm_eq, h.1, e2, nm_eq]
  · rw [put_ne (by decide)]; exact h2
  · rw [put_ne (by decide)]; exact h3 j hj
  · rw [put_ne q3]; exact h5 q q1 q2 q3
  · rw [put_ne (by decide)]; exact h6 j hj
