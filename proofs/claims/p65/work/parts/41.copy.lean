/-! copies of stations -/
theorem C_copyRow {M : Mem} {a b n : Nat} (ha : zn a = n) (hb : zn b = n) (hn : n < 2 ^ 31) : f_G_copyRow a b M = some (setR M b (va_cpy (M a) (M b) 0 0 n)) := by
  unfold f_G_copyRow
  rw [ha, hb, imin_nI hn hn, Nat.min_self, grd_of (by show cpB (nI 0) (nI 0) (nI n) n n = true; exact cpB_nI (by omega) (by omega) hn hn), nm_eq, nI_clamp hn]
  rfl
theorem cpy_lt {f g : Row} {n k : Nat} (h : k < n) : va_cpy f g 0 0 n k = f k := by
  rw [pk_cpy_in (by omega) (by omega)]
  congr 1
  omega
theorem K_copy {M : Mem} {p a : Nat} {g : Row} (hne : a ≠ p) (h : KR (M a) g) : ∃ κ : Row, f_K_copyFrom p a M = some (setR M p κ) ∧ KR κ g := by
  obtain ⟨h0, h1, h2, h3, h4, h5, h6, h7, h8, h9, h10, h11, h12⟩ := h
  unfold f_K_copyFrom
  simp only [nm_eq, put_setR, setR_setR, setR_self, setR_at, hne, if_false]
  refine ⟨_, rfl, ?_⟩
  unfold KR
  simp [upd_at, h0, h1, h2, h3, h4, h5, h6, h7, h8, h9, h10, h11, h12]
theorem B_copy {M : Mem} {p a : Nat} {g : Row} (hd : a + 1 < p ∨ p + 1 < a) (z1 : zn (a + 1) = 8) (z2 : zn (p + 1) = 8) (h : BR (M a) (M (a + 1)) g) : ∃ κ r : Row, f_B_copyFrom p a M = some (setR (setR M (p + 1) r) p κ) ∧ BR κ r g := by
  obtain ⟨o, ho, h1, h2, hv⟩ := h
  unfold f_B_copyFrom
  rw [C_copyRow z1 z2 (by omega), bndM_s, nm_eq, nm_eq]
  have e1 : a ≠ p + 1 := by omega
  have e2 : a ≠ p := by omega
  have e3 : p ≠ p + 1 := by omega
  simp only [put_setR, setR_setR, setR_self, setR_at, e1, e2, e3, if_false]
  refine ⟨_, _, rfl, o, ho, h1, h2, fun k hk => ?_⟩
  rw [cpy_lt (mod_lt (by omega))]
  exact hv k hk
theorem S_copy {M : Mem} {p a n b i : Nat} {g : Row} (hn0 : 0 < n) (hn : n ≤ 90) (hd : a + 3 < p ∨ p + 3 < a) (z : zn (a + 1) = n ∧ zn (a + 2) = n ∧ zn (a + 3) = n) (y : zn (p + 1) = n ∧ zn (p + 2) = n ∧ zn (p + 3) = n) (hz : M p 0 = nI n) (h : LR n b i (M a) (M (a + 1)) (M (a + 2)) (M (a + 3)) g) : ∃ s ta ha ga : Row, f_S_copyFrom p a M = some (setR (setR (setR (setR M (p + 1) ta) (p + 2) ha) (p + 3) ga) p s) ∧ s 6 = M a 6 ∧ s 0 = nI n ∧ LR n b i s ta ha ga g := by
  obtain ⟨o, ho, h0, h4, h5, hv⟩ := h
  obtain ⟨z1, z2, z3⟩ := z
  obtain ⟨y1, y2, y3⟩ := y
  unfold f_S_copyFrom
  rw [C_copyRow z1 y1 (by omega), bndM_s, C_copyRow z2 y2 (by omega), bndM_s, C_copyRow z3 y3 (by omega), bndM_s, nm_eq, nm_eq, nm_eq]
  have e1 : a ≠ p + 1 := by omega
  have e2 : a ≠ p + 2 := by omega
  have e3 : a ≠ p + 3 := by omega
  have e4 : a ≠ p := by omega
  have f1 : a + 2 ≠ p + 1 := by omega
  have f2 : a + 3 ≠ p + 1 := by omega
  have f3 : a + 3 ≠ p + 2 := by omega
  have g1 : p + 2 ≠ p + 1 := by omega
  have g2 : p + 3 ≠ p + 1 := by omega
  have g3 : p + 3 ≠ p + 2 := by omega
  have g4 : p ≠ p + 1 := by omega
  have g5 : p ≠ p + 2 := by omega
  have g6 : p ≠ p + 3 := by omega
  simp only [put_setR, setR_setR, setR_self, setR_at, e1, e2, e3, e4, f1, f2, f3, g1, g2, g3, g4, g5, g6, if_false]
  refine ⟨_, _, _, _, rfl, rfl, hz, o, ho, hz, h4, h5, fun k hk => ?_⟩
  rw [cpy_lt (mod_lt hn0), cpy_lt (mod_lt hn0), cpy_lt (mod_lt hn0)]
  exact hv k hk
theorem zn_st : ∀ p ∈ stL, zn (p + 2) = 16 ∧ zn (p + 4) = 8 ∧ (zn (p + 6) = 30 ∧ zn (p + 7) = 30 ∧ zn (p + 8) = 30) ∧ zn (p + 10) = 90 ∧ zn (p + 11) = 90 ∧ zn (p + 12) = 90 := by decide +kernel
theorem st_apart : ∀ p ∈ stL, ∀ q ∈ stL, p ≠ q → (p + 13 ≤ q ∨ q + 13 ≤ p) := by decide +kernel
theorem T_copy {M : Mem} {p q : Nat} {g : Row} (hp : p ∈ stL) (hq : q ∈ stL) (hne : p ≠ q) (W5 : ∃ n, 1 ≤ n ∧ n ≤ 16 ∧ g 5 = nI n) (z1 : M (p + 5) 0 = nI 30) (z2 : M (p + 9) 0 = nI 90) (h : SR M q g) : ∃ M' : Mem, f_T_copyFrom p q M = some M' ∧ SR M' p g ∧ Fr p (p + 13) M M' ∧ (∀ k, (k = 0 ∨ k = 1 ∨ k = 3 ∨ k = 4 ∨ k = 5) → M' p k = M p k) := by
  have hd := st_apart p hp q hq hne
  obtain ⟨a1, a2, ⟨a3, a4, a5⟩, a6, a7, a8⟩ := zn_st p hp
  obtain ⟨b1, b2, ⟨b3, b4, b5⟩, b6, b7, b8⟩ := zn_st q hq
  obtain ⟨r2, r6, r7, r8, rk, rg, rb, rl, r20, ra⟩ := h
  unfold f_T_copyFrom
  obtain ⟨κ, k1, k2⟩ := K_copy (M := M) (p := p + 1) (a := q + 1) (by omega) rk
  rw [k1, bndM_s, C_copyRow b1 a1 (by omega), bndM_s, nm_eq]
  have c1 : q + 2 ≠ p + 1 := by omega
  have c2 : p + 2 ≠ p + 1 := by omega
  have c3 : q ≠ p + 1 := by omega
  have c4 : q ≠ p + 2 := by omega
  have c5 : p ≠ p + 1 := by omega
  have c6 : p ≠ p + 2 := by omega
  simp only [put_setR, setR_at, c1, c2, c3, c4, c5, c6, if_false]
  generalize hM5 : setR (setR (setR M (p + 1) κ) (p + 2) (va_cpy (M (q + 2)) (M (p + 2)) 0 0 16)) p (upd (M p) 2 (M q 2)) = M5
  have f5 : Fr p (p + 13) M M5 := by rw [← hM5]; exact ((Fr.rf.set (by omega) (by omega)).set (by omega) (by omega)).set (by omega) (by omega)
  have x5 : ∀ j, 3 ≤ j → M5 (p + j) = M (p + j) := fun j hj => by
    rw [← hM5, setR_at, if_neg (by omega), setR_at, if_neg (by omega), setR_at, if_neg (by omega)]
  have y5 : ∀ j, j < 13 → M5 (q + j) = M (q + j) := fun j hj => f5 (q + j) (by omega)
  obtain ⟨κb, rb', e1, e2⟩ := B_copy (M := M5) (p := p + 3) (a := q + 3) (by omega) b2 a2 (by rw [y5 3 (by omega)]; show BR (M (q + 3)) (M5 (q + 4)) g; rw [y5 4 (by omega)]; exact rb)
  rw [e1, bndM_s]
  generalize hM7 : setR (setR M5 (p + 3 + 1) rb') (p + 3) κb = M7
  have f7 : Fr p (p + 13) M M7 := by rw [← hM7]; exact (f5.set (by omega) (by omega)).set (by omega) (by omega)
  have x7 : ∀ j, 5 ≤ j → M7 (p + j) = M (p + j) := fun j hj => by
    rw [← hM7, setR_at, if_neg (by omega), setR_at, if_neg (by omega)]; exact x5 j (by omega)
  have y7 : ∀ j, j < 13 → M7 (q + j) = M (q + j) := fun j hj => f7 (q + j) (by omega)
  obtain ⟨s1, t1, u1, v1, l1, l2, l3, l4⟩ := S_copy (M := M7) (p := p + 5) (a := q + 5) (n := 30) (b := 45) (i := 17) (by omega) (by omega) (by omega) ⟨b3, b4, b5⟩ ⟨a3, a4, a5⟩ (by rw [x7 5 (by omega)]; exact z1) (by
    show LR 30 45 17 (M7 (q + 5)) (M7 (q + 6)) (M7 (q + 7)) (M7 (q + 8)) g
    rw [y7 5 (by omega), y7 6 (by omega), y7 7 (by omega), y7 8 (by omega)]; exact rl)
  rw [l1, bndM_s]
  rw [y7 5 (by omega)] at l2
  generalize hM9 : setR (setR (setR (setR M7 (p + 5 + 1) t1) (p + 5 + 2) u1) (p + 5 + 3) v1) (p + 5) s1 = M9
  have f9 : Fr p (p + 13) M M9 := by rw [← hM9]; exact (((f7.set (by omega) (by omega)).set (by omega) (by omega)).set (by omega) (by omega)).set (by omega) (by omega)
  have x9 : ∀ j, 9 ≤ j → M9 (p + j) = M (p + j) := fun j hj => by
    rw [← hM9, setR_at, if_neg (by omega), setR_at, if_neg (by omega), setR_at, if_neg (by omega), setR_at, if_neg (by omega)]; exact x7 j (by omega)
  have y9 : ∀ j, j < 13 → M9 (q + j) = M (q + j) := fun j hj => f9 (q + j) (by omega)
  obtain ⟨s2, t2, u2, v2, m1, m2, m3, m4⟩ := S_copy (M := M9) (p := p + 9) (a := q + 9) (n := 90) (b := 135) (i := 18) (by omega) (by omega) (by omega) ⟨b6, b7, b8⟩ ⟨a6, a7, a8⟩ (by rw [x9 9 (by omega)]; exact z2) (by
    show LR 90 135 18 (M9 (q + 9)) (M9 (q + 10)) (M9 (q + 11)) (M9 (q + 12)) g
    rw [y9 9 (by omega), y9 10 (by omega), y9 11 (by omega), y9 12 (by omega)]; exact ra)
  rw [m1, bndM_s, nm_eq, nm_eq, nm_eq]
  generalize hM11 : setR (setR (setR (setR M9 (p + 9 + 1) t2) (p + 9 + 2) u2) (p + 9 + 3) v2) (p + 9) s2 = M11
  have f11 : Fr p (p + 13) M M11 := by rw [← hM11]; exact (((f9.set (by omega) (by omega)).set (by omega) (by omega)).set (by omega) (by omega)).set (by omega) (by omega)
  have qp : q ≠ p := fun e => hne e.symm
  simp only [put_setR, setR_setR, setR_self, setR_at, qp, if_false]
  have w : ∀ j, 0 < j → (setR M11 p (upd (upd (upd (M11 p) 6 (M11 q 6)) 7 (M11 q 7)) 8 (M11 q 8))) (p + j) = M11 (p + j) := fun j hj => by rw [setR_at, if_neg (by omega)]
  have eq11 : M11 q = M q := f11 q (by omega)
  have ep : M11 p = upd (M p) 2 (M q 2) := by
    rw [← hM11, setR_at, if_neg (by omega), setR_at, if_neg (by omega), setR_at, if_neg (by omega), setR_at, if_neg (by omega)]
    rw [← hM9, setR_at, if_neg (by omega), setR_at, if_neg (by omega), setR_at, if_neg (by omega), setR_at, if_neg (by omega)]
    rw [← hM7, setR_at, if_neg (by omega), setR_at, if_neg (by omega), ← hM5, setR_self]
  have o11 : ∀ j, j < 9 → M11 (p + j) = M9 (p + j) := fun j hj => by
    rw [← hM11, setR_at, if_neg (by omega), setR_at, if_neg (by omega), setR_at, if_neg (by omega), setR_at, if_neg (by omega)]
  have o9 : ∀ j, j < 5 → M9 (p + j) = M7 (p + j) := fun j hj => by
    rw [← hM9, setR_at, if_neg (by omega), setR_at, if_neg (by omega), setR_at, if_neg (by omega), setR_at, if_neg (by omega)]
  have o7 : ∀ j, j < 3 → M7 (p + j) = M5 (p + j) := fun j hj => by
    rw [← hM7, setR_at, if_neg (by omega), setR_at, if_neg (by omega)]
  have wv1 : M11 (p + 1) = κ := by
    rw [o11 1 (by omega), o9 1 (by omega), o7 1 (by omega), ← hM5, setR_at, if_neg (by omega), setR_at, if_neg (by omega), setR_self]
  have wv2 : M11 (p + 2) = va_cpy (M (q + 2)) (M (p + 2)) 0 0 16 := by
    rw [o11 2 (by omega), o9 2 (by omega), o7 2 (by omega), ← hM5, setR_at, if_neg (by omega), setR_self]
  have wv3 : M11 (p + 3) = κb := by rw [o11 3 (by omega), o9 3 (by omega), ← hM7, setR_self]
  have wv4 : M11 (p + 4) = rb' := by rw [o11 4 (by omega), o9 4 (by omega), ← hM7, setR_at, if_neg (by omega), setR_at, if_pos (by omega)]
  have wv5 : M11 (p + 5) = s1 := by rw [o11 5 (by omega), ← hM9, setR_self]
  have wv6 : M11 (p + 6) = t1 := by rw [o11 6 (by omega), ← hM9, setR_at, if_neg (by omega), setR_at, if_neg (by omega), setR_at, if_neg (by omega), setR_at, if_pos (by omega)]
  have wv7 : M11 (p + 7) = u1 := by rw [o11 7 (by omega), ← hM9, setR_at, if_neg (by omega), setR_at, if_neg (by omega), setR_at, if_pos (by omega)]
  have wv8 : M11 (p + 8) = v1 := by rw [o11 8 (by omega), ← hM9, setR_at, if_neg (by omega), setR_at, if_pos (by omega)]
  have wv9 : M11 (p + 9) = s2 := by rw [← hM11, setR_self]
  have wv10 : M11 (p + 10) = t2 := by rw [← hM11, setR_at, if_neg (by omega), setR_at, if_neg (by omega), setR_at, if_neg (by omega), setR_at, if_pos (by omega)]
  have wv11 : M11 (p + 11) = u2 := by rw [← hM11, setR_at, if_neg (by omega), setR_at, if_neg (by omega), setR_at, if_pos (by omega)]
  have wv12 : M11 (p + 12) = v2 := by rw [← hM11, setR_at, if_neg (by omega), setR_at, if_pos (by omega)]
  refine ⟨_, rfl, ?_, f11.set (by omega) (by omega), fun k hk => ?_⟩
  · unfold SR
    rw [w 1 (by omega), w 2 (by omega), w 3 (by omega), w 4 (by omega), w 5 (by omega), w 6 (by omega), w 7 (by omega), w 8 (by omega), w 9 (by omega), w 10 (by omega), w 11 (by omega), w 12 (by omega), setR_self, eq11, ep, wv1, wv2, wv3, wv4, wv5, wv6, wv7, wv8, wv9, wv10, wv11, wv12]
    refine ⟨r2, r6, r7, r8, k2, fun k hk => ?_, e2, l4, by rw [l2]; exact r20, m4⟩
    obtain ⟨n, n1, n2, h5⟩ := W5
    have hk2 := hk
    rw [h5, cn_nI (by omega)] at hk2
    rw [cpy_lt (by omega)]
    exact rg k hk
  · rw [setR_self, ep, upd_at, if_neg (by omega), upd_at, if_neg (by omega), upd_at, if_neg (by omega), upd_at, if_neg (by omega)]
