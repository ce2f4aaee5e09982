/-! the pure level: both readings over the reference's row. First: words of the memory, small numbers -/
abbrev Row : Type := Nat → Int32
theorem upd_at {f : Nat → Int32} {k j : Nat} {v : Int32} : upd f k v j = if j = k then v else f j := rfl
theorem put_at {M : Mem} {p k q j : Nat} {v : Int32} : put M p k v q j = if q = p then (if j = k then v else M p j) else M q j := by
  unfold put setR
  by_cases h : q = p
  · subst h; rw [if_pos rfl, if_pos rfl]; rfl
  · rw [if_neg h, if_neg h]
theorem put_row {M : Mem} {p k : Nat} {v : Int32} : put M p k v p = upd (M p) k v := setR_self
theorem put_ne {M : Mem} {p k q : Nat} {v : Int32} (h : q ≠ p) : put M p k v q = M q := setR_ne h
theorem setR_at {M : Mem} {p q : Nat} {f : Row} : setR M p f q = if q = p then f else M q := rfl
theorem setR_setR {M : Mem} {p : Nat} {f g : Row} : setR (setR M p f) p g = setR M p g := by
  funext q
  unfold setR
  by_cases h : q = p
  · rw [if_pos h, if_pos h]
  · rw [if_neg h, if_neg h, if_neg h]
theorem setR_same {M : Mem} {p : Nat} : setR M p (M p) = M := by
  funext q
  unfold setR
  by_cases h : q = p
  · rw [if_pos h, h]
  · rw [if_neg h]
theorem put_setR {M : Mem} {p k : Nat} {v : Int32} : put M p k v = setR M p (upd (M p) k v) := rfl
theorem nm_eq {α ρ : Type} {x : α} {f : α → Option ρ} : nm x f = f x := rfl
theorem jn_eq {α ρ : Type} {f : α} {h : α → Option ρ} : jn f h = h f := rfl
theorem bnd_s {α ρ : Type} {x : α} {M : Mem} {f : α → Mem → Option ρ} : bnd (some (x, M)) f = f x M := rfl
theorem bndM_s {ρ : Type} {M : Mem} {f : Mem → Option ρ} : bndM (some M) f = f M := rfl
theorem grd_of {ρ : Type} {b : Bool} {o : Option ρ} (h : b = true) : grd b o = o := if_pos h
theorem inB_nI {k n : Nat} (h : k < n) (hn : n < 2 ^ 31) : inB (nI k) n = true := by
  unfold inB
  rw [nI_clamp (by omega)]
  simp [nI_pos (n := k) (by omega), h]
theorem nzB_nI {n : Nat} (h0 : 0 < n) (h : n < 2 ^ 31) : nzB (nI n) = true := by
  unfold nzB
  simp [nI_ne0 h0 h]
theorem cpB_nI {a b c n m : Nat} (h1 : a + c ≤ n) (h2 : b + c ≤ m) (hn : n < 2 ^ 31) (hm : m < 2 ^ 31) : cpB (nI a) (nI b) (nI c) n m = true := by
  unfold cpB
  rw [nI_clamp (by omega), nI_clamp (by omega), nI_clamp (by omega)]
  simp [nI_pos (n := a) (by omega), nI_pos (n := b) (by omega), nI_pos (n := c) (by omega), h1, h2]
theorem irm_nI {a d : Nat} (ha : a < 2 ^ 31) (h0 : 0 < d) (hd : d < 2 ^ 31) : irm (nI a) (nI d) = nI (a % d) := pk_rem ha h0 hd
abbrev cn (x : Int32) : Nat := x.toNatClampNeg
theorem cn_nI {n : Nat} (h : n < 2 ^ 31) : cn (nI n) = n := nI_clamp h
theorem i32_anti {a b : Int32} (h1 : ¬ a < b) (h2 : ¬ b < a) : a = b := Int32.le_antisymm (Int32.not_lt.mp h2) (Int32.not_lt.mp h1)
theorem imax_alt {a b : Int32} : (if b < a then a else b) = imax a b := by
  unfold imax
  by_cases h1 : a < b
  · rw [if_pos h1]
    by_cases h2 : b < a
    · exact absurd h2 (Int32.not_lt.mpr (Int32.le_of_lt h1))
    · rw [if_neg h2]
  · rw [if_neg h1]
    by_cases h2 : b < a
    · rw [if_pos h2]
    · rw [if_neg h2]; exact (i32_anti h1 h2).symm
theorem imin_alt {a b : Int32} : (if a < b then a else b) = imin a b := by
  unfold imin
  by_cases h1 : a < b
  · rw [if_pos h1]
    by_cases h2 : b < a
    · exact absurd h2 (Int32.not_lt.mpr (Int32.le_of_lt h1))
    · rw [if_neg h2]
  · rw [if_neg h1]
    by_cases h2 : b < a
    · rw [if_pos h2]
    · rw [if_neg h2]; exact (i32_anti h1 h2).symm
theorem imax_nI {a b : Nat} (ha : a < 2 ^ 31) (hb : b < 2 ^ 31) : imax (nI a) (nI b) = nI (max a b) := by
  unfold imax
  by_cases h : a < b
  · rw [if_pos (nI_lt h hb), Nat.max_eq_right (by omega)]
  · rw [if_neg (nI_nlt (by omega) ha), Nat.max_eq_left (by omega)]
theorem imin_nI {a b : Nat} (ha : a < 2 ^ 31) (hb : b < 2 ^ 31) : imin (nI a) (nI b) = nI (min a b) := by
  unfold imin
  by_cases h : b < a
  · rw [if_pos (nI_lt h ha), Nat.min_eq_right (by omega)]
  · rw [if_neg (nI_nlt (by omega) hb), Nat.min_eq_left (by omega)]
/-- a difference, not below 0 -/
theorem imax0_sub {a b : Nat} (ha : a < 2 ^ 30) (hb : b < 2 ^ 30) : imax 0 (nI a - nI b) = nI (a - b) := by
  unfold imax
  by_cases h : b < a
  · rw [pk_sub (by omega), if_pos (by rw [← nI_0]; exact nI_lt (by omega) (by omega))]
  · by_cases h2 : a < b
    · rw [if_neg, show a - b = 0 from by omega, nI_0]
      exact Int32.not_lt.mpr (Int32.le_of_lt (pk_sneg hb h2))
    · rw [show a = b from by omega, pk_sub (Nat.le_refl _), Nat.sub_self, nI_0, if_neg Int32.lt_irrefl]
theorem imax0_sub' {a b : Nat} (ha : a < 2 ^ 30) (hb : b < 2 ^ 30) : imax (nI a - nI b) 0 = nI (a - b) := by
  rw [← imax0_sub ha hb]
  unfold imax
  by_cases h : nI a - nI b < 0
  · rw [if_pos h, if_neg (Int32.not_lt.mpr (Int32.le_of_lt h))]
  · rw [if_neg h]
    by_cases h2 : 0 < nI a - nI b
    · rw [if_pos h2]
    · rw [if_neg h2]; exact i32_anti h h2
theorem f_most_s {a b : Int32} {M : Mem} : f_M_most a b M = some (imax a b, M) := by
  unfold f_M_most
  rw [← imax_alt]
  by_cases h : b < a
  · rw [if_pos h, if_pos h]
  · rw [if_neg h, if_neg h]
theorem f_least_s {a b : Int32} {M : Mem} : f_M_least a b M = some (imin a b, M) := by
  unfold f_M_least
  rw [← imin_alt]
  by_cases h : a < b
  · rw [if_pos h, if_pos h]
  · rw [if_neg h, if_neg h]
/-! what the reference does to its row -/
def inc (g : Row) (k : Nat) : Row := upd g k (g k + 1)
theorem inc_at {g : Row} {k j : Nat} : inc g k j = if j = k then g k + 1 else g j := rfl
def s_gust (g : Row) (t : Int32) : Int32 := g ((21 : Int32) + irm t (g 5)).toNatClampNeg
def s_wind (g : Row) (h : Int32) : Int32 := s_gust g (g 0) + h / 100
def s_load (g : Row) (w : Int32) : Int32 := ((g 1 * w) * w) / 8
def s_snap (w : Int32) (g : Row) : Row := upd (upd (upd (upd (upd (upd g 6 2) 10 ((w * g 7) / 10)) 7 0) 8 0) 11 120) 14 (g 14 + 1)
def s_str (w : Int32) (g : Row) : Row := upd g 9 (g 9 + imax 0 (s_load g w - g 2))
def s_strain (w : Int32) (g : Row) : Row := if s_str w g 9 < s_str w g 3 then s_str w g else s_snap w (s_str w g)
def s_hgt (w : Int32) (g : Row) : Int32 := if w < 5 then imax 0 (g 7 - (6 - w)) else imin (g 7 + w) (g 8)
def s_climb (w : Int32) (g : Row) : Row := if s_hgt w g = 0 then upd (upd g 7 (s_hgt w g)) 6 0 else upd g 7 (s_hgt w g)
def s_cl (w : Int32) (g : Row) : Row := if g 6 = 1 then s_climb w g else g
def s_app (w : Int32) (g : Row) : Row := inc (upd g ((37 : Int32) + g 16).toNatClampNeg w) 16
def s_buf (w : Int32) (g : Row) : Row := if g 16 = 8 then s_app w (va_cpy (upd g 16 (g 16 - 1)) (upd g 16 (g 16 - 1)) 38 37 7) else s_app w g
/-- the greatest of n numbers -/
def mx (f : Nat → Int32) : Nat → Int32
  | 0 => 0
  | n + 1 => imax (mx f n) (f n)
def s_great (g : Row) : Int32 := mx (fun k => g (37 + k)) (cn (g 16))
def s_smp (g : Row) : Row := inc (inc (upd (upd (upd g (45 + 3 * cn (g 17)) (g 0)) (45 + 3 * cn (g 17) + 1) (g 7)) (45 + 3 * cn (g 17) + 2) (s_great g)) 17) 19
def s_drop (g : Row) : Row := va_cpy (upd (upd g 17 (g 17 - 1)) 20 (g 20 + 1)) (upd (upd g 17 (g 17 - 1)) 20 (g 20 + 1)) 48 45 87
def s_sample (g : Row) : Row := if g 17 = 30 then s_smp (s_drop g) else s_smp g
def s_try (g : Row) : Row := if g 6 = 1 then (if irm (g 12) (g 4) = 0 then s_sample g else g) else g
def s_fly (g : Row) : Row := s_try (s_cl (s_wind g (g 7)) (s_strain (s_wind g (g 7)) (s_buf (s_wind g (g 7)) (inc g 12))))
def s_tk (g : Row) : Row := if g 6 = 2 then upd g 11 (imax 0 (g 11 - 1)) else if g 6 = 1 then s_fly g else g
def s_pass (g : Row) : Row := if g 0 = 10000 then g else inc (s_tk g) 0
/-! what holds of a row -/
def Wg (g : Row) : Prop := (∃ t, t ≤ 10000 ∧ g 0 = nI t ∧ (∃ s, s ≤ t ∧ g 14 = nI s) ∧ ∃ m, m ≤ t ∧ g 19 = nI m) ∧ (∃ n, 1 ≤ n ∧ n ≤ 16 ∧ g 5 = nI n ∧ ∀ k, k < n → ∃ v, v ≤ 30 ∧ g (21 + k) = nI v) ∧ (∃ i, 1 ≤ i ∧ i ≤ 20 ∧ g 4 = nI i)
def Wk (g : Row) : Prop := (g 6 = 0 ∨ g 6 = 1 ∨ g 6 = 2) ∧ (∃ h, h ≤ 600 ∧ g 7 = nI h) ∧ (∃ t, t ≤ 600 ∧ g 8 = nI t) ∧ (∃ b, b ≤ 120 ∧ g 11 = nI b)
def Wb (g : Row) : Prop := ∃ c, c ≤ 8 ∧ g 16 = nI c ∧ ∀ k, k < c → ∃ v, v ≤ 36 ∧ g (37 + k) = nI v
/-- samples from place a on -/
def Ws (n a i : Nat) (g : Row) : Prop := ∃ c, c ≤ n ∧ g i = nI c ∧ ∀ k, k < c → (∃ t, t ≤ 9999 ∧ g (a + 3 * k) = nI t) ∧ (∃ h, h ≤ 600 ∧ g (a + 3 * k + 1) = nI h) ∧ (∃ v, v ≤ 36 ∧ g (a + 3 * k + 2) = nI v)
def WF (g : Row) : Prop := Wg g ∧ Wk g ∧ Wb g ∧ Ws 30 45 17 g ∧ Ws 90 135 18 g
/-! the class's station over a row -/
def KR (κ g : Row) : Prop := κ 0 = g 6 ∧ κ 1 = g 7 ∧ κ 2 = g 8 ∧ κ 3 = g 1 ∧ κ 4 = g 2 ∧ κ 5 = g 3 ∧ κ 6 = g 9 ∧ κ 7 = g 10 ∧ (κ 8 = if g 6 = 2 then g 11 else 0) ∧ (κ 9 = if g 6 = 1 then g 12 else 0) ∧ κ 10 = g 13 ∧ κ 11 = g 14 ∧ κ 12 = g 15
def BR (κ a g : Row) : Prop := ∃ o, o < 8 ∧ κ 1 = nI o ∧ κ 2 = g 16 ∧ ∀ k, k < cn (g 16) → a ((o + k) % 8) = g (37 + k)
def LR (n a i : Nat) (s ta ha ga g : Row) : Prop := ∃ o, o < n ∧ s 0 = nI n ∧ s 4 = nI o ∧ s 5 = g i ∧ ∀ k, k < cn (g i) → ta ((o + k) % n) = g (a + 3 * k) ∧ ha ((o + k) % n) = g (a + 3 * k + 1) ∧ ga ((o + k) % n) = g (a + 3 * k + 2)
def SR (M : Mem) (p : Nat) (g : Row) : Prop := M p 2 = g 5 ∧ M p 6 = g 4 ∧ M p 7 = g 0 ∧ M p 8 = g 19 ∧ KR (M (p + 1)) g ∧ (∀ k, k < cn (g 5) → M (p + 2) k = g (21 + k)) ∧ BR (M (p + 3)) (M (p + 4)) g ∧ LR 30 45 17 (M (p + 5)) (M (p + 6)) (M (p + 7)) (M (p + 8)) g ∧ M (p + 5) 6 = g 20 ∧ LR 90 135 18 (M (p + 9)) (M (p + 10)) (M (p + 11)) (M (p + 12)) g
/-! the kite -/
theorem imax_comm {a b : Int32} : imax a b = imax b a := (imax_alt (a := b) (b := a)).symm ▸ rfl
theorem imax_p {x : Int32} (h : 0 < x) : imax 0 x = x := if_pos h
theorem imax_n {x : Int32} (h : ¬ 0 < x) : imax 0 x = 0 := if_neg h
set_option maxHeartbeats 4000000 in
theorem K_fly {M : Mem} {p : Nat} {g : Row} {w : Int32} (h : KR (M p) g) (hm : g 6 = 1) : ∃ κ : Row, f_K_fly p w M = some (setR M p κ) ∧ KR κ (s_cl w (s_strain w (inc g 12))) := by
  obtain ⟨h0, h1, h2, h3, h4, h5, h6, h7, h8, h9, h10, h11, h12⟩ := h
  rw [hm] at h0 h8 h9
  unfold f_K_fly f_K_loadUnder f_K_fall f_K_landOnGround
  simp only [nm_eq, bnd_s, bndM_s, put_setR, setR_setR, setR_self, upd_at, Nat.reduceEqDiff, reduceIte, Nat.reduceEqDiff, Nat.one_ne_zero, h0, h1, h2, h3, h4, h5, h6, h7, h9, h11, imax_comm (b := 0)]
  have e4 : ¬ (2 : Int32) = 1 := by decide
  have e5 : ¬ (0 : Int32) = 1 := by decide
  have e6 : ¬ (1 : Int32) = 2 := by decide
  have e7 : ¬ (0 : Int32) = 2 := by decide
  by_cases c1 : 0 < g 1 * w * w / 8 - g 2
  · have i1 := imax_p c1
    by_cases c2 : g 9 + (g 1 * w * w / 8 - g 2) < g 3
    · by_cases c3 : w < 5
      · by_cases c4 : imax 0 (g 7 - (6 - w)) = 0
        · simp only [c1, c2, c3, c4, reduceIte]
          exact ⟨_, rfl, by simp [KR, s_cl, s_strain, s_str, s_snap, s_climb, s_hgt, s_load, inc, upd_at, i1, c2, c3, c4, *]⟩
        · simp only [c1, c2, c3, c4, reduceIte]
          exact ⟨_, rfl, by simp [KR, s_cl, s_strain, s_str, s_snap, s_climb, s_hgt, s_load, inc, upd_at, i1, c2, c3, c4, *]⟩
      · by_cases c4 : imin (g 7 + w) (g 8) = 0
        · simp only [c1, c2, c3, c4, reduceIte]
          exact ⟨_, rfl, by simp [KR, s_cl, s_strain, s_str, s_snap, s_climb, s_hgt, s_load, inc, upd_at, i1, c2, c3, c4, *]⟩
        · simp only [c1, c2, c3, c4, reduceIte]
          exact ⟨_, rfl, by simp [KR, s_cl, s_strain, s_str, s_snap, s_climb, s_hgt, s_load, inc, upd_at, i1, c2, c3, c4, *]⟩
    · simp only [c1, c2, reduceIte]
      exact ⟨_, rfl, by simp [KR, s_cl, s_strain, s_str, s_snap, s_climb, s_hgt, s_load, inc, upd_at, i1, c2, *]⟩
  · have i1 := imax_n c1
    by_cases c2 : g 9 < g 3
    · by_cases c3 : w < 5
      · by_cases c4 : imax 0 (g 7 - (6 - w)) = 0
        · simp only [c1, c2, c3, c4, reduceIte]
          exact ⟨_, rfl, by simp [KR, s_cl, s_strain, s_str, s_snap, s_climb, s_hgt, s_load, inc, upd_at, i1, c2, c3, c4, *]⟩
        · simp only [c1, c2, c3, c4, reduceIte]
          exact ⟨_, rfl, by simp [KR, s_cl, s_strain, s_str, s_snap, s_climb, s_hgt, s_load, inc, upd_at, i1, c2, c3, c4, *]⟩
      · by_cases c4 : imin (g 7 + w) (g 8) = 0
        · simp only [c1, c2, c3, c4, reduceIte]
          exact ⟨_, rfl, by simp [KR, s_cl, s_strain, s_str, s_snap, s_climb, s_hgt, s_load, inc, upd_at, i1, c2, c3, c4, *]⟩
        · simp only [c1, c2, c3, c4, reduceIte]
          exact ⟨_, rfl, by simp [KR, s_cl, s_strain, s_str, s_snap, s_climb, s_hgt, s_load, inc, upd_at, i1, c2, c3, c4, *]⟩
    · simp only [c1, c2, reduceIte]
      exact ⟨_, rfl, by simp [KR, s_cl, s_strain, s_str, s_snap, s_climb, s_hgt, s_load, inc, upd_at, i1, c2, *]⟩
