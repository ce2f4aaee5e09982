/-! the class's rows: rings -/
theorem modr {n o k : Nat} (ho : o < n) (hk : k < n) : (o + k) % n = if o + k < n then o + k else o + k - n := by
  by_cases h : o + k < n
  · rw [if_pos h, Nat.mod_eq_of_lt h]
  · rw [if_neg h, Nat.mod_eq_sub_mod (by omega), Nat.mod_eq_of_lt (by omega)]
theorem modn {n o : Nat} (ho : o < n) : (o + n) % n = o := by rw [Nat.add_mod_right, Nat.mod_eq_of_lt ho]
theorem mod_ne {n o k c : Nat} (ho : o < n) (hk : k < c) (hc : c < n) : (o + k) % n ≠ (o + c) % n := by
  rw [modr ho (by omega), modr ho hc]
  split <;> split <;> omega
theorem mod_sh {n o k : Nat} (ho : o < n) (hk : k + 1 < n) : ((o + 1) % n + k) % n = (o + (k + 1)) % n := by
  have h1 : (o + 1) % n < n := Nat.mod_lt _ (by omega)
  rw [modr h1 (by omega), modr ho hk, modr ho (by omega)]
  split <;> split <;> split <;> omega
theorem mod_last {n o : Nat} (hn : 1 < n) (ho : o < n) : ((o + 1) % n + (n - 1)) % n = o := by
  have h1 : (o + 1) % n < n := Nat.mod_lt _ (by omega)
  rw [modr h1 (by omega), modr ho hn]
  split <;> split <;> omega
theorem mod_lt {n a : Nat} (h : 0 < n) : a % n < n := Nat.mod_lt _ h
theorem C_putAt {M : Mem} {a k : Nat} {v : Int32} (hk : k < zn a) (hz : zn a < 2 ^ 31) : f_G_putAt a (nI k) v M = some (put M a k v) := by
  unfold f_G_putAt
  rw [if_neg (nI_pos (by omega)), if_pos (nI_lt hk hz), grd_of (inB_nI hk hz), nI_clamp (by omega), nm_eq]
theorem C_valueAt {M : Mem} {a k : Nat} (hk : k < zn a) (hz : zn a < 2 ^ 31) : f_G_valueAt a (nI k) M = some (M a k, M) := by
  unfold f_G_valueAt
  rw [if_neg (nI_pos (by omega)), if_pos (nI_lt hk hz), grd_of (inB_nI hk hz), nI_clamp (by omega)]
theorem irm8 {a : Nat} (h : a < 2 ^ 31) : irm (nI a) (8 : Int32) = nI (a % 8) := irm_nI (d := 8) h (by omega) (by omega)
/-! the gust buffer -/
theorem C_Badd {M : Mem} {g : Row} {w : Int32} (W : Wb g) (h : BR (M 13) (M 14) g) : ∃ κ a : Row, f_B_add 13 w M = some (setR (setR M 14 a) 13 κ) ∧ BR κ a (s_buf w g) := by
  obtain ⟨o, ho, h1, h2, hv⟩ := h
  obtain ⟨c, hc, h16, -⟩ := W
  rw [h16] at h2 hv
  rw [cn_nI (by omega)] at hv
  have hm := mod_lt (n := 8) (a := o + c) (by omega)
  unfold f_B_add
  rw [h1, h2, nI_add, irm8 (by omega), show (13 + 1 : Nat) = 14 from rfl, C_putAt (a := 14) (by show _ < 8; exact hm) (by decide), bndM_s, put_ne (by decide), h2]
  rcases Nat.lt_or_ge c 8 with q | q
  · rw [if_pos (by show nI c < nI 8; exact nI_lt q (by omega)), nm_eq, nI_1]
    refine ⟨_, _, rfl, o, ho, ?_, ?_, fun k hk => ?_⟩
    · rw [put_ne (by decide), upd_at, if_neg (by decide)]; exact h1
    · rw [put_ne (by decide), upd_at, if_pos rfl, s_buf_small q h16, if_pos rfl]
    · rw [s_buf_small q h16, if_pos rfl, cn_nI (by omega)] at hk
      rw [s_buf_small q h16, if_neg (by omega), upd_at]
      by_cases e : k = c
      · subst e; rw [if_pos rfl, if_pos rfl]
      · rw [if_neg (mod_ne ho (by omega) q), if_neg (by omega)]; exact hv k (by omega)
  · obtain rfl : c = 8 := by omega
    have e8 : g 16 = 8 := h16
    rw [if_neg (by decide), nm_eq, h1, nI_1, irm8 (by omega)]
    refine ⟨_, _, rfl, (o + 1) % 8, mod_lt (by omega), ?_, ?_, fun k hk => ?_⟩
    · rw [put_ne (by decide), upd_at, if_pos rfl]
    · rw [put_ne (by decide), upd_at, if_neg (by decide), s_buf_full e8, if_pos rfl]; exact h2
    · rw [s_buf_full e8, if_pos rfl, cn_nI (by omega)] at hk
      rw [s_buf_full e8, if_neg (by omega), upd_at, modn ho]
      by_cases e : k = 7
      · subst e; rw [if_pos (mod_last (n := 8) (by omega) ho), if_pos rfl]
      · rw [mod_sh ho (by omega), if_neg (by rw [modr ho (by omega)]; split <;> omega), if_neg (by omega), if_pos (by omega), show 37 + k + 1 = 37 + (k + 1) from by omega]
        exact hv (k + 1) (by omega)
theorem C_Bat {M : Mem} {o k : Nat} (ho : o < 8) (hk : k < 8) (h1 : M 13 1 = nI o) : f_B_at 13 (nI k) M = some (M 14 ((o + k) % 8), M) := by
  have hm := mod_lt (n := 8) (a := o + k) (by omega)
  unfold f_B_at
  rw [h1, nI_add, irm8 (by omega), show (13 + 1 : Nat) = 14 from rfl, C_valueAt (a := 14) (by show _ < 8; exact hm) (by decide), bnd_s]
theorem lpC_great {N0 rr : Nat} {M : Mem} {o c : Nat} {f : Nat → Int32} (ho : o < 8) (hc : c ≤ 8) (h1 : M 13 1 = nI o) (h2 : M 13 2 = nI c) (hf : ∀ k, k < c → M 14 ((o + k) % 8) = f k) (k4 : Int32 × Int32 → Mem → Option (Int32 × Mem)) : ∀ (d i N : Nat), i + d = c → d < N → lp_B_greatest_4 N0 rr 13 N (mx f i, nI i) M k4 = k4 (mx f c, nI c) M := by
  intro d
  induction d with
  | zero =>
    intro i N hi hN
    obtain ⟨N, rfl⟩ : ∃ n, N = n + 1 := ⟨N - 1, by omega⟩
    obtain rfl : i = c := by omega
    unfold lp_B_greatest_4
    dsimp only
    rw [h2, if_neg (nI_nlt (Nat.le_refl _) (by omega))]
  | succ d ih =>
    intro i N hi hN
    obtain ⟨N, rfl⟩ : ∃ n, N = n + 1 := ⟨N - 1, by omega⟩
    unfold lp_B_greatest_4
    dsimp only
    rw [h2, if_pos (nI_lt (by omega) (by omega)), C_Bat ho (by omega) h1, bnd_s, nm_eq, nm_eq, nI_1, hf i (by omega)]
    exact ih (i + 1) N (by omega) (by omega)
theorem C_great {N rr : Nat} {M : Mem} {g : Row} (hN : 8 < N) (W : Wb g) (h : BR (M 13) (M 14) g) : f_B_greatest N rr 13 M = some (s_great g, M) := by
  obtain ⟨o, ho, h1, h2, hv⟩ := h
  obtain ⟨c, hc, h16, -⟩ := W
  rw [h16] at h2 hv
  rw [cn_nI (by omega)] at hv
  unfold f_B_greatest s_great
  rw [h16, cn_nI (by omega), show (((0 : Int32), (0 : Int32)) : Int32 × Int32) = (mx (fun k => g (37 + k)) 0, nI 0) from rfl, lpC_great ho hc h1 h2 hv _ c 0 N (by omega) (by omega)]
/-! samples -/
def LRg (n c : Nat) (T H G : Nat → Int32) (s ta ha ga : Row) : Prop := ∃ o, o < n ∧ s 0 = nI n ∧ s 4 = nI o ∧ s 5 = nI c ∧ ∀ k, k < c → ta ((o + k) % n) = T k ∧ ha ((o + k) % n) = H k ∧ ga ((o + k) % n) = G k
theorem LR_g {n a i c : Nat} {s ta ha ga g : Row} (hc : c < 2 ^ 31) (h : g i = nI c) : LR n a i s ta ha ga g ↔ LRg n c (fun k => g (a + 3 * k)) (fun k => g (a + 3 * k + 1)) (fun k => g (a + 3 * k + 2)) s ta ha ga := by
  unfold LR LRg
  rw [h, cn_nI hc]
theorem LRg_congr {n c : Nat} {T H G T' H' G' : Nat → Int32} {s ta ha ga : Row} (h : LRg n c T H G s ta ha ga) (e : ∀ k, k < c → T k = T' k ∧ H k = H' k ∧ G k = G' k) : LRg n c T' H' G' s ta ha ga := by
  obtain ⟨o, ho, h0, h4, h5, hv⟩ := h
  refine ⟨o, ho, h0, h4, h5, fun k hk => ?_⟩
  obtain ⟨e1, e2, e3⟩ := e k hk
  rw [← e1, ← e2, ← e3]
  exact hv k hk
section SAMP
variable {M : Mem} {p n c : Nat} {T H G : Nat → Int32} {t x v : Int32}
theorem C_place {o k : Nat} (hn : 1 ≤ n) (hn2 : n ≤ 90) (hk : o + k < 2 ^ 30) (h0 : M p 0 = nI n) (h4 : M p 4 = nI o) : f_S_placeOf p (nI k) M = some (nI ((o + k) % n), M) := by
  unfold f_S_placeOf
  rw [h0, if_pos (by rw [← nI_0]; exact nI_lt (by omega) (by omega)), grd_of (nzB_nI (by omega) (by omega)), h4, nI_add, irm_nI (by omega) (by omega) (by omega)]
theorem C_Sadd1 (hn : 1 < n) (hn2 : n ≤ 90) (hc : c < n) (hz : zn (p + 1) = n ∧ zn (p + 2) = n ∧ zn (p + 3) = n) (h : LRg n c T H G (M p) (M (p + 1)) (M (p + 2)) (M (p + 3))) : ∃ s ta ha ga : Row, f_S_add p t x v M = some (setR (setR (setR (setR M (p + 1) ta) (p + 2) ha) (p + 3) ga) p s) ∧ s 6 = M p 6 ∧ LRg n (c + 1) (upd T c t) (upd H c x) (upd G c v) s ta ha ga := by
  obtain ⟨o, ho, h0, h4, h5, hv⟩ := h
  obtain ⟨z1, z2, z3⟩ := hz
  have hm := mod_lt (n := n) (a := o + c) (by omega)
  unfold f_S_add
  rw [h5, C_place (by omega) hn2 (by omega) h0 h4, bnd_s, C_putAt (by omega) (by omega), bndM_s, C_putAt (by omega) (by omega), bndM_s, C_putAt (by omega) (by omega), bndM_s]
  have e : ∀ k, (put (put (put M (p + 1) ((o + c) % n) t) (p + 2) ((o + c) % n) x) (p + 3) ((o + c) % n) v) p k = M p k := fun k => by
    rw [put_ne (by omega), put_ne (by omega), put_ne (by omega)]
  rw [e, e, h5, h0, if_pos (nI_lt hc (by omega)), nm_eq, nI_1]
  refine ⟨upd (M p) 5 (nI (c + 1)), upd (M (p + 1)) ((o + c) % n) t, upd (M (p + 2)) ((o + c) % n) x, upd (M (p + 3)) ((o + c) % n) v, ?_, rfl, o, ho, h0, h4, rfl, fun k hk => ?_⟩
  · rw [put_setR, put_setR (p := p + 3), put_setR (p := p + 2), put_setR (p := p + 1)]
    simp only [setR_at]
    rw [if_neg (by omega), if_neg (by omega), if_neg (by omega), if_neg (by omega), if_neg (by omega), if_neg (by omega)]
  · rw [upd_at, upd_at, upd_at, upd_at, upd_at, upd_at]
    by_cases e : k = c
    · subst e
      rw [if_pos rfl, if_pos rfl, if_pos rfl, if_pos rfl, if_pos rfl, if_pos rfl]
      exact ⟨rfl, rfl, rfl⟩
    · have := mod_ne ho (show k < c by omega) hc
      rw [if_neg this, if_neg this, if_neg this, if_neg e, if_neg e, if_neg e]
      exact hv k (by omega)
theorem C_Sadd2 (hn : 1 < n) (hn2 : n ≤ 90) (hz : zn (p + 1) = n ∧ zn (p + 2) = n ∧ zn (p + 3) = n) (h : LRg n n T H G (M p) (M (p + 1)) (M (p + 2)) (M (p + 3))) : ∃ s ta ha ga : Row, f_S_add p t x v M = some (setR (setR (setR (setR M (p + 1) ta) (p + 2) ha) (p + 3) ga) p s) ∧ s 6 = M p 6 + 1 ∧ LRg n n (fun k => if k = n - 1 then t else T (k + 1)) (fun k => if k = n - 1 then x else H (k + 1)) (fun k => if k = n - 1 then v else G (k + 1)) s ta ha ga := by
  obtain ⟨o, ho, h0, h4, h5, hv⟩ := h
  obtain ⟨z1, z2, z3⟩ := hz
  unfold f_S_add
  rw [h5, C_place (by omega) hn2 (by omega) h0 h4, bnd_s, modn ho, C_putAt (by omega) (by omega), bndM_s, C_putAt (by omega) (by omega), bndM_s, C_putAt (by omega) (by omega), bndM_s]
  have e : ∀ k, (put (put (put M (p + 1) o t) (p + 2) o x) (p + 3) o v) p k = M p k := fun k => by
    rw [put_ne (by omega), put_ne (by omega), put_ne (by omega)]
  rw [e, e, h5, h0, if_neg (nI_nlt (Nat.le_refl _) (by omega))]
  rw [show (1 : Int32) = nI 1 from rfl, C_place (n := n) (o := o) (by omega) hn2 (by omega) (by rw [e]; exact h0) (by rw [e]; exact h4), bnd_s, nm_eq, nm_eq]
  refine ⟨upd (upd (M p) 4 (nI ((o + 1) % n))) 6 (M p 6 + 1), upd (M (p + 1)) o t, upd (M (p + 2)) o x, upd (M (p + 3)) o v, ?_, rfl, (o + 1) % n, mod_lt (by omega), h0, rfl, h5, fun k hk => ?_⟩
  · rw [put_setR (k := 6), put_setR (k := 4), setR_setR, setR_self, upd_at, if_neg (by decide), e]
    rw [put_setR (p := p + 3), put_setR (p := p + 2), put_setR (p := p + 1)]
    simp only [setR_at]
    rw [if_neg (by omega), if_neg (by omega), if_neg (by omega), if_neg (by omega), if_neg (by omega), if_neg (by omega)]
    rfl
  · rw [upd_at, upd_at, upd_at]
    by_cases e : k = n - 1
    · subst e
      have := mod_last hn ho
      rw [if_pos this, if_pos this, if_pos this]
      dsimp only
      rw [if_pos rfl, if_pos rfl, if_pos rfl]
      exact ⟨rfl, rfl, rfl⟩
    · have h1 := mod_sh ho (show k + 1 < n by omega)
      have : ((o + 1) % n + k) % n ≠ o := by
        rw [h1, modr ho (by omega)]
        split <;> omega
      rw [if_neg this, if_neg this, if_neg this]
      dsimp only
      rw [if_neg e, if_neg e, if_neg e, h1]
      exact hv (k + 1) (by omega)
theorem C_tickAt {k : Nat} (hn : 1 ≤ n) (hn2 : n ≤ 90) (hc : c ≤ n) (hk : k < c) (hz : zn (p + 1) = n ∧ zn (p + 2) = n ∧ zn (p + 3) = n) (h : LRg n c T H G (M p) (M (p + 1)) (M (p + 2)) (M (p + 3))) : f_S_tickAt p (nI k) M = some (T k, M) ∧ f_S_heightAt p (nI k) M = some (H k, M) ∧ f_S_gustAt p (nI k) M = some (G k, M) := by
  obtain ⟨o, ho, h0, h4, h5, hv⟩ := h
  obtain ⟨z1, z2, z3⟩ := hz
  obtain ⟨v1, v2, v3⟩ := hv k hk
  have hm := mod_lt (n := n) (a := o + k) (by omega)
  unfold f_S_tickAt f_S_heightAt f_S_gustAt
  rw [C_place hn hn2 (by omega) h0 h4, bnd_s, C_valueAt (by omega) (by omega), bnd_s, bnd_s, C_valueAt (by omega) (by omega), bnd_s, bnd_s, C_valueAt (by omega) (by omega), bnd_s, v1, v2, v3]
  exact ⟨rfl, rfl, rfl⟩
end SAMP
