/-! the reference's shape -/
def zM_0 : Shp := zfr (Z0 146) 145 10 0
def zM_1 : Shp := zfr zM_0 146 20 405
def zM_2 : Shp := zset zM_1 145 0 146
def zM_3 : Shp := zfr zM_2 147 20 405
def zM_4 : Shp := zset zM_3 145 1 147
def zM_5 : Shp := zfr zM_4 148 20 405
def zM_6 : Shp := zset zM_5 145 2 148
def zM_7 : Shp := zfr zM_6 149 20 405
def zM_8 : Shp := zset zM_7 145 3 149
def zM_9 : Shp := zfr zM_8 150 20 405
def zM_10 : Shp := zset zM_9 145 4 150
def zM_11 : Shp := zfr zM_10 151 20 3240
def zM_12 : Shp := zset zM_11 145 5 151
def zM_13 : Shp := zset zM_12 145 6 146
def zM_14 : Shp := zfr zM_13 152 20 400
def zM_15 : Shp := zset zM_14 145 12 152
def zM_16 : Shp := zfr zM_15 153 20 500
def zM_17 : Shp := zset zM_16 145 14 153
def zM_18 : Shp := zfr zM_17 154 20 60
def zM_19 : Shp := zset zM_18 145 24 154
def zM_20 : Shp := zfr zM_19 155 25 9
def zM_21 : Shp := zset zM_20 155 0 1007
def zM_22 : Shp := zset zM_21 155 1 1008
def zM_23 : Shp := zset zM_22 155 2 1009
def zM_24 : Shp := zset zM_23 155 3 1010
def zM_25 : Shp := zset zM_24 155 4 1011
def zM_26 : Shp := zset zM_25 155 5 1012
def zM_27 : Shp := zset zM_26 155 6 1013
def zM_28 : Shp := zset zM_27 155 7 1014
def zM_29 : Shp := zset zM_28 155 8 1015
def zM_30 : Shp := zset zM_29 145 25 155
def mM_0 (M : Mem) : Mem := (setR (setR (put (setR (setR (setR (setR (setR (setR (setR (setR M 146 (fun _ => 0)) 147 (fun _ => 0)) 148 (fun _ => 0)) 149 (fun _ => 0)) 150 (fun _ => 0)) 151 (fun _ => 0)) 152 (fun _ => 0)) 153 (fun _ => 0)) 145 22 (-1)) 154 (fun _ => 0)) 155 (fun _ => 0))
theorem zok_zM_0 : zok zM_0 := zok_0.fr (by decide)
theorem zok_zM_1 : zok zM_1 := zok_zM_0.fr (by decide)
theorem zok_zM_2 : zok zM_2 := zok_zM_1.set (by decide) (by decide)
theorem zok_zM_3 : zok zM_3 := zok_zM_2.fr (by decide)
theorem zok_zM_4 : zok zM_4 := zok_zM_3.set (by decide) (by decide)
theorem zok_zM_5 : zok zM_5 := zok_zM_4.fr (by decide)
theorem zok_zM_6 : zok zM_6 := zok_zM_5.set (by decide) (by decide)
theorem zok_zM_7 : zok zM_7 := zok_zM_6.fr (by decide)
theorem zok_zM_8 : zok zM_8 := zok_zM_7.set (by decide) (by decide)
theorem zok_zM_9 : zok zM_9 := zok_zM_8.fr (by decide)
theorem zok_zM_10 : zok zM_10 := zok_zM_9.set (by decide) (by decide)
theorem zok_zM_11 : zok zM_11 := zok_zM_10.fr (by decide)
theorem zok_zM_12 : zok zM_12 := zok_zM_11.set (by decide) (by decide)
theorem zok_zM_13 : zok zM_13 := zok_zM_12.set (by decide) (by decide)
theorem zok_zM_14 : zok zM_14 := zok_zM_13.fr (by decide)
theorem zok_zM_15 : zok zM_15 := zok_zM_14.set (by decide) (by decide)
theorem zok_zM_16 : zok zM_16 := zok_zM_15.fr (by decide)
theorem zok_zM_17 : zok zM_17 := zok_zM_16.set (by decide) (by decide)
theorem zok_zM_18 : zok zM_18 := zok_zM_17.fr (by decide)
theorem zok_zM_19 : zok zM_19 := zok_zM_18.set (by decide) (by decide)
theorem zok_zM_20 : zok zM_20 := zok_zM_19.fr (by decide)
theorem zok_zM_21 : zok zM_21 := zok_zM_20.set (by decide) (by decide)
theorem zok_zM_22 : zok zM_22 := zok_zM_21.set (by decide) (by decide)
theorem zok_zM_23 : zok zM_23 := zok_zM_22.set (by decide) (by decide)
theorem zok_zM_24 : zok zM_24 := zok_zM_23.set (by decide) (by decide)
theorem zok_zM_25 : zok zM_25 := zok_zM_24.set (by decide) (by decide)
theorem zok_zM_26 : zok zM_26 := zok_zM_25.set (by decide) (by decide)
theorem zok_zM_27 : zok zM_27 := zok_zM_26.set (by decide) (by decide)
theorem zok_zM_28 : zok zM_28 := zok_zM_27.set (by decide) (by decide)
theorem zok_zM_29 : zok zM_29 := zok_zM_28.set (by decide) (by decide)
theorem zok_zM_30 : zok zM_30 := zok_zM_29.set (by decide) (by decide)
set_option maxRecDepth 100000 in
theorem zM_eq : zM_30 = Z0 146 := zok_zM_30.eq (by decide +kernel)
theorem lpR_beg6 {N0 : Nat} {a1 a2 a3 : Int32} {k : Int32 → Mem → Option Mem} : ∀ (d i N : Nat) (M : Mem), i + d = 405 → d < N → (∀ j, j < i → M 146 j = 0) → ∃ r : Row, lp_M_begin_3 N0 146 a1 a2 a3 N (nI i) M k = k (nI 405) (setR M 146 r) ∧ ∀ j, j < 405 → r j = 0 := by
  intro d
  induction d with
  | zero =>
    intro i N M hi hN h
    obtain ⟨N, rfl⟩ : ∃ n, N = n + 1 := ⟨N - 1, by omega⟩
    obtain rfl : i = 405 := by omega
    unfold lp_M_begin_3
    rw [if_neg (by decide)]
    exact ⟨M 146, by rw [setR_same], h⟩
  | succ d ih =>
    intro i N M hi hN h
    obtain ⟨N, rfl⟩ : ∃ n, N = n + 1 := ⟨N - 1, by omega⟩
    unfold lp_M_begin_3
    rw [if_pos (by show nI i < nI 405; exact nI_lt (by omega) (by omega)), grd_of (inB_nI (by omega) (by omega)), nI_clamp (by omega), nm_eq, nm_eq, nI_1]
    obtain ⟨r, e1, e2⟩ := ih (i + 1) N (put M 146 i 0) (by omega) (by omega) (fun j hj => by
      rw [put_row, upd_at]
      by_cases e : j = i
      · rw [if_pos e]
      · rw [if_neg e]; exact h j (by omega))
    exact ⟨r, by rw [e1, put_setR, setR_setR], e2⟩
theorem R_begin6 {N a l e : Nat} {M : Mem} (hN : 406 < N) : ∃ r : Row, f_M_begin N 146 (nI a) (nI l) (nI e) M = some (setR M 146 r) ∧ r 1 = nI a ∧ r 2 = nI l ∧ r 3 = nI e ∧ ∀ j, j < 405 → j ≠ 1 → j ≠ 2 → j ≠ 3 → r j = 0 := by
  unfold f_M_begin
  obtain ⟨r, e1, e2⟩ := lpR_beg6 (N0 := N) (a1 := nI a) (a2 := nI l) (a3 := nI e) (k := fun (a4 : Int32) (M3 : Mem) => nm (put M3 146 1 (nI a)) fun (M5 : Mem) => nm (put M5 146 2 (nI l)) fun (M6 : Mem) => nm (put M6 146 3 (nI e)) fun (M7 : Mem) => some M7) 405 0 N M (by omega) (by omega) (fun j hj => absurd hj (Nat.not_lt_zero j))
  refine ⟨upd (upd (upd r 1 (nI a)) 2 (nI l)) 3 (nI e), ?_, ?_, ?_, ?_, fun j hj h1 h2 h3 => ?_⟩
  · rw [← nI_0, e1]
    simp only [nm_eq, put_setR, setR_setR, setR_self]
  · rw [upd_at, if_neg (by decide), upd_at, if_neg (by decide), upd_at, if_pos rfl]
  · rw [upd_at, if_neg (by decide), upd_at, if_pos rfl]
  · rw [upd_at, if_pos rfl]
  · rw [upd_at, if_neg h3, upd_at, if_neg h2, upd_at, if_neg h1]; exact e2 j hj
theorem R_gu {X : Mem} {r : Row} {m : Nat} {v : Int32} (h : r 5 = nI m) (hm : m < 16) : f_M_addGust 146 v (setR X 146 r) = some (setR X 146 (upd (upd r (21 + m) v) 5 (nI (m + 1)))) := by
  unfold f_M_addGust
  rw [setR_self, h, q21, grd_of (inB_nI (by omega) (by omega)), nI_clamp (by omega), nm_eq, nm_eq]
  have e : (put (setR X 146 r) 146 (21 + m) v) 146 5 = nI m := by rw [put_row, upd_at, if_neg (by omega), setR_self]; exact h
  rw [e, nI_1]
  simp only [put_setR, setR_setR, setR_self]
