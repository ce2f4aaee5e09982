/-! KiteLogger's shape and memory -/
def zG_0 : Shp := zfr (Z0 146) 0 9 0
def mG_0 : Mem := setR (fun _ _ => 0) 0 (fun _ => 0)
def zG_1 : Shp := zfr zG_0 1 7 0
def mG_1 : Mem := mt_X (setR mG_0 1 (fun _ => 0)) 2 1
def zG_2 : Shp := zt_X zG_1 2 1
def zG_3 : Shp := zset zG_2 0 0 1
def zG_4 : Shp := zfr zG_3 3 6 0
def mG_2 : Mem := mP_0 (setR mG_1 3 (fun _ => 0))
def zG_5 : Shp := zP_1 zG_4
def zG_6 : Shp := zset zG_5 0 1 3
def zG_7 : Shp := zfr zG_6 5 4 0
def mG_3 : Mem := mt_C (setR mG_2 5 (fun _ => 0)) 6 5
def zG_8 : Shp := zt_C zG_7 6 5
def zG_9 : Shp := zset zG_8 0 2 5
def zG_10 : Shp := zfr zG_9 10 5 0
def mG_4 : Mem := mt_T (setR mG_3 10 (fun _ => 0)) 11 10
def zG_11 : Shp := zt_T zG_10 11 10
def zG_12 : Shp := zset zG_11 0 3 10
def zG_13 : Shp := zfr zG_12 23 1 0
def mG_5 : Mem := mt_K (setR mG_4 23 (fun _ => 0)) 23
def zG_14 : Shp := zset zG_13 0 4 23
def zG_15 : Shp := zfr zG_14 24 0 0
def mG_6 : Mem := mHl (setR mG_5 24 (fun _ => 0)) 8
def zG_16 : Shp := zHl zG_15 8
def zG_17 : Shp := zset zG_16 0 5 24
def zG_18 : Shp := zfr zG_17 130 5 0
def mG_7 : Mem := mt_T (setR mG_6 130 (fun _ => 0)) 131 130
def zG_19 : Shp := zt_T zG_18 131 130
def zG_20 : Shp := zset zG_19 0 6 130
def zG_21 : Shp := zfr zG_20 143 2 0
def mG_8 : Mem := mt_O (setR (put mG_7 0 7 (0)) 143 (fun _ => 0)) 144 143
def zG_22 : Shp := zt_O zG_21 144 143
def zG_23 : Shp := zset zG_22 0 8 143
/-- the shape stays within its bounds -/
def zok (z : Shp) : Prop := (∀ p, 145 ≤ p → z p = Z0 146 p) ∧ ∀ p k, 28 ≤ k → (z p).2.2 k = none
theorem zok.fr {z : Shp} {j c n : Nat} (h : zok z) (hj : j < 145) : zok (zfr z j c n) := by
  refine ⟨fun p hp => by rw [zfr_ne (by omega)]; exact h.1 p hp, fun p k hk => ?_⟩
  unfold zfr
  by_cases e : p = j
  · rw [if_pos e]
  · rw [if_neg e]; exact h.2 p k hk
theorem zok.set {z : Shp} {p k a : Nat} (h : zok z) (hp : p < 145) (hk : k < 28) : zok (zset z p k a) := by
  refine ⟨fun q hq => by rw [zset_ne (by omega)]; exact h.1 q hq, fun q k2 hk2 => ?_⟩
  unfold zset
  by_cases e : q = p
  · rw [if_pos e]
    dsimp only
    rw [if_neg (by omega)]
    exact h.2 p k2 hk2
  · rw [if_neg e]; exact h.2 q k2 hk2
theorem zok_0 : zok (Z0 146) := by
  refine ⟨fun p _ => rfl, fun p k hk => ?_⟩
  unfold Z0
  dsimp only
  have hl : (zl.getD p (99, 0, [])).2.2.length ≤ 28 := by
    rcases Nat.lt_or_ge p 145 with h | h
    · exact (by decide +kernel : ∀ p < 145, (zl.getD p (99, 0, [])).2.2.length ≤ 28) p h
    · rw [List.getD_eq_getElem?_getD, List.getElem?_eq_none (show zl.length ≤ p from Nat.le_trans (by decide +kernel) h)]
      exact Nat.zero_le _
  rw [List.getD_eq_getElem?_getD, List.getElem?_eq_none (Nat.le_trans hl hk)]
  rfl
theorem zok.eq {z : Shp} (h : zok z) (e : ∀ p, p < 145 → (z p).1 = (Z0 146 p).1 ∧ (z p).2.1 = (Z0 146 p).2.1 ∧ ∀ k, k < 28 → (z p).2.2 k = (Z0 146 p).2.2 k) : z = Z0 146 := by
  funext p
  rcases Nat.lt_or_ge p 145 with hp | hp
  · obtain ⟨e1, e2, e3⟩ := e p hp
    have e4 : (z p).2.2 = (Z0 146 p).2.2 := by
      funext k
      rcases Nat.lt_or_ge k 28 with hk | hk
      · exact e3 k hk
      · rw [h.2 p k hk, zok_0.2 p k hk]
    exact Prod.ext e1 (Prod.ext e2 e4)
  · exact h.1 p hp
theorem zok.X {z : Shp} {j p : Nat} (h : zok z) (hj : j + 1 ≤ 145) (hp : p < 145) : zok (zt_X z j p) := by
  unfold zt_X
  repeat (first | exact h | refine zok.set ?_ (by omega) (by omega) | refine zok.fr ?_ (by omega))
theorem zok.C {z : Shp} {j p : Nat} (h : zok z) (hj : j + 4 ≤ 145) (hp : p < 145) : zok (zt_C z j p) := by
  unfold zt_C
  repeat (first | exact h | refine zok.set ?_ (by omega) (by omega) | refine zok.fr ?_ (by omega))
theorem zok.O {z : Shp} {j p : Nat} (h : zok z) (hj : j + 1 ≤ 145) (hp : p < 145) : zok (zt_O z j p) := by
  unfold zt_O
  repeat (first | exact h | refine zok.set ?_ (by omega) (by omega) | refine zok.fr ?_ (by omega))
theorem zok.T {z : Shp} {j p : Nat} (h : zok z) (hj : j + 12 ≤ 145) (hp : p < 145) : zok (zt_T z j p) := by
  unfold zt_T
  repeat (first | exact h | refine zok.set ?_ (by omega) (by omega) | refine zok.fr ?_ (by omega))
theorem zok_zP_0 {z : Shp} (h : zok z) : zok (zP_0 z) := (h).fr (by decide)
theorem zok_zP_1 {z : Shp} (h : zok z) : zok (zP_1 z) := (zok_zP_0 h).set (by decide) (by decide)
theorem zok_zH_0 {z : Shp} (h : zok z) : zok (zH_0 z) := (h).fr (by decide)
theorem zok_zH_1 {z : Shp} (h : zok z) : zok (zH_1 z) := (zok_zH_0 h).set (by decide) (by decide)
theorem zok_Hl {z : Shp} (h : zok z) : ∀ i, i ≤ 8 → zok (zHl z i)
  | 0, _ => zok_zH_1 h
  | i + 1, hi => (((zok_Hl h i (by omega)).fr (by omega)).T (by omega) (by omega)).set (by decide) (by omega)
theorem zok_zG_0 : zok zG_0 := zok_0.fr (by decide)
theorem zok_zG_1 : zok zG_1 := zok_zG_0.fr (by decide)
theorem zok_zG_2 : zok zG_2 := zok_zG_1.X (by decide) (by decide)
theorem zok_zG_3 : zok zG_3 := zok_zG_2.set (by decide) (by decide)
theorem zok_zG_4 : zok zG_4 := zok_zG_3.fr (by decide)
theorem zok_zG_5 : zok zG_5 := zok_zP_1 zok_zG_4
theorem zok_zG_6 : zok zG_6 := zok_zG_5.set (by decide) (by decide)
theorem zok_zG_7 : zok zG_7 := zok_zG_6.fr (by decide)
theorem zok_zG_8 : zok zG_8 := zok_zG_7.C (by decide) (by decide)
theorem zok_zG_9 : zok zG_9 := zok_zG_8.set (by decide) (by decide)
theorem zok_zG_10 : zok zG_10 := zok_zG_9.fr (by decide)
theorem zok_zG_11 : zok zG_11 := zok_zG_10.T (by decide) (by decide)
theorem zok_zG_12 : zok zG_12 := zok_zG_11.set (by decide) (by decide)
theorem zok_zG_13 : zok zG_13 := zok_zG_12.fr (by decide)
theorem zok_zG_14 : zok zG_14 := zok_zG_13.set (by decide) (by decide)
theorem zok_zG_15 : zok zG_15 := zok_zG_14.fr (by decide)
theorem zok_zG_16 : zok zG_16 := zok_Hl zok_zG_15 8 (by decide)
theorem zok_zG_17 : zok zG_17 := zok_zG_16.set (by decide) (by decide)
theorem zok_zG_18 : zok zG_18 := zok_zG_17.fr (by decide)
theorem zok_zG_19 : zok zG_19 := zok_zG_18.T (by decide) (by decide)
theorem zok_zG_20 : zok zG_20 := zok_zG_19.set (by decide) (by decide)
theorem zok_zG_21 : zok zG_21 := zok_zG_20.fr (by decide)
theorem zok_zG_22 : zok zG_22 := zok_zG_21.O (by decide) (by decide)
theorem zok_zG_23 : zok zG_23 := zok_zG_22.set (by decide) (by decide)
set_option maxRecDepth 100000 in
theorem zG_eq : zG_23 = Z0 146 := zok_zG_23.eq (by decide +kernel)
/-- the row that both sides stand at when the run begins -/
def gR : Row := fun j => if j = 1 then 2 else if j = 2 then 40 else if j = 3 then 100 else if j = 4 then 3 else if j = 5 then 6 else if j = 21 then 6 else if j = 22 then 9 else if j = 23 then 12 else if j = 24 then 4 else if j = 26 then 8 else 0
def mGe : Mem := mG_8
def mS : Mem := (f_T_setUp 10 mGe).getD mGe
set_option maxRecDepth 100000 in
theorem mS_all : ∃ M', f_T_setUp 10 mGe = some M' ∧ SR M' 10 gR ∧ Fr 10 23 mGe M' := C_setUp (a := 2) (l := 40) (e := 100) (m := 6) (i := 3) (by decide +kernel) (by decide) (by decide +kernel) (by decide +kernel) (by decide +kernel) (by decide +kernel)
theorem mS_eq : f_T_setUp 10 mGe = some mS := by
  obtain ⟨M', h, -⟩ := mS_all
  rw [h, mS, h]
  rfl
theorem mS_SR : SR mS 10 gR ∧ Fr 10 23 mGe mS := by
  obtain ⟨M', h, h2, h3⟩ := mS_all
  have e : mS = M' := by rw [mS, h]; rfl
  rw [e]
  exact ⟨h2, h3⟩
