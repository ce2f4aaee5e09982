/-! mean gust, share, gap, obstacle -/
theorem cs_congr {P P' : Nat → Bool} {f : Nat → Int32} {n : Nat} (h : ∀ k, k < n → P k = P' k) : cs P f n = cs P' f n := by
  induction n with
  | zero => rfl
  | succ n ih => rw [cs_s, cs_s, ih (fun k hk => h k (by omega)), h n (by omega)]
theorem lpC_cs {N0 rr c : Nat} {M : Mem} {a1 a2 : Int32} {T H G : Nat → Int32} (hc : c ≤ 90) (h : LRg 90 c T H G (M 19) (M 20) (M 21) (M 22)) (k5 : Int32 × Int32 → Mem → Option (Int32 × Mem)) : ∀ (d i N : Nat), i + d = c → d < N → lp_S_gustsBetween_5 N0 rr 19 a1 a2 N (cs (fun k => !outB (H k) a1 a2) G i, nI i) M k5 = k5 (cs (fun k => !outB (H k) a1 a2) G c, nI c) M := by
  have h5 : M 19 5 = nI c := by obtain ⟨o, -, -, -, q, -⟩ := h; exact q
  intro d
  induction d with
  | zero =>
    intro i N hi hN
    obtain ⟨N, rfl⟩ : ∃ n, N = n + 1 := ⟨N - 1, by omega⟩
    obtain rfl : i = c := by omega
    unfold lp_S_gustsBetween_5
    dsimp only
    rw [h5, if_neg (nI_nlt (Nat.le_refl _) (by omega))]
  | succ d ih =>
    intro i N hi hN
    obtain ⟨N, rfl⟩ : ∃ n, N = n + 1 := ⟨N - 1, by omega⟩
    have := ih (i + 1) N (by omega) (by omega)
    rw [cs_s] at this
    have hx := C_tickAt (p := 19) (k := i) (by omega) (by omega) hc (by omega) z19 h
    unfold lp_S_gustsBetween_5
    dsimp only at this ⊢
    rw [h5, if_pos (nI_lt (by omega) (by omega)), hx.2.1, bnd_s, C_out, bnd_s, hx.2.2, bnd_s]
    simp only [nm_eq, nI_1]
    cases e : outB (H i) a1 a2 with
    | true => rw [e] at this; exact this
    | false => rw [e] at this; exact this
theorem lpR_cs {N0 c l : Nat} {M : Mem} (hc : c ≤ 90) (h : M 146 18 = nI c) (k5 : Int32 × Int32 → Mem → Option (UInt64 × Mem)) : ∀ (d i N : Nat), i + d = c → d < N → lp_M_meanGust_20 N0 146 (nI l) N (cs (fun k => decide (M 146 (135 + 3 * k + 1) / 100 = nI l)) (fun k => M 146 (135 + 3 * k + 2)) i, nI i) M k5 = k5 (cs (fun k => decide (M 146 (135 + 3 * k + 1) / 100 = nI l)) (fun k => M 146 (135 + 3 * k + 2)) c, nI c) M := by
  intro d
  induction d with
  | zero =>
    intro i N hi hN
    obtain ⟨N, rfl⟩ : ∃ n, N = n + 1 := ⟨N - 1, by omega⟩
    obtain rfl : i = c := by omega
    unfold lp_M_meanGust_20
    dsimp only
    rw [h, if_neg (nI_nlt (Nat.le_refl _) (by omega))]
  | succ d ih =>
    intro i N hi hN
    obtain ⟨N, rfl⟩ : ∃ n, N = n + 1 := ⟨N - 1, by omega⟩
    have := ih (i + 1) N (by omega) (by omega)
    rw [cs_s] at this
    have hx1 : f_M_ofArchive 146 (nI i) (1 : Int32) M = some (M 146 (135 + 3 * i + 1), M) := RR_arcR (w := 1) (by omega) (by omega)
    have hx2 : f_M_ofArchive 146 (nI i) (2 : Int32) M = some (M 146 (135 + 3 * i + 2), M) := RR_arcR (w := 2) (by omega) (by omega)
    unfold lp_M_meanGust_20
    dsimp only at this ⊢
    rw [h, if_pos (nI_lt (by omega) (by omega)), hx1, bnd_s, hx2, bnd_s]
    simp only [nm_eq, nI_1, Int32.add_zero]
    by_cases e : M 146 (135 + 3 * i + 1) / 100 = nI l
    · rw [if_pos (decide_eq_true e)] at this
      rw [if_pos e]
      exact this
    · rw [if_neg (by rw [decide_eq_false e]; decide)] at this
      rw [if_neg e]
      exact this
theorem lay {h l : Nat} (hh : h ≤ 600) (hl : l ≤ 6) : (!outB (nI h) (nI (l * 100)) (nI (l * 100 + 99))) = decide (nI h / 100 = nI l) := by
  rw [show nI h / 100 = nI (h / 100) from pk_div (d := 100) (by omega) (by omega) (by omega)]
  by_cases e : h / 100 = l
  · have : outB (nI h) (nI (l * 100)) (nI (l * 100 + 99)) = false := outB_T (by omega) (by omega) (by omega) (by omega)
    rw [this, decide_eq_true (by rw [e])]
    rfl
  · rw [decide_eq_false (fun q => e ((nI_eq (by omega) (by omega)).mp q))]
    unfold outB
    by_cases c : h < l * 100
    · rw [decide_eq_true (nI_lt c (by omega))]; rfl
    · rw [decide_eq_false (nI_nlt (by omega) (by omega)), decide_eq_true (nI_lt (by omega) (by omega))]; rfl
theorem j_meanGust {N : Nat} {a : Int32} (hN : 90 < N) : JX [(0, 1)] (f_G_meanGust N 146 a) (f_M_meanGust N 146 a) := J_rng (fun hb Mc Mr H h0 => by
  obtain ⟨l, -, hl, rfl⟩ := outB_F (lo := 0) (hi := 6) (by omega) (by omega) hb
  obtain ⟨c, hc, ec, hv⟩ := H.w.2.2.2.2
  have h := H.a
  rw [LR_g (c := c) (by omega) ec] at h
  obtain ⟨m, hm, em⟩ := ct_le (P := fun k => !outB (Mr 146 (135 + 3 * k + 1)) (nI (l * 100)) (nI (l * 100 + 99))) (n := c)
  have ep : cs (fun k => decide (Mr 146 (135 + 3 * k + 1) / 100 = nI l)) (fun k => Mr 146 (135 + 3 * k + 2)) c = cs (fun k => !outB (Mr 146 (135 + 3 * k + 1)) (nI (l * 100)) (nI (l * 100 + 99))) (fun k => Mr 146 (135 + 3 * k + 2)) c := cs_congr (fun k hk => by
    obtain ⟨-, ⟨hh, h1, h2⟩, -⟩ := hv k hk
    rw [h2]
    exact (lay h1 hl).symm)
  have e1 : nI l * (100 : Int32) = nI (l * 100) := pk_mul l 100
  have e2 : nI (l * 100) + (100 : Int32) - 1 = nI (l * 100 + 99) := by rw [show nI (l * 100) + (100 : Int32) = nI (l * 100 + 100) from nI_add _ 100]; exact pk_sub (b := 1) (by omega)
  have e3 : (100 : Int32) * nI l = nI (l * 100) := by rw [Nat.mul_comm]; exact pk_mul 100 l
  refine ⟨mean (cs (fun k => !outB (Mr 146 (135 + 3 * k + 1)) (nI (l * 100)) (nI (l * 100 + 99))) (fun k => Mr 146 (135 + 3 * k + 2)) c) m, Mc, Mr, ?_, ?_, H, Fr.rf, Fr.rf, h0⟩
  · rw [nm_eq, nm_eq, e1, e2]
    have a1 := lpC_cs (N0 := N) (rr := 146) (a1 := nI (l * 100)) (a2 := nI (l * 100 + 99)) hc h (fun (a11 : Int32 × Int32) (M10 : Mem) => some (a11.1, M10)) c 0 N (by omega) (by omega)
    have a2 := lpC_ct (N0 := N) (rr := 146) (a1 := nI (l * 100)) (a2 := nI (l * 100 + 99)) hc h (fun (a9 : Int32 × Int32) (M8 : Mem) => some (a9.1, M8)) c 0 N (by omega) (by omega)
    unfold f_S_gustsBetween f_S_countBetween
    have a1' : lp_S_gustsBetween_5 N 146 19 (nI (l * 100)) (nI (l * 100 + 99)) N ((0 : Int32), (0 : Int32)) Mc (fun (a11 : Int32 × Int32) (M10 : Mem) => some (a11.1, M10)) = _ := a1
    have a2' : lp_S_countBetween_5 N 146 19 (nI (l * 100)) (nI (l * 100 + 99)) N ((0 : Int32), (0 : Int32)) Mc (fun (a9 : Int32 × Int32) (M8 : Mem) => some (a9.1, M8)) = _ := a2
    rw [a1', bnd_s, a2', bnd_s]
    dsimp only
    rw [em, C_mean (by omega), bnd_s]
  · have a1 := lpR_cs (N0 := N) (l := l) (M := Mr) hc ec (fun (a14 : Int32 × Int32) (M13 : Mem) => bnd (f_M_countBetween N 146 ((100 : Int32) * nI l) ((((100 : Int32) * nI l) + (100 : Int32)) - (1 : Int32)) M13) fun (x15 : Int32) (M16 : Mem) => bnd (f_M_mean a14.1 x15 M16) fun (x17 : UInt64) (M18 : Mem) => some (x17, M18)) c 0 N (by omega) (by omega)
    refine Eq.trans a1 ?_
    dsimp only
    rw [e3, e2]
    have a2 := lpR_ct (N0 := N) (M := Mr) (a1 := nI (l * 100)) (a2 := nI (l * 100 + 99)) hc ec (fun (a11 : Int32 × Int32) (M10 : Mem) => some (a11.1, M10)) c 0 N (by omega) (by omega)
    unfold f_M_countBetween
    have a2' : lp_M_countBetween_5 N 146 (nI (l * 100)) (nI (l * 100 + 99)) N ((0 : Int32), (0 : Int32)) Mr (fun (a11 : Int32 × Int32) (M10 : Mem) => some (a11.1, M10)) = _ := a2
    rw [a2', bnd_s]
    dsimp only
    rw [em, R_mean (by omega), bnd_s, ep])
theorem j_archivedShare : JA f_G_archivedShare (f_M_archivedShare 146) := fun Mc Mr H => by
  obtain ⟨t, ht, h0, -, m, hm, em⟩ := H.w.1.1
  have h5 : Mc 19 5 = Mr 146 18 := by obtain ⟨o, -, -, -, q, -⟩ := H.a; exact q
  have h8 : Mc 10 8 = nI m := H.s.2.2.2.1.trans em
  unfold f_G_archivedShare f_M_archivedShare
  rw [nm_eq, put_ne (by decide), em, h8, h5]
  by_cases e : m = 0
  · subst e
    rw [if_pos (by decide), if_pos (by decide)]
    exact ⟨0, Mc, put Mr 145 8 0, rfl, rfl, RR_thr H, Fr.rf, Fr.rf.put (by omega) (by omega)⟩
  · rw [if_neg (by show ¬ nI m < nI 1; exact nI_nlt (by omega) (by omega)), if_neg (nI_ne0 (by omega) (by omega)), grd_of (nn32_div (nI_ne0 (by omega) (by omega))), grd_of (nn32_div (nI_ne0 (by omega) (by omega)))]
    exact ⟨_, Mc, put Mr 145 8 0, rfl, rfl, RR_thr H, Fr.rf, Fr.rf.put (by omega) (by omega)⟩
/-- samples that aren't behind the one before -/
def ds (f : Nat → Int32) : Nat → Int32
  | 0 => 0
  | n + 1 => if f (n + 1) ≤ f n then ds f n + 1 else ds f n
theorem ds_s {f : Nat → Int32} {n : Nat} : ds f (n + 1) = if f (n + 1) ≤ f n then ds f n + 1 else ds f n := rfl
theorem lpC_ds {N0 rr n c p : Nat} {M : Mem} {T H G : Nat → Int32} (hn : n ≤ 90) (hn1 : 1 ≤ n) (hc : c ≤ n) (hz : zn (p + 1) = n ∧ zn (p + 2) = n ∧ zn (p + 3) = n) (h : LRg n c T H G (M p) (M (p + 1)) (M (p + 2)) (M (p + 3))) : ∀ (d i N : Nat), i + d = c - 1 → d < N → lp_S_misplaced_4 N0 rr p N (ds T i, nI (i + 1)) M (fun (a : Int32 × Int32) (M : Mem) => some (a.1, M)) = some (ds T (c - 1), M) := by
  have h5 : M p 5 = nI c := by obtain ⟨o, -, -, -, q, -⟩ := h; exact q
  intro d
  induction d with
  | zero =>
    intro i N hi hN
    obtain ⟨N, rfl⟩ : ∃ n, N = n + 1 := ⟨N - 1, by omega⟩
    unfold lp_S_misplaced_4
    dsimp only
    rw [h5, if_neg (nI_nlt (by omega) (by omega)), show i = c - 1 from by omega]
  | succ d ih =>
    intro i N hi hN
    obtain ⟨N, rfl⟩ : ∃ n, N = n + 1 := ⟨N - 1, by omega⟩
    have := ih (i + 1) N (by omega) (by omega)
    rw [ds_s] at this
    unfold lp_S_misplaced_4
    dsimp only at this ⊢
    rw [h5, if_pos (nI_lt (by omega) (by omega)), (C_tickAt (k := i + 1) hn1 hn hc (by omega) hz h).1, bnd_s, nI_pred, (C_tickAt (k := i) hn1 hn hc (by omega) hz h).1, bnd_s]
    simp only [nm_eq, nI_1]
    by_cases e : T (i + 1) ≤ T i
    · rw [if_pos e] at this
      rw [if_pos e]
      exact this
    · rw [if_neg e] at this
      rw [if_neg e]
      exact this
theorem lpR_ds {N0 b c : Nat} {M : Mem} (hb : b + 3 * c ≤ 405) : ∀ (d i N : Nat), i + d = c - 1 → d < N → lp_M_disorder_5 N0 146 (nI b) (nI c) N (ds (fun k => M 146 (b + 3 * k)) i, nI (i + 1)) M (fun (a : Int32 × Int32) (M : Mem) => some (a.1, M)) = some (ds (fun k => M 146 (b + 3 * k)) (c - 1), M) := by
  intro d
  induction d with
  | zero =>
    intro i N hi hN
    obtain ⟨N, rfl⟩ : ∃ n, N = n + 1 := ⟨N - 1, by omega⟩
    unfold lp_M_disorder_5
    dsimp only
    rw [if_neg (nI_nlt (by omega) (by omega)), show i = c - 1 from by omega]
  | succ d ih =>
    intro i N hi hN
    obtain ⟨N, rfl⟩ : ∃ n, N = n + 1 := ⟨N - 1, by omega⟩
    have := ih (i + 1) N (by omega) (by omega)
    rw [ds_s] at this
    unfold lp_M_disorder_5
    dsimp only at this ⊢
    rw [if_pos (nI_lt (by omega) (by omega)), nm_eq, q3, nI_add, q00, show nI (b + 3 * (i + 1)) - (3 : Int32) = nI (b + 3 * i) from by rw [show b + 3 * i = b + 3 * (i + 1) - 3 from by omega]; exact pk_sub (b := 3) (by omega), q00, grd_of (inB_nI (by omega) (by omega)), grd_of (inB_nI (by omega) (by omega)), nI_clamp (by omega), nI_clamp (by omega), jn_eq]
    simp only [nm_eq, nI_1]
    by_cases e : M 146 (b + 3 * (i + 1)) ≤ M 146 (b + 3 * i)
    · rw [if_pos e] at this
      rw [if_pos e]
      exact this
    · rw [if_neg e] at this
      rw [if_neg e, show b2i false = (0 : Int32) from rfl, Int32.add_zero]
      exact this
theorem sub3 {a b c d : Int32} : a - (b + c + d) = a - b - c - d := by grind
theorem j_gap {N : Nat} (hN : 90 < N) : JA (f_G_gap N 146) (f_M_gap N 146) := fun Mc Mr H => by
  obtain ⟨c, d, hc, hd, ec, ed⟩ := Wl_two H.w
  have hl := H.l
  have ha := H.a
  have l5 : Mc 15 5 = Mr 146 17 := by obtain ⟨o, -, -, -, q, -⟩ := hl; exact q
  have a5 : Mc 19 5 = Mr 146 18 := by obtain ⟨o, -, -, -, q, -⟩ := ha; exact q
  rw [LR_g (c := c) (by omega) ec] at hl
  rw [LR_g (c := d) (by omega) ed] at ha
  refine ⟨iabs (Mr 146 19 - Mr 146 17 - Mr 146 18 - Mr 146 20) + ds (fun k => Mr 146 (45 + 3 * k)) (c - 1) + ds (fun k => Mr 146 (135 + 3 * k)) (d - 1), Mc, put Mr 145 8 0, ?_, ?_, RR_thr H, Fr.rf, Fr.rf.put (by omega) (by omega)⟩
  · unfold f_G_gap f_S_misplaced
    have e1 := lpC_ds (N0 := N) (rr := 146) (p := 15) (by omega) (by omega) hc z15 hl (c - 1) 0 N (by omega) (by omega)
    have e2 := lpC_ds (N0 := N) (rr := 146) (p := 19) (by omega) (by omega) hd z19 ha (d - 1) 0 N (by omega) (by omega)
    have e1' : lp_S_misplaced_4 N 146 15 N ((0 : Int32), (1 : Int32)) Mc (fun (a : Int32 × Int32) (M : Mem) => some (a.1, M)) = _ := e1
    have e2' : lp_S_misplaced_4 N 146 19 N ((0 : Int32), (1 : Int32)) Mc (fun (a : Int32 × Int32) (M : Mem) => some (a.1, M)) = _ := e2
    rw [nm_eq, e1', bnd_s, e2', bnd_s, l5, a5, H.s.2.2.2.2.2.2.2.2.1, H.s.2.2.2.1, sub3]
  · unfold f_M_gap f_M_disorder
    have e1 := lpR_ds (N0 := N) (b := 45) (c := c) (M := put Mr 145 8 0) (by omega) (c - 1) 0 N (by omega) (by omega)
    have e2 := lpR_ds (N0 := N) (b := 135) (c := d) (M := put Mr 145 8 0) (by omega) (d - 1) 0 N (by omega) (by omega)
    have p : (put Mr 145 8 0) 146 = Mr 146 := put_ne (by decide)
    rw [p] at e1 e2
    have e1' : lp_M_disorder_5 N 146 (45 : Int32) (nI c) N ((0 : Int32), (1 : Int32)) (put Mr 145 8 0) (fun (a : Int32 × Int32) (M : Mem) => some (a.1, M)) = _ := e1
    have e2' : lp_M_disorder_5 N 146 (135 : Int32) (nI d) N ((0 : Int32), (1 : Int32)) (put Mr 145 8 0) (fun (a : Int32 × Int32) (M : Mem) => some (a.1, M)) = _ := e2
    rw [nm_eq, p, f_size_s, bnd_s, p, ec, e1', bnd_s, p, ed, e2', bnd_s]
theorem C_obstacle {M : Mem} {g : Row} (W : WF g) (h : SR M 10 g) : f_T_obstacle 10 M = some (s_why g, M) := by
  rw [SR10] at h
  obtain ⟨r2, r6, r7, r8, rk, rg, rb, rl, r20, ra⟩ := h
  have hw : ∀ x : Int32, x + (0 : Int32) / 100 = x := fun x => by
    rw [show (0 : Int32) / 100 = 0 from rfl, Int32.add_zero]
  obtain ⟨t, ht, h0, -⟩ := W.1.1
  unfold f_T_obstacle s_why s_wind
  simp only [Nat.reduceAdd]
  rw [rk.1, rk.2.2.1, r7, h0, C_gustOf W.1 (by omega) r2 rg, bnd_s, ← h0, hw]
  by_cases c1 : g 6 = 1
  · rw [if_pos c1, if_pos c1]
  · rw [if_neg c1, if_neg c1]
    by_cases c2 : g 6 = 2
    · rw [if_pos c2, if_pos c2]
    · rw [if_neg c2, if_neg c2]
      by_cases c3 : g 8 < 10
      · rw [if_pos c3, if_pos c3]
      · rw [if_neg c3, if_neg c3]
        by_cases c4 : s_gust g (g 0) < 5
        · rw [if_pos c4, if_pos c4]
        · rw [if_neg c4, if_neg c4]
theorem j_launchObstacle : JA f_G_launchObstacle (f_M_launchObstacle 146) := fun Mc Mr H => by
  refine ⟨s_why (Mr 146), Mc, put Mr 145 8 0, ?_, ?_, RR_thr H, Fr.rf, Fr.rf.put (by omega) (by omega)⟩
  · unfold f_G_launchObstacle
    rw [C_obstacle H.w H.1.1, bnd_s]
  · unfold f_M_launchObstacle
    rw [nm_eq, R_why (by rw [put_ne (by decide)]; exact H.w.1), bnd_s, put_ne (by decide)]
