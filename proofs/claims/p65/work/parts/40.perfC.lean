/-! the class's changes -/
theorem C_launch {M : Mem} {g : Row} (h : SR M 10 g) (hs : s_why g = 0) (W : WF g) : ∃ M' : Mem, (bndM (f_B_empty 13 M) fun M2 => bnd (f_K_rise 11 M2) fun x3 M4 => some (x3, M4)) = some (g 13 + 1, M') ∧ SR M' 10 (s_launch g) ∧ Fr 10 23 M M' := by
  have m0 : g 6 = 0 := by
    unfold s_why at hs
    by_cases c1 : g 6 = 1
    · rw [if_pos c1] at hs; exact absurd hs (by decide)
    · by_cases c2 : g 6 = 2
      · rw [if_neg c1, if_pos c2] at hs; exact absurd hs (by decide)
      · exact (W.2.1.1.resolve_right (fun q => q.elim c1 c2))
  rw [SR10] at h
  obtain ⟨r2, r6, r7, r8, ⟨h0, h1, h2, h3, h4, h5, h6, h7, h8, h9, h10, h11, h12⟩, rg, rb, rl, r20, ra⟩ := h
  rw [m0, if_neg (by decide)] at h8
  unfold f_B_empty f_K_rise
  simp only [nm_eq, bnd_s, bndM_s, put_setR, setR_setR, setR_self, upd_at, Nat.reduceEqDiff, reduceIte, setR_at, h10]
  have o : ∀ j, j ≠ 6 ∧ j ≠ 7 ∧ j ≠ 12 ∧ j ≠ 16 ∧ j ≠ 13 → s_launch g j = g j := fun j ⟨a, b, c, d, e⟩ => by
    unfold s_launch
    rw [inc_at, if_neg e, upd_at, if_neg d, upd_at, if_neg c, upd_at, if_neg b, upd_at, if_neg a]
  refine ⟨_, rfl, ?_, (Fr.rf.set (by omega) (by omega)).set (by omega) (by omega)⟩
  rw [SR10]
  simp only [setR_at, Nat.reduceEqDiff, reduceIte]
  refine ⟨by rw [o _ (by omega)]; exact r2, by rw [o _ (by omega)]; exact r6, by rw [o _ (by omega)]; exact r7, by rw [o _ (by omega)]; exact r8, ?_, fun k hk => ?_, ⟨0, by omega, rfl, rfl, fun k hk => absurd hk (Nat.not_lt_zero k)⟩, LR_ext rl (o _ (by omega)) (fun j hj => o j (by omega)), by rw [o _ (by omega)]; exact r20, LR_ext ra (o _ (by omega)) (fun j hj => o j (by omega))⟩
  · unfold KR s_launch inc
    simp [upd_at, h2, h3, h4, h5, h6, h7, h8, h11, h12]
  · rw [o _ (by omega)] at hk ⊢
    exact rg k hk
theorem C_kput {M : Mem} {g g' : Row} {κ : Row} (h : SR M 10 g) (hk : KR κ g') (o : ∀ j, (j = 0 ∨ j = 4 ∨ j = 5 ∨ 16 ≤ j) → g' j = g j) : SR (setR M 11 κ) 10 g' ∧ Fr 10 23 M (setR M 11 κ) := ⟨SR_kite h hk o, Fr.rf.set (by omega) (by omega)⟩
theorem C_out2 {M : Mem} {g : Row} {a : Int32} (h : SR M 10 g) : ∃ M' : Mem, f_K_lengthen 11 a M = some (g 8 + a, M') ∧ SR M' 10 (s_out a g) ∧ Fr 10 23 M M' := by
  have hk := (SR10.mp h).2.2.2.2.1
  obtain ⟨h0, h1, h2, h3, h4, h5, h6, h7, h8, h9, h10, h11, h12⟩ := hk
  unfold f_K_lengthen
  simp only [nm_eq, put_setR, setR_self, upd_at, reduceIte, h2]
  refine ⟨_, rfl, C_kput h ?_ (fun j hj => by unfold s_out; rw [upd_at, if_neg (by omega)])⟩
  unfold KR s_out
  simp [upd_at, h0, h1, h3, h4, h5, h6, h7, h8, h9, h10, h11, h12]
theorem C_in2 {M : Mem} {g : Row} {a : Int32} (h : SR M 10 g) (W : WF g) (hs : ¬ g 6 = 2) : ∃ M' : Mem, f_K_shorten 11 a M = some (imax 0 (g 8 - a), M') ∧ SR M' 10 (s_in a g) ∧ Fr 10 23 M M' := by
  have hk := (SR10.mp h).2.2.2.2.1
  obtain ⟨h0, h1, h2, h3, h4, h5, h6, h7, h8, h9, h10, h11, h12⟩ := hk
  rw [if_neg hs] at h8
  have o : ∀ j, (j = 0 ∨ j = 4 ∨ j = 5 ∨ 16 ≤ j) → s_in a g j = g j := fun j hj => by rw [s_in_at (by omega), s_in0_at (by omega) (by omega)]
  unfold f_K_shorten f_K_landOnGround
  simp only [nm_eq, put_setR, setR_setR, setR_self, upd_at, Nat.reduceEqDiff, reduceIte, h0, h1, h2, imax_comm (b := 0)]
  have e5 : ¬ (0 : Int32) = 1 := by decide
  have e7 : ¬ (0 : Int32) = 2 := by decide
  by_cases c1 : g 6 = 1
  · rw [c1] at h0 h9
    rw [if_pos rfl] at h9
    by_cases c2 : imin (g 7) (imax 0 (g 8 - a)) = 0
    · simp only [c1, c2, reduceIte, bndM_s, setR_self, upd_at, Nat.reduceEqDiff]
      refine ⟨_, rfl, C_kput h ?_ o⟩
      unfold KR s_in s_in0
      simp [upd_at, c2, h0, h1, h2, h3, h4, h5, h6, h7, h8, h9, h10, h11, h12]
    · simp only [c1, c2, reduceIte, bndM_s, setR_self, upd_at, Nat.reduceEqDiff]
      refine ⟨_, rfl, C_kput h ?_ o⟩
      unfold KR s_in s_in0
      simp [upd_at, c1, c2, h0, h1, h2, h3, h4, h5, h6, h7, h8, h9, h10, h11, h12]
  · have m0 : g 6 = 0 := W.2.1.1.resolve_right (fun q => q.elim c1 hs)
    rw [if_neg c1] at h9
    simp only [c1, reduceIte, bndM_s, setR_self, upd_at, Nat.reduceEqDiff]
    refine ⟨_, rfl, C_kput h ?_ o⟩
    unfold KR s_in s_in0
    by_cases c2 : imin (g 7) (imax 0 (g 8 - a)) = 0
    · simp [upd_at, m0, c2, h0, h1, h2, h3, h4, h5, h6, h7, h8, h9, h10, h11, h12]
    · simp [upd_at, m0, c2, h0, h1, h2, h3, h4, h5, h6, h7, h8, h9, h10, h11, h12]
theorem C_bri2 {M : Mem} {g : Row} {a b : Int32} (h : SR M 10 g) : ∃ M' : Mem, f_K_renewBridle 11 a b M = some (g 9, M') ∧ SR M' 10 (s_bri a b g) ∧ Fr 10 23 M M' := by
  have hk := (SR10.mp h).2.2.2.2.1
  obtain ⟨h0, h1, h2, h3, h4, h5, h6, h7, h8, h9, h10, h11, h12⟩ := hk
  unfold f_K_renewBridle
  simp only [nm_eq, put_setR, setR_setR, setR_self, h6]
  refine ⟨_, rfl, C_kput h ?_ (fun j hj => by unfold s_bri; rw [upd_at, if_neg (by omega), upd_at, if_neg (by omega), upd_at, if_neg (by omega)])⟩
  unfold KR s_bri
  simp [upd_at, h0, h1, h2, h3, h7, h8, h9, h10, h11, h12]
theorem C_evy2 {M : Mem} {g : Row} {a : Int32} (h : SR M 10 g) : ∃ M' : Mem, f_T_changeInterval 10 a M = some (g 4, M') ∧ SR M' 10 (s_evy a g) ∧ Fr 10 23 M M' := by
  rw [SR10] at h
  obtain ⟨r2, r6, r7, r8, rk, rg, rb, rl, r20, ra⟩ := h
  unfold f_T_changeInterval
  simp only [nm_eq, put_setR, r6]
  have o : ∀ j, j ≠ 4 → s_evy a g j = g j := fun j hj => by unfold s_evy; rw [upd_at, if_neg hj]
  refine ⟨_, rfl, ?_, Fr.rf.set (by omega) (by omega)⟩
  rw [SR10]
  simp only [setR_at, upd_at, Nat.reduceEqDiff, reduceIte]
  refine ⟨by rw [o _ (by omega)]; exact r2, rfl, by rw [o _ (by omega)]; exact r7, by rw [o _ (by omega)]; exact r8, KR_congr rk (fun j hj => o j (by omega)), fun k hk => ?_, BR_ext rb (o _ (by omega)) (fun k => o _ (by omega)), LR_ext rl (o _ (by omega)) (fun j hj => o j (by omega)), by rw [o _ (by omega)]; exact r20, LR_ext ra (o _ (by omega)) (fun j hj => o j (by omega))⟩
  rw [o _ (by omega)] at hk ⊢
  exact rg k hk
theorem C_sea2 {M : Mem} {g : Row} {a : Int32} (h : SR M 10 g) (W : WF g) (hs : g 6 = 2) : ∃ M' : Mem, f_K_searchAt 11 a M = some (s_seaA a g, M') ∧ SR M' 10 (s_sea a g) ∧ Fr 10 23 M M' := by
  have hk := (SR10.mp h).2.2.2.2.1
  obtain ⟨b, hb, e11⟩ := W.2.1.2.2.2
  obtain ⟨h0, h1, h2, h3, h4, h5, h6, h7, h8, h9, h10, h11, h12⟩ := hk
  rw [if_pos hs] at h8
  rw [hs, if_neg (by decide)] at h9
  have o : ∀ j, (j = 0 ∨ j = 4 ∨ j = 5 ∨ 16 ≤ j) → s_sea a g j = g j := fun j hj => s_sea_at (by omega) (by omega)
  have es : (g 11 < 1) ↔ g 11 = 0 := by
    rw [e11]
    constructor
    · intro q
      have : b < 1 := (nI_ltI (by omega) (by omega)).mp (show nI b < nI 1 from q)
      rw [show b = 0 from by omega]; rfl
    · intro q
      have : b = 0 := (nI_eq (by omega) (by omega)).mp (show nI b = nI 0 from q)
      subst this
      decide
  unfold f_K_searchAt
  simp only [nm_eq, jn_eq, put_setR, setR_self, upd_at, Nat.reduceEqDiff, reduceIte, h7, h8, h12]
  have ei : ∀ j, s_sea a g j = (if iabs (a - g 10) ≤ s_lim g then upd (inc g 15) 6 0 else inc g 15) j := fun j => rfl
  by_cases c : g 11 = 0
  · have c' := es.mpr c
    have el : s_lim g = 3 := if_pos c
    by_cases d : iabs (a - g 10) ≤ 3
    · simp only [c', d, reduceIte, setR_setR, setR_self]
      have ea : s_seaA a g = 0 := by unfold s_seaA; rw [el, if_pos d]
      refine ⟨_, by rw [ea], C_kput h ?_ o⟩
      unfold KR
      simp only [ei, el, d, if_true, inc]
      simp [upd_at, h0, h1, h2, h3, h4, h5, h6, h7, h8, h9, h10, h11, h12]
    · simp only [c', d, reduceIte, setR_setR, setR_self]
      have ea : s_seaA a g = -1 := by unfold s_seaA; rw [el, if_neg d, if_pos c]
      refine ⟨_, by rw [ea], C_kput h ?_ o⟩
      unfold KR
      simp only [ei, el, d, if_false, inc]
      simp [upd_at, hs, h0, h1, h2, h3, h4, h5, h6, h7, h8, h9, h10, h11, h12]
  · have c' : ¬ g 11 < 1 := fun q => c (es.mp q)
    have el : s_lim g = 20 := if_neg c
    have ff : ¬ (false = true) := by decide
    by_cases d : iabs (a - g 10) ≤ 20
    · simp only [c', d, ff, reduceIte, setR_setR, setR_self]
      have ea : s_seaA a g = 0 := by unfold s_seaA; rw [el, if_pos d]
      refine ⟨_, by rw [ea]; rfl, C_kput h ?_ o⟩
      unfold KR
      simp only [ei, el, d, if_true, inc]
      simp [upd_at, h0, h1, h2, h3, h4, h5, h6, h7, h8, h9, h10, h11, h12]
    · simp only [c', d, ff, reduceIte, setR_setR, setR_self]
      have ea : s_seaA a g = iabs (a - g 10) / 20 := by unfold s_seaA; rw [el, if_neg d, if_neg c]
      refine ⟨_, by rw [ea]; rfl, C_kput h ?_ o⟩
      unfold KR
      simp only [ei, el, d, if_false, inc]
      simp [upd_at, hs, h0, h1, h2, h3, h4, h5, h6, h7, h8, h9, h10, h11, h12]
/-- the logger's samples go into the archive one by one -/
theorem lpC_move {N0 rr c d : Nat} {g : Row} {k : Int32 → Mem → Option (Int32 × Mem)} (hs : d + c ≤ 90) (h30 : c ≤ 30) : ∀ (m i N : Nat) (M : Mem), i + m = c → m < N → LRg 30 c (fun k => g (45 + 3 * k)) (fun k => g (45 + 3 * k + 1)) (fun k => g (45 + 3 * k + 2)) (M 15) (M 16) (M 17) (M 18) → LRg 90 (d + i) (fun k => s_arc g (135 + 3 * k)) (fun k => s_arc g (135 + 3 * k + 1)) (fun k => s_arc g (135 + 3 * k + 2)) (M 19) (M 20) (M 21) (M 22) → (∀ k, k < c → s_arc g (135 + 3 * (d + k)) = g (45 + 3 * k) ∧ s_arc g (135 + 3 * (d + k) + 1) = g (45 + 3 * k + 1) ∧ s_arc g (135 + 3 * (d + k) + 2) = g (45 + 3 * k + 2)) → ∃ M' : Mem, lp_T_moveSamples_10 N0 rr 10 (nI c) N (nI i) M k = k (nI c) M' ∧ LRg 90 (d + c) (fun k => s_arc g (135 + 3 * k)) (fun k => s_arc g (135 + 3 * k + 1)) (fun k => s_arc g (135 + 3 * k + 2)) (M' 19) (M' 20) (M' 21) (M' 22) ∧ Fr 19 23 M M' := by
  intro m
  induction m with
  | zero =>
    intro i N M hi hN hl ha he
    obtain ⟨N, rfl⟩ : ∃ n, N = n + 1 := ⟨N - 1, by omega⟩
    obtain rfl : i = c := by omega
    unfold lp_T_moveSamples_10
    rw [if_neg (nI_nlt (Nat.le_refl _) (by omega))]
    exact ⟨M, rfl, ha, Fr.rf⟩
  | succ m ih =>
    intro i N M hi hN hl ha he
    obtain ⟨N, rfl⟩ : ∃ n, N = n + 1 := ⟨N - 1, by omega⟩
    unfold lp_T_moveSamples_10
    have z1 : zn (15 + 1) = 30 ∧ zn (15 + 2) = 30 ∧ zn (15 + 3) = 30 := ⟨rfl, rfl, rfl⟩
    have z2 : zn (19 + 1) = 90 ∧ zn (19 + 2) = 90 ∧ zn (19 + 3) = 90 := ⟨rfl, rfl, rfl⟩
    obtain ⟨t1, t2, t3⟩ := C_tickAt (p := 15) (k := i) (by omega) (by omega) h30 (by omega) z1 hl
    obtain ⟨s, ta, hha, ga, a1, a2, a3⟩ := C_Sadd1 (p := 19) (t := g (45 + 3 * i)) (x := g (45 + 3 * i + 1)) (v := g (45 + 3 * i + 2)) (by omega) (by omega) (by omega) z2 ha
    rw [if_pos (nI_lt (by omega) (by omega)), show (10 + 5 : Nat) = 15 from rfl, t1, bnd_s, t2, bnd_s, t3, bnd_s, show (10 + 9 : Nat) = 19 from rfl, a1, bndM_s, nm_eq, nI_1]
    obtain ⟨M', e1, e2, e3⟩ := ih (i + 1) N (setR (setR (setR (setR M (19 + 1) ta) (19 + 2) hha) (19 + 3) ga) 19 s) (by omega) (by omega) (by simp only [setR_at, Nat.reduceAdd, Nat.reduceEqDiff, reduceIte]; exact hl) (by
      simp only [setR_at, Nat.reduceAdd, Nat.reduceEqDiff, reduceIte]
      refine LRg_congr a3 (fun k hk => ?_)
      by_cases e : k = d + i
      · subst e
        rw [pk_us, pk_us, pk_us]
        obtain ⟨q1, q2, q3⟩ := he i (by omega)
        exact ⟨q1.symm, q2.symm, q3.symm⟩
      · rw [pk_un e, pk_un e, pk_un e]
        exact ⟨rfl, rfl, rfl⟩) he
    exact ⟨M', e1, e2, (((((Fr.rf.set (by omega) (by omega)).set (by omega) (by omega)).set (by omega) (by omega)).set (by omega) (by omega))).trans e3⟩
theorem C_arc2 {N rr c d : Nat} {M : Mem} {g : Row} (hN : 30 < N) (h : SR M 10 g) (W : WF g) (hc : g 17 = nI c) (hd : g 18 = nI d) (h30 : c ≤ 30) (hs : d + c ≤ 90) : ∃ M' : Mem, f_T_moveSamples N rr 10 M = some (g 17, M') ∧ SR M' 10 (s_arc g) ∧ Fr 10 23 M M' := by
  rw [SR10] at h
  obtain ⟨r2, r6, r7, r8, rk, rg, rb, rl, r20, ra⟩ := h
  have r17 : M 15 5 = nI c := by obtain ⟨o, -, -, -, q, -⟩ := rl; rw [q, hc]
  rw [LR_g (c := c) (by omega) hc] at rl
  rw [LR_g (c := d) (by omega) hd] at ra
  have he : ∀ k, k < c → s_arc g (135 + 3 * (d + k)) = g (45 + 3 * k) ∧ s_arc g (135 + 3 * (d + k) + 1) = g (45 + 3 * k + 1) ∧ s_arc g (135 + 3 * (d + k) + 2) = g (45 + 3 * k + 2) := fun k hk => by
    have a0 := s_arc_at hc hd hs 0 (by omega) (show d + k < d + c by omega)
    have a1 := s_arc_at hc hd hs 1 (by omega) (show d + k < d + c by omega)
    have a2 := s_arc_at hc hd hs 2 (by omega) (show d + k < d + c by omega)
    rw [Nat.add_zero] at a0
    rw [a0, a1, a2, if_neg (by omega), if_neg (by omega), if_neg (by omega), show d + k - d = k from by omega]
    exact ⟨rfl, rfl, rfl⟩
  have ha0 : LRg 90 (d + 0) (fun k => s_arc g (135 + 3 * k)) (fun k => s_arc g (135 + 3 * k + 1)) (fun k => s_arc g (135 + 3 * k + 2)) (M 19) (M 20) (M 21) (M 22) := LRg_congr ra (fun k hk => by
    have a0 := s_arc_at hc hd hs 0 (by omega) (show k < d + c by omega)
    have a1 := s_arc_at hc hd hs 1 (by omega) (show k < d + c by omega)
    have a2 := s_arc_at hc hd hs 2 (by omega) (show k < d + c by omega)
    rw [Nat.add_zero] at a0
    have hk : k < d := hk
    rw [a0, a1, a2, if_pos hk, if_pos hk, if_pos hk]
    exact ⟨rfl, rfl, rfl⟩)
  obtain ⟨M', e1, e2, e3⟩ := lpC_move (N0 := N) (rr := rr) (k := fun (a12 : Int32) (M11 : Mem) => bndM (f_S_empty (10 + 5) M11) fun (M14 : Mem) => some (nI c, M14)) hs h30 c 0 N M (by omega) (by omega) rl ha0 he
  unfold f_T_moveSamples
  rw [nm_eq, show (10 + 5 : Nat) = 15 from rfl, r17, ← nI_0, hc]
  have e1' : lp_T_moveSamples_10 N rr 10 (nI c) N (nI 0) M (fun (a12 : Int32) (M11 : Mem) => bndM (f_S_empty 15 M11) fun (M14 : Mem) => some (nI c, M14)) = bndM (f_S_empty 15 M') fun (M14 : Mem) => some (nI c, M14) := e1
  rw [e1']
  unfold f_S_empty
  simp only [nm_eq, bndM_s, put_setR, setR_setR, setR_self]
  have o : ∀ j, j < 135 → j ≠ 17 → j ≠ 18 → s_arc g j = g j := fun j a b c => s_arc_out a b c
  refine ⟨_, rfl, ?_, (e3.mono (by omega) (by omega)).set (by omega) (by omega)⟩
  have f : ∀ q, q < 19 → M' q = M q := fun q hq => e3 q (by omega)
  rw [SR10]
  simp only [setR_at, upd_at, Nat.reduceEqDiff, reduceIte]
  rw [f 10 (by omega), f 11 (by omega), f 12 (by omega), f 13 (by omega), f 14 (by omega), f 15 (by omega), f 16 (by omega), f 17 (by omega), f 18 (by omega)]
  obtain ⟨o1, p1, l0, l4, l5, lv⟩ := rl
  refine ⟨by rw [o _ (by omega) (by omega) (by omega)]; exact r2, by rw [o _ (by omega) (by omega) (by omega)]; exact r6, by rw [o _ (by omega) (by omega) (by omega)]; exact r7, by rw [o _ (by omega) (by omega) (by omega)]; exact r8, KR_congr rk (fun j hj => o j (by omega) (by omega) (by omega)), fun k hk => ?_, BR_congr W.2.2.1 rb (o _ (by omega) (by omega) (by omega)) (fun k hk => o _ (by omega) (by omega) (by omega)), ⟨0, by omega, l0, rfl, rfl, fun k hk => absurd hk (Nat.not_lt_zero k)⟩, by rw [o _ (by omega) (by omega) (by omega)]; exact r20, ?_⟩
  · rw [o _ (by omega) (by omega) (by omega)] at hk
    obtain ⟨n, n1, n2, h5, -⟩ := W.1.2.1
    have hk2 := hk
    rw [h5, cn_nI (by omega)] at hk2
    rw [o _ (by omega) (by omega) (by omega)]
    exact rg k hk
  · rw [LR_g (c := d + c) (by omega) (s_arc_18 hc hd)]
    exact e2
theorem C_perform {N rr c : Nat} {a b : Int32} {M : Mem} {g : Row} (hN : 100 < N) (W : WF g) (h : SR M 10 g) (hb : s_bad c a b = false) (hs : s_stop c a g = false) (hc : 1 ≤ c ∧ c ≤ 8) : ∃ M' : Mem, f_T_perform N rr 10 (nI c) a b M = some (s_an c a b g, M') ∧ SR M' 10 (s_do c a b g) ∧ Fr 10 23 M M' := by
  have hh : c = 1 ∨ c = 2 ∨ c = 3 ∨ c = 4 ∨ c = 5 ∨ c = 6 ∨ c = 7 ∨ c = 8 := by omega
  have hs0 := hs
  unfold s_stop at hs
  unfold f_T_perform
  simp only [Nat.reduceAdd]
  rcases hh with rfl | rfl | rfl | rfl | rfl | rfl | rfl | rfl
  · rw [if_pos (by decide)]
    exact C_launch h (by simpa using hs) W
  · rw [if_neg (by decide), if_pos (by decide)]
    obtain ⟨M', e1, e2⟩ := C_out2 (a := a) h
    exact ⟨M', by rw [e1, bnd_s]; rfl, e2⟩
  · rw [if_neg (by decide), if_neg (by decide), if_pos (by decide)]
    obtain ⟨M', e1, e2⟩ := C_in2 (a := a) h W (by simpa using hs)
    exact ⟨M', by rw [e1, bnd_s]; rfl, e2⟩
  · rw [if_neg (by decide), if_neg (by decide), if_neg (by decide), if_pos (by decide)]
    obtain ⟨M', e1, e2⟩ := C_bri2 (a := a) (b := b) h
    exact ⟨M', by rw [e1, bnd_s]; rfl, e2⟩
  · rw [if_neg (by decide), if_neg (by decide), if_neg (by decide), if_neg (by decide), if_pos (by decide)]
    obtain ⟨M', e1, e2⟩ := C_evy2 (a := a) h
    exact ⟨M', by rw [e1, bnd_s]; rfl, e2⟩
  · rw [if_neg (by decide), if_neg (by decide), if_neg (by decide), if_neg (by decide), if_neg (by decide), if_pos (by decide)]
    obtain ⟨M', e1, e2⟩ := C_sea2 (a := a) h W (by simpa using hs)
    exact ⟨M', by rw [e1, bnd_s]; rfl, e2⟩
  · rw [if_neg (by decide), if_neg (by decide), if_neg (by decide), if_neg (by decide), if_neg (by decide), if_neg (by decide), if_pos (by decide)]
    obtain ⟨c, d, h1, h2, h3, h4⟩ := Wl_two W
    simp only [Bool.or_eq_false_iff, decide_eq_false_iff_not, Bool.not_eq_false', decide_eq_true_eq] at hs
    obtain ⟨M', e1, e2⟩ := C_arc2 (N := N) (rr := rr) (by omega) h W h3 h4 h1 (by
      have := hs.2
      rw [h3, h4, nI_add] at this
      rcases Nat.lt_or_ge 90 (d + c) with q | q
      · exact absurd (nI_lt q (by omega)) this
      · exact q)
    exact ⟨M', by rw [e1, bnd_s]; rfl, e2⟩
  · rw [if_neg (by decide), if_neg (by decide), if_neg (by decide), if_neg (by decide), if_neg (by decide), if_neg (by decide), if_neg (by decide), if_pos (by decide)]
    obtain ⟨n, h1, h2, rfl⟩ := outB_F (lo := 1) (hi := 60) (by omega) (by omega) hb
    obtain ⟨t, ht, h0, -⟩ := W.1.1
    obtain ⟨M', e1, e2⟩ := C_passMany (N := N) (rr := rr) (n := n) (by omega) (by omega) (by omega) W h h0 (stop8 h0 ht h2 hs0)
    refine ⟨M', ?_, ?_⟩
    · rw [e1, bnd_s]
      show _ = some (itr s_pass (cn (nI n)) g 19 - g 19, M')
      rw [cn_nI (by omega)]
    · show SR M' 10 (itr s_pass (cn (nI n)) g) ∧ Fr 10 23 M M'
      rw [cn_nI (by omega)]
      exact e2
