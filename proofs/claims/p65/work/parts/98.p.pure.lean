/-! what the law is told of the pure level -/
theorem p_PK : PK 1000 146 VV rowL actR := by
  refine ⟨fun i M M2 g c sn h e => ?_, fun i M g c sn h => h.up, fun i M g c sn h => ?_, fun i M g c sn h hi => ?_, fun i M g c sn h q hq => ?_, fun i M g c sn h => ?_, fun i M g c sn h hi u => ?_, fun i M g c sn h => ?_, fun i M g c g2 h => ?_⟩
  · exact h.of (VM_loc h.1 e) h.2.1
  · obtain ⟨b, hb, e16, -⟩ := h.rc.w.2.2.1
    obtain ⟨lc, hc, e17, -⟩ := h.rc.w.2.2.2.1
    obtain ⟨ld, hd, e18, -⟩ := h.rc.w.2.2.2.2
    rw [rowL_len e16 e17 e18 hb hc hd]
    omega
  · obtain ⟨t, ht, hj⟩ := h.2.1
    obtain ⟨κ, e⟩ := q_isStation (N := 1000) (rr := 146) (by decide) (by omega) (by omega) h.rc hj
    exact ⟨_, e, h.k23 κ, fun p hp => setR_ne (by omega)⟩
  · obtain ⟨b, hb, e16, -⟩ := h.rc.w.2.2.1
    obtain ⟨lc, hc, e17, -⟩ := h.rc.w.2.2.2.1
    obtain ⟨ld, hd, e18, -⟩ := h.rc.w.2.2.2.2
    refine ⟨lc, ld, b, ?_, ?_, ?_, ?_, q_all (N := 1000) (rr := 146) (by decide) h.rc hq e16 e17 e18 hb hc hd⟩
    · rw [q_loggedCount h.rc, e17]
    · rw [q_archivedCount h.rc, e18]
    · rw [q_bufferSize h.rc, e16]
    · rw [rowL_len e16 e17 e18 hb hc hd]
  · obtain ⟨h1, nx, h2, h3, h4⟩ := h.1.2.1
    refine ⟨?_, h1⟩
    unfold f_G_undoableCount
    rw [h4]
  · obtain ⟨M2, e, c2, h1, h2, h3, h4⟩ := q_act (N := 1000) (rr := 146) (u := u) (by decide) h hi
    exact ⟨M2, c2, e, h1, h2, h3, h4⟩
  · obtain ⟨M2, e1, e2, e3⟩ := VM_save h.1
    refine ⟨M2, e1, ⟨e2, h.2.1, fun s hs => ?_⟩, fun p hp => e3 p (by omega)⟩
    cases hs
    exact h.2.1
  · obtain ⟨M2, e1, e2, e3⟩ := VM_rest h.1
    exact ⟨M2, e1, ⟨e2, h.2.2 g2 rfl, h.2.2⟩, fun p hp => e3 p (by omega)⟩
theorem kT_len {a b c i : Nat} {gs : List Nat} (h8 : gs.length ≤ 8) : (kText a b c gs i).length ≤ 100 := by
  have l1 := decs_le a
  have l2 := decs_le b
  have l3 := decs_le c
  have l4 := decs_le i
  have l5 := gsT_len gs
  have t1 : (txS 1).length = 4 := by decide +kernel
  have t2 : (txS 2).length = 5 := by decide +kernel
  have t3 : (txS 3).length = 8 := by decide +kernel
  rw [kT_shape]
  simp only [List.length_append, List.length_cons, List.length_nil, t1, t2, t3]
  omega
theorem gsT_b : ∀ gs : List Nat, (∀ g, g ∈ gs → g < 1000) → ∀ x, x ∈ gsT gs → x < 256 := by
  intro gs
  induction gs with
  | nil => exact fun _ x hx => by cases hx
  | cons g t ih =>
    intro hg x hx
    have hx2 : x ∈ [32] ++ decs g ++ gsT t := hx
    rw [List.mem_append, List.mem_append] at hx2
    rcases hx2 with (q | q) | q
    · simp only [List.mem_cons, List.not_mem_nil, or_false] at q
      omega
    · have := (decs_dig g (hg g (List.mem_cons_self ..))).1 x q
      omega
    · exact ih (fun y hy => hg y (List.mem_cons_of_mem _ hy)) x q
theorem kT_b {a b c i : Nat} {gs : List Nat} (ha : a < 1000) (hb : b < 1000) (hc : c < 1000) (hi : i < 1000) (hg : ∀ g, g ∈ gs → g < 1000) : ∀ x, x ∈ kText a b c gs i → x < 256 := by
  have t1 : ∀ x, x ∈ txS 1 → x < 256 := by decide +kernel
  have t2 : ∀ x, x ∈ txS 2 → x < 256 := by decide +kernel
  have t3 : ∀ x, x ∈ txS 3 → x < 256 := by decide +kernel
  have d1 := (decs_dig a ha).1
  have d2 := (decs_dig b hb).1
  have d3 := (decs_dig c hc).1
  have d4 := (decs_dig i hi).1
  have d5 := gsT_b gs hg
  intro x hx
  rw [kT_shape] at hx
  simp only [List.mem_append, List.mem_cons, List.not_mem_nil, or_false] at hx
  rcases hx with q | q | q | q | q | q | q | q | q | q | q | q | q | q
  · exact t1 x q
  · omega
  · have := d1 x q; omega
  · omega
  · have := d2 x q; omega
  · omega
  · have := d3 x q; omega
  · omega
  · exact t2 x q
  · exact d5 x q
  · omega
  · exact t3 x q
  · omega
  · rcases q with q | q
    · have := d4 x q; omega
    · omega
/-- the row of a station that was just read -/
def g0R (a b c i : Nat) (gs : List Nat) : Row := fun j => if j = 1 then nI a else if j = 2 then nI b else if j = 3 then nI c else if j = 4 then nI i else if j = 5 then nI gs.length else if 21 ≤ j ∧ j < 37 then nI (gs.getD (j - 21) 0) else 0
theorem g0R_z {a b c i j : Nat} {gs : List Nat} (h : j = 0 ∨ (6 ≤ j ∧ j < 21) ∨ 37 ≤ j) : g0R a b c i gs j = 0 := by
  unfold g0R
  rw [if_neg (by omega), if_neg (by omega), if_neg (by omega), if_neg (by omega), if_neg (by omega), if_neg (by omega)]
theorem g0R_RJ {a b c i : Nat} {gs : List Nat} (ha : 1 ≤ a ∧ a ≤ 4) (h1 : 1 ≤ gs.length) (h8 : gs.length ≤ 8) (hg : ∀ g, g ∈ gs → 2 ≤ g ∧ g ≤ 14) (hi : 1 ≤ i ∧ i ≤ 4) : RJ 0 0 (g0R a b c i gs) := by
  have z : ∀ j, (j = 0 ∨ (6 ≤ j ∧ j < 21) ∨ 37 ≤ j) → g0R a b c i gs j = nI 0 := fun j h => g0R_z h
  have e1 : g0R a b c i gs 1 = nI a := if_pos rfl
  have e4 : g0R a b c i gs 4 = nI i := by
    unfold g0R
    rw [if_neg (by decide), if_neg (by decide), if_neg (by decide), if_pos rfl]
  have e5 : g0R a b c i gs 5 = nI gs.length := by
    unfold g0R
    rw [if_neg (by decide), if_neg (by decide), if_neg (by decide), if_neg (by decide), if_pos rfl]
  have eg : ∀ k, k < gs.length → ∃ v, v ≤ 30 ∧ g0R a b c i gs (21 + k) = nI v := fun k hk => by
    have : gs.getD k 0 ∈ gs := by
      rw [List.getD_eq_getElem?_getD, List.getElem?_eq_getElem hk]
      exact List.getElem_mem hk
    have := hg _ this
    refine ⟨gs.getD k 0, by omega, ?_⟩
    unfold g0R
    rw [if_neg (by omega), if_neg (by omega), if_neg (by omega), if_neg (by omega), if_neg (by omega), if_pos (by omega), Nat.add_sub_cancel_left]
  have n6 : ¬ g0R a b c i gs 6 = 1 := by
    rw [z 6 (by omega)]
    decide
  refine ⟨⟨⟨⟨0, by omega, z 0 (by omega), ⟨0, by omega, z 14 (by omega)⟩, 0, by omega, z 19 (by omega)⟩, ⟨gs.length, h1, by omega, e5, eg⟩, ⟨i, hi.1, by omega, e4⟩⟩, ⟨Or.inl (z 6 (by omega)), ⟨0, by omega, z 7 (by omega)⟩, ⟨0, by omega, z 8 (by omega)⟩, 0, by omega, z 11 (by omega)⟩, ⟨0, by omega, z 16 (by omega), fun k hk => by omega⟩, ⟨0, by omega, z 17 (by omega), fun k hk => by omega⟩, ⟨0, by omega, z 18 (by omega), fun k hk => by omega⟩⟩, z 0 (by omega), ⟨0, 0, z 13 (by omega), z 14 (by omega), by rw [if_neg n6]; omega, by omega⟩, ⟨0, 0, z 7 (by omega), z 8 (by omega), by omega, by omega, fun q => absurd q n6, fun q => by omega⟩, fun q => absurd q n6, ?_, ⟨a, ha.1, ha.2, e1⟩, ⟨0, 0, by omega, by omega, z 17 (by omega), z 18 (by omega), ⟨fun j k _ h => by omega, fun j k _ h => by omega, fun j k _ h => by omega, fun k h => by omega, fun k h => by omega⟩, fun k h => by omega⟩⟩
  unfold Re
  rw [z 17 (by omega), z 18 (by omega), z 19 (by omega), z 20 (by omega)]
  decide
set_option maxRecDepth 100000 in
theorem mS_fill : mS 1 1 = 0 ∧ ZS mS := by
  obtain ⟨h1, h2⟩ := mS_SR
  have a1 : mGe 1 1 = 0 := by decide +kernel
  have a2 : ∀ p ∈ stL, p ≠ 10 → mGe (p + 5) 0 = nI 30 ∧ mGe (p + 9) 0 = nI 90 := by decide +kernel
  refine ⟨by rw [h2 1 (by omega)]; exact a1, fun p hp => ?_⟩
  by_cases e : p = 10
  · subst e
    obtain ⟨-, -, -, -, -, -, -, x, -, y⟩ := h1
    obtain ⟨-, -, x1, -⟩ := x
    obtain ⟨-, -, y1, -⟩ := y
    exact ⟨x1, y1⟩
  · have := st_all p hp
    rw [h2 (p + 5) (by omega), h2 (p + 9) (by omega)]
    exact a2 p hp e
theorem p_PL : PL 1000 146 VV := by
  intro a b c gs i ha ha2 hb hb2 hc hc2 h1 h8 hg hi hi2 M0 hM hz
  have len := kT_len (a := a) (b := b) (c := c) (i := i) h8
  have by1 := kT_b (a := a) (b := b) (c := c) (i := i) (gs := gs) (by omega) (by omega) (by omega) (by omega) (fun g hh => by have := hg g hh; omega)
  have kt : ∀ j, j < (kText a b c gs i).length → (kText a b c gs i).getD j 0 < 256 := fun j hj => by
    apply by1
    rw [List.getD_eq_getElem?_getD, List.getElem?_eq_getElem hj]
    exact List.getElem_mem hj
  obtain ⟨x, ex⟩ : ∃ x, x = kText a b c gs i := ⟨_, rfl⟩
  obtain ⟨T, eT⟩ : ∃ T : Nat → Nat, T = fun j => if j < x.length then x.getD j 0 else 32 := ⟨_, rfl⟩
  have T1 : ∀ j, j < x.length → T j = x.getD j 0 := fun j hj => by rw [eT]; exact if_pos hj
  have T2 : ∀ j, x.length ≤ j → T j = 32 := fun j hj => by rw [eT]; exact if_neg (by omega)
  have T3 : ∀ j, T j < 256 := fun j => by
    by_cases q : j < x.length
    · rw [T1 j q]
      rw [ex] at q ⊢
      exact kt j q
    · rw [T2 j (by omega)]
      decide
  obtain ⟨f1, zs⟩ := mS_fill
  have A0 : AD M0 M0 T 0 := AD.begin hz (by rw [hM 1 (by decide)]; exact f1)
  have hx : x.length ≤ 100 := by rw [ex]; exact len
  have An := adm_AD (N := 1000) (rr := 146) (by decide) T3 A0 x.length (by omega)
  obtain ⟨Me, f, e1, n1, n2, m11, m2, mq, -⟩ := C_end (N := 1000) (rr := 146) (by decide) T3 T2 (by omega) An
  obtain ⟨Mp, r1, p0, p1, p2, p3, p5, p4, po, p11⟩ := rd_all (N := 1000) (rr := 146) (M := Me) (a := a) (b := b) (c := c) (i := i) (gs := gs) (by decide) ⟨ha, ha2⟩ ⟨hb, hb2⟩ ⟨hc, hc2⟩ h1 h8 hg ⟨hi, hi2⟩ (by omega) (fun j hj => ⟨kt j hj, by
    rw [← ex] at hj ⊢
    rw [m2 j (by omega), T1 j hj]⟩)
  have q0 : ∀ q, q ≠ 1 → q ≠ 2 → q ≠ 3 → q ≠ 4 → q < 145 → Mp q = mS q := fun q a1 a2 a3 a4 a5 => by
    rw [po q a1 a3 a4, mq q a1 a2 (by omega), hM q a5]
  obtain ⟨Mb, eb⟩ : ∃ Mb, Mb = put Mp 1 1 0 := ⟨_, rfl⟩
  have bo : ∀ q, q ≠ 1 → Mb q = Mp q := fun q hq => by rw [eb, put_ne hq]
  have z10 := zs 10 (by decide)
  have W := g0R_RJ (a := a) (b := b) (c := c) (i := i) (gs := gs) ⟨ha, ha2⟩ h1 h8 hg ⟨hi, hi2⟩
  obtain ⟨Mu, u1, u2, u3⟩ := C_setUp (M := Mb) (g := g0R a b c i gs) (a := a) (l := b) (e := c) (m := gs.length) (i := i) ⟨by rw [bo 3 (by decide)]; exact p0, by rw [bo 3 (by decide)]; exact p1, by rw [bo 3 (by decide)]; exact p2, by rw [bo 3 (by decide)]; exact p3, by rw [bo 3 (by decide)]; exact p5⟩ (by omega) ⟨rfl, rfl, rfl, rfl, rfl⟩ (fun k hk => by
    rw [bo 4 (by decide), p4 k hk]
    unfold g0R
    rw [if_neg (by omega), if_neg (by omega), if_neg (by omega), if_neg (by omega), if_neg (by omega), if_pos (by omega), Nat.add_sub_cancel_left]) (fun j _ hj => g0R_z hj) ⟨by rw [bo 15 (by decide), q0 15 (by decide) (by decide) (by decide) (by decide) (by decide)]; exact z10.1, by rw [bo 19 (by decide), q0 19 (by decide) (by decide) (by decide) (by decide) (by decide)]; exact z10.2⟩
  obtain ⟨Ml, el⟩ : ∃ Ml, Ml = put (put (put Mu 24 1 0) 24 2 0) 0 7 0 := ⟨_, rfl⟩
  have lo : ∀ q, q ≠ 0 → q ≠ 24 → Ml q = Mu q := fun q a1 a2 => by rw [el, put_ne a1, put_ne a2, put_ne a2]
  have sr : SR Ml 10 (g0R a b c i gs) := SR_congr u2 (fun q _ h => lo q (by omega) (by omega))
  have fin : f_G_loadStation 1000 146 (nI (kText a b c gs i).length) Me = some (nI gs.length, Ml) := by
    have rf : f_G_refuseLength (nI (kText a b c gs i).length) Me = some Me := by
      unfold f_G_refuseLength
      rw [if_neg (nI_pos (by omega)), m11, if_neg (nI_nlt (by rw [← ex]; exact n1) (by omega))]
    unfold f_G_loadStation
    rw [rf, bndM_s, r1, bnd_s, nm_eq, if_pos rfl, ← eb, u1, bndM_s, C_forget, bndM_s, nm_eq, ← el, sr.1]
    rfl
  refine ⟨adm 1000 146 T M0, Me, Ml, g0R a b c i gs, rfl, fun k hk => ?_, fun k hk p hp => ?_, ?_, fin, ⟨⟨⟨sr, W.1⟩, ⟨by omega, 0, by omega, ?_, ?_⟩, fun p hp => ?_, fun s hs => by cases hs⟩, ⟨0, by omega, W⟩, fun s hs => by cases hs⟩⟩
  · rw [← ex] at hk ⊢
    rw [← T1 k hk]
    exact adm_s (by decide) T3 A0 (by omega)
  · rw [← ex] at hk
    have := adm_AD (N := 1000) (rr := 146) (by decide) T3 A0 k (by omega)
    exact this.2.2.2.2.1 p (by omega) (by omega) (by omega)
  · rw [← ex]
    exact e1
  · rw [el, put_ne (by decide), put_row, upd_at, if_neg (by decide), put_row, upd_at, if_pos rfl]; rfl
  · rw [el, put_ne (by decide), put_row, upd_at, if_pos rfl]; rfl
  · have hs := st_all p hp
    by_cases e : p = 10
    · subst e
      obtain ⟨-, -, -, -, -, -, -, y1, -, y2⟩ := sr
      obtain ⟨-, -, y3, -⟩ := y1
      obtain ⟨-, -, y4, -⟩ := y2
      exact ⟨y3, y4⟩
    · have ok : ∀ q, 23 ≤ q → q < 145 → q ≠ 24 → Ml q = mS q := fun q a1 a2 a3 => by
        rw [lo q (by omega) a3, u3 q (by omega), bo q (by omega), q0 q (by omega) (by omega) (by omega) (by omega) a2]
      rw [ok (p + 5) (by omega) (by omega) (by omega), ok (p + 9) (by omega) (by omega) (by omega)]
      exact zs p hp
