/-! the law from its entry -/
theorem d_W_0 : decode code 0 = .ok (.new 8, 3) := by decide +kernel
theorem d_W_3 : decode code 3 = .ok (.dup, 1) := by decide +kernel
theorem d_W_4 : decode code 4 = .ok (.invokespecial 91, 3) := by decide +kernel
theorem d_W_7 : decode code 7 = .ok (.astore_n 1, 1) := by decide +kernel
theorem d_W_8 : decode code 8 = .ok (.new 92, 3) := by decide +kernel
theorem d_W_11 : decode code 11 = .ok (.dup, 1) := by decide +kernel
theorem d_W_12 : decode code 12 = .ok (.invokespecial 94, 3) := by decide +kernel
theorem d_W_15 : decode code 15 = .ok (.astore_n 2, 1) := by decide +kernel
theorem d_W_16 : decode code 16 = .ok (.iconst 1, 1) := by decide +kernel
theorem d_W_17 : decode code 17 = .ok (.newarray .long, 2) := by decide +kernel
theorem d_W_19 : decode code 19 = .ok (.astore_n 3, 1) := by decide +kernel
theorem d_W_20 : decode code 20 = .ok (.iconst 1, 1) := by decide +kernel
theorem d_W_21 : decode code 21 = .ok (.newarray .double, 2) := by decide +kernel
theorem d_W_23 : decode code 23 = .ok (.astore 4, 2) := by decide +kernel
theorem d_W_25 : decode code 25 = .ok (.iconst 0, 1) := by decide +kernel
theorem d_W_26 : decode code 26 = .ok (.istore 5, 2) := by decide +kernel
theorem nw_L_8 : NWd "KiteLoggerLaw" 8 9 9 := ⟨"KiteLogger", T9, ty9, rfl, uw_9, tyk9, TT_in (i := 111) (by decide +kernel) (by decide +kernel), TT_in (i := 112) (by decide +kernel) (by decide +kernel), TT_in (i := 88) (by decide +kernel) (by decide +kernel), by decide, fun w k hk => by
  have hh : k = 0 ∨ k = 1 ∨ k = 2 ∨ k = 3 ∨ k = 4 ∨ k = 5 ∨ k = 6 ∨ k = 7 ∨ k = 8 := by omega
  rcases hh with rfl | rfl | rfl | rfl | rfl | rfl | rfl | rfl | rfl <;> rfl⟩
theorem nw_L_92 : NWd "KiteLoggerLaw" 92 10 28 := ⟨"KiteLoggerModel", T10, ty10, rfl, uw_10, tyk10, TT_in (i := 1337) (by decide +kernel) (by decide +kernel), TT_in (i := 1338) (by decide +kernel) (by decide +kernel), TT_in (i := 100) (by decide +kernel) (by decide +kernel), by decide, fun w k hk => by
  have hh : k = 0 ∨ k = 1 ∨ k = 2 ∨ k = 3 ∨ k = 4 ∨ k = 5 ∨ k = 6 ∨ k = 7 ∨ k = 8 ∨ k = 9 ∨ k = 10 ∨ k = 11 ∨ k = 12 ∨ k = 13 ∨ k = 14 ∨ k = 15 ∨ k = 16 ∨ k = 17 ∨ k = 18 ∨ k = 19 ∨ k = 20 ∨ k = 21 ∨ k = 22 ∨ k = 23 ∨ k = 24 ∨ k = 25 ∨ k = 26 ∨ k = 27 := by omega
  rcases hh with rfl | rfl | rfl | rfl | rfl | rfl | rfl | rfl | rfl | rfl | rfl | rfl | rfl | rfl | rfl | rfl | rfl | rfl | rfl | rfl | rfl | rfl | rfl | rfl | rfl | rfl | rfl | rfl <;> rfl⟩
theorem ci_L_91 : (Cond.methodLink "KiteLoggerLaw" 91 y_G_init ∈ TT ∨ ∃ host, Cond.methodLinkNest "KiteLoggerLaw" 91 y_G_init host ∈ NW) ∧ CIW y_G_init b_G_init 1 0 := ⟨Or.inl (TT_in (i := 113) (by decide +kernel) (by decide +kernel)), TT_in (i := 114) (by decide +kernel) (by decide +kernel), TT_in (i := 88) (by decide +kernel) (by decide +kernel), TT_in (i := 115) (by decide +kernel) (by decide +kernel), ⟨by decide +kernel, by decide +kernel, by decide +kernel⟩⟩
theorem ci_L_94 : (Cond.methodLink "KiteLoggerLaw" 94 y_M_init ∈ TT ∨ ∃ host, Cond.methodLinkNest "KiteLoggerLaw" 94 y_M_init host ∈ NW) ∧ CIW y_M_init b_M_init 1 0 := ⟨Or.inl (TT_in (i := 1339) (by decide +kernel) (by decide +kernel)), TT_in (i := 1340) (by decide +kernel) (by decide +kernel), TT_in (i := 100) (by decide +kernel) (by decide +kernel), TT_in (i := 1341) (by decide +kernel) (by decide +kernel), ⟨by decide +kernel, by decide +kernel, by decide +kernel⟩⟩
theorem zok_end : zok (zfr (zfr (Z0 146) 156 22 1) 157 23 0) := (zok_0.fr (by decide)).fr (by decide)
set_option maxRecDepth 100000 in
theorem z_end : zfr (zfr (Z0 146) 156 22 1) 157 23 0 = Z0 146 := zok_end.eq (by decide +kernel)
/-- the memory when the run begins -/
def mE (gg : Row) : Mem := setR (setR (setR (mM_0 (setR mS 145 (fun _ => 0))) 146 gg) 156 (fun _ => 0)) 157 (fun _ => 0)
theorem mM_lo {M : Mem} {q : Nat} (h : q < 145) : mM_0 M q = M q := by
  unfold mM_0
  simp (disch := omega) only [setR_ne, put_ne]
theorem mM_145 {M : Mem} : mM_0 M 145 = upd (M 145) 22 (-1) := rfl
theorem mE_lo {gg : Row} {q : Nat} (h : q < 145) : mE gg q = mS q := by
  unfold mE
  rw [setR_ne (by omega), setR_ne (by omega), setR_ne (by omega), mM_lo h, setR_ne (by omega)]
theorem mE_145 {gg : Row} : mE gg 145 = upd (fun _ => 0) 22 (-1) := by
  unfold mE
  rw [setR_ne (by decide), setR_ne (by decide), setR_ne (by decide), mM_145, setR_self]
theorem mE_146 {gg : Row} : mE gg 146 = gg := by
  unfold mE
  rw [setR_ne (by decide), setR_ne (by decide), setR_self]
theorem mE_far {gg : Row} {q : Nat} (h : q < 145) (h2 : q < 10 ∨ 23 ≤ q) : mE gg q = mGe q := by
  rw [mE_lo h]
  exact mS_SR.2 q h2
theorem gR_WF : WF gR := by
  refine ⟨⟨⟨0, by decide, rfl, ⟨0, by decide, rfl⟩, ⟨0, by decide, rfl⟩⟩, ⟨6, by decide, by decide, rfl, fun k hk => ?_⟩, ⟨3, by decide, by decide, rfl⟩⟩, ⟨Or.inl rfl, ⟨0, by decide, rfl⟩, ⟨0, by decide, rfl⟩, ⟨0, by decide, rfl⟩⟩, ⟨0, by decide, rfl, fun k hk => absurd hk (Nat.not_lt_zero k)⟩, ⟨0, by decide, rfl, fun k hk => absurd hk (Nat.not_lt_zero k)⟩, ⟨0, by decide, rfl, fun k hk => absurd hk (Nat.not_lt_zero k)⟩⟩
  rcases (show k = 0 ∨ k = 1 ∨ k = 2 ∨ k = 3 ∨ k = 4 ∨ k = 5 by omega) with rfl | rfl | rfl | rfl | rfl | rfl
  · exact ⟨6, by decide, rfl⟩
  · exact ⟨9, by decide, rfl⟩
  · exact ⟨12, by decide, rfl⟩
  · exact ⟨4, by decide, rfl⟩
  · exact ⟨0, by decide, rfl⟩
  · exact ⟨8, by decide, rfl⟩
set_option maxRecDepth 100000 in
theorem mG_zs : ∀ p ∈ stL, p ≠ 10 → mGe (p + 5) 0 = nI 30 ∧ mGe (p + 9) 0 = nI 90 := by decide +kernel
set_option maxRecDepth 100000 in
theorem mG_vals : mGe 24 1 = nI 0 ∧ mGe 24 2 = nI 0 ∧ mGe 0 7 = 0 ∧ mGe 1 1 = nI 0 ∧ mGe 1 8 = 0 ∧ mGe 1 9 = -1 ∧ mGe 143 1 = nI 0 := by decide +kernel
/-- where the run begins both sides stand alike -/
theorem rr_start {gg : Row} (hgg : REq gR gg) : RR (mE gg) (mE gg) := by
  obtain ⟨v1, v2, v3, v4, v5, v6, v7⟩ := mG_vals
  have hSR : SR (mE gg) 10 gg := SR_ext gR_WF (SR_congr mS_SR.1 (fun q h1 h2 => mE_lo (by omega))) hgg
  refine ⟨⟨by rw [mE_146]; exact hSR, by rw [mE_146]; exact WF_ext gR_WF hgg⟩, ⟨0, 0, by decide, by decide, ?_, ?_, ?_, fun i hi => absurd hi (Nat.not_lt_zero i)⟩, Or.inl ⟨?_, ?_⟩, ⟨⟨0, by decide, ?_, ?_, fun k hk => absurd hk (Nat.not_lt_zero k)⟩, ?_, ?_⟩, ⟨0, by decide, ?_, ?_, fun k hk => absurd hk (Nat.not_lt_zero k)⟩, fun p hp => ?_⟩
  · rw [mE_far (by decide) (by decide)]; exact v1
  · rw [mE_far (by decide) (by decide)]; exact v2
  · rw [mE_145]; rfl
  · rw [mE_far (by decide) (by decide)]; exact v3
  · rw [mE_145]; rfl
  · rw [mE_far (by decide) (by decide)]; exact v4
  · rw [mE_145]; rfl
  · rw [mE_far (by decide) (by decide), mE_145, v5]; rfl
  · rw [mE_far (by decide) (by decide), mE_145, v6]; rfl
  · rw [mE_far (by decide) (by decide)]; exact v7
  · rw [mE_145]; rfl
  · by_cases e : p = 10
    · subst e
      obtain ⟨-, -, -, -, -, -, -, h1, -, h2⟩ := hSR
      obtain ⟨-, -, h1, -⟩ := h1
      obtain ⟨-, -, h2, -⟩ := h2
      exact ⟨h1, h2⟩
    · have := st_lt p hp
      obtain ⟨a1, a2⟩ := mG_zs p hp e
      rw [mE_far (by omega) (by omega), mE_far (by omega) (by omega)]
      exact ⟨a1, a2⟩
theorem no_traces {l : Launch} (h : l.flags = flags0) : l.stackTraces = false := by
  unfold Launch.stackTraces
  rw [h]
  decide +kernel
set_option maxHeartbeats 4000000 in
set_option maxRecDepth 100000 in
theorem whole_start {p : Program} {e : Env} {s : State} {m : MethodId} {below : List Frame} {meth : Method} {c : Code} (l : Launch) (hflags : l.flags = flags0) {b L : Nat} {xs : Nat → Int32} (hL : L ≤ 3072) (C0 : lw_At p s m meth c b L xs) : W p l e room_1 s m #[Value.ref b] below meth c s.heap [] 0 0 (lw_Z below #[Value.ref b] s) (entryFrame m ([Value.ref b] : List Value).toArray 10) := by
  obtain ⟨hx, hb, hr, hml, hown, hts, hX, hbl, hlocks, hgv⟩ := id C0
  obtain ⟨w, had, hlo, hG, hao, hnc⟩ := start_at C0
  have hst := no_traces hflags
  have hl := lv_entry ([.ref b]) (n := 10) (Nat.le_of_ble_eq_true rfl)
  rw [lg_entry_eq]
  generalize (lg_sl ([.ref b]) ++ List.replicate (10 - (lg_sl ([.ref b])).length) Slot.unset).toArray = ls at hl ⊢
  have hl : lv_has ls 10 [(0, .ref b)] := hl
  have hP : Rp (wg w 0 (Z0 146)) (fun _ _ => 0) s.heap := fun k q h => by
    have h : ([] : va_W)[k]? = some q := h
    simp at h
  obtain ⟨gg, hgg, hM⟩ := c_M_init l had (setR mS 145 (fun _ => 0))
  have key : Go p l e room_1 s m #[Value.ref b] below meth c (wg w 0 (Z0 146)) 10 0 0 (fun (_ : Unit) => lw_Z below #[Value.ref b] s) (some ()) 0 [(0, .ref b)] [] (fun _ _ => 0) := by
    have g0 := hG 0 (Z0 146) (by decide)
    have g1 := hG 1 zG_0 (by decide)
    have g2 := hG 145 (Z0 146) (by decide)
    have g3 := hG 146 zM_0 (by decide)
    have g4 := hG 156 (Z0 146) (by decide)
    have g5 := hG 157 (zfr (Z0 146) 156 22 1) (by decide)
    have g6 := hG 158 (Z0 146) (by decide)
    refine G_new g0 (pc := 0) had (by decide) (by show s.heap.size + 0 = _; omega) nw_L_8 ⟨(Nat.le_of_ble_eq_true rfl), (Nat.le_of_ble_eq_true rfl)⟩ d_W_0 ?_
    refine G_dup g1 (pc := 3) d_W_3 rfl ?_
    refine G_init g1 (pc := 4) (As := []) (q := 0) (j2 := 145) (z2 := Z0 146) (M2 := mS) (st := [.ref (wad w 0)]) had hao (by decide) (by decide) (by show s.heap.size + 1 = _; omega) ci_L_91 rfl (c_G_init l had) rfl ⟨(Nat.le_of_ble_eq_true rfl), (Nat.le_of_ble_eq_true rfl)⟩ ⟨(Nat.le_of_ble_eq_true rfl), (Nat.le_of_ble_eq_true rfl)⟩ (Nat.le_of_ble_eq_true rfl) d_W_4 ?_
    refine G_astore_n g2 (pc := 7) _ d_W_7 rfl (Nat.le_of_ble_eq_true rfl) rfl ?_
    refine G_new g2 (pc := 8) had (by decide) (by show s.heap.size + 145 = _; omega) nw_L_92 ⟨(Nat.le_of_ble_eq_true rfl), (Nat.le_of_ble_eq_true rfl)⟩ d_W_8 ?_
    refine G_dup g3 (pc := 11) d_W_11 rfl ?_
    refine G_init g3 (pc := 12) (As := []) (q := 145) (j2 := 156) (z2 := Z0 146) (M2 := setR (mM_0 (setR mS 145 (fun _ => 0))) 146 gg) (st := [.ref (wad w 145)]) had hao (by decide) (by decide) (by show s.heap.size + 146 = _; omega) ci_L_94 rfl hM rfl ⟨(Nat.le_of_ble_eq_true rfl), (Nat.le_of_ble_eq_true rfl)⟩ ⟨(Nat.le_of_ble_eq_true rfl), (Nat.le_of_ble_eq_true rfl)⟩ (Nat.le_of_ble_eq_true rfl) d_W_12 ?_
    refine G_astore_n g4 (pc := 15) _ d_W_15 rfl (Nat.le_of_ble_eq_true rfl) rfl ?_
    refine G_iconst g4 (pc := 16) (1 : Int32) d_W_16 rfl ?_
    refine G_newJ g4 (pc := 17) had (by decide) (by show s.heap.size + 156 = _; omega) (TT_in (i := 1972) (by decide +kernel) (by decide +kernel)) ⟨(Nat.le_of_ble_eq_true rfl), (Nat.le_of_ble_eq_true rfl)⟩ d_W_17 ?_
    refine G_astore_n g5 (pc := 19) _ d_W_19 rfl (Nat.le_of_ble_eq_true rfl) rfl ?_
    refine G_iconst g5 (pc := 20) (1 : Int32) d_W_20 rfl ?_
    refine G_newD g5 (pc := 21) had (by decide) (by show s.heap.size + 157 = _; omega) (TT_in (i := 1973) (by decide +kernel) (by decide +kernel)) ⟨(Nat.le_of_ble_eq_true rfl), (Nat.le_of_ble_eq_true rfl)⟩ d_W_21 ?_
    rw [z_end]
    refine G_astore g6 (pc := 23) _ d_W_23 (Nat.le_of_ble_eq_true rfl) rfl ?_
    refine G_iconst g6 (pc := 25) (0 : Int32) d_W_25 rfl ?_
    refine G_istore g6 (pc := 26) _ d_W_26 (Nat.le_of_ble_eq_true rfl) rfl ?_
    refine G_sub [5, 4, 3, 2, 1, 0] (LL (wg w 158 (Z0 146)) b 0) rfl ?_
    intro r hr0 H locs ls hP hS hl
    refine law_run l hst g6 hnc ⟨⟨rfl, fun p hp => List.mem_range.mpr (by omega)⟩, ⟨rfl, fun p h1 h2 => List.mem_range.mpr (by omega), Or.inl rfl⟩, List.mem_range.mpr (by decide), List.mem_range.mpr (by decide)⟩ ⟨hX, hbl, ?_, hL⟩ hr hlo (Nat.le_of_ble_eq_true rfl) (Nat.le_of_ble_eq_true rfl) (rr_start hgg) hP hS hl
    show ¬ wlo w ≤ b
    omega
  exact key () rfl s.heap [] ls hP va_S.rf hl
