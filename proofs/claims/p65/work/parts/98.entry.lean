/-! the law from its entry -/
set_option maxHeartbeats 4000000 in
set_option maxRecDepth 100000 in
theorem law_entry {p : Program} {e : Env} {s : State} {m : MethodId} {below : List Frame} {meth : Method} {c : Code} (l : Launch) {N rr : Nat} {V : Nat → Mem → Row → Nat → Option Row → Prop} {lst : Row → List Int32} {actR : Row → Int32 → Row} (hPK : PK N rr V lst actR) (hPL : PL N rr V) (hN : 400 < N) {b L : Nat} {xs : Nat → Int32} (hL : L ≤ 260) (C0 : lw_At p s m meth c b L xs) : W p l e room_1 s m #[Value.ref b] below meth c s.heap [] 0 0 (lw_Z below #[Value.ref b] s) (entryFrame m ([Value.ref b] : List Value).toArray 11) := by
  obtain ⟨hx, hb, hr, hml, hown, hts, hX, hbl, hlocks, hgv⟩ := id C0
  obtain ⟨w, had, hlo, hG, hao⟩ := start_at C0
  have hl := lv_entry ([.ref b]) (n := 11) (Nat.le_of_ble_eq_true rfl)
  rw [lg_entry_eq]
  generalize (lg_sl ([.ref b]) ++ List.replicate (11 - (lg_sl ([.ref b])).length) Slot.unset).toArray = ls at hl ⊢
  have hl : lv_has ls 11 [(0, .ref b)] := hl
  have hP : Rp (wg w 0 (Z0 146)) (fun _ _ => 0) s.heap := fun k q h => by
    have h : ([] : va_W)[k]? = some q := h
    simp at h
  have hLX : LX s w b L xs := ⟨hX, hbl, by show ¬ wlo w ≤ b; omega, by omega⟩
  have hend : ∀ j z n L2 M, j < 900 → n ≤ 1000000 → Go p l e room_1 s m #[Value.ref b] below meth c (wg w j z) 11 j n (fun (_ : Unit) => lw_Z below #[Value.ref b] s) (some ()) 445 L2 [.int 1] M := by
    intro j z n L2 M hj hn r hr' H locs ls2 hP2 hS2 hl2
    refine W.widen (Nat.le_trans (by show j ≤ 600000; omega) room_ok.1) (Nat.le_trans (by show n ≤ 7000000; omega) room_ok.2) (va_forget (fun q hq => ?_) ?_)
    · have h := hS2.2.2 q hq
      rw [← hlo]
      exact h
    · refine W.base ?_
      exact lw_ret (Drawn.sameBut.refl s.drawn lw_cs) hx hb hr hlocks d_L_law_445
  have key : Go p l e room_1 s m #[Value.ref b] below meth c (wg w 0 (Z0 146)) 11 0 0 (fun (_ : Unit) => lw_Z below #[Value.ref b] s) (some ()) 0 [(0, .ref b)] [] (fun _ _ => 0) := by
    have g0 := hG 0 (Z0 146) (by decide)
    have g1 := hG 1 zG_0 (by decide)
    have g2 := hG 145 (Z0 146) (by decide)
    have g3 := hG 146 (zfr (Z0 146) 145 20 6) (by decide)
    have g4 := hG 147 zB (by decide)
    refine G_new g0 (pc := 0) had (by decide) (by show s.heap.size + 0 = _; omega) nw_L_9 ⟨(Nat.le_of_ble_eq_true rfl), (Nat.le_of_ble_eq_true rfl)⟩ d_L_law_0 ?_
    refine G_dup g1 (pc := 3) d_L_law_3 rfl ?_
    refine G_init g1 (pc := 4) (As := []) (q := 0) (j2 := 145) (z2 := Z0 146) (M2 := mS) (st := [.ref (wad w 0)]) had hao (by decide) (by decide) (by show s.heap.size + 1 = _; omega) ci_L_202 rfl (c_G_init l had) rfl ⟨(Nat.le_of_ble_eq_true rfl), (Nat.le_of_ble_eq_true rfl)⟩ ⟨(Nat.le_of_ble_eq_true rfl), (Nat.le_of_ble_eq_true rfl)⟩ (Nat.le_of_ble_eq_true rfl) d_L_law_4 ?_
    refine G_astore_n g2 (pc := 7) _ d_L_law_7 rfl (Nat.le_of_ble_eq_true rfl) rfl ?_
    refine G_bipush g2 (pc := 8) (6 : Int32) d_L_law_8 rfl ?_
    refine G_newI g2 (pc := 10) (N := 6) had (by decide) (by show s.heap.size + 145 = _; omega) aI (by decide) ⟨(Nat.le_of_ble_eq_true rfl), (Nat.le_of_ble_eq_true rfl)⟩ d_L_law_10 ?_
    refine G_astore_n g3 (pc := 12) _ d_L_law_12 rfl (Nat.le_of_ble_eq_true rfl) rfl ?_
    refine G_sub [2, 1, 0] [(0, .ref b), (1, .ref (wad w 0)), (2, .ref (wad w 145))] rfl ?_
    refine G_aload_n g3 (pc := 13) 0 d_L_law_13 rfl rfl ?_
    refine G_iconst g3 (pc := 14) (0 : Int32) d_L_law_14 rfl ?_
    refine G_cell (l := l) g3 (k0 := 0) hLX (by decide) ⟨(Nat.le_of_ble_eq_true rfl), (Nat.le_of_ble_eq_true rfl)⟩ ⟨(Nat.le_of_ble_eq_true rfl), (Nat.le_of_ble_eq_true rfl)⟩ (Nat.le_of_ble_eq_true rfl) d_L_law_15 ?_
    refine G_istore_n g3 (pc := 18) _ d_L_law_18 rfl (Nat.le_of_ble_eq_true rfl) rfl ?_
    refine G_sub [1, 2, 3, 0] [(0, .ref b), (1, .ref (wad w 0)), (2, .ref (wad w 145)), (3, .int (cellV L xs 0))] rfl ?_
    refine G_new g3 (pc := 19) had (by decide) (by show s.heap.size + 146 = _; omega) nw_L_207 ⟨(Nat.le_of_ble_eq_true rfl), (Nat.le_of_ble_eq_true rfl)⟩ d_L_law_19 ?_
    refine G_dup g4 (pc := 22) d_L_law_22 rfl ?_
    refine G_ldcS g4 (pc := 23) 9 (List.elem_iff.mp (by decide +kernel)) d_L_law_23 ?_
    refine G_gV (RG_I g4 (pc := 25) (q := 146) (As := [.ref (wad w (1000 + 9))]) (st := [.ref (wad w 146)]) had hao (by decide) (by decide) (by show s.heap.size + 147 = _; omega) cj_W_211 rfl (c_sbi l had MB (by decide) (by decide) (by decide) rfl rfl) rfl ⟨(Nat.le_of_ble_eq_true rfl), (Nat.le_of_ble_eq_true rfl)⟩ ⟨(Nat.le_of_ble_eq_true rfl), (Nat.le_of_ble_eq_true rfl)⟩ (Nat.le_of_ble_eq_true rfl) d_L_law_25) (fun z2 M2 hh => ?_)
    exact law_28 l hPK hN had hao hlo.symm hG hLX hend hPL (by decide) hh.1 hh.2
  exact key () rfl s.heap [] ls hP va_S.rf hl
