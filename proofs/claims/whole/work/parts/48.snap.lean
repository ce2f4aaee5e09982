/-! when the bridle snaps -/
theorem inc_ne {g : Row} {k j : Nat} (h : j ≠ k) : inc g k j = g j := if_neg h
theorem s_pass_14 {g : Row} (W : WF g) (h6 : ¬ g 6 = 2) : (¬ s_pass g 6 = 2 ∧ s_pass g 14 = g 14) ∨ (s_pass g 6 = 2 ∧ s_pass g 14 = g 14 + 1 ∧ ¬ g 0 = 10000) := by
  unfold s_pass s_tk
  by_cases c : g 0 = 10000
  · rw [if_pos c]; exact Or.inl ⟨h6, rfl⟩
  · rw [if_neg c, if_neg h6, inc_ne (show (6 : Nat) ≠ 0 by decide), inc_ne (show (14 : Nat) ≠ 0 by decide)]
    by_cases c1 : g 6 = 1
    · rw [if_pos c1]
      obtain ⟨Wg0, Wk0, Wb0, Wl0, -⟩ := W
      show (¬ s_try (s_f3 (s_wind g (g 7)) g) 6 = 2 ∧ s_try (s_f3 (s_wind g (g 7)) g) 14 = g 14) ∨ (s_try (s_f3 (s_wind g (g 7)) g) 6 = 2 ∧ s_try (s_f3 (s_wind g (g 7)) g) 14 = g 14 + 1 ∧ ¬ g 0 = 10000)
      generalize s_wind g (g 7) = w
      have hl : Ws 30 45 17 (s_f3 w g) := Ws_congr Wl0 (s_f3_out Wb0 (by omega) (by omega) (by omega)) (fun j h1 h2 => s_f3_out Wb0 (by omega) (by omega) (by omega))
      rw [s_try_out hl (by omega) (by omega), s_try_out hl (by omega) (by omega)]
      have f1 : ∀ j, (j = 6 ∨ j = 14) → s_f1 w g j = g j := fun j hj => by
        show s_buf w (inc g 12) j = g j
        rw [s_buf_out (Wb_inc12 Wb0) (by omega) (by omega), inc_at, if_neg (by omega)]
      have e14 : s_f3 w g 14 = s_f2 w g 14 := s_cl_at (by decide) (by decide)
      rw [e14]
      rcases s_strain_or (g := s_f1 w g) (w := w) with e | e
      · have e2 : s_f2 w g = s_str w (s_f1 w g) := e
        refine Or.inl ⟨?_, ?_⟩
        · show ¬ s_cl w (s_f2 w g) 6 = 2
          rw [e2]
          have h61 : s_str w (s_f1 w g) 6 = 1 := by rw [s_str_at (by decide), f1 6 (by omega)]; exact c1
          unfold s_cl s_climb
          rw [if_pos h61]
          by_cases d : s_hgt w (s_str w (s_f1 w g)) = 0
          · rw [if_pos d, upd_at, if_pos rfl]; decide
          · rw [if_neg d, upd_at, if_neg (by decide), h61]; decide
        · rw [e2, s_str_at (by decide), f1 14 (by omega)]
      · have e2 : s_f2 w g = s_snap w (s_str w (s_f1 w g)) := e
        refine Or.inr ⟨?_, ?_, c⟩
        · show s_cl w (s_f2 w g) 6 = 2
          rw [e2]
          unfold s_cl
          rw [if_neg (by show ¬ (2 : Int32) = 1; decide)]
          rfl
        · rw [e2]
          show s_str w (s_f1 w g) 14 + 1 = g 14 + 1
          rw [s_str_at (by decide), f1 14 (by omega)]
    · rw [if_neg c1]; exact Or.inl ⟨h6, rfl⟩
theorem s_pass_idle {g : Row} (h6 : ¬ g 6 = 2) (h1 : ¬ g 6 = 1) : s_pass g 6 = g 6 ∧ s_pass g 14 = g 14 := by
  unfold s_pass s_tk
  by_cases c : g 0 = 10000
  · rw [if_pos c]; exact ⟨rfl, rfl⟩
  · rw [if_neg c, if_neg h6, if_neg h1, inc_at, if_neg (by decide), inc_at, if_neg (by decide)]; exact ⟨rfl, rfl⟩
/-- 200 ticks over the row: n are left -/
def sna : Nat → Row → Int32
  | 0, _ => -1
  | n + 1, g => if g 14 < s_pass g 14 then nI (200 - n) else sna n (s_pass g)
theorem sna_s {n : Nat} {g : Row} : sna (n + 1) g = if g 14 < s_pass g 14 then nI (200 - n) else sna n (s_pass g) := rfl
theorem WF_14 {g : Row} (W : WF g) : ∃ s, s ≤ 10000 ∧ g 14 = nI s := by
  obtain ⟨⟨t, ht, h0, ⟨s, hs, e⟩, -⟩, -⟩ := W.1
  exact ⟨s, by omega, e⟩
theorem lt_self_1 {s : Nat} (h : s ≤ 10000) : nI s < nI s + 1 := by rw [nI_1]; exact nI_lt (by omega) (by omega)
theorem sna_idle {n : Nat} : ∀ {g : Row}, WF g → g 6 = 0 ∨ g 6 = 2 ∨ g 0 = 10000 → (g 6 = 2 → s_pass g 14 = g 14) → sna n g = -1 := by
  induction n with
  | zero => intro g _ _ _; rfl
  | succ n ih =>
    intro g W h hs
    rw [sna_s]
    have key : s_pass g 14 = g 14 ∧ (s_pass g 6 = 0 ∨ s_pass g 6 = 2 ∨ s_pass g 0 = 10000) ∧ (s_pass g 6 = 2 → s_pass (s_pass g) 14 = s_pass g 14) := by
      rcases h with h | h | h
      · obtain ⟨e6, e14⟩ := s_pass_idle (g := g) (by rw [h]; decide) (by rw [h]; decide)
        exact ⟨e14, Or.inl (e6.trans h), fun q => absurd (q.symm.trans (e6.trans h)) (by decide)⟩
      · have two : ∀ g : Row, g 6 = 2 → s_pass g 6 = 2 ∧ s_pass g 14 = g 14 := fun g h => by
          unfold s_pass s_tk
          by_cases c : g 0 = 10000
          · rw [if_pos c]; exact ⟨h, rfl⟩
          · rw [if_neg c, if_pos h, inc_at, if_neg (by decide), inc_at, if_neg (by decide), upd_at, if_neg (by decide), upd_at, if_neg (by decide)]
            exact ⟨h, rfl⟩
        obtain ⟨a, b⟩ := two g h
        exact ⟨b, Or.inr (Or.inl a), fun q => (two _ q).2⟩
      · have e : s_pass g = g := if_pos h
        rw [e]
        exact ⟨rfl, Or.inr (Or.inr h), fun q => by rw [e]⟩
    rw [key.1, if_neg Int32.lt_irrefl]
    exact ih (s_pass_W W) key.2.1 key.2.2
theorem lpR_snap {N0 : Nat} {c1 : Int32} (hN0 : 8 < N0) : ∀ (n N : Nat) (M : Mem), n ≤ 200 → n < N → WF (M 146) → M 146 14 = c1 → ∃ r : Row, lp_M_untilSnap_10 N0 146 c1 N (nI (201 - n)) M (fun (a6 : Int32) (M5 : Mem) => some ((-1 : Int32), M5)) = some (sna n (M 146), setR M 146 r) := by
  intro n
  induction n with
  | zero =>
    intro N M hn hN W h
    obtain ⟨N, rfl⟩ : ∃ n, N = n + 1 := ⟨N - 1, by omega⟩
    unfold lp_M_untilSnap_10
    rw [if_neg (by decide)]
    exact ⟨M 146, by rw [setR_same]; rfl⟩
  | succ n ih =>
    intro N M hn hN W h
    obtain ⟨N, rfl⟩ : ∃ n, N = n + 1 := ⟨N - 1, by omega⟩
    obtain ⟨s, hs, es⟩ := WF_14 W
    unfold lp_M_untilSnap_10
    rw [if_pos (by show nI (201 - (n + 1)) ≤ nI 200; exact nI_le (by omega) (by omega)), R_pass1 hN0 W, bndM_s, setR_self, sna_s, ← h]
    by_cases c : M 146 14 < s_pass (M 146) 14
    · rw [if_pos c, if_pos c, show 201 - (n + 1) = 200 - n from by omega]
      exact ⟨_, rfl⟩
    · rw [if_neg c, if_neg c, nm_eq, nI_1, show 201 - (n + 1) + 1 = 201 - n from by omega]
      have e14 : s_pass (M 146) 14 = M 146 14 := by
        by_cases h6 : M 146 6 = 2
        · unfold s_pass s_tk
          by_cases c0 : M 146 0 = 10000
          · rw [if_pos c0]
          · rw [if_neg c0, if_pos h6, inc_at, if_neg (by decide), upd_at, if_neg (by decide)]
        · rcases s_pass_14 W h6 with q | q
          · exact q.2
          · exact absurd (by rw [q.2.1, es]; exact lt_self_1 hs) c
      obtain ⟨r, e⟩ := ih N (setR M 146 (s_pass (M 146))) (by omega) (by omega) (by rw [setR_self]; exact s_pass_W W) (by rw [setR_self, e14]; exact h)
      rw [setR_self, setR_setR] at e
      exact ⟨r, by rw [h]; exact e⟩
theorem lpC_snap {N0 rr t : Nat} : ∀ (n N : Nat) (M : Mem) (g : Row), n ≤ 200 → n < N → FC M g t (200 - n) → ¬ g 6 = 2 → ∃ κ : Row, lp_G_ticksToSnap_32 N0 rr N (nI (200 - n)) M (fun (a9 : Int32) (M8 : Mem) => some ((-1 : Int32), M8)) = some (sna n g, setR M 23 κ) := by
  intro n
  induction n with
  | zero =>
    intro N M g hn hN h h6
    obtain ⟨N, rfl⟩ : ∃ n, N = n + 1 := ⟨N - 1, by omega⟩
    unfold lp_G_ticksToSnap_32
    rw [if_neg (by decide)]
    exact ⟨M 23, by rw [setR_same]; rfl⟩
  | succ n ih =>
    intro N M g hn hN h h6
    obtain ⟨N, rfl⟩ : ∃ n, N = n + 1 := ⟨N - 1, by omega⟩
    obtain ⟨s, hs, es⟩ := WF_14 h.1
    unfold lp_G_ticksToSnap_32
    rw [if_pos (by show nI (200 - (n + 1)) < nI 200; exact nI_lt (by omega) (by omega)), h.2.2.2.1, nI_add]
    rcases Nat.lt_or_ge (t + (200 - (n + 1))) 10000 with q | q
    · obtain ⟨κ, e1, e2, e3, e4⟩ := FC_step h q
      rw [if_pos (by show nI (t + (200 - (n + 1))) < nI 10000; exact nI_lt q (by omega)), e1, bnd_s, e2, bndM_s, setR_self, e4.1, sna_s]
      rcases s_pass_14 h.1 h6 with r | r
      · have c : ¬ g 14 < s_pass g 14 := by rw [r.2]; exact Int32.lt_irrefl
        rw [if_neg r.1, if_neg c, nm_eq, nI_1]
        rw [show 200 - (n + 1) + 1 = 200 - n from by omega] at e3 ⊢
        obtain ⟨κ', f⟩ := ih N (setR M 23 κ) (s_pass g) (by omega) (by omega) e3 r.1
        exact ⟨κ', by rw [f, setR_setR]⟩
      · have c : g 14 < s_pass g 14 := by rw [r.2.1, es]; exact lt_self_1 hs
        rw [if_pos r.1, if_pos c, nI_1, show 200 - (n + 1) + 1 = 200 - n from by omega]
        exact ⟨κ, rfl⟩
    · have e : t + (200 - (n + 1)) = 10000 := by have := h.2.2.1; omega
      have e10 : g 0 = 10000 := by rw [h.2.1, e]; rfl
      rw [if_neg (by show ¬ nI (t + (200 - (n + 1))) < nI 10000; exact nI_nlt q (by omega)), sna_idle h.1 (Or.inr (Or.inr e10)) (fun z => absurd z h6)]
      exact ⟨M 23, by rw [setR_same]⟩
theorem j_ticksToSnap {N : Nat} (hN : 300 < N) : JA (f_G_ticksToSnap N 146) (f_M_ticksToSnap N 146) := fun Mc Mr H => by
  obtain ⟨t, ht, e0, -⟩ := H.w.1.1
  obtain ⟨r1, q1, q2⟩ := R_aside (M := put Mr 145 8 0)
  have p : (put Mr 145 8 0) 146 = Mr 146 := put_ne (by decide)
  have e146 : (setR (put Mr 145 8 0) 148 r1) 146 = Mr 146 := by rw [setR_at, if_neg (by decide), p]
  rw [p] at q2
  obtain ⟨r2, u⟩ := lpR_snap (N0 := N) (c1 := Mr 146 14) (by omega) 200 N (setR (put Mr 145 8 0) 148 r1) (by omega) (by omega) (by rw [e146]; exact H.w) (by rw [e146])
  rw [e146] at u
  obtain ⟨r3, q3, q4⟩ := R_back (M := setR (setR (put Mr 145 8 0) 148 r1) 146 r2) (a := sna 200 (Mr 146))
  have q5 : REq (Mr 146) r3 := by
    have : (setR (setR (put Mr 145 8 0) 148 r1) 146 r2) 148 = r1 := by rw [setR_at, if_neg (by decide), setR_self]
    rw [this] at q4
    exact q2.trans q4
  have hr : f_M_ticksToSnap N 146 Mr = some (sna 200 (Mr 146), setR (setR (setR (put Mr 145 8 0) 148 r1) 146 r2) 146 r3) := by
    unfold f_M_ticksToSnap f_M_untilSnap
    rw [nm_eq, q1, bndM_s, nm_eq, e146]
    have u' : lp_M_untilSnap_10 N 146 (Mr 146 14) N (1 : Int32) (setR (put Mr 145 8 0) 148 r1) (fun (a6 : Int32) (M5 : Mem) => some ((-1 : Int32), M5)) = _ := u
    rw [u', bnd_s, q3, bnd_s]
  have fr : Fr 145 156 Mr (setR (setR (setR (put Mr 145 8 0) 148 r1) 146 r2) 146 r3) := (((Fr.rf.put (by omega) (by omega)).set (by omega) (by omega)).set (by omega) (by omega)).set (by omega) (by omega)
  have back : ∀ κ : Row, RR (setR Mc 23 κ) (setR (setR (setR (put Mr 145 8 0) 148 r1) 146 r2) 146 r3) := fun κ => RR_fore H (fun q hq => by rw [setR_at, if_neg hq]) (by rw [setR_self]; exact q5) (fun q hq => by
    rw [setR_at, if_neg (by omega), setR_at, if_neg (by omega), setR_at, if_neg (by omega), put_ne (by omega)]) (fun k hk => by
    rw [setR_at, if_neg (by decide), setR_at, if_neg (by decide), setR_at, if_neg (by decide), put_row, upd_at, if_neg (by omega)])
  unfold f_G_ticksToSnap
  rw [hr, H.k.1]
  by_cases c : Mr 146 6 = 1
  · obtain ⟨κ, k1, k2⟩ := K_copy (M := Mc) (p := 23) (a := 11) (by decide) H.k
    obtain ⟨κ', f1⟩ := lpC_snap (N0 := N) (rr := 146) (t := t) 200 N (setR Mc 23 κ) (Mr 146) (by omega) (by omega) (FC_0 H e0 ht k2) (by rw [c]; decide)
    rw [setR_setR] at f1
    exact ⟨_, _, _, by rw [if_pos c, k1, bndM_s]; exact f1, rfl, back κ', Fr.rf.set (by omega) (by omega), fr⟩
  · have : sna 200 (Mr 146) = -1 := by
      refine sna_idle H.w ((H.w.2.1.1).elim Or.inl (fun q => q.elim (fun q => absurd q c) (fun q => Or.inr (Or.inl q)))) (fun h6 => ?_)
      unfold s_pass s_tk
      by_cases c0 : Mr 146 0 = 10000
      · rw [if_pos c0]
      · rw [if_neg c0, if_pos h6, inc_at, if_neg (by decide), upd_at, if_neg (by decide)]
    rw [if_neg c, this]
    have b := back (Mc 23)
    rw [setR_same] at b
    exact ⟨-1, Mc, _, rfl, rfl, b, Fr.rf, fr⟩
