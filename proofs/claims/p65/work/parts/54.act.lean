/-! the law's acts: the rows, the ticks -/
def VV (i : Nat) (M : Mem) (g : Row) (c : Nat) (sn : Option Row) : Prop := VM M g c sn ∧ (∃ t, t ≤ 60 * i ∧ RJ t i g) ∧ ∀ s, sn = some s → ∃ t, t ≤ 60 * i ∧ RJ t i s
def AC (rr i : Nat) (M : Mem) (g : Row) (c : Nat) (sn : Option Row) (g' : Row) (M2 : Mem) : Prop := ∃ c2, VV (i + 1) M2 g' c2 sn ∧ (∀ p, 145 ≤ p → M2 p = M p) ∧ (c2 = c → c < 8 → rowL g' = rowL g) ∧ (c2 = c + 1 → ∀ Mx : Mem, (∀ p, p < 145 → Mx p = M2 p) → ∃ M3, f_G_undo rr Mx = some (nI c, M3) ∧ VV (i + 1) M3 g c sn ∧ ∀ p, 145 ≤ p → M3 p = Mx p)
def AG (rr i : Nat) (M : Mem) (g : Row) (c : Nat) (sn : Option Row) (o : Option (Bool × Mem)) (g' : Row) : Prop := ∃ M2, o = some (true, M2) ∧ AC rr i M g c sn g' M2
theorem VV.up {i c : Nat} {M : Mem} {g : Row} {sn : Option Row} (h : VV i M g c sn) : VV (i + 1) M g c sn := by
  obtain ⟨h1, ⟨t, ht, hj⟩, h3⟩ := h
  refine ⟨h1, ⟨t, by omega, RJ_up hj⟩, fun s hs => ?_⟩
  obtain ⟨u, hu, hk⟩ := h3 s hs
  exact ⟨u, by omega, RJ_up hk⟩
theorem VV.of {i c c2 : Nat} {M M2 : Mem} {g g2 : Row} {sn : Option Row} (h : VV i M g c sn) (h2 : VM M2 g2 c2 sn) (h3 : ∃ t, t ≤ 60 * i ∧ RJ t i g2) : VV i M2 g2 c2 sn := ⟨h2, h3, h.2.2⟩
theorem VV.rc {i c : Nat} {M : Mem} {g : Row} {sn : Option Row} (h : VV i M g c sn) : RC M g := h.1.1
theorem VV.k23 {i c : Nat} {M : Mem} {g : Row} {sn : Option Row} (h : VV i M g c sn) (κ : Row) : VV i (setR M 23 κ) g c sn := h.of (h.1.k23 κ) h.2.1
theorem AC.same {rr i c : Nat} {M : Mem} {g : Row} {sn : Option Row} (h : VV i M g c sn) : AC rr i M g c sn g M := ⟨c, h.up, fun _ _ => rfl, fun _ _ => rfl, fun e => by omega⟩
theorem AC.from23 {rr i c : Nat} {M : Mem} {g g' : Row} {sn : Option Row} {κ : Row} {M2 : Mem} (h : AC rr i (setR M 23 κ) g c sn g' M2) : AC rr i M g c sn g' M2 := by
  obtain ⟨c2, h1, h2, h3⟩ := h
  exact ⟨c2, h1, fun p hp => by rw [h2 p hp]; exact setR_ne (by omega), h3⟩
theorem AC.chg {N rr i c k : Nat} {a b : Int32} {M : Mem} {g : Row} {sn : Option Row} (hN : 100 < N) (h : VV i M g c sn) (hi : i ≤ 100) (hk : 1 ≤ k ∧ k ≤ 8) (hb : s_bad k a b = false) (hs : s_stop k a g = false) (h60 : k = 8 → ∃ n, n ≤ 60 ∧ a = nI n) : ∃ M2, f_G_change N rr (nI k) a b M = some (s_an k a b g, M2) ∧ RC M2 (s_do k a b g) ∧ AC rr i M g c sn (s_do k a b g) M2 := by
  obtain ⟨M2, e1, e2, e3, nx, n1, n2, n3⟩ := VM_change (rr := rr) hN h.1 hb hs hk
  obtain ⟨t, ht, hj⟩ := h.2.1
  have hj2 : ∃ t', t' ≤ 60 * (i + 1) ∧ RJ t' (i + 1) (s_do k a b g) := by
    by_cases q : k = 8
    · subst q
      obtain ⟨n, hn, rfl⟩ := h60 rfl
      refine ⟨t + n, by omega, ?_⟩
      show RJ (t + n) (i + 1) (itr s_pass (cn (nI n)) g)
      rw [cn_nI (by omega)]
      exact RJ_up (itr_RJ hj (by omega))
    · exact ⟨t, by omega, do_RJ hj hb hs (by omega)⟩
  refine ⟨M2, e1, e2.1, min (c + 1) 8, h.up.of e2 hj2, fun p hp => e3 p (by omega), fun q1 q2 => by omega, fun q Mx hx => ?_⟩
  have c8 : c + 1 ≤ 8 := by omega
  have v : VM Mx (s_do k a b g) (c + 1) sn := by
    rw [Nat.min_eq_left c8] at e2
    exact VM_loc e2 hx
  obtain ⟨M3, u1, u2, u3⟩ := VM_undo (rr := rr) v h.rc.w n1 (by rw [hx 24 (by decide)]; exact n2) (SR_congr n3 (fun q _ h2 => hx q (by omega)))
  exact ⟨M3, u1, h.up.of u2 h.up.2.1, fun p hp => u3 p (by omega)⟩
def mo (v : Int32) (m : Nat) : Nat := cn (irm (v &&& (2147483647 : Int32)) (nI m))
theorem mask31 (v : Int32) : ∃ n, n < 2 ^ 31 ∧ v &&& (2147483647 : Int32) = nI n := by
  refine ⟨(v &&& (2147483647 : Int32)).toBitVec.toNat, ?_, ?_⟩
  · rw [Int32.toBitVec_and, BitVec.toNat_and]
    exact Nat.lt_of_le_of_lt Nat.and_le_right (by decide)
  · apply Int32.toBitVec_inj.mp
    show _ = BitVec.ofNat 32 _
    rw [BitVec.ofNat_toNat]
    simp
theorem q_most (v : Int32) {m : Nat} (h1 : 1 ≤ m) (h2 : m ≤ 3000) (M : Mem) : f_L_most v (nI m) M = some (nI (mo v m), M) := by
  obtain ⟨n, hn, e⟩ := mask31 v
  unfold f_L_most mo
  rw [e, irm_nI hn (by omega) (by omega), cn_nI (by have := Nat.mod_lt n (show 0 < m by omega); omega), grd_of (nzB_nI (by omega) (by omega))]
theorem mo_lt (v : Int32) {m : Nat} (h1 : 1 ≤ m) (h2 : m ≤ 3000) : mo v m < m := by
  obtain ⟨n, hn, e⟩ := mask31 v
  have := Nat.mod_lt n (show 0 < m by omega)
  unfold mo
  rw [e, irm_nI hn (by omega) (by omega), cn_nI (by omega)]
  exact this
/-! ticks -/
theorem idle_at {g : Row} {j : Nat} (h6 : ¬ g 6 = 1) (h0 : j ≠ 0) (h1 : j ≠ 11) : s_pass g j = g j := by
  unfold s_pass s_tk
  by_cases c : g 0 = 10000
  · rw [if_pos c]
  · rw [if_neg c, inc_ne h0]
    by_cases d : g 6 = 2
    · rw [if_pos d, upd_at, if_neg h1]
    · rw [if_neg d, if_neg h6]
theorem idle_itr {j : Nat} (h0 : j ≠ 0) (h1 : j ≠ 11) : ∀ {n : Nat} {g : Row}, ¬ g 6 = 1 → itr s_pass n g j = g j := by
  intro n
  induction n with
  | zero => exact fun _ => rfl
  | succ n ih =>
    intro g h6
    have := ih (g := s_pass g) (by rw [idle_at h6 (by decide) (by decide)]; exact h6)
    exact this.trans (idle_at h6 h0 h1)
theorem beac_itr : ∀ {n t b : Nat} {g : Row}, g 6 = 2 → g 0 = nI t → t + n ≤ 10000 → g 11 = nI b → b ≤ 120 → itr s_pass n g 11 = nI (b - n) := by
  intro n
  induction n with
  | zero => exact fun _ _ _ h _ => h
  | succ n ih =>
    intro t b g h6 h0 ht h11 hb
    have g6 : ¬ g 6 = 1 := by rw [h6]; decide
    have e := pass_ne h0 (by omega)
    have e11 : s_pass g 11 = nI (b - 1) := by
      rw [e, inc_ne (by decide)]
      unfold s_tk
      rw [if_pos h6, upd_at, if_pos rfl, h11]
      exact imax0_sub (b := 1) (by omega) (by omega)
    have e0 : s_pass g 0 = nI (t + 1) := by
      rw [e, inc_at, if_pos rfl]
      unfold s_tk
      rw [if_pos h6, upd_at, if_neg (by decide), h0, nI_1]
    have := ih (g := s_pass g) (t := t + 1) (b := b - 1) (by rw [idle_at g6 (by decide) (by decide)]; exact h6) e0 (by omega) e11 (by omega)
    refine this.trans ?_
    congr 1
    omega
theorem sna_or : ∀ (n : Nat) (g : Row), n ≤ 200 → sna n g = -1 ∨ ∃ j, 200 - n < j ∧ j ≤ 200 ∧ sna n g = nI j := by
  intro n
  induction n with
  | zero => exact fun _ _ => Or.inl rfl
  | succ n ih =>
    intro g hn
    rw [sna_s]
    by_cases c : g 14 < s_pass g 14
    · rw [if_pos c]
      exact Or.inr ⟨200 - n, by omega, by omega, rfl⟩
    · rw [if_neg c]
      rcases ih (s_pass g) (by omega) with q | ⟨j, j1, j2, j3⟩
      · exact Or.inl q
      · exact Or.inr ⟨j, by omega, j2, j3⟩
theorem snap_itr : ∀ {n m : Nat} {g : Row}, WF g → ¬ g 6 = 2 → n ≤ m → m ≤ 200 → itr s_pass n g 14 = g 14 + b2i (decide (0 < sna m g ∧ sna m g ≤ nI (200 - m + n))) := by
  intro n
  induction n with
  | zero =>
    intro m g W h6 _ hm
    have : ¬ (0 < sna m g ∧ sna m g ≤ nI (200 - m + 0)) := by
      rcases sna_or m g hm with q | ⟨j, j1, j2, j3⟩
      · rw [q]; exact fun h => absurd h.1 (by decide)
      · rw [j3]
        exact fun h => absurd ((nI_leI (by omega) (by omega)).mp h.2) (by omega)
    rw [decide_eq_false this]
    show g 14 = g 14 + 0
    rw [Int32.add_zero]
  | succ n ih =>
    intro m g W h6 hn hm
    obtain ⟨m, rfl⟩ : ∃ k, m = k + 1 := ⟨m - 1, by omega⟩
    obtain ⟨s, hs, es⟩ := WF_14 W
    rw [sna_s]
    show itr s_pass n (s_pass g) 14 = _
    rcases s_pass_14 W h6 with r | r
    · have c : ¬ g 14 < s_pass g 14 := by rw [r.2]; exact Int32.lt_irrefl
      rw [if_neg c, ih (m := m) (s_pass_W W) r.1 (by omega) (by omega), r.2, show 200 - (m + 1) + (n + 1) = 200 - m + n from by omega]
    · have c : g 14 < s_pass g 14 := by rw [r.2.1, es]; exact lt_self_1 hs
      have t : 0 < nI (200 - m) ∧ nI (200 - m) ≤ nI (200 - (m + 1) + (n + 1)) := ⟨by show nI 0 < _; exact nI_lt (by omega) (by omega), nI_le (by omega) (by omega)⟩
      rw [if_pos c, idle_itr (by decide) (by decide) (by rw [r.1]; decide), r.2.1, decide_eq_true t]
      rfl
/-- one tick in the air -/
theorem fly_one {g : Row} {t c v : Nat} (W : WF g) (h6 : g 6 = 1) (h0 : g 0 = nI t) (ht : t ≤ 9999) (e16 : g 16 = nI c) (hc : c ≤ 8) (ew : s_wind g (g 7) = nI v) (hv : v ≤ 36) : ∃ k, k < 8 ∧ s_pass g 16 = nI (k + 1) ∧ s_pass g (37 + k) = nI v ∧ s_pass g 9 = g 9 + imax 0 (s_load g (nI v) - g 2) ∧ s_pass g 1 = g 1 := by
  have Wb0 := W.2.2.1
  have Wl0 := W.2.2.2.1
  have e6 : s_tk g = s_try (s_f3 (s_wind g (g 7)) g) := by
    unfold s_tk
    rw [if_neg (by rw [h6]; decide), if_pos h6]
    rfl
  rw [pass_ne h0 ht, e6, ew]
  have fo := fun (j : Nat) (x : (j ≠ 6 ∧ j ≠ 7 ∧ j ≠ 8 ∧ j ≠ 10 ∧ j ≠ 11 ∧ j ≠ 14) ∧ (j ≠ 9 ∧ j ≠ 12 ∧ j ≠ 16) ∧ (j < 37 ∨ 45 ≤ j)) => s_f3_out (w := nI v) Wb0 x.1 x.2.1 x.2.2
  have hl : Ws 30 45 17 (s_f3 (nI v) g) := Ws_congr Wl0 (fo 17 (by omega)) (fun j q1 q2 => fo j (by omega))
  have io : ∀ j, j ≠ 0 → j ≠ 17 ∧ j ≠ 19 ∧ j ≠ 20 → (j < 45 ∨ 135 ≤ j) → inc (s_try (s_f3 (nI v) g)) 0 j = s_f3 (nI v) g j := fun j q0 q1 q2 => by
    rw [inc_ne q0, s_try_out hl q1 q2]
  have e9 : s_f3 (nI v) g 9 = g 9 + imax 0 (s_load g (nI v) - g 2) := by
    show s_cl (nI v) (s_strain (nI v) (s_f1 (nI v) g)) 9 = _
    rw [s_cl_at (by decide) (by decide)]
    have k : s_str (nI v) (s_f1 (nI v) g) 9 = g 9 + imax 0 (s_load g (nI v) - g 2) := by
      unfold s_str
      rw [upd_at, if_pos rfl]
      unfold s_load
      rw [f1_at Wb0 (j := 9) (by decide) (by decide) (by omega), f1_at Wb0 (j := 1) (by decide) (by decide) (by omega), f1_at Wb0 (j := 2) (by decide) (by decide) (by omega)]
    rcases s_strain_or (w := nI v) (g := s_f1 (nI v) g) with q | q
    · rw [q]; exact k
    · rw [q, s_snap_at (by decide)]; exact k
  have ic : inc g 12 16 = nI c := by rw [inc_ne (by decide)]; exact e16
  rw [io 16 (by omega) (by omega) (by omega), io 9 (by omega) (by omega) (by omega), io 1 (by omega) (by omega) (by omega), s_f3_b (Or.inl rfl), f1_16 hc e16, fo 1 (by omega)]
  rcases Nat.lt_or_ge c 8 with q | q
  · refine ⟨c, q, by congr 1; omega, ?_, e9, rfl⟩
    rw [io (37 + c) (by omega) (by omega) (by omega), s_f3_b (by omega)]
    show s_buf (nI v) (inc g 12) (37 + c) = nI v
    rw [s_buf_small q ic, if_neg (by omega), if_pos rfl]
  · refine ⟨7, by omega, by congr 1; omega, ?_, e9, rfl⟩
    rw [io (37 + 7) (by omega) (by omega) (by omega), s_f3_b (by omega)]
    show s_buf (nI v) (inc g 12) (37 + 7) = nI v
    rw [s_buf_full (by rw [ic, show c = 8 from by omega]; rfl), if_neg (by omega), if_pos rfl]
theorem itr_18 {n : Nat} : ∀ {g : Row}, WF g → itr s_pass n g 18 = g 18 := by
  induction n with
  | zero => exact fun _ => rfl
  | succ n ih =>
    intro g W
    refine (ih (g := s_pass g) (s_pass_W W)).trans ?_
    by_cases c : g 6 = 1
    · unfold s_pass s_tk
      by_cases d : g 0 = 10000
      · rw [if_pos d]
      · rw [if_neg d, if_neg (by rw [c]; decide), if_pos c, inc_ne (by decide), s_fly_out W (by decide) (by decide) (by decide) (by decide)]
    · exact idle_at c (by decide) (by decide)
