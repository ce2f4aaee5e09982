/-! the station's text is read -/
def G1 (M M' : Mem) : Prop := (∀ q, q ≠ 1 → M' q = M q) ∧ ∀ k, k < 3 → M' 1 k = M 1 k
theorem G1.rf {M : Mem} : G1 M M := ⟨fun _ _ => rfl, fun _ _ => rfl⟩
theorem Fs.g {M M' : Mem} (h : Fs M M') : G1 M M' := ⟨h.1, fun k hk => h.2 k (by omega)⟩
theorem G1.trans {M M' M2 : Mem} (h : G1 M M') (h2 : G1 M' M2) : G1 M M2 := ⟨fun q a => (h2.1 q a).trans (h.1 q a), fun k a => (h2.2 k a).trans (h.2 k a)⟩
theorem G1.put {M M' : Mem} {k : Nat} {v : Int32} (h : G1 M M') (hk : 3 ≤ k) : G1 M (put M' 1 k v) := ⟨fun q a => by rw [put_ne a]; exact h.1 q a, fun j hj => by rw [put_row, upd_at, if_neg (by omega)]; exact h.2 j hj⟩
theorem decs_dig : ∀ v, v < 1000 → (∀ x, x ∈ decs v → 48 ≤ x ∧ x ≤ 57) ∧ dvl 0 (decs v) = v := by
  intro v hv
  unfold decs
  by_cases h1 : v < 10
  · rw [if_pos h1]
    refine ⟨fun x hx => ?_, ?_⟩
    · simp only [List.mem_cons, List.not_mem_nil, or_false] at hx
      omega
    · show 0 * 10 + (48 + v) - 48 = v
      omega
  · rw [if_neg h1]
    by_cases h2 : v < 100
    · rw [if_pos h2]
      refine ⟨fun x hx => ?_, ?_⟩
      · simp only [List.mem_cons, List.not_mem_nil, or_false] at hx
        omega
      · show (0 * 10 + (48 + v / 10) - 48) * 10 + (48 + v % 10) - 48 = v
        omega
    · rw [if_neg h2]
      refine ⟨fun x hx => ?_, ?_⟩
      · simp only [List.mem_cons, List.not_mem_nil, or_false] at hx
        omega
      · show ((0 * 10 + (48 + v / 100) - 48) * 10 + (48 + v / 10 % 10) - 48) * 10 + (48 + v % 10) - 48 = v
        omega
section L
variable {N N0 rr : Nat} {M : Mem} {r post w : List Nat}
theorem ad_num {v : Nat} (hN : 500 < N) (hv : v < 1000) (h : TA M (32 :: (decs v ++ post))) (hp : ∀ x t, post = x :: t → kd x ≠ 2) : ∃ M', f_X_advance N rr M = some M' ∧ TN M' v post ∧ Fs M M' := by
  have l := decs_le v
  obtain ⟨d1, d2⟩ := decs_dig v hv
  obtain ⟨M', e, t, f⟩ := adv_num (N := N) (rr := rr) (bl := [32]) (w := decs v) (post := post) hN h (Or.inr rfl) l.1 (by omega) d1 hp
  rw [d2] at t
  exact ⟨M', e, t, f⟩
theorem ad_word {i : Nat} (hN : 500 < N) (h : TA M (txS i ++ post)) (hi : i = 1 ∨ i = 2 ∨ i = 3) (hp : ∀ x t, post = x :: t → kd x ≠ 1) : ∃ M', f_X_advance N rr M = some M' ∧ TW M' (txS i) post ∧ Fs M M' := by
  have k : 1 ≤ (txS i).length ∧ ∀ x, x ∈ txS i → kd x = 1 := by
    rcases hi with rfl | rfl | rfl
    · exact ⟨by decide +kernel, by decide +kernel⟩
    · exact ⟨by decide +kernel, by decide +kernel⟩
    · exact ⟨by decide +kernel, by decide +kernel⟩
  exact adv_word (N := N) (rr := rr) (bl := []) (w := txS i) (post := post) hN h (Or.inl rfl) k.1 k.2 hp
theorem tk_w {i : Nat} (hN : 500 < N) (hi : i < 12) (h : TW M (txS i) post) : f_X_takeWord N rr i M = bndM (f_X_advance N rr M) fun (M4 : Mem) => some (true, M4) := take_w hN (by omega) h (txS_len i) (fun k hk => ((txS_f i hi).2 k hk).1)
/-- a number, and a number behind it -/
theorem nn_step {v x lo hi : Nat} (hN : 500 < N) (h : TN M v (32 :: (decs x ++ post))) (h1 : lo ≤ v) (h2 : v ≤ hi) (h3 : hi < 2 ^ 31) (hx : x < 1000) (hp : ∀ x t, post = x :: t → kd x ≠ 2) : ∃ M', f_X_takeNumber N rr (nI lo) (nI hi) M = some (true, M') ∧ TN M' x post ∧ M' 1 7 = nI v ∧ G1 M M' := by
  obtain ⟨M', e, t, f⟩ := ad_num (N := N) (rr := rr) hN hx (h.2.2.pt (k := 7) (v := nI v) (by omega)) hp
  refine ⟨M', by rw [take_n h h1 h2 h3, e, bndM_s], t, ?_, (G1.rf.put (by omega)).trans f.g⟩
  rw [f.2 7 (by omega), put_row, upd_at, if_pos rfl]
/-- a number, and a semicolon behind it -/
theorem ns_step {v lo hi : Nat} (hN : 500 < N) (h : TN M v (59 :: post)) (h1 : lo ≤ v) (h2 : v ≤ hi) (h3 : hi < 2 ^ 31) : ∃ M', f_X_takeNumber N rr (nI lo) (nI hi) M = some (true, M') ∧ TS M' post ∧ M' 1 7 = nI v ∧ G1 M M' := by
  obtain ⟨M', e, t, f⟩ := adv_sem (N := N) (rr := rr) hN (h.2.2.pt (k := 7) (v := nI v) (by omega))
  refine ⟨M', by rw [take_n h h1 h2 h3, e, bndM_s], t, ?_, (G1.rf.put (by omega)).trans f.g⟩
  rw [f.2 7 (by omega), put_row, upd_at, if_pos rfl]
/-- the plan's own cells are not the reader's -/
theorem TA.o {p k : Nat} {v : Int32} (h : TA M r) (hp : p = 3 ∨ p = 4) : TA (put M p k v) r := by
  obtain ⟨nx, h5, hr⟩ := h
  exact ⟨nx, by rw [put_ne (by omega)]; exact h5, hr.kept (by rw [put_ne (by omega)]) (put_ne (by omega))⟩
theorem TN.o {p k v : Nat} {x : Int32} (h : TN M v r) (hp : p = 3 ∨ p = 4) : TN (put M p k x) v r := ⟨by rw [put_ne (by omega)]; exact h.1, by rw [put_ne (by omega)]; exact h.2.1, h.2.2.o hp⟩
theorem TS.o {p k : Nat} {x : Int32} (h : TS M r) (hp : p = 3 ∨ p = 4) : TS (put M p k x) r := ⟨by rw [put_ne (by omega)]; exact h.1, h.2.o hp⟩
theorem TW.o {p k : Nat} {x : Int32} (h : TW M w r) (hp : p = 3 ∨ p = 4) : TW (put M p k x) w r := by
  obtain ⟨h3, st, h4, h5, hr⟩ := h
  exact ⟨by rw [put_ne (by omega)]; exact h3, st, by rw [put_ne (by omega)]; exact h4, by rw [put_ne (by omega)]; exact h5, hr.kept (by rw [put_ne (by omega)]) (put_ne (by omega))⟩
/-- what reading keeps -/
def FP (M M' : Mem) : Prop := (∀ q, q ≠ 1 → q ≠ 3 → q ≠ 4 → M' q = M q) ∧ ∀ k, k < 3 → M' 1 k = M 1 k
theorem FP.rf : FP M M := ⟨fun _ _ _ _ => rfl, fun _ _ => rfl⟩
theorem G1.f {M' : Mem} (h : G1 M M') : FP M M' := ⟨fun q a _ _ => h.1 q a, h.2⟩
theorem FP.trans {M' M2 : Mem} (h : FP M M') (h2 : FP M' M2) : FP M M2 := ⟨fun q a b c => (h2.1 q a b c).trans (h.1 q a b c), fun k a => (h2.2 k a).trans (h.2 k a)⟩
theorem FP.put {M' : Mem} {p k : Nat} {v : Int32} (h : FP M M') (hp : p = 3 ∨ p = 4) : FP M (put M' p k v) := ⟨fun q a b c => by rw [put_ne (by omega)]; exact h.1 q a b c, fun j hj => by rw [put_ne (by omega)]; exact h.2 j hj⟩
theorem kd32 : kd 32 = 6 := rfl
theorem kd59 : kd 59 = 3 := rfl
theorem hd32 {k : Nat} (hk : k ≠ 6) : ∀ x t, (32 :: r : List Nat) = x :: t → kd x ≠ k := fun x t e => by
  obtain rfl : 32 = x := (List.cons.inj e).1
  rw [kd32]
  omega
theorem hd59 {k : Nat} (hk : k ≠ 3) : ∀ x t, (59 :: r : List Nat) = x :: t → kd x ≠ k := fun x t e => by
  obtain rfl : 59 = x := (List.cons.inj e).1
  rw [kd59]
  omega
theorem rd_kite {a b c : Nat} (hN : 500 < N) (ha : 1 ≤ a ∧ a ≤ 4) (hb : 1 ≤ b ∧ b ≤ 80) (hc : 1 ≤ c ∧ c ≤ 300) (hp : ∀ x t, post = x :: t → kd x ≠ 1) (h : TW M (txS 1) (32 :: (decs a ++ (32 :: (decs b ++ (32 :: (decs c ++ (59 :: (txS 2 ++ post))))))))) : ∃ M', f_P_readKite N rr M = some (true, M') ∧ TW M' (txS 2) post ∧ M' 3 0 = nI a ∧ M' 3 1 = nI b ∧ M' 3 2 = nI c ∧ FP M M' := by
  obtain ⟨M1, e1, t1, f1⟩ := ad_num (N := N) (rr := rr) (v := a) hN (by omega) h.ta (hd32 (by decide))
  obtain ⟨M2, e2, t2, q2, f2⟩ := nn_step (N := N) (rr := rr) (lo := 1) (hi := 4) hN t1 ha.1 ha.2 (by omega) (by omega) (hd32 (by decide))
  have t2' := t2.o (p := 3) (k := 0) (x := nI a) (Or.inl rfl)
  obtain ⟨M3, e3, t3, q3, f3⟩ := nn_step (N := N) (rr := rr) (lo := 1) (hi := 999) hN t2' hb.1 (by omega) (by omega) (by omega) (hd59 (by decide))
  have t3' := t3.o (p := 3) (k := 1) (x := nI b) (Or.inl rfl)
  obtain ⟨M4, e4, t4, q4, f4⟩ := ns_step (N := N) (rr := rr) (lo := 1) (hi := 9999) hN t3' hc.1 (by omega) (by omega)
  have t4' := t4.o (p := 3) (k := 2) (x := nI c) (Or.inl rfl)
  obtain ⟨M5, e5, t5, f5⟩ := ad_word (N := N) (rr := rr) (i := 2) hN t4'.2 (Or.inr (Or.inl rfl)) hp
  refine ⟨M5, ?_, t5, ?_, ?_, ?_, ?_⟩
  · unfold f_P_readKite
    rw [tk_w hN (by omega) h, e1, bndM_s, bnd_s, if_pos rfl, show f_X_takeNumber N rr (1 : Int32) (4 : Int32) M1 = some (true, M2) from e2, bnd_s, if_pos rfl, nm_eq, q2, show f_X_takeNumber N rr (1 : Int32) (999 : Int32) (put M2 3 0 (nI a)) = some (true, M3) from e3, bnd_s, if_pos rfl, nm_eq, q3, show f_X_takeNumber N rr (1 : Int32) (9999 : Int32) (put M3 3 1 (nI b)) = some (true, M4) from e4, bnd_s, if_pos rfl, nm_eq, q4, take_s t4'.1, e5, bndM_s, bnd_s]
  · rw [f5.1 3 (by decide), put_row, upd_at, if_neg (by decide), f4.1 3 (by decide), put_row, upd_at, if_neg (by decide), f3.1 3 (by decide), put_row, upd_at, if_pos rfl]
  · rw [f5.1 3 (by decide), put_row, upd_at, if_neg (by decide), f4.1 3 (by decide), put_row, upd_at, if_pos rfl]
  · rw [f5.1 3 (by decide), put_row, upd_at, if_pos rfl]
  · exact (((((f1.g.trans f2).f.put (Or.inl rfl)).trans f3.f).put (Or.inl rfl)).trans f4.f |>.put (Or.inl rfl)).trans f5.g.f
/-- the gusts -/
def TG (M : Mem) (gs : List Nat) (post : List Nat) : Prop := match gs with
  | [] => TS M post
  | g :: t => TN M g (gsT t ++ (59 :: post))
theorem ad_g {gs : List Nat} (hN : 500 < N) (hg : ∀ g, g ∈ gs → g ≤ 30) (h : TA M (gsT gs ++ (59 :: post))) : ∃ M', f_X_advance N rr M = some M' ∧ TG M' gs post ∧ Fs M M' := by
  cases gs with
  | nil => exact adv_sem (N := N) (rr := rr) hN h
  | cons g t =>
    have hh : TA M (32 :: (decs g ++ (gsT t ++ (59 :: post)))) := by
      have e : gsT (g :: t) ++ (59 :: post) = 32 :: (decs g ++ (gsT t ++ (59 :: post))) := by
        show ([32] ++ decs g ++ gsT t) ++ (59 :: post) = _
        rw [List.append_assoc, List.append_assoc]
        rfl
      rw [← e]
      exact h
    refine ad_num (N := N) (rr := rr) hN (by have := hg g (List.mem_cons_self ..); omega) hh ?_
    cases t with
    | nil => exact hd59 (by decide)
    | cons g2 t2 =>
      intro x s e
      have e2 : 32 :: (decs g2 ++ gsT t2 ++ (59 :: post)) = x :: s := e
      obtain rfl : 32 = x := (List.cons.inj e2).1
      decide
theorem lp_gs {k : Int32 → Mem → Option (Bool × Mem)} (hN0 : 500 < N0) : ∀ (gs : List Nat) (m N : Nat) (M : Mem), gs.length < N → m + gs.length ≤ 8 → 1 ≤ m + gs.length → (∀ g, g ∈ gs → g ≤ 30) → TG M gs post → M 3 5 = nI m → ∃ M', lp_P_readGusts_18 N0 rr N (nI m) M k = k (nI (m + gs.length)) M' ∧ TS M' post ∧ M' 3 5 = nI (m + gs.length) ∧ (∀ j, j < m → M' 4 j = M 4 j) ∧ (∀ j, j < gs.length → M' 4 (m + j) = nI (gs.getD j 0)) ∧ (∀ j, j ≠ 5 → M' 3 j = M 3 j) ∧ FP M M' := by
  intro gs
  induction gs with
  | nil =>
    intro m N M hN h1 h2 _ t h5
    obtain ⟨N, rfl⟩ : ∃ n, N = n + 1 := ⟨N - 1, by omega⟩
    have hm : m + ([] : List Nat).length = m := rfl
    rw [hm] at h1 h2 ⊢
    have t' : TS M post := t
    refine ⟨M, ?_, t', h5, fun _ _ => rfl, fun j hj => absurd hj (Nat.not_lt_zero _), fun _ _ => rfl, FP.rf⟩
    unfold lp_P_readGusts_18
    rw [if_pos (show nI m ≤ 16 from nI_le (b := 16) (by omega) (by omega)), if_neg (nI_ne0 (by omega) (by omega)), t'.1, if_neg (by decide)]
  | cons g s ih =>
    intro m N M hN h1 h2 hg t h5
    rw [List.length_cons] at hN h1
    obtain ⟨N, rfl⟩ : ∃ n, N = n + 1 := ⟨N - 1, by omega⟩
    have t' : TN M g (gsT s ++ (59 :: post)) := t
    have g30 := hg g (List.mem_cons_self ..)
    have ck := chk_n (lo := 0) (hi := 30) t' (by omega) g30 (by omega)
    have pa : f_G_putAt 4 (nI m) (nI g) M = some (put M 4 m (nI g)) := C_putAt (a := 4) (k := m) (by show m < 16; omega) (by decide)
    obtain ⟨M1, e1, t1, f1⟩ := ad_g (N := N0) (rr := rr) (gs := s) (post := post) hN0 (fun x hx => hg x (List.mem_cons_of_mem _ hx)) ((t'.2.2.o (p := 4) (k := m) (v := nI g) (Or.inr rfl)).o (p := 3) (k := 5) (v := nI (m + 1)) (Or.inl rfl))
    obtain ⟨M2, e2, t2, k5, a1, a2, a3, f2⟩ := ih (m + 1) N M1 (by omega) (by omega) (by omega) (fun x hx => hg x (List.mem_cons_of_mem _ hx)) t1 (by rw [f1.1 3 (by decide), put_row, upd_at, if_pos rfl])
    have e4 : M1 4 = upd (M 4) m (nI g) := by rw [f1.1 4 (by decide), put_ne (by decide), put_row]
    refine ⟨M2, ?_, t2, ?_, fun j hj => ?_, fun j hj => ?_, fun j hj => ?_, ((((FP.rf (M := M)).put (p := 4) (k := m) (v := nI g) (Or.inr rfl)).put (p := 3) (k := 5) (v := nI (m + 1)) (Or.inl rfl)).trans f1.g.f).trans f2⟩
    · have body : ∀ o : Option (Bool × Mem), (bnd (f_X_checkNumber (0 : Int32) (30 : Int32) M) fun (x4 : Bool) (M5 : Mem) => if x4 = true then (if nI m = (16 : Int32) then (bnd (f_X_fail (3 : Int32) M5) fun (x6 : Bool) (M7 : Mem) => some (x6, M7)) else (bndM (f_G_putAt 4 (nI m) (M5 1 6) M5) fun (M9 : Mem) => nm (put M9 3 5 (nI m + (1 : Int32))) fun (M10 : Mem) => bndM (f_X_advance N0 rr M10) fun (M12 : Mem) => nm (nI m + (1 : Int32)) fun (x13 : Int32) => lp_P_readGusts_18 N0 rr N x13 M12 k)) else (some (false, M5))) = lp_P_readGusts_18 N0 rr N (nI (m + 1)) M1 k := fun _ => by
        rw [show f_X_checkNumber (0 : Int32) (30 : Int32) M = some (true, M) from ck, bnd_s, if_pos rfl, if_neg (show ¬ nI m = (16 : Int32) from nd (m := 16) (by omega) (by omega) (by omega)), t'.2.1, pa, bndM_s, nm_eq, nI_1, e1, bndM_s, nm_eq]
      unfold lp_P_readGusts_18
      rw [if_pos (show nI m ≤ 16 from nI_le (b := 16) (by omega) (by omega)), List.length_cons, show m + (s.length + 1) = m + 1 + s.length from by omega, ← e2]
      by_cases z : nI m = 0
      · rw [if_pos z]
        exact body none
      · rw [if_neg z, t'.1, if_pos rfl]
        exact body none
    · rw [k5, List.length_cons]
      congr 1
      omega
    · rw [a1 j (by omega), e4, upd_at, if_neg (by omega)]
    · cases j with
      | zero =>
        show M2 4 m = nI g
        rw [a1 m (by omega), e4, upd_at, if_pos rfl]
      | succ j =>
        rw [List.length_cons] at hj
        have := a2 j (by omega)
        rw [show m + (j + 1) = m + 1 + j from by omega, this]
        rfl
    · rw [a3 j hj, f1.1 3 (by decide), put_row, upd_at, if_neg hj, put_ne (by decide)]
theorem rd_gusts {gs : List Nat} (hN : 500 < N) (h1 : 1 ≤ gs.length) (h8 : gs.length ≤ 8) (hg : ∀ g, g ∈ gs → g ≤ 30) (hp : ∀ x t, post = x :: t → kd x ≠ 1) (h : TW M (txS 2) (gsT gs ++ (59 :: (txS 3 ++ post)))) : ∃ M', f_P_readGusts N rr M = some (true, M') ∧ TW M' (txS 3) post ∧ M' 3 5 = nI gs.length ∧ (∀ j, j < gs.length → M' 4 j = nI (gs.getD j 0)) ∧ (∀ j, j ≠ 5 → M' 3 j = M 3 j) ∧ FP M M' := by
  obtain ⟨M1, e1, t1, f1⟩ := ad_g (N := N) (rr := rr) hN hg h.ta
  have t1' : TG (put M1 3 5 0) gs (txS 3 ++ post) := by
    cases gs with
    | nil => exact TS.o t1 (Or.inl rfl)
    | cons g t => exact TN.o t1 (Or.inl rfl)
  obtain ⟨M2, e2, t2, k5, a1, a2, a3, f2⟩ := lp_gs (N0 := N) (rr := rr) (k := fun (a25 : Int32) (M24 : Mem) => bnd (f_X_takeSign N rr (3 : Int32) M24) fun (x26 : Bool) (M27 : Mem) => some (x26, M27)) hN gs 0 N (put M1 3 5 0) (by omega) (by omega) (by omega) hg t1' (by rw [put_row, upd_at, if_pos rfl]; rfl)
  obtain ⟨M3, e3, t3, f3⟩ := ad_word (N := N) (rr := rr) (i := 3) hN t2.2 (Or.inr (Or.inr rfl)) hp
  refine ⟨M3, ?_, t3, ?_, fun j hj => ?_, fun j hj => ?_, ((f1.g.f.put (Or.inl rfl)).trans f2).trans f3.g.f⟩
  · unfold f_P_readGusts
    rw [tk_w hN (by omega) h, e1, bndM_s, bnd_s, if_pos rfl, nm_eq]
    refine Eq.trans e2 ?_
    rw [take_s t2.1, e3, bndM_s, bnd_s]
  · rw [f3.1 3 (by decide), k5, Nat.zero_add]
  · have := a2 j hj
    rw [Nat.zero_add] at this
    rw [f3.1 4 (by decide)]
    exact this
  · rw [f3.1 3 (by decide), a3 j hj, put_row, upd_at, if_neg hj, f1.1 3 (by decide)]
theorem rd_inter {i : Nat} (hN : 500 < N) (hi : 1 ≤ i ∧ i ≤ 4) (h : TW M (txS 3) (32 :: (decs i ++ [59]))) : ∃ M', f_P_readInterval N rr M = some (true, M') ∧ TE M' ∧ M' 3 3 = nI i ∧ (∀ j, j ≠ 3 → M' 3 j = M 3 j) ∧ M' 4 = M 4 ∧ FP M M' := by
  obtain ⟨M1, e1, t1, f1⟩ := ad_num (N := N) (rr := rr) (v := i) hN (by omega) h.ta (hd59 (by decide))
  obtain ⟨M2, e2, t2, q2, f2⟩ := ns_step (N := N) (rr := rr) (lo := 1) (hi := 20) hN t1 hi.1 (by omega) (by omega)
  have t2' := t2.o (p := 3) (k := 3) (x := nI i) (Or.inl rfl)
  obtain ⟨M3, e3, t3, f3⟩ := adv_end (N := N) (rr := rr) hN t2'.2
  refine ⟨M3, ?_, t3, ?_, fun j hj => ?_, ?_, (((f1.g.trans f2).f).put (Or.inl rfl)).trans f3.g.f⟩
  · unfold f_P_readInterval
    rw [tk_w hN (by omega) h, e1, bndM_s, bnd_s, if_pos rfl, show f_X_takeNumber N rr (1 : Int32) (20 : Int32) M1 = some (true, M2) from e2, bnd_s, if_pos rfl, nm_eq, q2, take_s t2'.1, e3, bndM_s, bnd_s]
  · rw [f3.1 3 (by decide), put_row, upd_at, if_pos rfl]
  · rw [f3.1 3 (by decide), put_row, upd_at, if_neg hj, f2.1 3 (by decide), f1.1 3 (by decide)]
  · rw [f3.1 4 (by decide), put_ne (by decide), f2.1 4 (by decide), f1.1 4 (by decide)]
theorem kT_shape {a b c i : Nat} {gs : List Nat} : kText a b c gs i = txS 1 ++ (32 :: (decs a ++ (32 :: (decs b ++ (32 :: (decs c ++ (59 :: (txS 2 ++ (gsT gs ++ (59 :: (txS 3 ++ (32 :: (decs i ++ [59])))))))))))))  := by
  unfold kText
  rw [show txS 9 = txS 1 ++ [32] by decide +kernel, show txS 10 = [59] ++ txS 2 by decide +kernel, show txS 11 = [59] ++ (txS 3 ++ [32]) by decide +kernel]
  simp only [List.append_assoc, List.cons_append, List.nil_append]
theorem rd_all {a b c i : Nat} {gs : List Nat} (hN : 500 < N) (ha : 1 ≤ a ∧ a ≤ 4) (hb : 1 ≤ b ∧ b ≤ 80) (hc : 1 ≤ c ∧ c ≤ 300) (h1 : 1 ≤ gs.length) (h8 : gs.length ≤ 8) (hg : ∀ g, g ∈ gs → 2 ≤ g ∧ g ≤ 14) (hi : 1 ≤ i ∧ i ≤ 4) (hl : (kText a b c gs i).length ≤ 500) (h2 : ∀ j, j < (kText a b c gs i).length → (kText a b c gs i).getD j 0 < 256 ∧ M 2 j &&& 255 = nI ((kText a b c gs i).getD j 0)) : ∃ M', f_P_read N rr (nI (kText a b c gs i).length) M = some (true, M') ∧ M' 3 0 = nI a ∧ M' 3 1 = nI b ∧ M' 3 2 = nI c ∧ M' 3 3 = nI i ∧ M' 3 5 = nI gs.length ∧ (∀ j, j < gs.length → M' 4 j = nI (gs.getD j 0)) ∧ (∀ q, q ≠ 1 → q ≠ 3 → q ≠ 4 → M' q = M q) ∧ M' 1 1 = M 1 1 := by
  obtain ⟨M0, e0⟩ : ∃ M0, M0 = put (put (put (put M 1 2 (nI (kText a b c gs i).length)) 1 5 0) 1 8 0) 1 9 (-1) := ⟨_, rfl⟩
  have o : ∀ q, q ≠ 1 → M0 q = M q := fun q hq => by rw [e0, put_ne hq, put_ne hq, put_ne hq, put_ne hq]
  have o2 : M0 1 2 = nI (kText a b c gs i).length := by rw [e0, put_row, upd_at, if_neg (by decide), put_row, upd_at, if_neg (by decide), put_row, upd_at, if_neg (by decide), put_row, upd_at, if_pos rfl]
  have o5 : M0 1 5 = nI 0 := by rw [e0, put_row, upd_at, if_neg (by decide), put_row, upd_at, if_neg (by decide), put_row, upd_at, if_pos rfl]; rfl
  have o1 : M0 1 1 = M 1 1 := by rw [e0, put_row, upd_at, if_neg (by decide), put_row, upd_at, if_neg (by decide), put_row, upd_at, if_neg (by decide), put_row, upd_at, if_neg (by decide)]
  have ta : TA M0 (kText a b c gs i) := ⟨0, o5, by rw [Nat.zero_add]; exact o2, by omega, fun k hk => by rw [Nat.zero_add, o 2 (by decide)]; exact h2 k hk⟩
  rw [kT_shape] at ta
  obtain ⟨M1, e1, t1, f1⟩ := ad_word (N := N) (rr := rr) (i := 1) hN ta (Or.inl rfl) (hd32 (by decide))
  have hgs : ∀ x t, (gsT gs ++ (59 :: (txS 3 ++ (32 :: (decs i ++ [59]))))) = x :: t → kd x ≠ 1 := by
    cases gs with
    | nil => simp at h1
    | cons g t =>
      intro x s e
      have e2 : 32 :: (decs g ++ gsT t ++ (59 :: (txS 3 ++ (32 :: (decs i ++ [59]))))) = x :: s := e
      obtain rfl : 32 = x := (List.cons.inj e2).1
      decide
  obtain ⟨M2, e2, t2, p0, p1, p2, f2⟩ := rd_kite (N := N) (rr := rr) hN ha hb hc hgs t1
  obtain ⟨M3, e3, t3, p5, p4, p3, f3⟩ := rd_gusts (N := N) (rr := rr) hN h1 h8 (fun g hg2 => by have := hg g hg2; omega) (hd32 (by decide)) t2
  obtain ⟨M4, e4, t4, q3, q3o, q4, f4⟩ := rd_inter (N := N) (rr := rr) hN hi t3
  obtain ⟨M5, e5, t5, f5⟩ := adv_end (N := N) (rr := rr) hN t4.2
  have fr := (((f1.g.f.trans f2).trans f3).trans f4).trans f5.g.f
  refine ⟨M5, ?_, ?_, ?_, ?_, ?_, ?_, fun j hj => ?_, fun q a1 a2 a3 => ?_, ?_⟩
  · have bg : f_X_begin N rr (nI (kText a b c gs i).length) M = some M1 := by
      unfold f_X_begin
      rw [nm_eq, nm_eq, nm_eq, nm_eq, ← e0, e1, bndM_s]
    unfold f_P_read
    rw [bg, bndM_s, e2, bnd_s, if_pos rfl, e3, bnd_s, if_pos rfl, e4, bnd_s, if_pos rfl, take_s t4.1, e5, bndM_s, bnd_s, if_pos rfl]
  · rw [f5.1 3 (by decide), q3o 0 (by decide), p3 0 (by decide)]; exact p0
  · rw [f5.1 3 (by decide), q3o 1 (by decide), p3 1 (by decide)]; exact p1
  · rw [f5.1 3 (by decide), q3o 2 (by decide), p3 2 (by decide)]; exact p2
  · rw [f5.1 3 (by decide)]; exact q3
  · rw [f5.1 3 (by decide), q3o 5 (by decide)]; exact p5
  · rw [f5.1 4 (by decide), q4]; exact p4 j hj
  · rw [fr.1 q a1 a2 a3, o q a1]
  · rw [fr.2 1 (by omega), o1]
end L
