/-! the changes, both sides -/
def keepdo (N c : Nat) (a b : Int32) (M : Mem) : Option (Int32 × Mem) := bndM (f_M_keep M) fun M2 => bnd (R_do N 146 c a b M2) fun x3 M4 => bnd (f_M_ends N 146 x3 M4) fun x5 M6 => some (x5, M6)
theorem C_change {N c : Nat} {a b : Int32} {Mc Mr : Mem} (H : RR Mc Mr) (hc : 1 ≤ c ∧ c ≤ 8) : f_G_change N 146 (nI c) a b Mc = if s_bad c a b = true then some (.inr 0, Mc) else if s_stop c a (Mr 146) = true then some (.inr 1, Mc) else (bndM (f_H_remember 146 10 Mc) fun M4 => bnd (f_T_perform N 146 10 (nI c) a b M4) fun x5 M6 => some (.inl x5, M6)) := by
  unfold f_G_change
  rw [C_fault H.w H.1.1 hc, bnd_s]
  cases s_bad c a b with
  | true => rfl
  | false => cases s_stop c a (Mr 146) <;> rfl
theorem J_keepdo {N c : Nat} {a b : Int32} {Mc Mr : Mem} (hN : 100 < N) (H : RR Mc Mr) (hc : 1 ≤ c ∧ c ≤ 8) (hb : s_bad c a b = false) : ∃ rc Mc' rm Mr', f_G_change N 146 (nI c) a b Mc = some (rc, Mc') ∧ keepdo N c a b Mr = some (rm, Mr') ∧ RR Mc' Mr' ∧ Fr 0 145 Mc Mc' ∧ Fr 145 156 Mr Mr' ∧ ((rc = .inl rm ∧ Mr' 145 8 = 0) ∨ (rc = .inr 1 ∧ s_stop c a (Mr 146) = true ∧ Mr' 145 8 = if c = 1 ∨ c = 7 then 1 else 2)) := by
  obtain ⟨r, k1, k2⟩ := R_keep (M := Mr)
  have e146 : (setR Mr 149 r) 146 = Mr 146 := by rw [setR_at, if_neg (by decide)]
  rw [C_change H hc, hb, if_neg (by decide)]
  unfold keepdo
  rw [k1, bndM_s]
  cases hs : s_stop c a (Mr 146) with
  | true =>
    rw [if_pos rfl, R_do_no (by rw [e146]; exact H.w) hb (by rw [e146]; exact hs) hc, bnd_s]
    have h0 : ¬ (if c = 1 ∨ c = 7 then (1 : Int32) else 2) = 0 := by
      by_cases q : c = 1 ∨ c = 7
      · rw [if_pos q]; decide
      · rw [if_neg q]; decide
    unfold f_M_ends
    rw [nm_eq, if_neg h0, bnd_s]
    refine ⟨_, _, _, _, rfl, rfl, ?_, Fr.rf, (Fr.rf.set (by omega) (by omega)).put (by omega) (by omega), Or.inr ⟨rfl, rfl, by rw [put_row, upd_at, if_pos rfl]⟩⟩
    refine RR_scr H (fun q hq => by rw [put_ne (by omega), setR_at, if_neg (by omega)]) (fun k hk => by rw [put_row, upd_at, if_neg (by omega), setR_at, if_neg (by decide)])
  | false =>
    rw [if_neg (by decide), R_do_ok (by decide) hN (by rw [e146]; exact H.w) hb (by rw [e146]; exact hs) hc, bnd_s, e146]
    have Wd := s_do_W H.w hb hs hc
    generalize hg' : s_do c a b (Mr 146) = g' at Wd
    generalize hv : s_an c a b (Mr 146) = v
    have ends : f_M_ends N 146 0 (res (setR Mr 149 r) 146 g' v) = bndM (f_M_record N 146 (put (res (setR Mr 149 r) 146 g' v) 145 8 0)) (fun (M3 : Mem) => some (M3 145 10, M3)) := by
      unfold f_M_ends
      rw [nm_eq, if_pos rfl]
    rw [ends]
    have m2 : ∀ q, q ≠ 145 → q ≠ 146 → q ≠ 149 → (put (res (setR Mr 149 r) 146 g' v) 145 8 0) q = Mr q := fun q a b c => by
      unfold res
      rw [put_ne a, put_ne a, setR_at, if_neg b, setR_at, if_neg c]
    have m145 : ∀ k, k ≠ 8 → k ≠ 10 → (put (res (setR Mr 149 r) 146 g' v) 145 8 0) 145 k = Mr 145 k := fun k a b => by
      unfold res
      rw [put_row, upd_at, if_neg a, put_row, upd_at, if_neg b, setR_at, if_neg (by decide), setR_at, if_neg (by decide)]
    have m146 : (put (res (setR Mr 149 r) 146 g' v) 145 8 0) 146 = g' := by
      unfold res
      rw [put_ne (by decide), put_ne (by decide), setR_self]
    have m149 : (put (res (setR Mr 149 r) 146 g' v) 145 8 0) 149 = r := by
      unfold res
      rw [put_ne (by decide), put_ne (by decide), setR_at, if_neg (by decide), setR_self]
    have m8 : (put (res (setR Mr 149 r) 146 g' v) 145 8 0) 145 8 = 0 := by rw [put_row, upd_at, if_pos rfl]
    have m10 : (put (res (setR Mr 149 r) 146 g' v) 145 8 0) 145 10 = v := by
      unfold res
      rw [put_row, upd_at, if_neg (by decide), put_row, upd_at, if_pos rfl]
    have fr2 : Fr 145 156 Mr (put (res (setR Mr 149 r) 146 g' v) 145 8 0) := fun q hq => m2 q (by omega) (by omega) (by omega)
    generalize put (res (setR Mr 149 r) 146 g' v) 145 8 0 = Mr2 at *
    obtain ⟨hst, hh, hsn, htx, hou, hz⟩ := H
    obtain ⟨Mc1, h', t', p1, p2, p3, p4, p5, p6⟩ := HH_push (N := N) (rr := 146) (Mr2 := Mr2) (by omega) hh hst hz (m2 _ (by decide) (by decide) (by decide)) (m145 _ (by decide) (by decide)) (by rw [m149]; exact k2)
    have s1 : SR Mc1 10 (Mr 146) := SR_congr hst.1 (fun q a b => p6 q (by omega))
    obtain ⟨Mc', c1, c2, c3⟩ := C_perform (N := N) (rr := 146) hN hst.2 s1 hb hs hc
    rw [hg'] at c2
    rw [p1, bndM_s, c1, bnd_s, p2, bndM_s, bnd_s]
    have n145 : (setR (setR Mr2 151 h') 145 t') 145 = t' := setR_self
    have nq : ∀ q, q ≠ 145 → q ≠ 151 → (setR (setR Mr2 151 h') 145 t') q = Mr2 q := fun q a b => by rw [setR_at, if_neg a, setR_at, if_neg b]
    have n151 : (setR (setR Mr2 151 h') 145 t') 151 = h' := by rw [setR_at, if_neg (by decide), setR_self]
    have nk : ∀ k, k ≠ 7 → k ≠ 8 → k ≠ 10 → (setR (setR Mr2 151 h') 145 t') 145 k = Mr 145 k := fun k a b c => by rw [n145, p3 k a, m145 k b c]
    have fc : ∀ q, (q < 10 ∨ q = 23 ∨ q = 25 ∨ 130 ≤ q) → Mc' q = Mc q := fun q hq => by rw [c3 q (by omega), p6 q (by omega)]
    refine ⟨_, _, _, _, rfl, by rw [n145, p3 10 (by decide), m10], ?_, fun q hq => fc q (by omega), fr2.trans (fun q hq => nq q (by omega) (by omega)), Or.inl ⟨?_, by rw [n145, p3 8 (by decide), m8]⟩⟩
    · refine ⟨⟨by rw [nq _ (by decide) (by decide), m146]; exact c2, by rw [nq _ (by decide) (by decide), m146]; exact Wd⟩, p4 _ _ (fun q hq => c3 q (by omega)) n151 (by rw [n145]), SN_congr hsn (by rw [fc 0 (by omega)]) (fun q a b => fc q (by omega)) (by rw [nq _ (by decide) (by decide), m2 _ (by decide) (by decide) (by decide)]) (nk _ (by decide) (by decide) (by decide)), TX_congr htx (fc _ (by omega)) (fc _ (by omega)) (by rw [nq _ (by decide) (by decide), m2 _ (by decide) (by decide) (by decide)]) (fun k hk => nk k (by omega) (by omega) (by omega)), OU_congr hou (by rw [fc 143 (by omega)]) (fc _ (by omega)) (by rw [nq _ (by decide) (by decide), m2 _ (by decide) (by decide) (by decide)]) (nk _ (by decide) (by decide) (by decide)), ZS_copy (p := 10) (by decide) p5 c2 c3⟩
    · rw [hv]
theorem bndX_id {N c : Nat} {a b : Int32} {M : Mem} : (bndX (f_G_change N 146 (nI c) a b M) fun (x3 : Int32) (M2 : Mem) => some ((Sum.inl x3 : Sum Int32 Nat), M2)) = f_G_change N 146 (nI c) a b M := by
  cases f_G_change N 146 (nI c) a b M with
  | none => rfl
  | some r =>
    obtain ⟨r1, r2⟩ := r
    cases r1 <;> rfl
theorem J_free {N c : Nat} (hN : 100 < N) (hc : c = 1 ∨ c = 7) : JX [(1, 1)] (fun M => bndX (f_G_change N 146 (nI c) 0 0 M) fun (x3 : Int32) (M2 : Mem) => some (.inl x3, M2)) (keepdo N c 0 0) := fun Mc Mr H => by
  have hb : s_bad c 0 0 = false := by rcases hc with rfl | rfl <;> rfl
  obtain ⟨rc, Mc', rm, Mr', e1, e2, e3, e4, e5, e6⟩ := J_keepdo (a := 0) (b := 0) hN H (by omega) hb
  refine ⟨rc, Mc', rm, Mr', ?_, e2, e3, e4, e5, e6.imp id (fun ⟨q1, q2, q3⟩ => ⟨1, q1, ?_⟩)⟩
  · dsimp only
    rw [bndX_id, e1]
  · rw [q3, if_pos hc]
    exact List.mem_cons_self
theorem j_launch {N : Nat} (hN : 100 < N) : JX [(1, 1)] (f_G_launch N 146) (f_M_launch N 146) := J_free (c := 1) hN (Or.inl rfl)
theorem j_archive {N : Nat} (hN : 100 < N) : JX [(1, 1)] (f_G_archive N 146) (f_M_archive N 146) := J_free (c := 7) hN (Or.inr rfl)
/-- a change with one number -/
theorem J_one {N c : Nat} {a lo hi : Int32} (hN : 100 < N) (hc : c = 2 ∨ c = 3 ∨ c = 5 ∨ c = 6 ∨ c = 8) (hb : s_bad c a 0 = outB a lo hi) : JX [(0, 1), (1, 2)] (fun M => bndX (f_G_change N 146 (nI c) a 0 M) fun (x3 : Int32) (M2 : Mem) => some (.inl x3, M2)) (fun M => bnd (f_M_inRange a lo hi M) fun x1 M2 => bnd (f_M_lacks x1 M2) fun x3 M4 => if x3 = true then (some ((0 : Int32), M4)) else keepdo N c a 0 M4) := fun Mc Mr H => by
  dsimp only
  rw [bndX_id, R_in, bnd_s, R_lacks, bnd_s]
  cases ho : outB a lo hi with
  | true =>
    rw [ho] at hb
    rw [C_change H (by omega), hb, if_pos rfl]
    refine ⟨.inr 0, Mc, 0, put Mr 145 8 1, rfl, rfl, RR_thr H, Fr.rf, Fr.rf.put (by omega) (by omega), Or.inr ⟨0, rfl, ?_⟩⟩
    rw [put_row, upd_at, if_pos rfl]
    exact List.mem_cons_self
  | false =>
    rw [ho] at hb
    obtain ⟨rc, Mc', rm, Mr', e1, e2, e3, e4, e5, e6⟩ := J_keepdo (a := a) (b := 0) hN (RR_thr (v := 0) H) (by omega) hb
    refine ⟨rc, Mc', rm, Mr', e1, e2, e3, e4, (Fr.rf.put (by omega) (by omega)).trans e5, e6.imp id (fun ⟨q1, q2, q3⟩ => ⟨1, q1, ?_⟩)⟩
    rw [q3, if_neg (by omega)]
    exact List.mem_cons_of_mem _ List.mem_cons_self
theorem j_payOut {N : Nat} {a : Int32} (hN : 100 < N) : JX [(0, 1), (1, 2)] (f_G_payOut N 146 a) (f_M_payOut N 146 a) := J_one (c := 2) hN (by omega) rfl
theorem j_reelIn {N : Nat} {a : Int32} (hN : 100 < N) : JX [(0, 1), (1, 2)] (f_G_reelIn N 146 a) (f_M_reelIn N 146 a) := J_one (c := 3) hN (by omega) rfl
theorem j_search {N : Nat} {a : Int32} (hN : 100 < N) : JX [(0, 1), (1, 2)] (f_G_search N 146 a) (f_M_search N 146 a) := J_one (c := 6) hN (by omega) rfl
theorem j_passTicks {N : Nat} {a : Int32} (hN : 100 < N) : JX [(0, 1), (1, 2)] (f_G_passTicks N 146 a) (f_M_passTicks N 146 a) := J_one (c := 8) hN (by omega) rfl
theorem j_setInterval {N : Nat} {a : Int32} (hN : 100 < N) : JX [(0, 1)] (f_G_setInterval N 146 a) (f_M_setInterval N 146 a) := fun Mc Mr H => by
  unfold f_G_setInterval f_M_setInterval
  have ei : (bndX (f_G_change N 146 (5 : Int32) a (0 : Int32) Mc) fun (x3 : Int32) (M2 : Mem) => some ((Sum.inl x3 : Sum Int32 Nat), M2)) = f_G_change N 146 (nI 5) a 0 Mc := bndX_id
  rw [ei, R_in, bnd_s, R_lacks, bnd_s]
  cases ho : outB a 1 20 with
  | true =>
    have hb : s_bad 5 a 0 = true := ho
    rw [C_change H (by omega), hb, if_pos rfl]
    refine ⟨.inr 0, Mc, 0, put Mr 145 8 1, rfl, rfl, RR_thr H, Fr.rf, Fr.rf.put (by omega) (by omega), Or.inr ⟨0, rfl, ?_⟩⟩
    rw [put_row, upd_at, if_pos rfl]
    exact List.mem_cons_self
  | false =>
    obtain ⟨rc, Mc', rm, Mr', e1, e2, e3, e4, e5, e6⟩ := J_keepdo (c := 5) (a := a) (b := 0) hN (RR_thr (v := 0) H) (by omega) ho
    exact ⟨rc, Mc', rm, Mr', e1, e2, e3, e4, (Fr.rf.put (by omega) (by omega)).trans e5, e6.imp id (fun ⟨q1, q2, q3⟩ => absurd (show false = true from q2) (by decide))⟩
theorem j_replaceBridle {N : Nat} {a b : Int32} (hN : 100 < N) : JX [(0, 1), (1, 2)] (f_G_replaceBridle N 146 a b) (f_M_replaceBridle N 146 a b) := fun Mc Mr H => by
  unfold f_G_replaceBridle f_M_replaceBridle
  have ei : (bndX (f_G_change N 146 (4 : Int32) a b Mc) fun (x3 : Int32) (M2 : Mem) => some ((Sum.inl x3 : Sum Int32 Nat), M2)) = f_G_change N 146 (nI 4) a b Mc := bndX_id
  rw [ei, R_in, bnd_s, jn_eq]
  have bad : s_bad 4 a b = (outB a 1 999 || outB b 1 9999) := rfl
  have no : s_bad 4 a b = true → ∃ rc Mc' rm Mr', f_G_change N 146 (nI 4) a b Mc = some (rc, Mc') ∧ some ((0 : Int32), put Mr 145 8 1) = some (rm, Mr') ∧ RR Mc' Mr' ∧ Fr 0 145 Mc Mc' ∧ Fr 145 156 Mr Mr' ∧ ((rc = Sum.inl rm ∧ Mr' 145 8 = 0) ∨ ∃ e, rc = .inr e ∧ (e, Mr' 145 8) ∈ [((0 : Nat), (1 : Int32)), (1, 2)]) := fun hb => by
    rw [C_change H (by omega), hb, if_pos rfl]
    refine ⟨.inr 0, Mc, 0, put Mr 145 8 1, rfl, rfl, RR_thr H, Fr.rf, Fr.rf.put (by omega) (by omega), Or.inr ⟨0, rfl, ?_⟩⟩
    rw [put_row, upd_at, if_pos rfl]
    exact List.mem_cons_self
  cases ha : outB a 1 999 with
  | true =>
    have := no (by rw [bad, ha]; rfl)
    rw [if_neg (by decide)]
    dsimp only
    rw [R_lacks, bnd_s]
    exact this
  | false =>
    rw [if_pos (by decide), R_in, bnd_s]
    cases hb : outB b 1 9999 with
    | true =>
      have := no (by rw [bad, ha, hb]; rfl)
      rw [if_neg (by decide)]
      dsimp only
      rw [R_lacks, bnd_s]
      exact this
    | false =>
      rw [if_pos (by decide)]
      dsimp only
      rw [R_lacks, bnd_s]
      obtain ⟨rc, Mc', rm, Mr', e1, e2, e3, e4, e5, e6⟩ := J_keepdo (c := 4) (a := a) (b := b) hN (RR_thr (v := 0) H) (by omega) (by rw [bad, ha, hb]; rfl)
      refine ⟨rc, Mc', rm, Mr', e1, e2, e3, e4, (Fr.rf.put (by omega) (by omega)).trans e5, e6.imp id (fun ⟨q1, q2, q3⟩ => ⟨1, q1, ?_⟩)⟩
      rw [q3, if_neg (by omega)]
      exact List.mem_cons_of_mem _ List.mem_cons_self
/-! undo, snapshot -/
theorem j_undoableCount : JA f_G_undoableCount f_M_undoableCount := fun Mc Mr H => by
  obtain ⟨nx, c, -, -, -, h4, h5, -⟩ := H.2.1
  refine ⟨Mc 24 2, Mc, put Mr 145 8 0, rfl, ?_, RR_thr H, Fr.rf, Fr.rf.put (by omega) (by omega)⟩
  unfold f_M_undoableCount
  rw [nm_eq, put_row, upd_at, if_neg (by decide), h4, h5]
theorem j_undo : JX [(1, 1)] (f_G_undo 146) f_M_undo := fun Mc Mr H => by
  obtain ⟨hst, ⟨nx, c, h1, h2, h3, h4, h5, h6⟩, hsn, htx, hou, hz⟩ := id H
  unfold f_G_undo f_M_undo
  rw [h4, jn_eq, h5]
  rcases Nat.eq_zero_or_pos c with rfl | hc
  · rw [if_pos (by decide), if_neg (by decide)]
    dsimp only
    rw [R_lacks, bnd_s]
    refine ⟨.inr 1, Mc, 0, put Mr 145 8 1, rfl, rfl, RR_thr H, Fr.rf, Fr.rf.put (by omega) (by omega), Or.inr ⟨1, rfl, ?_⟩⟩
    rw [put_row, upd_at, if_pos rfl]
    exact List.mem_cons_self
  · rw [if_neg (by show ¬ nI c < nI 1; exact nI_nlt (by omega) (by omega)), if_pos (by rw [← nI_0]; exact nI_lt hc (by omega))]
    dsimp only
    rw [R_lacks, bnd_s, if_neg (by decide), nm_eq]
    have p7 : (put Mr 145 8 (if true = true then 0 else 1)) 145 7 = nI c := by rw [put_row, upd_at, if_neg (by decide)]; exact h5
    rw [p7, show nI c - (1 : Int32) = nI (c - 1) from pk_sub (b := 1) (by omega)]
    have p7' : (put (put Mr 145 8 (if true = true then 0 else 1)) 145 7 (nI (c - 1))) 145 7 = nI (c - 1) := by rw [put_row, upd_at, if_pos rfl]
    have z1 : zn 151 = 3240 := rfl
    have z2 : zn 146 = 405 := rfl
    rw [p7', show (0 : Int32) = nI 0 from rfl, R_copy (i := c - 1) (j := 0) (by rw [z1]; omega) (by rw [z2]; omega) (by rw [z1]; omega) (by rw [z2]; omega), bndM_s]
    have q151 : (put (put Mr 145 8 (if true = true then nI 0 else 1)) 145 7 (nI (c - 1))) 151 = Mr 151 := by rw [put_ne (by decide), put_ne (by decide)]
    have q145 : ∀ k, k ≠ 7 → k ≠ 8 → (put (put Mr 145 8 (if true = true then nI 0 else 1)) 145 7 (nI (c - 1))) 145 k = Mr 145 k := fun k a b => by rw [put_row, upd_at, if_neg a, put_row, upd_at, if_neg b]
    have q8 : (put (put Mr 145 8 (if true = true then nI 0 else 1)) 145 7 (nI (c - 1))) 145 8 = 0 := by rw [put_row, upd_at, if_neg (by decide), put_row, upd_at, if_pos rfl]; rfl
    have q7 : (put (put Mr 145 8 (if true = true then nI 0 else 1)) 145 7 (nI (c - 1))) 145 7 = nI (c - 1) := p7'
    have qq : ∀ q, q ≠ 145 → (put (put Mr 145 8 (if true = true then nI 0 else 1)) 145 7 (nI (c - 1))) q = Mr q := fun q a => by rw [put_ne a, put_ne a]
    have qf : Fr 145 156 Mr (put (put Mr 145 8 (if true = true then nI 0 else 1)) 145 7 (nI (c - 1))) := (Fr.rf.put (by omega) (by omega)).put (by omega) (by omega)
    generalize put (put Mr 145 8 (if true = true then nI 0 else 1)) 145 7 (nI (c - 1)) = Mr2 at *
    obtain ⟨wg, sg⟩ := h6 (c - 1) (by omega)
    rw [show (nx + 8 - c + (c - 1)) % 8 = (nx + 7) % 8 from by congr 1; omega] at sg
    obtain ⟨Mc', t1, t2, t3, t4, t5, t6⟩ := C_takeBack (rr := 146) h1 ⟨hc, h2⟩ wg sg hz h3 h4
    have re := cpy405 (f := Mr2 151) (g := Mr2 146) (i := c - 1) (j := 0)
    rw [hrow0, q151] at re
    rw [t1, bndM_s]
    refine ⟨_, _, _, _, rfl, rfl, ?_, fun q hq => t6 q (by omega) (by omega), qf.set (by omega) (by omega), Or.inl ⟨by rw [t4, setR_at, if_neg (by decide), q7], by rw [setR_at, if_neg (by decide), q8]; rfl⟩⟩
    refine ⟨⟨?_, ?_⟩, ⟨(nx + 7) % 8, c - 1, mod_lt (by omega), by omega, t3, t4, by rw [setR_at, if_neg (by decide), q7], fun i hi => ?_⟩, SN_congr hsn (by rw [t6 0 (by omega) (by omega)]) (fun q a b => t6 q (by omega) (by omega)) (by rw [setR_at, if_neg (by decide), qq _ (by decide)]) (by rw [setR_at, if_neg (by decide), q145 _ (by decide) (by decide)]), TX_congr htx (t6 _ (by omega) (by omega)) (t6 _ (by omega) (by omega)) (by rw [setR_at, if_neg (by decide), qq _ (by decide)]) (fun k hk => by rw [setR_at, if_neg (by decide), q145 _ (by omega) (by omega)]), OU_congr hou (by rw [t6 143 (by omega) (by omega)]) (t6 _ (by omega) (by omega)) (by rw [setR_at, if_neg (by decide), qq _ (by decide)]) (by rw [setR_at, if_neg (by decide), q145 _ (by decide) (by decide)]), t5⟩
    · rw [setR_self]; exact SR_ext wg t2 (by rw [q151]; exact re)
    · rw [setR_self]; exact WF_ext wg (by rw [q151]; exact re)
    · rw [setR_at, if_neg (by decide), q151]
      obtain ⟨w, s⟩ := h6 i (by omega)
      refine ⟨w, ?_⟩
      rw [show ((nx + 7) % 8 + 8 - (c - 1) + i) % 8 = (nx + 8 - c + i) % 8 from by omega]
      have hm := mod_lt (n := 8) (a := nx + 8 - c + i) (by omega)
      exact SR_congr s (fun q a b => t6 q (by omega) (by omega))
def JV (fc fm : Mem → Option Mem) : Prop := ∀ Mc Mr, RR Mc Mr → ∃ Mc' Mr', fc Mc = some Mc' ∧ fm Mr = some Mr' ∧ RR Mc' Mr' ∧ Fr 0 145 Mc Mc' ∧ Fr 145 156 Mr Mr'
theorem j_saveSnapshot : JV f_G_saveSnapshot f_M_saveSnapshot := fun Mc Mr H => by
  obtain ⟨hst, hh, hsn, htx, hou, hz⟩ := id H
  obtain ⟨M1, e1, e2, e3, -⟩ := T_copy (M := Mc) (p := 130) (q := 10) (by decide) (by decide) (by decide) (W5_of H.w) (hz 130 (by decide)).1 (hz 130 (by decide)).2 hst.1
  unfold f_G_saveSnapshot f_M_saveSnapshot
  rw [e1, bndM_s, nm_eq, nm_eq, show f_M_copy 146 (0 : Int32) 150 (0 : Int32) (put Mr 145 8 0) = _ from R_copy (i := 0) (j := 0) (by decide) (by decide) (by decide) (by decide), bndM_s, nm_eq]
  have p : (put Mr 145 8 0) 146 = Mr 146 := put_ne (by decide)
  have re := cpy405 (f := (put Mr 145 8 0) 146) (g := (put Mr 145 8 0) 150) (i := 0) (j := 0)
  rw [hrow0, hrow0, p] at re
  rw [p]
  generalize hr : va_cpy (Mr 146) ((put Mr 145 8 0) 150) (405 * 0) (405 * 0) 405 = r at re
  have f : ∀ q, (q < 130 ∨ 143 ≤ q) → q ≠ 0 → (put M1 0 7 1) q = Mc q := fun q a b => by rw [put_ne b]; exact e3 q (by omega)
  have g : ∀ q, q ≠ 145 → q ≠ 150 → (put (setR (put Mr 145 8 0) 150 r) 145 11 1) q = Mr q := fun q a b => by rw [put_ne a, setR_at, if_neg b, put_ne a]
  have gk : ∀ k, k ≠ 8 → k ≠ 11 → (put (setR (put Mr 145 8 0) 150 r) 145 11 1) 145 k = Mr 145 k := fun k a b => by rw [put_row, upd_at, if_neg b, setR_at, if_neg (by decide), put_row, upd_at, if_neg a]
  refine ⟨_, _, rfl, rfl, ⟨ST_congr hst (fun q a b => f q (by omega) (by omega)) (g _ (by decide) (by decide)), HH_congr hh (fun q hq => f q (by omega) (by omega)) (g _ (by decide) (by decide)) (gk _ (by decide) (by decide)), Or.inr ⟨?_, ?_, ?_, ?_⟩, TX_congr htx (f _ (by omega) (by omega)) (f _ (by omega) (by omega)) (g _ (by decide) (by decide)) (fun k hk => gk k (by omega) (by omega)), OU_congr hou (by rw [f 143 (by omega) (by omega)]) (f _ (by omega) (by omega)) (g _ (by decide) (by decide)) (gk _ (by decide) (by decide)), ?_⟩, ?_, ((Fr.rf.put (by omega) (by omega)).set (by omega) (by omega)).put (by omega) (by omega)⟩
  · rw [put_row, upd_at, if_pos rfl]
  · rw [put_row, upd_at, if_pos rfl]
  · rw [put_ne (by decide), setR_self]; exact WF_ext H.w re
  · rw [put_ne (by decide), setR_self]
    exact SR_ext H.w (SR_congr e2 (fun q a b => put_ne (by omega))) re
  · exact ZS_copy (p := 130) (by decide) hz e2 e3 |> fun z => ZS_congr z (fun p hp => by
      have := st_lt p hp
      rw [put_ne (by omega), put_ne (by omega)]
      exact ⟨rfl, rfl⟩)
  · exact (e3.mono (by omega) (by omega)).put (by omega) (by omega)
theorem R_lacks_t {M : Mem} : f_M_lacks true M = some (false, put M 145 8 0) := rfl
theorem j_restoreSnapshot : JX [(1, 1)] f_G_restoreSnapshot (f_M_restoreSnapshot 146) := fun Mc Mr H => by
  obtain ⟨hst, hh, hsn, htx, hou, hz⟩ := id H
  unfold f_G_restoreSnapshot f_M_restoreSnapshot bcase
  rcases hsn with ⟨a, b⟩ | ⟨a, b, w, s⟩
  · rw [a, b, if_pos rfl, if_pos rfl]
    dsimp only
    rw [if_neg (by decide), R_lacks, bnd_s]
    refine ⟨.inr 1, Mc, 0, put Mr 145 8 1, rfl, rfl, RR_thr H, Fr.rf, Fr.rf.put (by omega) (by omega), Or.inr ⟨1, rfl, ?_⟩⟩
    rw [put_row, upd_at, if_pos rfl]
    exact List.mem_cons_self
  · rw [a, b, if_neg (by decide), if_pos rfl, if_neg (by decide), if_pos rfl]
    dsimp only
    rw [if_pos rfl, R_lacks_t, bnd_s, if_neg (by decide)]
    obtain ⟨M1, e1, e2, e3, -⟩ := T_copy (M := Mc) (p := 10) (q := 130) (by decide) (by decide) (by decide) (W5_of w) (hz 10 (by decide)).1 (hz 10 (by decide)).2 s
    rw [e1, bndM_s, show f_M_copy 150 (0 : Int32) 146 (0 : Int32) (put Mr 145 8 0) = _ from R_copy (i := 0) (j := 0) (by decide) (by decide) (by decide) (by decide), bndM_s]
    unfold f_H_forget
    simp only [nm_eq, bndM_s]
    have p : (put Mr 145 8 0) 150 = Mr 150 := put_ne (by decide)
    have re := cpy405 (f := (put Mr 145 8 0) 150) (g := (put Mr 145 8 0) 146) (i := 0) (j := 0)
    rw [hrow0, hrow0, p] at re
    rw [p]
    generalize va_cpy (Mr 150) ((put Mr 145 8 0) 146) (405 * 0) (405 * 0) 405 = r at re ⊢
    have f : ∀ q, (q < 10 ∨ 23 ≤ q) → q ≠ 24 → (put (put M1 24 1 0) 24 2 0) q = Mc q := fun q a b => by rw [put_ne b, put_ne b]; exact e3 q (by omega)
    have g : ∀ q, q ≠ 145 → q ≠ 146 → (put (setR (put Mr 145 8 0) 146 r) 145 7 0) q = Mr q := fun q a b => by rw [put_ne a, setR_at, if_neg b, put_ne a]
    have gk : ∀ k, k ≠ 8 → k ≠ 7 → (put (setR (put Mr 145 8 0) 146 r) 145 7 0) 145 k = Mr 145 k := fun k a b => by rw [put_row, upd_at, if_neg b, setR_at, if_neg (by decide), put_row, upd_at, if_neg a]
    have s10 : SR (put (put M1 24 1 0) 24 2 0) 10 r := SR_ext w (SR_congr e2 (fun q a b => by rw [put_ne (by omega), put_ne (by omega)])) re
    refine ⟨_, _, _, _, rfl, rfl, ⟨⟨?_, ?_⟩, ⟨0, 0, by omega, by omega, ?_, ?_, ?_, fun i hi => absurd hi (Nat.not_lt_zero i)⟩, SN_congr (Mc := Mc) (Mr := Mr) (Or.inr ⟨a, b, w, s⟩) (by rw [f 0 (by omega) (by omega)]) (fun q a b => f q (by omega) (by omega)) (g _ (by decide) (by decide)) (gk _ (by decide) (by decide)), TX_congr htx (f _ (by omega) (by omega)) (f _ (by omega) (by omega)) (g _ (by decide) (by decide)) (fun k hk => gk k (by omega) (by omega)), OU_congr hou (by rw [f 143 (by omega) (by omega)]) (f _ (by omega) (by omega)) (g _ (by decide) (by decide)) (gk _ (by decide) (by decide)), ?_⟩, ?_, ((Fr.rf.put (by omega) (by omega)).set (by omega) (by omega)).put (by omega) (by omega), Or.inl ⟨?_, ?_⟩⟩
    · rw [put_ne (by decide), setR_self]; exact s10
    · rw [put_ne (by decide), setR_self]; exact WF_ext w re
    · rw [put_row, upd_at, if_neg (by decide), put_row, upd_at, if_pos rfl]; rfl
    · rw [put_row, upd_at, if_pos rfl]; rfl
    · rw [put_row, upd_at, if_pos rfl]; rfl
    · exact ZS_copy (p := 10) (by decide) hz e2 e3 |> fun z => ZS_congr z (fun p hp => by
        have := st_lt p hp
        rw [put_ne (by omega), put_ne (by omega), put_ne (by omega), put_ne (by omega)]
        exact ⟨rfl, rfl⟩)
    · exact ((e3.mono (by omega) (by omega)).put (by omega) (by omega)).put (by omega) (by omega)
    · have z := (SR10.mp s10).2.2.1
      rw [put_ne (by decide), put_ne (by decide)] at z
      rw [put_ne (by decide), put_ne (by decide), put_ne (by decide), setR_self, z]
    · rw [put_row, upd_at, if_neg (by decide), setR_at, if_neg (by decide), put_row, upd_at, if_pos rfl]
