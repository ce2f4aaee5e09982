/-! the class's memory and the reference's, tied -/
def HH (Mc Mr : Mem) : Prop := ∃ nx c, nx < 8 ∧ c ≤ 8 ∧ Mc 24 1 = nI nx ∧ Mc 24 2 = nI c ∧ Mr 145 7 = nI c ∧ ∀ i, i < c → WF (hrow (Mr 151) i) ∧ SR Mc (26 + 13 * ((nx + 8 - c + i) % 8)) (hrow (Mr 151) i)
def SN (Mc Mr : Mem) : Prop := (Mc 0 7 = 0 ∧ Mr 145 11 = 0) ∨ (Mc 0 7 = 1 ∧ Mr 145 11 = 1 ∧ WF (Mr 150) ∧ SR Mc 130 (Mr 150))
def TX (Mc Mr : Mem) : Prop := (∃ f, f ≤ 500 ∧ Mc 1 1 = nI f ∧ Mr 145 15 = nI f ∧ ∀ k, k < f → ∃ b, b < 256 ∧ Mr 153 k = nI b ∧ Mc 2 k &&& 255 = nI b) ∧ Mc 1 8 = Mr 145 9 ∧ Mc 1 9 = Mr 145 22
def OU (Mc Mr : Mem) : Prop := ∃ l, l ≤ 360 ∧ Mc 143 1 = nI l ∧ Mr 145 13 = nI l ∧ ∀ k, k < l → Mc 144 k = Mr 152 k
def ST (Mc Mr : Mem) : Prop := SR Mc 10 (Mr 146) ∧ WF (Mr 146)
def RR (Mc Mr : Mem) : Prop := ST Mc Mr ∧ HH Mc Mr ∧ SN Mc Mr ∧ TX Mc Mr ∧ OU Mc Mr ∧ ZS Mc
theorem HH_congr {Mc Mr Mc' Mr' : Mem} (h : HH Mc Mr) (e1 : ∀ q, (q = 24 ∨ (26 ≤ q ∧ q < 130)) → Mc' q = Mc q) (e2 : Mr' 151 = Mr 151) (e3 : Mr' 145 7 = Mr 145 7) : HH Mc' Mr' := by
  obtain ⟨nx, c, h1, h2, h3, h4, h5, h6⟩ := h
  refine ⟨nx, c, h1, h2, by rw [e1 24 (by omega)]; exact h3, by rw [e1 24 (by omega)]; exact h4, by rw [e3]; exact h5, fun i hi => ?_⟩
  have hm := mod_lt (n := 8) (a := nx + 8 - c + i) (by omega)
  rw [e2]
  exact ⟨(h6 i hi).1, SR_congr (h6 i hi).2 (fun q q1 q2 => e1 q (by omega))⟩
theorem SN_congr {Mc Mr Mc' Mr' : Mem} (h : SN Mc Mr) (e0 : Mc' 0 7 = Mc 0 7) (e1 : ∀ q, 130 ≤ q → q < 143 → Mc' q = Mc q) (e2 : Mr' 150 = Mr 150) (e3 : Mr' 145 11 = Mr 145 11) : SN Mc' Mr' := by
  unfold SN
  rw [e0, e2, e3]
  exact h.imp id (fun ⟨a, b, c, d⟩ => ⟨a, b, c, SR_congr d (fun q q1 q2 => e1 q (by omega) (by omega))⟩)
theorem TX_congr {Mc Mr Mc' Mr' : Mem} (h : TX Mc Mr) (e1 : Mc' 1 = Mc 1) (e2 : Mc' 2 = Mc 2) (e3 : Mr' 153 = Mr 153) (e4 : ∀ k, (k = 9 ∨ k = 15 ∨ k = 22) → Mr' 145 k = Mr 145 k) : TX Mc' Mr' := by
  unfold TX
  rw [e1, e2, e3, e4 9 (by omega), e4 15 (by omega), e4 22 (by omega)]
  exact h
theorem OU_congr {Mc Mr Mc' Mr' : Mem} (h : OU Mc Mr) (e1 : Mc' 143 1 = Mc 143 1) (e2 : Mc' 144 = Mc 144) (e3 : Mr' 152 = Mr 152) (e4 : Mr' 145 13 = Mr 145 13) : OU Mc' Mr' := by
  unfold OU
  rw [e1, e2, e3, e4]
  exact h
theorem ZS_congr {M M' : Mem} (z : ZS M) (e : ∀ p ∈ stL, M' (p + 5) 0 = M (p + 5) 0 ∧ M' (p + 9) 0 = M (p + 9) 0) : ZS M' := fun p hp => by
  rw [(e p hp).1, (e p hp).2]
  exact z p hp
theorem ST_congr {Mc Mr Mc' Mr' : Mem} (h : ST Mc Mr) (e1 : ∀ q, 10 ≤ q → q < 23 → Mc' q = Mc q) (e2 : Mr' 146 = Mr 146) : ST Mc' Mr' := by
  unfold ST
  rw [e2]
  exact ⟨SR_congr h.1 (fun q q1 q2 => e1 q (by omega) (by omega)), h.2⟩
theorem st_lt : ∀ p ∈ stL, 10 ≤ p ∧ p + 13 ≤ 143 ∧ (p = 10 ∨ 26 ≤ p) := by decide
theorem RR_congr {Mc Mr Mc' Mr' : Mem} (h : RR Mc Mr) (e1 : ∀ q, q < 145 → Mc' q = Mc q) (e2 : ∀ q, 145 ≤ q → q < 156 → Mr' q = Mr q) : RR Mc' Mr' := by
  obtain ⟨a, b, c, d, e, f⟩ := h
  refine ⟨ST_congr a (fun q q1 q2 => e1 q (by omega)) (e2 _ (by omega) (by omega)), HH_congr b (fun q hq => e1 q (by omega)) (e2 _ (by omega) (by omega)) (by rw [e2 _ (by omega) (by omega)]), SN_congr c (by rw [e1 0 (by omega)]) (fun q q1 q2 => e1 q (by omega)) (e2 _ (by omega) (by omega)) (by rw [e2 _ (by omega) (by omega)]), TX_congr d (e1 _ (by omega)) (e1 _ (by omega)) (e2 _ (by omega) (by omega)) (fun k _ => by rw [e2 _ (by omega) (by omega)]), OU_congr e (by rw [e1 143 (by omega)]) (e1 _ (by omega)) (e2 _ (by omega) (by omega)) (by rw [e2 _ (by omega) (by omega)]), ZS_congr f (fun p hp => ?_)⟩
  have := st_lt p hp
  rw [e1 (p + 5) (by omega), e1 (p + 9) (by omega)]
  exact ⟨rfl, rfl⟩
/-- the reference's own scratch: what was thrown, what will be answered, the kept row, the row aside -/
theorem RR_scr {Mc Mr Mr' : Mem} (h : RR Mc Mr) (e : ∀ q, (q = 146 ∨ (150 ≤ q ∧ q < 154)) → Mr' q = Mr q) (e2 : ∀ k, (k = 7 ∨ k = 9 ∨ k = 11 ∨ k = 13 ∨ k = 15 ∨ k = 22) → Mr' 145 k = Mr 145 k) : RR Mc Mr' := by
  obtain ⟨a, b, c, d, f, g⟩ := h
  exact ⟨ST_congr a (fun q q1 q2 => rfl) (e _ (by omega)), HH_congr b (fun q hq => rfl) (e _ (by omega)) (e2 _ (by omega)), SN_congr c rfl (fun q q1 q2 => rfl) (e _ (by omega)) (e2 _ (by omega)), TX_congr d rfl rfl (e _ (by omega)) (fun k hk => e2 k (by omega)), OU_congr f rfl rfl (e _ (by omega)) (e2 _ (by omega)), g⟩
theorem RR_thr {Mc Mr : Mem} {v : Int32} (h : RR Mc Mr) : RR Mc (put Mr 145 8 v) := RR_scr h (fun q hq => put_ne (by omega)) (fun k hk => by rw [put_row, upd_at, if_neg (by omega)])
theorem Fr.put {a b p k : Nat} {M M' : Mem} {v : Int32} (h : Fr a b M M') (h1 : a ≤ p) (h2 : p < b) : Fr a b M (put M' p k v) := h.set h1 h2
theorem HH_push {N rr : Nat} {Mc Mr Mr2 : Mem} (hN : 8 < N) (h : HH Mc Mr) (hs : ST Mc Mr) (z : ZS Mc) (e1 : Mr2 151 = Mr 151) (e2 : Mr2 145 7 = Mr 145 7) (e3 : REq (Mr 146) (Mr2 149)) : ∃ (Mc' : Mem) (h' t' : Row), f_H_remember rr 10 Mc = some Mc' ∧ f_M_record N rr Mr2 = some (setR (setR Mr2 151 h') 145 t') ∧ (∀ k, k ≠ 7 → t' k = Mr2 145 k) ∧ (∀ Mc'' Mr'', (∀ q, (q = 24 ∨ (26 ≤ q ∧ q < 130)) → Mc'' q = Mc' q) → Mr'' 151 = h' → Mr'' 145 7 = t' 7 → HH Mc'' Mr'') ∧ ZS Mc' ∧ (∀ q, (q < 24 ∨ q = 25 ∨ 130 ≤ q) → Mc' q = Mc q) := by
  obtain ⟨nx, c, h1, h2, h3, h4, h5, h6⟩ := h
  obtain ⟨Mc', r1, r2, r3, r4, r5, r6⟩ := C_remember (rr := rr) h1 h2 hs.2 hs.1 z h3 h4
  obtain ⟨h', p1, p2, p3⟩ := R_record (N := N) (rr := rr) (M := Mr2) (c := c) hN h2 (by rw [e2]; exact h5)
  rw [e1] at p2 p3
  refine ⟨Mc', h', upd (Mr2 145) 7 (nI (min (c + 1) 8)), r1, p1, fun k hk => by rw [upd_at, if_neg hk], fun Mc'' Mr'' q1 q2 q3 => ?_, r5, fun q hq => r6 q (by omega) (by omega)⟩
  refine ⟨(nx + 1) % 8, min (c + 1) 8, mod_lt (by omega), by omega, by rw [q1 24 (by omega)]; exact r3, by rw [q1 24 (by omega)]; exact r4, by rw [q3, upd_at, if_pos rfl], fun i hi => ?_⟩
  rw [q2]
  have hm := mod_lt (n := 8) (a := (nx + 1) % 8 + 8 - min (c + 1) 8 + i) (by omega)
  have key : ∀ g, WF g ∧ SR Mc' (26 + 13 * (((nx + 1) % 8 + 8 - min (c + 1) 8 + i) % 8)) g → WF g ∧ SR Mc'' (26 + 13 * (((nx + 1) % 8 + 8 - min (c + 1) 8 + i) % 8)) g := fun g hg => ⟨hg.1, SR_congr hg.2 (fun q a b => q1 q (by omega))⟩
  refine key _ ?_
  have last : REq (Mr2 149) (hrow h' i) → ((nx + 1) % 8 + 8 - min (c + 1) 8 + i) % 8 = nx → WF (hrow h' i) ∧ SR Mc' (26 + 13 * (((nx + 1) % 8 + 8 - min (c + 1) 8 + i) % 8)) (hrow h' i) := fun q e => by
    rw [e]
    have q' := e3.trans q
    exact ⟨WF_ext hs.2 q', SR_ext hs.2 r2 q'⟩
  have old : ∀ j, j < c → REq (hrow (Mr 151) j) (hrow h' i) → ((nx + 1) % 8 + 8 - min (c + 1) 8 + i) % 8 = (nx + 8 - c + j) % 8 → (nx + 8 - c + j) % 8 ≠ nx → WF (hrow h' i) ∧ SR Mc' (26 + 13 * (((nx + 1) % 8 + 8 - min (c + 1) 8 + i) % 8)) (hrow h' i) := fun j hj q e ne => by
    rw [e]
    obtain ⟨w, s⟩ := h6 j hj
    have hm2 := mod_lt (n := 8) (a := nx + 8 - c + j) (by omega)
    refine ⟨WF_ext w q, SR_ext w (SR_congr s (fun x x1 x2 => r6 x (by omega) (by omega))) q⟩
  rcases Nat.lt_or_ge c 8 with q | q
  · obtain ⟨b1, b2⟩ := p2 q
    by_cases ei : i = c
    · subst ei
      exact last b2 (by omega)
    · exact old i (by omega) (b1 i (by omega)) (by omega) (by omega)
  · obtain ⟨b1, b2⟩ := p3 (by omega)
    by_cases ei : i = 7
    · subst ei
      exact last b2 (by omega)
    · exact old (i + 1) (by omega) (b1 i (by omega)) (by omega) (by omega)
