/-! calls, both sides: what they read -/
def JA {α : Type} (fc fm : Mem → Option (α × Mem)) : Prop := ∀ Mc Mr, RR Mc Mr → ∃ v Mc' Mr', fc Mc = some (v, Mc') ∧ fm Mr = some (v, Mr') ∧ RR Mc' Mr' ∧ Fr 0 145 Mc Mc' ∧ Fr 145 156 Mr Mr'
def JX {α : Type} (ex : List (Nat × Int32)) (fc : Mem → Option ((Sum α Nat) × Mem)) (fm : Mem → Option (α × Mem)) : Prop := ∀ Mc Mr, RR Mc Mr → ∃ rc Mc' rm Mr', fc Mc = some (rc, Mc') ∧ fm Mr = some (rm, Mr') ∧ RR Mc' Mr' ∧ Fr 0 145 Mc Mc' ∧ Fr 145 156 Mr Mr' ∧ ((rc = .inl rm ∧ Mr' 145 8 = 0) ∨ ∃ e, rc = .inr e ∧ (e, Mr' 145 8) ∈ ex)
theorem J_get {a b k : Nat} (h : ∀ Mc Mr, RR Mc Mr → Mc a b = Mr 146 k) : JA (fun M => some (M a b, M)) (fun M => nm (put M 145 8 (0 : Int32)) fun M1 => some (M1 146 k, M1)) := fun Mc Mr H => by
  refine ⟨Mc a b, Mc, put Mr 145 8 0, rfl, ?_, RR_thr H, Fr.rf, Fr.rf.put (by omega) (by omega)⟩
  dsimp only
  rw [nm_eq, put_ne (by decide), ← h Mc Mr H]
theorem RR.s {Mc Mr : Mem} (h : RR Mc Mr) : Mc 10 2 = Mr 146 5 ∧ Mc 10 6 = Mr 146 4 ∧ Mc 10 7 = Mr 146 0 ∧ Mc 10 8 = Mr 146 19 ∧ KR (Mc 11) (Mr 146) ∧ (∀ k, k < cn (Mr 146 5) → Mc 12 k = Mr 146 (21 + k)) ∧ BR (Mc 13) (Mc 14) (Mr 146) ∧ LR 30 45 17 (Mc 15) (Mc 16) (Mc 17) (Mc 18) (Mr 146) ∧ Mc 15 6 = Mr 146 20 ∧ LR 90 135 18 (Mc 19) (Mc 20) (Mc 21) (Mc 22) (Mr 146) := h.1.1
theorem RR.k {Mc Mr : Mem} (h : RR Mc Mr) : KR (Mc 11) (Mr 146) := h.s.2.2.2.2.1
theorem RR.w {Mc Mr : Mem} (h : RR Mc Mr) : WF (Mr 146) := h.1.2
theorem RR.b {Mc Mr : Mem} (h : RR Mc Mr) : BR (Mc 13) (Mc 14) (Mr 146) := h.s.2.2.2.2.2.2.1
theorem RR.l {Mc Mr : Mem} (h : RR Mc Mr) : LR 30 45 17 (Mc 15) (Mc 16) (Mc 17) (Mc 18) (Mr 146) := h.s.2.2.2.2.2.2.2.1
theorem RR.a {Mc Mr : Mem} (h : RR Mc Mr) : LR 90 135 18 (Mc 19) (Mc 20) (Mc 21) (Mc 22) (Mr 146) := h.s.2.2.2.2.2.2.2.2.2
theorem j_errorCode : JA f_G_errorCode f_M_errorCode := fun Mc Mr H => by
  refine ⟨Mc 1 8, Mc, _, rfl, ?_, RR_thr (v := 0) H, Fr.rf, Fr.rf.put (by omega) (by omega)⟩
  unfold f_M_errorCode
  rw [nm_eq, put_row, upd_at, if_neg (by decide), ← H.2.2.2.1.2.1]
theorem j_errorOffset : JA f_G_errorOffset f_M_errorOffset := fun Mc Mr H => by
  refine ⟨Mc 1 9, Mc, _, rfl, ?_, RR_thr (v := 0) H, Fr.rf, Fr.rf.put (by omega) (by omega)⟩
  unfold f_M_errorOffset
  rw [nm_eq, put_row, upd_at, if_neg (by decide), ← H.2.2.2.1.2.2]
theorem j_tick : JA f_G_tick (f_M_tick 146) := J_get (fun _ _ H => H.s.2.2.1)
theorem j_patternLength : JA f_G_patternLength (f_M_patternLength 146) := J_get (fun _ _ H => H.s.1)
theorem j_bufferSize : JA f_G_bufferSize (f_M_bufferSize 146) := J_get (fun _ _ H => by obtain ⟨o, -, -, h, -⟩ := H.b; exact h)
theorem j_height : JA f_G_height (f_M_height 146) := J_get (fun _ _ H => H.k.2.1)
theorem j_tether : JA f_G_tether (f_M_tether 146) := J_get (fun _ _ H => H.k.2.2.1)
theorem j_area : JA f_G_area (f_M_area 146) := J_get (fun _ _ H => H.k.2.2.2.1)
theorem j_limit : JA f_G_limit (f_M_limit 146) := J_get (fun _ _ H => H.k.2.2.2.2.1)
theorem j_endurance : JA f_G_endurance (f_M_endurance 146) := J_get (fun _ _ H => H.k.2.2.2.2.2.1)
theorem j_wear : JA f_G_wear (f_M_wear 146) := J_get (fun _ _ H => H.k.2.2.2.2.2.2.1)
theorem j_launches : JA f_G_launches (f_M_launches 146) := J_get (fun _ _ H => H.k.2.2.2.2.2.2.2.2.2.2.1)
theorem j_snaps : JA f_G_snaps (f_M_snaps 146) := J_get (fun _ _ H => H.k.2.2.2.2.2.2.2.2.2.2.2.1)
theorem j_searches : JA f_G_searches (f_M_searches 146) := J_get (fun _ _ H => H.k.2.2.2.2.2.2.2.2.2.2.2.2)
theorem j_interval : JA f_G_interval (f_M_interval 146) := J_get (fun _ _ H => H.s.2.1)
theorem j_loggedCount : JA f_G_loggedCount (f_M_loggedCount 146) := J_get (fun _ _ H => by obtain ⟨o, -, -, -, h, -⟩ := H.l; exact h)
theorem j_droppedCount : JA f_G_droppedCount (f_M_droppedCount 146) := J_get (fun _ _ H => H.s.2.2.2.2.2.2.2.2.1)
theorem j_archivedCount : JA f_G_archivedCount (f_M_archivedCount 146) := J_get (fun _ _ H => by obtain ⟨o, -, -, -, h, -⟩ := H.a; exact h)
theorem J_isg {k : Int32} : JA (fun M => if (M 11 0) = k then (some (true, M)) else (some (false, M))) (fun M => nm (put M 145 8 (0 : Int32)) fun M1 => bnd (f_M_is 146 k M1) fun x2 M3 => some (x2, M3)) := fun Mc Mr H => by
  refine ⟨decide (Mr 146 6 = k), Mc, put Mr 145 8 0, ?_, ?_, RR_thr H, Fr.rf, Fr.rf.put (by omega) (by omega)⟩
  · dsimp only
    rw [H.k.1]
    by_cases e : Mr 146 6 = k
    · rw [if_pos e, decide_eq_true e]
    · rw [if_neg e, decide_eq_false e]
  · dsimp only
    rw [nm_eq, R_is, bnd_s, put_ne (by decide)]
theorem j_isLanded : JA f_G_isLanded (f_M_isLanded 146) := J_isg
theorem j_isFlying : JA f_G_isFlying (f_M_isFlying 146) := J_isg
theorem j_isFallen : JA f_G_isFallen (f_M_isFallen 146) := J_isg
theorem J_flg {i k : Nat} {m : Int32} (h : ∀ Mc Mr, RR Mc Mr → Mc 11 i = if Mr 146 6 = m then Mr 146 k else 0) : JA (fun M => some (M 11 i, M)) (fun M => nm (put M 145 8 (0 : Int32)) fun M1 => bnd (f_M_is 146 m M1) fun x2 M3 => if x2 = true then (some (M3 146 k, M3)) else (some ((0 : Int32), M3))) := fun Mc Mr H => by
  refine ⟨Mc 11 i, Mc, put Mr 145 8 0, rfl, ?_, RR_thr H, Fr.rf, Fr.rf.put (by omega) (by omega)⟩
  dsimp only
  rw [nm_eq, R_is, bnd_s, put_ne (by decide), h Mc Mr H]
  by_cases e : Mr 146 6 = m
  · rw [if_pos e, if_pos (decide_eq_true e)]
  · rw [if_neg e, if_neg (by rw [decide_eq_false e]; decide)]
theorem j_flightTime : JA f_G_flightTime (f_M_flightTime 146) := J_flg (fun _ _ H => H.k.2.2.2.2.2.2.2.2.2.1)
theorem j_beaconTime : JA f_G_beaconTime (f_M_beaconTime 146) := J_flg (fun _ _ H => H.k.2.2.2.2.2.2.2.2.1)
theorem C_refO {a lo hi : Int32} {M : Mem} : f_G_refuseOutside a lo hi M = if outB a lo hi = true then some (.inr 0, M) else some (.inl (), M) := by
  unfold f_G_refuseOutside
  rw [C_out, bnd_s]
theorem R_lacks {b : Bool} {M : Mem} : f_M_lacks b M = some (!b, put M 145 8 (if b = true then 0 else 1)) := by
  unfold f_M_lacks
  cases b <;> rfl
/-- a call whose number is looked at first -/
theorem J_rng {α : Type} {a lo hi : Int32} {v0 : α} {fc : Mem → Option ((Sum α Nat) × Mem)} {fm : Mem → Option (α × Mem)} (h : outB a lo hi = false → ∀ Mc Mr, RR Mc Mr → Mr 145 8 = 0 → ∃ v Mc' Mr', fc Mc = some (.inl v, Mc') ∧ fm Mr = some (v, Mr') ∧ RR Mc' Mr' ∧ Fr 0 145 Mc Mc' ∧ Fr 145 156 Mr Mr' ∧ Mr' 145 8 = 0) : JX [(0, 1)] (fun M => bndX (f_G_refuseOutside a lo hi M) fun _ M2 => fc M2) (fun M => bnd (f_M_inRange a lo hi M) fun x1 M2 => bnd (f_M_lacks x1 M2) fun x3 M4 => if x3 = true then (some (v0, M4)) else fm M4) := fun Mc Mr H => by
  dsimp only
  rw [C_refO, R_in, bnd_s, R_lacks, bnd_s]
  cases hb : outB a lo hi with
  | true =>
    refine ⟨.inr 0, Mc, v0, put Mr 145 8 1, rfl, rfl, RR_thr H, Fr.rf, Fr.rf.put (by omega) (by omega), Or.inr ⟨0, rfl, ?_⟩⟩
    rw [put_row, upd_at, if_pos rfl]
    exact List.mem_cons_self
  | false =>
    obtain ⟨v, Mc', Mr', e1, e2, e3, e4, e5, e6⟩ := h hb Mc (put Mr 145 8 0) (RR_thr H) (by rw [put_row, upd_at, if_pos rfl])
    exact ⟨.inl v, Mc', v, Mr', e1, e2, e3, e4, (Fr.rf.put (by omega) (by omega)).trans e5, Or.inl ⟨rfl, e6⟩⟩
theorem RR_gust {Mc Mr : Mem} (H : RR Mc Mr) {t : Nat} (ht : t < 2 ^ 31) : f_T_gustOf 10 (nI t) Mc = some (s_gust (Mr 146) (nI t), Mc) := C_gustOf H.w.1 ht H.s.1 H.s.2.2.2.2.2.1
theorem RR_gustR {Mc Mr : Mem} (H : RR Mc Mr) {t : Nat} (ht : t < 2 ^ 31) : f_M_gustOf 146 (nI t) Mr = some (s_gust (Mr 146) (nI t), Mr) := by
  obtain ⟨n, n1, n2, h5, -⟩ := H.w.1.2.1
  exact R_gustOf ht n1 n2 h5
theorem j_gust {a : Int32} : JX [(0, 1)] (f_G_gust a) (f_M_gust 146 a) := J_rng (fun hb Mc Mr H h0 => by
  obtain ⟨n, n1, n2, rfl⟩ := outB_F (lo := 0) (hi := 9999) (by omega) (by omega) hb
  exact ⟨_, Mc, Mr, by rw [RR_gust H (by omega), bnd_s], by rw [RR_gustR H (by omega), bnd_s], H, Fr.rf, Fr.rf, h0⟩)
theorem j_windAt {a : Int32} : JX [(0, 1)] (f_G_windAt a) (f_M_windAt 146 a) := J_rng (fun hb Mc Mr H h0 => by
  obtain ⟨n, n1, n2, rfl⟩ := outB_F (lo := 0) (hi := 600) (by omega) (by omega) hb
  obtain ⟨t, ht, e0, -⟩ := H.w.1.1
  refine ⟨s_wind (Mr 146) (nI n), Mc, Mr, ?_, by rw [R_windNow H.w.1, bnd_s], H, Fr.rf, Fr.rf, h0⟩
  rw [H.s.2.2.1, e0, RR_gust H (by omega), bnd_s, ← e0]
  rfl)
theorem j_loadOf {a : Int32} : JX [(0, 1)] (f_G_loadOf a) (f_M_loadOf 146 a) := J_rng (fun hb Mc Mr H h0 => by
  refine ⟨s_load (Mr 146) a, Mc, Mr, ?_, rfl, H, Fr.rf, Fr.rf, h0⟩
  unfold f_K_loadUnder
  rw [bnd_s, H.k.2.2.2.1]
  rfl)
theorem j_bufferedWind {a : Int32} : JA (f_G_bufferedWind a) (f_M_bufferedWind 146 a) := fun Mc Mr H => by
  obtain ⟨o, ho, h1, h2, hv⟩ := H.b
  obtain ⟨c, hc, h16, -⟩ := H.w.2.2.1
  rw [h16] at h2 hv
  rw [cn_nI (by omega)] at hv
  unfold f_G_bufferedWind f_M_bufferedWind f_B_has
  rw [nm_eq, put_ne (by decide), h16, h2, R_in, bnd_s]
  rcases pk_ix a (n := c) (by omega) with q | q | ⟨j, hj, rfl⟩
  · refine ⟨-1, Mc, put Mr 145 8 0, ?_, ?_, RR_thr H, Fr.rf, Fr.rf.put (by omega) (by omega)⟩
    · rw [if_pos q, bnd_s]; rfl
    · have : outB a 0 (nI c - 1) = true := by unfold outB; rw [decide_eq_true q]; rfl
      rw [this]; rfl
  · have hp : ¬ a < 0 := Int32.not_lt.mpr (Int32.le_trans (nI_pos' (by omega)) q)
    refine ⟨-1, Mc, put Mr 145 8 0, ?_, ?_, RR_thr H, Fr.rf, Fr.rf.put (by omega) (by omega)⟩
    · rw [if_neg hp, if_neg (Int32.not_lt.mpr q), bnd_s]; rfl
    · have : outB a 0 (nI c - 1) = true := by
        unfold outB
        rw [decide_eq_false hp, Bool.false_or]
        refine decide_eq_true ?_
        obtain ⟨j, hj, rfl⟩ := nI_of hp
        have hcj := (nI_leI (by omega) hj).mp q
        rcases Nat.eq_zero_or_pos c with rfl | q2
        · exact Int32.lt_of_lt_of_le (show nI 0 - 1 < 0 by decide) (nI_pos' hj)
        · rw [show nI c - (1 : Int32) = nI (c - 1) from pk_sub (b := 1) (by omega)]
          exact nI_lt (by omega) hj
      rw [this]; rfl
  · refine ⟨Mr 146 (37 + j), Mc, put Mr 145 8 0, ?_, ?_, RR_thr H, Fr.rf, Fr.rf.put (by omega) (by omega)⟩
    · rw [if_neg (nI_pos (by omega)), if_pos (nI_lt hj (by omega)), bnd_s, if_pos rfl, C_Bat ho (by omega) h1, bnd_s, hv j hj]
    · rw [show nI c - (1 : Int32) = nI (c - 1) from pk_sub (b := 1) (by omega)]
      have : outB (nI j) 0 (nI (c - 1)) = false := outB_T (lo := 0) (by omega) (by omega) (by omega) (by omega)
      rw [this, if_pos (by decide), q37, grd_of (inB_nI (by omega) (by omega)), nI_clamp (by omega), put_ne (by decide)]
theorem j_greatestWind {N : Nat} (hN : 8 < N) : JA (f_G_greatestWind N 146) (f_M_greatestWind N 146) := fun Mc Mr H => by
  refine ⟨s_great (Mr 146), Mc, put Mr 145 8 0, ?_, ?_, RR_thr H, Fr.rf, Fr.rf.put (by omega) (by omega)⟩
  · unfold f_G_greatestWind
    rw [C_great hN H.w.2.2.1 H.b, bnd_s]
  · unfold f_M_greatestWind
    rw [nm_eq, R_great hN (by rw [put_ne (by decide)]; exact H.w.2.2.1), bnd_s, put_ne (by decide)]
theorem C_refM {p n b i : Nat} {a : Int32} {g : Row} {M : Mem} (W : Ws n b i g) (hn : n < 100) (h : LR n b i (M p) (M (p + 1)) (M (p + 2)) (M (p + 3)) g) : f_G_refuseMissing p a M = if outB a 0 (g i - 1) = true then some (.inr 2, M) else some (.inl (), M) := by
  obtain ⟨c, hc, hi, -⟩ := W
  obtain ⟨o, ho, -, -, h5, -⟩ := h
  unfold f_G_refuseMissing f_S_has
  rw [h5, hi]
  rcases pk_ix a (n := c) (by omega) with q | q | ⟨j, hj, rfl⟩
  · have : outB a 0 (nI c - 1) = true := by unfold outB; rw [decide_eq_true q]; rfl
    rw [this, if_pos q, bnd_s]; rfl
  · have hp : ¬ a < 0 := Int32.not_lt.mpr (Int32.le_trans (nI_pos' (by omega)) q)
    have : outB a 0 (nI c - 1) = true := by
      unfold outB
      rw [decide_eq_false hp, Bool.false_or]
      refine decide_eq_true ?_
      obtain ⟨j, hj, rfl⟩ := nI_of hp
      have hcj := (nI_leI (by omega) hj).mp q
      rcases Nat.eq_zero_or_pos c with rfl | q2
      · exact Int32.lt_of_lt_of_le (show nI 0 - 1 < 0 by decide) (nI_pos' hj)
      · rw [show nI c - (1 : Int32) = nI (c - 1) from pk_sub (b := 1) (by omega)]
        exact nI_lt (by omega) hj
    rw [this, if_neg hp, if_neg (Int32.not_lt.mpr q), bnd_s]; rfl
  · rw [show nI c - (1 : Int32) = nI (c - 1) from pk_sub (b := 1) (by omega)]
    have : outB (nI j) 0 (nI (c - 1)) = false := outB_T (lo := 0) (by omega) (by omega) (by omega) (by omega)
    rw [this, if_neg (nI_pos (by omega)), if_pos (nI_lt hj (by omega)), bnd_s]; rfl
theorem outB_cnt {a : Int32} {c : Nat} (hc : c < 2 ^ 30) (h : outB a 0 (nI c - 1) = false) : ∃ j, j < c ∧ a = nI j := by
  rcases Nat.eq_zero_or_pos c with rfl | q2
  · unfold outB at h
    simp only [Bool.or_eq_false_iff, decide_eq_false_iff_not] at h
    exact absurd (Int32.lt_of_lt_of_le (show nI 0 - 1 < 0 by decide) (Int32.not_lt.mp h.1)) h.2
  · rw [show nI c - (1 : Int32) = nI (c - 1) from pk_sub (b := 1) (by omega)] at h
    obtain ⟨j, -, j2, rfl⟩ := outB_F (lo := 0) (by omega) (by omega) h
    exact ⟨j, by omega, rfl⟩
theorem J_smp {p n b i w : Nat} {a : Int32} {fa : Int32 → Mem → Option (Int32 × Mem)} {fr : Mem → Option (Int32 × Mem)} (hn : n < 100) (hi : i = 17 ∨ i = 18) (hW : ∀ Mc Mr, RR Mc Mr → Ws n b i (Mr 146) ∧ LR n b i (Mc p) (Mc (p + 1)) (Mc (p + 2)) (Mc (p + 3)) (Mr 146)) (h1 : ∀ Mc Mr c j, RR Mc Mr → Mr 146 i = nI c → c ≤ n → j < c → fa (nI j) Mc = some (Mr 146 (b + 3 * j + w), Mc)) (h2 : ∀ Mr c j, a = nI j → Mr 146 i = nI c → c ≤ n → j < c → fr Mr = some (Mr 146 (b + 3 * j + w), Mr)) : JX [(2, 1)] (fun M => bndX (f_G_refuseMissing p a M) fun _ M2 => bnd (fa a M2) fun x3 M4 => some (.inl x3, M4)) (fun M => bnd (bnd (f_M_inRange a 0 (M 146 i - 1) M) fun x1 M2 => bnd (f_M_lacks x1 M2) fun x3 M4 => if x3 = true then (some ((0 : Int32), M4)) else fr M4) fun x1 M2 => some (x1, M2)) := fun Mc Mr H => by
  obtain ⟨W, L⟩ := hW Mc Mr H
  dsimp only
  rw [C_refM W hn L, R_in, bnd_s, R_lacks, bnd_s]
  obtain ⟨c, hc, ei, -⟩ := W
  cases hb : outB a 0 (Mr 146 i - 1) with
  | true =>
    refine ⟨.inr 2, Mc, 0, put Mr 145 8 1, rfl, rfl, RR_thr H, Fr.rf, Fr.rf.put (by omega) (by omega), Or.inr ⟨2, rfl, ?_⟩⟩
    rw [put_row, upd_at, if_pos rfl]
    exact List.mem_cons_self
  | false =>
    rw [ei] at hb
    obtain ⟨j, hj, rfl⟩ := outB_cnt (by omega) hb
    have e2 := h2 (put Mr 145 8 0) c j rfl (by rw [put_ne (by decide)]; exact ei) hc hj
    have e1 := h1 Mc Mr c j H ei hc hj
    rw [put_ne (by decide)] at e2
    refine ⟨.inl (Mr 146 (b + 3 * j + w)), Mc, Mr 146 (b + 3 * j + w), put Mr 145 8 0, ?_, ?_, RR_thr H, Fr.rf, Fr.rf.put (by omega) (by omega), Or.inl ⟨rfl, by rw [put_row, upd_at, if_pos rfl]⟩⟩
    · show bnd (fa (nI j) Mc) (fun x3 M4 => some (Sum.inl x3, M4)) = _
      rw [e1]
      rfl
    · show bnd (fr (put Mr 145 8 0)) (fun x1 M2 => some (x1, M2)) = _
      rw [e2]
      rfl
theorem z15 : zn (15 + 1) = 30 ∧ zn (15 + 2) = 30 ∧ zn (15 + 3) = 30 := ⟨rfl, rfl, rfl⟩
theorem z19 : zn (19 + 1) = 90 ∧ zn (19 + 2) = 90 ∧ zn (19 + 3) = 90 := ⟨rfl, rfl, rfl⟩
theorem RR_log {Mc Mr : Mem} {c j : Nat} (H : RR Mc Mr) (e : Mr 146 17 = nI c) (hc : c ≤ 30) (hj : j < c) : f_S_tickAt 15 (nI j) Mc = some (Mr 146 (45 + 3 * j), Mc) ∧ f_S_heightAt 15 (nI j) Mc = some (Mr 146 (45 + 3 * j + 1), Mc) ∧ f_S_gustAt 15 (nI j) Mc = some (Mr 146 (45 + 3 * j + 2), Mc) := by
  have h := H.l
  rw [LR_g (c := c) (by omega) e] at h
  exact C_tickAt (p := 15) (by omega) (by omega) hc hj z15 h
theorem RR_arc {Mc Mr : Mem} {c j : Nat} (H : RR Mc Mr) (e : Mr 146 18 = nI c) (hc : c ≤ 90) (hj : j < c) : f_S_tickAt 19 (nI j) Mc = some (Mr 146 (135 + 3 * j), Mc) ∧ f_S_heightAt 19 (nI j) Mc = some (Mr 146 (135 + 3 * j + 1), Mc) ∧ f_S_gustAt 19 (nI j) Mc = some (Mr 146 (135 + 3 * j + 2), Mc) := by
  have h := H.a
  rw [LR_g (c := c) (by omega) e] at h
  exact C_tickAt (p := 19) (by omega) (by omega) hc hj z19 h
theorem RR_arcR {M : Mem} {j w : Nat} (hj : j < 90) (hw : w < 3) : f_M_ofArchive 146 (nI j) (nI w) M = some (M 146 (135 + 3 * j + w), M) := by
  unfold f_M_ofArchive
  rw [q3, q135, nI_add, grd_of (inB_nI (by omega) (by omega)), nI_clamp (by omega)]
theorem RR_logR {M : Mem} {a : Int32} {j w : Nat} (ha : a = nI j) (hj : j < 30) (hw : w < 3) : (grd (inB (((45 : Int32) + ((3 : Int32) * a)) + nI w) 405) (some (M 146 (((45 : Int32) + ((3 : Int32) * a)) + nI w).toNatClampNeg, M))) = some (M 146 (45 + 3 * j + w), M) := by
  rw [ha, q3, q45, nI_add, grd_of (inB_nI (by omega) (by omega)), nI_clamp (by omega)]
theorem j_loggedTick {a : Int32} : JX [(2, 1)] (f_G_loggedTick a) (f_M_loggedTick 146 a) := J_smp (w := 0) (p := 15) (fa := fun a M => f_S_tickAt 15 a M) (by omega) (Or.inl rfl) (fun _ _ H => ⟨H.w.2.2.2.1, H.l⟩) (fun _ _ _ _ H e hc hj => (RR_log H e hc hj).1) (fun Mr c j ha e hc hj => RR_logR (w := 0) ha (by omega) (by omega))
theorem j_loggedHeight {a : Int32} : JX [(2, 1)] (f_G_loggedHeight a) (f_M_loggedHeight 146 a) := J_smp (w := 1) (p := 15) (fa := fun a M => f_S_heightAt 15 a M) (by omega) (Or.inl rfl) (fun _ _ H => ⟨H.w.2.2.2.1, H.l⟩) (fun _ _ _ _ H e hc hj => (RR_log H e hc hj).2.1) (fun Mr c j ha e hc hj => RR_logR (w := 1) ha (by omega) (by omega))
theorem j_loggedGust {a : Int32} : JX [(2, 1)] (f_G_loggedGust a) (f_M_loggedGust 146 a) := J_smp (w := 2) (p := 15) (fa := fun a M => f_S_gustAt 15 a M) (by omega) (Or.inl rfl) (fun _ _ H => ⟨H.w.2.2.2.1, H.l⟩) (fun _ _ _ _ H e hc hj => (RR_log H e hc hj).2.2) (fun Mr c j ha e hc hj => RR_logR (w := 2) ha (by omega) (by omega))
theorem R_ofA2 {M : Mem} {a : Int32} {j w : Nat} (ha : a = nI j) (hj : j < 90) (hw : w < 3) : (bnd (f_M_ofArchive 146 a (nI w) M) fun (x5 : Int32) (M6 : Mem) => some (x5, M6)) = some (M 146 (135 + 3 * j + w), M) := by
  rw [ha, RR_arcR hj hw, bnd_s]
theorem j_archivedTick {a : Int32} : JX [(2, 1)] (f_G_archivedTick a) (f_M_archivedTick 146 a) := J_smp (w := 0) (p := 19) (fa := fun a M => f_S_tickAt 19 a M) (by omega) (Or.inr rfl) (fun _ _ H => ⟨H.w.2.2.2.2, H.a⟩) (fun _ _ _ _ H e hc hj => (RR_arc H e hc hj).1) (fun Mr c j ha e hc hj => R_ofA2 (w := 0) ha (by omega) (by omega))
theorem j_archivedHeight {a : Int32} : JX [(2, 1)] (f_G_archivedHeight a) (f_M_archivedHeight 146 a) := J_smp (w := 1) (p := 19) (fa := fun a M => f_S_heightAt 19 a M) (by omega) (Or.inr rfl) (fun _ _ H => ⟨H.w.2.2.2.2, H.a⟩) (fun _ _ _ _ H e hc hj => (RR_arc H e hc hj).2.1) (fun Mr c j ha e hc hj => R_ofA2 (w := 1) ha (by omega) (by omega))
theorem j_archivedGust {a : Int32} : JX [(2, 1)] (f_G_archivedGust a) (f_M_archivedGust 146 a) := J_smp (w := 2) (p := 19) (fa := fun a M => f_S_gustAt 19 a M) (by omega) (Or.inr rfl) (fun _ _ H => ⟨H.w.2.2.2.2, H.a⟩) (fun _ _ _ _ H e hc hj => (RR_arc H e hc hj).2.2) (fun Mr c j ha e hc hj => R_ofA2 (w := 2) ha (by omega) (by omega))
