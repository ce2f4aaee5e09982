/-! an order's numbers, both sides -/
def NP (i : Nat) (Mc Mc' : Mem) : Prop := (∀ q, q ≠ 1 → q ≠ 7 → q ≠ 8 → Mc' q = Mc q) ∧ (∀ k, k < 3 → Mc' 1 k = Mc 1 k) ∧ ∀ j, j ≠ i → Mc' 7 j = Mc 7 j ∧ Mc' 8 j = Mc 8 j
def NQ (i : Nat) (Mr Mr' : Mem) : Prop := (∀ q, q ≠ 145 → q ≠ 154 → Mr' q = Mr q) ∧ (∀ k, (k < 17 ∨ 22 ≤ k) → Mr' 145 k = Mr 145 k) ∧ ∀ j, j ≠ 3 * i + 1 → j ≠ 3 * i + 2 → Mr' 154 j = Mr 154 j
theorem NP.trans {i : Nat} {M M' M'' : Mem} (h : NP i M M') (g : NP i M' M'') : NP i M M'' := ⟨fun q a b c => (g.1 q a b c).trans (h.1 q a b c), fun k a => (g.2.1 k a).trans (h.2.1 k a), fun j a => ⟨(g.2.2 j a).1.trans (h.2.2 j a).1, (g.2.2 j a).2.trans (h.2.2 j a).2⟩⟩
theorem NQ.trans {i : Nat} {M M' M'' : Mem} (h : NQ i M M') (g : NQ i M' M'') : NQ i M M'' := ⟨fun q a b => (g.1 q a b).trans (h.1 q a b), fun k a => (g.2.1 k a).trans (h.2.1 k a), fun j a b => (g.2.2 j a b).trans (h.2.2 j a b)⟩
theorem F1.np {i : Nat} {M M' : Mem} (h : F1 M M') : NP i M M' := ⟨fun q a _ _ => h.1 q a, h.2, fun j _ => by rw [h.1 7 (by decide), h.1 8 (by decide)]; exact ⟨rfl, rfl⟩⟩
theorem F145.nq {i : Nat} {M M' : Mem} (h : F145 M M') : NQ i M M' := ⟨fun q a _ => h.1 q a, h.2, fun j _ _ => by rw [h.1 154 (by decide)]⟩
theorem NP.put {i a : Nat} {M M' : Mem} {v : Int32} (h : NP i M M') (ha : a = 7 ∨ a = 8) : NP i M (put M' a i v) := ⟨fun q x y z => by rw [put_ne (by omega)]; exact h.1 q x y z, fun k hk => by rw [put_ne (by omega)]; exact h.2.1 k hk, fun j hj => by
  rcases ha with rfl | rfl
  · rw [put_row, upd_at, if_neg hj, put_ne (by decide)]; exact h.2.2 j hj
  · rw [put_row, upd_at, if_neg hj, put_ne (by decide)]; exact h.2.2 j hj⟩
theorem NQ.put {i t : Nat} {M M' : Mem} {v : Int32} (h : NQ i M M') (ht : t = 1 ∨ t = 2) : NQ i M (put M' 154 (3 * i + t) v) := ⟨fun q x y => by rw [put_ne y]; exact h.1 q x y, fun k hk => by rw [put_ne (by decide)]; exact h.2.1 k hk, fun j a b => by rw [put_row, upd_at, if_neg (by omega)]; exact h.2.2 j a b⟩
theorem RB.congr {Mr Mr' : Mem} {L : Nat} {b : Nat → Nat} (h : RB Mr L b) (e : Mr' 145 = Mr 145) : RB Mr' L b := by
  unfold RB
  rw [e]
  exact h
theorem ER.congr {Mc Mr Mc' Mr' : Mem} (h : ER Mc Mr) (e1 : Mc' 1 = Mc 1) (e2 : Mr' 145 = Mr 145) : ER Mc' Mr' := by
  unfold ER
  rw [e1, e2]
  exact h
theorem J_put {N L lo hi i a t : Nat} {b : Nat → Nat} {Mc Mr : Mem} (hN : 600 < N) (hl : lo ≤ hi) (hh : hi < 10000) (hi20 : i < 20) (ha : a = 7 ∨ a = 8) (ht : t = 1 ∨ t = 2) (G : GD Mc Mr L b) : ∃ r x Mc' Mr', (∀ {α : Type} (K : Bool → Mem → Option α), (bnd (f_X_takeNumber N 146 (nI lo) (nI hi) Mc) fun (x1 : Bool) (M2 : Mem) => bndM (f_G_putAt a (nI i) (M2 1 7) M2) (K x1)) = K r Mc') ∧ (∀ {α : Type} (K : Mem → Option α), (bnd (f_M_readNumber N 146 (nI lo) (nI hi) Mr) fun (x1 : Int32) (M2 : Mem) => grd (inB (nI (3 * i) + nI t) 60) (nm (put M2 154 (nI (3 * i) + nI t).toNatClampNeg x1) K)) = K Mr') ∧ lo ≤ x ∧ x ≤ hi ∧ NP i Mc Mc' ∧ NQ i Mr Mr' ∧ Mr' 154 (3 * i + t) = nI x ∧ (∀ q, q ≠ 1 → q ≠ a → Mc' q = Mc q) ∧ (∀ j, j ≠ 3 * i + t → Mr' 154 j = Mr 154 j) ∧ ((r = true ∧ GD Mc' Mr' L b ∧ Mc' a i = nI x) ∨ (r = false ∧ ER Mc' Mr' ∧ RB Mr' L b)) := by
  obtain ⟨r, x, c2, m2, a2, b2, l2, u2, ⟨f2, g2, o2⟩, t2⟩ := J_num2 (rr := 146) (r2 := 146) (lo := lo) (hi := hi) hN hl hh G
  have z : zn a = 20 := by rcases ha with rfl | rfl <;> rfl
  refine ⟨r, x, put c2 a i (c2 1 7), put m2 154 (3 * i + t) (nI x), fun K => ?_, fun K => ?_, l2, u2, f2.np.put ha, g2.nq.put ht, by rw [put_row, upd_at, if_pos rfl], fun q x y => by rw [put_ne y]; exact f2.1 q x, fun j hj => by rw [put_row, upd_at, if_neg hj, g2.1 154 (by decide)], ?_⟩
  · rw [a2, bnd_s, C_putAt (by omega) (by omega), bndM_s]
  · rw [b2, bnd_s, show nI (3 * i) + nI t = nI (3 * i + t) from nI_add _ _, grd_of (inB_nI (by omega) (by omega)), nI_clamp (by omega), nm_eq]
  · rcases o2 with ⟨rfl, G2⟩ | ⟨rfl, E2, B2'⟩
    · refine Or.inl ⟨rfl, G2.keep (put_ne (by omega)) (put_ne (by omega)) (put_ne (by decide)) (put_ne (by decide)), ?_⟩
      rw [put_row, upd_at, if_pos rfl]
      exact t2 rfl
    · exact Or.inr ⟨rfl, E2.congr (put_ne (by omega)) (put_ne (by decide)), B2'.congr (put_ne (by decide))⟩
theorem bnd_ret {α : Type} {x : Option (α × Mem)} : (bnd x fun (a : α) (M : Mem) => some (a, M)) = x := by
  cases x with
  | none => rfl
  | some r => rfl
theorem outB_ok {x lo hi : Nat} (h1 : lo ≤ x) (h2 : x ≤ hi) (h3 : hi < 2 ^ 31) : outB (nI x) (nI lo) (nI hi) = false := by
  unfold outB
  rw [decide_eq_false (nI_nlt (by omega) (by omega)), decide_eq_false (nI_nlt (by omega) (by omega))]
  rfl
def OKN (c : Nat) (a b a' b' : Int32) : Prop := s_bad c a b = false ∧ (c ≠ 1 → c ≠ 7 → a = a') ∧ (c = 4 → b = b')
/-- the reference's reading after an order's word -/
def rT (N c : Nat) (x15 : Int32) (M17 : Mem) : Option Mem := bnd (f_M_readFirst N 146 (nI (c - 1)) M17) fun (x22 : Int32) (M23 : Mem) => grd (inB (x15 + (1 : Int32)) 60) (nm (put M23 154 (x15 + (1 : Int32)).toNatClampNeg x22) fun (M24 : Mem) => if nI (c - 1) = (3 : Int32) then (bnd (f_M_readNumber N 146 (1 : Int32) (9999 : Int32) M24) fun (x25 : Int32) (M26 : Mem) => grd (inB (x15 + (2 : Int32)) 60) (nm (put M26 154 (x15 + (2 : Int32)).toNatClampNeg x25) fun (M27 : Mem) => bndM (f_M_expect N 146 (59 : Int32) M27) fun (M29 : Mem) => some M29)) else (grd (inB (x15 + (2 : Int32)) 60) (nm (put M24 154 (x15 + (2 : Int32)).toNatClampNeg (0 : Int32)) fun (M30 : Mem) => bndM (f_M_expect N 146 (59 : Int32) M30) fun (M32 : Mem) => some M32)))
def JN (N L : Nat) (b : Nat → Nat) (Mc Mr : Mem) (i c : Nat) : Prop := ∃ r Mc' Mr', f_C_readNumbers N 146 (nI i) (nI c) Mc = some (r, Mc') ∧ rT N c (nI (3 * i)) Mr = (bndM (f_M_expect N 146 (59 : Int32) Mr') fun (M : Mem) => some M) ∧ NP i Mc Mc' ∧ NQ i Mr Mr' ∧ ((r = true ∧ GD Mc' Mr' L b ∧ OKN c (Mc' 7 i) (Mc' 8 i) (Mr' 154 (3 * i + 1)) (Mr' 154 (3 * i + 2))) ∨ (r = false ∧ ER Mc' Mr' ∧ RB Mr' L b))
theorem J_num1 {N L i c lo hi : Nat} {b : Nat → Nat} {Mc Mr : Mem} (hN : 600 < N) (hi20 : i < 20) (hl : lo ≤ hi) (hh : hi < 10000) (G : GD Mc Mr L b) (h4 : ¬ nI c = (4 : Int32)) (h3 : ¬ nI (c - 1) = (3 : Int32)) (hC : f_C_readNumbers N 146 (nI i) (nI c) Mc = bnd (f_X_takeNumber N 146 (nI lo) (nI hi) Mc) fun (x1 : Bool) (M2 : Mem) => bndM (f_G_putAt 7 (nI i) (M2 1 7) M2) fun (M4 : Mem) => if x1 = true then (if nI c = (4 : Int32) then (bnd (f_X_takeNumber N 146 (1 : Int32) (9999 : Int32) M4) fun (x5 : Bool) (M6 : Mem) => bndM (f_G_putAt 8 (nI i) (M6 1 7) M6) fun (M8 : Mem) => some (x5, M8)) else (some (x1, M4))) else (some (x1, M4))) (hR : f_M_readFirst N 146 (nI (c - 1)) Mr = bnd (f_M_readNumber N 146 (nI lo) (nI hi) Mr) fun (x1 : Int32) (M2 : Mem) => some (x1, M2)) (hb : ∀ x y, lo ≤ x → x ≤ hi → s_bad c (nI x) y = false) : JN N L b Mc Mr i c := by
  obtain ⟨r, x, Mc', Mr', k1, k2, l1, l2, p, q, e1, p2, q2, o⟩ := J_put (a := 7) (t := 1) hN hl hh hi20 (by omega) (by omega) G
  have hC' := hC.trans (k1 (fun (x1 : Bool) (M4 : Mem) => if x1 = true then (if nI c = (4 : Int32) then (bnd (f_X_takeNumber N 146 (1 : Int32) (9999 : Int32) M4) fun (x5 : Bool) (M6 : Mem) => bndM (f_G_putAt 8 (nI i) (M6 1 7) M6) fun (M8 : Mem) => some (x5, M8)) else (some (x1, M4))) else (some (x1, M4))))
  have hC2 : f_C_readNumbers N 146 (nI i) (nI c) Mc = some (r, Mc') := by
    rw [hC']
    cases r with
    | true => rw [if_pos rfl, if_neg h4]
    | false => rw [if_neg (by decide)]
  have hT : rT N c (nI (3 * i)) Mr = bndM (f_M_expect N 146 (59 : Int32) (put Mr' 154 (3 * i + 2) 0)) fun (M : Mem) => some M := by
    unfold rT
    rw [hR, bnd_ret]
    refine (k2 _).trans ?_
    rw [if_neg h3, show nI (3 * i) + (2 : Int32) = nI (3 * i + 2) from nI_add _ 2, grd_of (inB_nI (by omega) (by omega)), nI_clamp (by omega), nm_eq]
  refine ⟨r, Mc', _, hC2, hT, p, q.put (by omega), ?_⟩
  rcases o with ⟨rfl, G2, a7⟩ | ⟨rfl, E2, B2⟩
  · refine Or.inl ⟨rfl, G2.keep rfl rfl (put_ne (by decide)) (put_ne (by decide)), ?_, fun _ _ => ?_, fun e => absurd (by rw [e]; rfl) h4⟩
    · rw [a7]; exact hb x _ l1 l2
    · rw [a7, put_row, upd_at, if_neg (by omega), e1]
  · exact Or.inr ⟨rfl, E2.congr rfl (put_ne (by decide)), B2.congr (put_ne (by decide))⟩
theorem J_num0 {N L i c : Nat} {b : Nat → Nat} {Mc Mr : Mem} (hi20 : i < 20) (G : GD Mc Mr L b) (h3 : ¬ nI (c - 1) = (3 : Int32)) (hC : f_C_readNumbers N 146 (nI i) (nI c) Mc = bndM (f_G_putAt 7 (nI i) (Mc 1 7) Mc) fun (M4 : Mem) => some (true, M4)) (hR : f_M_readFirst N 146 (nI (c - 1)) Mr = some (0, Mr)) (hb : ∀ x y, s_bad c x y = false) (hc : c = 1 ∨ c = 7) : JN N L b Mc Mr i c := by
  refine ⟨true, put Mc 7 i (Mc 1 7), put (put Mr 154 (3 * i + 1) 0) 154 (3 * i + 2) 0, ?_, ?_, F1.rf.np.put (by omega), (F145.rf.nq.put (by omega)).put (by omega), Or.inl ⟨rfl, G.keep (put_ne (by decide)) (put_ne (by decide)) (by rw [put_ne (by decide), put_ne (by decide)]) (by rw [put_ne (by decide), put_ne (by decide)]), hb _ _, fun a b => by omega, fun e => by omega⟩⟩
  · rw [hC, C_putAt (by show i < 20; exact hi20) (by decide), bndM_s]
  · unfold rT
    rw [hR, bnd_s, show nI (3 * i) + (1 : Int32) = nI (3 * i + 1) from nI_add _ 1, grd_of (inB_nI (by omega) (by omega)), nI_clamp (by omega), nm_eq, if_neg h3, show nI (3 * i) + (2 : Int32) = nI (3 * i + 2) from nI_add _ 2, grd_of (inB_nI (by omega) (by omega)), nI_clamp (by omega), nm_eq]
theorem J_num4 {N L i : Nat} {b : Nat → Nat} {Mc Mr : Mem} (hN : 600 < N) (hi20 : i < 20) (G : GD Mc Mr L b) : JN N L b Mc Mr i 4 := by
  obtain ⟨r, x, Mc', Mr', k1, k2, l1, l2, p, q, e1, p2, q2, o⟩ := J_put (lo := 1) (hi := 999) (a := 7) (t := 1) hN (by omega) (by omega) hi20 (by omega) (by omega) G
  unfold JN
  have hC : f_C_readNumbers N 146 (nI i) (nI 4) Mc = bnd (f_X_takeNumber N 146 (nI 1) (nI 999) Mc) fun (x1 : Bool) (M2 : Mem) => bndM (f_G_putAt 7 (nI i) (M2 1 7) M2) fun (M4 : Mem) => if x1 = true then (if nI 4 = (4 : Int32) then (bnd (f_X_takeNumber N 146 (1 : Int32) (9999 : Int32) M4) fun (x5 : Bool) (M6 : Mem) => bndM (f_G_putAt 8 (nI i) (M6 1 7) M6) fun (M8 : Mem) => some (x5, M8)) else (some (x1, M4))) else (some (x1, M4)) := rfl
  have hR : f_M_readFirst N 146 (nI (4 - 1)) Mr = bnd (f_M_readNumber N 146 (nI 1) (nI 999) Mr) fun (x1 : Int32) (M2 : Mem) => some (x1, M2) := rfl
  have hC' := hC.trans (k1 (fun (x1 : Bool) (M4 : Mem) => if x1 = true then (if nI 4 = (4 : Int32) then (bnd (f_X_takeNumber N 146 (1 : Int32) (9999 : Int32) M4) fun (x5 : Bool) (M6 : Mem) => bndM (f_G_putAt 8 (nI i) (M6 1 7) M6) fun (M8 : Mem) => some (x5, M8)) else (some (x1, M4))) else (some (x1, M4))))
  have hT : rT N 4 (nI (3 * i)) Mr = bnd (f_M_readNumber N 146 (nI 1) (nI 9999) Mr') fun (x25 : Int32) (M26 : Mem) => grd (inB (nI (3 * i) + nI 2) 60) (nm (put M26 154 (nI (3 * i) + nI 2).toNatClampNeg x25) fun (M27 : Mem) => bndM (f_M_expect N 146 (59 : Int32) M27) fun (M29 : Mem) => some M29) := by
    unfold rT
    rw [hR, bnd_ret]
    refine (k2 _).trans ?_
    rw [if_pos (show nI (4 - 1) = (3 : Int32) from rfl)]
    rfl
  rw [hC', hT]
  rcases o with ⟨rfl, G2, a7⟩ | ⟨rfl, E2, B2⟩
  · rw [if_pos rfl, if_pos (show nI 4 = (4 : Int32) from rfl)]
    obtain ⟨r2, x2, Mc2, Mr2, j1, j2, m1, m2, p', q', e2, p2', q2', o2⟩ := J_put (lo := 1) (hi := 9999) (a := 8) (t := 2) hN (by omega) (by omega) hi20 (by omega) (by omega) G2
    refine ⟨r2, Mc2, Mr2, j1 (fun x M => some (x, M)), j2 _, p.trans p', q.trans q', ?_⟩
    rcases o2 with ⟨rfl, G3, a8⟩ | ⟨rfl, E3, B3⟩
    · have c7 : Mc2 7 i = nI x := by rw [p2' 7 (by decide) (by decide)]; exact a7
      have c1 : Mr2 154 (3 * i + 1) = nI x := by rw [q2' _ (by omega)]; exact e1
      refine Or.inl ⟨rfl, G3, ?_, fun _ _ => by rw [c7, c1], fun _ => by rw [a8, e2]⟩
      rw [c7, a8]
      show (outB (nI x) (nI 1) (nI 999) || outB (nI x2) (nI 1) (nI 9999)) = false
      rw [outB_ok l1 l2 (by omega), outB_ok m1 m2 (by omega)]
      rfl
    · exact Or.inr ⟨rfl, E3, B3⟩
  · rw [if_neg (by decide), B_readNumber hN B2, bnd_s, show nI (3 * i) + nI 2 = nI (3 * i + 2) from nI_add _ 2, grd_of (inB_nI (by omega) (by omega)), nI_clamp (by omega), nm_eq]
    exact ⟨false, Mc', _, rfl, rfl, p, q.put (by omega), Or.inr ⟨rfl, E2.congr rfl (put_ne (by decide)), B2.congr (put_ne (by decide))⟩⟩
theorem J_nums {N L i c : Nat} {b : Nat → Nat} {Mc Mr : Mem} (hN : 600 < N) (hi20 : i < 20) (hc : 1 ≤ c ∧ c ≤ 8) (G : GD Mc Mr L b) : JN N L b Mc Mr i c := by
  have hh : c = 1 ∨ c = 2 ∨ c = 3 ∨ c = 4 ∨ c = 5 ∨ c = 6 ∨ c = 7 ∨ c = 8 := by omega
  rcases hh with rfl | rfl | rfl | rfl | rfl | rfl | rfl | rfl
  · exact J_num0 hi20 G (by decide) rfl rfl (fun _ _ => rfl) (by omega)
  · exact J_num1 (lo := 1) (hi := 200) hN hi20 (by omega) (by omega) G (by decide) (by decide) rfl rfl (fun x y h1 h2 => outB_ok h1 h2 (by decide))
  · exact J_num1 (lo := 1) (hi := 200) hN hi20 (by omega) (by omega) G (by decide) (by decide) rfl rfl (fun x y h1 h2 => outB_ok h1 h2 (by decide))
  · exact J_num4 hN hi20 G
  · exact J_num1 (lo := 1) (hi := 20) hN hi20 (by omega) (by omega) G (by decide) (by decide) rfl rfl (fun x y h1 h2 => outB_ok h1 h2 (by decide))
  · exact J_num1 (lo := 0) (hi := 2200) hN hi20 (by omega) (by omega) G (by decide) (by decide) rfl rfl (fun x y h1 h2 => outB_ok h1 h2 (by decide))
  · exact J_num0 hi20 G (by decide) rfl rfl (fun _ _ => rfl) (by omega)
  · exact J_num1 (lo := 1) (hi := 60) hN hi20 (by omega) (by omega) G (by decide) (by decide) rfl rfl (fun x y h1 h2 => outB_ok h1 h2 (by decide))
