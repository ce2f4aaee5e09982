theorem J_semi {N L i e q : Nat} {b : Nat → Nat} {Mc Mr c4 m4 : Mem} {rc : Int32 → Mem → Option (Bool × Mem)} {rb : Int32 → Mem → Option Mem} {a : Int32} (hN : 600 < N) (hC : f_C_readCommand N 146 rc a Mc = some (true, c4)) (hR : fs_M_readOrder N 146 rb a Mr = bndM (f_M_expect N 146 (59 : Int32) m4) fun (M21 : Mem) => some M21) (G : GD c4 m4 L b) (he : i < e ∧ e ≤ 20) (h5 : c4 5 4 = nI e) (h26 : m4 145 26 = nI e) (fs : FS i Mc c4) (ft : FT i Mr m4) (one : (∃ c, OE c4 m4 i c ∧ e = i + 1) ∨ ∃ x m q', q = q' + 1 ∧ RE c4 m4 i e x ∧ BL c4 m4 q' m (i + 1) e) : JO N L b q rc rb a Mc Mr i := by
  obtain ⟨r5, c5, m5, a5, b5, f5, g5, o5⟩ := J_sgn (rr := 146) (r2 := 146) (y := 59) (k := 3) hN G (Or.inl ⟨rfl, rfl⟩)
  have b5' : f_M_expect N 146 (59 : Int32) m4 = some m5 := b5
  rw [b5', bndM_s] at hR
  have a5' : f_X_takeSign N 146 (3 : Int32) c4 = some (r5, c5) := a5
  have eq : ∀ j, EQe c4 m4 c5 m5 j := fun j => by
    unfold EQe
    rw [f5.1 6 (by decide), f5.1 7 (by decide), f5.1 8 (by decide), f5.1 9 (by decide), g5.1 154 (by decide)]
    exact ⟨rfl, rfl, rfl, rfl, rfl, rfl, rfl⟩
  rcases o5 with ⟨rfl, G5⟩ | ⟨rfl, E5, B5'⟩
  · refine Or.inl ⟨c5, m5, e, he.1, he.2, fun KC => by unfold cE; rw [hC, bnd_s, if_pos rfl, a5', bnd_s, if_pos rfl], hR, G5, by rw [f5.1 5 (by decide)]; exact h5, by rw [g5.2 26 (by omega)]; exact h26, fs.trans (f5.fs (n := i)) (Nat.le_refl _), ft.trans (g5.ft (n := i)) (Nat.le_refl _), ?_⟩
    rcases one with ⟨c, h1, h2⟩ | ⟨x, m, q', h1, h2, h3⟩
    · exact Or.inl ⟨c, h1.congr (eq i), h2⟩
    · exact Or.inr ⟨x, m, q', h1, h2.congr (eq i), h3.congr (fun j _ _ => eq j)⟩
  · exact Or.inr ⟨c5, m5, fun KC => by unfold cE; rw [hC, bnd_s, if_pos rfl, a5', bnd_s, if_neg (by decide)], hR, E5, B5', fs.trans (f5.fs (n := i)) (Nat.le_refl _), ft.trans (g5.ft (n := i)) (Nat.le_refl _)⟩
theorem J_ord8 {N L i c q : Nat} {b : Nat → Nat} {Mc Mr : Mem} {rc : Int32 → Mem → Option (Bool × Mem)} {rb : Int32 → Mem → Option Mem} {a : Int32} (hN : 600 < N) (hi : i < 20) (hc : 1 ≤ c ∧ c ≤ 8) (G : GD Mc Mr L b) (h5 : Mc 5 4 = nI i) (h26 : Mr 145 26 = nI i) (w1 : f_C_commandAt N 146 Mc = some (nI c, Mc)) (w2 : f_M_orderHere N 146 Mr = some (nI (c - 1), Mr)) : JO N L b q rc rb a Mc Mr i := by
  obtain ⟨c1, m1, a1, a2, G1, p5, p26, p6, p154, fs, ft⟩ := J_take (rb := rb) (a := a) hN hi (by omega) (fun e => by omega) G h26 w2
  obtain ⟨r, c3, m3, n1, n2, np, nq, o⟩ := J_nums (i := i) hN hi hc G1
  have n9 : ¬ nI c = (9 : Int32) := fun z => by have := (nI_eq (by omega) (by omega)).mp (z.trans (show (9 : Int32) = nI 9 from rfl)); omega
  have n8 : ¬ nI (c - 1) = (8 : Int32) := fun z => by have := (nI_eq (by omega) (by omega)).mp (z.trans (show (8 : Int32) = nI 8 from rfl)); omega
  have n0 : ¬ nI c = (0 : Int32) := nI_ne0 (by omega) (by omega)
  rw [if_neg n8, n2] at a2
  have hC : f_C_readCommand N 146 rc a Mc = if r = true then (bndM (f_G_putAt 9 (nI i) (c3 5 4) c3) fun (M34 : Mem) => some (true, M34)) else some (false, c3) := by
    unfold f_C_readCommand
    rw [w1, bnd_s, if_neg n0, if_pos (by rw [h5]; show nI i < nI 20; exact nI_lt (by omega) (by omega)), if_neg n9, nm_eq, h5, nI_1, nm_eq, C_putAt (by show i < 20; exact hi) (by decide), bndM_s, a1, bndM_s, n1, bnd_s, if_neg n9]
  have c5 : c3 5 4 = nI (i + 1) := by rw [np.1 5 (by decide) (by decide) (by decide)]; exact p5
  have fs3 : FS i Mc c3 := fs.trans (np.fs (Nat.le_refl _)) (Nat.le_refl _)
  have ft3 : FT i Mr m3 := ft.trans (nq.ft (Nat.le_refl _)) (Nat.le_refl _)
  rcases o with ⟨rfl, G3, hn⟩ | ⟨rfl, E3, B3⟩
  · rw [if_pos rfl, c5, C_putAt (by show i < 20; exact hi) (by decide), bndM_s] at hC
    refine J_semi (e := i + 1) hN hC a2 (G3.keep (put_ne (by decide)) (put_ne (by decide)) rfl rfl) (by omega) (by rw [put_ne (by decide)]; exact c5) (by rw [nq.2.1 26 (by omega)]; exact p26) (fs3.pt (Or.inr ⟨Or.inr rfl, Nat.le_refl _⟩)) ft3 (Or.inl ⟨c, ⟨hc.1, hc.2, ?_, ?_, ?_, ?_⟩, rfl⟩)
    · rw [put_ne (by decide), np.1 6 (by decide) (by decide) (by decide)]; exact p6
    · rw [nq.2.2 _ (by omega) (by omega)]; exact p154
    · rw [put_row, upd_at, if_pos rfl]
    · rw [put_ne (by decide), put_ne (by decide)]; exact hn
  · rw [if_neg (by decide)] at hC
    rw [B_expect B3, bndM_s] at a2
    exact JO.bad hC a2 E3 B3 fs3 ft3
