/-! what a script's text holds, both sides -/
def OE (Mc Mr : Mem) (i c : Nat) : Prop := 1 ≤ c ∧ c ≤ 8 ∧ Mc 6 i = nI c ∧ Mr 154 (3 * i) = nI (c - 1) ∧ Mc 9 i = nI (i + 1) ∧ OKN c (Mc 7 i) (Mc 8 i) (Mr 154 (3 * i + 1)) (Mr 154 (3 * i + 2))
def RE (Mc Mr : Mem) (i e x : Nat) : Prop := 2 ≤ x ∧ x ≤ 5 ∧ Mc 6 i = nI 9 ∧ Mr 154 (3 * i) = nI 8 ∧ Mc 7 i = nI x ∧ Mr 154 (3 * i + 1) = nI x ∧ Mc 9 i = nI e ∧ Mr 154 (3 * i + 2) = nI e
/-- one level: single orders O, repeats R -/
def BN (O : Nat → Prop) (R : Nat → Nat → Prop) : Nat → Nat → Nat → Prop
  | 0, s, e => s = e
  | n + 1, s, e => (O s ∧ BN O R n (s + 1) e) ∨ ∃ e1, R s e1 ∧ BN O R n e1 e
def BL (Mc Mr : Mem) : Nat → Nat → Nat → Nat → Prop
  | 0 => BN (fun s => ∃ c, OE Mc Mr s c) (fun _ _ => False)
  | d + 1 => BN (fun s => ∃ c, OE Mc Mr s c) (fun s e1 => ∃ x m, RE Mc Mr s e1 x ∧ BL Mc Mr d m (s + 1) e1)
theorem BL.nil {Mc Mr : Mem} (d s : Nat) : BL Mc Mr d 0 s s := by
  cases d with
  | zero => exact rfl
  | succ d => exact rfl
theorem BL.one {Mc Mr : Mem} (d n s e c : Nat) (h1 : OE Mc Mr s c) (h2 : BL Mc Mr d n (s + 1) e) : BL Mc Mr d (n + 1) s e := by
  cases d with
  | zero => exact Or.inl ⟨⟨c, h1⟩, h2⟩
  | succ d => exact Or.inl ⟨⟨c, h1⟩, h2⟩
theorem BL.rep {Mc Mr : Mem} (d n m s e1 e x : Nat) (h1 : RE Mc Mr s e1 x) (h2 : BL Mc Mr d m (s + 1) e1) (h3 : BL Mc Mr (d + 1) n e1 e) : BL Mc Mr (d + 1) (n + 1) s e := Or.inr ⟨e1, ⟨x, m, h1, h2⟩, h3⟩
theorem BL.ind {Mc Mr : Mem} {P : Nat → Nat → Nat → Nat → Prop} (p0 : ∀ d s, P d 0 s s) (p1 : ∀ d n s e c, OE Mc Mr s c → BL Mc Mr d n (s + 1) e → P d n (s + 1) e → P d (n + 1) s e) (p2 : ∀ d n m s e1 e x, RE Mc Mr s e1 x → BL Mc Mr d m (s + 1) e1 → BL Mc Mr (d + 1) n e1 e → P d m (s + 1) e1 → P (d + 1) n e1 e → P (d + 1) (n + 1) s e) : ∀ d n s e, BL Mc Mr d n s e → P d n s e := by
  intro d
  induction d with
  | zero =>
    intro n
    induction n with
    | zero =>
      intro s e h
      obtain rfl : s = e := h
      exact p0 0 s
    | succ n ihn =>
      intro s e h
      rcases (show (_ ∧ _) ∨ _ from h) with ⟨⟨c, h1⟩, h2⟩ | ⟨_, h1, _⟩
      · exact p1 0 n s e c h1 h2 (ihn (s + 1) e h2)
      · exact absurd h1 (fun z => z)
  | succ d ihd =>
    intro n
    induction n with
    | zero =>
      intro s e h
      obtain rfl : s = e := h
      exact p0 _ s
    | succ n ihn =>
      intro s e h
      rcases (show (_ ∧ _) ∨ _ from h) with ⟨⟨c, h1⟩, h2⟩ | ⟨e1, ⟨x, m, h1, h2⟩, h3⟩
      · exact p1 _ n s e c h1 h2 (ihn (s + 1) e h2)
      · exact p2 d n m s e1 e x h1 h2 h3 (ihd m (s + 1) e1 h2) (ihn e1 e h3)
theorem BL.le {Mc Mr : Mem} {d n s e : Nat} (h : BL Mc Mr d n s e) : s + n ≤ e := by
  refine BL.ind (P := fun _ n s e => s + n ≤ e) (fun d s => by omega) (fun d n s e c h1 h2 ih => by omega) (fun d n m s e1 e x h1 h2 h3 ih1 ih2 => by omega) d n s e h
def EQe (Mc Mr Mc' Mr' : Mem) (i : Nat) : Prop := Mc' 6 i = Mc 6 i ∧ Mc' 7 i = Mc 7 i ∧ Mc' 8 i = Mc 8 i ∧ Mc' 9 i = Mc 9 i ∧ Mr' 154 (3 * i) = Mr 154 (3 * i) ∧ Mr' 154 (3 * i + 1) = Mr 154 (3 * i + 1) ∧ Mr' 154 (3 * i + 2) = Mr 154 (3 * i + 2)
theorem OE.congr {Mc Mr Mc' Mr' : Mem} {i c : Nat} (h : OE Mc Mr i c) (e : EQe Mc Mr Mc' Mr' i) : OE Mc' Mr' i c := by
  obtain ⟨e1, e2, e3, e4, e5, e6, e7⟩ := e
  unfold OE
  rw [e1, e2, e3, e4, e5, e6, e7]
  exact h
theorem RE.congr {Mc Mr Mc' Mr' : Mem} {i e x : Nat} (h : RE Mc Mr i e x) (q : EQe Mc Mr Mc' Mr' i) : RE Mc' Mr' i e x := by
  obtain ⟨e1, e2, e3, e4, e5, e6, e7⟩ := q
  unfold RE
  rw [e1, e2, e4, e5, e6, e7]
  exact h
theorem BL.congr {Mc Mr Mc' Mr' : Mem} {d n s e : Nat} (h : BL Mc Mr d n s e) : (∀ i, s ≤ i → i < e → EQe Mc Mr Mc' Mr' i) → BL Mc' Mr' d n s e := by
  refine BL.ind (P := fun d n s e => (∀ i, s ≤ i → i < e → EQe Mc Mr Mc' Mr' i) → BL Mc' Mr' d n s e) (fun d s _ => BL.nil d s) (fun d n s e c h1 h2 ih q => ?_) (fun d n m s e1 e x h1 h2 h3 ih1 ih2 q => ?_) d n s e h
  · have := h2.le
    exact BL.one d n s e c (h1.congr (q s (by omega) (by omega))) (ih fun i a b => q i (by omega) b)
  · have := h2.le
    have := h3.le
    exact BL.rep d n m s e1 e x (h1.congr (q s (by omega) (by omega))) (ih1 fun i a b => q i (by omega) (by omega)) (ih2 fun i a b => q i (by omega) b)
def FS (n : Nat) (Mc Mc' : Mem) : Prop := (∀ q, (q = 0 ∨ q = 2 ∨ q = 3 ∨ q = 4 ∨ 10 ≤ q) → Mc' q = Mc q) ∧ (∀ k, k < 3 → Mc' 1 k = Mc 1 k) ∧ Mc' 5 5 = Mc 5 5 ∧ ∀ j, j < n → Mc' 6 j = Mc 6 j ∧ Mc' 7 j = Mc 7 j ∧ Mc' 8 j = Mc 8 j ∧ Mc' 9 j = Mc 9 j
def FT (n : Nat) (Mr Mr' : Mem) : Prop := (∀ q, q ≠ 145 → q ≠ 154 → Mr' q = Mr q) ∧ (∀ k, (k < 17 ∨ 22 ≤ k) → k ≠ 26 → Mr' 145 k = Mr 145 k) ∧ ∀ j, j < 3 * n → Mr' 154 j = Mr 154 j
theorem FS.rf {n : Nat} {M : Mem} : FS n M M := ⟨fun _ _ => rfl, fun _ _ => rfl, rfl, fun _ _ => ⟨rfl, rfl, rfl, rfl⟩⟩
theorem FT.rf {n : Nat} {M : Mem} : FT n M M := ⟨fun _ _ _ => rfl, fun _ _ _ => rfl, fun _ _ => rfl⟩
theorem FS.trans {n m : Nat} {M M' M'' : Mem} (h : FS n M M') (g : FS m M' M'') (l : n ≤ m) : FS n M M'' := ⟨fun q a => (g.1 q a).trans (h.1 q a), fun k a => (g.2.1 k a).trans (h.2.1 k a), g.2.2.1.trans h.2.2.1, fun j hj => by
  obtain ⟨a1, a2, a3, a4⟩ := h.2.2.2 j hj
  obtain ⟨b1, b2, b3, b4⟩ := g.2.2.2 j (by omega)
  exact ⟨b1.trans a1, b2.trans a2, b3.trans a3, b4.trans a4⟩⟩
theorem FT.trans {n m : Nat} {M M' M'' : Mem} (h : FT n M M') (g : FT m M' M'') (l : n ≤ m) : FT n M M'' := ⟨fun q a b => (g.1 q a b).trans (h.1 q a b), fun k a b => (g.2.1 k a b).trans (h.2.1 k a b), fun j hj => (g.2.2 j (by omega)).trans (h.2.2 j hj)⟩
theorem F1.fs {n : Nat} {M M' : Mem} (h : F1 M M') : FS n M M' := ⟨fun q a => h.1 q (by omega), h.2, by rw [h.1 5 (by decide)], fun j _ => by rw [h.1 6 (by decide), h.1 7 (by decide), h.1 8 (by decide), h.1 9 (by decide)]; exact ⟨rfl, rfl, rfl, rfl⟩⟩
theorem F145.ft {n : Nat} {M M' : Mem} (h : F145 M M') : FT n M M' := ⟨fun q a _ => h.1 q a, fun k a _ => h.2 k a, fun j _ => by rw [h.1 154 (by decide)]⟩
theorem NP.fs {i n : Nat} {M M' : Mem} (h : NP i M M') (l : n ≤ i) : FS n M M' := ⟨fun q a => h.1 q (by omega) (by omega) (by omega), h.2.1, by rw [h.1 5 (by decide) (by decide) (by decide)], fun j hj => by
  rw [h.1 6 (by decide) (by decide) (by decide), h.1 9 (by decide) (by decide) (by decide)]
  exact ⟨rfl, (h.2.2 j (by omega)).1, (h.2.2 j (by omega)).2, rfl⟩⟩
theorem NQ.ft {i n : Nat} {M M' : Mem} (h : NQ i M M') (l : n ≤ i) : FT n M M' := ⟨h.1, fun k a _ => h.2.1 k a, fun j hj => h.2.2 j (by omega) (by omega)⟩
theorem FS.pt {n p k : Nat} {M M' : Mem} {v : Int32} (h : FS n M M') (hp : (p = 5 ∧ k = 4) ∨ ((p = 6 ∨ p = 9) ∧ n ≤ k)) : FS n M (put M' p k v) := ⟨fun q a => by rw [put_ne (by omega)]; exact h.1 q a, fun j hj => by rw [put_ne (by omega)]; exact h.2.1 j hj, by
  rw [put_at]
  by_cases e : 5 = p
  · rw [if_pos e, if_neg (by omega), ← e]; exact h.2.2.1
  · rw [if_neg e]; exact h.2.2.1, fun j hj => by
  have a : ∀ q, (q = 6 ∨ q = 7 ∨ q = 8 ∨ q = 9) → put M' p k v q j = M' q j := fun q hq => by
    rw [put_at]
    by_cases e : q = p
    · rw [if_pos e, if_neg (by omega), e]
    · rw [if_neg e]
  rw [a 6 (by omega), a 7 (by omega), a 8 (by omega), a 9 (by omega)]
  exact h.2.2.2 j hj⟩
theorem FT.pt {n k : Nat} {M M' : Mem} {v : Int32} (h : FT n M M') (hk : 3 * n ≤ k) : FT n M (put M' 154 k v) := ⟨fun q a b => by rw [put_ne b]; exact h.1 q a b, fun j a b => by rw [put_ne (by decide)]; exact h.2.1 j a b, fun j hj => by rw [put_row, upd_at, if_neg (by omega)]; exact h.2.2 j hj⟩
theorem FT.p26 {n : Nat} {M M' : Mem} {v : Int32} (h : FT n M M') : FT n M (put M' 145 26 v) := ⟨fun q a b => by rw [put_ne a]; exact h.1 q a b, fun j a b => by rw [put_row, upd_at, if_neg b]; exact h.2.1 j a b, fun j hj => by rw [put_ne (by decide)]; exact h.2.2 j hj⟩
theorem GD.p26 {Mc Mr : Mem} {L : Nat} {b : Nat → Nat} {v : Int32} (h : GD Mc Mr L b) : GD Mc (put Mr 145 26 v) L b := by
  have a : ∀ k, k ≠ 26 → put Mr 145 26 v 145 k = Mr 145 k := fun k hk => by rw [put_row, upd_at, if_neg hk]
  unfold GD TS TK
  rw [a 16 (by decide), a 17 (by decide), a 18 (by decide), a 19 (by decide), a 20 (by decide), put_ne (show 153 ≠ 145 by decide)]
  exact h
theorem GD.kind {Mc Mr : Mem} {L : Nat} {b : Nat → Nat} (h : GD Mc Mr L b) : ∃ k, k ≤ 6 ∧ Mc 1 3 = nI k ∧ Mr 145 19 = nI (min k 3) := by
  obtain ⟨-, ⟨st, nx, -, -, -, -, -, -, k7, k8, -⟩, -, -, -⟩ := h
  exact ⟨_, kb_le, k7, k8⟩
