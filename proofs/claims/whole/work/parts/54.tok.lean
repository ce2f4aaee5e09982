/-! tokens, both sides: a good state, and the first error -/
def TK (Mc Mr : Mem) (L : Nat) (b : Nat → Nat) (st nx : Nat) : Prop := Mc 1 4 = nI st ∧ Mr 145 18 = nI st ∧ Mc 1 5 = nI nx ∧ Mr 145 17 = nI nx ∧ st ≤ nx ∧ nx ≤ L ∧ Mc 1 3 = nI (kb b L st) ∧ Mr 145 19 = nI (min (kb b L st) 3) ∧ (kb b L st = 2 → Mc 1 6 = cnm b st (nx - st) ∧ st < nx ∧ ∀ k, st ≤ k → k < nx → isDi (b k) = true)
/-- a scan touches the token alone -/
def Fs (Mc Mc' : Mem) : Prop := (∀ q, q ≠ 1 → Mc' q = Mc q) ∧ ∀ k, (k < 3 ∨ 7 ≤ k) → Mc' 1 k = Mc 1 k
def Gs (Mr Mr' : Mem) : Prop := (∀ q, q ≠ 145 → Mr' q = Mr q) ∧ ∀ k, (k < 17 ∨ 20 ≤ k) → Mr' 145 k = Mr 145 k
theorem Fs.rf {M : Mem} : Fs M M := ⟨fun _ _ => rfl, fun _ _ => rfl⟩
theorem Gs.rf {M : Mem} : Gs M M := ⟨fun _ _ => rfl, fun _ _ => rfl⟩
theorem Fs.put {M M' : Mem} {k : Nat} {v : Int32} (h : Fs M M') (hk : 3 ≤ k ∧ k < 7) : Fs M (put M' 1 k v) := ⟨fun q a => by rw [put_ne a]; exact h.1 q a, fun j hj => by rw [put_row, upd_at, if_neg (by omega)]; exact h.2 j hj⟩
theorem Gs.put {M M' : Mem} {k : Nat} {v : Int32} (h : Gs M M') (hk : 17 ≤ k ∧ k < 20) : Gs M (put M' 145 k v) := ⟨fun q a => by rw [put_ne a]; exact h.1 q a, fun j hj => by rw [put_row, upd_at, if_neg (by omega)]; exact h.2 j hj⟩
theorem Fs.f {M M' : Mem} (h : Fs M M') : F1 M M' := ⟨h.1, fun k hk => h.2 k (by omega)⟩
theorem Gs.f {M M' : Mem} (h : Gs M M') : F145 M M' := ⟨h.1, fun k hk => h.2 k (by omega)⟩
theorem J_scan {N rr r2 L n : Nat} {b : Nat → Nat} {Mc Mr : Mem} (hN : 600 < N) (T : TS Mc Mr L b) (h1 : Mc 1 5 = nI n) (h2 : Mr 145 17 = nI n) (hn : n ≤ L) : ∃ Mc' Mr' st nx, f_X_advance N rr Mc = some Mc' ∧ f_M_scan N r2 Mr = some Mr' ∧ TK Mc' Mr' L b st nx ∧ Fs Mc Mc' ∧ Gs Mr Mr' := by
  have hL := T.1
  obtain ⟨w1, w2, w3⟩ := run_W (P := isBl) (b := b) (L := L) (L - n) n (by omega)
  have cs := lpC_sk (N0 := N) (rr := rr) (b := b) (k0 := fun (a7 : Unit) (M6 : Mem) => nm (put M6 1 4 (M6 1 5)) fun (M8 : Mem) => bnd (f_X_byteAt (M8 1 4) M8) fun (x9 : Int32) (M10 : Mem) => bnd (f_X_kindOf x9 M10) fun (x11 : Int32) (M12 : Mem) => nm (put M12 1 3 x11) fun (M13 : Mem) => if (M13 1 3) = (1 : Int32) then (lp_X_advance_69 N rr N () M13 (fun (a20 : Unit) (M19 : Mem) => some M19)) else (if (M13 1 3) = (2 : Int32) then (nm (put M13 1 6 (0 : Int32)) fun (M21 : Mem) => lp_X_advance_121 N rr N () M21 (fun (a31 : Unit) (M30 : Mem) => some M30)) else (if (M13 1 3) = 0 then (some M13) else (nm (put M13 1 5 ((M13 1 5) + (1 : Int32))) fun (M32 : Mem) => some M32)))) (L - n) n N Mc Mr (by omega) (by omega) T h1
  have rs := lpR_sk (N0 := N) (rr := r2) (b := b) (k0 := fun (a8 : Unit) (M7 : Mem) => nm (put M7 145 18 (M7 145 17)) fun (M9 : Mem) => if (M9 145 17) < (M9 145 16) then (bnd (f_M_isLetter (M9 145 17) M9) fun (x10 : Bool) (M11 : Mem) => if x10 = true then (lp_M_scan_77 N r2 N () M11 (fun (a16 : Unit) (M15 : Mem) => nm (put M15 145 19 (1 : Int32)) fun (M17 : Mem) => some M17)) else (bnd (f_M_isDigit (M11 145 17) M11) fun (x18 : Bool) (M19 : Mem) => if x18 = true then (lp_M_scan_120 N r2 N () M19 (fun (a24 : Unit) (M23 : Mem) => nm (put M23 145 19 (2 : Int32)) fun (M25 : Mem) => some M25)) else (nm (put M19 145 17 ((M19 145 17) + (1 : Int32))) fun (M26 : Mem) => nm (put M26 145 19 (3 : Int32)) fun (M27 : Mem) => some M27))) else (nm (put M9 145 19 (0 : Int32)) fun (M28 : Mem) => some M28)) (L - n) n N Mc Mr (by omega) (by omega) T h2
  unfold f_X_advance f_M_scan
  rw [cs, rs]
  generalize hst : run isBl b L (L - n) n = st at w1 w2 w3 ⊢
  have p5 : (put Mc 1 5 (nI st)) 1 5 = nI st := by rw [put_row, upd_at, if_pos rfl]
  have p17 : (put Mr 145 17 (nI st)) 145 17 = nI st := by rw [put_row, upd_at, if_pos rfl]
  rw [nm_eq, nm_eq, p5, p17]
  have f2 : Fs Mc (put (put Mc 1 5 (nI st)) 1 4 (nI st)) := (Fs.rf.put (by omega)).put (by omega)
  have g2 : Gs Mr (put (put Mr 145 17 (nI st)) 145 18 (nI st)) := (Gs.rf.put (by omega)).put (by omega)
  have T2 := T.kept f2.f g2.f
  have a4 : (put (put Mc 1 5 (nI st)) 1 4 (nI st)) 1 4 = nI st := by rw [put_row, upd_at, if_pos rfl]
  have a5 : (put (put Mc 1 5 (nI st)) 1 4 (nI st)) 1 5 = nI st := by rw [put_row, upd_at, if_neg (by decide)]; exact p5
  have a17 : (put (put Mr 145 17 (nI st)) 145 18 (nI st)) 145 17 = nI st := by rw [put_row, upd_at, if_neg (by decide)]; exact p17
  have a18 : (put (put Mr 145 17 (nI st)) 145 18 (nI st)) 145 18 = nI st := by rw [put_row, upd_at, if_pos rfl]
  generalize put (put Mc 1 5 (nI st)) 1 4 (nI st) = M2 at *
  generalize put (put Mr 145 17 (nI st)) 145 18 (nI st) = R2 at *
  have hk6 := kb_le (b := b) (L := L) (k := st)
  rw [a4, C_byteAt T2 (by omega), bnd_s, C_kindOf, bnd_s, kI_by T2, nm_eq]
  have f3 : Fs Mc (put M2 1 3 (nI (kb b L st))) := f2.put (by omega)
  have T3 := T.kept f3.f g2.f
  have b3 : (put M2 1 3 (nI (kb b L st))) 1 3 = nI (kb b L st) := by rw [put_row, upd_at, if_pos rfl]
  have b4 : (put M2 1 3 (nI (kb b L st))) 1 4 = nI st := by rw [put_row, upd_at, if_neg (by decide)]; exact a4
  have b5 : (put M2 1 3 (nI (kb b L st))) 1 5 = nI st := by rw [put_row, upd_at, if_neg (by decide)]; exact a5
  generalize put M2 1 3 (nI (kb b L st)) = M3 at *
  rw [b3, a17, T2.2.2.1]
  rcases Nat.lt_or_ge st L with q | q
  · have ek : kb b L st = kd (b st) := if_pos q
    have hp := kd_pos (x := b st)
    rw [if_pos (nI_lt q (by omega)), R_letter T2 (by omega), bnd_s]
    by_cases k1 : kb b L st = 1
    · obtain ⟨x1, x2, x3⟩ := run_W (P := isLe) (b := b) (L := L) (L - st) st (by omega)
      rw [if_pos (by rw [k1]; rfl), if_pos (decide_eq_true k1), lpC_wd (b := b) (L - st) st N M3 R2 (by omega) (by omega) T3 b5, lpR_wd (b := b) (L - st) st N M2 R2 (by omega) (by omega) T2 a17, nm_eq]
      refine ⟨_, _, st, run isLe b L (L - st) st, rfl, rfl, ⟨?_, ?_, ?_, ?_, x1, x2, ?_, ?_, fun z => by omega⟩, f3.put (by omega), (g2.put (by omega)).put (by omega)⟩
      · rw [put_row, upd_at, if_neg (by decide)]; exact b4
      · rw [put_row, upd_at, if_neg (by decide), put_row, upd_at, if_neg (by decide)]; exact a18
      · rw [put_row, upd_at, if_pos rfl]
      · rw [put_row, upd_at, if_neg (by decide), put_row, upd_at, if_pos rfl]
      · rw [put_row, upd_at, if_neg (by decide)]; exact b3
      · rw [put_row, upd_at, if_pos rfl, k1]; rfl
    · have n1 : ¬ nI (kb b L st) = (1 : Int32) := fun z => k1 ((nI_eq (by omega) (by omega)).mp (z.trans (show (1 : Int32) = nI 1 from rfl)))
      have d1 : ¬ decide (kb b L st = 1) = true := by rw [decide_eq_false k1]; decide
      rw [if_neg n1, if_neg d1, a17, R_digit T2 (by omega), bnd_s]
      by_cases k2 : kb b L st = 2
      · obtain ⟨x1, x2, x3⟩ := run_W (P := isDi) (b := b) (L := L) (L - st) st (by omega)
        have hd : isDi (b st) = true := by rw [isDi_kd]; exact decide_eq_true (ek.symm.trans k2)
        have hlt : st < run isDi b L (L - st) st := by
          obtain ⟨f, hf⟩ : ∃ f, L - st = f + 1 := ⟨L - st - 1, by omega⟩
          obtain ⟨y1, -, -⟩ := run_W (P := isDi) (b := b) (L := L) f (st + 1) (by omega)
          rw [hf, run_s, if_pos ⟨q, hd⟩]
          omega
        have c5 : (put M3 1 6 0) 1 5 = nI st := by rw [put_row, upd_at, if_neg (by decide)]; exact b5
        have f4 : Fs Mc (put M3 1 6 0) := f3.put (by omega)
        rw [if_pos (show nI (kb b L st) = (2 : Int32) by rw [k2]; rfl), if_pos (decide_eq_true k2), nm_eq, lpC_nm (st := st) (b := b) (L - st) st N (put M3 1 6 0) R2 (by omega) (by omega) (Nat.le_refl _) (T.kept f4.f g2.f) c5 (by rw [put_row, upd_at, if_pos rfl, Nat.sub_self]; rfl), lpR_nm (b := b) (L - st) st N M2 R2 (by omega) (by omega) T2 a17, nm_eq]
        refine ⟨_, _, st, run isDi b L (L - st) st, rfl, rfl, ⟨?_, ?_, ?_, ?_, x1, x2, ?_, ?_, fun z => ⟨?_, hlt, x3⟩⟩, (f4.put (by omega)).put (by omega), (g2.put (by omega)).put (by omega)⟩
        · rw [put_row, upd_at, if_neg (by decide), put_row, upd_at, if_neg (by decide), put_row, upd_at, if_neg (by decide)]; exact b4
        · rw [put_row, upd_at, if_neg (by decide), put_row, upd_at, if_neg (by decide)]; exact a18
        · rw [put_row, upd_at, if_neg (by decide), put_row, upd_at, if_pos rfl]
        · rw [put_row, upd_at, if_neg (by decide), put_row, upd_at, if_pos rfl]
        · rw [put_row, upd_at, if_neg (by decide), put_row, upd_at, if_neg (by decide), put_row, upd_at, if_neg (by decide)]; exact b3
        · rw [put_row, upd_at, if_pos rfl, k2]; rfl
        · rw [put_row, upd_at, if_pos rfl]
      · have n2 : ¬ nI (kb b L st) = (2 : Int32) := fun z => k2 ((nI_eq (by omega) (by omega)).mp (z.trans (show (2 : Int32) = nI 2 from rfl)))
        have d2 : ¬ decide (kb b L st = 2) = true := by rw [decide_eq_false k2]; decide
        have n0 : ¬ nI (kb b L st) = (0 : Int32) := nI_ne0 (by omega) (by omega)
        rw [if_neg n2, if_neg d2, if_neg n0, nm_eq, nm_eq, nm_eq, b5, nI_1, a17, nI_1]
        refine ⟨_, _, st, st + 1, rfl, rfl, ⟨?_, ?_, ?_, ?_, by omega, by omega, ?_, ?_, fun z => absurd z k2⟩, f3.put (by omega), (g2.put (by omega)).put (by omega)⟩
        · rw [put_row, upd_at, if_neg (by decide)]; exact b4
        · rw [put_row, upd_at, if_neg (by decide), put_row, upd_at, if_neg (by decide)]; exact a18
        · rw [put_row, upd_at, if_pos rfl]
        · rw [put_row, upd_at, if_neg (by decide), put_row, upd_at, if_pos rfl]
        · rw [put_row, upd_at, if_neg (by decide)]; exact b3
        · rw [put_row, upd_at, if_pos rfl, Nat.min_eq_right (by omega)]; rfl
  · have ek : kb b L st = 0 := if_neg (by omega)
    rw [if_neg (nI_nlt q (by omega)), ek, if_neg (by decide), if_neg (by decide), if_pos (by decide), nm_eq]
    refine ⟨_, _, st, st, rfl, rfl, ⟨b4, ?_, b5, ?_, Nat.le_refl _, by omega, b3, ?_, fun z => by omega⟩, f3, g2.put (by omega)⟩
    · rw [put_row, upd_at, if_neg (by decide)]; exact a18
    · rw [put_row, upd_at, if_neg (by decide)]; exact a17
    · rw [put_row, upd_at, if_pos rfl, ek]; rfl
/-- reading goes well so far -/
def GD (Mc Mr : Mem) (L : Nat) (b : Nat → Nat) : Prop := TS Mc Mr L b ∧ (∃ st nx, TK Mc Mr L b st nx) ∧ Mr 145 20 = 0 ∧ Mc 1 8 = 0 ∧ Mc 1 9 = -1
/-- the reference after an error: nothing is read any more -/
def RB (Mr : Mem) (L : Nat) (b : Nat → Nat) : Prop := (¬ Mr 145 20 = 0) ∧ L ≤ 500 ∧ ∃ st nx, Mr 145 18 = nI st ∧ Mr 145 17 = nI nx ∧ st ≤ nx ∧ nx ≤ L
/-- the same error, both sides -/
def ER (Mc Mr : Mem) : Prop := ∃ c s, 1 ≤ c ∧ c ≤ 3 ∧ Mc 1 8 = nI c ∧ Mr 145 20 = nI c ∧ Mc 1 9 = nI s ∧ Mr 145 21 = nI s
theorem GD.fail {Mc Mr : Mem} {L c : Nat} {b : Nat → Nat} (h : GD Mc Mr L b) (hc : 1 ≤ c) (hc3 : c ≤ 3) : ∃ Mc' Mr', f_X_fail (nI c) Mc = some (false, Mc') ∧ f_M_check false (nI c) Mr = some Mr' ∧ ER Mc' Mr' ∧ RB Mr' L b ∧ F1 Mc Mc' ∧ F145 Mr Mr' := by
  obtain ⟨T, ⟨st, nx, k1, k2, k3, k4, k5, k6, k7, k8, k9⟩, e1, e2, e3⟩ := h
  unfold f_X_fail f_M_check
  rw [if_neg (by decide), if_pos e1]
  simp only [nm_eq]
  have a4 : (put Mc 1 8 (nI c)) 1 4 = nI st := by rw [put_row, upd_at, if_neg (by decide)]; exact k1
  have a18 : (put Mr 145 20 (nI c)) 145 18 = nI st := by rw [put_row, upd_at, if_neg (by decide)]; exact k2
  rw [a4, a18]
  refine ⟨_, _, rfl, rfl, ⟨c, st, hc, hc3, ?_, ?_, ?_, ?_⟩, ⟨?_, T.1, st, nx, ?_, ?_, k5, k6⟩, (F1.rf.put (by omega)).put (by omega), (F145.rf.put (by omega)).put (by omega)⟩
  · rw [put_row, upd_at, if_neg (by decide), put_row, upd_at, if_pos rfl]
  · rw [put_row, upd_at, if_neg (by decide), put_row, upd_at, if_pos rfl]
  · rw [put_row, upd_at, if_pos rfl]
  · rw [put_row, upd_at, if_pos rfl]
  · rw [put_row, upd_at, if_neg (by decide), put_row, upd_at, if_pos rfl]; exact nI_ne0 (by omega) (by omega)
  · rw [put_row, upd_at, if_neg (by decide)]; exact a18
  · rw [put_row, upd_at, if_neg (by decide), put_row, upd_at, if_neg (by decide)]; exact k4
theorem GD.adv {N rr r2 : Nat} {Mc Mr : Mem} {L : Nat} {b : Nat → Nat} (hN : 600 < N) (h : GD Mc Mr L b) : ∃ Mc' Mr', f_X_advance N rr Mc = some Mc' ∧ f_M_scan N r2 Mr = some Mr' ∧ f_M_advance N r2 Mr = some Mr' ∧ GD Mc' Mr' L b ∧ Fs Mc Mc' ∧ Gs Mr Mr' := by
  obtain ⟨T, ⟨st, nx, k1, k2, k3, k4, k5, k6, k7, k8, k9⟩, e1, e2, e3⟩ := h
  obtain ⟨Mc', Mr', st', nx', a1, a2, a3, a4, a5⟩ := J_scan (rr := rr) (r2 := r2) hN T k3 k4 k6
  refine ⟨Mc', Mr', a1, a2, ?_, ⟨T.kept a4.f a5.f, ⟨st', nx', a3⟩, by rw [a5.2 20 (by omega)]; exact e1, by rw [a4.2 8 (by omega)]; exact e2, by rw [a4.2 9 (by omega)]; exact e3⟩, a4, a5⟩
  unfold f_M_advance
  rw [if_pos e1, a2, bndM_s]
