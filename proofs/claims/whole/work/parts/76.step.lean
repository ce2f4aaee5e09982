/-! one memory: a step of the law -/
theorem S_A {α : Type} {fc fm : Mem → Option (α × Mem)} (h : JA fc fm) {M : Mem} (H : RR M M) : ∃ v M1 M2, fc M = some (v, M1) ∧ fm M1 = some (v, M2) ∧ RR M2 M2 := by
  obtain ⟨v, Mc', Mr', e1, -, -, f1, -⟩ := h M M H
  have H1 : RR M Mc' := RR_congr H (fun q _ => rfl) (fun q a _ => f1 q (Or.inr (by omega)))
  obtain ⟨v2, Mc2, Mr2, g1, g2, g3, g4, g5⟩ := h M Mc' H1
  cases Option.some.inj (e1.symm.trans g1)
  exact ⟨v, Mc', Mr2, e1, g2, RR_congr g3 (fun q a => g5 q (Or.inl (by omega))) (fun q _ _ => rfl)⟩
theorem S_V {fc fm : Mem → Option Mem} (h : JV fc fm) {M : Mem} (H : RR M M) : ∃ M1 M2, fc M = some M1 ∧ fm M1 = some M2 ∧ RR M2 M2 := by
  obtain ⟨Mc', Mr', e1, -, -, f1, -⟩ := h M M H
  have H1 : RR M Mc' := RR_congr H (fun q _ => rfl) (fun q a _ => f1 q (Or.inr (by omega)))
  obtain ⟨Mc2, Mr2, g1, g2, g3, g4, g5⟩ := h M Mc' H1
  cases Option.some.inj (e1.symm.trans g1)
  exact ⟨Mc', Mr2, e1, g2, RR_congr g3 (fun q a => g5 q (Or.inl (by omega))) (fun q _ _ => rfl)⟩
def exok (ex : List (Nat × Int32)) : Prop := ∀ e t, (e, t) ∈ ex → ex.lookup e = some t ∧ t ≠ 0
theorem S_X {ex : List (Nat × Int32)} {fc : Mem → Option ((Sum Int32 Nat) × Mem)} {fm : Mem → Option (Int32 × Mem)} (h : JX ex fc fm) (hx : exok ex) {M : Mem} (H : RR M M) : ∃ k M1 b M2, lwW ex (fc M) = some (k, M1) ∧ fm M1 = some (b, M2) ∧ M2 145 8 = k ∧ (k = 0 → M2 156 0 = b) ∧ RR M2 M2 := by
  obtain ⟨rc, Mc', rm, Mr', e1, -, e3, f1, -, o⟩ := h M M H
  rcases o with ⟨rfl, -⟩ | ⟨e, rfl, he⟩
  · have H1 : RR M (put Mc' 156 0 rm) := RR_congr H (fun q _ => rfl) (fun q a b => by rw [put_ne (by omega)]; exact f1 q (Or.inr (by omega)))
    obtain ⟨rc2, Mc2, rm2, Mr2, g1, g2, g3, g4, g5, o2⟩ := h M _ H1
    cases Option.some.inj (e1.symm.trans g1)
    refine ⟨0, put Mc' 156 0 rm, rm2, Mr2, by rw [e1]; rfl, g2, ?_, fun _ => ?_, RR_congr g3 (fun q a => by rw [g5 q (Or.inl (by omega)), put_ne (by omega)]) (fun q _ _ => rfl)⟩
    · rcases o2 with ⟨-, z⟩ | ⟨e, z, -⟩
      · exact z
      · cases z
    · rcases o2 with ⟨z, -⟩ | ⟨e, z, -⟩
      · cases z
        rw [g5 156 (Or.inr (by omega)), put_row, upd_at, if_pos rfl]
      · cases z
  · have H1 : RR M Mc' := RR_congr H (fun q _ => rfl) (fun q a _ => f1 q (Or.inr (by omega)))
    obtain ⟨rc2, Mc2, rm2, Mr2, g1, g2, g3, g4, g5, o2⟩ := h M Mc' H1
    cases Option.some.inj (e1.symm.trans g1)
    rcases o2 with ⟨z, -⟩ | ⟨e2, z, he2⟩
    · cases z
    · cases z
      obtain ⟨y1, y2⟩ := hx _ _ he2
      refine ⟨Mr2 145 8, Mc', rm2, Mr2, ?_, g2, rfl, fun z => absurd z y2, RR_congr g3 (fun q a => g5 q (Or.inl (by omega))) (fun q _ _ => rfl)⟩
      rw [e1]
      show (ex.lookup e).map _ = _
      rw [y1]
      rfl
theorem S_D {ex : List (Nat × Int32)} {fc : Mem → Option ((Sum UInt64 Nat) × Mem)} {fm : Mem → Option (UInt64 × Mem)} (h : JX ex fc fm) (hx : exok ex) {M : Mem} (H : RR M M) : ∃ k M1 b M2, lwD ex (fc M) = some (k, M1) ∧ fm M1 = some (b, M2) ∧ M2 145 8 = k ∧ (k = 0 → dcomb (M2 157 0) (M2 157 1) = b) ∧ RR M2 M2 := by
  obtain ⟨rc, Mc', rm, Mr', e1, -, e3, f1, -, o⟩ := h M M H
  rcases o with ⟨rfl, -⟩ | ⟨e, rfl, he⟩
  · have H1 : RR M (setR Mc' 157 (upd (upd (Mc' 157) 0 (dhi rm)) 1 (dlo rm))) := RR_congr H (fun q _ => rfl) (fun q a b => by rw [setR_ne (by omega)]; exact f1 q (Or.inr (by omega)))
    obtain ⟨rc2, Mc2, rm2, Mr2, g1, g2, g3, g4, g5, o2⟩ := h M _ H1
    cases Option.some.inj (e1.symm.trans g1)
    refine ⟨0, setR Mc' 157 (upd (upd (Mc' 157) 0 (dhi rm)) 1 (dlo rm)), rm2, Mr2, by rw [e1]; rfl, g2, ?_, fun _ => ?_, RR_congr g3 (fun q a => by rw [g5 q (Or.inl (by omega)), setR_ne (by omega)]) (fun q _ _ => rfl)⟩
    · rcases o2 with ⟨-, z⟩ | ⟨e, z, -⟩
      · exact z
      · cases z
    · rcases o2 with ⟨z, -⟩ | ⟨e, z, -⟩
      · cases z
        rw [g5 157 (Or.inr (by omega)), setR_self, upd_at, if_neg (by decide), upd_at, if_pos rfl, upd_at, if_pos rfl, dcomb_split]
      · cases z
  · have H1 : RR M Mc' := RR_congr H (fun q _ => rfl) (fun q a _ => f1 q (Or.inr (by omega)))
    obtain ⟨rc2, Mc2, rm2, Mr2, g1, g2, g3, g4, g5, o2⟩ := h M Mc' H1
    cases Option.some.inj (e1.symm.trans g1)
    rcases o2 with ⟨z, -⟩ | ⟨e2, z, he2⟩
    · cases z
    · cases z
      obtain ⟨y1, y2⟩ := hx _ _ he2
      refine ⟨Mr2 145 8, Mc', rm2, Mr2, ?_, g2, rfl, fun z => absurd z y2, RR_congr g3 (fun q a => g5 q (Or.inl (by omega))) (fun q _ _ => rfl)⟩
      rw [e1]
      show (ex.lookup e).map _ = _
      rw [y1]
      rfl
theorem exok1 {e : Nat} : exok [(e, 1)] := fun e' t h => by
  rcases List.mem_singleton.mp h with h
  cases h
  exact ⟨by simp [List.lookup], by decide⟩
theorem exok2 : exok [(0, 1), (1, 2)] := fun e' t h => by
  rcases List.mem_cons.mp h with h | h
  · cases h
    exact ⟨rfl, by decide⟩
  · rcases List.mem_singleton.mp h with h
    cases h
    exact ⟨rfl, by decide⟩
