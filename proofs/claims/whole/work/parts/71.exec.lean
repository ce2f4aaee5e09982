/-! blocks are run, both sides -/
def PX (N : Nat) (Mc0 Mr0 : Mem) (d n s e : Nat) : Prop := ∀ (t N1 N2 v : Nat) (a2 a1 : Int32) (Mc Mr : Mem), d + t = 2 → e ≤ 20 → v + n ≤ 20 → n < N1 → n < N2 → XF Mc0 Mc → YF Mr0 Mr → XR Mc Mr → ∃ r Mc' Mr', lp_C_runBlock_14 N 146 (f_C_runBlock N 146 (d + 1)) 10 a2 (nI e) (nI t) N1 (nI s, nI v) Mc (fun (_ : Int32 × Int32) (M : Mem) => some (true, M)) = some (r, Mc') ∧ lp_M_areDone_2 N 146 (f_M_areDone N 146 (d + 1)) a1 (nI e) N2 (nI s) Mr (fun (_ : Int32) (M : Mem) => some (true, M)) = some (r, Mr') ∧ XF Mc0 Mc' ∧ YF Mr0 Mr' ∧ XR Mc' Mr'
theorem PX.nil {N : Nat} {Mc0 Mr0 : Mem} (d s : Nat) : PX N Mc0 Mr0 d 0 s s := fun t N1 N2 v a2 a1 Mc Mr ht he hv h1 h2 f g x => by
  obtain ⟨N1, rfl⟩ : ∃ n, N1 = n + 1 := ⟨N1 - 1, by omega⟩
  obtain ⟨N2, rfl⟩ : ∃ n, N2 = n + 1 := ⟨N2 - 1, by omega⟩
  refine ⟨true, Mc, Mr, ?_, ?_, f, g, x⟩
  · unfold lp_C_runBlock_14
    dsimp only
    rw [if_neg (show ¬ nI s < nI s from nI_nlt (by omega) (by omega))]
    by_cases c : nI v < (20 : Int32)
    · rw [if_pos c]
    · rw [if_neg c]
  · unfold lp_M_areDone_2
    rw [if_neg (show ¬ nI s < nI s from nI_nlt (by omega) (by omega))]
theorem PX.one {N : Nat} {Mc0 Mr0 : Mem} (hN : 100 < N) (d n s e c : Nat) (h1 : OE Mc0 Mr0 s c) (h2 : BL Mc0 Mr0 d n (s + 1) e) (ih : PX N Mc0 Mr0 d n (s + 1) e) : PX N Mc0 Mr0 d (n + 1) s e := fun t N1 N2 v a2 a1 Mc Mr ht he hv h1' h2' f g x => by
  have hle := h2.le
  obtain ⟨N1, rfl⟩ : ∃ n, N1 = n + 1 := ⟨N1 - 1, by omega⟩
  obtain ⟨N2, rfl⟩ : ∃ n, N2 = n + 1 := ⟨N2 - 1, by omega⟩
  obtain ⟨c1, c8, o6, o154, o9, on⟩ := h1
  obtain ⟨xs, xw, x5⟩ := x
  have r6 := f.1 6 (by decide) (by omega)
  have r7 := f.1 7 (by decide) (by omega)
  have r8 := f.1 8 (by decide) (by omega)
  have r9 := f.1 9 (by decide) (by omega)
  have r154 := g.1 154 (by decide) (by decide)
  rw [← r6] at o6
  rw [← r154] at o154
  rw [← r9] at o9
  rw [← r7, ← r8, ← r154] at on
  have n9 : ¬ nI c = (9 : Int32) := fun z => by have := (nI_eq (by omega) (by omega)).mp (z.trans (show (9 : Int32) = nI 9 from rfl)); omega
  have n8 : ¬ nI (c - 1) = (8 : Int32) := fun z => by have := (nI_eq (by omega) (by omega)).mp (z.trans (show (8 : Int32) = nI 8 from rfl)); omega
  have lt : nI s < nI e := nI_lt (by omega) (by omega)
  have uC : lp_C_runBlock_14 N 146 (f_C_runBlock N 146 (d + 1)) 10 a2 (nI e) (nI t) (N1 + 1) (nI s, nI v) Mc (fun (_ : Int32 × Int32) (M : Mem) => some (true, M)) = bnd (f_T_faultOf 10 (nI c) (Mc 7 s) (Mc 8 s) Mc) fun (x15 : Int32) (M16 : Mem) => if x15 = 0 then (bnd (f_T_perform N 146 10 (nI c) (Mc 7 s) (Mc 8 s) M16) fun (x17 : Int32) (M18 : Mem) => nm (put M18 5 5 ((M18 5 5) + (1 : Int32))) fun (M19 : Mem) => nm (nI v + (1 : Int32)) fun (x20 : Int32) => lp_C_runBlock_14 N 146 (f_C_runBlock N 146 (d + 1)) 10 a2 (nI e) (nI t) N1 (nI (s + 1), x20) M19 (fun (_ : Int32 × Int32) (M : Mem) => some (true, M))) else (some (false, M16)) := by
    conv => lhs; unfold lp_C_runBlock_14
    dsimp only
    rw [if_pos (by show nI v < nI 20; exact nI_lt (by omega) (by omega)), if_pos lt, C_valueAt (by show s < 20; omega) (by decide), bnd_s, C_valueAt (by show s < 20; omega) (by decide), bnd_s, C_valueAt (by show s < 20; omega) (by decide), bnd_s, C_valueAt (by show s < 20; omega) (by decide), bnd_s, o6, if_neg n9, o9]
  have uR : lp_M_areDone_2 N 146 (f_M_areDone N 146 (d + 1)) a1 (nI e) (N2 + 1) (nI s) Mr (fun (_ : Int32) (M : Mem) => some (true, M)) = bnd (R_do N 146 c (Mc 7 s) (Mc 8 s) Mr) fun (x13 : Int32) (M14 : Mem) => if x13 = 0 then (lp_M_areDone_2 N 146 (f_M_areDone N 146 (d + 1)) a1 (nI e) N2 (nI (s + 1)) (put M14 145 27 (M14 145 27 + 1)) (fun (_ : Int32) (M : Mem) => some (true, M))) else (some (false, M14)) := by
    conv => lhs; unfold lp_M_areDone_2
    rw [if_pos lt, nm_eq, q3, grd_of (inB_nI (by omega) (by omega)), jn_eq, nI_clamp (by omega), o154, if_neg n8]
    dsimp only
    rw [if_neg (by decide), R_does ⟨c1, c8⟩ (by omega) o154, R_do_same ⟨c1, c8⟩ on]
    simp only [jn_eq, nm_eq, nI_1, if_neg (show ¬ false = true by decide)]
    rfl
  rw [uC, uR, C_fault xw xs ⟨c1, c8⟩, on.1]
  cases hs : s_stop c (Mc 7 s) (Mr 146) with
  | true =>
    rw [show (if false = true then (1 : Int32) else if true = true then 2 else 0) = 2 from rfl, bnd_s, if_neg (by decide), R_do_no xw on.1 hs ⟨c1, c8⟩, bnd_s, if_neg (by split <;> decide)]
    exact ⟨false, Mc, Mr, rfl, rfl, f, g, xs, xw, x5⟩
  | false =>
    obtain ⟨Mc', p1, p2, p3⟩ := C_perform (N := N) (rr := 146) hN xw xs on.1 hs ⟨c1, c8⟩
    rw [show (if false = true then (1 : Int32) else if false = true then 2 else 0) = 0 from rfl, bnd_s, if_pos rfl, p1, bnd_s, nm_eq, nm_eq, nI_1, R_do_ok (by decide) hN xw on.1 hs ⟨c1, c8⟩, bnd_s, if_pos rfl]
    have a27 : (res Mr 146 (s_do c (Mc 7 s) (Mc 8 s) (Mr 146)) (s_an c (Mc 7 s) (Mc 8 s) (Mr 146))) 145 27 = Mr 145 27 := by
      unfold res
      rw [put_row, upd_at, if_neg (by decide), setR_at, if_neg (by decide)]
    have a5 : Mc' 5 5 = Mc 5 5 := by rw [p3 5 (by omega)]
    rw [a27, a5]
    have Wd := s_do_W xw on.1 hs ⟨c1, c8⟩
    refine ih t N1 N2 (v + 1) a2 a1 _ _ ht he (by omega) (by omega) (by omega) (f.fr p3).pt g.rs.p27 ⟨?_, ?_, ?_⟩
    · have e146 : (put (res Mr 146 (s_do c (Mc 7 s) (Mc 8 s) (Mr 146)) (s_an c (Mc 7 s) (Mc 8 s) (Mr 146))) 145 27 (Mr 145 27 + 1)) 146 = s_do c (Mc 7 s) (Mc 8 s) (Mr 146) := by
        unfold res
        rw [put_ne (by decide), put_ne (by decide), setR_self]
      rw [e146]
      exact SR_congr p2 (fun q a b => put_ne (by omega))
    · have e146 : (put (res Mr 146 (s_do c (Mc 7 s) (Mc 8 s) (Mr 146)) (s_an c (Mc 7 s) (Mc 8 s) (Mr 146))) 145 27 (Mr 145 27 + 1)) 146 = s_do c (Mc 7 s) (Mc 8 s) (Mr 146) := by
        unfold res
        rw [put_ne (by decide), put_ne (by decide), setR_self]
      rw [e146]
      exact Wd
    · rw [put_row, upd_at, if_pos rfl, put_row, upd_at, if_pos rfl, x5]
theorem X_reps {N : Nat} {Mc0 Mr0 : Mem} {d m s e1 x t : Nat} {a2 a3 v2 x1 x5 : Int32} (h1 : RE Mc0 Mr0 s e1 x) (hs : s + 1 + m ≤ e1) (he : e1 ≤ 20) (ht : d + 1 + t = 2) (hN : 100 < N) (ih : PX N Mc0 Mr0 d m (s + 1) e1) : ∀ (w u N1 N2 : Nat) (Mc Mr : Mem), u + w = x → w < N1 → w < N2 → XF Mc0 Mc → YF Mr0 Mr → XR Mc Mr → ∃ r Mc' Mr', (∀ k, lp_C_runBlock_81 N 146 (f_C_runBlock N 146 (d + 2)) 10 a2 a3 (nI t) (nI s) v2 x1 (nI x) x5 (nI e1) N1 (nI u) Mc k = if r = true then k (nI x) Mc' else some (false, Mc')) ∧ (∀ k, lp_M_isRepeated_2 N 146 (f_M_areDone N 146 (d + 2)) (nI s) N2 (nI u) Mr k = if r = true then k (nI x) Mr' else some (false, Mr')) ∧ XF Mc0 Mc' ∧ YF Mr0 Mr' ∧ XR Mc' Mr' := by
  have hx : x ≤ 5 := h1.2.1
  intro w
  induction w with
  | zero =>
    intro u N1 N2 Mc Mr hu q1 q2 f g xr
    obtain ⟨N1, rfl⟩ : ∃ n, N1 = n + 1 := ⟨N1 - 1, by omega⟩
    obtain ⟨N2, rfl⟩ : ∃ n, N2 = n + 1 := ⟨N2 - 1, by omega⟩
    obtain rfl : u = x := by omega
    have m1 : Mr 154 (3 * s + 1) = nI u := by rw [g.1 154 (by decide) (by decide)]; exact h1.2.2.2.2.2.1
    refine ⟨true, Mc, Mr, fun k => ?_, fun k => ?_, f, g, xr⟩
    · unfold lp_C_runBlock_81
      rw [if_neg (nI_nlt (by omega) (by omega)), if_pos rfl]
    · unfold lp_M_isRepeated_2
      rw [q3, show nI (3 * s) + (1 : Int32) = nI (3 * s + 1) from nI_add _ 1, grd_of (inB_nI (by omega) (by omega)), nI_clamp (by omega), m1, if_neg (nI_nlt (by omega) (by omega)), if_pos rfl]
  | succ w ihw =>
    intro u N1 N2 Mc Mr hu q1 q2 f g xr
    obtain ⟨N1, rfl⟩ : ∃ n, N1 = n + 1 := ⟨N1 - 1, by omega⟩
    obtain ⟨N2, rfl⟩ : ∃ n, N2 = n + 1 := ⟨N2 - 1, by omega⟩
    have m1 : Mr 154 (3 * s + 1) = nI x := by rw [g.1 154 (by decide) (by decide)]; exact h1.2.2.2.2.2.1
    have m2 : Mr 154 (3 * s + 2) = nI e1 := by rw [g.1 154 (by decide) (by decide)]; exact h1.2.2.2.2.2.2.2
    obtain ⟨r, Mc', Mr', b1, b2, b3, b4, b5⟩ := ih (t + 1) N N 0 (nI (s + 1)) (nI (s + 1)) Mc Mr (by omega) he (by omega) (by omega) (by omega) f g xr
    have c1 : f_C_runBlock N 146 (d + 2) 10 (nI (s + 1)) (nI e1) (nI (t + 1)) Mc = some (r, Mc') := by
      show fs_C_runBlock N 146 (f_C_runBlock N 146 (d + 1)) 10 (nI (s + 1)) (nI e1) (nI (t + 1)) Mc = _
      unfold fs_C_runBlock
      rw [if_neg (by show ¬ nI 2 < nI (t + 1); exact nI_nlt (by omega) (by omega))]
      exact b1
    have r1 : f_M_areDone N 146 (d + 2) (nI (s + 1)) (nI e1) Mr = some (r, Mr') := b2
    have uC : ∀ k, lp_C_runBlock_81 N 146 (f_C_runBlock N 146 (d + 2)) 10 a2 a3 (nI t) (nI s) v2 x1 (nI x) x5 (nI e1) (N1 + 1) (nI u) Mc k = if r = true then lp_C_runBlock_81 N 146 (f_C_runBlock N 146 (d + 2)) 10 a2 a3 (nI t) (nI s) v2 x1 (nI x) x5 (nI e1) N1 (nI (u + 1)) Mc' k else some (false, Mc') := fun k => by
      conv => lhs; unfold lp_C_runBlock_81
      rw [if_pos (nI_lt (by omega) (by omega)), nI_1, nI_1, c1, bnd_s, nm_eq, nI_1]
    have uR : ∀ k, lp_M_isRepeated_2 N 146 (f_M_areDone N 146 (d + 2)) (nI s) (N2 + 1) (nI u) Mr k = if r = true then lp_M_isRepeated_2 N 146 (f_M_areDone N 146 (d + 2)) (nI s) N2 (nI (u + 1)) Mr' k else some (false, Mr') := fun k => by
      conv => lhs; unfold lp_M_isRepeated_2
      rw [q3, show nI (3 * s) + (1 : Int32) = nI (3 * s + 1) from nI_add _ 1, show nI (3 * s) + (2 : Int32) = nI (3 * s + 2) from nI_add _ 2, grd_of (inB_nI (by omega) (by omega)), nI_clamp (by omega), m1, if_pos (nI_lt (by omega) (by omega)), grd_of (inB_nI (by omega) (by omega)), nI_clamp (by omega), m2, nI_1, r1, bnd_s, nm_eq, nI_1]
    cases r with
    | false => exact ⟨false, Mc', Mr', fun k => by rw [uC, if_neg (by decide), if_neg (by decide)], fun k => by rw [uR, if_neg (by decide), if_neg (by decide)], b3, b4, b5⟩
    | true =>
      obtain ⟨r', c', m', z1, z2, z3⟩ := ihw (u + 1) N1 N2 Mc' Mr' (by omega) (by omega) (by omega) b3 b4 b5
      exact ⟨r', c', m', fun k => by rw [uC, if_pos rfl, z1], fun k => by rw [uR, if_pos rfl, z2], z3⟩
theorem PX.rep {N : Nat} {Mc0 Mr0 : Mem} (hN : 100 < N) (d n m s e1 e x : Nat) (h1 : RE Mc0 Mr0 s e1 x) (h2 : BL Mc0 Mr0 d m (s + 1) e1) (h3 : BL Mc0 Mr0 (d + 1) n e1 e) (ih1 : PX N Mc0 Mr0 d m (s + 1) e1) (ih2 : PX N Mc0 Mr0 (d + 1) n e1 e) : PX N Mc0 Mr0 (d + 1) (n + 1) s e := fun t N1 N2 v a2 a1 Mc Mr ht he hv h1' h2' f g xr => by
  have hle := h2.le
  have hle3 := h3.le
  obtain ⟨N1, rfl⟩ : ∃ n, N1 = n + 1 := ⟨N1 - 1, by omega⟩
  obtain ⟨N2, rfl⟩ : ∃ n, N2 = n + 1 := ⟨N2 - 1, by omega⟩
  have h1o := h1
  obtain ⟨x2, x5, o6, o154, o7, o1541, o9, o1542⟩ := h1
  rw [← f.1 6 (by decide) (by omega)] at o6
  rw [← f.1 7 (by decide) (by omega)] at o7
  rw [← f.1 9 (by decide) (by omega)] at o9
  rw [← g.1 154 (by decide) (by decide)] at o154
  have lt : nI s < nI e := nI_lt (by omega) (by omega)
  obtain ⟨r, Mc', Mr', y1, y2, y3, y4, y5⟩ := X_reps (a2 := a2) (a3 := nI e) (v2 := nI v) (x1 := nI 9) (x5 := Mc 8 s) h1o hle (by omega) ht hN ih1 x 0 N N Mc Mr (by omega) (by omega) (by omega) f g xr
  have uC : lp_C_runBlock_14 N 146 (f_C_runBlock N 146 (d + 1 + 1)) 10 a2 (nI e) (nI t) (N1 + 1) (nI s, nI v) Mc (fun (_ : Int32 × Int32) (M : Mem) => some (true, M)) = if r = true then lp_C_runBlock_14 N 146 (f_C_runBlock N 146 (d + 1 + 1)) 10 a2 (nI e) (nI t) N1 (nI e1, nI (v + 1)) Mc' (fun (_ : Int32 × Int32) (M : Mem) => some (true, M)) else some (false, Mc') := by
    conv => lhs; unfold lp_C_runBlock_14
    dsimp only
    rw [if_pos (by show nI v < nI 20; exact nI_lt (by omega) (by omega)), if_pos lt, C_valueAt (by show s < 20; omega) (by decide), bnd_s, C_valueAt (by show s < 20; omega) (by decide), bnd_s, C_valueAt (by show s < 20; omega) (by decide), bnd_s, C_valueAt (by show s < 20; omega) (by decide), bnd_s, o6, if_pos (show nI 9 = (9 : Int32) from rfl), o7, o9]
    refine (y1 _).trans ?_
    rw [nm_eq, nI_1]
  have uR : lp_M_areDone_2 N 146 (f_M_areDone N 146 (d + 1 + 1)) a1 (nI e) (N2 + 1) (nI s) Mr (fun (_ : Int32) (M : Mem) => some (true, M)) = if r = true then lp_M_areDone_2 N 146 (f_M_areDone N 146 (d + 1 + 1)) a1 (nI e) N2 (nI e1) (put Mr' 145 27 (Mr' 145 27 + 0)) (fun (_ : Int32) (M : Mem) => some (true, M)) else some (false, Mr') := by
    have rep : f_M_isRepeated N 146 (f_M_areDone N 146 (d + 1 + 1)) (nI s) Mr = some (r, Mr') := by
      unfold f_M_isRepeated
      refine (y2 _).trans ?_
      cases r <;> rfl
    conv => lhs; unfold lp_M_areDone_2
    rw [if_pos lt, nm_eq, q3, grd_of (inB_nI (by omega) (by omega)), jn_eq, nI_clamp (by omega), o154, if_pos (show nI 8 = (8 : Int32) from rfl)]
    dsimp only
    rw [if_pos rfl, rep, bnd_s]
    cases r with
    | false => rw [if_neg (by decide), if_neg (by decide)]
    | true =>
      rw [if_pos rfl, if_pos rfl]
      have e2 : Mr' 154 (3 * s + 2) = nI e1 := by rw [y4.1 154 (by decide) (by decide)]; exact o1542
      have e2' : (put Mr' 145 27 (Mr' 145 27 + 0)) 154 (3 * s + 2) = nI e1 := by rw [put_ne (by decide)]; exact e2
      simp only [jn_eq, nm_eq, if_true]
      rw [show b2i false = 0 from rfl, show nI (3 * s) + (2 : Int32) = nI (3 * s + 2) from nI_add _ 2, grd_of (inB_nI (by omega) (by omega)), nI_clamp (by omega), e2']
  rw [uC, uR]
  cases r with
  | false => exact ⟨false, Mc', Mr', by rw [if_neg (by decide)], by rw [if_neg (by decide)], y3, y4, y5⟩
  | true =>
    rw [if_pos rfl, if_pos rfl]
    refine ih2 t N1 N2 (v + 1) a2 a1 _ _ ht he (by omega) (by omega) (by omega) y3 y4.p27 ⟨?_, ?_, ?_⟩
    · rw [put_ne (by decide)]; exact y5.1
    · rw [put_ne (by decide)]; exact y5.2.1
    · rw [put_row, upd_at, if_pos rfl, Int32.add_zero]; exact y5.2.2
theorem PX.all {N : Nat} {Mc0 Mr0 : Mem} (hN : 100 < N) {d n s e : Nat} (h : BL Mc0 Mr0 d n s e) : PX N Mc0 Mr0 d n s e := BL.ind (P := PX N Mc0 Mr0) PX.nil (PX.one hN) (PX.rep hN) d n s e h
