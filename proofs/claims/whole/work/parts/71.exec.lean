/-! blocks are run, both sides -/
def PX (N : Nat) (Mc0 Mr0 : Mem) (d n s e : Nat) : Prop := ∀ (t N1 N2 v : Nat) (a2 a1 : Int32) (Mc Mr : Mem), d + t = 2 → e ≤ 20 → v + n ≤ 20 → n < N1 → n < N2 → XF Mc0 Mc → YF Mr0 Mr → XR Mc Mr → ∃ r Mc' Mr', lp_C_runBlock_14 N 146 (f_C_runBlock N 146 (d + 1)) 10 a2 (nI e) (nI t) N1 (nI s, nI v) Mc (fun (_ : Int32 × Int32) (M : Mem) => some (true, M)) = some (r, Mc') ∧ lp_M_areDone_2 N 146 (f_M_areDone N 146 (d + 1)) a1 (nI e) N2 (nI s) Mr (fun (_ : Int32) (M : Mem) => some (true, M)) = some (r, Mr') ∧ XF Mc0 Mc' ∧ YF Mr0 Mr' ∧ XR Mc' Mr'
theorem PX.nil {N : Nat} {Mc0 Mr0 : Mem} (d s : Nat) : PX N Mc0 Mr0 d 0 s s := fun t N1 N2 v a2 a1 Mc Mr ht he hv h1 h2 f g x => by
  obtain ⟨N1, rfl⟩ : ∃ n, N1 = n + 1 := ⟨N1 - 1, by omega⟩
  obtain ⟨N2, rfl⟩ : ∃ n, N2 = n + 1 := ⟨N2 - 1, by omega⟩
  refine ⟨true, Mc, Mr, ?_, ?_, f, g, x⟩
  · unfold lp_C_runBlock_14
    dsimp only
    rw [if_neg (show ¬ nI s < nI s from nI_nlt (by omega) (by omega))]
    by_cases c : nI v < (20 : Int32)
    · rw [if_pos c]
    · rw [if_neg c]
  · unfold lp_M_areDone_2
    rw [if_neg (show ¬ nI s < nI s from nI_nlt (by omega) (by omega))]
theorem PX.one {N : Nat} {Mc0 Mr0 : Mem} (hN : 100 < N) (d n s e c : Nat) (h1 : OE Mc0 Mr0 s c) (h2 : BL Mc0 Mr0 d n (s + 1) e) (ih : PX N Mc0 Mr0 d n (s + 1) e) : PX N Mc0 Mr0 d (n + 1) s e := fun t N1 N2 v a2 a1 Mc Mr ht he hv h1' h2' f g x => by
  have hle := h2.le
  obtain ⟨N1, rfl⟩ : ∃ n, N1 = n + 1 := ⟨N1 - 1, by omega⟩
  obtain ⟨N2, rfl⟩ : ∃ n, N2 = n + 1 := ⟨N2 - 1, by omega⟩
  obtain ⟨c1, c8, o6, o154, o9, on⟩ := h1
  obtain ⟨xs, xw, x5⟩ := x
  have r6 := f.1 6 (by decide) (by omega)
  have r7 := f.1 7 (by decide) (by omega)
  have r8 := f.1 8 (by decide) (by omega)
  have r9 := f.1 9 (by decide) (by omega)
  have r154 := g.1 154 (by decide) (by decide)
  rw [← r6] at o6
  rw [← r154] at o154
  rw [← r9] at o9
  rw [← r7, ← r8, ← r154] at on
  have n9 : ¬ nI c = (9 : Int32) := fun z => by have := (nI_eq (by omega) (by omega)).mp (z.trans (show (9 : Int32) = nI 9 from rfl)); omega
  have n8 : ¬ nI (c - 1) = (8 : Int32) := fun z => by have := (nI_eq (by omega) (by omega)).mp (z.trans (show (8 : Int32) = nI 8 from rfl)); omega
  have lt : nI s < nI e := nI_lt (by omega) (by omega)
  have uC : lp_C_runBlock_14 N 146 (f_C_runBlock N 146 (d + 1)) 10 a2 (nI e) (nI t) (N1 + 1) (nI s, nI v) Mc (fun (_ : Int32 × Int32) (M : Mem) => some (true, M)) = bnd (f_T_faultOf 10 (nI c) (Mc 7 s) (Mc 8 s) Mc) fun (x15 : Int32) (M16 : Mem) => if x15 = 0 then (bnd (f_T_perform N 146 10 (nI c) (Mc 7 s) (Mc 8 s) M16) fun (x17 : Int32) (M18 : Mem) => nm (put M18 5 5 ((M18 5 5) + (1 : Int32))) fun (M19 : Mem) => nm (nI v + (1 : Int32)) fun (x20 : Int32) => lp_C_runBlock_14 N 146 (f_C_runBlock N 146 (d + 1)) 10 a2 (nI e) (nI t) N1 (nI (s + 1), x20) M19 (fun (_ : Int32 × Int32) (M : Mem) => some (true, M))) else (some (false, M16)) := by
    conv => lhs; unfold lp_C_runBlock_14
    dsimp only
    rw [if_pos (by show nI v < nI 20; exact nI_lt (by omega) (by omega)), if_pos lt, C_valueAt (by show s < 20; omega) (by decide), bnd_s, C_valueAt (by show s < 20; omega) (by decide), bnd_s, C_valueAt (by show s < 20; omega) (by decide), bnd_s, C_valueAt (by show s < 20; omega) (by decide), bnd_s, o6, if_neg n9, o9]
  have uR : lp_M_areDone_2 N 146 (f_M_areDone N 146 (d + 1)) a1 (nI e) (N2 + 1) (nI s) Mr (fun (_ : Int32) (M : Mem) => some (true, M)) = bnd (R_do N 146 c (Mc 7 s) (Mc 8 s) Mr) fun (x13 : Int32) (M14 : Mem) => if x13 = 0 then (lp_M_areDone_2 N 146 (f_M_areDone N 146 (d + 1)) a1 (nI e) N2 (nI (s + 1)) (put M14 145 27 (M14 145 27 + 1)) (fun (_ : Int32) (M : Mem) => some (true, M))) else (some (false, M14)) := by
    conv => lhs; unfold lp_M_areDone_2
    rw [if_pos lt, nm_eq, q3, grd_of (inB_nI (by omega) (by omega)), jn_eq, nI_clamp (by omega), o154, if_neg n8]
    dsimp only
    rw [if_neg (by decide), R_does ⟨c1, c8⟩ (by omega) o154, R_do_same ⟨c1, c8⟩ on]
    simp only [jn_eq, nm_eq, nI_1, if_neg (show ¬ false = true by decide)]
    rfl
  rw [uC, uR, C_fault xw xs ⟨c1, c8⟩, on.1]
  cases hs : s_stop c (Mc 7 s) (Mr 146) with
  | true =>
    rw [show (if false = true then (1 : Int32) else if true = true then 2 else 0) = 2 from rfl, bnd_s, if_neg (by decide), R_do_no xw on.1 hs ⟨c1, c8⟩, bnd_s, if_neg (by split <;> decide)]
    exact ⟨false, Mc, Mr, rfl, rfl, f, g, xs, xw, x5⟩
  | false =>
    obtain ⟨Mc', p1, p2, p3⟩ := C_perform (N := N) (rr := 146) hN xw xs on.1 hs ⟨c1, c8⟩
    rw [show (if false = true then (1 : Int32) else if false = true then 2 else 0) = 0 from rfl, bnd_s, if_pos rfl, p1, bnd_s, nm_eq, nm_eq, nI_1, R_do_ok (by decide) hN xw on.1 hs ⟨c1, c8⟩, bnd_s, if_pos rfl]
    have a27 : (res Mr 146 (s_do c (Mc 7 s) (Mc 8 s) (Mr 146)) (s_an c (Mc 7 s) (Mc 8 s) (Mr 146))) 145 27 = Mr 145 27 := by
      unfold res
      rw [put_row, upd_at, if_neg (by decide), setR_at, if_neg (by decide)]
    have a5 : Mc' 5 5 = Mc 5 5 := by rw [p3 5 (by omega)]
    rw [a27, a5]
    have Wd := s_do_W xw on.1 hs ⟨c1, c8⟩
    refine ih t N1 N2 (v + 1) a2 a1 _ _ ht he (by omega) (by omega) (by omega) (f.fr p3).pt g.rs.p27 ⟨?_, ?_, ?_⟩
    · have e146 : (put (res Mr 146 (s_do c (Mc 7 s) (Mc 8 s) (Mr 146)) (s_an c (Mc 7 s) (Mc 8 s) (Mr 146))) 145 27 (Mr 145 27 + 1)) 146 = s_do c (Mc 7 s) (Mc 8 s) (Mr 146) := by
        unfold res
        rw [put_ne (by decide), put_ne (by decide), setR_self]
      rw [e146]
      exact SR_congr p2 (fun q a b => put_ne (by omega))
    · have e146 : (put (res Mr 146 (s_do c (Mc 7 s) (Mc 8 s) (Mr 146)) (s_an c (Mc 7 s) (Mc 8 s) (Mr 146))) 145 27 (Mr 145 27 + 1)) 146 = s_do c (Mc 7 s) (Mc 8 s) (Mr 146) := by
        unfold res
        rw [put_ne (by decide), put_ne (by decide), setR_self]
      rw [e146]
      exact Wd
    · rw [put_row, upd_at, if_pos rfl, put_row, upd_at, if_pos rfl, x5]
