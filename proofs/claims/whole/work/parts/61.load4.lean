/-! loadStation, both sides -/
theorem j_loadStation {N : Nat} {a : Int32} (hN : 700 < N) : JX [(0, 1)] (f_G_loadStation N 146 a) (f_M_loadStation N a) := fun Mc Mr H => by
  obtain ⟨hst, hh, hsn, ⟨⟨f, hf, t1, t2, ht⟩, tx2, tx3⟩, hou, hz⟩ := id H
  unfold f_G_loadStation f_M_loadStation f_M_isLength
  rw [C_refuse t1, R_in, t2, bnd_s, bnd_s, R_lacks, bnd_s]
  cases ho : outB a 0 (nI f) with
  | true =>
    rw [if_pos rfl, bndX_inr, if_pos (by decide)]
    refine ⟨.inr 0, Mc, 0, put Mr 145 8 1, rfl, rfl, RR_thr H, Fr.rf, Fr.rf.put (by omega) (by omega), Or.inr ⟨0, rfl, ?_⟩⟩
    rw [put_row, upd_at, if_pos rfl]
    exact List.mem_cons_self
  | false =>
    obtain ⟨L, -, hL, rfl⟩ := outB_F (lo := 0) (hi := f) (by omega) (by omega) ho
    rw [if_neg (by decide), bndX_inl, if_neg (by decide)]
    have R0 : RR Mc (put Mr 145 8 0) := RR_thr H
    have m8 : (put Mr 145 8 0) 145 8 = 0 := by rw [put_row, upd_at, if_pos rfl]
    have mf : Fr 145 156 Mr (put Mr 145 8 0) := Fr.rf.put (by omega) (by omega)
    have mt : ∀ k, k < f → ∃ b, b < 256 ∧ (put Mr 145 8 0) 153 k = nI b ∧ Mc 2 k &&& 255 = nI b := by rw [put_ne (by decide)]; exact ht
    rw [show (if (!false) = true then (0 : Int32) else 1) = 0 from rfl]
    generalize put Mr 145 8 0 = M0 at *
    obtain ⟨Mc1, Mr1, b, e1, e2, G, c1, c2, r1, r2⟩ := J_beg (rr := 146) (r2 := 146) (N := N) (by omega) hf hL mt
    unfold f_P_read
    rw [e1, bndM_s, e2, bndM_s]
    rcases J_read (N := N) (by omega) G with ⟨Mc2, Mr2, x, l, e, m, i, s1, s2, Q, z8, z9, z20, F, F'⟩ | ⟨Mc2, Mr2, s1, s2, ⟨ec, es, n1, n2, n3, n4, n5, n6⟩, F, F'⟩
    · have gw := Q.wf
      obtain ⟨hm1, hm, hi1, hi, q0, q1, q2, q3, q5, p1, p2, p3, p4, p5, hg, hzz⟩ := Q
      have fc : ∀ q, q ≠ 1 → q ≠ 3 → q ≠ 4 → (put Mc2 1 1 0) q = Mc q := fun q a b c => by rw [put_ne a, F.1 q a b c, c1 q a]
      have n3' : (put Mc2 1 1 0) 3 = Mc2 3 := put_ne (by decide)
      have n4' : (put Mc2 1 1 0) 4 = Mc2 4 := put_ne (by decide)
      have k1 : (put Mc2 1 1 0) 1 1 = 0 := by rw [put_row, upd_at, if_pos rfl]
      have k8 : (put Mc2 1 1 0) 1 8 = 0 := by rw [put_row, upd_at, if_neg (by decide)]; exact z8
      have k9 : (put Mc2 1 1 0) 1 9 = -1 := by rw [put_row, upd_at, if_neg (by decide)]; exact z9
      rw [s1, bnd_s, nm_eq, if_pos rfl]
      generalize put Mc2 1 1 0 = Mc3 at *
      obtain ⟨Mc4, u1, u2, u3⟩ := C_setUp (M := Mc3) (g := Mr2 147) (a := x) (l := l) (e := e) (m := m) (i := i) (by rw [n3']; exact ⟨q0, q1, q2, q3, q5⟩) hm ⟨p1, p2, p3, p4, p5⟩ (fun k hk => by rw [n4']; exact (hg k hk).1) hzz (by rw [fc 15 (by decide) (by decide) (by decide), fc 19 (by decide) (by decide) (by decide)]; exact hz 10 (by decide))
      have fr : ∀ q, q ≠ 145 → q ≠ 147 → Mr2 q = M0 q := fun q a b => by rw [F'.1 q a b, r1 q a]
      have fk : ∀ k, (k < 16 ∨ k = 22 ∨ 24 ≤ k) → Mr2 145 k = M0 145 k := fun k hk => by rw [F'.2 k (by omega), r2 k hk]
      rw [u1, bndM_s, C_forget, bndM_s, nm_eq, s2, bndM_s, R_finish, bnd_s, z20, if_pos rfl, if_neg (by decide)]
      generalize hM3 : setR Mr2 145 (upd (upd (upd (Mr2 145) 15 0) 22 (-1)) 9 0) = Mr3
      have g147 : Mr3 147 = Mr2 147 := by rw [← hM3, setR_at, if_neg (by decide)]
      have gq : ∀ q, q ≠ 145 → q ≠ 147 → Mr3 q = M0 q := fun q a b => by rw [← hM3, setR_at, if_neg a]; exact fr q a b
      have gk : ∀ k, (k < 16 ∨ k = 22 ∨ 24 ≤ k) → Mr3 145 k = if k = 9 then 0 else if k = 22 then -1 else if k = 15 then 0 else M0 145 k := fun k hk => by rw [← hM3, setR_self, upd_at, upd_at, upd_at, fk k hk]
      rw [show f_M_copy 147 (0 : Int32) 146 (0 : Int32) Mr3 = _ from R_copy (i := 0) (j := 0) (by decide) (by decide) (by decide) (by decide), bndM_s]
      have re := cpy405 (f := Mr3 147) (g := Mr3 146) (i := 0) (j := 0)
      rw [hrow0, hrow0, g147] at re
      rw [g147]
      generalize va_cpy (Mr2 147) (Mr3 146) (405 * 0) (405 * 0) 405 = r at re ⊢
      simp only [nm_eq]
      have s10 : SR Mc4 10 r := SR_ext gw u2 re
      have wr : WF r := WF_ext gw re
      generalize hC : put (put (put Mc4 24 1 0) 24 2 0) 0 7 0 = Mc5
      generalize hR : put (put (setR Mr3 146 r) 145 7 0) 145 11 0 = Mr5
      have f : ∀ q, (q < 10 ∨ 23 ≤ q) → q ≠ 0 → q ≠ 24 → Mc5 q = Mc3 q := fun q a b c => by rw [← hC, put_ne b, put_ne c, put_ne c]; exact u3 q (by omega)
      have f' : ∀ q, 10 ≤ q → q < 23 → Mc5 q = Mc4 q := fun q a b => by rw [← hC, put_ne (by omega), put_ne (by omega), put_ne (by omega)]
      have g : ∀ q, q ≠ 145 → q ≠ 146 → q ≠ 147 → Mr5 q = M0 q := fun q a b c => by rw [← hR, put_ne a, put_ne a, setR_at, if_neg b]; exact gq q a c
      have h146 : Mr5 146 = r := by rw [← hR, put_ne (by decide), put_ne (by decide), setR_self]
      have hk : ∀ k, (k < 16 ∨ k = 22 ∨ 24 ≤ k) → Mr5 145 k = if k = 11 then 0 else if k = 7 then 0 else if k = 9 then 0 else if k = 22 then -1 else if k = 15 then 0 else M0 145 k := fun k h => by rw [← hR, put_row, upd_at, put_row, upd_at, setR_ne (show 145 ≠ 146 by decide), gk k h]
      have s5 : SR Mc5 10 r := SR_congr s10 (fun q a b => f' q a (by omega))
      have zz : ZS Mc5 := by
        have z3 : ZS Mc3 := ZS_congr hz (fun p hp => by
          have := st_lt p hp
          rw [fc (p + 5) (by omega) (by omega) (by omega), fc (p + 9) (by omega) (by omega) (by omega)]
          exact ⟨rfl, rfl⟩)
        exact ZS_congr (ZS_copy (p := 10) (by decide) z3 s10 u3) (fun p hp => by
          have := st_lt p hp
          rw [← hC, put_ne (by omega), put_ne (by omega), put_ne (by omega), put_ne (by omega), put_ne (by omega), put_ne (by omega)]
          exact ⟨rfl, rfl⟩)
      have ff : ∀ q, 23 ≤ q → q ≠ 24 → Mc5 q = Mc q := fun q a b => by rw [f q (by omega) (by omega) b, fc q (by omega) (by omega) (by omega)]
      refine ⟨_, Mc5, _, Mr5, rfl, rfl, ⟨?_, ⟨0, 0, by omega, by omega, ?_, ?_, ?_, fun i hi => absurd hi (Nat.not_lt_zero i)⟩, Or.inl ⟨?_, ?_⟩, ⟨⟨0, by omega, ?_, ?_, fun k hk => absurd hk (Nat.not_lt_zero k)⟩, ?_, ?_⟩, ?_, zz⟩, ?_, ?_, Or.inl ⟨?_, ?_⟩⟩
      · unfold ST; rw [h146]; exact ⟨s5, wr⟩
      · rw [← hC, put_ne (by decide), put_row, upd_at, if_neg (by decide), put_row, upd_at, if_pos rfl]; rfl
      · rw [← hC, put_ne (by decide), put_row, upd_at, if_pos rfl]; rfl
      · rw [hk 7 (by omega)]; rfl
      · rw [← hC, put_row, upd_at, if_pos rfl]
      · rw [hk 11 (by omega)]; rfl
      · rw [f 1 (by omega) (by omega) (by omega), k1]; rfl
      · rw [hk 15 (by omega)]; rfl
      · rw [f 1 (by omega) (by omega) (by omega), k8, hk 9 (by omega)]; rfl
      · rw [f 1 (by omega) (by omega) (by omega), k9, hk 22 (by omega)]; rfl
      · exact OU_congr R0.2.2.2.2.1 (by rw [ff 143 (by omega) (by omega)]) (ff 144 (by omega) (by omega)) (g 152 (by omega) (by omega) (by omega)) (by rw [hk 13 (by omega)]; rfl)
      · exact fun q hq => by rw [ff q (by omega) (by omega)]
      · exact fun q hq => by rw [g q (by omega) (by omega) (by omega), mf q (by omega)]
      · rw [s5.1, h146]
      · rw [hk 8 (by omega)]; exact m8
    · have ne : ¬ Mr2 145 20 = 0 := by rw [n4]; exact nI_ne0 (by omega) (by omega)
      have fr : ∀ q, q ≠ 145 → q ≠ 147 → Mr2 q = M0 q := fun q a b => by rw [F'.1 q a b, r1 q a]
      have fk : ∀ k, (k < 16 ∨ k = 22 ∨ 24 ≤ k) → Mr2 145 k = M0 145 k := fun k hk => by rw [F'.2 k (by omega), r2 k hk]
      rw [s1, bnd_s, nm_eq, if_neg (by decide), s2, bndM_s, R_finish, bnd_s, decide_eq_false ne, if_neg ne, if_pos (show (!false) = true from rfl)]
      generalize hC : put Mc2 1 1 0 = Mc5
      generalize hR : setR Mr2 145 (upd (upd (upd (Mr2 145) 15 0) 22 (Mr2 145 21)) 9 (Mr2 145 20)) = Mr5
      have ff : ∀ q, q ≠ 1 → q ≠ 3 → q ≠ 4 → Mc5 q = Mc q := fun q a b c => by rw [← hC, put_ne a, F.1 q a b c, c1 q a]
      have g : ∀ q, q ≠ 145 → q ≠ 147 → Mr5 q = M0 q := fun q a b => by rw [← hR, setR_at, if_neg a]; exact fr q a b
      have hk : ∀ k, (k < 16 ∨ k = 22 ∨ 24 ≤ k) → Mr5 145 k = if k = 9 then Mr2 145 20 else if k = 22 then Mr2 145 21 else if k = 15 then 0 else M0 145 k := fun k hk => by rw [← hR, setR_self, upd_at, upd_at, upd_at, fk k hk]
      obtain ⟨o1, o2, o3, -, o5, o6⟩ := R0
      refine ⟨_, Mc5, _, Mr5, rfl, rfl, ⟨ST_congr o1 (fun q a b => ff q (by omega) (by omega) (by omega)) (g 146 (by omega) (by omega)), HH_congr o2 (fun q hq => ff q (by omega) (by omega) (by omega)) (g 151 (by omega) (by omega)) (by rw [hk 7 (by omega)]; rfl), SN_congr o3 (by rw [ff 0 (by omega) (by omega) (by omega)]) (fun q a b => ff q (by omega) (by omega) (by omega)) (g 150 (by omega) (by omega)) (by rw [hk 11 (by omega)]; rfl), ⟨⟨0, by omega, ?_, ?_, fun k hk => absurd hk (Nat.not_lt_zero k)⟩, ?_, ?_⟩, OU_congr o5 (by rw [ff 143 (by omega) (by omega) (by omega)]) (ff 144 (by omega) (by omega) (by omega)) (g 152 (by omega) (by omega)) (by rw [hk 13 (by omega)]; rfl), ZS_congr o6 (fun p hp => by
          have := st_lt p hp
          rw [ff (p + 5) (by omega) (by omega) (by omega), ff (p + 9) (by omega) (by omega) (by omega)]
          exact ⟨rfl, rfl⟩)⟩, fun q hq => by rw [ff q (by omega) (by omega) (by omega)], fun q hq => by rw [g q (by omega) (by omega), mf q (by omega)], Or.inl ⟨rfl, ?_⟩⟩
      · rw [← hC, put_row, upd_at, if_pos rfl]; rfl
      · rw [hk 15 (by omega)]; rfl
      · rw [← hC, put_row, upd_at, if_neg (by decide), hk 9 (by omega), n3]; exact n4.symm
      · rw [← hC, put_row, upd_at, if_neg (by decide), hk 22 (by omega), n5]; exact n6.symm
      · rw [hk 8 (by omega)]; exact m8
