/-! the law: what is known goes on; all; the script's ints -/
theorem aI : Cond.arrayClass .int ∈ TT := TT_in (i := 137) (by decide +kernel) (by decide +kernel)
section KN
variable {ρ : Type} {p : Program} {l : Launch} {e : Env} {R : Room} {s : State} {m : MethodId} {args : Array Value} {below : List Frame} {meth : Method} {c : Code} {w : Wc} {nL k n : Nat} {Qf : ρ → State → Prop} {cc : ByteArray} {own : String}
theorem Go.knownI {x1 : Int32} {M1 : Mem} {f : Option (Int32 × Mem)} {pc : Nat} {L : List (Nat × Value)} {st : List Value} {M : Mem} {r0 : ρ} (hf : f = some (x1, M1)) (kk : ∀ K : Int32 → Mem → Option ρ, (∀ x M2 r, K x M2 = some r → x = x1 ∧ M2 = M1 ∧ r = r0) → Go p l e R s m args below meth c w nL k n Qf (bnd f K) pc L st M) : Go p l e R s m args below meth c w nL k n Qf (some r0) pc L st M := by
  classical
  have h := kk (fun x M2 => if x = x1 ∧ M2 = M1 then some r0 else none) (fun x M2 r hr => by
    by_cases h : x = x1 ∧ M2 = M1
    · rw [if_pos h] at hr
      cases hr
      exact ⟨h.1, h.2, rfl⟩
    · rw [if_neg h] at hr
      cases hr)
  rw [hf] at h
  have e0 : bnd (some (x1, M1)) (fun x M2 => if x = x1 ∧ M2 = M1 then some r0 else none) = some r0 := if_pos ⟨rfl, rfl⟩
  rw [e0] at h
  exact h
theorem Go.ofI {K : Int32 → Mem → Option ρ} {x x1 : Int32} {M1 M2 : Mem} {r0 : ρ} {pc : Nat} {L : List (Nat × Value)} {st : List Value} (hK : ∀ x M2 r, K x M2 = some r → x = x1 ∧ M2 = M1 ∧ r = r0) (kk : Go p l e R s m args below meth c w nL k n Qf (some r0) pc L (.int x1 :: st) M1) : Go p l e R s m args below meth c w nL k n Qf (K x M2) pc L (.int x :: st) M2 := by
  intro r hr
  obtain ⟨rfl, rfl, rfl⟩ := hK x M2 r hr
  exact kk r rfl
theorem Go.knownZ {x1 : Bool} {M1 : Mem} {f : Option (Bool × Mem)} {pc : Nat} {L : List (Nat × Value)} {st : List Value} {M : Mem} {r0 : ρ} (hf : f = some (x1, M1)) (kk : ∀ K : Bool → Mem → Option ρ, (∀ x M2 r, K x M2 = some r → x = x1 ∧ M2 = M1 ∧ r = r0) → Go p l e R s m args below meth c w nL k n Qf (bnd f K) pc L st M) : Go p l e R s m args below meth c w nL k n Qf (some r0) pc L st M := by
  classical
  have h := kk (fun x M2 => if x = x1 ∧ M2 = M1 then some r0 else none) (fun x M2 r hr => by
    by_cases h : x = x1 ∧ M2 = M1
    · rw [if_pos h] at hr
      cases hr
      exact ⟨h.1, h.2, rfl⟩
    · rw [if_neg h] at hr
      cases hr)
  rw [hf] at h
  have e0 : bnd (some (x1, M1)) (fun x M2 => if x = x1 ∧ M2 = M1 then some r0 else none) = some r0 := if_pos ⟨rfl, rfl⟩
  rw [e0] at h
  exact h
theorem Go.ofZ {K : Bool → Mem → Option ρ} {x x1 : Bool} {M1 M2 : Mem} {r0 : ρ} {pc : Nat} {L : List (Nat × Value)} {st : List Value} (hK : ∀ x M2 r, K x M2 = some r → x = x1 ∧ M2 = M1 ∧ r = r0) (kk : Go p l e R s m args below meth c w nL k n Qf (some r0) pc L (.int (b2i x1) :: st) M1) : Go p l e R s m args below meth c w nL k n Qf (K x M2) pc L (.int (b2i x) :: st) M2 := by
  intro r hr
  obtain ⟨rfl, rfl, rfl⟩ := hK x M2 r hr
  exact kk r rfl
end KN
theorem WK.wg {w : Wc} {j j2 rr : Nat} {z z2 : Shp} (hw : WK (wg w j z) rr) (hj : j ≤ j2) (hz : ∀ p, p < 145 → z2 p = z p) : WK (wg w j2 z2) rr := ⟨fun p hp => (hz p hp).trans (hw.1 p hp), fun p hp => List.mem_range.mpr (Nat.lt_of_lt_of_le (List.mem_range.mp (hw.2 p hp)) hj)⟩
theorem nI_mul3 (n : Nat) : (3 : Int32) * nI n = nI (3 * n) := (Int32.ofNat_mul 3 n).symm
set_option maxHeartbeats 4000000 in
set_option maxRecDepth 100000 in
theorem c_L_all (l : Launch) (N : Nat) {w : Wc} (had : Ad w) {j rr n1 n2 n3 nn : Nat} {z : Shp} (hj : j < 890) (h1j : 145 ≤ j) (hw : WK (wg w j z) rr) (M Mr : Mem) (h1 : f_G_loggedCount M = some (nI n1, M)) (h2 : f_G_archivedCount M = some (nI n2, M)) (h3 : f_G_bufferSize M = some (nI n3, M)) (hn : 19 + n3 + 3 * n1 + 3 * n2 = nn) (hnn : nn ≤ 400) (hf : f_L_all N rr j nn (nI n1) (nI n2) (setR M j (fun _ => 0)) = some Mr) : CtG l y_L_all b_L_all 6 (some (.array .int)) (rmC 3 1 400) w j z [.ref (wad w 0)] M (QgR w (j + 1) j (fun z2 M2 => z2 = zfr z j 20 nn ∧ M2 = Mr)) := by
  refine CtG.go (by decide) (L := [(0, .ref (wad w 0))]) rfl (Nat.le_of_ble_eq_true rfl) (fun p0 e s mm args below meth c hnm hsz hao g hret => ?_)
  refine G_aload_n g (pc := 0) 0 d_L_all_0 rfl rfl ?_
  refine Go.knownI h1 (fun K30 hK30 => ?_)
  refine G_cVI0 g (pc := 1) (As := []) (st := []) cc_L_30 (c_G_loggedCount l hw M) (hw.m 0 (Nat.le_of_ble_eq_true rfl)) (hw.k (Nat.le_of_ble_eq_true rfl) (zk0 rr)) rfl (by decide) rfl ⟨(Nat.le_of_ble_eq_true rfl), (Nat.le_of_ble_eq_true rfl)⟩ ⟨Nat.zero_le _, Nat.zero_le _⟩ (Nat.le_of_ble_eq_true rfl) d_L_all_1 (fun x30 M30 => ?_)
  refine Go.ofI hK30 ?_
  refine G_istore_n g (pc := 4) _ d_L_all_4 rfl (Nat.le_of_ble_eq_true rfl) rfl ?_
  refine G_aload_n g (pc := 5) 1 d_L_all_5 rfl rfl ?_
  refine Go.knownI h2 (fun K33 hK33 => ?_)
  refine G_cVI0 g (pc := 6) (As := []) (st := []) cc_L_33 (c_G_archivedCount l hw M) (hw.m 0 (Nat.le_of_ble_eq_true rfl)) (hw.k (Nat.le_of_ble_eq_true rfl) (zk0 rr)) rfl (by decide) rfl ⟨(Nat.le_of_ble_eq_true rfl), (Nat.le_of_ble_eq_true rfl)⟩ ⟨Nat.zero_le _, Nat.zero_le _⟩ (Nat.le_of_ble_eq_true rfl) d_L_all_6 (fun x33 M33 => ?_)
  refine Go.ofI hK33 ?_
  refine G_istore_n g (pc := 9) _ d_L_all_9 rfl (Nat.le_of_ble_eq_true rfl) rfl ?_
  refine G_bipush g (pc := 10) (19 : Int32) d_L_all_10 rfl ?_
  refine G_aload_n g (pc := 12) 2 d_L_all_12 rfl rfl ?_
  refine Go.knownI h3 (fun K36 hK36 => ?_)
  refine G_cVI0 g (pc := 13) (As := []) (st := [.int (19 : Int32)]) cc_L_36 (c_G_bufferSize l hw M) (hw.m 0 (Nat.le_of_ble_eq_true rfl)) (hw.k (Nat.le_of_ble_eq_true rfl) (zk0 rr)) rfl (by decide) rfl ⟨(Nat.le_of_ble_eq_true rfl), (Nat.le_of_ble_eq_true rfl)⟩ ⟨Nat.zero_le _, Nat.zero_le _⟩ (Nat.le_of_ble_eq_true rfl) d_L_all_13 (fun x36 M36 => ?_)
  refine Go.ofI hK36 ?_
  refine G_iadd g (pc := 16) d_L_all_16 ?_
  refine Go.top (y := nI (19 + n3)) (nI_add 19 n3) ?_
  refine G_iconst g (pc := 17) (3 : Int32) d_L_all_17 rfl ?_
  refine G_iload_n g (pc := 18) 1 d_L_all_18 rfl rfl ?_
  refine G_imul g (pc := 19) d_L_all_19 ?_
  refine Go.top (y := nI (3 * n1)) (nI_mul3 n1) ?_
  refine G_iadd g (pc := 20) d_L_all_20 ?_
  refine Go.top (y := nI (19 + n3 + 3 * n1)) (nI_add _ _) ?_
  refine G_iconst g (pc := 21) (3 : Int32) d_L_all_21 rfl ?_
  refine G_iload_n g (pc := 22) 0 d_L_all_22 rfl rfl ?_
  refine G_imul g (pc := 23) d_L_all_23 ?_
  refine Go.top (y := nI (3 * n2)) (nI_mul3 n2) ?_
  refine G_iadd g (pc := 24) d_L_all_24 ?_
  refine Go.top (y := nI nn) ((nI_add _ _).trans (by rw [hn])) ?_
  refine G_newI g (pc := 25) (N := nn) had (by omega) hsz aI (by omega) ⟨(Nat.le_of_ble_eq_true rfl), (by show 0 + nn ≤ 400; omega)⟩ d_L_all_25 ?_
  have g1 := Gd.wg (z2 := zfr z j 20 nn) (j2 := j + 1) had (by omega) g
  have hw1 : WK (wg w (j + 1) (zfr z j 20 nn)) rr := hw.wg (by omega) (fun p hp => if_neg (by omega))
  have zj : zfr z j 20 nn j = (20, nn, fun _ => none) := if_pos rfl
  refine G_astore_n g1 (pc := 27) _ d_L_all_27 rfl (Nat.le_of_ble_eq_true rfl) rfl ?_
  refine G_sub [3, 2, 1, 0] [(0, .ref (wad w 0)), (1, .int (nI n1)), (2, .int (nI n2)), (3, .ref (wad w j))] rfl ?_
  intro r hr H locs ls hP hS hl
  exact g_L_all l N (k := 0 + 1) (n := 0 + nn) ⟨(Nat.le_of_ble_eq_true rfl), (by show 0 + nn ≤ 400; omega)⟩ hw1 g1 (Qf := fun r => MQ below (QgR w (j + 1) j (fun z2 M2 => z2 = zfr z j 20 nn ∧ M2 = r)) args s 1 400 (wA w)) j nn (List.mem_range.mpr (by omega)) (by show (zfr z j 20 nn j).1 = 20; rw [zj]) (by show (zfr z j 20 nn j).2.1 = nn; rw [zj]) (fun L M2 r2 hr2 => by cases hr2; exact G_gretR g1 (pc := 393) (q := j) ⟨rfl, rfl⟩ hret (Or.inr ⟨_, rfl⟩) (Nat.le_of_ble_eq_true rfl) (by show 0 + nn ≤ 400; omega) d_L_all_393 () rfl) (nI n1) (nI n2) (setR M j (fun _ => 0)) Mr hf H locs ls hP hS hl
theorem alike_lp {N0 rr a1 a2 n : Nat} {M : Mem} (hn : n < 2 ^ 31) (h : ∀ i, i < n → M a1 i = M a2 i) {K : Int32 → Mem → Option (Bool × Mem)} : ∀ d k fuel, k + d = n → d < fuel → lp_L_alike_11 N0 rr a1 n a2 n fuel (nI k) M K = K (nI n) M := by
  intro d
  induction d with
  | zero =>
    intro k fuel hk hf
    obtain ⟨f, rfl⟩ : ∃ f, fuel = f + 1 := ⟨fuel - 1, by omega⟩
    unfold lp_L_alike_11
    rw [show k = n by omega, if_neg (nI_nlt (Nat.le_refl _) hn)]
  | succ d ih =>
    intro k fuel hk hf
    obtain ⟨f, rfl⟩ : ∃ f, fuel = f + 1 := ⟨fuel - 1, by omega⟩
    unfold lp_L_alike_11
    rw [if_pos (nI_lt (show k < n by omega) hn), grd_of (inB_nI (by omega) hn), grd_of (inB_nI (by omega) hn), nI_clamp (by omega), if_pos (h k (by omega)), nm_eq, show nI k + (1 : Int32) = nI (k + 1) from nI_add k 1]
    exact ih (k + 1) f (by omega) (by omega)
theorem alike_yes {N rr a1 a2 n : Nat} {M : Mem} (hn : n ≤ 400) (hN : 400 < N) (h : ∀ i, i < n → M a1 i = M a2 i) : f_L_alike N rr a1 n a2 n M = some (true, M) := by
  unfold f_L_alike
  rw [if_pos rfl]
  exact alike_lp (by omega) h n 0 N (Nat.zero_add _) (by omega)
/-- the script -/
def LX (s : State) (w : Wc) (b Lx : Nat) (xs : Nat → Int32) : Prop := va_X b Lx xs s s.heap ∧ b < s.heap.size ∧ (¬ wA w b) ∧ Lx ≤ 3072
def cellV (Lx : Nat) (xs : Nat → Int32) (k : Nat) : Int32 := if k < Lx then xs k else (37 : Int32) * nI k
section LXS
variable {ρ : Type} {p : Program} {l : Launch} {e : Env} {R : Room} {s : State} {m : MethodId} {args : Array Value} {below : List Frame} {meth : Method} {c : Code} {w : Wc} {nL k n : Nat} {Qf : ρ → State → Prop} {cc : ByteArray} {own : String}
theorem G_sld (g : Gd p s m args meth c w nL cc own) {b Lx : Nat} {xs : Nat → Int32} (hX : LX s w b Lx xs) {pc : Nat} {L : List (Nat × Value)} {st : List Value} {M : Mem} {o : Option ρ} {q : Nat} (hq : q < Lx) (d : decode cc pc = .ok (.iaload, 1)) (kk : Go p l e R s m args below meth c w nL k n Qf o (pc + 1) L (.int (xs q) :: st) M) : Go p l e R s m args below meth c w nL k n Qf o pc L (.int (nI q) :: .ref b :: st) M := by
  intro r hr H locs ls hP hS hl
  have h3 := hX.2.2.2
  refine va_sld g.1 g.2.1 hX.1 hX.2.1 hX.2.2.1 hS (inB_of (inB_nI hq (by omega))) d ?_
  rw [nI_clamp (by omega)]
  exact kk r hr H locs ls hP hS hl
theorem G_slen (g : Gd p s m args meth c w nL cc own) {b Lx : Nat} {xs : Nat → Int32} (hX : LX s w b Lx xs) {pc : Nat} {L : List (Nat × Value)} {st : List Value} {M : Mem} {o : Option ρ} (d : decode cc pc = .ok (.arraylength, 1)) (kk : Go p l e R s m args below meth c w nL k n Qf o (pc + 1) L (.int (nI Lx) :: st) M) : Go p l e R s m args below meth c w nL k n Qf o pc L (.ref b :: st) M := fun r hr H locs ls hP hS hl => va_slen g.1 g.2.1 hX.1 hX.2.1 hX.2.2.1 hS d (kk r hr H locs ls hP hS hl)
end LXS
theorem LX.blind {w : Wc} {M : Mem} {av : List Value} {b Lx : Nat} {xs : Nat → Int32} : FrameBlind (va_Pc av (fun U => Wd w M U ∧ LX U w b Lx xs)) := by
  intro a U g mk h
  obtain ⟨h0, ⟨h1, h2, h3, h4, h5⟩, h6, h7, h8, h9⟩ := h
  exact ⟨h0, ⟨h1, va_K.moved (u := U) (U := U.calling g mk a) (Vm.Alike.refl U.vm) h2, h3, h4, Sx.frame U _ rfl rfl h5⟩, va_X.moved (u := U) (U := U.calling g mk a) (Vm.Alike.refl U.vm) h6, h7, h8, h9⟩
theorem d_L_cell_0 : decode b_L_cell 0 = .ok (.iload_n 1, 1) := by decide +kernel
theorem d_L_cell_1 : decode b_L_cell 1 = .ok (.aload_n 0, 1) := by decide +kernel
theorem d_L_cell_2 : decode b_L_cell 2 = .ok (.arraylength, 1) := by decide +kernel
theorem d_L_cell_3 : decode b_L_cell 3 = .ok (.if_icmp .ge 9, 3) := by decide +kernel
theorem d_L_cell_6 : decode b_L_cell 6 = .ok (.aload_n 0, 1) := by decide +kernel
theorem d_L_cell_7 : decode b_L_cell 7 = .ok (.iload_n 1, 1) := by decide +kernel
theorem d_L_cell_8 : decode b_L_cell 8 = .ok (.iaload, 1) := by decide +kernel
theorem d_L_cell_9 : decode b_L_cell 9 = .ok (.goto 7, 3) := by decide +kernel
theorem d_L_cell_12 : decode b_L_cell 12 = .ok (.bipush 37, 2) := by decide +kernel
theorem d_L_cell_14 : decode b_L_cell 14 = .ok (.iload_n 1, 1) := by decide +kernel
theorem d_L_cell_15 : decode b_L_cell 15 = .ok (.imul, 1) := by decide +kernel
theorem d_L_cell_16 : decode b_L_cell 16 = .ok (.ireturn, 1) := by decide +kernel
set_option maxHeartbeats 4000000 in
set_option maxRecDepth 100000 in
theorem c_L_cell (l : Launch) {w : Wc} {b Lx k0 : Nat} {xs : Nat → Int32} (hk : k0 ≤ 1000) (M : Mem) : Met l y_L_cell (.code y_L_cell b_L_cell 2 (some .int) :: TT) (rmL 0) (va_Pc [.ref b, .int (nI k0)] (fun U => Wd w M U ∧ LX U w b Lx xs)) (QI w (cellV Lx xs k0, M)) 0 0 (wA w) := by
  refine Met.ofW (cc := b_L_cell) (maxL := 2) (ret := some .int) (by decide) rfl ?_
  intro p0 e s m args below meth c s₁ B hml hv
  obtain ⟨rfl, ⟨hP, hK, hW, hlo, hSx⟩, hX⟩ := hv
  have hts := atoms_spec B.pre
  have hl := lv_entry ([.ref b, .int (nI k0)]) (n := 2) (Nat.le_of_ble_eq_true rfl)
  rw [lg_entry_eq]
  have g : Gd p0 s m ([.ref b, .int (nI k0)] : List Value).toArray meth c w 2 b_L_cell "KiteLoggerLaw" := ⟨B.exec, B.bytes, hml, findClass_of_methodNamed B.named, fun x hx => hts x (List.mem_cons_of_mem _ hx), hK, B.notSynchronized, hSx, hW, hlo⟩
  have hret := B.returns
  have key : Go p0 l e (rmL 0) s m ([.ref b, .int (nI k0)] : List Value).toArray below meth c w 2 0 0 (fun r => MQ below (QI w r) ([.ref b, .int (nI k0)] : List Value).toArray s 0 0 (wA w)) (some (cellV Lx xs k0, M)) 0 [(0, .ref b), (1, .int (nI k0))] [] M := by
    have h9 := hX.2.2.2
    unfold cellV
    refine G_iload_n g (pc := 0) 1 d_L_cell_0 rfl rfl ?_
    refine G_aload_n g (pc := 1) 0 d_L_cell_1 rfl rfl ?_
    refine G_slen g hX (pc := 2) d_L_cell_2 ?_
    by_cases hc : k0 < Lx
    · rw [if_pos hc]
      refine K_icmp_ge_F g (pc := 3) 12 ((Int32.not_le.mpr (nI_lt hc (by omega)))) d_L_cell_3 (by decide) ?_
      refine G_aload_n g (pc := 6) 0 d_L_cell_6 rfl rfl ?_
      refine G_iload_n g (pc := 7) 1 d_L_cell_7 rfl rfl ?_
      refine G_sld g hX (pc := 8) hc d_L_cell_8 ?_
      refine G_goto g (pc := 9) 16 d_L_cell_9 (by decide) ?_
      exact G_ireturn g (pc := 16) hret (Nat.le_of_ble_eq_true rfl) (Nat.le_of_ble_eq_true rfl) d_L_cell_16
    · rw [if_neg hc]
      refine K_icmp_ge_T g (pc := 3) 12 ((nI_le (show Lx ≤ k0 by omega) (by omega))) d_L_cell_3 (by decide) ?_
      refine G_bipush g (pc := 12) (37 : Int32) d_L_cell_12 rfl ?_
      refine G_iload_n g (pc := 14) 1 d_L_cell_14 rfl rfl ?_
      refine G_imul g (pc := 15) d_L_cell_15 ?_
      exact G_ireturn g (pc := 16) hret (Nat.le_of_ble_eq_true rfl) (Nat.le_of_ble_eq_true rfl) d_L_cell_16
  exact key _ rfl _ [] _ hP va_S.rf hl
theorem cw_L_203 : CS "KiteLoggerLaw" 203 y_L_cell b_L_cell 2 (some .int) 2 := ⟨TT_in (i := 666) (by decide +kernel) (by decide +kernel), TT_in (i := 667) (by decide +kernel) (by decide +kernel), TT_in (i := 17) (by decide +kernel) (by decide +kernel), TT_in (i := 668) (by decide +kernel) (by decide +kernel), ⟨by decide +kernel, by decide +kernel, by decide +kernel⟩⟩
section LXC
variable {ρ : Type} {p : Program} {l : Launch} {e : Env} {R : Room} {s : State} {m : MethodId} {args : Array Value} {below : List Frame} {meth : Method} {c : Code} {w : Wc} {nL k n : Nat} {Qf : ρ → State → Prop} {cc : ByteArray}
theorem G_cell (g : Gd p s m args meth c w nL cc "KiteLoggerLaw") {b Lx k0 : Nat} {xs : Nat → Int32} (hX : LX s w b Lx xs) (hk : k0 ≤ 1000) {pc : Nat} {L : List (Nat × Value)} {st : List Value} {M : Mem} {o : Option ρ} (hR : 1 ≤ R.frames ∧ 21 ≤ R.locals) (hC : k ≤ R.cells ∧ n ≤ R.slots) (hs : (st.map fun v => v.category).sum ≤ 8) (d : decode cc pc = .ok (.invokestatic 203, 3)) (kk : Go p l e R s m args below meth c w nL k n Qf o (pc + 3) L (.int (cellV Lx xs k0) :: st) M) : Go p l e R s m args below meth c w nL k n Qf o pc L (.int (nI k0) :: .ref b :: st) M := by
  intro r hr H locs ls hP hS hl
  refine va_calli (va_runS (As := [.ref b, .int (nI k0)]) (rest := st) ⟨g.1, g.2.1, g.2.2.1, g.2.2.2.1, g.2.2.2.2.1⟩ (c_L_cell l (w := w) (b := b) (Lx := Lx) (k0 := k0) (xs := xs) hk M) ⟨callB_of 2 g.2.2.2.2.1 (TT_gi cw_L_203.2.2.2.1) rfl rfl rfl (g.2.2.2.2.1 _ cw_L_203.2.2.1) (g.2.2.2.2.1 _ cw_L_203.1) cw_L_203.2.2.2.2 hR, g.2.2.2.2.1 _ cw_L_203.2.1⟩ ⟨LX.blind, fun U hU hW => ⟨rfl, ⟨by rw [hU]; exact hP, va_K.moved hW.alike g.2.2.2.2.2.1, g.2.2.2.2.2.2.2.2.1, by rw [hU]; exact Nat.le_trans g.2.2.2.2.2.2.2.2.2 hS.1, Sx.step g.2.2.2.2.2.2.2.1 hS hU hW⟩, by rw [hU]; exact (hX.1.moved hW.alike).kept (hS.2.1 b hX.2.1 hX.2.2.1), by rw [hU]; exact Nat.lt_of_lt_of_le hX.2.1 hS.1, hX.2.2.1, hX.2.2.2⟩⟩ rfl rfl hl.1 rfl (lv_room hs) d hC) hS (fun _ _ h => h) (fun _ h => h) (fun x u t H1 locs1 ht hvm hw hB hz hkp hS1 => ?_)
  have hw : x = cellV Lx xs k0 := hw
  subst hw
  exact kk r hr H1 locs1 ls (by rw [← ht]; exact hB) hS1 hl
end LXC
