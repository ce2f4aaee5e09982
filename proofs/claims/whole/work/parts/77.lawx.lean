/-! rows of the law's body -/
/-- what the law stands on: the script -/
def LX (s : State) (w : Wc) (b Lx : Nat) (xs : Nat → Int32) : Prop := va_X b Lx xs s s.heap ∧ b < s.heap.size ∧ (¬ wA w b) ∧ Lx ≤ 3072
theorem exK : ∃ K : Mem → Option Unit, ∀ M, K M = some () ↔ RR M M := by
  classical
  refine ⟨fun M => if RR M M then some () else none, fun M => ?_⟩
  by_cases h : RR M M
  · simp [h]
  · simp [h]
section LB
variable {ρ α : Type} {p : Program} {l : Launch} {e : Env} {R : Room} {s : State} {m : MethodId} {args : Array Value} {below : List Frame} {meth : Method} {c : Code} {w : Wc} {nL k n : Nat} {Qf : ρ → State → Prop} {cc : ByteArray} {own : String}
theorem Go.mono {pc : Nat} {L : List (Nat × Value)} {st : List Value} {M : Mem} {o o2 : Option ρ} (h : ∀ r, o = some r → o2 = some r) (kk : Go p l e R s m args below meth c w nL k n Qf o2 pc L st M) : Go p l e R s m args below meth c w nL k n Qf o pc L st M := fun r hr => kk r (h r hr)
theorem Go.ite {P : Prop} [Decidable P] {pc : Nat} {L : List (Nat × Value)} {st : List Value} {M : Mem} {o : Option ρ} (kk : P → Go p l e R s m args below meth c w nL k n Qf o pc L st M) : Go p l e R s m args below meth c w nL k n Qf (if P then o else none) pc L st M := fun r hr => by
  by_cases h : P
  · rw [if_pos h] at hr
    exact kk h r hr
  · rw [if_neg h] at hr
    cases hr
theorem Go.widen {k2 n2 pc : Nat} {L : List (Nat × Value)} {st : List Value} {M : Mem} {o : Option ρ} (h1 : k ≤ k2) (h2 : n ≤ n2) (kk : Go p l e R s m args below meth c w nL k2 n2 Qf o pc L st M) : Go p l e R s m args below meth c w nL k n Qf o pc L st M := fun r hr H locs ls hP hS hl => W.widen h1 h2 (kk r hr H locs ls hP hS hl)
theorem Go.no {pc : Nat} {L : List (Nat × Value)} {st : List Value} {M : Mem} {o : Option ρ} (h : False) : Go p l e R s m args below meth c w nL k n Qf o pc L st M := h.elim
theorem H_ifeq (g : Gd p s m args meth c w nL cc own) {pc : Nat} {L : List (Nat × Value)} {st : List Value} {M : Mem} {o : Option ρ} {x : Int32} {off : Int} (tgt : Nat) (d : decode cc pc = .ok (.ifCond .eq off, 3)) (ht : (pc : Int) + off = (tgt : Int)) (k1 : x = 0 → Go p l e R s m args below meth c w nL k n Qf o tgt L st M) (k2 : ¬ x = 0 → Go p l e R s m args below meth c w nL k n Qf o (pc + 3) L st M) : Go p l e R s m args below meth c w nL k n Qf o pc L (.int x :: st) M := by
  intro r hr H locs ls hP hS hl
  exact lv_if_eq g.1 g.2.1 d ht (fun h => k1 h r hr H locs ls hP hS hl) (fun h => k2 h r hr H locs ls hP hS hl)
theorem H_ifne (g : Gd p s m args meth c w nL cc own) {pc : Nat} {L : List (Nat × Value)} {st : List Value} {M : Mem} {o : Option ρ} {x : Int32} {off : Int} (tgt : Nat) (d : decode cc pc = .ok (.ifCond .ne off, 3)) (ht : (pc : Int) + off = (tgt : Int)) (k1 : ¬ x = 0 → Go p l e R s m args below meth c w nL k n Qf o tgt L st M) (k2 : x = 0 → Go p l e R s m args below meth c w nL k n Qf o (pc + 3) L st M) : Go p l e R s m args below meth c w nL k n Qf o pc L (.int x :: st) M := by
  intro r hr H locs ls hP hS hl
  exact lv_if_ne g.1 g.2.1 d ht (fun h => k1 h r hr H locs ls hP hS hl) (fun h => k2 h r hr H locs ls hP hS hl)
theorem H_cmpeq (g : Gd p s m args meth c w nL cc own) {pc : Nat} {L : List (Nat × Value)} {st : List Value} {M : Mem} {o : Option ρ} {x y : Int32} {off : Int} (tgt : Nat) (d : decode cc pc = .ok (.if_icmp .eq off, 3)) (ht : (pc : Int) + off = (tgt : Int)) (h : x = y) (k1 : Go p l e R s m args below meth c w nL k n Qf o tgt L st M) : Go p l e R s m args below meth c w nL k n Qf o pc L (.int y :: .int x :: st) M := by
  intro r hr H locs ls hP hS hl
  exact lv_icmp_eq g.1 g.2.1 d ht (fun _ => k1 r hr H locs ls hP hS hl) (fun h2 => absurd h h2)
theorem G_dcmp (g : Gd p s m args meth c w nL cc own) {pc : Nat} {L : List (Nat × Value)} {st : List Value} {M : Mem} {o : Option ρ} {x y : UInt64} {op : CmpOp} (d : decode cc pc = .ok (.dcmp op, 1)) (kk : Go p l e R s m args below meth c w nL k n Qf o (pc + 1) L (.int (Op.cmpValue (FP.dcmp x y) op) :: st) M) : Go p l e R s m args below meth c w nL k n Qf o pc L (.double y :: .double x :: st) M := fun r hr H locs ls hP hS hl => lv_dcmp g.1 g.2.1 d (kk r hr H locs ls hP hS hl)
theorem G_dstore (g : Gd p s m args meth c w nL cc own) {pc i : Nat} {L : List (Nat × Value)} {st : List Value} {M : Mem} {o : Option ρ} {x : UInt64} (L2 : List (Nat × Value)) (d : decode cc pc = .ok (.dstore i, 2)) (hn : i + 1 < nL) (hL : (i, Value.double x) :: L.filter (fun q => !(q.1 == i) && (!(q.1 == i + 1) && !(q.1 + 1 == i && q.2.category == 2))) = L2) (kk : Go p l e R s m args below meth c w nL k n Qf o (pc + 2) L2 st M) : Go p l e R s m args below meth c w nL k n Qf o pc L (.double x :: st) M := fun r hr H locs ls hP hS hl => lv_dstore g.1 g.2.1 d hl hn hL (fun ls' hl' => kk r hr H locs ls' hP hS hl')
theorem G_lcmp (g : Gd p s m args meth c w nL cc own) {pc : Nat} {L : List (Nat × Value)} {st : List Value} {M : Mem} {o : Option ρ} {x y : Int64} (h : x = y) (d : decode cc pc = .ok (.lcmp, 1)) (kk : Go p l e R s m args below meth c w nL k n Qf o (pc + 1) L (.int 0 :: st) M) : Go p l e R s m args below meth c w nL k n Qf o pc L (.long y :: .long x :: st) M := by
  intro r hr H locs ls hP hS hl T hT X
  subst h
  obtain ⟨t, a, b⟩ := kk r hr H locs ls hP hS hl T hT X
  have hexec := g.1
  have hb := g.2.1
  refine ⟨t, ?_, b⟩
  jvm_step X.here [X.here.top, hexec, hb, d]
  exact a
theorem G_f2d (g : Gd p s m args meth c w nL cc own) {pc : Nat} {L : List (Nat × Value)} {st : List Value} {M : Mem} {o : Option ρ} {x : UInt32} (hx : nn32 x = true) (d : decode cc pc = .ok (.f2d, 1)) (kk : Go p l e R s m args below meth c w nL k n Qf o (pc + 1) L (.double (FP.f2d x) :: st) M) : Go p l e R s m args below meth c w nL k n Qf o pc L (.float x :: st) M := fun r hr H locs ls hP hS hl => lv_f2d g.1 g.2.1 d ((Jvm.Free.Fl.noNaN_f2d x).mpr (nn32_of hx)) (kk r hr H locs ls hP hS hl)
theorem G_sld (g : Gd p s m args meth c w nL cc own) {b Lx : Nat} {xs : Nat → Int32} (hX : LX s w b Lx xs) {pc : Nat} {L : List (Nat × Value)} {st : List Value} {M : Mem} {o : Option ρ} {q : Nat} (hq : q < Lx) (d : decode cc pc = .ok (.iaload, 1)) (kk : Go p l e R s m args below meth c w nL k n Qf o (pc + 1) L (.int (xs q) :: st) M) : Go p l e R s m args below meth c w nL k n Qf o pc L (.int (nI q) :: .ref b :: st) M := by
  intro r hr H locs ls hP hS hl
  have h3 := hX.2.2.2
  refine va_sld g.1 g.2.1 hX.1 hX.2.1 hX.2.2.1 hS (inB_of (inB_nI hq (by omega))) d ?_
  rw [nI_clamp (by omega)]
  exact kk r hr H locs ls hP hS hl
theorem G_slen (g : Gd p s m args meth c w nL cc own) {b Lx : Nat} {xs : Nat → Int32} (hX : LX s w b Lx xs) {pc : Nat} {L : List (Nat × Value)} {st : List Value} {M : Mem} {o : Option ρ} (d : decode cc pc = .ok (.arraylength, 1)) (kk : Go p l e R s m args below meth c w nL k n Qf o (pc + 1) L (.int (nI Lx) :: st) M) : Go p l e R s m args below meth c w nL k n Qf o pc L (.ref b :: st) M := fun r hr H locs ls hP hS hl => va_slen g.1 g.2.1 hX.1 hX.2.1 hX.2.2.1 hS d (kk r hr H locs ls hP hS hl)
/-- script[i + j] -/
theorem G_arg (g : Gd p s m args meth c w nL cc own) {b Lx : Nat} {xs : Nat → Int32} (hX : LX s w b Lx xs) {pc ii j j0 j5 : Nat} {z : Int} {L : List (Nat × Value)} {st : List Value} {M : Mem} {o : Option ρ} (hii : ii + 6 ≤ Lx) (hj : j < 6) (h0 : L[j0]? = some (0, .ref b)) (h5 : L[j5]? = some (5, .int (nI ii))) (d0 : decode cc pc = .ok (.aload_n 0, 1)) (d1 : decode cc (pc + 1) = .ok (.iload 5, 2)) (d3 : decode cc (pc + 3) = .ok (.iconst z, 1)) (hz : Int32.ofInt z = nI j) (d4 : decode cc (pc + 4) = .ok (.iadd, 1)) (d5 : decode cc (pc + 5) = .ok (.iaload, 1)) (kk : Go p l e R s m args below meth c w nL k n Qf o (pc + 6) L (.int (xs (ii + j)) :: st) M) : Go p l e R s m args below meth c w nL k n Qf o pc L st M := by
  refine G_aload_n g j0 d0 rfl h0 ?_
  refine G_iload g j5 d1 h5 ?_
  refine G_iconst g (nI j) d3 hz ?_
  refine G_iadd g d4 ?_
  rw [nI_add]
  exact G_sld g hX (by omega) d5 kk
/-- the words of a static call of a method with handlers -/
def CSH (own : String) (idx : Nat) (y : MethodName) (b : ByteArray) (maxL : Nat) (hh : List (Nat × Nat × Nat × Nat)) (a : Nat) : Prop := Cond.methodLink own idx y ∈ TT ∧ Cond.static y ∈ TT ∧ Cond.initialized y.cls ∈ TT ∧ Cond.codeWith y b maxL (some .int) hh ∈ TT ∧ (y.cls ≠ "java/lang/invoke/MethodHandle" ∧ y.cls ≠ "java/lang/invoke/VarHandle" ∧ (parseMethodDescriptor y.desc).map (fun d => d.parameters.length) = some a)
theorem Wd.blindN {w : Wc} {M : Mem} {av : List Value} : FrameBlind (va_Pc av (fun U => Wd w M U ∧ va_Nc exS exI U)) := by
  intro a U g mk h
  obtain ⟨h0, ⟨h1, h2, h3, h4, h5⟩, hn⟩ := h
  exact ⟨h0, ⟨h1, va_K.moved (u := U) (U := U.calling g mk a) (Vm.Alike.refl U.vm) h2, h3, h4, Sx.frame U _ rfl rfl h5⟩, hn⟩
theorem G_cSH (g : Gd p s m args meth c w nL cc own) (hnc : va_Nc exS exI s) {pc idx a maxL : Nat} {hh : List (Nat × Nat × Nat × Nat)} {L : List (Nat × Value)} {st As : List Value} {M : Mem} {y : MethodName} {b : ByteArray} {rm : Room} {f : Option (Int32 × Mem)} {o : Int32 → Mem → Option ρ} (cw : CSH own idx y b maxL hh a) (hM : CtH l y b maxL hh rm w As M f) (hn : As.length = a) (hR : rm.frames + 1 ≤ R.frames ∧ 8 + (maxL + 11) + rm.locals ≤ R.locals) (hC : k + rm.cells ≤ R.cells ∧ n + rm.slots ≤ R.slots) (hs : (st.map fun v => v.category).sum ≤ 8) (d : decode cc pc = .ok (.invokestatic idx, 3)) (kk : ∀ (x : Int32) (M1 : Mem), Go p l e R s m args below meth c w nL (k + rm.cells) (n + rm.slots) Qf (o x M1) (pc + 3) L (.int x :: st) M1) : Go p l e R s m args below meth c w nL k n Qf (bnd f o) pc L (As.reverse ++ st) M := by
  intro r hr H locs ls hP hS hl
  cases f with
  | none => cases hr
  | some v =>
    have GI : GoodIn TT (va_wsS own idx y (Cond.codeWith y b maxL (some .int) hh :: TT)) := by
      intro x hx
      have hm : x ∈ TT := by
        unfold va_wsS at hx
        rcases List.mem_append.mp hx with h | h
        · rcases List.mem_cons.mp h with rfl | h
          · exact cw.1
          · rcases List.mem_cons.mp h with rfl | h
            · exact cw.2.1
            · rcases List.mem_cons.mp h with rfl | h
              · exact cw.2.2.1
              · exact absurd h List.not_mem_nil
        · rcases List.mem_cons.mp h with rfl | h
          · exact cw.2.2.2.1
          · exact h
      exact ⟨hm, good_of_word (TT_good hm).2⟩
    refine vx_calli (vx_runSX (As := As) (rest := st) ⟨g.1, g.2.1, g.2.2.1, g.2.2.2.1, g.2.2.2.2.1⟩ (hM v rfl) (vx_cwSW a g.2.2.2.2.1 GI rfl rfl rfl cw.2.2.2.2 hR) ⟨Wd.blindN, fun U hU hW => ⟨rfl, ⟨by rw [hU]; exact hP, va_K.moved hW.alike g.2.2.2.2.2.1, g.2.2.2.2.2.2.2.2.1, by rw [hU]; exact Nat.le_trans g.2.2.2.2.2.2.2.2.2 hS.1, Sx.step g.2.2.2.2.2.2.2.1 hS hU hW⟩, va_Nc.moved hW.alike hnc⟩⟩ rfl hn hl.1 rfl (lv_room hs) d hC) hS (fun _ _ h => h) (fun _ h => h) (fun _ _ h => h) (fun E ce q9 u t H1 locs1 ht hvm hpx hB hz hkp hS1 hcell hcv hcl => ?_) (fun x u t H1 locs1 ht hvm hw hB hz hkp hS1 => ?_)
    · exact (show False from hpx).elim
    · have hw : x = v.1 := hw
      subst hw
      exact kk v.1 v.2 r hr H1 locs1 ls (by rw [← ht]; exact hB) hS1 hl
end LB
