/-! branches whose way is known; dup_x1 -/
section KB
variable {ρ : Type} {p : Program} {l : Launch} {e : Env} {R : Room} {s : State} {m : MethodId} {args : Array Value} {below : List Frame} {meth : Method} {c : Code} {w : Wc} {nL k n : Nat} {Qf : ρ → State → Prop} {cc : ByteArray} {own : String}
theorem K_icmp_eq_T (g : Gd p s m args meth c w nL cc own) {pc : Nat} {L : List (Nat × Value)} {st : List Value} {M : Mem} {o : Option ρ} {x y : Int32} {off : Int} (tgt : Nat) (h : x = y) (d : decode cc pc = .ok (.if_icmp .eq off, 3)) (ht : (pc : Int) + off = (tgt : Int)) (kk : Go p l e R s m args below meth c w nL k n Qf o tgt L st M) : Go p l e R s m args below meth c w nL k n Qf o pc L (.int y :: .int x :: st) M :=
  fun r hr H locs ls hP hS hl => lv_icmp_eq g.1 g.2.1 d ht (fun _ => kk r hr H locs ls hP hS hl) (fun h2 => absurd h h2)
theorem K_icmp_eq_F (g : Gd p s m args meth c w nL cc own) {pc : Nat} {L : List (Nat × Value)} {st : List Value} {M : Mem} {o : Option ρ} {x y : Int32} {off : Int} (tgt : Nat) (h : ¬ x = y) (d : decode cc pc = .ok (.if_icmp .eq off, 3)) (ht : (pc : Int) + off = (tgt : Int)) (kk : Go p l e R s m args below meth c w nL k n Qf o (pc + 3) L st M) : Go p l e R s m args below meth c w nL k n Qf o pc L (.int y :: .int x :: st) M :=
  fun r hr H locs ls hP hS hl => lv_icmp_eq g.1 g.2.1 d ht (fun h2 => absurd h2 h) (fun _ => kk r hr H locs ls hP hS hl)
theorem K_icmp_ne_T (g : Gd p s m args meth c w nL cc own) {pc : Nat} {L : List (Nat × Value)} {st : List Value} {M : Mem} {o : Option ρ} {x y : Int32} {off : Int} (tgt : Nat) (h : ¬ x = y) (d : decode cc pc = .ok (.if_icmp .ne off, 3)) (ht : (pc : Int) + off = (tgt : Int)) (kk : Go p l e R s m args below meth c w nL k n Qf o tgt L st M) : Go p l e R s m args below meth c w nL k n Qf o pc L (.int y :: .int x :: st) M :=
  fun r hr H locs ls hP hS hl => lv_icmp_ne g.1 g.2.1 d ht (fun _ => kk r hr H locs ls hP hS hl) (fun h2 => absurd h2 h)
theorem K_icmp_ne_F (g : Gd p s m args meth c w nL cc own) {pc : Nat} {L : List (Nat × Value)} {st : List Value} {M : Mem} {o : Option ρ} {x y : Int32} {off : Int} (tgt : Nat) (h : x = y) (d : decode cc pc = .ok (.if_icmp .ne off, 3)) (ht : (pc : Int) + off = (tgt : Int)) (kk : Go p l e R s m args below meth c w nL k n Qf o (pc + 3) L st M) : Go p l e R s m args below meth c w nL k n Qf o pc L (.int y :: .int x :: st) M :=
  fun r hr H locs ls hP hS hl => lv_icmp_ne g.1 g.2.1 d ht (fun h2 => absurd h h2) (fun _ => kk r hr H locs ls hP hS hl)
theorem K_icmp_lt_T (g : Gd p s m args meth c w nL cc own) {pc : Nat} {L : List (Nat × Value)} {st : List Value} {M : Mem} {o : Option ρ} {x y : Int32} {off : Int} (tgt : Nat) (h : x < y) (d : decode cc pc = .ok (.if_icmp .lt off, 3)) (ht : (pc : Int) + off = (tgt : Int)) (kk : Go p l e R s m args below meth c w nL k n Qf o tgt L st M) : Go p l e R s m args below meth c w nL k n Qf o pc L (.int y :: .int x :: st) M :=
  fun r hr H locs ls hP hS hl => lv_icmp_lt g.1 g.2.1 d ht (fun _ => kk r hr H locs ls hP hS hl) (fun h2 => absurd h h2)
theorem K_icmp_lt_F (g : Gd p s m args meth c w nL cc own) {pc : Nat} {L : List (Nat × Value)} {st : List Value} {M : Mem} {o : Option ρ} {x y : Int32} {off : Int} (tgt : Nat) (h : ¬ x < y) (d : decode cc pc = .ok (.if_icmp .lt off, 3)) (ht : (pc : Int) + off = (tgt : Int)) (kk : Go p l e R s m args below meth c w nL k n Qf o (pc + 3) L st M) : Go p l e R s m args below meth c w nL k n Qf o pc L (.int y :: .int x :: st) M :=
  fun r hr H locs ls hP hS hl => lv_icmp_lt g.1 g.2.1 d ht (fun h2 => absurd h2 h) (fun _ => kk r hr H locs ls hP hS hl)
theorem K_icmp_ge_T (g : Gd p s m args meth c w nL cc own) {pc : Nat} {L : List (Nat × Value)} {st : List Value} {M : Mem} {o : Option ρ} {x y : Int32} {off : Int} (tgt : Nat) (h : y ≤ x) (d : decode cc pc = .ok (.if_icmp .ge off, 3)) (ht : (pc : Int) + off = (tgt : Int)) (kk : Go p l e R s m args below meth c w nL k n Qf o tgt L st M) : Go p l e R s m args below meth c w nL k n Qf o pc L (.int y :: .int x :: st) M :=
  fun r hr H locs ls hP hS hl => lv_icmp_ge g.1 g.2.1 d ht (fun _ => kk r hr H locs ls hP hS hl) (fun h2 => absurd h h2)
theorem K_icmp_ge_F (g : Gd p s m args meth c w nL cc own) {pc : Nat} {L : List (Nat × Value)} {st : List Value} {M : Mem} {o : Option ρ} {x y : Int32} {off : Int} (tgt : Nat) (h : ¬ y ≤ x) (d : decode cc pc = .ok (.if_icmp .ge off, 3)) (ht : (pc : Int) + off = (tgt : Int)) (kk : Go p l e R s m args below meth c w nL k n Qf o (pc + 3) L st M) : Go p l e R s m args below meth c w nL k n Qf o pc L (.int y :: .int x :: st) M :=
  fun r hr H locs ls hP hS hl => lv_icmp_ge g.1 g.2.1 d ht (fun h2 => absurd h2 h) (fun _ => kk r hr H locs ls hP hS hl)
theorem K_icmp_gt_T (g : Gd p s m args meth c w nL cc own) {pc : Nat} {L : List (Nat × Value)} {st : List Value} {M : Mem} {o : Option ρ} {x y : Int32} {off : Int} (tgt : Nat) (h : y < x) (d : decode cc pc = .ok (.if_icmp .gt off, 3)) (ht : (pc : Int) + off = (tgt : Int)) (kk : Go p l e R s m args below meth c w nL k n Qf o tgt L st M) : Go p l e R s m args below meth c w nL k n Qf o pc L (.int y :: .int x :: st) M :=
  fun r hr H locs ls hP hS hl => lv_icmp_gt g.1 g.2.1 d ht (fun _ => kk r hr H locs ls hP hS hl) (fun h2 => absurd h h2)
theorem K_icmp_gt_F (g : Gd p s m args meth c w nL cc own) {pc : Nat} {L : List (Nat × Value)} {st : List Value} {M : Mem} {o : Option ρ} {x y : Int32} {off : Int} (tgt : Nat) (h : ¬ y < x) (d : decode cc pc = .ok (.if_icmp .gt off, 3)) (ht : (pc : Int) + off = (tgt : Int)) (kk : Go p l e R s m args below meth c w nL k n Qf o (pc + 3) L st M) : Go p l e R s m args below meth c w nL k n Qf o pc L (.int y :: .int x :: st) M :=
  fun r hr H locs ls hP hS hl => lv_icmp_gt g.1 g.2.1 d ht (fun h2 => absurd h2 h) (fun _ => kk r hr H locs ls hP hS hl)
theorem K_icmp_le_T (g : Gd p s m args meth c w nL cc own) {pc : Nat} {L : List (Nat × Value)} {st : List Value} {M : Mem} {o : Option ρ} {x y : Int32} {off : Int} (tgt : Nat) (h : x ≤ y) (d : decode cc pc = .ok (.if_icmp .le off, 3)) (ht : (pc : Int) + off = (tgt : Int)) (kk : Go p l e R s m args below meth c w nL k n Qf o tgt L st M) : Go p l e R s m args below meth c w nL k n Qf o pc L (.int y :: .int x :: st) M :=
  fun r hr H locs ls hP hS hl => lv_icmp_le g.1 g.2.1 d ht (fun _ => kk r hr H locs ls hP hS hl) (fun h2 => absurd h h2)
theorem K_icmp_le_F (g : Gd p s m args meth c w nL cc own) {pc : Nat} {L : List (Nat × Value)} {st : List Value} {M : Mem} {o : Option ρ} {x y : Int32} {off : Int} (tgt : Nat) (h : ¬ x ≤ y) (d : decode cc pc = .ok (.if_icmp .le off, 3)) (ht : (pc : Int) + off = (tgt : Int)) (kk : Go p l e R s m args below meth c w nL k n Qf o (pc + 3) L st M) : Go p l e R s m args below meth c w nL k n Qf o pc L (.int y :: .int x :: st) M :=
  fun r hr H locs ls hP hS hl => lv_icmp_le g.1 g.2.1 d ht (fun h2 => absurd h2 h) (fun _ => kk r hr H locs ls hP hS hl)
theorem K_if_eq_T (g : Gd p s m args meth c w nL cc own) {pc : Nat} {L : List (Nat × Value)} {st : List Value} {M : Mem} {o : Option ρ} {x : Int32} {off : Int} (tgt : Nat) (h : x = 0) (d : decode cc pc = .ok (.ifCond .eq off, 3)) (ht : (pc : Int) + off = (tgt : Int)) (kk : Go p l e R s m args below meth c w nL k n Qf o tgt L st M) : Go p l e R s m args below meth c w nL k n Qf o pc L (.int x :: st) M :=
  fun r hr H locs ls hP hS hl => lv_if_eq g.1 g.2.1 d ht (fun _ => kk r hr H locs ls hP hS hl) (fun h2 => absurd h h2)
theorem K_if_eq_F (g : Gd p s m args meth c w nL cc own) {pc : Nat} {L : List (Nat × Value)} {st : List Value} {M : Mem} {o : Option ρ} {x : Int32} {off : Int} (tgt : Nat) (h : ¬ x = 0) (d : decode cc pc = .ok (.ifCond .eq off, 3)) (ht : (pc : Int) + off = (tgt : Int)) (kk : Go p l e R s m args below meth c w nL k n Qf o (pc + 3) L st M) : Go p l e R s m args below meth c w nL k n Qf o pc L (.int x :: st) M :=
  fun r hr H locs ls hP hS hl => lv_if_eq g.1 g.2.1 d ht (fun h2 => absurd h2 h) (fun _ => kk r hr H locs ls hP hS hl)
theorem K_if_ne_T (g : Gd p s m args meth c w nL cc own) {pc : Nat} {L : List (Nat × Value)} {st : List Value} {M : Mem} {o : Option ρ} {x : Int32} {off : Int} (tgt : Nat) (h : ¬ x = 0) (d : decode cc pc = .ok (.ifCond .ne off, 3)) (ht : (pc : Int) + off = (tgt : Int)) (kk : Go p l e R s m args below meth c w nL k n Qf o tgt L st M) : Go p l e R s m args below meth c w nL k n Qf o pc L (.int x :: st) M :=
  fun r hr H locs ls hP hS hl => lv_if_ne g.1 g.2.1 d ht (fun _ => kk r hr H locs ls hP hS hl) (fun h2 => absurd h2 h)
theorem K_if_ne_F (g : Gd p s m args meth c w nL cc own) {pc : Nat} {L : List (Nat × Value)} {st : List Value} {M : Mem} {o : Option ρ} {x : Int32} {off : Int} (tgt : Nat) (h : x = 0) (d : decode cc pc = .ok (.ifCond .ne off, 3)) (ht : (pc : Int) + off = (tgt : Int)) (kk : Go p l e R s m args below meth c w nL k n Qf o (pc + 3) L st M) : Go p l e R s m args below meth c w nL k n Qf o pc L (.int x :: st) M :=
  fun r hr H locs ls hP hS hl => lv_if_ne g.1 g.2.1 d ht (fun h2 => absurd h h2) (fun _ => kk r hr H locs ls hP hS hl)
theorem K_if_lt_T (g : Gd p s m args meth c w nL cc own) {pc : Nat} {L : List (Nat × Value)} {st : List Value} {M : Mem} {o : Option ρ} {x : Int32} {off : Int} (tgt : Nat) (h : x < 0) (d : decode cc pc = .ok (.ifCond .lt off, 3)) (ht : (pc : Int) + off = (tgt : Int)) (kk : Go p l e R s m args below meth c w nL k n Qf o tgt L st M) : Go p l e R s m args below meth c w nL k n Qf o pc L (.int x :: st) M :=
  fun r hr H locs ls hP hS hl => lv_if_lt g.1 g.2.1 d ht (fun _ => kk r hr H locs ls hP hS hl) (fun h2 => absurd h h2)
theorem K_if_lt_F (g : Gd p s m args meth c w nL cc own) {pc : Nat} {L : List (Nat × Value)} {st : List Value} {M : Mem} {o : Option ρ} {x : Int32} {off : Int} (tgt : Nat) (h : ¬ x < 0) (d : decode cc pc = .ok (.ifCond .lt off, 3)) (ht : (pc : Int) + off = (tgt : Int)) (kk : Go p l e R s m args below meth c w nL k n Qf o (pc + 3) L st M) : Go p l e R s m args below meth c w nL k n Qf o pc L (.int x :: st) M :=
  fun r hr H locs ls hP hS hl => lv_if_lt g.1 g.2.1 d ht (fun h2 => absurd h2 h) (fun _ => kk r hr H locs ls hP hS hl)
theorem K_if_ge_T (g : Gd p s m args meth c w nL cc own) {pc : Nat} {L : List (Nat × Value)} {st : List Value} {M : Mem} {o : Option ρ} {x : Int32} {off : Int} (tgt : Nat) (h : 0 ≤ x) (d : decode cc pc = .ok (.ifCond .ge off, 3)) (ht : (pc : Int) + off = (tgt : Int)) (kk : Go p l e R s m args below meth c w nL k n Qf o tgt L st M) : Go p l e R s m args below meth c w nL k n Qf o pc L (.int x :: st) M :=
  fun r hr H locs ls hP hS hl => lv_if_ge g.1 g.2.1 d ht (fun _ => kk r hr H locs ls hP hS hl) (fun h2 => absurd h h2)
theorem K_if_ge_F (g : Gd p s m args meth c w nL cc own) {pc : Nat} {L : List (Nat × Value)} {st : List Value} {M : Mem} {o : Option ρ} {x : Int32} {off : Int} (tgt : Nat) (h : ¬ 0 ≤ x) (d : decode cc pc = .ok (.ifCond .ge off, 3)) (ht : (pc : Int) + off = (tgt : Int)) (kk : Go p l e R s m args below meth c w nL k n Qf o (pc + 3) L st M) : Go p l e R s m args below meth c w nL k n Qf o pc L (.int x :: st) M :=
  fun r hr H locs ls hP hS hl => lv_if_ge g.1 g.2.1 d ht (fun h2 => absurd h2 h) (fun _ => kk r hr H locs ls hP hS hl)
theorem K_if_gt_T (g : Gd p s m args meth c w nL cc own) {pc : Nat} {L : List (Nat × Value)} {st : List Value} {M : Mem} {o : Option ρ} {x : Int32} {off : Int} (tgt : Nat) (h : 0 < x) (d : decode cc pc = .ok (.ifCond .gt off, 3)) (ht : (pc : Int) + off = (tgt : Int)) (kk : Go p l e R s m args below meth c w nL k n Qf o tgt L st M) : Go p l e R s m args below meth c w nL k n Qf o pc L (.int x :: st) M :=
  fun r hr H locs ls hP hS hl => lv_if_gt g.1 g.2.1 d ht (fun _ => kk r hr H locs ls hP hS hl) (fun h2 => absurd h h2)
theorem K_if_gt_F (g : Gd p s m args meth c w nL cc own) {pc : Nat} {L : List (Nat × Value)} {st : List Value} {M : Mem} {o : Option ρ} {x : Int32} {off : Int} (tgt : Nat) (h : ¬ 0 < x) (d : decode cc pc = .ok (.ifCond .gt off, 3)) (ht : (pc : Int) + off = (tgt : Int)) (kk : Go p l e R s m args below meth c w nL k n Qf o (pc + 3) L st M) : Go p l e R s m args below meth c w nL k n Qf o pc L (.int x :: st) M :=
  fun r hr H locs ls hP hS hl => lv_if_gt g.1 g.2.1 d ht (fun h2 => absurd h2 h) (fun _ => kk r hr H locs ls hP hS hl)
theorem K_if_le_T (g : Gd p s m args meth c w nL cc own) {pc : Nat} {L : List (Nat × Value)} {st : List Value} {M : Mem} {o : Option ρ} {x : Int32} {off : Int} (tgt : Nat) (h : x ≤ 0) (d : decode cc pc = .ok (.ifCond .le off, 3)) (ht : (pc : Int) + off = (tgt : Int)) (kk : Go p l e R s m args below meth c w nL k n Qf o tgt L st M) : Go p l e R s m args below meth c w nL k n Qf o pc L (.int x :: st) M :=
  fun r hr H locs ls hP hS hl => lv_if_le g.1 g.2.1 d ht (fun _ => kk r hr H locs ls hP hS hl) (fun h2 => absurd h h2)
theorem K_if_le_F (g : Gd p s m args meth c w nL cc own) {pc : Nat} {L : List (Nat × Value)} {st : List Value} {M : Mem} {o : Option ρ} {x : Int32} {off : Int} (tgt : Nat) (h : ¬ x ≤ 0) (d : decode cc pc = .ok (.ifCond .le off, 3)) (ht : (pc : Int) + off = (tgt : Int)) (kk : Go p l e R s m args below meth c w nL k n Qf o (pc + 3) L st M) : Go p l e R s m args below meth c w nL k n Qf o pc L (.int x :: st) M :=
  fun r hr H locs ls hP hS hl => lv_if_le g.1 g.2.1 d ht (fun h2 => absurd h2 h) (fun _ => kk r hr H locs ls hP hS hl)
theorem G_dup_x1 (g : Gd p s m args meth c w nL cc own) {pc : Nat} {L : List (Nat × Value)} {st : List Value} {M : Mem} {o : Option ρ} {va vb : Value} (d : decode cc pc = .ok (.dup_x1, 1)) (hva : va.category = 1) (hvb : vb.category = 1) (kk : Go p l e R s m args below meth c w nL k n Qf o (pc + 1) L (va :: vb :: va :: st) M) : Go p l e R s m args below meth c w nL k n Qf o pc L (va :: vb :: st) M :=
  fun r hr H locs ls hP hS hl => lv_dup_x1 g.1 g.2.1 d hva hvb (kk r hr H locs ls hP hS hl)
end KB
section CB
variable {ρ : Type} {p : Program} {l : Launch} {e : Env} {R : Room} {s : State} {m : MethodId} {args : Array Value} {below : List Frame} {meth : Method} {c : Code} {w : Wc} {nL k n : Nat} {Qf : ρ → State → Prop} {cc : ByteArray} {own : String}
/-- bytes are copied -/
theorem G_copyB (g : Gd p s m args meth c w nL cc own) {pc : Nat} {L : List (Nat × Value)} {st : List Value} {M : Mem} {o : Option ρ} {idx q0 q1 n0 n1 : Nat} {sp dp z : Int32} (hm : Cond.methodLink own idx arraycopyName ∈ TT ∧ Cond.native arraycopyName ∈ TT ∧ Cond.static arraycopyName ∈ TT ∧ Cond.initialized "java/lang/System" ∈ TT) (hR : 1 ≤ R.frames ∧ (st.map fun v => v.category).sum + (nativeFrameWords "java/lang/System" "arraycopy" 5 + 11) ≤ R.locals) (hq0 : q0 ∈ wL w) (hk0 : (wZ w q0).1 = 21) (hn0 : (wZ w q0).2.1 = n0) (hq1 : q1 ∈ wL w) (hk1 : (wZ w q1).1 = 21) (hn1 : (wZ w q1).2.1 = n1) (h : cpB sp dp z n0 n1 = true) (hf : ∀ i, fits .byte (.int (M q0 i)) = true) (d : decode cc pc = .ok (.invokestatic idx, 3)) (kk : Go p l e R s m args below meth c w nL k n Qf o (pc + 3) L st (setR M q1 (va_cpy (M q0) (M q1) sp.toNatClampNeg dp.toNatClampNeg z.toNatClampNeg))) : Go p l e R s m args below meth c w nL k n Qf o pc L (.int z :: .int dp :: .ref (wad w q1) :: .int sp :: .ref (wad w q0) :: st) M := by
  intro r hr H locs ls hP hS hl
  obtain ⟨h1, h2, h3, h4, h5⟩ := cpB_of h
  obtain ⟨j0, -, hj0⟩ := wW_get (M := M) hq0
  obtain ⟨j1, hx1, hj1⟩ := wW_get (M := M) hq1
  rw [cellE_byt hk0, hn0] at hj0
  rw [cellE_byt hk1, hn1] at hj1
  refine va_copyi g.1 g.2.1 (g.2.2.1.trans hl.1.symm) g.2.2.2.1 (g.2.2.2.2.1 _ hm.1) (g.2.2.2.2.1 _ hm.2.1) (g.2.2.2.2.1 _ hm.2.2.1) (g.2.2.2.2.1 _ hm.2.2.2) g.2.2.2.2.2.1 hP (wD_of g.2.2.2.2.2.2.2.2.1 M) hS j0 j1 1 1 hj0 hj1 rfl rfl rfl h1 h2 h3 h4 h5 (fun _ _ => hf _) hR.1 hR.2 d (fun H1 locs1 hP1 _ hS1 => ?_)
  rw [wW_set g.2.2.2.2.2.2.2.2.1 hx1 (f := va_cpy (M q0) (M q1) sp.toNatClampNeg dp.toNatClampNeg z.toNatClampNeg) (by rw [cellE_byt hk1, setR_self, hn1])] at hP1
  exact kk r hr H1 locs1 ls hP1 hS1 hl
/-- a text's bytes are copied -/
theorem G_copyS (g : Gd p s m args meth c w nL cc own) {pc : Nat} {L : List (Nat × Value)} {st : List Value} {M : Mem} {o : Option ρ} {idx t0 n0 q1 n1 : Nat} {f : Nat → Int32} {sp dp z : Int32} (hm : Cond.methodLink own idx arraycopyName ∈ TT ∧ Cond.native arraycopyName ∈ TT ∧ Cond.static arraycopyName ∈ TT ∧ Cond.initialized "java/lang/System" ∈ TT) (hR : 1 ≤ R.frames ∧ (st.map fun v => v.category).sum + (nativeFrameWords "java/lang/System" "arraycopy" 5 + 11) ≤ R.locals) (hX : va_T .byte t0 n0 (fun j => .int (f j)) (wA w) s s.heap) (hq1 : q1 ∈ wL w) (hk1 : (wZ w q1).1 = 21) (hn1 : (wZ w q1).2.1 = n1) (h : cpB sp dp z n0 n1 = true) (hf : ∀ i, fits .byte (.int (f i)) = true) (d : decode cc pc = .ok (.invokestatic idx, 3)) (kk : Go p l e R s m args below meth c w nL k n Qf o (pc + 3) L st (setR M q1 (va_cpy f (M q1) sp.toNatClampNeg dp.toNatClampNeg z.toNatClampNeg))) : Go p l e R s m args below meth c w nL k n Qf o pc L (.int z :: .int dp :: .ref (wad w q1) :: .int sp :: .ref t0 :: st) M := by
  intro r hr H locs ls hP hS hl
  obtain ⟨h1, h2, h3, h4, h5⟩ := cpB_of h
  obtain ⟨j1, hx1, hj1⟩ := wW_get (M := M) hq1
  rw [cellE_byt hk1, hn1] at hj1
  refine vk_copyt g.1 g.2.1 (g.2.2.1.trans hl.1.symm) g.2.2.2.1 (g.2.2.2.2.1 _ hm.1) (g.2.2.2.2.1 _ hm.2.1) (g.2.2.2.2.1 _ hm.2.2.1) (g.2.2.2.2.1 _ hm.2.2.2) g.2.2.2.2.2.1 hP (wD_of g.2.2.2.2.2.2.2.2.1 M) hS hX j1 1 hj1 rfl h1 h2 h3 h4 h5 (fun _ _ => hf _) hR.1 hR.2 d (fun H1 locs1 hP1 _ hS1 => ?_)
  rw [wW_set g.2.2.2.2.2.2.2.2.1 hx1 (f := va_cpy f (M q1) sp.toNatClampNeg dp.toNatClampNeg z.toNatClampNeg) (by rw [cellE_byt hk1, setR_self, hn1])] at hP1
  exact kk r hr H1 locs1 ls hP1 hS1 hl
end CB
/-! a builder: its text is x -/
def gr (q m : Nat) : Nat := if q ≤ m then 0 else 1
def nc (q m : Nat) : Nat := if q ≤ m then m else m + max (q - m) (m + 2)
def nb (q m b j : Nat) : Nat := if q ≤ m then b else j
def gs (q m : Nat) : Nat := if q ≤ m then 0 else nc q m
def fB (f : Nat → Int32) : Prop := ∀ i, fits .byte (.int (f i)) = true
def SBS (z : Shp) (M : Mem) (j b m : Nat) (x : List Nat) : Prop := 146 < j ∧ j ≤ 800 ∧ 146 < b ∧ b < j ∧ (z 146).1 = 10 ∧ (z 146).2.2 0 = some b ∧ (z b).1 = 21 ∧ (z b).2.1 = m ∧ m ≤ 1000 ∧ M 146 1 = 0 ∧ M 146 3 = nI x.length ∧ x.length ≤ m ∧ (∀ i, i < x.length → M b i = nI (x.getD i 0)) ∧ fB (M b)
def SFr (z : Shp) (M : Mem) (z2 : Shp) (M2 : Mem) : Prop := ∀ p, p < 146 → z2 p = z p ∧ M2 p = M p
theorem SFr.rf {z : Shp} {M : Mem} : SFr z M z M := fun _ _ => ⟨rfl, rfl⟩
theorem SFr.trans {z z2 z3 : Shp} {M M2 M3 : Mem} (h : SFr z M z2 M2) (h2 : SFr z2 M2 z3 M3) : SFr z M z3 M3 := fun p hp => ⟨(h2 p hp).1.trans (h p hp).1, (h2 p hp).2.trans (h p hp).2⟩
theorem fB_0 : fB (fun _ => 0) := fun _ => rfl
theorem fB_cpy {f g : Nat → Int32} {a b c : Nat} (hf : fB f) (hg : fB g) : fB (va_cpy f g a b c) := fun i => by
  by_cases h : b ≤ i ∧ i < b + c
  · rw [pk_cpy_in h.1 h.2]; exact hf _
  · rw [pk_cpy_out (by omega)]; exact hg _
theorem fB_upd {f : Nat → Int32} {k : Nat} {v : Int32} (hf : fB f) (hv : fits .byte (.int v) = true) : fB (upd f k v) := fun i => by
  rw [upd_at]
  by_cases h : i = k
  · rw [if_pos h]; exact hv
  · rw [if_neg h]; exact hf i
theorem fits_nI : ∀ c, c < 128 → fits .byte (.int (nI c)) = true ∧ vp_nar .byte (nI c).toInt8.toInt32 = nI c ∧ (((nI c &&& 255).toUInt32 % 65536).toInt32 = nI c) ∧ narrow .char (.int (nI c)) = .int (nI c) ∧ vp_nar .byte (nI c) = nI c := by decide +kernel
theorem sh0 (x : Int32) : x >>> ((0 : Int32) &&& 31) = x := Int32.toInt_inj.mp (by rw [pk_shr _ _ 0 (by decide)]; simp)
theorem shl0 (x : Int32) : x <<< ((0 : Int32) &&& 31) = x := by
  have : (0 : Int32) &&& 31 = 0 := by decide
  rw [this]
  exact Int32.shiftLeft_zero
theorem sb_in {z : Shp} {M : Mem} {j b m : Nat} {x : List Nat} (h : SBS z M j b m x) (w : Wc) : 146 ∈ wL (wg w j z) ∧ b ∈ wL (wg w j z) := ⟨List.mem_range.mpr h.1, List.mem_range.mpr h.2.2.2.1⟩
theorem fw_10_0 : FW 10 0 (.array .byte) := ⟨"java/lang/StringBuilder", T10, 4, ty10, rfl, tyk10, nm10, rfl, by decide +kernel⟩
theorem fl_A_18 : Cond.fieldLink "java/lang/AbstractStringBuilder" 18 "java/lang/String" "COMPACT_STRINGS" "Z" ∈ TT := TT_in (i := 1201) (by decide +kernel) (by decide +kernel)
abbrev b_can : ByteArray := prog_24_method_3_code
abbrev y_can : MethodName := ⟨"java/lang/StringLatin1", "canEncode", "(C)Z"⟩
theorem d_can_0 : decode b_can 0 = .ok (.iload_n 0, 1) := by decide +kernel
theorem d_can_1 : decode b_can 1 = .ok (.sipush 255, 3) := by decide +kernel
theorem d_can_4 : decode b_can 4 = .ok (.if_icmp .gt 7, 3) := by decide +kernel
theorem d_can_7 : decode b_can 7 = .ok (.iconst 1, 1) := by decide +kernel
theorem d_can_8 : decode b_can 8 = .ok (.goto 4, 3) := by decide +kernel
theorem d_can_11 : decode b_can 11 = .ok (.iconst 0, 1) := by decide +kernel
theorem d_can_12 : decode b_can 12 = .ok (.ireturn, 1) := by decide +kernel
abbrev b_lat : ByteArray := prog_13_method_68_code
abbrev y_lat : MethodName := ⟨"java/lang/AbstractStringBuilder", "isLatin1", "()Z"⟩
theorem d_lat_0 : decode b_lat 0 = .ok (.getstatic 18, 3) := by decide +kernel
theorem d_lat_3 : decode b_lat 3 = .ok (.ifCond .eq 14, 3) := by decide +kernel
theorem d_lat_6 : decode b_lat 6 = .ok (.aload_n 0, 1) := by decide +kernel
theorem d_lat_7 : decode b_lat 7 = .ok (.getfield 22, 3) := by decide +kernel
theorem d_lat_10 : decode b_lat 10 = .ok (.ifCond .ne 7, 3) := by decide +kernel
theorem d_lat_13 : decode b_lat 13 = .ok (.iconst 1, 1) := by decide +kernel
theorem d_lat_14 : decode b_lat 14 = .ok (.goto 4, 3) := by decide +kernel
theorem d_lat_17 : decode b_lat 17 = .ok (.iconst 0, 1) := by decide +kernel
theorem d_lat_18 : decode b_lat 18 = .ok (.ireturn, 1) := by decide +kernel
abbrev b_nl : ByteArray := prog_29_method_27_code
abbrev y_nl : MethodName := ⟨"jdk/internal/util/ArraysSupport", "newLength", "(III)I"⟩
theorem d_nl_0 : decode b_nl 0 = .ok (.iload_n 0, 1) := by decide +kernel
theorem d_nl_1 : decode b_nl 1 = .ok (.iload_n 1, 1) := by decide +kernel
theorem d_nl_2 : decode b_nl 2 = .ok (.iload_n 2, 1) := by decide +kernel
theorem d_nl_3 : decode b_nl 3 = .ok (.invokestatic 194, 3) := by decide +kernel
theorem d_nl_6 : decode b_nl 6 = .ok (.iadd, 1) := by decide +kernel
theorem d_nl_7 : decode b_nl 7 = .ok (.istore_n 3, 1) := by decide +kernel
theorem d_nl_8 : decode b_nl 8 = .ok (.iconst 0, 1) := by decide +kernel
theorem d_nl_9 : decode b_nl 9 = .ok (.iload_n 3, 1) := by decide +kernel
theorem d_nl_10 : decode b_nl 10 = .ok (.if_icmp .ge 11, 3) := by decide +kernel
theorem d_nl_13 : decode b_nl 13 = .ok (.iload_n 3, 1) := by decide +kernel
theorem d_nl_14 : decode b_nl 14 = .ok (.ldc 200, 2) := by decide +kernel
theorem d_nl_16 : decode b_nl 16 = .ok (.if_icmp .gt 5, 3) := by decide +kernel
theorem d_nl_19 : decode b_nl 19 = .ok (.iload_n 3, 1) := by decide +kernel
theorem d_nl_20 : decode b_nl 20 = .ok (.ireturn, 1) := by decide +kernel
theorem d_nl_21 : decode b_nl 21 = .ok (.iload_n 0, 1) := by decide +kernel
theorem d_nl_22 : decode b_nl 22 = .ok (.iload_n 1, 1) := by decide +kernel
theorem d_nl_23 : decode b_nl 23 = .ok (.invokestatic 201, 3) := by decide +kernel
theorem d_nl_26 : decode b_nl 26 = .ok (.ireturn, 1) := by decide +kernel
abbrev b_ncap : ByteArray := prog_13_method_10_code
abbrev y_ncap : MethodName := ⟨"java/lang/AbstractStringBuilder", "newCapacity", "(I)I"⟩
theorem d_ncap_0 : decode b_ncap 0 = .ok (.aload_n 0, 1) := by decide +kernel
theorem d_ncap_1 : decode b_ncap 1 = .ok (.getfield 15, 3) := by decide +kernel
theorem d_ncap_4 : decode b_ncap 4 = .ok (.arraylength, 1) := by decide +kernel
theorem d_ncap_5 : decode b_ncap 5 = .ok (.istore_n 2, 1) := by decide +kernel
theorem d_ncap_6 : decode b_ncap 6 = .ok (.iload_n 1, 1) := by decide +kernel
theorem d_ncap_7 : decode b_ncap 7 = .ok (.aload_n 0, 1) := by decide +kernel
theorem d_ncap_8 : decode b_ncap 8 = .ok (.getfield 22, 3) := by decide +kernel
theorem d_ncap_11 : decode b_ncap 11 = .ok (.ishl, 1) := by decide +kernel
theorem d_ncap_12 : decode b_ncap 12 = .ok (.istore_n 3, 1) := by decide +kernel
theorem d_ncap_13 : decode b_ncap 13 = .ok (.iload_n 3, 1) := by decide +kernel
theorem d_ncap_14 : decode b_ncap 14 = .ok (.iload_n 2, 1) := by decide +kernel
theorem d_ncap_15 : decode b_ncap 15 = .ok (.isub, 1) := by decide +kernel
theorem d_ncap_16 : decode b_ncap 16 = .ok (.istore 4, 2) := by decide +kernel
theorem d_ncap_18 : decode b_ncap 18 = .ok (.iload_n 2, 1) := by decide +kernel
theorem d_ncap_19 : decode b_ncap 19 = .ok (.iload 4, 2) := by decide +kernel
theorem d_ncap_21 : decode b_ncap 21 = .ok (.iload_n 2, 1) := by decide +kernel
theorem d_ncap_22 : decode b_ncap 22 = .ok (.iconst 2, 1) := by decide +kernel
theorem d_ncap_23 : decode b_ncap 23 = .ok (.aload_n 0, 1) := by decide +kernel
theorem d_ncap_24 : decode b_ncap 24 = .ok (.getfield 22, 3) := by decide +kernel
theorem d_ncap_27 : decode b_ncap 27 = .ok (.ishl, 1) := by decide +kernel
theorem d_ncap_28 : decode b_ncap 28 = .ok (.iadd, 1) := by decide +kernel
theorem d_ncap_29 : decode b_ncap 29 = .ok (.invokestatic 114, 3) := by decide +kernel
theorem d_ncap_32 : decode b_ncap 32 = .ok (.istore 5, 2) := by decide +kernel
theorem d_ncap_34 : decode b_ncap 34 = .ok (.iload 5, 2) := by decide +kernel
theorem d_ncap_36 : decode b_ncap 36 = .ok (.ldc 39, 2) := by decide +kernel
theorem d_ncap_38 : decode b_ncap 38 = .ok (.if_icmp .ne 13, 3) := by decide +kernel
theorem d_ncap_41 : decode b_ncap 41 = .ok (.new 120, 3) := by decide +kernel
theorem d_ncap_44 : decode b_ncap 44 = .ok (.dup, 1) := by decide +kernel
theorem d_ncap_45 : decode b_ncap 45 = .ok (.ldc 122, 2) := by decide +kernel
theorem d_ncap_47 : decode b_ncap 47 = .ok (.invokespecial 124, 3) := by decide +kernel
theorem d_ncap_50 : decode b_ncap 50 = .ok (.athrow, 1) := by decide +kernel
theorem d_ncap_51 : decode b_ncap 51 = .ok (.iload 5, 2) := by decide +kernel
theorem d_ncap_53 : decode b_ncap 53 = .ok (.aload_n 0, 1) := by decide +kernel
theorem d_ncap_54 : decode b_ncap 54 = .ok (.getfield 22, 3) := by decide +kernel
theorem d_ncap_57 : decode b_ncap 57 = .ok (.ishr, 1) := by decide +kernel
theorem d_ncap_58 : decode b_ncap 58 = .ok (.ireturn, 1) := by decide +kernel
set_option maxHeartbeats 4000000 in
set_option maxRecDepth 100000 in
theorem c_can (l : Launch) {w : Wc} {j : Nat} {z : Shp} (v : Nat) (hv : v < 128) (M : Mem) : CtG l y_can b_can 1 (some .boolean) (rmC 0 0 0) w j z [.int (nI v)] M (QgI w j 1 (fun z2 M2 => z2 = z ∧ M2 = M)) := by
  refine CtG.go (by decide) (L := [(0, .int (nI v))]) rfl (Nat.le_of_ble_eq_true rfl) (fun p0 e s m args below meth c hnm hsz hao g hret => ?_)
  refine G_iload_n g (pc := 0) 0 d_can_0 rfl rfl ?_
  refine G_sipush g (pc := 1) (255 : Int32) d_can_1 rfl ?_
  refine K_icmp_gt_F g (pc := 4) 11 (Int32.not_lt.mpr (show nI v ≤ nI 255 from nI_le (by omega) (by decide))) d_can_4 (by decide) ?_
  refine G_iconst g (pc := 7) (1 : Int32) d_can_7 rfl ?_
  refine G_goto g (pc := 8) 12 d_can_8 (by decide) ?_
  exact G_gretN g (pc := 12) ⟨rfl, rfl⟩ hret rfl (Nat.le_of_ble_eq_true rfl) (Nat.le_of_ble_eq_true rfl) d_can_12
set_option maxHeartbeats 4000000 in
set_option maxRecDepth 100000 in
theorem c_lat (l : Launch) {w : Wc} {j b m : Nat} {z : Shp} {x : List Nat} (M : Mem) (h : SBS z M j b m x) : CtG l y_lat b_lat 1 (some .boolean) (rmC 0 0 0) w j z [.ref (wad w 146)] M (QgI w j 1 (fun z2 M2 => z2 = z ∧ M2 = M)) := by
  refine CtG.go (by decide) (L := [(0, .ref (wad w 146))]) rfl (Nat.le_of_ble_eq_true rfl) (fun p0 e s m args below meth c hnm hsz hao g hret => ?_)
  refine G_gets g (pc := 0) fl_A_18 g.2.2.2.2.2.2.2.1.2.2.2.2.2.1 d_lat_0 ?_
  refine K_if_eq_F g (pc := 3) (x := 1) 17 (by decide) d_lat_3 (by decide) ?_
  refine G_aload_n g (pc := 6) 0 d_lat_6 rfl rfl ?_
  refine G_get g (pc := 7) fa_A_22 (sb_in h w).1 h.2.2.2.2.1 d_lat_7 ?_
  refine Go.top h.2.2.2.2.2.2.2.2.2.1 ?_
  refine K_if_ne_F g (pc := 10) 17 (by decide) d_lat_10 (by decide) ?_
  refine G_iconst g (pc := 13) (1 : Int32) d_lat_13 rfl ?_
  refine G_goto g (pc := 14) 18 d_lat_14 (by decide) ?_
  exact G_gretN g (pc := 18) ⟨rfl, rfl⟩ hret rfl (Nat.le_of_ble_eq_true rfl) (Nat.le_of_ble_eq_true rfl) d_lat_18
theorem ma_AS_194 : Cond.methodLink "jdk/internal/util/ArraysSupport" 194 Lib.Math.max.name ∈ TT ∧ Cond.static Lib.Math.max.name ∈ TT ∧ Cond.initialized "java/lang/Math" ∈ TT ∧ Cond.code Lib.Math.max.name Lib.Math.max.code 2 (some .int) ∈ TT := ⟨TT_in (i := 1179) (by decide +kernel) (by decide +kernel), TT_in (i := 255) (by decide +kernel) (by decide +kernel), TT_in (i := 21) (by decide +kernel) (by decide +kernel), TT_in (i := 256) (by decide +kernel) (by decide +kernel)⟩
theorem pk_big {a : Nat} (h : a ≤ 100000) : nI a ≤ (2147483639 : Int32) ∧ ¬ nI a = (2147483647 : Int32) := by
  refine ⟨by show nI a ≤ nI 2147483639; exact nI_le (by omega) (by decide), fun e => ?_⟩
  have := (nI_eq (by omega) (by decide)).mp (show nI a = nI 2147483647 from e)
  omega
set_option maxHeartbeats 4000000 in
set_option maxRecDepth 100000 in
theorem c_nl (l : Launch) {w : Wc} {j : Nat} {z : Shp} (a b c2 : Nat) (h1 : a ≤ 20000) (h2 : b ≤ 20000) (h3 : c2 ≤ 20000) (h4 : 0 < b) (M : Mem) : CtG l y_nl b_nl 4 (some .int) (rmC 1 0 0) w j z [.int (nI a), .int (nI b), .int (nI c2)] M (QgI w j (nI (a + max b c2)) (fun z2 M2 => z2 = z ∧ M2 = M)) := by
  refine CtG.go (by decide) (L := [(0, .int (nI a)), (1, .int (nI b)), (2, .int (nI c2))]) rfl (Nat.le_of_ble_eq_true rfl) (fun p0 e s m args below meth c hnm hsz hao g hret => ?_)
  refine G_iload_n g (pc := 0) 0 d_nl_0 rfl rfl ?_
  refine G_iload_n g (pc := 1) 1 d_nl_1 rfl rfl ?_
  refine G_iload_n g (pc := 2) 2 d_nl_2 rfl rfl ?_
  refine G_mmax g (pc := 3) ma_AS_194 ⟨(Nat.le_of_ble_eq_true rfl), (Nat.le_of_ble_eq_true rfl), (Nat.le_of_ble_eq_true rfl), (Nat.le_of_ble_eq_true rfl)⟩ d_nl_3 ?_
  refine Go.top (y := nI (max b c2)) (imax_nI (by omega) (by omega)) ?_
  refine G_iadd g (pc := 6) d_nl_6 ?_
  refine Go.top (y := nI (a + max b c2)) (nI_add a _) ?_
  refine G_istore_n g (pc := 7) _ d_nl_7 rfl (Nat.le_of_ble_eq_true rfl) rfl ?_
  refine G_iconst g (pc := 8) (0 : Int32) d_nl_8 rfl ?_
  refine G_iload_n g (pc := 9) 0 d_nl_9 rfl rfl ?_
  refine K_icmp_ge_F g (pc := 10) 21 ((Int32.not_le.mpr (show nI 0 < nI (a + max b c2) from nI_lt (by omega) (by omega)))) d_nl_10 (by decide) ?_
  refine G_iload_n g (pc := 13) 0 d_nl_13 rfl rfl ?_
  refine G_ldcI g (pc := 14) (own := "jdk/internal/util/ArraysSupport") (v := (2147483639 : Int32)) (TT_in (i := 1180) (by decide +kernel) (by decide +kernel)) d_nl_14 ?_
  refine K_icmp_gt_F g (pc := 16) 21 ((Int32.not_lt.mpr (pk_big (by omega)).1)) d_nl_16 (by decide) ?_
  refine G_iload_n g (pc := 19) 0 d_nl_19 rfl rfl ?_
  exact G_gretI g (pc := 20) ⟨rfl, rfl⟩ hret (Nat.le_of_ble_eq_true rfl) (Nat.le_of_ble_eq_true rfl) d_nl_20
theorem cj_A_114 : CS "java/lang/AbstractStringBuilder" 114 y_nl b_nl 4 (some .int) 3 := ⟨TT_in (i := 1176) (by decide +kernel) (by decide +kernel), TT_in (i := 1177) (by decide +kernel) (by decide +kernel), TT_in (i := 34) (by decide +kernel) (by decide +kernel), TT_in (i := 1178) (by decide +kernel) (by decide +kernel), ⟨by decide +kernel, by decide +kernel, by decide +kernel⟩⟩
set_option maxHeartbeats 4000000 in
set_option maxRecDepth 100000 in
theorem c_ncap (l : Launch) {w : Wc} (had : Ad w) {j b m q : Nat} {z : Shp} {x : List Nat} (M : Mem) (h : SBS z M j b m x) (hq : m < q) (hq2 : q ≤ 2000) : CtG l y_ncap b_ncap 6 (some .int) (rmC 2 0 0) w j z [.ref (wad w 146), .int (nI q)] M (QgI w j (nI (nc q m)) (fun z2 M2 => z2 = z ∧ M2 = M)) := by
  obtain ⟨h1, h2, h3, h4, h5, h6, h7, h8, h9, h10, h11, h12, h13, h14⟩ := h
  have e1 : nI q - nI m = nI (q - m) := pk_sub (by omega)
  have e2 : nI m + (2 : Int32) = nI (m + 2) := nI_add m 2
  have e3 : nc q m = m + max (q - m) (m + 2) := by unfold nc; rw [if_neg (by omega)]
  rw [e3]
  refine CtG.go (by decide) (L := [(0, .ref (wad w 146)), (1, .int (nI q))]) rfl (Nat.le_of_ble_eq_true rfl) (fun p0 e s m2 args below meth c hnm hsz hao g hret => ?_)
  refine G_aload_n g (pc := 0) 0 d_ncap_0 rfl rfl ?_
  refine G_getR g (pc := 1) fa_A_15 (List.mem_range.mpr h1) h5 h6 d_ncap_1 ?_
  refine G_alenB g (pc := 4) (nI m) (List.mem_range.mpr h4) h7 (by show nI (z b).2.1 = _; rw [h8]) d_ncap_4 ?_
  refine G_istore_n g (pc := 5) _ d_ncap_5 rfl (Nat.le_of_ble_eq_true rfl) rfl ?_
  refine G_iload_n g (pc := 6) 2 d_ncap_6 rfl rfl ?_
  refine G_aload_n g (pc := 7) 1 d_ncap_7 rfl rfl ?_
  refine G_get g (pc := 8) fa_A_22 (List.mem_range.mpr h1) h5 d_ncap_8 ?_
  refine Go.top (y := (0 : Int32)) h10 ?_
  refine G_ishl g (pc := 11) d_ncap_11 ?_
  refine Go.top (y := nI q) (shl0 _) ?_
  refine G_istore_n g (pc := 12) _ d_ncap_12 rfl (Nat.le_of_ble_eq_true rfl) rfl ?_
  refine G_iload_n g (pc := 13) 0 d_ncap_13 rfl rfl ?_
  refine G_iload_n g (pc := 14) 1 d_ncap_14 rfl rfl ?_
  refine G_isub g (pc := 15) d_ncap_15 ?_
  refine Go.top (y := nI (q - m)) e1 ?_
  refine G_istore g (pc := 16) _ d_ncap_16 (Nat.le_of_ble_eq_true rfl) rfl ?_
  refine G_iload_n g (pc := 18) 2 d_ncap_18 rfl rfl ?_
  refine G_iload g (pc := 19) 0 d_ncap_19 rfl ?_
  refine G_iload_n g (pc := 21) 2 d_ncap_21 rfl rfl ?_
  refine G_iconst g (pc := 22) (2 : Int32) d_ncap_22 rfl ?_
  refine G_aload_n g (pc := 23) 3 d_ncap_23 rfl rfl ?_
  refine G_get g (pc := 24) fa_A_22 (List.mem_range.mpr h1) h5 d_ncap_24 ?_
  refine Go.top (y := (0 : Int32)) h10 ?_
  refine G_ishl g (pc := 27) d_ncap_27 ?_
  refine Go.top (y := (2 : Int32)) (shl0 _) ?_
  refine G_iadd g (pc := 28) d_ncap_28 ?_
  refine Go.top (y := nI (m + 2)) e2 ?_
  refine G_gI0 (RG_S g (pc := 29) (As := [.int (nI m), .int (nI (q - m)), .int (nI (m + 2))]) (st := []) had hao (by omega) (by omega) hsz cj_A_114 (c_nl l m (q - m) (m + 2) (by omega) (by omega) (by omega) (by omega) M) rfl ⟨(Nat.le_of_ble_eq_true rfl), (Nat.le_of_ble_eq_true rfl)⟩ ⟨(Nat.le_of_ble_eq_true rfl), (Nat.le_of_ble_eq_true rfl)⟩ (Nat.le_of_ble_eq_true rfl) d_ncap_29) (fun z2 M2 hh => ?_)
  obtain ⟨rfl, rfl⟩ := hh
  refine G_istore g (pc := 32) _ d_ncap_32 (Nat.le_of_ble_eq_true rfl) rfl ?_
  refine G_iload g (pc := 34) 0 d_ncap_34 rfl ?_
  refine G_ldcI g (pc := 36) (own := "java/lang/AbstractStringBuilder") (v := (2147483647 : Int32)) (TT_in (i := 1142) (by decide +kernel) (by decide +kernel)) d_ncap_36 ?_
  refine K_icmp_ne_T g (pc := 38) 51 ((pk_big (by omega)).2) d_ncap_38 (by decide) ?_
  refine G_iload g (pc := 51) 0 d_ncap_51 rfl ?_
  refine G_aload_n g (pc := 53) 4 d_ncap_53 rfl rfl ?_
  refine G_get g (pc := 54) fa_A_22 (List.mem_range.mpr h1) h5 d_ncap_54 ?_
  refine Go.top (y := (0 : Int32)) h10 ?_
  refine G_ishr g (pc := 57) d_ncap_57 ?_
  refine Go.top (y := nI (m + max (q - m) (m + 2))) (sh0 _) ?_
  exact G_gretI g (pc := 58) ⟨rfl, rfl⟩ hret (Nat.le_of_ble_eq_true rfl) (Nat.le_of_ble_eq_true rfl) d_ncap_58
