/-! rows that the law needs besides -/
section WIDE
variable {ρ : Type} {p : Program} {l : Launch} {e : Env} {R : Room} {s : State} {m : MethodId} {args : Array Value} {below : List Frame} {meth : Method} {c : Code} {w : Wc} {nL k n : Nat} {Qf : ρ → State → Prop} {cc : ByteArray} {own : String}
theorem G_ior (g : Gd p s m args meth c w nL cc own) {pc : Nat} {L : List (Nat × Value)} {st : List Value} {M : Mem} {o : Option ρ} {x y : Int32} (d : decode cc pc = .ok (.ior, 1)) (kk : Go p l e R s m args below meth c w nL k n Qf o (pc + 1) L (.int (x ||| y) :: st) M) : Go p l e R s m args below meth c w nL k n Qf o pc L (.int y :: .int x :: st) M :=
  fun r hr H locs ls hP hS hl => lv_ior g.1 g.2.1 d (kk r hr H locs ls hP hS hl)
theorem G_ishl (g : Gd p s m args meth c w nL cc own) {pc : Nat} {L : List (Nat × Value)} {st : List Value} {M : Mem} {o : Option ρ} {x y : Int32} (d : decode cc pc = .ok (.ishl, 1)) (kk : Go p l e R s m args below meth c w nL k n Qf o (pc + 1) L (.int (x <<< (y &&& 31)) :: st) M) : Go p l e R s m args below meth c w nL k n Qf o pc L (.int y :: .int x :: st) M :=
  fun r hr H locs ls hP hS hl => lv_ishl g.1 g.2.1 d (kk r hr H locs ls hP hS hl)
theorem G_dcmp (g : Gd p s m args meth c w nL cc own) {pc : Nat} {L : List (Nat × Value)} {st : List Value} {M : Mem} {o : Option ρ} {op : CmpOp} {x y : UInt64} (d : decode cc pc = .ok (.dcmp op, 1)) (kk : Go p l e R s m args below meth c w nL k n Qf o (pc + 1) L (.int (Op.cmpValue (FP.dcmp x y) op) :: st) M) : Go p l e R s m args below meth c w nL k n Qf o pc L (.double y :: .double x :: st) M :=
  fun r hr H locs ls hP hS hl => lv_dcmp g.1 g.2.1 d (kk r hr H locs ls hP hS hl)
theorem G_fcmp (g : Gd p s m args meth c w nL cc own) {pc : Nat} {L : List (Nat × Value)} {st : List Value} {M : Mem} {o : Option ρ} {op : CmpOp} {x y : UInt32} (d : decode cc pc = .ok (.fcmp op, 1)) (kk : Go p l e R s m args below meth c w nL k n Qf o (pc + 1) L (.int (Op.cmpValue (FP.fcmp x y) op) :: st) M) : Go p l e R s m args below meth c w nL k n Qf o pc L (.float y :: .float x :: st) M :=
  fun r hr H locs ls hP hS hl => lv_fcmp g.1 g.2.1 d (kk r hr H locs ls hP hS hl)
theorem G_ldcD (g : Gd p s m args meth c w nL cc own) {pc : Nat} {L : List (Nat × Value)} {st : List Value} {M : Mem} {o : Option ρ} {idx : Nat} {v : UInt64} (hs : Cond.constantDouble own idx v ∈ TT) (d : decode cc pc = .ok (.ldc2_w idx, 3)) (kk : Go p l e R s m args below meth c w nL k n Qf o (pc + 3) L (.double v :: st) M) : Go p l e R s m args below meth c w nL k n Qf o pc L st M :=
  fun r hr H locs ls hP hS hl => lv_ldc2d g.1 g.2.1 g.2.2.2.1 (g.2.2.2.2.1 _ hs) d (kk r hr H locs ls hP hS hl)
end WIDE
