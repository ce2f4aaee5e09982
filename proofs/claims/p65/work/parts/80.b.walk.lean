/-! walks: weaker, wider -/
section LX0
variable {ρ α : Type} {p : Program} {l : Launch} {e : Env} {R : Room} {s : State} {m : MethodId} {args : Array Value} {below : List Frame} {meth : Method} {c : Code} {w : Wc} {nL k n : Nat} {Qf : ρ → State → Prop} {cc : ByteArray} {own : String}
theorem Go.mono {pc : Nat} {L : List (Nat × Value)} {st : List Value} {M : Mem} {o o2 : Option ρ} (h : ∀ r, o = some r → o2 = some r) (kk : Go p l e R s m args below meth c w nL k n Qf o2 pc L st M) : Go p l e R s m args below meth c w nL k n Qf o pc L st M := fun r hr => kk r (h r hr)
theorem Go.widen {k2 n2 pc : Nat} {L : List (Nat × Value)} {st : List Value} {M : Mem} {o : Option ρ} (h1 : k ≤ k2) (h2 : n ≤ n2) (kk : Go p l e R s m args below meth c w nL k2 n2 Qf o pc L st M) : Go p l e R s m args below meth c w nL k n Qf o pc L st M := fun r hr H locs ls hP hS hl => W.widen h1 h2 (kk r hr H locs ls hP hS hl)
theorem Go.no {pc : Nat} {L : List (Nat × Value)} {st : List Value} {M : Mem} {o : Option ρ} (h : False) : Go p l e R s m args below meth c w nL k n Qf o pc L st M := h.elim
end LX0
