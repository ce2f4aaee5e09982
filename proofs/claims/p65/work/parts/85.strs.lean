/-! texts into an array; a nest mate's static -/
section GS
variable {ρ : Type} {p : Program} {l : Launch} {e : Env} {R : Room} {s : State} {m : MethodId} {args : Array Value} {below : List Frame} {meth : Method} {c : Code} {w : Wc} {nL k n j : Nat} {z : Shp} {Qf : ρ → State → Prop} {cc : ByteArray} {own : String}
theorem G_getsN (g : Gd p s m args meth c w nL cc own) {pc idx : Nat} {L : List (Nat × Value)} {st : List Value} {M : Mem} {o : Option ρ} {C2 n2 d2 host : String} {v : Value} (hl0 : Cond.fieldLinkNest own idx C2 n2 d2 host ∈ NW) (hZ : va_Z C2 n2 d2 v (wA w) s s.heap) (d : decode cc pc = .ok (.getstatic idx, 3)) (kk : Go p l e R s m args below meth c w nL k n Qf o (pc + 3) L (v :: st) M) : Go p l e R s m args below meth c w nL k n Qf o pc L st M := fun r hr H locs ls hP hS hl => va_getsN g.1 g.2.1 hZ hS g.2.2.2.1 (va_Nw.use rfl (g.2.2.2.2.2.2.2.1.2.2.1 _ hl0)) (fun _ h9 => h9) d (kk r hr H locs ls hP hS hl)
end GS
