/-! constants by a wide index -/
section WIDE
variable {ρ : Type} {p : Program} {l : Launch} {e : Env} {R : Room} {s : State} {m : MethodId} {args : Array Value} {below : List Frame} {meth : Method} {c : Code} {w : Wc} {nL k n : Nat} {Qf : ρ → State → Prop} {cc : ByteArray} {own : String}
theorem G_ldcIW (g : Gd p s m args meth c w nL cc own) {pc : Nat} {L : List (Nat × Value)} {st : List Value} {M : Mem} {o : Option ρ} {idx : Nat} {v : Int32} (hs : Cond.constant own idx v ∈ TT) (d : decode cc pc = .ok (.ldc_w idx, 3)) (kk : Go p l e R s m args below meth c w nL k n Qf o (pc + 3) L (.int v :: st) M) : Go p l e R s m args below meth c w nL k n Qf o pc L st M :=
  fun r hr H locs ls hP hS hl => lv_ldcw g.1 g.2.1 g.2.2.2.1 (g.2.2.2.2.1 _ hs) d (kk r hr H locs ls hP hS hl)
theorem G_ldcSW (g : Gd p s m args meth c w nL cc own) {pc : Nat} {L : List (Nat × Value)} {st : List Value} {M : Mem} {o : Option ρ} {idx : Nat} (i : Nat) (hs : (own, idx, i) ∈ strS) (d : decode cc pc = .ok (.ldc_w idx, 3)) (kk : Go p l e R s m args below meth c w nL k n Qf o (pc + 3) L (.ref (wad w (1000 + i)) :: st) M) : Go p l e R s m args below meth c w nL k n Qf o pc L st M := by
  intro r hr H locs ls hP hS hl T hT X
  obtain ⟨t, a1, b1⟩ := kk r hr H locs ls hP hS hl T hT X
  have hZ := g.2.2.2.2.2.2.2.1.2.1 _ hs
  exact ⟨t, X.ldcStringW g.1 g.2.2.2.1 (text := strT.getD i "") (a := wad w (1000 + i)) hZ.1 hZ.2 (g := F0 m pc ls st) rfl (by rw [g.2.1]; exact d) t a1, b1⟩
end WIDE
