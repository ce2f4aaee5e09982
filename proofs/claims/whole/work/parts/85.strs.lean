/-! texts into an array; a nest mate's static -/
section GS
variable {ρ : Type} {p : Program} {l : Launch} {e : Env} {R : Room} {s : State} {m : MethodId} {args : Array Value} {below : List Frame} {meth : Method} {c : Code} {w : Wc} {nL k n j : Nat} {z : Shp} {Qf : ρ → State → Prop} {cc : ByteArray} {own : String}
theorem G_aastT (g : Gd p s m args meth c w nL cc own) {pc a t i N : Nat} {L : List (Nat × Value)} {st : List Value} {M : Mem} {o : Option ρ} (ha : a ∈ wL w) (hka : (wZ w a).1 = 25) (hna : (wZ w a).2.1 = N) (ht : t < 20) (hi : i < N) (hN : N ≤ 10000) (d : decode cc pc = .ok (.aastore, 1)) (kk : Go p l e R s m args below meth c (wsh w (zset (wZ w) a i (1000 + t))) nL k n Qf o (pc + 1) L st M) : Go p l e R s m args below meth c w nL k n Qf o pc L (.ref (wad w (1000 + t)) :: .int (nI i) :: .ref (wad w a) :: st) M := by
  intro r hr H locs ls hP hS hl
  obtain ⟨ja, ha0, hja⟩ := wW_get (M := M) ha
  rw [cellE_str hka, hna] at hja
  have hrc : ∃ cell : Cell, H[wad w (1000 + t)]? = some cell ∧ cell.vm.isStatics = false ∧ s.vm.findClass "java/lang/String" = some cell.cls := by
    obtain ⟨cell, h1, h2, h3, -⟩ := (g.2.2.2.2.2.2.2.1.1 t ht).1.kept hS.2.1
    exact ⟨cell, h1, h2, h3⟩
  refine vb_astq (E := "java/lang/String") (C := "java/lang/String") g.1 g.2.1 g.2.2.2.2.2.1 hP (wD_of g.2.2.2.2.2.2.2.2.1 M) hS ja 5 hja rfl hrc (fun comp c0 h1 h2 => by
    cases Option.some.inj (h1.symm.trans h2)
    exact Jvm.Free.SB.assignable_self _ _) (inB_of (inB_nI hi (by omega))) d (fun H1 locs1 hP1 _ hS1 => ?_)
  have hz : wZ (wsh w (zset (wZ w) a i (1000 + t))) a = ((wZ w a).1, (wZ w a).2.1, fun k' => if k' = i then some (1000 + t) else (wZ w a).2.2 k') := if_pos rfl
  rw [wW_set2 (w2 := wsh w (zset (wZ w) a i (1000 + t))) g.2.2.2.2.2.2.2.2.1 rfl rfl ha0 (by
    rw [cellE_str (w := wsh w (zset (wZ w) a i (1000 + t))) (by rw [hz]; exact hka), hz, nI_clamp (by omega)]
    dsimp only
    rw [hna]
    have : va_up (fun j => ((wZ w a).2.2 j).map (wad w)) i (some (wad w (1000 + t))) = fun j => (if j = i then some (1000 + t) else (wZ w a).2.2 j).map (wad (wsh w (zset (wZ w) a i (1000 + t)))) := by
      funext x
      unfold va_up
      by_cases e : x = i
      · rw [if_pos e, if_pos e]; rfl
      · rw [if_neg e, if_neg e]; rfl
    rw [this]
    rfl) (fun q' hne => cellE_sh (if_neg hne))] at hP1
  exact kk r hr H1 locs1 ls hP1 hS1 hl
theorem G_getsN (g : Gd p s m args meth c w nL cc own) {pc idx : Nat} {L : List (Nat × Value)} {st : List Value} {M : Mem} {o : Option ρ} {C2 n2 d2 host : String} {v : Value} (hl0 : Cond.fieldLinkNest own idx C2 n2 d2 host ∈ NW) (hZ : va_Z C2 n2 d2 v (wA w) s s.heap) (d : decode cc pc = .ok (.getstatic idx, 3)) (kk : Go p l e R s m args below meth c w nL k n Qf o (pc + 3) L (v :: st) M) : Go p l e R s m args below meth c w nL k n Qf o pc L st M := fun r hr H locs ls hP hS hl => va_getsN g.1 g.2.1 hZ hS g.2.2.2.1 (va_Nw.use rfl (g.2.2.2.2.2.2.2.1.2.2.1 _ hl0)) (fun _ h9 => h9) d (kk r hr H locs ls hP hS hl)
end GS
