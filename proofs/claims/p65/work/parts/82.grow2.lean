/-! rows that make arrays; final fields; constructors' calls -/
section GX
variable {ρ : Type} {p : Program} {l : Launch} {e : Env} {R : Room} {s : State} {m : MethodId} {args : Array Value} {below : List Frame} {meth : Method} {c : Code} {w : Wc} {nL k n j : Nat} {z : Shp} {Qf : ρ → State → Prop} {cc : ByteArray} {own : String}
theorem cA_of {cA cB : ClassId} {t0 : Nat} {ty : FieldType} {tys : List (ClassId × FieldType)} {D : va_G} {cl : List vw_C} (hK : va_K D cl (tys ++ [(cA, ty)]) s) (ht : tys[t0]? = some (cB, ty)) : cA = cB := by
  have hlt : t0 < tys.length := (List.getElem?_eq_some_iff.mp ht).1
  have h1 := (hK.2 t0 _ (by rw [List.getElem?_append_left hlt]; exact ht)).2
  have h2 := (hK.2 tys.length (cA, ty) (by rw [List.getElem?_append_right (Nat.le_refl _), Nat.sub_self]; rfl)).2
  unfold va_RA at h1 h2
  cases ty with
  | object C =>
    obtain ⟨_, _, -, -, -, h1⟩ := h1
    obtain ⟨_, _, -, -, -, h2⟩ := h2
    exact Option.some.inj (h2.symm.trans h1)
  | array t => exact Option.some.inj (h2.symm.trans h1)
  | byte => exact Option.some.inj (h2.symm.trans h1)
  | char => exact Option.some.inj (h2.symm.trans h1)
  | double => exact Option.some.inj (h2.symm.trans h1)
  | float => exact Option.some.inj (h2.symm.trans h1)
  | int => exact Option.some.inj (h2.symm.trans h1)
  | long => exact Option.some.inj (h2.symm.trans h1)
  | short => exact Option.some.inj (h2.symm.trans h1)
  | boolean => exact Option.some.inj (h2.symm.trans h1)
theorem G_newI (g : Gd p s m args meth c (wg w j z) nL cc own) {pc N : Nat} {L : List (Nat × Value)} {st : List Value} {M : Mem} {o : Option ρ} (had : Ad w) (hj : j < 900) (hsz : s.heap.size + k = wlo w + j) (harr : Cond.arrayClass .int ∈ TT) (hN : N ≤ 10000) (hC : k + 1 ≤ R.cells ∧ n + N ≤ R.slots) (d : decode cc pc = .ok (.newarray .int, 2)) (kk : Go p l e R s m args below meth c (wg w (j + 1) (zfr z j 20 N)) nL (k + 1) (n + N) Qf o (pc + 2) L (.ref (wad w j) :: st) (setR M j (fun _ => 0))) : Go p l e R s m args below meth c (wg w j z) nL k n Qf o pc L (.int (nI N) :: st) M := by
  intro r hr H locs ls hP hS hl
  refine va_newa (a0 := (N, .inl (fun _ => 0))) (atype := .int) (ty := .int) g.1 g.2.1 (g.2.2.2.2.1 _ harr) rfl g.2.2.2.2.2.1 hP (wD_of g.2.2.2.2.2.2.2.2.1 M) hS (fun q hq => Nat.le_trans g.2.2.2.2.2.2.2.2.2 hq) (fun _ => rfl) (nI_pos (by omega)) (nI_clamp (by omega)) (by show N * 4 ≤ 536870912; omega) hC.1 hC.2 d (fun q cA H1 hK1 hP1 hD1 hS1 => ?_)
  have hcA : cA = wca w 0 := cA_of (t0 := 0) hK1 rfl
  subst hcA
  intro T2 hT X
  have hb := stand_le X
  rw [hT] at hb
  obtain rfl := grow_at had hj hP1 hD1 (by omega)
  rw [wW_grow (ci := 20) (n := N) (by
    rw [cellE_arr (w := wg w (j + 1) (zfr z j 20 N)) (by show (zfr z j 20 N j).1 = 20; unfold zfr; rw [if_pos rfl]), setR_self]
    show _ = Sum.inl (wca w 0, (zfr z j 20 N j).2.1, _)
    unfold zfr
    rw [if_pos rfl])] at hP1
  exact kk r hr H1 locs ls hP1 hS1 hl T2 hT X
theorem G_newB (g : Gd p s m args meth c (wg w j z) nL cc own) {pc N : Nat} {L : List (Nat × Value)} {st : List Value} {M : Mem} {o : Option ρ} (had : Ad w) (hj : j < 900) (hsz : s.heap.size + k = wlo w + j) (harr : Cond.arrayClass .byte ∈ TT) (hN : N ≤ 10000) (hC : k + 1 ≤ R.cells ∧ n + N ≤ R.slots) (d : decode cc pc = .ok (.newarray .byte, 2)) (kk : Go p l e R s m args below meth c (wg w (j + 1) (zfr z j 21 N)) nL (k + 1) (n + N) Qf o (pc + 2) L (.ref (wad w j) :: st) (setR M j (fun _ => 0))) : Go p l e R s m args below meth c (wg w j z) nL k n Qf o pc L (.int (nI N) :: st) M := by
  intro r hr H locs ls hP hS hl
  refine va_newa (a0 := (N, .inl (fun _ => 0))) (atype := .byte) (ty := .byte) g.1 g.2.1 (g.2.2.2.2.1 _ harr) rfl g.2.2.2.2.2.1 hP (wD_of g.2.2.2.2.2.2.2.2.1 M) hS (fun q hq => Nat.le_trans g.2.2.2.2.2.2.2.2.2 hq) (fun _ => rfl) (nI_pos (by omega)) (nI_clamp (by omega)) (by show N * 1 ≤ 536870912; omega) hC.1 hC.2 d (fun q cA H1 hK1 hP1 hD1 hS1 => ?_)
  have hcA : cA = wca w 1 := cA_of (t0 := 1) hK1 rfl
  subst hcA
  intro T2 hT X
  have hb := stand_le X
  rw [hT] at hb
  obtain rfl := grow_at had hj hP1 hD1 (by omega)
  rw [wW_grow (ci := 21) (n := N) (by
    rw [cellE_byt (w := wg w (j + 1) (zfr z j 21 N)) (by show (zfr z j 21 N j).1 = 21; unfold zfr; rw [if_pos rfl]), setR_self]
    show _ = Sum.inl (wca w 1, (zfr z j 21 N j).2.1, _)
    unfold zfr
    rw [if_pos rfl])] at hP1
  exact kk r hr H1 locs ls hP1 hS1 hl T2 hT X
end GX
