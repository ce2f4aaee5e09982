/-! a reference is put: the shape changes; the reference's loadStation -/
/-- the same places in another shape -/
def wsh (w : Wc) (z : Shp) : Wc := (w.1, w.2.1, w.2.2.1, w.2.2.2.1, z, w.2.2.2.2.2)
theorem wsh_id (w : Wc) {z : Shp} (h : wZ w = z) : wsh w z = w := by
  subst h
  rfl
def zset (z : Shp) (p k q : Nat) : Shp := fun p' => if p' = p then ((z p).1, (z p).2.1, fun k' => if k' = k then some q else (z p).2.2 k') else z p'
theorem flds_putR {w : Wc} {z2 : Shp} {ci k q : Nat} {z : Nat → Option Nat} {m : Nat → Int32} (hk : k < (ftag ci).length) (ht : (ftag ci).getD k 0 = 1) : (flds w ci z m).set k (.ref (wad w q)) = flds (wsh w z2) ci (fun k' => if k' = k then some q else z k') m := by
  apply List.ext_getElem?
  intro j
  by_cases hj : j = k
  · subst hj
    rw [List.getElem?_set_self (by rw [flds_len]; exact hk), flds_ref (w := wsh w z2) (q := q) hk ht (if_pos rfl)]
    rfl
  · rw [List.getElem?_set_ne (Ne.symm hj)]
    by_cases hl : j < (ftag ci).length
    · rw [flds_get hl, flds_get hl]
      unfold fval
      dsimp only
      rw [if_neg hj]
      rfl
    · rw [List.getElem?_eq_none (by rw [flds_len]; omega), List.getElem?_eq_none (by rw [flds_len]; omega)]
theorem cellE_sh {w : Wc} {z : Shp} {M : Mem} {p : Nat} (h : z p = wZ w p) : cellE (wsh w z) M p = cellE w M p := by
  unfold cellE
  rw [show wZ (wsh w z) p = wZ w p from h]
  rfl
theorem wW_sh {w : Wc} {M : Mem} (hw : Wok w) {p k j q : Nat} (hj : (wL w)[j]? = some p) (hk : k < (ftag (wZ w p).1).length) (ht : (ftag (wZ w p).1).getD k 0 = 1) (hc : (wZ w p).1 < 20) : (wW w M).set j (wad w p, .inr ((wZ w p).1, (flds w (wZ w p).1 (wZ w p).2.2 (M p)).set k (.ref (wad w q)))) = wW (wsh w (zset (wZ w) p k q)) M := by
  apply List.ext_getElem?
  intro i
  have hjl : j < (wL w).length := (List.getElem?_eq_some_iff.mp hj).1
  by_cases hi : i = j
  · subst hi
    rw [List.getElem?_set_self (by unfold wW; rw [List.length_map]; exact hjl)]
    unfold wW
    rw [List.getElem?_map, show wL (wsh w (zset (wZ w) p k q)) = wL w from rfl, hj, Option.map_some]
    have e : wZ (wsh w (zset (wZ w) p k q)) p = ((wZ w p).1, (wZ w p).2.1, fun k' => if k' = k then some q else (wZ w p).2.2 k') := if_pos rfl
    rw [cellE_obj (w := wsh w (zset (wZ w) p k q)) (ci := (wZ w p).1) (by rw [e]) hc, e, flds_putR (z2 := zset (wZ w) p k q) hk ht]
    rfl
  · rw [List.getElem?_set_ne (Ne.symm hi)]
    unfold wW
    rw [List.getElem?_map, List.getElem?_map, show wL (wsh w (zset (wZ w) p k q)) = wL w from rfl]
    cases hq : (wL w)[i]? with
    | none => rfl
    | some q' =>
      have hne : q' ≠ p := by
        intro e
        subst e
        have hil : i < (wL w).length := (List.getElem?_eq_some_iff.mp hq).1
        exact hi ((List.getElem?_inj hil hw.1).mp (hq.trans hj.symm))
      rw [Option.map_some, Option.map_some, cellE_sh (w := w) (if_neg hne)]
      rfl
section GR
variable {ρ : Type} {p : Program} {l : Launch} {e : Env} {R : Room} {s : State} {m : MethodId} {args : Array Value} {below : List Frame} {meth : Method} {c : Code} {w : Wc} {nL k n : Nat} {Qf : ρ → State → Prop} {cc : ByteArray} {own : String}
theorem Gd.sh (g : Gd p s m args meth c w nL cc own) (z : Shp) : Gd p s m args meth c (wsh w z) nL cc own := g
theorem G_putRef (g : Gd p s m args meth c w nL cc own) {pc : Nat} {L : List (Nat × Value)} {st : List Value} {M : Mem} {o : Option ρ} {idx ci fk q q2 : Nat} {ty : FieldType} (fa : FA own idx ci fk 1) (fw : FW ci fk ty) (hn : narrow ty (.ref (wad w q2)) = .ref (wad w q2)) (hf : fits ty (.ref (wad w q2)) = true) (hq : q ∈ wL w) (hk : (wZ w q).1 = ci) (d : decode cc pc = .ok (.putfield idx, 3)) (kk : Go p l e R s m args below meth c (wsh w (zset (wZ w) q fk q2)) nL k n Qf o (pc + 3) L st M) : Go p l e R s m args below meth c w nL k n Qf o pc L (.ref (wad w q2) :: .ref (wad w q) :: st) M := by
  intro r hr H locs ls hP hS hl
  obtain ⟨ref, C, T, N, f1, rfl, f3, f4, f5, f6, f7, f8⟩ := fa
  obtain ⟨C2, T2, N2, ty0, w1, w2, w3, w4, w5⟩ := fw
  cases Option.some.inj (w1.symm.trans f3)
  obtain ⟨j, hj0, hj⟩ := wW_get (M := M) hq
  subst hk
  rw [cellE_obj rfl f6] at hj
  refine va_put g.1 g.2.1 g.2.2.2.2.1 f5 ty0 w2 w3 g.2.2.2.1 g.2.2.2.2.2.1 hP (wD_of g.2.2.2.2.2.2.2.2.1 M) hS j hj f3 fk f4 (g.2.2.2.2.1 _ f1) (fun _ h9 => h9) w4 w5 hn hf (by rw [flds_len]; exact f7) d (fun H1 locs1 hP1 _ hS1 => ?_)
  rw [wW_sh g.2.2.2.2.2.2.2.2.1 hj0 f7 f8 f6] at hP1
  exact kk r hr H1 locs1 ls hP1 hS1 hl
end GR
