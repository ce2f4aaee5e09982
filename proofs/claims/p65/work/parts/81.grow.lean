/-! the world grows: constructors -/
/-- the first j places, in shape z -/
def wg (w : Wc) (j : Nat) (z : Shp) : Wc := (w.1, w.2.1, w.2.2.1, List.range j, z, w.2.2.2.2.2)
/-- the places' addresses, one behind the other -/
def Ad (w : Wc) : Prop := ∀ q, q < 900 → wad w q = wlo w + q
theorem wg_ok {w : Wc} {j : Nat} {z : Shp} (h : Ad w) (hj : j ≤ 900) : Wok (wg w j z) := by
  refine ⟨List.nodup_range, fun p hp q hq e => ?_, fun p hp => ?_⟩
  · have hp := List.mem_range.mp hp
    have hq := List.mem_range.mp hq
    have e : wad w p = wad w q := e
    rw [h p (by omega), h q (by omega)] at e
    omega
  · have hp := List.mem_range.mp hp
    show wlo w ≤ wad w p
    rw [h p (by omega)]
    omega
def zfr (z : Shp) (j ci n : Nat) : Shp := fun p => if p = j then (ci, n, fun _ => none) else z p
theorem cellE_eq {w w2 : Wc} {M M2 : Mem} {p : Nat} (h1 : wca w2 = wca w) (h2 : wad w2 = wad w) (hz : wZ w2 p = wZ w p) (hm : M2 p = M p) : cellE w2 M2 p = cellE w M p := by
  unfold cellE flds fval
  rw [h1, h2, hz, hm]
theorem wW_grow {w : Wc} {z : Shp} {j ci n : Nat} {M : Mem} {e : va_E} (he : e = cellE (wg w (j + 1) (zfr z j ci n)) (setR M j (fun _ => 0)) j) : wW (wg w j z) M ++ [(wad w j, e)] = wW (wg w (j + 1) (zfr z j ci n)) (setR M j (fun _ => 0)) := by
  subst he
  unfold wW
  show (List.range j).map _ ++ _ = (List.range (j + 1)).map _
  rw [List.range_succ, List.map_append]
  congr 1
  apply List.map_congr_left
  intro p hp
  have hp := List.mem_range.mp hp
  have hne : p ≠ j := by omega
  rw [cellE_eq (w := wg w j z) (w2 := wg w (j + 1) (zfr z j ci n)) (M := M) (M2 := setR M j (fun _ => 0)) (p := p) rfl rfl (if_neg hne) (setR_ne hne)]
  rfl
theorem grow_at {w : Wc} {z : Shp} {j q : Nat} {M : Mem} {e : va_E} {D : va_G} {cl : List vw_C} {H1 : Heap} (had : Ad w) (hj : j < 900) (hP : va_P D cl (wW (wg w j z) M ++ [(q, e)]) H1) (hD : va_D (wA w) (wW (wg w j z) M ++ [(q, e)])) (hsz : H1.size ≤ wlo w + j + 1) : q = wad w j := by
  have hlen : (wW (wg w j z) M).length = j := by
    unfold wW
    rw [List.length_map]
    exact List.length_range
  have hlast : (wW (wg w j z) M ++ [(q, e)])[j]? = some (q, e) := by
    rw [List.getElem?_append_right (by omega), hlen, Nat.sub_self]
    rfl
  have h1 := va_at.lt (hP _ _ hlast)
  have h2 : wlo w ≤ q := hD.2 _ _ hlast
  have h3 : ∀ i, i < j → q ≠ wlo w + i := fun i hi hc => by
    have hi2 : (wW (wg w j z) M)[i]? = some (wad w i, cellE (wg w j z) M i) := by
      unfold wW
      show (List.map _ (List.range j))[i]? = _
      rw [List.getElem?_map, List.getElem?_range hi]
      rfl
    have := hD.1 i j _ _ (by rw [List.getElem?_append_left (by omega)]; exact hi2) hlast (by
      show wad w i = q
      rw [had i (by omega), hc])
    omega
  rw [had j hj]
  have h1 : q < H1.size := h1
  rcases Nat.lt_or_ge (q - wlo w) j with h | h
  · exact absurd (by omega) (h3 _ h)
  · omega
theorem stand_le {p : Program} {l : Launch} {e : Env} {R : Room} {s : State} {m : MethodId} {args : Array Value} {below : List Frame} {meth : Method} {c : Code} {T : State} {locs : List Loc} {k n : Nat} (X : Stand p l e R s m args below meth c T locs k n) : T.heap.size ≤ s.heap.size + k := (X.ends []).2.2.2.1
section GW
variable {ρ : Type} {p : Program} {l : Launch} {e : Env} {R : Room} {s : State} {m : MethodId} {args : Array Value} {below : List Frame} {meth : Method} {c : Code} {w : Wc} {nL k n : Nat} {Qf : ρ → State → Prop} {cc : ByteArray} {own : String}
theorem Gd.wg {z z2 : Shp} {j j2 : Nat} (had : Ad w) (hj : j2 ≤ 900) (g : Gd p s m args meth c (wg w j z) nL cc own) : Gd p s m args meth c (wg w j2 z2) nL cc own := ⟨g.1, g.2.1, g.2.2.1, g.2.2.2.1, g.2.2.2.2.1, g.2.2.2.2.2.1, g.2.2.2.2.2.2.1, g.2.2.2.2.2.2.2.1, wg_ok had hj, g.2.2.2.2.2.2.2.2.2⟩
/-- the words of 'new' of a class -/
def NWd (own : String) (idx ci : Nat) (N : Nat) : Prop := ∃ (C : String) (T : u_T) (ty : Nat → FieldType), vwCl[ci]? = some (C, T, N) ∧ (∀ w ∈ u_ws C T N, w ∈ TT) ∧ (∀ k, k < N → parseFieldDescriptor (T k).2.2.1 = some (ty k)) ∧ Cond.classLink own idx C ∈ TT ∧ Cond.instantiable C N ∈ TT ∧ Cond.initialized C ∈ TT ∧ ci < 20 ∧ ∀ (w : Wc) (k : Nat), k < N → defaultValue (ty k) = vp_V (flds w ci (fun _ => none) (fun _ => 0)) k
theorem G_new {j : Nat} {z : Shp} (g : Gd p s m args meth c (wg w j z) nL cc own) {pc idx ci N : Nat} {L : List (Nat × Value)} {st : List Value} {M : Mem} {o : Option ρ} (had : Ad w) (hj : j < 900) (hsz : s.heap.size + k = wlo w + j) (nw : NWd own idx ci N) (hC : k + 1 ≤ R.cells ∧ n + N ≤ R.slots) (d : decode cc pc = .ok (.new idx, 3)) (kk : Go p l e R s m args below meth c (wg w (j + 1) (zfr z j ci 0)) nL (k + 1) (n + N) Qf o (pc + 3) L (.ref (wad w j) :: st) (setR M j (fun _ => 0))) : Go p l e R s m args below meth c (wg w j z) nL k n Qf o pc L st M := by
  intro r hr H locs ls hP hS hl
  obtain ⟨C, T, ty, n1, n2, n3, n4, n5, n6, n7, n8⟩ := nw
  refine va_new (fs := flds (wg w (j + 1) (zfr z j ci 0)) ci (fun _ => none) (fun _ => 0)) g.1 g.2.1 g.2.2.2.2.1 n2 ty n3 g.2.2.2.1 (g.2.2.2.2.1 _ n4) (g.2.2.2.2.1 _ n5) (g.2.2.2.2.1 _ n6) g.2.2.2.2.2.1 hP (wD_of g.2.2.2.2.2.2.2.2.1 M) hS (fun q hq => Nat.le_trans g.2.2.2.2.2.2.2.2.2 hq) n1 (n8 _) hC.1 hC.2 d (fun q H1 hP1 hD1 hS1 => ?_)
  intro T2 hT X
  have hb := stand_le X
  rw [hT] at hb
  obtain rfl := grow_at had hj hP1 hD1 (by omega)
  rw [wW_grow (ci := ci) (n := 0) (by
    rw [cellE_obj (w := wg w (j + 1) (zfr z j ci 0)) (ci := ci) (by show (zfr z j ci 0 j).1 = ci; unfold zfr; rw [if_pos rfl]) n7, setR_self]
    show _ = Sum.inr (ci, flds _ ci (zfr z j ci 0 j).2.2 _)
    unfold zfr
    rw [if_pos rfl])] at hP1
  exact kk r hr H1 locs ls hP1 hS1 hl T2 hT X
end GW
