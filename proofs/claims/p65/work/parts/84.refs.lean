/-! arrays of references -/
section GZ
variable {ρ : Type} {p : Program} {l : Launch} {e : Env} {R : Room} {s : State} {m : MethodId} {args : Array Value} {below : List Frame} {meth : Method} {c : Code} {w : Wc} {nL k n j : Nat} {z : Shp} {Qf : ρ → State → Prop} {cc : ByteArray} {own : String}
theorem G_newQ (g : Gd p s m args meth c (wg w j z) nL cc own) {C : String} {kd t0 pc N idx : Nat} {L : List (Nat × Value)} {st : List Value} {M : Mem} {o : Option ρ} (had : Ad w) (hj : j < 900) (hsz : s.heap.size + k = wlo w + j) (hov : va_AO C s) (hcl : Cond.classLink own idx C ∈ TT) (hkd : kd = 24 ∧ t0 = 2 ∧ C = "KiteLogger$Station") (hN : N ≤ 10000) (hC : k + 1 ≤ R.cells ∧ n + N ≤ R.slots) (d : decode cc pc = .ok (.anewarray idx, 3)) (kk : Go p l e R s m args below meth c (wg w (j + 1) (zfr z j kd N)) nL (k + 1) (n + N) Qf o (pc + 3) L (.ref (wad w j) :: st) (setR M j (fun _ => 0))) : Go p l e R s m args below meth c (wg w j z) nL k n Qf o pc L (.int (nI N) :: st) M := by
  intro r hr H locs ls hP hS hl
  refine va_newq g.1 g.2.1 g.2.2.2.1 (g.2.2.2.2.1 _ hcl) hov g.2.2.2.2.2.1 hP (wD_of g.2.2.2.2.2.2.2.2.1 M) hS (fun q hq => Nat.le_trans g.2.2.2.2.2.2.2.2.2 hq) (nI_pos (by omega)) (nI_clamp (by omega)) (by omega) hC.1 hC.2 d (fun q cA H1 hK1 hP1 hD1 hS1 => ?_)
  have ht : (wtys (wg w j z))[t0]? = some (wca w t0, .object C) := by
    obtain ⟨-, rfl, rfl⟩ := hkd
    rfl
  have hcA : cA = wca w t0 := cA_of hK1 ht
  subst hcA
  intro T2 hT X
  have hb := stand_le X
  rw [hT] at hb
  obtain rfl := grow_at had hj hP1 hD1 (by omega)
  rw [wW_grow (ci := kd) (n := N) (by
    have hz : wZ (wg w (j + 1) (zfr z j kd N)) j = (kd, N, fun _ => none) := if_pos rfl
    obtain ⟨rfl, rfl, -⟩ := hkd
    rw [cellE_sta (by rw [hz]), hz]; rfl)] at hP1
  exact kk r hr H1 locs ls hP1 hS1 hl T2 hT X
theorem wW_set2 {w w2 : Wc} {M : Mem} (hw : Wok w) {q jx : Nat} {e2 : va_E} (hL : wL w2 = wL w) (had : wad w2 = wad w) (hj : (wL w)[jx]? = some q) (he : e2 = cellE w2 M q) (hne : ∀ q', q' ≠ q → cellE w2 M q' = cellE w M q') : (wW w M).set jx (wad w q, e2) = wW w2 M := by
  subst he
  apply List.ext_getElem?
  intro i
  have hjl : jx < (wL w).length := (List.getElem?_eq_some_iff.mp hj).1
  by_cases hi : i = jx
  · subst hi
    rw [List.getElem?_set_self (by unfold wW; rw [List.length_map]; exact hjl)]
    unfold wW
    rw [List.getElem?_map, hL, hj, Option.map_some, had]
  · rw [List.getElem?_set_ne (Ne.symm hi)]
    unfold wW
    rw [List.getElem?_map, List.getElem?_map, hL]
    cases hq : (wL w)[i]? with
    | none => rfl
    | some q' =>
      have hne' : q' ≠ q := by
        intro e
        subst e
        have hil : i < (wL w).length := (List.getElem?_eq_some_iff.mp hq).1
        exact hi ((List.getElem?_inj hil hw.1).mp (hq.trans hj.symm))
      rw [Option.map_some, Option.map_some, hne q' hne', had]
theorem G_aastS (g : Gd p s m args meth c w nL cc own) {pc a q i N : Nat} {L : List (Nat × Value)} {st : List Value} {M : Mem} {o : Option ρ} (ha : a ∈ wL w) (hka : (wZ w a).1 = 24) (hna : (wZ w a).2.1 = N) (hq : q ∈ wL w) (hkq : (wZ w q).1 = 5) (hi : i < N) (hN : N ≤ 10000) (d : decode cc pc = .ok (.aastore, 1)) (kk : Go p l e R s m args below meth c (wsh w (zset (wZ w) a i q)) nL k n Qf o (pc + 1) L st M) : Go p l e R s m args below meth c w nL k n Qf o pc L (.ref (wad w q) :: .int (nI i) :: .ref (wad w a) :: st) M := by
  intro r hr H locs ls hP hS hl
  obtain ⟨ja, ha0, hja⟩ := wW_get (M := M) ha
  obtain ⟨jq, hq0, hjq⟩ := wW_get (M := M) hq
  rw [cellE_sta hka, hna] at hja
  rw [cellE_obj hkq (by decide)] at hjq
  refine va_astq (r := ("KiteLogger$Station", T5, 9)) g.1 g.2.1 g.2.2.2.2.2.1 hP (wD_of g.2.2.2.2.2.2.2.2.1 M) hS ja 2 jq 5 hja rfl hjq rfl (inB_of (inB_nI hi (by omega))) d (fun H1 locs1 hP1 _ hS1 => ?_)
  have hz : wZ (wsh w (zset (wZ w) a i q)) a = ((wZ w a).1, (wZ w a).2.1, fun k' => if k' = i then some q else (wZ w a).2.2 k') := if_pos rfl
  rw [wW_set2 (w2 := wsh w (zset (wZ w) a i q)) g.2.2.2.2.2.2.2.2.1 rfl rfl ha0 (by
    rw [cellE_sta (w := wsh w (zset (wZ w) a i q)) (by rw [hz]; exact hka), hz, nI_clamp (by omega)]
    dsimp only
    rw [hna]
    have : va_up (fun j => ((wZ w a).2.2 j).map (wad w)) i (some (wad w q)) = fun j => (if j = i then some q else (wZ w a).2.2 j).map (wad (wsh w (zset (wZ w) a i q))) := by
      funext x
      unfold va_up
      by_cases e : x = i
      · rw [if_pos e, if_pos e]; rfl
      · rw [if_neg e, if_neg e]; rfl
    rw [this]
    rfl) (fun q' hne => cellE_sh (if_neg hne))] at hP1
  exact kk r hr H1 locs1 ls hP1 hS1 hl
end GZ
