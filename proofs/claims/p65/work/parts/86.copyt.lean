/-! a row that stands at the start is copied into a place -/
section CT
variable {p : Program} {l : Launch} {e : Env} {R : Room} {s : State} {m : MethodId} {args : Array Value} {below : List Frame} {meth : Method} {c : Code} {H : Heap} {locs : List Loc} {cells slots : Nat} {Q : State → Prop} {pc : Nat} {ls : Array Slot} {rest : List Value} {D : va_G} {cl : List vw_C} {A : Nat → Prop} {a : Nat} {tys : List (ClassId × FieldType)} {ws : va_W}
theorem va_copyT {cc : ByteArray} (hexec : p.tables.exec = Jvm.exec) (hb : c.code = cc) (hml : c.maxLocals = ls.size) {own : String} {index : Nat} (hown : s.vm.findClass own = some m.cls) (hlink : (Cond.methodLink own index arraycopyName).before args s = true) (hnat : (Cond.native arraycopyName).before args s = true) (hstat : (Cond.static arraycopyName).before args s = true) (hini : (Cond.initialized "java/lang/System").before args s = true)
    (hK : va_K D cl tys s) (hP : va_P D cl ws H) (hD : va_D A ws) (hS : va_S A s.heap H locs) {b0 n0 : Nat} {f : Nat → Int32} (hX : va_T .int b0 n0 (fun j => .int (f j)) A s s.heap) (q1 t1 : Nat) {c1 : ClassId} {n1 : Nat} {g : Nat → Int32} (ha1 : ws[q1]? = some (a, .inl (c1, n1, .inl g))) (ht1 : tys[t1]? = some (c1, .int))
    {sp dp n : Int32} (h1 : ¬ sp < 0) (h2 : ¬ dp < 0) (h3 : ¬ n < 0) (h4 : sp.toNatClampNeg + n.toNatClampNeg ≤ n0) (h5 : dp.toNatClampNeg + n.toNatClampNeg ≤ n1)
    (hframes : 1 ≤ R.frames) (hlocals : (rest.map fun v => v.category).sum + (nativeFrameWords "java/lang/System" "arraycopy" 5 + 11) ≤ R.locals) (hdg : decode cc pc = .ok (.invokestatic index, 3))
    (kk : ∀ (H1 : Heap) (locs1 : List Loc), va_P D cl (ws.set q1 (a, .inl (c1, n1, .inl (va_cpy f g sp.toNatClampNeg dp.toNatClampNeg n.toNatClampNeg)))) H1 → va_S A s.heap H1 locs1 → W p l e R s m args below meth c H1 locs1 cells slots Q (F0 m (pc + 3) ls rest)) : W p l e R s m args below meth c H locs cells slots Q (F0 m pc ls (.int n :: .int dp :: .ref a :: .int sp :: .ref b0 :: rest)) := by
  have nn : ∀ z : Int32, ¬ z < 0 → z.toInt = (z.toNatClampNeg : Int) := by
    intro z hz
    have hz0 : (0 : Int) ≤ z.toInt := by
      have := Int32.not_lt.mp hz
      simpa using Int32.le_iff_toInt_le.mp this
    show z.toInt = ((z.toInt.toNat : Nat) : Int)
    omega
  intro T hT X
  obtain ⟨scr, hs1, hs2, hs3, hs4, -, hs5, hs9⟩ := hX
  have hbl : b0 < s.heap.size := (Array.getElem?_eq_some_iff.mp hs1).1
  have hc0 : H[b0]? = some scr := by rw [hS.2.1 b0 hbl hs9]; exact hs1
  have hc1 : H[a]? = some (vp_cell c1 (n1, .inl g)) := hP q1 _ ha1
  obtain ⟨hs6, k0, hk0, cm0, hkk0⟩ := hs2
  obtain ⟨-, k1, hk1, cm1, hkk1⟩ := (hK.2 t1 _ ht1).1 n1 (fun j => .int (g j))
  obtain ⟨vm', X', step⟩ := X.arraycopy hexec hown hlink hnat hstat hini (src := b0) (dst := a) (cs := scr) (cd := vp_cell c1 (n1, .inl g)) (srcPos := sp) (destPos := dp) (n := n) (by rw [hT]; exact hc0) (by rw [hT]; exact hc1)
    hs6 (fun _ h => by cases h) hs3 (fun h => by cases h) hk0 hk1 hkk0 hkk1 (by simp [refKind]) h1 h2 h3
    (by rw [nn sp h1, nn n h3]; omega)
    (by rw [nn dp h2, nn n h3]; show ¬ _ > ((arrV c1 n1 (fun j => .int (g j))).slots.size : Int); rw [arrV_size]; omega)
    (fun vm₁ _ i hi => by
      have e : scr.slots.getD (sp.toNatClampNeg + i) .null = .int (f (sp.toNatClampNeg + i)) := by
        rw [Array.getD_eq_getD_getElem?, hs5 _ (by omega)]
        rfl
      refine ⟨?_, ?_⟩
      · rw [e]
        rfl
      · rw [e]
        exact trivial)
    (g := F0 m pc ls (.int n :: .int dp :: .ref a :: .int sp :: .ref b0 :: rest)) rfl (by rw [hml]) (rest := rest) rfl (by rw [hb]; exact hdg) hframes (by show 2 * 0 + _ + _ ≤ _; omega)
  have e1 : copied scr (vp_cell c1 (n1, .inl g)) sp dp n = vp_cell c1 (n1, .inl (va_cpy f g sp.toNatClampNeg dp.toNatClampNeg n.toNatClampNeg)) := va_copiedX (fun z => .int z) scr c1 f g hs5 h4
  rw [e1] at X' step
  have hl : a < H.size := (Array.getElem?_eq_some_iff.mp hc1).1
  have hheap : ((T.setVm vm').setCell a (vp_cell c1 (n1, .inl (va_cpy f g sp.toNatClampNeg dp.toNatClampNeg n.toNatClampNeg)))).heap = H.setIfInBounds a (vp_cell c1 (n1, .inl (va_cpy f g sp.toNatClampNeg dp.toNatClampNeg n.toNatClampNeg))) := by rw [← hT]; rfl
  have oq : ∀ q : Nat, q ≠ a → (H.setIfInBounds a (vp_cell c1 (n1, .inl (va_cpy f g sp.toNatClampNeg dp.toNatClampNeg n.toNatClampNeg))))[q]? = H[q]? := fun q hq => by simp [Array.getElem?_setIfInBounds, Ne.symm hq]
  obtain ⟨t, a1, b1⟩ := kk _ _ (hP.set hD ha1 (show (H.setIfInBounds a _)[a]? = some _ by simp [Array.getElem?_setIfInBounds, hl]) oq) ⟨by simp; exact hS.1, fun q g1 g2 => by
      rw [oq q (fun e => g2 (by rw [e]; exact hD.2 q1 _ ha1))]
      exact hS.2.1 q g1 g2, fun q hq => by
      rcases List.mem_append.mp hq with h | h
      · exact hS.2.2 q h
      · obtain ⟨z, -, hz⟩ := List.mem_map.mp h
        rw [← hz]
        exact hD.2 q1 _ ha1⟩ _ hheap X'
  exact ⟨t, step t a1, b1⟩
end CT
section CT2
variable {ρ : Type} {p : Program} {l : Launch} {e : Env} {R : Room} {s : State} {m : MethodId} {args : Array Value} {below : List Frame} {meth : Method} {c : Code} {w : Wc} {nL k n : Nat} {Qf : ρ → State → Prop} {cc : ByteArray} {own : String}
theorem G_copyT (g : Gd p s m args meth c w nL cc own) {pc : Nat} {L : List (Nat × Value)} {st : List Value} {M : Mem} {o : Option ρ} {idx t0 n0 q1 n1 : Nat} {f : Nat → Int32} {sp dp z : Int32} (hm : Cond.methodLink own idx arraycopyName ∈ TT ∧ Cond.native arraycopyName ∈ TT ∧ Cond.static arraycopyName ∈ TT ∧ Cond.initialized "java/lang/System" ∈ TT) (hR : 1 ≤ R.frames ∧ (st.map fun v => v.category).sum + (nativeFrameWords "java/lang/System" "arraycopy" 5 + 11) ≤ R.locals) (hX : va_T .int t0 n0 (fun j => .int (f j)) (wA w) s s.heap) (hq1 : q1 ∈ wL w) (hk1 : (wZ w q1).1 = 20) (hn1 : (wZ w q1).2.1 = n1) (hcp : cpB sp dp z n0 n1 = true) (d : decode cc pc = .ok (.invokestatic idx, 3)) (kk : Go p l e R s m args below meth c w nL k n Qf o (pc + 3) L st (setR M q1 (va_cpy f (M q1) sp.toNatClampNeg dp.toNatClampNeg z.toNatClampNeg))) : Go p l e R s m args below meth c w nL k n Qf o pc L (.int z :: .int dp :: .ref (wad w q1) :: .int sp :: .ref t0 :: st) M := by
  intro r hr H locs ls hP hS hl
  obtain ⟨h1, h2, h3, h4, h5⟩ := cpB_of hcp
  obtain ⟨j1, hx1, hj1⟩ := wW_get (M := M) hq1
  rw [cellE_arr hk1, hn1] at hj1
  refine va_copyT g.1 g.2.1 (g.2.2.1.trans hl.1.symm) g.2.2.2.1 (g.2.2.2.2.1 _ hm.1) (g.2.2.2.2.1 _ hm.2.1) (g.2.2.2.2.1 _ hm.2.2.1) (g.2.2.2.2.1 _ hm.2.2.2) g.2.2.2.2.2.1 hP (wD_of g.2.2.2.2.2.2.2.2.1 M) hS hX j1 0 hj1 rfl h1 h2 h3 h4 h5 hR.1 hR.2 d (fun H1 locs1 hP1 hS1 => ?_)
  rw [wW_set g.2.2.2.2.2.2.2.2.1 hx1 (f := va_cpy f (M q1) sp.toNatClampNeg dp.toNatClampNeg z.toNatClampNeg) (by rw [cellE_arr hk1, setR_self, hn1])] at hP1
  exact kk r hr H1 locs1 ls hP1 hS1 hl
end CT2
set_option maxHeartbeats 4000000 in
theorem c_G_copyRowF (l : Launch) {w : Wc} {q1 : Nat} (hq1 : q1 ∈ wL w) (hk1 : (wZ w q1).1 = 20) (hn1 : (wZ w q1).2.1 = 16) (M : Mem) : Ct QV l y_G_copyRow b_G_copyRow 2 none (rmL 1) w [.ref (wad w 1100), .ref (wad w q1)] M (some (setR M q1 (va_cpy (fun j => fgL.getD j 0) (M q1) 0 0 6))) := by
  refine Ct.go (by decide) (L := [(0, .ref (wad w 1100)), (1, .ref (wad w q1))]) rfl (Nat.le_of_ble_eq_true rfl) (fun p0 e s m args below meth c g hret => ?_)
  have hT := g.2.2.2.2.2.2.2.1.2.2.2.2.1
  refine G_aload_n g (pc := 0) 0 d_G_copyRow_0 rfl rfl ?_
  refine G_iconst g (pc := 1) (0 : Int32) d_G_copyRow_1 rfl ?_
  refine G_aload_n g (pc := 2) 1 d_G_copyRow_2 rfl rfl ?_
  refine G_iconst g (pc := 3) (0 : Int32) d_G_copyRow_3 rfl ?_
  refine G_aload_n g (pc := 4) 0 d_G_copyRow_4 rfl rfl ?_
  refine G_tlen g (pc := 5) (6 : Int32) hT rfl d_G_copyRow_5 ?_
  refine G_aload_n g (pc := 6) 1 d_G_copyRow_6 rfl rfl ?_
  refine G_alen g (pc := 7) (nI 16) hq1 hk1 (by rw [hn1]; rfl) d_G_copyRow_7 ?_
  refine G_mmin g (pc := 8) ma_G_245 ⟨(Nat.le_of_ble_eq_true rfl), (Nat.le_of_ble_eq_true rfl), (Nat.le_of_ble_eq_true rfl), (Nat.le_of_ble_eq_true rfl)⟩ d_G_copyRow_8 ?_
  refine G_copyT g (pc := 11) (n0 := 6) (n1 := 16) ma_G_315 ⟨(Nat.le_of_ble_eq_true rfl), (Nat.le_of_ble_eq_true rfl)⟩ hT hq1 hk1 hn1 rfl d_G_copyRow_11 ?_
  exact G_return g (pc := 14) hret (Nat.le_of_ble_eq_true rfl) (Nat.le_of_ble_eq_true rfl) d_G_copyRow_14
