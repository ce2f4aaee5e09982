/-! methods that may throw -/
abbrev rmX (n : Nat) : Room := { frames := n, cells := 1, slots := 6, locals := 64 * n }
def exN (k : Nat) : String := if k = 0 then "java/lang/IllegalArgumentException" else if k = 1 then "java/lang/IllegalStateException" else "java/lang/IndexOutOfBoundsException"
def exC : List String := ["java/lang/RuntimeException", "java/lang/Exception"]
abbrev XX {α : Type} (w : Wc) (r : (Sum α Nat) × Mem) : String → State → State → Prop := vx_X (fun (k : Nat) => r.1 = .inr k) (fun E k t => E = exN k ∧ Rp w r.2 t.heap) (wA w)
abbrev QXI (w : Wc) (r : (Sum Int32 Nat) × Mem) := va_Qi (fun r' (_ : Unit) => r.1 = .inl r') (fun _ t => Rp w r.2 t.heap) (wA w)
abbrev QXD (w : Wc) (r : (Sum UInt64 Nat) × Mem) := va_Qd (fun r' (_ : Unit) => r.1 = .inl r') (fun _ t => Rp w r.2 t.heap) (wA w)
abbrev QXV (w : Wc) (r : (Sum Unit Nat) × Mem) := va_Qv (fun (_ : Unit) => r.1 = .inl ()) (fun _ t => Rp w r.2 t.heap) (wA w)
def CtX {α : Type} (Q : Wc → (Sum α Nat) × Mem → Array Value → State → Outcome → State → Prop) (l : Launch) (y : MethodName) (b : ByteArray) (maxL : Nat) (ret : Option FieldType) (rm : Room) (w : Wc) (av : List Value) (M : Mem) (f : Option ((Sum α Nat) × Mem)) : Prop :=
  ∀ r, f = some r → vx_Met l y (.code y b maxL ret :: TT) rm (va_Pc av (Wd w M)) (Q w r) (XX w r) rm.cells rm.slots (wA w)
theorem CtX.mono {α : Type} {Q : Wc → (Sum α Nat) × Mem → Array Value → State → Outcome → State → Prop} {l : Launch} {y : MethodName} {b : ByteArray} {maxL : Nat} {ret : Option FieldType} {rm : Room} {w : Wc} {av : List Value} {M : Mem} {f f2 : Option ((Sum α Nat) × Mem)} (h : ∀ r, f = some r → f2 = some r) (hM : CtX Q l y b maxL ret rm w av M f2) : CtX Q l y b maxL ret rm w av M f := fun r hr => hM r (h r hr)
theorem CtX.go {α : Type} {Q : Wc → (Sum α Nat) × Mem → Array Value → State → Outcome → State → Prop} {l : Launch} {y : MethodName} {b : ByteArray} {maxL : Nat} {ret : Option FieldType} {rm : Room} {w : Wc} {av : List Value} {M : Mem} {f : Option ((Sum α Nat) × Mem)} (hy : plainName y.cls = true) {L : List (Nat × Value)} (hL : lv_args 0 av = L) (hlen : (lg_sl av).length ≤ maxL)
    (body : ∀ p e s m args below meth c, (∀ x ∈ c.exceptionTable.toList, False) → Gd p s m args meth c w maxL b y.cls → meth.sig.returnType = ret → Go p l e rm s m args below meth c w maxL 0 0 (fun r => vx_MQ below (Q w r) (XX w r) args s rm.cells rm.slots (wA w)) f 0 L [] M) : CtX Q l y b maxL ret rm w av M f := by
  intro r hr
  refine vx_ofW (cc := b) (maxL := maxL) (ret := ret) hy rfl ?_
  intro p e s m args below meth c s₁ B hml hnt hv
  obtain ⟨rfl, hP, hK, hW, hlo, hSx⟩ := hv
  have hts := atoms_spec B.pre
  have hl := lv_entry av hlen
  rw [hL] at hl
  rw [lg_entry_eq]
  exact body p e s m _ below meth c hnt ⟨B.exec, B.bytes, hml, findClass_of_methodNamed B.named, fun x hx => hts x (List.mem_cons_of_mem _ hx), hK, B.notSynchronized, hSx, hW, hlo⟩ B.returns r hr _ [] _ hP va_S.rf hl
def bndX {α β : Type} (x : Option ((Sum α Nat) × Mem)) (f : α → Mem → Option ((Sum β Nat) × Mem)) : Option ((Sum β Nat) × Mem) := match x with
  | none => none
  | some (.inl v, M) => f v M
  | some (.inr k, M) => some (.inr k, M)
/-- words of a list, by their places in the tables: good ones, or such as the tables alone decide -/
def ixs (L : List Cond) (ks : List Nat) : Bool := match L, ks with
  | [], _ => true
  | _ :: _, [] => false
  | w :: L, k :: ks => decide (lw_tbl[k]? = some w) && ((goodWord w || (isNest w && w.onTables)) && (vx_ot w && ixs L ks))
theorem ixs_ot {L : List Cond} {ks : List Nat} (h : ixs L ks = true) : ∀ w ∈ L, vx_ot w = true := by
  induction L generalizing ks with
  | nil => intro w hw; cases hw
  | cons a L ih =>
    cases ks with
    | nil => cases h
    | cons k ks =>
      unfold ixs at h
      simp only [Bool.and_eq_true] at h
      intro w hw
      rcases List.mem_cons.mp hw with rfl | h2
      · exact h.2.2.1
      · exact ih h.2.2.2 w h2
theorem ixs_ok {L : List Cond} {ks : List Nat} (h : ixs L ks = true) {s : State} {args : Array Value} (ht : ∀ w ∈ TT, w.before args s = true) (hn : ∀ w ∈ NW, va_Nw w s) : ∀ w ∈ L, w.before args s = true := by
  induction L generalizing ks with
  | nil => intro w hw; cases hw
  | cons a L ih =>
    cases ks with
    | nil => cases h
    | cons k ks =>
      unfold ixs at h
      simp only [Bool.and_eq_true, Bool.or_eq_true, decide_eq_true_eq] at h
      intro w hw
      rcases List.mem_cons.mp hw with rfl | h2
      · rcases h.2.1 with h3 | h3
        · exact ht _ (TT_in h.1 h3)
        · exact va_tabs h3.2 rfl (hn _ (NW_in h.1 h3.1))
      · exact ih h.2.2.2 w h2
section XO
variable {ρ α β : Type} {p : Program} {l : Launch} {e : Env} {R : Room} {s : State} {m : MethodId} {args : Array Value} {below : List Frame} {meth : Method} {c : Code} {w : Wc} {nL k n : Nat} {Qf : ρ → State → Prop} {cc : ByteArray} {own : String}
theorem G_xireturn (g : Gd p s m args meth c w nL cc own) {L : List (Nat × Value)} {M : Mem} {pc mc ms : Nat} {x : Int32} (hr0 : meth.sig.returnType = some .int) (h1 : k ≤ mc) (h2 : n ≤ ms) (d : decode cc pc = .ok (.ireturn, 1)) : Go p l e R s m args below meth c w nL k n (fun r => vx_MQ below (QXI w r) (XX w r) args s mc ms (wA w)) (some (.inl x, M)) pc L [.int x] M := by
  intro r hr H locs ls hP hS hl
  cases hr
  refine vx_ret (W.widen h1 h2 ?_)
  exact W.iret (hlocks := g.2.2.2.2.2.2.1) g.1 g.2.1 hr0 (fun t ht hW => ⟨⟨x, (), rfl, rfl, Rp.at ht hP⟩, hS.F ht⟩) hS.2.2 d
theorem G_xreturn (g : Gd p s m args meth c w nL cc own) {L : List (Nat × Value)} {M : Mem} {pc mc ms : Nat} (hr0 : meth.sig.returnType = none) (h1 : k ≤ mc) (h2 : n ≤ ms) (d : decode cc pc = .ok (.return_, 1)) : Go p l e R s m args below meth c w nL k n (fun r => vx_MQ below (QXV w r) (XX w r) args s mc ms (wA w)) (some (.inl (), M)) pc L [] M := by
  intro r hr H locs ls hP hS hl
  cases hr
  refine vx_ret (W.widen h1 h2 ?_)
  exact W.vret (hlocks := g.2.2.2.2.2.2.1) g.1 g.2.1 hr0 (fun t ht hW => ⟨⟨(), rfl, rfl, Rp.at ht hP⟩, hS.F ht⟩) hS.2.2 d
theorem G_xdreturn (g : Gd p s m args meth c w nL cc own) {L : List (Nat × Value)} {M : Mem} {pc mc ms : Nat} {x : UInt64} (hr0 : meth.sig.returnType = some .double) (h1 : k ≤ mc) (h2 : n ≤ ms) (d : decode cc pc = .ok (.dreturn, 1)) : Go p l e R s m args below meth c w nL k n (fun r => vx_MQ below (QXD w r) (XX w r) args s mc ms (wA w)) (some (.inl x, M)) pc L [.double x] M := by
  intro r hr H locs ls hP hS hl
  cases hr
  refine vx_ret (W.widen h1 h2 ?_)
  exact W.dret (hlocks := g.2.2.2.2.2.2.1) g.1 g.2.1 hr0 (fun t ht hW => ⟨⟨x, (), rfl, rfl, Rp.at ht hP⟩, hS.F ht⟩) hS.2.2 d
/-- the words of 'throw new E("text")' of class k by the pool's entries -/
def TW (own : String) (ik ic : Nat) (k : Nat) (ks : List Nat) : Prop := Bundle.fit (exN k) = true ∧ (∀ n ∈ exC, Bundle.fit n = true) ∧ ixs (Cond.classLink own ik (exN k) :: Cond.initialized (exN k) :: vx_atS own ic (exN k) exC) ks = true
theorem G_throw (g : Gd p s m args meth c w nL cc own) (hnt : ∀ x ∈ c.exceptionTable.toList, False) (hst : l.stackTraces = false) {Q : Wc → (Sum α Nat) × Mem → Array Value → State → Outcome → State → Prop} {L : List (Nat × Value)} {M : Mem} {pc mc ms ik is ic i kx : Nat} {ks : List Nat} (tw : TW own ik ic kx ks) (hs : (own, is, i) ∈ strS) (hR : 5 < R.frames ∧ 82 ≤ R.locals ∧ k + 1 ≤ R.cells ∧ n + 6 ≤ R.slots) (h1 : k + 1 ≤ mc) (h2 : n + 6 ≤ ms)
    (d0 : decode cc pc = .ok (.new ik, 3)) (d3 : decode cc (pc + 3) = .ok (.dup, 1)) (d4 : decode cc (pc + 4) = .ok (.ldc_w is, 3)) (d7 : decode cc (pc + 7) = .ok (.invokespecial ic, 3)) (d10 : decode cc (pc + 10) = .ok (.athrow, 1)) : Go p l e R s m args below meth c w nL k n (fun r => vx_MQ below (Q w r) (XX w r) args s mc ms (wA w)) (some (.inr kx, M)) pc L [] M := by
  intro r hr H locs ls hP hS hl
  cases hr
  have hok := ixs_ok tw.2.2 g.2.2.2.2.1 g.2.2.2.2.2.2.2.1.2.2.1
  refine vx_throwSW (rest := []) (names := exC) (A := wA w) g.1 g.2.1 hst g.2.2.2.1 tw.1 tw.2.1 (hok _ List.mem_cons_self) (hok _ (List.mem_cons_of_mem _ List.mem_cons_self)) (g.2.2.2.2.2.2.2.1.2.1 _ hs) (fun w hw => hok w (List.mem_cons_of_mem _ (List.mem_cons_of_mem _ hw))) (ixs_ot tw.2.2) g.2.2.2.2.2.2.2.1.2.2.2.2.2.2.2.1 g.2.2.2.2.2.2.2.1.2.2.2.2.2.2.2.2 hS (hl.1.trans g.2.2.1.symm) d0 d3 d4 d7 d10 (fun x hx => (hnt x hx).elim) hR.1 hR.2.1 hR.2.2.1 hR.2.2.2 g.2.2.2.2.2.2.1 (fun t hal hz hk => ?_) hS.2.2 h1 h2
  refine ⟨kx, rfl, ⟨rfl, ?_⟩, ?_⟩
  · exact va_P.kept hP (fun k q hq => hk q.1 (va_at.lt (hP k q hq)))
  · exact ⟨Nat.le_trans hS.1 hz, fun q hq hA => by rw [hk q (Nat.lt_of_lt_of_le hq hS.1)]; exact hS.2.1 q hq hA⟩
theorem G_xVI (g : Gd p s m args meth c w nL cc own) (hnt : ∀ x ∈ c.exceptionTable.toList, False) {Q : Wc → (Sum β Nat) × Mem → Array Value → State → Outcome → State → Prop} {pc idx a maxL mc ms : Nat} {L : List (Nat × Value)} {st As : List Value} {M : Mem} {y : MethodName} {b : ByteArray} {rm : Room} {q ci N : Nat} {T : u_T} {ret : Option FieldType} {f : Option ((Sum Int32 Nat) × Mem)} {o : Int32 → Mem → Option ((Sum β Nat) × Mem)} (cw : CV own idx y b maxL ret a) (hM : CtX QXI l y b maxL ret rm w (.ref (wad w q) :: As) M f) (hq : q ∈ wL w) (hk : (wZ w q).1 = ci) (hc : vwCl[ci]? = some (y.cls, T, N)) (hci : ci < 20) (hn : As.length = a) (hR : rm.frames + 1 ≤ R.frames ∧ 8 + (maxL + 11) + rm.locals ≤ R.locals) (hC : k + rm.cells ≤ R.cells ∧ n + rm.slots ≤ R.slots) (hs : (st.map fun v => v.category).sum ≤ 8) (h1 : k + rm.cells ≤ mc) (h2 : n + rm.slots ≤ ms) (d : decode cc pc = .ok (.invokevirtual idx, 3)) (kk : ∀ (x : Int32) (M1 : Mem), Go p l e R s m args below meth c w nL (k + rm.cells) (n + rm.slots) (fun r => vx_MQ below (Q w r) (XX w r) args s mc ms (wA w)) (o x M1) (pc + 3) L (.int x :: st) M1) : Go p l e R s m args below meth c w nL k n (fun r => vx_MQ below (Q w r) (XX w r) args s mc ms (wA w)) (bndX f o) pc L (As.reverse ++ .ref (wad w q) :: st) M := by
  intro r hr H locs ls hP hS hl
  cases f with
  | none => cases hr
  | some v =>
    obtain ⟨j, -, hj⟩ := wW_get (M := M) hq
    rw [cellE_obj hk hci] at hj
    refine vx_calli (vx_runV (As := As) (rest := st) ⟨g.1, g.2.1, g.2.2.1, g.2.2.2.1, g.2.2.2.2.1⟩ (hM v rfl) ⟨callB_of a g.2.2.2.2.1 (TT_gi cw.2.2.2.2.1) rfl rfl rfl (g.2.2.2.2.1 _ cw.2.2.2.1) (g.2.2.2.2.1 _ cw.1) cw.2.2.2.2.2 hR, g.2.2.2.2.1 _ cw.2.1, g.2.2.2.2.1 _ cw.2.2.1⟩ ⟨Wd.blind, va_recv g.2.2.2.2.2.1 hP hc hj, fun U hU hW => ⟨rfl, by rw [hU]; exact hP, va_K.moved hW.alike g.2.2.2.2.2.1, g.2.2.2.2.2.2.2.2.1, by rw [hU]; exact Nat.le_trans g.2.2.2.2.2.2.2.2.2 hS.1, Sx.step g.2.2.2.2.2.2.2.1 hS hU hW⟩⟩ rfl hn hl.1 rfl (lv_room hs) d hC) hS (fun _ _ h => h) (fun _ h => h) (fun _ _ h => h) (fun E ce q9 u t H1 locs1 ht hvm hpx hB hz hkp hS1 hcell hcv hcl => ?_) (fun x u t H1 locs1 ht hvm hw hB hz hkp hS1 => ?_)
    · obtain ⟨v1, v2⟩ := v
      have hpx : v1 = .inr u := hpx
      subst hpx
      obtain ⟨rfl, hB2⟩ := hB
      cases hr
      refine vx_out (fun x hx => (hnt x hx).elim) g.2.2.2.2.2.2.1 hcell hcv hcl (fun t2 ht2 _ => ⟨u, rfl, ⟨rfl, ?_⟩, hS1.F ht2⟩) hS1.2.2 h1 h2
      rw [ht2, ← ht]
      exact hB2
    · obtain ⟨v1, v2⟩ := v
      have hw : v1 = .inl x := hw
      subst hw
      exact kk x v2 r hr H1 locs1 ls (by rw [← ht]; exact hB) hS1 hl
theorem G_xVV (g : Gd p s m args meth c w nL cc own) (hnt : ∀ x ∈ c.exceptionTable.toList, False) {Q : Wc → (Sum β Nat) × Mem → Array Value → State → Outcome → State → Prop} {pc idx a maxL mc ms : Nat} {L : List (Nat × Value)} {st As : List Value} {M : Mem} {y : MethodName} {b : ByteArray} {rm : Room} {q ci N : Nat} {T : u_T} {ret : Option FieldType} {f : Option ((Sum Unit Nat) × Mem)} {o : Unit → Mem → Option ((Sum β Nat) × Mem)} (cw : CV own idx y b maxL ret a) (hM : CtX QXV l y b maxL ret rm w (.ref (wad w q) :: As) M f) (hq : q ∈ wL w) (hk : (wZ w q).1 = ci) (hc : vwCl[ci]? = some (y.cls, T, N)) (hci : ci < 20) (hn : As.length = a) (hR : rm.frames + 1 ≤ R.frames ∧ 8 + (maxL + 11) + rm.locals ≤ R.locals) (hC : k + rm.cells ≤ R.cells ∧ n + rm.slots ≤ R.slots) (hs : (st.map fun v => v.category).sum ≤ 8) (h1 : k + rm.cells ≤ mc) (h2 : n + rm.slots ≤ ms) (d : decode cc pc = .ok (.invokevirtual idx, 3)) (kk : ∀ (M1 : Mem), Go p l e R s m args below meth c w nL (k + rm.cells) (n + rm.slots) (fun r => vx_MQ below (Q w r) (XX w r) args s mc ms (wA w)) (o () M1) (pc + 3) L (st) M1) : Go p l e R s m args below meth c w nL k n (fun r => vx_MQ below (Q w r) (XX w r) args s mc ms (wA w)) (bndX f o) pc L (As.reverse ++ .ref (wad w q) :: st) M := by
  intro r hr H locs ls hP hS hl
  cases f with
  | none => cases hr
  | some v =>
    obtain ⟨j, -, hj⟩ := wW_get (M := M) hq
    rw [cellE_obj hk hci] at hj
    refine vx_callv (vx_runV (As := As) (rest := st) ⟨g.1, g.2.1, g.2.2.1, g.2.2.2.1, g.2.2.2.2.1⟩ (hM v rfl) ⟨callB_of a g.2.2.2.2.1 (TT_gi cw.2.2.2.2.1) rfl rfl rfl (g.2.2.2.2.1 _ cw.2.2.2.1) (g.2.2.2.2.1 _ cw.1) cw.2.2.2.2.2 hR, g.2.2.2.2.1 _ cw.2.1, g.2.2.2.2.1 _ cw.2.2.1⟩ ⟨Wd.blind, va_recv g.2.2.2.2.2.1 hP hc hj, fun U hU hW => ⟨rfl, by rw [hU]; exact hP, va_K.moved hW.alike g.2.2.2.2.2.1, g.2.2.2.2.2.2.2.2.1, by rw [hU]; exact Nat.le_trans g.2.2.2.2.2.2.2.2.2 hS.1, Sx.step g.2.2.2.2.2.2.2.1 hS hU hW⟩⟩ rfl hn hl.1 rfl (lv_room hs) d hC) hS (fun _ _ h => h) (fun _ h => h) (fun _ _ h => h) (fun E ce q9 u t H1 locs1 ht hvm hpx hB hz hkp hS1 hcell hcv hcl => ?_) (fun u t H1 locs1 ht hvm hw hB hz hkp hS1 => ?_)
    · obtain ⟨v1, v2⟩ := v
      have hpx : v1 = .inr u := hpx
      subst hpx
      obtain ⟨rfl, hB2⟩ := hB
      cases hr
      refine vx_out (fun x hx => (hnt x hx).elim) g.2.2.2.2.2.2.1 hcell hcv hcl (fun t2 ht2 _ => ⟨u, rfl, ⟨rfl, ?_⟩, hS1.F ht2⟩) hS1.2.2 h1 h2
      rw [ht2, ← ht]
      exact hB2
    · obtain ⟨v1, v2⟩ := v
      have hw : v1 = .inl () := hw
      subst hw
      exact kk v2 r hr H1 locs1 ls (by rw [← ht]; exact hB) hS1 hl
theorem G_xSV (g : Gd p s m args meth c w nL cc own) (hnt : ∀ x ∈ c.exceptionTable.toList, False) {Q : Wc → (Sum β Nat) × Mem → Array Value → State → Outcome → State → Prop} {pc idx a maxL mc ms : Nat} {L : List (Nat × Value)} {st As : List Value} {M : Mem} {y : MethodName} {b : ByteArray} {rm : Room} {ret : Option FieldType} {f : Option ((Sum Unit Nat) × Mem)} {o : Unit → Mem → Option ((Sum β Nat) × Mem)} (cw : CS own idx y b maxL ret a) (hM : CtX QXV l y b maxL ret rm w (As) M f) (hn : As.length = a) (hR : rm.frames + 1 ≤ R.frames ∧ 8 + (maxL + 11) + rm.locals ≤ R.locals) (hC : k + rm.cells ≤ R.cells ∧ n + rm.slots ≤ R.slots) (hs : (st.map fun v => v.category).sum ≤ 8) (h1 : k + rm.cells ≤ mc) (h2 : n + rm.slots ≤ ms) (d : decode cc pc = .ok (.invokestatic idx, 3)) (kk : ∀ (M1 : Mem), Go p l e R s m args below meth c w nL (k + rm.cells) (n + rm.slots) (fun r => vx_MQ below (Q w r) (XX w r) args s mc ms (wA w)) (o () M1) (pc + 3) L (st) M1) : Go p l e R s m args below meth c w nL k n (fun r => vx_MQ below (Q w r) (XX w r) args s mc ms (wA w)) (bndX f o) pc L (As.reverse ++ st) M := by
  intro r hr H locs ls hP hS hl
  cases f with
  | none => cases hr
  | some v =>
    refine vx_callv (vx_runS (As := As) (rest := st) ⟨g.1, g.2.1, g.2.2.1, g.2.2.2.1, g.2.2.2.2.1⟩ (hM v rfl) ⟨callB_of a g.2.2.2.2.1 (TT_gi cw.2.2.2.1) rfl rfl rfl (g.2.2.2.2.1 _ cw.2.2.1) (g.2.2.2.2.1 _ cw.1) cw.2.2.2.2 hR, g.2.2.2.2.1 _ cw.2.1⟩ ⟨Wd.blind, fun U hU hW => ⟨rfl, by rw [hU]; exact hP, va_K.moved hW.alike g.2.2.2.2.2.1, g.2.2.2.2.2.2.2.2.1, by rw [hU]; exact Nat.le_trans g.2.2.2.2.2.2.2.2.2 hS.1, Sx.step g.2.2.2.2.2.2.2.1 hS hU hW⟩⟩ rfl hn hl.1 rfl (lv_room hs) d hC) hS (fun _ _ h => h) (fun _ h => h) (fun _ _ h => h) (fun E ce q9 u t H1 locs1 ht hvm hpx hB hz hkp hS1 hcell hcv hcl => ?_) (fun u t H1 locs1 ht hvm hw hB hz hkp hS1 => ?_)
    · obtain ⟨v1, v2⟩ := v
      have hpx : v1 = .inr u := hpx
      subst hpx
      obtain ⟨rfl, hB2⟩ := hB
      cases hr
      refine vx_out (fun x hx => (hnt x hx).elim) g.2.2.2.2.2.2.1 hcell hcv hcl (fun t2 ht2 _ => ⟨u, rfl, ⟨rfl, ?_⟩, hS1.F ht2⟩) hS1.2.2 h1 h2
      rw [ht2, ← ht]
      exact hB2
    · obtain ⟨v1, v2⟩ := v
      have hw : v1 = .inl () := hw
      subst hw
      exact kk v2 r hr H1 locs1 ls (by rw [← ht]; exact hB) hS1 hl
end XO
set_option maxRecDepth 100000 in
theorem tw_272_276 : TW "KiteLogger" 272 276 2 [1016, 109, 101, 808, 817, 821, 824, 826, 809, 810, 117, 118, 811, 816, 822, 842, 798, 843, 800, 844, 802, 812, 814, 804, 838, 839, 841, 804, 1027, 1028, 1029, 832, 790, 832, 833, 834, 835, 792, 835, 836, 837, 838, 794, 1026, 1017, 1018, 1019, 820, 1020, 1021, 1022, 1023, 807, 806, 1024] := ⟨by decide +kernel, by decide +kernel, by decide +kernel⟩
set_option maxRecDepth 100000 in
theorem tw_281_285 : TW "KiteLogger" 281 285 1 [1114, 110, 101, 808, 817, 821, 824, 826, 809, 810, 117, 118, 811, 816, 822, 842, 798, 843, 800, 844, 802, 812, 814, 804, 838, 839, 841, 804, 1125, 1126, 1127, 832, 790, 832, 833, 834, 835, 792, 835, 836, 837, 838, 794, 1124, 1115, 1116, 1117, 819, 1118, 1119, 1120, 1121, 807, 806, 1122] := ⟨by decide +kernel, by decide +kernel, by decide +kernel⟩
set_option maxRecDepth 100000 in
theorem tw_296_300 : TW "KiteLogger" 296 300 0 [786, 104, 101, 808, 817, 821, 824, 826, 809, 810, 117, 118, 811, 816, 822, 842, 798, 843, 800, 844, 802, 812, 814, 804, 838, 839, 841, 804, 829, 830, 831, 832, 790, 832, 833, 834, 835, 792, 835, 836, 837, 838, 794, 828, 787, 788, 795, 796, 797, 799, 801, 803, 807, 806, 805] := ⟨by decide +kernel, by decide +kernel, by decide +kernel⟩
