/-! the law's own methods: a call of the class, its answer put into a row, its throw caught -/
theorem cellE_dbl {w : Wc} {M : Mem} {p : Nat} (h : (wZ w p).1 = 23) : cellE w M p = .inl (wca w 3, 1, .inr (.inr (.inr (.inl (fun j => if j = 0 then dcomb (M p 0) (M p 1) else 0))))) := by
  unfold cellE
  rw [h]
  rfl
abbrev exI : String := "java/lang/IllegalArgumentException"
abbrev exS : String := "java/lang/IllegalStateException"
/-- what a caught throw answers, by a list -/
def lwO (ex : List (Nat × Int32)) : (Sum Int32 Nat) → Mem → Option (Int32 × Mem)
  | .inl v, M => some (0, put M 156 0 v)
  | .inr e, M => (ex.lookup e).map (fun t => (t, M))
def lwDO (ex : List (Nat × Int32)) : (Sum UInt64 Nat) → Mem → Option (Int32 × Mem)
  | .inl v, M => some (0, setR M 157 (upd (upd (M 157) 0 (dhi v)) 1 (dlo v)))
  | .inr e, M => (ex.lookup e).map (fun t => (t, M))
abbrev lwW (ex : List (Nat × Int32)) (f : Option ((Sum Int32 Nat) × Mem)) : Option (Int32 × Mem) := bnd f (lwO ex)
abbrev lwD (ex : List (Nat × Int32)) (f : Option ((Sum UInt64 Nat) × Mem)) : Option (Int32 × Mem) := bnd f (lwDO ex)
/-- a method that catches all that its callee throws -/
abbrev XN (w : Wc) : String → State → State → Prop := vx_X (fun (_ : Unit) => False) (fun _ _ _ => False) (wA w)
def CtH (l : Launch) (y : MethodName) (b : ByteArray) (maxL : Nat) (hh : List (Nat × Nat × Nat × Nat)) (rm : Room) (w : Wc) (av : List Value) (M : Mem) (f : Option (Int32 × Mem)) : Prop :=
  ∀ r, f = some r → vx_Met l y (.codeWith y b maxL (some .int) hh :: TT) rm (va_Pc av (fun U => Wd w M U ∧ va_Nc exS exI U)) (QI w r) (XN w) rm.cells rm.slots (wA w)
theorem CtH.go {l : Launch} {y : MethodName} {b : ByteArray} {maxL : Nat} {hh : List (Nat × Nat × Nat × Nat)} {rm : Room} {w : Wc} {av : List Value} {M : Mem} {f : Option (Int32 × Mem)} (hy : plainName y.cls = true) {L : List (Nat × Value)} (hL : lv_args 0 av = L) (hlen : (lg_sl av).length ≤ maxL)
    (body : ∀ p e s m args below meth c, c.exceptionTable.toList = tableOf hh → va_Nc exS exI s → Gd p s m args meth c w maxL b y.cls → meth.sig.returnType = some .int → Go p l e rm s m args below meth c w maxL 0 0 (fun r => vx_MQ below (QI w r) (XN w) args s rm.cells rm.slots (wA w)) f 0 L [] M) : CtH l y b maxL hh rm w av M f := by
  intro r hr
  refine vx_ofWH (cc := b) (maxL := maxL) (ret := some .int) hy rfl ?_
  intro p e s m args below meth c s₁ B hml hv
  obtain ⟨rfl, ⟨hP, hK, hW, hlo, hSx⟩, hnc⟩ := hv
  have hts := atoms_spec B.pre
  have hl := lv_entry av hlen
  rw [hL] at hl
  rw [lg_entry_eq]
  exact body p e s m _ below meth c (vx_table (x := y) B (hts _ List.mem_cons_self)) hnc ⟨B.exec, B.bytes, hml, findClass_of_methodNamed B.named, fun x hx => hts x (List.mem_cons_of_mem _ hx), hK, B.notSynchronized, hSx, hW, hlo⟩ B.returns r hr _ [] _ hP va_S.rf hl
section LW
variable {ρ α β : Type} {p : Program} {l : Launch} {e : Env} {R : Room} {s : State} {m : MethodId} {args : Array Value} {below : List Frame} {meth : Method} {c : Code} {w : Wc} {nL k n : Nat} {Qf : ρ → State → Prop} {cc : ByteArray} {own : String}
theorem G_last0 (g : Gd p s m args meth c w nL cc own) {pc : Nat} {L : List (Nat × Value)} {st : List Value} {M : Mem} {o : Option ρ} {q : Nat} {v : Int32} (hq : q ∈ wL w) (hk : (wZ w q).1 = 22) (d : decode cc pc = .ok (.lastore, 1)) (kk : Go p l e R s m args below meth c w nL k n Qf o (pc + 1) L st (put M q 0 v)) : Go p l e R s m args below meth c w nL k n Qf o pc L (.long v.toInt64 :: .int 0 :: .ref (wad w q) :: st) M := by
  intro r hr H locs ls hP hS hl
  obtain ⟨j, hj0, hj⟩ := wW_get (M := M) hq
  rw [cellE_lng hk] at hj
  refine va_last g.1 g.2.1 g.2.2.2.2.2.1 hP (wD_of g.2.2.2.2.2.2.2.2.1 M) hS j 2 hj rfl (inB_of (i := 0) (n := 1) rfl) d (fun H1 locs1 hP1 _ hS1 => ?_)
  rw [wW_set g.2.2.2.2.2.2.2.2.1 hj0 (f := upd (M q) 0 v) (by
    rw [cellE_lng hk, setR_self]
    have : vp_updL (fun j => (M q j).toInt64) (0 : Int32).toNatClampNeg v.toInt64 = fun j => (upd (M q) 0 v j).toInt64 := by
      funext j
      by_cases e : j = 0
      · subst e
        rw [upd_at, if_pos rfl]
        exact pk_uLs
      · rw [upd_at, if_neg e]
        exact pk_uLn e
    rw [this])] at hP1
  exact kk r hr H1 locs1 ls hP1 hS1 hl
theorem G_dast0 (g : Gd p s m args meth c w nL cc own) {pc : Nat} {L : List (Nat × Value)} {st : List Value} {M : Mem} {o : Option ρ} {q : Nat} {v : UInt64} (hq : q ∈ wL w) (hk : (wZ w q).1 = 23) (d : decode cc pc = .ok (.dastore, 1)) (kk : Go p l e R s m args below meth c w nL k n Qf o (pc + 1) L st (setR M q (upd (upd (M q) 0 (dhi v)) 1 (dlo v)))) : Go p l e R s m args below meth c w nL k n Qf o pc L (.double v :: .int 0 :: .ref (wad w q) :: st) M := by
  intro r hr H locs ls hP hS hl
  obtain ⟨j, hj0, hj⟩ := wW_get (M := M) hq
  rw [cellE_dbl hk] at hj
  refine va_dast g.1 g.2.1 g.2.2.2.2.2.1 hP (wD_of g.2.2.2.2.2.2.2.2.1 M) hS j 3 hj rfl (inB_of (i := 0) (n := 1) rfl) d (fun H1 locs1 hP1 _ hS1 => ?_)
  rw [wW_set g.2.2.2.2.2.2.2.2.1 hj0 (f := upd (upd (M q) 0 (dhi v)) 1 (dlo v)) (by
    rw [cellE_dbl hk, setR_self]
    have : vf_upd (fun j => if j = 0 then dcomb (M q 0) (M q 1) else 0) (0 : Int32).toNatClampNeg v = fun j => if j = 0 then dcomb (upd (upd (M q) 0 (dhi v)) 1 (dlo v) 0) (upd (upd (M q) 0 (dhi v)) 1 (dlo v) 1) else 0 := by
      funext j
      unfold vf_upd
      by_cases e : j = 0
      · rw [if_pos e, if_pos (by rw [e]; rfl), upd_at, if_neg (by decide), upd_at, if_pos rfl, upd_at, if_pos rfl, dcomb_split]
      · rw [if_neg (show ¬ j = (0 : Int32).toNatClampNeg from e)]
        dsimp only
        rw [if_neg e, if_neg e]
    rw [this])] at hP1
  exact kk r hr H1 locs1 ls hP1 hS1 hl
theorem G_lald0 (g : Gd p s m args meth c w nL cc own) {pc : Nat} {L : List (Nat × Value)} {st : List Value} {M : Mem} {o : Option ρ} {q : Nat} (hq : q ∈ wL w) (hk : (wZ w q).1 = 22) (d : decode cc pc = .ok (.laload, 1)) (kk : Go p l e R s m args below meth c w nL k n Qf o (pc + 1) L (.long (M q 0).toInt64 :: st) M) : Go p l e R s m args below meth c w nL k n Qf o pc L (.int 0 :: .ref (wad w q) :: st) M := by
  intro r hr H locs ls hP hS hl
  obtain ⟨j, hj0, hj⟩ := wW_get (M := M) hq
  rw [cellE_lng hk] at hj
  exact va_lald g.1 g.2.1 g.2.2.2.2.2.1 hP j 2 hj rfl (inB_of (i := 0) (n := 1) rfl) d (kk r hr H locs ls hP hS hl)
theorem G_dald0 (g : Gd p s m args meth c w nL cc own) {pc : Nat} {L : List (Nat × Value)} {st : List Value} {M : Mem} {o : Option ρ} {q : Nat} (hq : q ∈ wL w) (hk : (wZ w q).1 = 23) (d : decode cc pc = .ok (.daload, 1)) (kk : Go p l e R s m args below meth c w nL k n Qf o (pc + 1) L (.double (dcomb (M q 0) (M q 1)) :: st) M) : Go p l e R s m args below meth c w nL k n Qf o pc L (.int 0 :: .ref (wad w q) :: st) M := by
  intro r hr H locs ls hP hS hl
  obtain ⟨j, hj0, hj⟩ := wW_get (M := M) hq
  rw [cellE_dbl hk] at hj
  exact va_dald g.1 g.2.1 g.2.2.2.2.2.1 hP j 3 hj rfl (inB_of (i := 0) (n := 1) rfl) d (kk r hr H locs ls hP hS hl)
/-- the row of an exception table that catches -/
def Hx (own : String) (s : State) (args : Array Value) (c : Code) (pc e hpc : Nat) : Prop := ∃ (name : String) (pre : List ExceptionTableEntry) (x : ExceptionTableEntry) (suf : List ExceptionTableEntry), c.exceptionTable.toList = pre ++ x :: suf ∧ (∀ z ∈ pre, covers z pc = false ∨ (z.catchType ≠ 0 ∧ ∃ nm : String, (Cond.classLink own z.catchType nm).before args s = true ∧ va_Nc (exN e) nm s)) ∧ covers x pc = true ∧ x.catchType ≠ 0 ∧ (Cond.classLink own x.catchType name).before args s = true ∧ (Cond.castable (exN e) name).before args s = true ∧ x.handlerPc = hpc
theorem G_tryI (g : Gd p s m args meth c w nL cc own) {pc idx a maxL : Nat} {L : List (Nat × Value)} {st As : List Value} {M : Mem} {y : MethodName} {b : ByteArray} {rm : Room} {q ci N : Nat} {T : u_T} {ret : Option FieldType} {f : Option ((Sum Int32 Nat) × Mem)} {o : (Sum Int32 Nat) → Mem → Option ρ} (cw : CV own idx y b maxL ret a) (hM : CtX QXI l y b maxL ret rm w (.ref (wad w q) :: As) M f) (hq : q ∈ wL w) (hk : (wZ w q).1 = ci) (hc : vwCl[ci]? = some (y.cls, T, N)) (hci : ci < 20) (hn : As.length = a) (hR : rm.frames + 1 ≤ R.frames ∧ 8 + (maxL + 11) + rm.locals ≤ R.locals) (hC : k + rm.cells ≤ R.cells ∧ n + rm.slots ≤ R.slots) (hs : (st.map fun v => v.category).sum ≤ 8) (d : decode cc pc = .ok (.invokevirtual idx, 3)) (kk : ∀ (x : Int32) (M1 : Mem), Go p l e R s m args below meth c w nL (k + rm.cells) (n + rm.slots) Qf (o (.inl x) M1) (pc + 3) L (.int x :: st) M1)
    (kx : ∀ (u : Nat) (M1 : Mem) (r : ρ), o (.inr u) M1 = some r → ∃ hpc, Hx own s args c pc u hpc ∧ ∀ q9 : Nat, Go p l e R s m args below meth c w nL (k + rm.cells) (n + rm.slots) Qf (o (.inr u) M1) hpc L [.ref q9] M1) : Go p l e R s m args below meth c w nL k n Qf (bnd f o) pc L (As.reverse ++ .ref (wad w q) :: st) M := by
  intro r hr H locs ls hP hS hl
  cases f with
  | none => cases hr
  | some v =>
    obtain ⟨j, -, hj⟩ := wW_get (M := M) hq
    rw [cellE_obj hk hci] at hj
    refine vx_calli (vx_runV (As := As) (rest := st) ⟨g.1, g.2.1, g.2.2.1, g.2.2.2.1, g.2.2.2.2.1⟩ (hM v rfl) ⟨callB_of a g.2.2.2.2.1 (TT_gi cw.2.2.2.2.1) rfl rfl rfl (g.2.2.2.2.1 _ cw.2.2.2.1) (g.2.2.2.2.1 _ cw.1) cw.2.2.2.2.2 hR, g.2.2.2.2.1 _ cw.2.1, g.2.2.2.2.1 _ cw.2.2.1⟩ ⟨Wd.blind, va_recv g.2.2.2.2.2.1 hP hc hj, fun U hU hW => ⟨rfl, by rw [hU]; exact hP, va_K.moved hW.alike g.2.2.2.2.2.1, g.2.2.2.2.2.2.2.2.1, by rw [hU]; exact Nat.le_trans g.2.2.2.2.2.2.2.2.2 hS.1, Sx.step g.2.2.2.2.2.2.2.1 hS hU hW⟩⟩ rfl hn hl.1 rfl (lv_room hs) d hC) hS (fun _ _ h => h) (fun _ h => h) (fun _ _ h => h) (fun E ce q9 u t H1 locs1 ht hvm hpx hB hz hkp hS1 hcell hcv hcl => ?_) (fun x u t H1 locs1 ht hvm hw hB hz hkp hS1 => ?_)
    · obtain ⟨v1, v2⟩ := v
      have hpx : v1 = .inr u := hpx
      subst hpx
      obtain ⟨rfl, hB2⟩ := hB
      obtain ⟨hpc, ⟨name, pre, x, suf, x1, x2, x3, x4, x5, x6, rfl⟩, hgo⟩ := kx u v2 r hr
      exact vx_catch g.2.2.2.1 pre x suf x1 x2 x3 x4 x5 x6 hcell hcv hcl (hgo q9 r hr H1 locs1 ls (by rw [← ht]; exact hB2) hS1 hl)
    · obtain ⟨v1, v2⟩ := v
      have hw : v1 = .inl x := hw
      subst hw
      exact kk x v2 r hr H1 locs1 ls (by rw [← ht]; exact hB) hS1 hl
theorem G_tryD (g : Gd p s m args meth c w nL cc own) {pc idx a maxL : Nat} {L : List (Nat × Value)} {st As : List Value} {M : Mem} {y : MethodName} {b : ByteArray} {rm : Room} {q ci N : Nat} {T : u_T} {ret : Option FieldType} {f : Option ((Sum UInt64 Nat) × Mem)} {o : (Sum UInt64 Nat) → Mem → Option ρ} (cw : CV own idx y b maxL ret a) (hM : CtX QXD l y b maxL ret rm w (.ref (wad w q) :: As) M f) (hq : q ∈ wL w) (hk : (wZ w q).1 = ci) (hc : vwCl[ci]? = some (y.cls, T, N)) (hci : ci < 20) (hn : As.length = a) (hR : rm.frames + 1 ≤ R.frames ∧ 8 + (maxL + 11) + rm.locals ≤ R.locals) (hC : k + rm.cells ≤ R.cells ∧ n + rm.slots ≤ R.slots) (hs : (st.map fun v => v.category).sum ≤ 8) (d : decode cc pc = .ok (.invokevirtual idx, 3)) (kk : ∀ (x : UInt64) (M1 : Mem), Go p l e R s m args below meth c w nL (k + rm.cells) (n + rm.slots) Qf (o (.inl x) M1) (pc + 3) L (.double x :: st) M1)
    (kx : ∀ (u : Nat) (M1 : Mem) (r : ρ), o (.inr u) M1 = some r → ∃ hpc, Hx own s args c pc u hpc ∧ ∀ q9 : Nat, Go p l e R s m args below meth c w nL (k + rm.cells) (n + rm.slots) Qf (o (.inr u) M1) hpc L [.ref q9] M1) : Go p l e R s m args below meth c w nL k n Qf (bnd f o) pc L (As.reverse ++ .ref (wad w q) :: st) M := by
  intro r hr H locs ls hP hS hl
  cases f with
  | none => cases hr
  | some v =>
    obtain ⟨j, -, hj⟩ := wW_get (M := M) hq
    rw [cellE_obj hk hci] at hj
    refine vx_calld (vx_runV (As := As) (rest := st) ⟨g.1, g.2.1, g.2.2.1, g.2.2.2.1, g.2.2.2.2.1⟩ (hM v rfl) ⟨callB_of a g.2.2.2.2.1 (TT_gi cw.2.2.2.2.1) rfl rfl rfl (g.2.2.2.2.1 _ cw.2.2.2.1) (g.2.2.2.2.1 _ cw.1) cw.2.2.2.2.2 hR, g.2.2.2.2.1 _ cw.2.1, g.2.2.2.2.1 _ cw.2.2.1⟩ ⟨Wd.blind, va_recv g.2.2.2.2.2.1 hP hc hj, fun U hU hW => ⟨rfl, by rw [hU]; exact hP, va_K.moved hW.alike g.2.2.2.2.2.1, g.2.2.2.2.2.2.2.2.1, by rw [hU]; exact Nat.le_trans g.2.2.2.2.2.2.2.2.2 hS.1, Sx.step g.2.2.2.2.2.2.2.1 hS hU hW⟩⟩ rfl hn hl.1 rfl (lv_room hs) d hC) hS (fun _ _ h => h) (fun _ h => h) (fun _ _ h => h) (fun E ce q9 u t H1 locs1 ht hvm hpx hB hz hkp hS1 hcell hcv hcl => ?_) (fun x u t H1 locs1 ht hvm hw hB hz hkp hS1 => ?_)
    · obtain ⟨v1, v2⟩ := v
      have hpx : v1 = .inr u := hpx
      subst hpx
      obtain ⟨rfl, hB2⟩ := hB
      obtain ⟨hpc, ⟨name, pre, x, suf, x1, x2, x3, x4, x5, x6, rfl⟩, hgo⟩ := kx u v2 r hr
      exact vx_catch g.2.2.2.1 pre x suf x1 x2 x3 x4 x5 x6 hcell hcv hcl (hgo q9 r hr H1 locs1 ls (by rw [← ht]; exact hB2) hS1 hl)
    · obtain ⟨v1, v2⟩ := v
      have hw : v1 = .inl x := hw
      subst hw
      exact kk x v2 r hr H1 locs1 ls (by rw [← ht]; exact hB) hS1 hl
/-- the end of a method that has caught what was thrown -/
theorem G_hireturn (g : Gd p s m args meth c w nL cc own) {L : List (Nat × Value)} {M : Mem} {pc mc ms : Nat} {x : Int32} (hr0 : meth.sig.returnType = some .int) (h1 : k ≤ mc) (h2 : n ≤ ms) (d : decode cc pc = .ok (.ireturn, 1)) : Go p l e R s m args below meth c w nL k n (fun r => vx_MQ below (QI w r) (XN w) args s mc ms (wA w)) (some (x, M)) pc L [.int x] M := by
  intro r hr H locs ls hP hS hl
  cases hr
  refine vx_ret (W.widen h1 h2 ?_)
  exact W.iret (hlocks := g.2.2.2.2.2.2.1) g.1 g.2.1 hr0 (fun t ht hW => ⟨⟨x, (), rfl, rfl, Rp.at ht hP⟩, hS.F ht⟩) hS.2.2 d
/-- .. the first row catches -/
theorem Hx.fst {pc e hpc i st en : Nat} {suf : List (Nat × Nat × Nat × Nat)} (g : Gd p s m args meth c w nL cc "KiteLoggerLaw") (ht : c.exceptionTable.toList = tableOf ((st, en, hpc, i) :: suf)) (hcov : covers ⟨st, en, hpc, i⟩ pc = true) (hi : i ≠ 0) (hl : Cond.classLink "KiteLoggerLaw" i (exN e) ∈ TT) (hc : Cond.castable (exN e) (exN e) ∈ NW) : Hx "KiteLoggerLaw" s args c pc e hpc :=
  ⟨exN e, [], ⟨st, en, hpc, i⟩, tableOf suf, ht, (fun z hz => absurd hz List.not_mem_nil), hcov, hi, g.2.2.2.2.1 _ hl, va_Nw.use rfl (g.2.2.2.2.2.2.2.1.2.2.1 _ hc), rfl⟩
/-- .. the second row catches, past the first -/
theorem Hx.snd {pc hpc h2 st en st2 en2 : Nat} {suf : List (Nat × Nat × Nat × Nat)} (g : Gd p s m args meth c w nL cc "KiteLoggerLaw") (nc : va_Nc exS exI s) (ht : c.exceptionTable.toList = tableOf ((st, en, hpc, 13) :: (st2, en2, h2, 55) :: suf)) (hcov : covers ⟨st2, en2, h2, 55⟩ pc = true) (hl0 : Cond.classLink "KiteLoggerLaw" 13 exI ∈ TT) (hl : Cond.classLink "KiteLoggerLaw" 55 exS ∈ TT) (hc : Cond.castable exS exS ∈ NW) : Hx "KiteLoggerLaw" s args c pc 1 h2 :=
  ⟨exS, [⟨st, en, hpc, 13⟩], ⟨st2, en2, h2, 55⟩, tableOf suf, ht, fun z hz => by
    rcases List.mem_singleton.mp hz with rfl
    exact Or.inr ⟨by show (13 : Nat) ≠ 0; decide, exI, g.2.2.2.2.1 _ hl0, nc⟩, hcov, by show (55 : Nat) ≠ 0; decide, g.2.2.2.2.1 _ hl, va_Nw.use rfl (g.2.2.2.2.2.2.2.1.2.2.1 _ hc), rfl⟩
end LW
