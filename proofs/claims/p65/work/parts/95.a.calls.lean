/-! calls over a growing world -/
def CtG (l : Launch) (y : MethodName) (b : ByteArray) (maxL : Nat) (ret : Option FieldType) (rm : Room) (w : Wc) (j : Nat) (z : Shp) (av : List Value) (M : Mem) (Q : Array Value → State → Outcome → State → Prop) : Prop :=
  Met l y (.code y b maxL ret :: TT) rm (va_Pc av (fun U => Wd (wg w j z) M U ∧ U.heap.size = wlo w + j ∧ AO U)) Q rm.cells rm.slots (wA w)
abbrev QgV (w : Wc) (j2 : Nat) (P : Shp → Mem → Prop) := va_Qv (fun (u : Shp × Mem) => P u.1 u.2) (fun u t => Rp (wg w j2 u.1) u.2 t.heap) (wA w)
abbrev QgI (w : Wc) (j2 : Nat) (x : Int32) (P : Shp → Mem → Prop) := va_Qi (fun r (u : Shp × Mem) => r = x ∧ P u.1 u.2) (fun u t => Rp (wg w j2 u.1) u.2 t.heap) (wA w)
abbrev QgR (w : Wc) (j2 q : Nat) (P : Shp → Mem → Prop) := va_Qq (fun a (u : Shp × Mem) => a = some (wad w q) ∧ P u.1 u.2) (fun u t => Rp (wg w j2 u.1) u.2 t.heap) (wA w)
theorem CtG.go {l : Launch} {y : MethodName} {b : ByteArray} {maxL : Nat} {ret : Option FieldType} {rm : Room} {w : Wc} {j : Nat} {z : Shp} {av : List Value} {M : Mem} {Q : Array Value → State → Outcome → State → Prop} (hy : plainName y.cls = true) {L : List (Nat × Value)} (hL : lv_args 0 av = L) (hlen : (lg_sl av).length ≤ maxL)
    (body : ∀ p e s m args below meth c, meth.name = y.name → s.heap.size + 0 = wlo w + j → AO s → Gd p s m args meth c (wg w j z) maxL b y.cls → meth.sig.returnType = ret → Go p l e rm s m args below meth c (wg w j z) maxL 0 0 (fun (_ : Unit) => MQ below Q args s rm.cells rm.slots (wA w)) (some ()) 0 L [] M) : CtG l y b maxL ret rm w j z av M Q := by
  refine Met.ofW (cc := b) (maxL := maxL) (ret := ret) hy rfl ?_
  intro p e s m args below meth c s₁ B hml hv
  obtain ⟨rfl, ⟨hP, hK, hW, hlo, hSx⟩, hsz, hao⟩ := hv
  have hts := atoms_spec B.pre
  have hl := lv_entry av hlen
  rw [hL] at hl
  rw [lg_entry_eq]
  exact body p e s m _ below meth c (name_of_methodNamed B.named B.method).1 hsz hao ⟨B.exec, B.bytes, hml, findClass_of_methodNamed B.named, fun x hx => hts x (List.mem_cons_of_mem _ hx), hK, B.notSynchronized, hSx, hW, hlo⟩ B.returns () rfl _ [] _ hP va_S.rf hl
section GG
variable {ρ : Type} {p : Program} {l : Launch} {e : Env} {R : Room} {s : State} {m : MethodId} {args : Array Value} {below : List Frame} {meth : Method} {c : Code} {w : Wc} {nL k n j : Nat} {z : Shp} {Qf : ρ → State → Prop} {cc : ByteArray} {own : String}
theorem Go.top {x y : Int32} {pc : Nat} {L : List (Nat × Value)} {st : List Value} {M : Mem} {o : Option ρ} (h : x = y) (kk : Go p l e R s m args below meth c w nL k n Qf o pc L (.int y :: st) M) : Go p l e R s m args below meth c w nL k n Qf o pc L (.int x :: st) M := by
  subst h
  exact kk
theorem G_gretV {M : Mem} {P : Shp → Mem → Prop} (g : Gd p s m args meth c (wg w j z) nL cc own) {L : List (Nat × Value)} {pc mc ms : Nat} (hP0 : P z M) (hr0 : meth.sig.returnType = none) (h1 : k ≤ mc) (h2 : n ≤ ms) (d : decode cc pc = .ok (.return_, 1)) : Go p l e R s m args below meth c (wg w j z) nL k n (fun (_ : Unit) => MQ below (QgV w j P) args s mc ms (wA w)) (some ()) pc L [] M := by
  intro r hr H locs ls hP hS hl
  refine W.widen h1 h2 ?_
  exact W.vret (hlocks := g.2.2.2.2.2.2.1) g.1 g.2.1 hr0 (fun t ht hW => ⟨⟨(z, M), rfl, hP0, Rp.at ht hP⟩, hS.F ht⟩) hS.2.2 d
theorem G_gretI {M : Mem} {P : Shp → Mem → Prop} {x : Int32} (g : Gd p s m args meth c (wg w j z) nL cc own) {L : List (Nat × Value)} {pc mc ms : Nat} (hP0 : P z M) (hr0 : meth.sig.returnType = some .int) (h1 : k ≤ mc) (h2 : n ≤ ms) (d : decode cc pc = .ok (.ireturn, 1)) : Go p l e R s m args below meth c (wg w j z) nL k n (fun (_ : Unit) => MQ below (QgI w j x P) args s mc ms (wA w)) (some ()) pc L [.int x] M := by
  intro r hr H locs ls hP hS hl
  refine W.widen h1 h2 ?_
  exact W.iret (hlocks := g.2.2.2.2.2.2.1) g.1 g.2.1 hr0 (fun t ht hW => ⟨⟨x, (z, M), rfl, ⟨rfl, hP0⟩, Rp.at ht hP⟩, hS.F ht⟩) hS.2.2 d
theorem G_gretR {M : Mem} {P : Shp → Mem → Prop} {q : Nat} {rt : FieldType} (g : Gd p s m args meth c (wg w j z) nL cc own) {L : List (Nat × Value)} {pc mc ms : Nat} (hP0 : P z M) (hr0 : meth.sig.returnType = some rt) (hrt : (∃ n, rt = .object n) ∨ ∃ t, rt = .array t) (h1 : k ≤ mc) (h2 : n ≤ ms) (d : decode cc pc = .ok (.areturn, 1)) : Go p l e R s m args below meth c (wg w j z) nL k n (fun (_ : Unit) => MQ below (QgR w j q P) args s mc ms (wA w)) (some ()) pc L [.ref (wad w q)] M := by
  intro r hr H locs ls hP hS hl
  refine W.widen h1 h2 ?_
  exact W.aret (hlocks := g.2.2.2.2.2.2.1) g.1 g.2.1 hr0 hrt (Or.inr ⟨wad w q, rfl⟩) (fun t ht hW => ⟨⟨some (wad w q), (z, M), rfl, ⟨rfl, hP0⟩, Rp.at ht hP⟩, hS.F ht⟩) hS.2.2 d
theorem G_gretN {M : Mem} {P : Shp → Mem → Prop} {x : Int32} {rt : FieldType} (g : Gd p s m args meth c (wg w j z) nL cc own) {L : List (Nat × Value)} {pc mc ms : Nat} (hP0 : P z M) (hr0 : meth.sig.returnType = some rt) (hn : narrow rt (.int x) = .int x) (h1 : k ≤ mc) (h2 : n ≤ ms) (d : decode cc pc = .ok (.ireturn, 1)) : Go p l e R s m args below meth c (wg w j z) nL k n (fun (_ : Unit) => MQ below (QgI w j x P) args s mc ms (wA w)) (some ()) pc L [.int x] M := by
  intro r hr H locs ls hP hS hl
  refine W.widen h1 h2 ?_
  exact W.zret (hlocks := g.2.2.2.2.2.2.1) g.1 g.2.1 hr0 hn (fun t ht hW => ⟨⟨x, (z, M), rfl, ⟨rfl, hP0⟩, Rp.at ht hP⟩, hS.F ht⟩) hS.2.2 d
/-- a call that runs -/
def RunG (p : Program) (l : Launch) (e : Env) (R : Room) (s : State) (m : MethodId) (args : Array Value) (below : List Frame) (meth : Method) (c : Code) (w : Wc) (nL k n j : Nat) (z : Shp) (pc : Nat) (L : List (Nat × Value)) (st0 : List Value) (M : Mem) (rest : List Value) (rm : Room) (Qa : State → Outcome → State → Prop) : Prop :=
  ∀ (H : Heap) (locs : List Loc) (ls : Array Slot) (T : State), Rp (wg w j z) M H → va_S (wA w) s.heap H locs → lv_has ls nL L → T.heap = H → Stand p l e R s m args below meth c T locs k n → va_Run p l e R s m args below meth c H locs k n rm.cells rm.slots (F0 m pc ls st0) rest Qa (wA w)
theorem G_gV {j2 pc : Nat} {L : List (Nat × Value)} {st0 rest : List Value} {M : Mem} {lv cc0 ss : Nat} {P : Shp → Mem → Prop} {av : Array Value} {o : Option ρ} (hr : RunG p l e R s m args below meth c w nL k n j z pc L st0 M rest (rmC lv cc0 ss) (QgV w j2 P av)) (kk : ∀ z2 M2, P z2 M2 → Go p l e R s m args below meth c (wg w j2 z2) nL (k + cc0) (n + ss) Qf o (pc + 3) L rest M2) : Go p l e R s m args below meth c (wg w j z) nL k n Qf o pc L st0 M := by
  intro r hr0 H locs ls hP hS hl T0 hT X
  exact (va_callv (hr H locs ls T0 hP hS hl hT X) hS (fun _ _ h => h) (fun _ h => h) (fun u t H1 locs1 ht hvm hw hB hz hkp hS1 => kk u.1 u.2 hw r hr0 H1 locs1 ls (by rw [← ht]; exact hB) hS1 hl)) T0 hT X
theorem G_gV0 {j2 pc : Nat} {L : List (Nat × Value)} {st0 rest : List Value} {M : Mem} {lv : Nat} {P : Shp → Mem → Prop} {av : Array Value} {o : Option ρ} (hr : RunG p l e R s m args below meth c w nL k n j z pc L st0 M rest (rmC lv 0 0) (QgV w j2 P av)) (kk : ∀ z2 M2, P z2 M2 → Go p l e R s m args below meth c (wg w j2 z2) nL k n Qf o (pc + 3) L rest M2) : Go p l e R s m args below meth c (wg w j z) nL k n Qf o pc L st0 M :=
  G_gV hr kk
theorem G_gI {j2 pc : Nat} {x : Int32} {L : List (Nat × Value)} {st0 rest : List Value} {M : Mem} {lv cc0 ss : Nat} {P : Shp → Mem → Prop} {av : Array Value} {o : Option ρ} (hr : RunG p l e R s m args below meth c w nL k n j z pc L st0 M rest (rmC lv cc0 ss) (QgI w j2 x P av)) (kk : ∀ z2 M2, P z2 M2 → Go p l e R s m args below meth c (wg w j2 z2) nL (k + cc0) (n + ss) Qf o (pc + 3) L (.int x :: rest) M2) : Go p l e R s m args below meth c (wg w j z) nL k n Qf o pc L st0 M := by
  intro r hr0 H locs ls hP hS hl T0 hT X
  exact (va_calli (hr H locs ls T0 hP hS hl hT X) hS (fun _ _ h => h) (fun _ h => h) (fun x' u t H1 locs1 ht hvm hw hB hz hkp hS1 => by
    obtain ⟨rfl, hw⟩ := hw
    exact kk u.1 u.2 hw r hr0 H1 locs1 ls (by rw [← ht]; exact hB) hS1 hl)) T0 hT X
theorem G_gI0 {j2 pc : Nat} {x : Int32} {L : List (Nat × Value)} {st0 rest : List Value} {M : Mem} {lv : Nat} {P : Shp → Mem → Prop} {av : Array Value} {o : Option ρ} (hr : RunG p l e R s m args below meth c w nL k n j z pc L st0 M rest (rmC lv 0 0) (QgI w j2 x P av)) (kk : ∀ z2 M2, P z2 M2 → Go p l e R s m args below meth c (wg w j2 z2) nL k n Qf o (pc + 3) L (.int x :: rest) M2) : Go p l e R s m args below meth c (wg w j z) nL k n Qf o pc L st0 M :=
  G_gI hr kk
theorem G_gR {j2 q pc : Nat} {L : List (Nat × Value)} {st0 rest : List Value} {M : Mem} {lv cc0 ss : Nat} {P : Shp → Mem → Prop} {av : Array Value} {o : Option ρ} (hr : RunG p l e R s m args below meth c w nL k n j z pc L st0 M rest (rmC lv cc0 ss) (QgR w j2 q P av)) (kk : ∀ z2 M2, P z2 M2 → Go p l e R s m args below meth c (wg w j2 z2) nL (k + cc0) (n + ss) Qf o (pc + 3) L (.ref (wad w q) :: rest) M2) : Go p l e R s m args below meth c (wg w j z) nL k n Qf o pc L st0 M := by
  intro r hr0 H locs ls hP hS hl T0 hT X
  exact (va_callq (hr H locs ls T0 hP hS hl hT X) hS (fun _ _ h => h) (fun _ h => h) (fun x' u t H1 locs1 ht hvm hw hB hz hkp hS1 => by
    obtain ⟨rfl, hw⟩ := hw
    exact kk u.1 u.2 hw r hr0 H1 locs1 ls (by rw [← ht]; exact hB) hS1 hl)) T0 hT X
theorem G_gR0 {j2 q pc : Nat} {L : List (Nat × Value)} {st0 rest : List Value} {M : Mem} {lv : Nat} {P : Shp → Mem → Prop} {av : Array Value} {o : Option ρ} (hr : RunG p l e R s m args below meth c w nL k n j z pc L st0 M rest (rmC lv 0 0) (QgR w j2 q P av)) (kk : ∀ z2 M2, P z2 M2 → Go p l e R s m args below meth c (wg w j2 z2) nL k n Qf o (pc + 3) L (.ref (wad w q) :: rest) M2) : Go p l e R s m args below meth c (wg w j z) nL k n Qf o pc L st0 M :=
  G_gR hr kk
theorem pre_G (g : Gd p s m args meth c (wg w j z) nL cc own) {M : Mem} {H : Heap} {locs : List Loc} {T : State} {av : List Value} (had : Ad w) (hao : AO s) (hj : j ≤ 900) (h1j : 1 ≤ j) (hsz : s.heap.size + k = wlo w + j) (hP : Rp (wg w j z) M H) (hS : va_S (wA w) s.heap H locs) (hT : T.heap = H) (X : Stand p l e R s m args below meth c T locs k n) : PreS s H (va_Pc av (fun U => Wd (wg w j z) M U ∧ U.heap.size = wlo w + j ∧ AO U)) av :=
  have hH := size_eq had hj h1j hsz hP hT X
  ⟨CtC.blind, fun U hU hW => ⟨rfl, ⟨by rw [hU]; exact hP, va_K.moved hW.alike g.2.2.2.2.2.1, g.2.2.2.2.2.2.2.2.1, by rw [hU]; exact Nat.le_trans g.2.2.2.2.2.2.2.2.2 hS.1, Sx.step g.2.2.2.2.2.2.2.1 hS hU hW⟩, by rw [hU]; exact hH, hao.moved hW.alike⟩⟩
theorem TT_all {L : List Cond} (h : ∀ x ∈ L, x ∈ TT) : GoodIn TT L := fun x hx => ⟨h x hx, good_of_word (TT_good (h x hx)).2⟩
/-- a static call -/
theorem RG_S (g : Gd p s m args meth c (wg w j z) nL cc own) {pc idx a maxL : Nat} {L : List (Nat × Value)} {st As : List Value} {M : Mem} {y : MethodName} {b : ByteArray} {rm : Room} {ret : Option FieldType} {Q : Array Value → State → Outcome → State → Prop} (had : Ad w) (hao : AO s) (hj : j ≤ 900) (h1j : 1 ≤ j) (hsz : s.heap.size + k = wlo w + j) (cw : CS own idx y b maxL ret a) (hM : CtG l y b maxL ret rm w j z As M Q) (hn : As.length = a) (hR : rm.frames + 1 ≤ R.frames ∧ 8 + (maxL + 11) + rm.locals ≤ R.locals) (hC : k + rm.cells ≤ R.cells ∧ n + rm.slots ≤ R.slots) (hs : (st.map fun v => v.category).sum ≤ 8) (d : decode cc pc = .ok (.invokestatic idx, 3)) : RunG p l e R s m args below meth c w nL k n j z pc L (As.reverse ++ st) M st rm (Q As.toArray) :=
  fun H locs ls T hP hS hl hT X => va_runS (As := As) (rest := st) ⟨g.1, g.2.1, g.2.2.1, g.2.2.2.1, g.2.2.2.2.1⟩ hM ⟨callB_of a g.2.2.2.2.1 (TT_gi cw.2.2.2.1) rfl rfl rfl (g.2.2.2.2.1 _ cw.2.2.1) (g.2.2.2.2.1 _ cw.1) cw.2.2.2.2 hR, g.2.2.2.2.1 _ cw.2.1⟩ (pre_G g had hao hj h1j hsz hP hS hT X) rfl hn hl.1 rfl (lv_room hs) d hC
/-- a virtual call on a place of the class that the method names -/
theorem RG_V (g : Gd p s m args meth c (wg w j z) nL cc own) {pc idx a maxL q ci N : Nat} {T1 : u_T} {L : List (Nat × Value)} {st As : List Value} {M : Mem} {y : MethodName} {b : ByteArray} {rm : Room} {ret : Option FieldType} {Q : Array Value → State → Outcome → State → Prop} (had : Ad w) (hao : AO s) (hj : j ≤ 900) (h1j : 1 ≤ j) (hsz : s.heap.size + k = wlo w + j) (cw : CV own idx y b maxL ret a) (hM : CtG l y b maxL ret rm w j z (.ref (wad w q) :: As) M Q) (hq : q ∈ wL (wg w j z)) (hk : (z q).1 = ci) (hc : vwCl[ci]? = some (y.cls, T1, N)) (hci : ci < 20) (hn : As.length = a) (hR : rm.frames + 1 ≤ R.frames ∧ 8 + (maxL + 11) + rm.locals ≤ R.locals) (hC : k + rm.cells ≤ R.cells ∧ n + rm.slots ≤ R.slots) (hs : (st.map fun v => v.category).sum ≤ 8) (d : decode cc pc = .ok (.invokevirtual idx, 3)) : RunG p l e R s m args below meth c w nL k n j z pc L (As.reverse ++ .ref (wad w q) :: st) M st rm (Q (.ref (wad w q) :: As).toArray) :=
  fun H locs ls T hP hS hl hT X => by
    have pg := pre_G (av := .ref (wad w q) :: As) g had hao hj h1j hsz hP hS hT X
    obtain ⟨jx, -, hj2⟩ := wW_get (M := M) hq
    rw [cellE_obj (w := wg w j z) hk hci] at hj2
    exact va_runV (As := As) (rest := st) ⟨g.1, g.2.1, g.2.2.1, g.2.2.2.1, g.2.2.2.2.1⟩ hM ⟨callB_of a g.2.2.2.2.1 (TT_gi cw.2.2.2.2.1) rfl rfl rfl (g.2.2.2.2.1 _ cw.2.2.2.1) (g.2.2.2.2.1 _ cw.1) cw.2.2.2.2.2 hR, g.2.2.2.2.1 _ cw.2.1, g.2.2.2.2.1 _ cw.2.2.1⟩ ⟨pg.1, va_recv g.2.2.2.2.2.1 hP hc hj2, pg.2⟩ rfl hn hl.1 rfl (lv_room hs) d hC
/-- an inherited method on a StringBuilder: x is named, y runs -/
def CU (own : String) (idx : Nat) (x y : MethodName) (b : ByteArray) (maxL : Nat) (ret : Option FieldType) (a : Nat) : Prop := (∀ t ∈ va_wsU own idx "java/lang/StringBuilder" x.cls x y (Cond.code y b maxL ret :: TT), t ∈ TT) ∧ y = ⟨x.cls, x.name, x.desc⟩ ∧ (x.cls ≠ "java/lang/invoke/MethodHandle" ∧ x.cls ≠ "java/lang/invoke/VarHandle" ∧ (parseMethodDescriptor x.desc).map (fun d => d.parameters.length) = some a)
theorem RG_U (g : Gd p s m args meth c (wg w j z) nL cc own) {pc idx a maxL q : Nat} {L : List (Nat × Value)} {st As : List Value} {M : Mem} {x y : MethodName} {b : ByteArray} {rm : Room} {ret : Option FieldType} {Q : Array Value → State → Outcome → State → Prop} (had : Ad w) (hao : AO s) (hj : j ≤ 900) (h1j : 1 ≤ j) (hsz : s.heap.size + k = wlo w + j) (cw : CU own idx x y b maxL ret a) (hM : CtG l y b maxL ret rm w j z (.ref (wad w q) :: As) M Q) (hq : q ∈ wL (wg w j z)) (hk : (z q).1 = 10) (hn : As.length = a) (hR : rm.frames + 1 ≤ R.frames ∧ 8 + (maxL + 11) + rm.locals ≤ R.locals) (hC : k + rm.cells ≤ R.cells ∧ n + rm.slots ≤ R.slots) (hs : (st.map fun v => v.category).sum ≤ 8) (d : decode cc pc = .ok (.invokevirtual idx, 3)) : RunG p l e R s m args below meth c w nL k n j z pc L (As.reverse ++ .ref (wad w q) :: st) M st rm (Q (.ref (wad w q) :: As).toArray) :=
  fun H locs ls T hP hS hl hT X => by
    have pg := pre_G (av := .ref (wad w q) :: As) g had hao hj h1j hsz hP hS hT X
    obtain ⟨jx, -, hj2⟩ := wW_get (M := M) hq
    rw [cellE_obj (w := wg w j z) hk (by decide)] at hj2
    exact va_runU (As := As) (rest := st) (C := "java/lang/StringBuilder") (owner := x.cls) ⟨g.1, g.2.1, g.2.2.1, g.2.2.2.1, g.2.2.2.2.1⟩ hM (va_cwU a g.2.2.2.2.1 (TT_all cw.1) rfl rfl rfl cw.2.1 cw.2.2 hR) ⟨pg.1, va_recv g.2.2.2.2.2.1 hP (show vwCl[10]? = some ("java/lang/StringBuilder", T10, 4) from rfl) hj2, pg.2⟩ rfl hn hl.1 rfl (lv_room hs) d hC
/-- an overridden one -/
def CO (own : String) (idx : Nat) (x y : MethodName) (b : ByteArray) (maxL : Nat) (ret : Option FieldType) (a : Nat) : Prop := (∀ t ∈ va_wsO own idx "java/lang/StringBuilder" x.cls x y (Cond.code y b maxL ret :: TT), t ∈ TT) ∧ (∃ (b0 : ByteArray) (m0 : Nat) (r0 : Option FieldType), Cond.code ⟨x.cls, x.name, x.desc⟩ b0 m0 r0 ∈ TT) ∧ (x.cls ≠ "java/lang/invoke/MethodHandle" ∧ x.cls ≠ "java/lang/invoke/VarHandle" ∧ (parseMethodDescriptor x.desc).map (fun d => d.parameters.length) = some a)
theorem RG_O (g : Gd p s m args meth c (wg w j z) nL cc own) {pc idx a maxL q : Nat} {L : List (Nat × Value)} {st As : List Value} {M : Mem} {x y : MethodName} {b : ByteArray} {rm : Room} {ret : Option FieldType} {Q : Array Value → State → Outcome → State → Prop} (had : Ad w) (hao : AO s) (hj : j ≤ 900) (h1j : 1 ≤ j) (hsz : s.heap.size + k = wlo w + j) (cw : CO own idx x y b maxL ret a) (hM : CtG l y b maxL ret rm w j z (.ref (wad w q) :: As) M Q) (hq : q ∈ wL (wg w j z)) (hk : (z q).1 = 10) (hn : As.length = a) (hR : rm.frames + 1 ≤ R.frames ∧ 8 + (maxL + 11) + rm.locals ≤ R.locals) (hC : k + rm.cells ≤ R.cells ∧ n + rm.slots ≤ R.slots) (hs : (st.map fun v => v.category).sum ≤ 8) (d : decode cc pc = .ok (.invokevirtual idx, 3)) : RunG p l e R s m args below meth c w nL k n j z pc L (As.reverse ++ .ref (wad w q) :: st) M st rm (Q (.ref (wad w q) :: As).toArray) :=
  fun H locs ls T hP hS hl hT X => by
    have pg := pre_G (av := .ref (wad w q) :: As) g had hao hj h1j hsz hP hS hT X
    obtain ⟨jx, -, hj2⟩ := wW_get (M := M) hq
    rw [cellE_obj (w := wg w j z) hk (by decide)] at hj2
    obtain ⟨w1, ⟨b0, m0, r0, w2⟩, w3⟩ := cw
    exact va_runU (As := As) (rest := st) (C := "java/lang/StringBuilder") (owner := x.cls) ⟨g.1, g.2.1, g.2.2.1, g.2.2.2.1, g.2.2.2.2.1⟩ hM (va_cwO a g.2.2.2.2.1 (TT_all w1) rfl rfl rfl w2 w3 hR) ⟨pg.1, va_recv g.2.2.2.2.2.1 hP (show vwCl[10]? = some ("java/lang/StringBuilder", T10, 4) from rfl) hj2, pg.2⟩ rfl hn hl.1 rfl (lv_room hs) d hC
/-- super.m(..) -/
def CSu (own : String) (idx : Nat) (y : MethodName) (b : ByteArray) (maxL : Nat) (ret : Option FieldType) (a : Nat) : Prop := (∀ t ∈ va_wsSU own idx y (Cond.code y b maxL ret :: TT), t ∈ TT) ∧ (y.name ≠ "<init>" ∧ (parseMethodDescriptor y.desc).map (fun d => d.parameters.length) = some a)
theorem RG_SU (g : Gd p s m args meth c (wg w j z) nL cc own) {pc idx a maxL q : Nat} {L : List (Nat × Value)} {st As : List Value} {M : Mem} {y : MethodName} {b : ByteArray} {rm : Room} {ret : Option FieldType} {Q : Array Value → State → Outcome → State → Prop} (had : Ad w) (hao : AO s) (hj : j ≤ 900) (h1j : 1 ≤ j) (hsz : s.heap.size + k = wlo w + j) (cw : CSu own idx y b maxL ret a) (hM : CtG l y b maxL ret rm w j z (.ref (wad w q) :: As) M Q) (hq : q ∈ wL (wg w j z)) (hk : (z q).1 = 10) (hn : As.length = a) (hR : rm.frames + 1 ≤ R.frames ∧ 8 + (maxL + 11) + rm.locals ≤ R.locals) (hC : k + rm.cells ≤ R.cells ∧ n + rm.slots ≤ R.slots) (hs : (st.map fun v => v.category).sum ≤ 8) (d : decode cc pc = .ok (.invokespecial idx, 3)) : RunG p l e R s m args below meth c w nL k n j z pc L (As.reverse ++ .ref (wad w q) :: st) M st rm (Q (.ref (wad w q) :: As).toArray) :=
  fun H locs ls T hP hS hl hT X => by
    have pg := pre_G (av := .ref (wad w q) :: As) g had hao hj h1j hsz hP hS hT X
    obtain ⟨jx, -, hj2⟩ := wW_get (M := M) hq
    rw [cellE_obj (w := wg w j z) hk (by decide)] at hj2
    have hat := (g.2.2.2.2.2.1.1 10 ("java/lang/StringBuilder", T10, 4) rfl).2
    exact va_runSU (As := As) (rest := st) hat ⟨g.1, g.2.1, g.2.2.1, g.2.2.2.1, g.2.2.2.2.1⟩ hM (va_cwSU a g.2.2.2.2.1 (TT_all cw.1) rfl rfl rfl cw.2 hR) ⟨pg.1, va_recv g.2.2.2.2.2.1 hP (show vwCl[10]? = some ("java/lang/StringBuilder", T10, 4) from rfl) hj2, pg.2⟩ rfl hn hl.1 rfl (lv_room hs) d hC
/-- a private method of the superclass -/
def CP (own : String) (idx : Nat) (y : MethodName) (b : ByteArray) (maxL : Nat) (ret : Option FieldType) (a : Nat) : Prop := Cond.methodLink own idx y ∈ TT ∧ Cond.sameMethod y.cls y.cls y.name y.desc ∈ TT ∧ Cond.privateMethod y ∈ NW ∧ Cond.instanceMethod y ∈ TT ∧ Cond.initialized y.cls ∈ TT ∧ Cond.code y b maxL ret ∈ TT ∧ (y.cls ≠ "java/lang/invoke/MethodHandle" ∧ y.cls ≠ "java/lang/invoke/VarHandle" ∧ (parseMethodDescriptor y.desc).map (fun d => d.parameters.length) = some a)
theorem RG_P (g : Gd p s m args meth c (wg w j z) nL cc own) {pc idx a maxL q : Nat} {L : List (Nat × Value)} {st As : List Value} {M : Mem} {y : MethodName} {b : ByteArray} {rm : Room} {ret : Option FieldType} {Q : Array Value → State → Outcome → State → Prop} (had : Ad w) (hao : AO s) (hj : j ≤ 900) (h1j : 1 ≤ j) (hsz : s.heap.size + k = wlo w + j) (cw : CP own idx y b maxL ret a) (hM : CtG l y b maxL ret rm w j z (.ref (wad w q) :: As) M Q) (hq : q ∈ wL (wg w j z)) (hk : (z q).1 = 10) (hn : As.length = a) (hR : rm.frames + 1 ≤ R.frames ∧ 8 + (maxL + 11) + rm.locals ≤ R.locals) (hC : k + rm.cells ≤ R.cells ∧ n + rm.slots ≤ R.slots) (hs : (st.map fun v => v.category).sum ≤ 8) (d : decode cc pc = .ok (.invokevirtual idx, 3)) : RunG p l e R s m args below meth c w nL k n j z pc L (As.reverse ++ .ref (wad w q) :: st) M st rm (Q (.ref (wad w q) :: As).toArray) :=
  fun H locs ls T hP hS hl hT X => by
    have pg := pre_G (av := .ref (wad w q) :: As) g had hao hj h1j hsz hP hS hT X
    obtain ⟨jx, -, hj2⟩ := wW_get (M := M) hq
    rw [cellE_obj (w := wg w j z) hk (by decide)] at hj2
    obtain ⟨cellB, hcB, hoB, hclB⟩ := va_recv g.2.2.2.2.2.1 hP (show vwCl[10]? = some ("java/lang/StringBuilder", T10, 4) from rfl) hj2
    obtain ⟨w1, w2, w3, w4, w5, w6, w7⟩ := cw
    have ht := g.2.2.2.2.1
    have hpr : s.PrivateAt y := Cond.privateMethod_at (va_Nw.use (A := args) rfl (g.2.2.2.2.2.2.2.1.2.2.1 _ w3))
    have hb := callB_of (R := R) (rm := rm) (index := idx) (y := y) (bytes := b) (maxL := maxL) (ret := ret) (own := own) a ht (TT_gi w6) rfl rfl rfl (ht _ w5) (ht _ w1) w7 hR
    have hK : Back l R p e below s args y 3 8 (PreOf R rm.cells rm.slots (va_Pc (.ref (wad w q) :: As) (fun U => Wd (wg w j z) M U ∧ U.heap.size = wlo w + j ∧ AO U))) (PostOf Q rm.cells rm.slots (wA w)) := callBack hb hM pg.1
    obtain ⟨cn, ck, r1, hcn, hck, hni, hf, hn1⟩ := Cond.sameMethod_found (ht _ w2)
    have hsel := selects_self_of_private hcn hck hni hpr (ht _ w4) ⟨w7.1, w7.2.1⟩
    intro T2 hT2 X2
    obtain ⟨v, vm₁, ⟨U', l2, c2, s2⟩, hW₁, X', ⟨g', mk, t, L2, e1, e2, hq2, h1, hL2, h2, h3⟩, st2⟩ := X2.privateBack g.1 (own := own) (index := idx) (y := y) (bytes := b) (maxL := maxL) (ret := ret) g.2.2.2.1 (ht _ w1) (ht _ w4) hsel hpr (ht _ w6) ⟨w7.1, w7.2.1⟩ hK (g := F0 m pc ls (As.reverse ++ .ref (wad w q) :: st)) rfl (hl.1.trans g.2.2.1.symm) (s₀ := T2.setTop (F0 m pc ls (As.reverse ++ .ref (wad w q) :: st))) (Steps.refl _) (by rw [hT2]; exact hcB) (fun z h => by rw [h] at hoB; cases hoB) (argsL := As) (rest := st) (fun sig h => by
      have h9 := w7.2.2
      rw [h] at h9
      rw [hn]
      exact (Option.some.inj h9).symm) rfl (lv_room hs) (by rw [g.2.1]; exact d) (fun vm₁ hW₁ => ⟨hC.1, hC.2, pg.2 (T2.setVm vm₁) hT2 hW₁⟩)
    dsimp only [Pt.U, Pt.locs, Pt.cells, Pt.slots] at X' e1 e2 h1 h2 h3 st2
    subst h1; subst h2; subst h3
    exact ⟨v, (T2.setVm vm₁).calling g' mk (Value.ref (wad w q) :: As).toArray, t, U', L2, hT2, X', hL2, e1, e2, hq2, fun target h => st2.trans h⟩
end GG
