/-! constructors: contracts, calls, final fields -/
abbrev QC (w : Wc) (j2 : Nat) (z2 : Shp) (M2 : Mem) := va_Qv (fun (_ : Unit) => True) (fun _ t => Rp (wg w j2 z2) M2 t.heap) (wA w)
/-- the tables' arrays of references -/
def AO (U : State) : Prop := va_AO "KiteLogger$Station" U
theorem AO.moved {u U : State} (hvm : u.vm.Alike U.vm) (h : AO u) : AO U := va_AO.moved hvm h
/-- a constructor: before it j places in shape z, behind it j2 in shape z2 -/
def CtC (l : Launch) (y : MethodName) (b : ByteArray) (maxL : Nat) (rm : Room) (w : Wc) (j j2 : Nat) (z z2 : Shp) (av : List Value) (M M2 : Mem) : Prop :=
  Met l y (.code y b maxL none :: TT) rm (va_Pc av (fun U => Wd (wg w j z) M U ∧ U.heap.size = wlo w + j ∧ AO U)) (QC w j2 z2 M2) rm.cells rm.slots (wA w)
theorem CtC.go {l : Launch} {y : MethodName} {b : ByteArray} {maxL : Nat} {rm : Room} {w : Wc} {j j2 : Nat} {z z2 : Shp} {av : List Value} {M M2 : Mem} (hy : plainName y.cls = true) {L : List (Nat × Value)} (hL : lv_args 0 av = L) (hlen : (lg_sl av).length ≤ maxL)
    (body : ∀ p e s m args below meth c, meth.name = y.name → s.heap.size + 0 = wlo w + j → AO s → Gd p s m args meth c (wg w j z) maxL b y.cls → meth.sig.returnType = none → Go p l e rm s m args below meth c (wg w j z) maxL 0 0 (fun (_ : Unit) => MQ below (QC w j2 z2 M2) args s rm.cells rm.slots (wA w)) (some ()) 0 L [] M) : CtC l y b maxL rm w j j2 z z2 av M M2 := by
  refine Met.ofW (cc := b) (maxL := maxL) (ret := none) hy rfl ?_
  intro p e s m args below meth c s₁ B hml hv
  obtain ⟨rfl, ⟨hP, hK, hW, hlo, hSx⟩, hsz, hao⟩ := hv
  have hts := atoms_spec B.pre
  have hl := lv_entry av hlen
  rw [hL] at hl
  rw [lg_entry_eq]
  exact body p e s m _ below meth c (name_of_methodNamed B.named B.method).1 hsz hao ⟨B.exec, B.bytes, hml, findClass_of_methodNamed B.named, fun x hx => hts x (List.mem_cons_of_mem _ hx), hK, B.notSynchronized, hSx, hW, hlo⟩ B.returns () rfl _ [] _ hP va_S.rf hl
section GY
variable {ρ : Type} {p : Program} {l : Launch} {e : Env} {R : Room} {s : State} {m : MethodId} {args : Array Value} {below : List Frame} {meth : Method} {c : Code} {w : Wc} {nL k n j : Nat} {z : Shp} {Qf : ρ → State → Prop} {cc : ByteArray} {own : String}
theorem G_creturn {M : Mem} (g : Gd p s m args meth c (wg w j z) nL cc own) {L : List (Nat × Value)} {pc mc ms : Nat} (hr0 : meth.sig.returnType = none) (h1 : k ≤ mc) (h2 : n ≤ ms) (d : decode cc pc = .ok (.return_, 1)) : Go p l e R s m args below meth c (wg w j z) nL k n (fun (_ : Unit) => MQ below (QC w j z M) args s mc ms (wA w)) (some ()) pc L [] M := by
  intro r hr H locs ls hP hS hl
  refine W.widen h1 h2 ?_
  exact W.vret (hlocks := g.2.2.2.2.2.2.1) g.1 g.2.1 hr0 (fun t ht hW => ⟨⟨(), rfl, trivial, Rp.at ht hP⟩, hS.F ht⟩) hS.2.2 d
theorem G_objI (g : Gd p s m args meth c w nL cc own) {pc idx q : Nat} {L : List (Nat × Value)} {st : List Value} {M : Mem} {o : Option ρ} (h1 : Cond.methodLink own idx Lib.objectInit ∈ TT) (h2 : Cond.instanceMethod Lib.objectInit ∈ TT) (h3 : Cond.code Lib.objectInit object_method_1_code 1 none ∈ TT) (hR : 1 ≤ R.frames ∧ (st.map fun v => v.category).sum + 12 ≤ R.locals) (d : decode cc pc = .ok (.invokespecial idx, 3)) (kk : Go p l e R s m args below meth c w nL k n Qf o (pc + 3) L st M) : Go p l e R s m args below meth c w nL k n Qf o pc L (.ref (wad w q) :: st) M := by
  intro r hr H locs ls hP hS hl
  refine W.objInit g.1 g.2.1 g.2.2.2.1 (g.2.2.2.2.1 _ h1) (g.2.2.2.2.1 _ h2) (g.2.2.2.2.1 _ h3) rfl (hl.1.trans g.2.2.1.symm) rfl d hR.1 (by show 2 * 0 + _ + 12 ≤ _; omega) ?_
  exact W.eq (g2 := F0 m (pc + 3) ls st) rfl (kk r hr H locs ls hP hS hl)
/-- final fields -/
def FWF (own : String) (ci k : Nat) (ty : FieldType) : Prop := ∃ (C : String) (T : u_T) (N : Nat) (ty0 : Nat → FieldType), vwCl[ci]? = some (C, T, N) ∧ (∀ k, k < N → parseFieldDescriptor (T k).2.2.1 = some (ty0 k)) ∧ (∀ a, a < N → ∀ b, b < N → a ≠ b → (T a).2.1 ≠ (T b).2.1) ∧ (T k).2.2.2 = true ∧ (T k).1 = own ∧ parseFieldDescriptor (T k).2.2.1 = some ty
theorem G_putF (g : Gd p s m args meth c w nL cc own) (hin : meth.name = "<init>") {pc : Nat} {L : List (Nat × Value)} {st : List Value} {M : Mem} {o : Option ρ} {idx ci fk q : Nat} {v : Int32} {ty : FieldType} (fa : FA own idx ci fk 0) (fw : FWF own ci fk ty) (hn : narrow ty (.int v) = .int v) (hf : fits ty (.int v) = true) (hq : q ∈ wL w) (hk : (wZ w q).1 = ci) (d : decode cc pc = .ok (.putfield idx, 3)) (kk : Go p l e R s m args below meth c w nL k n Qf o (pc + 3) L st (put M q fk v)) : Go p l e R s m args below meth c w nL k n Qf o pc L (.int v :: .ref (wad w q) :: st) M := by
  intro r hr H locs ls hP hS hl
  obtain ⟨ref, C, T, N, f1, rfl, f3, f4, f5, f6, f7, f8⟩ := fa
  obtain ⟨C2, T2, N2, ty0, w1, w2, w3, w4, w6, w5⟩ := fw
  cases Option.some.inj (w1.symm.trans f3)
  obtain ⟨j, hj0, hj⟩ := wW_get (M := M) hq
  rw [cellE_obj hk f6] at hj
  refine va_putF g.1 g.2.1 g.2.2.2.2.1 f5 ty0 w2 w3 g.2.2.2.1 g.2.2.2.2.2.1 hP (wD_of g.2.2.2.2.2.2.2.2.1 M) hS j hj f3 fk f4 (g.2.2.2.2.1 _ f1) (fun _ h9 => h9) w4 hin w6 w5 hn hf (by rw [flds_len]; exact f7) d (fun H1 locs1 hP1 _ hS1 => ?_)
  rw [wW_set g.2.2.2.2.2.2.2.2.1 hj0 (f := upd (M q) fk v) (by rw [cellE_obj hk f6, flds_put f7 f8, setR_self])] at hP1
  exact kk r hr H1 locs1 ls hP1 hS1 hl
theorem G_putFR (g : Gd p s m args meth c w nL cc own) (hin : meth.name = "<init>") {pc : Nat} {L : List (Nat × Value)} {st : List Value} {M : Mem} {o : Option ρ} {idx ci fk q q2 : Nat} {ty : FieldType} (fa : FA own idx ci fk 1) (fw : FWF own ci fk ty) (hn : narrow ty (.ref (wad w q2)) = .ref (wad w q2)) (hf : fits ty (.ref (wad w q2)) = true) (hq : q ∈ wL w) (hk : (wZ w q).1 = ci) (d : decode cc pc = .ok (.putfield idx, 3)) (kk : Go p l e R s m args below meth c (wsh w (zset (wZ w) q fk q2)) nL k n Qf o (pc + 3) L st M) : Go p l e R s m args below meth c w nL k n Qf o pc L (.ref (wad w q2) :: .ref (wad w q) :: st) M := by
  intro r hr H locs ls hP hS hl
  obtain ⟨ref, C, T, N, f1, rfl, f3, f4, f5, f6, f7, f8⟩ := fa
  obtain ⟨C2, T2, N2, ty0, w1, w2, w3, w4, w6, w5⟩ := fw
  cases Option.some.inj (w1.symm.trans f3)
  obtain ⟨j, hj0, hj⟩ := wW_get (M := M) hq
  subst hk
  rw [cellE_obj rfl f6] at hj
  refine va_putF g.1 g.2.1 g.2.2.2.2.1 f5 ty0 w2 w3 g.2.2.2.1 g.2.2.2.2.2.1 hP (wD_of g.2.2.2.2.2.2.2.2.1 M) hS j hj f3 fk f4 (g.2.2.2.2.1 _ f1) (fun _ h9 => h9) w4 hin w6 w5 hn hf (by rw [flds_len]; exact f7) d (fun H1 locs1 hP1 _ hS1 => ?_)
  rw [wW_sh g.2.2.2.2.2.2.2.2.1 hj0 f7 f8 f6] at hP1
  exact kk r hr H1 locs1 ls hP1 hS1 hl
theorem CtC.blind {w : Wc} {j : Nat} {z : Shp} {M : Mem} {av : List Value} : FrameBlind (va_Pc av (fun U => Wd (wg w j z) M U ∧ U.heap.size = wlo w + j ∧ AO U)) := by
  intro a U g mk h
  obtain ⟨h0, ⟨h1, h2, h3, h4, h5⟩, hn, ha⟩ := h
  exact ⟨h0, ⟨h1, va_K.moved (u := U) (U := U.calling g mk a) (Vm.Alike.refl U.vm) h2, h3, h4, Sx.frame U _ rfl rfl h5⟩, hn, AO.moved (u := U) (U := U.calling g mk a) (Vm.Alike.refl U.vm) ha⟩
theorem size_eq {M : Mem} {H : Heap} {locs : List Loc} {T : State} (had : Ad w) (hj : j ≤ 900) (h1 : 1 ≤ j) (hsz : s.heap.size + k = wlo w + j) (hP : Rp (wg w j z) M H) (hT : T.heap = H) (X : Stand p l e R s m args below meth c T locs k n) : H.size = wlo w + j := by
  have hb := stand_le X
  rw [hT] at hb
  have hi : (wW (wg w j z) M)[j - 1]? = some (wad w (j - 1), cellE (wg w j z) M (j - 1)) := by
    unfold wW
    show (List.map _ (List.range j))[j - 1]? = _
    rw [List.getElem?_map, List.getElem?_range (by omega)]
    rfl
  have h2 : wad w (j - 1) < H.size := va_at.lt (hP _ _ hi)
  rw [had (j - 1) (by omega)] at h2
  omega
/-- the words of a constructor that is called -/
def CIW (y : MethodName) (b : ByteArray) (maxL a : Nat) : Prop := Cond.instanceMethod y ∈ TT ∧ Cond.initialized y.cls ∈ TT ∧ Cond.code y b maxL none ∈ TT ∧ (y.cls ≠ "java/lang/invoke/MethodHandle" ∧ y.cls ≠ "java/lang/invoke/VarHandle" ∧ (parseMethodDescriptor y.desc).map (fun d => d.parameters.length) = some a)
theorem G_init (g : Gd p s m args meth c (wg w j z) nL cc own) {pc idx a maxL j2 : Nat} {z2 : Shp} {L : List (Nat × Value)} {st As : List Value} {M M2 : Mem} {y : MethodName} {b : ByteArray} {rm : Room} {q : Nat} {o : Option ρ} (had : Ad w) (hao : AO s) (hj : j ≤ 900) (h1j : 1 ≤ j) (hsz : s.heap.size + k = wlo w + j) (cw : (Cond.methodLink own idx y ∈ TT ∨ ∃ host, Cond.methodLinkNest own idx y host ∈ NW) ∧ CIW y b maxL a) (hy : y.name = "<init>") (hM : CtC l y b maxL rm w j j2 z z2 (.ref (wad w q) :: As) M M2) (hn : As.length = a) (hR : rm.frames + 1 ≤ R.frames ∧ 8 + (maxL + 11) + rm.locals ≤ R.locals) (hC : k + rm.cells ≤ R.cells ∧ n + rm.slots ≤ R.slots) (hs : (st.map fun v => v.category).sum ≤ 8) (d : decode cc pc = .ok (.invokespecial idx, 3)) (kk : Go p l e R s m args below meth c (wg w j2 z2) nL (k + rm.cells) (n + rm.slots) Qf o (pc + 3) L st M2) : Go p l e R s m args below meth c (wg w j z) nL k n Qf o pc L (As.reverse ++ .ref (wad w q) :: st) M := by
  intro r hr H locs ls hP hS hl T0 hT X
  have hH := size_eq had hj h1j hsz hP hT X
  have pre : PreS s H (va_Pc (.ref (wad w q) :: As) (fun U => Wd (wg w j z) M U ∧ U.heap.size = wlo w + j ∧ AO U)) (.ref (wad w q) :: As) := ⟨CtC.blind, fun U hU hW => ⟨rfl, ⟨by rw [hU]; exact hP, va_K.moved hW.alike g.2.2.2.2.2.1, g.2.2.2.2.2.2.2.2.1, by rw [hU]; exact Nat.le_trans g.2.2.2.2.2.2.2.2.2 hS.1, Sx.step g.2.2.2.2.2.2.2.1 hS hU hW⟩, by rw [hU]; exact hH, hao.moved hW.alike⟩⟩
  obtain ⟨cl, cw⟩ := cw
  rcases cl with cl | ⟨host, cl⟩
  · exact (va_callv (va_runI (As := As) (rest := st) ⟨g.1, g.2.1, g.2.2.1, g.2.2.2.1, g.2.2.2.2.1⟩ hM ⟨callB_of a g.2.2.2.2.1 (TT_gi cw.2.2.1) rfl rfl rfl (g.2.2.2.2.1 _ cw.2.1) (g.2.2.2.2.1 _ cl) cw.2.2.2 hR, hy, g.2.2.2.2.1 _ cw.1⟩ pre rfl hn hl.1 rfl (lv_room hs) d hC) hS (fun _ _ h => h) (fun _ h => h) (fun u t H1 locs1 ht hvm hw hB hz hkp hS1 => kk r hr H1 locs1 ls (by rw [← ht]; exact hB) hS1 hl)) T0 hT X
  · exact (va_callv (va_runIN (As := As) (rest := st) ⟨g.1, g.2.1, g.2.2.1, g.2.2.2.1, g.2.2.2.2.1⟩ hM ⟨va_cnB a g.2.2.2.2.1 (TT_gi cw.2.2.1) rfl rfl rfl (g.2.2.2.2.2.2.2.1.2.2.1 _ cl) (g.2.2.2.2.1 _ cw.2.1) cw.2.2.2 hR, hy, g.2.2.2.2.1 _ cw.1⟩ pre rfl hn hl.1 rfl (lv_room hs) d hC) hS (fun _ _ h => h) (fun _ h => h) (fun u t H1 locs1 ht hvm hw hB hz hkp hS1 => kk r hr H1 locs1 ls (by rw [← ht]; exact hB) hS1 hl)) T0 hT X
end GY
