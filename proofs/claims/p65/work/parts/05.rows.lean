/-! the judgement of a walk over the memory, and a row an instruction -/
def strT : List String := ["the buffer has no text of this length", "kite", "gusts", "interval", "there is nothing to undo", "there is no snapshot", "there is no such sample", "a number is out of range", "the station does not allow this now", "kite ", ";gusts", ";interval "]
def strB : List (List Int32) := [[116, 104, 101, 32, 98, 117, 102, 102, 101, 114, 32, 104, 97, 115, 32, 110, 111, 32, 116, 101, 120, 116, 32, 111, 102, 32, 116, 104, 105, 115, 32, 108, 101, 110, 103, 116, 104], [107, 105, 116, 101], [103, 117, 115, 116, 115], [105, 110, 116, 101, 114, 118, 97, 108], [116, 104, 101, 114, 101, 32, 105, 115, 32, 110, 111, 116, 104, 105, 110, 103, 32, 116, 111, 32, 117, 110, 100, 111], [116, 104, 101, 114, 101, 32, 105, 115, 32, 110, 111, 32, 115, 110, 97, 112, 115, 104, 111, 116], [116, 104, 101, 114, 101, 32, 105, 115, 32, 110, 111, 32, 115, 117, 99, 104, 32, 115, 97, 109, 112, 108, 101], [97, 32, 110, 117, 109, 98, 101, 114, 32, 105, 115, 32, 111, 117, 116, 32, 111, 102, 32, 114, 97, 110, 103, 101], [116, 104, 101, 32, 115, 116, 97, 116, 105, 111, 110, 32, 100, 111, 101, 115, 32, 110, 111, 116, 32, 97, 108, 108, 111, 119, 32, 116, 104, 105, 115, 32, 110, 111, 119], [107, 105, 116, 101, 32], [59, 103, 117, 115, 116, 115], [59, 105, 110, 116, 101, 114, 118, 97, 108, 32]]
def strS : List (String × Nat × Nat) := [("KiteLogger", 306, 0), ("KiteLogger$StationPlan", 58, 1), ("KiteLogger$StationPlan", 71, 2), ("KiteLogger$StationPlan", 91, 3), ("KiteLogger", 283, 4), ("KiteLogger", 291, 5), ("KiteLogger", 313, 6), ("KiteLogger", 298, 7), ("KiteLogger", 301, 8), ("KiteLoggerLaw", 209, 9), ("KiteLoggerLaw", 221, 10), ("KiteLoggerLaw", 226, 11)]
def lenS (i : Nat) : Nat := (strB.getD i []).length
def bytS (i j : Nat) : Int32 := (strB.getD i []).getD j 0
def fgL : List Int32 := [6, 9, 12, 4, 0, 8]
def dg1L : List Int32 := [48, 49, 50, 51, 52, 53, 54, 55, 56, 57, 48, 49, 50, 51, 52, 53, 54, 55, 56, 57, 48, 49, 50, 51, 52, 53, 54, 55, 56, 57, 48, 49, 50, 51, 52, 53, 54, 55, 56, 57, 48, 49, 50, 51, 52, 53, 54, 55, 56, 57, 48, 49, 50, 51, 52, 53, 54, 55, 56, 57, 48, 49, 50, 51, 52, 53, 54, 55, 56, 57, 48, 49, 50, 51, 52, 53, 54, 55, 56, 57, 48, 49, 50, 51, 52, 53, 54, 55, 56, 57, 48, 49, 50, 51, 52, 53, 54, 55, 56, 57]
def dg10L : List Int32 := [48, 48, 48, 48, 48, 48, 48, 48, 48, 48, 49, 49, 49, 49, 49, 49, 49, 49, 49, 49, 50, 50, 50, 50, 50, 50, 50, 50, 50, 50, 51, 51, 51, 51, 51, 51, 51, 51, 51, 51, 52, 52, 52, 52, 52, 52, 52, 52, 52, 52, 53, 53, 53, 53, 53, 53, 53, 53, 53, 53, 54, 54, 54, 54, 54, 54, 54, 54, 54, 54, 55, 55, 55, 55, 55, 55, 55, 55, 55, 55, 56, 56, 56, 56, 56, 56, 56, 56, 56, 56, 57, 57, 57, 57, 57, 57, 57, 57, 57, 57]
/-- what of the start no method writes: the texts, the first gusts, the statics that a throw reads, the tables' words that warm -/
def Sx (w : Wc) (U : State) : Prop :=
  (∀ i : Nat, i < 12 → va_O "java/lang/String" (wad w (1000 + i)) (wA w) U U.heap ∧ va_OF "java/lang/String" "coder" "B" (.int 0) (wad w (1000 + i)) (wA w) U U.heap ∧ va_OF "java/lang/String" "value" "[B" (.ref (wad w (2000 + i))) (wad w (1000 + i)) (wA w) U U.heap ∧ va_T .byte (wad w (2000 + i)) (lenS i) (fun j => .int (bytS i j)) (wA w) U U.heap) ∧
  (∀ q ∈ strS, vk_R q.1 q.2.1 (strT.getD q.2.2 "") (wad w (1000 + q.2.2)) U) ∧ (∀ x ∈ NW, va_Nw x U) ∧
  va_Z "KiteLogger" "FIRST_GUSTS" "[I" (.ref (wad w 1100)) (wA w) U U.heap ∧ va_T .int (wad w 1100) 6 (fun j => .int (fgL.getD j 0)) (wA w) U U.heap ∧
  va_Z "java/lang/String" "COMPACT_STRINGS" "Z" (.int 1) (wA w) U U.heap ∧ va_Zq "jdk/internal/util/Preconditions" "SIOOBE_FORMATTER" "Ljava/util/function/BiFunction;" (wA w) U U.heap ∧
  va_Z "java/lang/Integer" "DigitOnes" "[B" (.ref (wad w 1101)) (wA w) U U.heap ∧ va_T .byte (wad w 1101) 100 (fun j => .int (dg1L.getD j 0)) (wA w) U U.heap ∧
  va_Z "java/lang/Integer" "DigitTens" "[B" (.ref (wad w 1102)) (wA w) U U.heap ∧ va_T .byte (wad w 1102) 100 (fun j => .int (dg10L.getD j 0)) (wA w) U U.heap
theorem Sx.step {w : Wc} {s U : State} {H : Heap} {locs : List Loc} (h : Sx w s) (hS : va_S (wA w) s.heap H locs) (hH : U.heap = H) (hW : s.WarmedH U.vm) : Sx w U := by
  obtain ⟨h1, h2, h3, h4, h5, h6, h6b, h7, h8, h9, h10⟩ := h
  have hk : ∀ a : Nat, a < s.heap.size → ¬ wA w a → U.heap[a]? = s.heap[a]? := by rw [hH]; exact hS.2.1
  refine ⟨fun i hi => ?_, fun q hq => vk_R.warm hW (h2 q hq), NW_warm hW h3, (va_Z.moved hW.alike h4).kept hk, (va_T.moved hW.alike h5).kept hk, (va_Z.moved hW.alike h6).kept hk, (va_Zq.moved hW.alike h6b).kept hk, (va_Z.moved hW.alike h7).kept hk, (va_T.moved hW.alike h8).kept hk, (va_Z.moved hW.alike h9).kept hk, (va_T.moved hW.alike h10).kept hk⟩
  obtain ⟨a1, a2, a3, a4⟩ := h1 i hi
  exact ⟨(va_O.moved hW.alike a1).kept hk, (va_OF.moved hW.alike a2).kept hk, (va_OF.moved hW.alike a3).kept hk, (va_T.moved hW.alike a4).kept hk⟩
/-- the same statics seen from a frame -/
theorem Sx.frame {w : Wc} (u U : State) (hh : U.heap = u.heap) (hv : U.vm = u.vm) (h : Sx w u) : Sx w U := by
  have hal : u.vm.Alike U.vm := by rw [hv]; exact Vm.Alike.refl _
  obtain ⟨h1, h2, h3, h4, h5, h6, h6b, h7, h8, h9, h10⟩ := h
  refine ⟨fun i hi => ?_, fun q hq => vk_R.same hv (h2 q hq), NW_same hv.symm h3, ?_, ?_, ?_, ?_, ?_, ?_, ?_, ?_⟩
  · obtain ⟨a1, a2, a3, a4⟩ := h1 i hi
    rw [hh]
    exact ⟨va_O.moved hal a1, va_OF.moved hal a2, va_OF.moved hal a3, va_T.moved hal a4⟩
  · rw [hh]; exact va_Z.moved hal h4
  · rw [hh]; exact va_T.moved hal h5
  · rw [hh]; exact va_Z.moved hal h6
  · rw [hh]; exact va_Zq.moved hal h6b
  · rw [hh]; exact va_Z.moved hal h7
  · rw [hh]; exact va_T.moved hal h8
  · rw [hh]; exact va_Z.moved hal h9
  · rw [hh]; exact va_T.moved hal h10
/-- a method's start: the memory M in the heap, the tables, the statics -/
def Wd (w : Wc) (M : Mem) (U : State) : Prop := Rp w M U.heap ∧ va_K (wD w) vwCl (wtys w) U ∧ Wok w ∧ wlo w ≤ U.heap.size ∧ Sx w U
theorem Wd.blind {w : Wc} {M : Mem} {av : List Value} : FrameBlind (va_Pc av (Wd w M)) := by
  intro a U g mk h
  obtain ⟨h0, h1, h2, h3, h4, h5⟩ := h
  exact ⟨h0, h1, va_K.moved (u := U) (U := U.calling g mk a) (Vm.Alike.refl U.vm) h2, h3, h4, Sx.frame U _ rfl rfl h5⟩
theorem Rp.at {w : Wc} {M : Mem} {t : State} {H : Heap} (ht : t.heap = H) (h : Rp w M H) : Rp w M t.heap := by rw [ht]; exact h
def b2i (b : Bool) : Int32 := if b = true then 1 else 0
theorem b2i_nar (b : Bool) : narrow .boolean (.int (b2i b)) = .int (b2i b) := by cases b <;> rfl
abbrev QI (w : Wc) (r : Int32 × Mem) := va_Qi (fun r' (_ : Unit) => r' = r.1) (fun _ t => Rp w r.2 t.heap) (wA w)
abbrev QZ (w : Wc) (r : Bool × Mem) := va_Qi (fun r' (_ : Unit) => r' = b2i r.1) (fun _ t => Rp w r.2 t.heap) (wA w)
abbrev QV (w : Wc) (r : Mem) := va_Qv (fun (_ : Unit) => True) (fun _ t => Rp w r t.heap) (wA w)
abbrev QR (w : Wc) (r : Option Nat × Mem) := va_Qq (fun a (_ : Unit) => a = r.1.map (wad w)) (fun _ t => Rp w r.2 t.heap) (wA w)
abbrev QD (w : Wc) (r : UInt64 × Mem) := va_Qd (fun r' (_ : Unit) => r' = r.1) (fun _ t => Rp w r.2 t.heap) (wA w)
abbrev QF (w : Wc) (r : UInt32 × Mem) := va_Qf (fun r' (_ : Unit) => r' = r.1) (fun _ t => Rp w r.2 t.heap) (wA w)
/-- a method's contract: whenever the pure reading f answers r, the method does -/
def Ct {ρ : Type} (Q : Wc → ρ → Array Value → State → Outcome → State → Prop) (l : Launch) (y : MethodName) (b : ByteArray) (maxL : Nat) (ret : Option FieldType) (rm : Room) (w : Wc) (av : List Value) (M : Mem) (f : Option ρ) : Prop :=
  ∀ r, f = some r → Met l y (.code y b maxL ret :: TT) rm (va_Pc av (Wd w M)) (Q w r) rm.cells rm.slots (wA w)
def imax (x y : Int32) : Int32 := if x < y then y else x
def imin (x y : Int32) : Int32 := if y < x then y else x
def iabs (x : Int32) : Int32 := if 0 ≤ x then x else 0 - x
def irm (x y : Int32) : Int32 := x - x / y * y
def grd {ρ : Type} (b : Bool) (o : Option ρ) : Option ρ := if b = true then o else none
theorem grd_some {ρ : Type} {b : Bool} {o : Option ρ} {r : ρ} (h : grd b o = some r) : b = true ∧ o = some r := by
  unfold grd at h
  by_cases hb : b = true
  · rw [if_pos hb] at h; exact ⟨hb, h⟩
  · rw [if_neg hb] at h; cases h
theorem grd_t {ρ : Type} {b : Bool} {o : Option ρ} (h : b = true) : grd b o = o := if_pos h
def inB (i : Int32) (n : Nat) : Bool := !decide (i < 0) && decide (i.toNatClampNeg < n)
theorem inB_of {i : Int32} {n : Nat} (h : inB i n = true) : vp_in i n := by
  unfold inB at h
  simp only [Bool.and_eq_true, Bool.not_eq_true', decide_eq_false_iff_not, decide_eq_true_eq] at h
  intro hh
  rcases hh with h1 | h1
  · exact h.1 h1
  · omega
def nzB (y : Int32) : Bool := !decide (y = 0)
theorem nzB_of {y : Int32} (h : nzB y = true) : ¬ y = 0 := by
  unfold nzB at h
  simp only [Bool.not_eq_true', decide_eq_false_iff_not] at h
  exact h
def cpB (sp dp z : Int32) (n0 n1 : Nat) : Bool := !decide (sp < 0) && (!decide (dp < 0) && (!decide (z < 0) && (decide (sp.toNatClampNeg + z.toNatClampNeg ≤ n0) && decide (dp.toNatClampNeg + z.toNatClampNeg ≤ n1))))
theorem cpB_of {sp dp z : Int32} {n0 n1 : Nat} (h : cpB sp dp z n0 n1 = true) : ¬ sp < 0 ∧ ¬ dp < 0 ∧ ¬ z < 0 ∧ sp.toNatClampNeg + z.toNatClampNeg ≤ n0 ∧ dp.toNatClampNeg + z.toNatClampNeg ≤ n1 := by
  unfold cpB at h
  simp only [Bool.and_eq_true, Bool.not_eq_true', decide_eq_false_iff_not, decide_eq_true_eq] at h
  exact ⟨h.1, h.2.1, h.2.2.1, h.2.2.2.1, h.2.2.2.2⟩
def nn32 (r : UInt32) : Bool := decide (r &&& 0x7fffffff ≤ 0x7f800000)
theorem nn32_of {r : UInt32} (h : nn32 r = true) : vf_n32 r := of_decide_eq_true (p := r &&& 0x7fffffff ≤ 0x7f800000) h
def nn64 (r : UInt64) : Bool := decide (r &&& 0x7fffffffffffffff ≤ 0x7ff0000000000000)
theorem nn64_of {r : UInt64} (h : nn64 r = true) : vf_n64 r := of_decide_eq_true (p := r &&& 0x7fffffffffffffff ≤ 0x7ff0000000000000) h
def nm {α ρ : Type} (x : α) (f : α → Option ρ) : Option ρ := f x
def jn {α ρ : Type} (f : α) (h : α → Option ρ) : Option ρ := h f
def bcase {ρ : Type} (x : Int32) (o : Bool → Option ρ) : Option ρ := if x = 0 then o false else if x = 1 then o true else none
def ocase {ρ : Type} (x : Option Nat) (o1 : Option ρ) (o2 : Nat → Option ρ) : Option ρ := match x with
  | none => o1
  | some q => grd (stL.contains q) (o2 q)
def scase {ρ : Type} (x : Option Nat) (o : Nat → Option ρ) : Option ρ := match x with
  | none => none
  | some q => grd (decide (1000 ≤ q) && decide (q < 1012)) (o (q - 1000))
section GO
variable {ρ : Type} {p : Program} {l : Launch} {e : Env} {R : Room} {s : State} {m : MethodId} {args : Array Value} {below : List Frame} {meth : Method} {c : Code} {w : Wc} {nL k n : Nat} {Qf : ρ → State → Prop} {cc : ByteArray} {own : String}
/-- from here on the walk does what o says -/
def Go (p : Program) (l : Launch) (e : Env) (R : Room) (s : State) (m : MethodId) (args : Array Value) (below : List Frame) (meth : Method) (c : Code) (w : Wc) (nL k n : Nat) (Qf : ρ → State → Prop) (o : Option ρ) (pc : Nat) (L : List (Nat × Value)) (st : List Value) (M : Mem) : Prop :=
  ∀ r, o = some r → ∀ (H : Heap) (locs : List Loc) (ls : Array Slot), Rp w M H → va_S (wA w) s.heap H locs → lv_has ls nL L → W p l e R s m args below meth c H locs k n (Qf r) (F0 m pc ls st)
/-- what a walk stands on -/
def Gd (p : Program) (s : State) (m : MethodId) (args : Array Value) (meth : Method) (c : Code) (w : Wc) (nL : Nat) (cc : ByteArray) (own : String) : Prop :=
  p.tables.exec = Jvm.exec ∧ c.code = cc ∧ c.maxLocals = nL ∧ s.vm.findClass own = some m.cls ∧ (∀ x ∈ TT, x.before args s = true) ∧ va_K (wD w) vwCl (wtys w) s ∧ meth.locks = false ∧ Sx w s ∧ Wok w ∧ wlo w ≤ s.heap.size
theorem G_iadd (g : Gd p s m args meth c w nL cc own) {pc : Nat} {L : List (Nat × Value)} {st : List Value} {M : Mem} {o : Option ρ} {x y : Int32} (d : decode cc pc = .ok (.iadd, 1)) (kk : Go p l e R s m args below meth c w nL k n Qf o (pc + 1) L (.int (x + y) :: st) M) : Go p l e R s m args below meth c w nL k n Qf o pc L (.int y :: .int x :: st) M :=
  fun r hr H locs ls hP hS hl => lv_iadd g.1 g.2.1 d (kk r hr H locs ls hP hS hl)
theorem G_isub (g : Gd p s m args meth c w nL cc own) {pc : Nat} {L : List (Nat × Value)} {st : List Value} {M : Mem} {o : Option ρ} {x y : Int32} (d : decode cc pc = .ok (.isub, 1)) (kk : Go p l e R s m args below meth c w nL k n Qf o (pc + 1) L (.int (x - y) :: st) M) : Go p l e R s m args below meth c w nL k n Qf o pc L (.int y :: .int x :: st) M :=
  fun r hr H locs ls hP hS hl => lv_isub g.1 g.2.1 d (kk r hr H locs ls hP hS hl)
theorem G_imul (g : Gd p s m args meth c w nL cc own) {pc : Nat} {L : List (Nat × Value)} {st : List Value} {M : Mem} {o : Option ρ} {x y : Int32} (d : decode cc pc = .ok (.imul, 1)) (kk : Go p l e R s m args below meth c w nL k n Qf o (pc + 1) L (.int (x * y) :: st) M) : Go p l e R s m args below meth c w nL k n Qf o pc L (.int y :: .int x :: st) M :=
  fun r hr H locs ls hP hS hl => lv_imul g.1 g.2.1 d (kk r hr H locs ls hP hS hl)
theorem G_iand (g : Gd p s m args meth c w nL cc own) {pc : Nat} {L : List (Nat × Value)} {st : List Value} {M : Mem} {o : Option ρ} {x y : Int32} (d : decode cc pc = .ok (.iand, 1)) (kk : Go p l e R s m args below meth c w nL k n Qf o (pc + 1) L (.int (x &&& y) :: st) M) : Go p l e R s m args below meth c w nL k n Qf o pc L (.int y :: .int x :: st) M :=
  fun r hr H locs ls hP hS hl => lv_iand g.1 g.2.1 d (kk r hr H locs ls hP hS hl)
theorem G_ishr (g : Gd p s m args meth c w nL cc own) {pc : Nat} {L : List (Nat × Value)} {st : List Value} {M : Mem} {o : Option ρ} {x y : Int32} (d : decode cc pc = .ok (.ishr, 1)) (kk : Go p l e R s m args below meth c w nL k n Qf o (pc + 1) L (.int (x >>> (y &&& 31)) :: st) M) : Go p l e R s m args below meth c w nL k n Qf o pc L (.int y :: .int x :: st) M :=
  fun r hr H locs ls hP hS hl => lv_ishr g.1 g.2.1 d (kk r hr H locs ls hP hS hl)
theorem G_iushr (g : Gd p s m args meth c w nL cc own) {pc : Nat} {L : List (Nat × Value)} {st : List Value} {M : Mem} {o : Option ρ} {x y : Int32} (d : decode cc pc = .ok (.iushr, 1)) (kk : Go p l e R s m args below meth c w nL k n Qf o (pc + 1) L (.int ((x.toUInt32 >>> (y.toUInt32 &&& Int32.toUInt32 31)).toInt32) :: st) M) : Go p l e R s m args below meth c w nL k n Qf o pc L (.int y :: .int x :: st) M :=
  fun r hr H locs ls hP hS hl => lv_iushr g.1 g.2.1 d rfl (kk r hr H locs ls hP hS hl)
theorem G_ineg (g : Gd p s m args meth c w nL cc own) {pc : Nat} {L : List (Nat × Value)} {st : List Value} {M : Mem} {o : Option ρ} {x : Int32} (d : decode cc pc = .ok (.ineg, 1)) (kk : Go p l e R s m args below meth c w nL k n Qf o (pc + 1) L (.int (-x) :: st) M) : Go p l e R s m args below meth c w nL k n Qf o pc L (.int x :: st) M :=
  fun r hr H locs ls hP hS hl => lv_ineg g.1 g.2.1 d (kk r hr H locs ls hP hS hl)
theorem G_i2l (g : Gd p s m args meth c w nL cc own) {pc : Nat} {L : List (Nat × Value)} {st : List Value} {M : Mem} {o : Option ρ} {x : Int32} (d : decode cc pc = .ok (.i2l, 1)) (kk : Go p l e R s m args below meth c w nL k n Qf o (pc + 1) L (.long x.toInt64 :: st) M) : Go p l e R s m args below meth c w nL k n Qf o pc L (.int x :: st) M :=
  fun r hr H locs ls hP hS hl => lv_i2l g.1 g.2.1 d rfl (kk r hr H locs ls hP hS hl)
theorem G_i2b (g : Gd p s m args meth c w nL cc own) {pc : Nat} {L : List (Nat × Value)} {st : List Value} {M : Mem} {o : Option ρ} {x : Int32} (d : decode cc pc = .ok (.i2b, 1)) (kk : Go p l e R s m args below meth c w nL k n Qf o (pc + 1) L (.int x.toInt8.toInt32 :: st) M) : Go p l e R s m args below meth c w nL k n Qf o pc L (.int x :: st) M :=
  fun r hr H locs ls hP hS hl => lv_i2b g.1 g.2.1 d rfl (kk r hr H locs ls hP hS hl)
theorem G_i2c (g : Gd p s m args meth c w nL cc own) {pc : Nat} {L : List (Nat × Value)} {st : List Value} {M : Mem} {o : Option ρ} {x : Int32} (d : decode cc pc = .ok (.i2c, 1)) (kk : Go p l e R s m args below meth c w nL k n Qf o (pc + 1) L (.int ((x.toUInt32 % 65536).toInt32) :: st) M) : Go p l e R s m args below meth c w nL k n Qf o pc L (.int x :: st) M :=
  fun r hr H locs ls hP hS hl => lv_i2c g.1 g.2.1 d rfl (kk r hr H locs ls hP hS hl)
theorem G_i2f (g : Gd p s m args meth c w nL cc own) {pc : Nat} {L : List (Nat × Value)} {st : List Value} {M : Mem} {o : Option ρ} {x : Int32} (d : decode cc pc = .ok (.i2f, 1)) (kk : Go p l e R s m args below meth c w nL k n Qf o (pc + 1) L (.float (FP.i2f x) :: st) M) : Go p l e R s m args below meth c w nL k n Qf o pc L (.int x :: st) M :=
  fun r hr H locs ls hP hS hl => lv_i2f g.1 g.2.1 d (kk r hr H locs ls hP hS hl)
theorem G_i2d (g : Gd p s m args meth c w nL cc own) {pc : Nat} {L : List (Nat × Value)} {st : List Value} {M : Mem} {o : Option ρ} {x : Int32} (d : decode cc pc = .ok (.i2d, 1)) (kk : Go p l e R s m args below meth c w nL k n Qf o (pc + 1) L (.double (FP.i2d x) :: st) M) : Go p l e R s m args below meth c w nL k n Qf o pc L (.int x :: st) M :=
  fun r hr H locs ls hP hS hl => lv_i2d g.1 g.2.1 d (kk r hr H locs ls hP hS hl)
theorem G_fconst0 (g : Gd p s m args meth c w nL cc own) {pc : Nat} {L : List (Nat × Value)} {st : List Value} {M : Mem} {o : Option ρ} (d : decode cc pc = .ok (.fconst 0, 1)) (kk : Go p l e R s m args below meth c w nL k n Qf o (pc + 1) L (.float 0 :: st) M) : Go p l e R s m args below meth c w nL k n Qf o pc L st M :=
  fun r hr H locs ls hP hS hl => lv_fconst0 g.1 g.2.1 d (kk r hr H locs ls hP hS hl)
theorem G_dconst0 (g : Gd p s m args meth c w nL cc own) {pc : Nat} {L : List (Nat × Value)} {st : List Value} {M : Mem} {o : Option ρ} (d : decode cc pc = .ok (.dconst 0, 1)) (kk : Go p l e R s m args below meth c w nL k n Qf o (pc + 1) L (.double 0 :: st) M) : Go p l e R s m args below meth c w nL k n Qf o pc L st M :=
  fun r hr H locs ls hP hS hl => lv_dconst0 g.1 g.2.1 d (kk r hr H locs ls hP hS hl)
theorem G_idiv (g : Gd p s m args meth c w nL cc own) {pc : Nat} {L : List (Nat × Value)} {st : List Value} {M : Mem} {o : Option ρ} {x y : Int32} (d : decode cc pc = .ok (.idiv, 1)) (kk : Go p l e R s m args below meth c w nL k n Qf o (pc + 1) L (.int (x / y) :: st) M) : Go p l e R s m args below meth c w nL k n Qf (grd (nzB y) o) pc L (.int y :: .int x :: st) M := by
  intro r hr H locs ls hP hS hl
  obtain ⟨h, hr⟩ := grd_some hr
  exact lv_idiv g.1 g.2.1 d (nzB_of h) (kk r hr H locs ls hP hS hl)
theorem G_idivK (g : Gd p s m args meth c w nL cc own) {pc : Nat} {L : List (Nat × Value)} {st : List Value} {M : Mem} {o : Option ρ} {x y : Int32} (hy : ¬ y = 0) (d : decode cc pc = .ok (.idiv, 1)) (kk : Go p l e R s m args below meth c w nL k n Qf o (pc + 1) L (.int (x / y) :: st) M) : Go p l e R s m args below meth c w nL k n Qf o pc L (.int y :: .int x :: st) M :=
  fun r hr H locs ls hP hS hl => lv_idiv g.1 g.2.1 d hy (kk r hr H locs ls hP hS hl)
theorem G_irem (g : Gd p s m args meth c w nL cc own) {pc : Nat} {L : List (Nat × Value)} {st : List Value} {M : Mem} {o : Option ρ} {x y : Int32} (d : decode cc pc = .ok (.irem, 1)) (kk : Go p l e R s m args below meth c w nL k n Qf o (pc + 1) L (.int (irm x y) :: st) M) : Go p l e R s m args below meth c w nL k n Qf (grd (nzB y) o) pc L (.int y :: .int x :: st) M := by
  intro r hr H locs ls hP hS hl
  obtain ⟨h, hr⟩ := grd_some hr
  exact lv_irem g.1 g.2.1 d (nzB_of h) (kk r hr H locs ls hP hS hl)
theorem G_iremK (g : Gd p s m args meth c w nL cc own) {pc : Nat} {L : List (Nat × Value)} {st : List Value} {M : Mem} {o : Option ρ} {x y : Int32} (hy : ¬ y = 0) (d : decode cc pc = .ok (.irem, 1)) (kk : Go p l e R s m args below meth c w nL k n Qf o (pc + 1) L (.int (irm x y) :: st) M) : Go p l e R s m args below meth c w nL k n Qf o pc L (.int y :: .int x :: st) M :=
  fun r hr H locs ls hP hS hl => lv_irem g.1 g.2.1 d hy (kk r hr H locs ls hP hS hl)
theorem G_fdiv (g : Gd p s m args meth c w nL cc own) {pc : Nat} {L : List (Nat × Value)} {st : List Value} {M : Mem} {o : Option ρ} {x y : UInt32} (d : decode cc pc = .ok (.fdiv, 1)) (kk : Go p l e R s m args below meth c w nL k n Qf o (pc + 1) L (.float (FP.fdiv x y) :: st) M) : Go p l e R s m args below meth c w nL k n Qf (grd (nn32 (FP.fdiv x y)) o) pc L (.float y :: .float x :: st) M := by
  intro r hr H locs ls hP hS hl
  obtain ⟨h, hr⟩ := grd_some hr
  exact lv_fdiv g.1 g.2.1 d (nn32_of h) (kk r hr H locs ls hP hS hl)
theorem G_ddiv (g : Gd p s m args meth c w nL cc own) {pc : Nat} {L : List (Nat × Value)} {st : List Value} {M : Mem} {o : Option ρ} {x y : UInt64} (d : decode cc pc = .ok (.ddiv, 1)) (kk : Go p l e R s m args below meth c w nL k n Qf o (pc + 1) L (.double (FP.ddiv x y) :: st) M) : Go p l e R s m args below meth c w nL k n Qf (grd (nn64 (FP.ddiv x y)) o) pc L (.double y :: .double x :: st) M := by
  intro r hr H locs ls hP hS hl
  obtain ⟨h, hr⟩ := grd_some hr
  exact lv_ddiv g.1 g.2.1 d (nn64_of h) (kk r hr H locs ls hP hS hl)
theorem G_iconst (g : Gd p s m args meth c w nL cc own) {pc : Nat} {L : List (Nat × Value)} {st : List Value} {M : Mem} {o : Option ρ} {z : Int} (v : Int32) (d : decode cc pc = .ok (.iconst z, 1)) (hv : Int32.ofInt z = v) (kk : Go p l e R s m args below meth c w nL k n Qf o (pc + 1) L (.int v :: st) M) : Go p l e R s m args below meth c w nL k n Qf o pc L st M :=
  fun r hr H locs ls hP hS hl => lv_iconst g.1 g.2.1 d hv (kk r hr H locs ls hP hS hl)
theorem G_bipush (g : Gd p s m args meth c w nL cc own) {pc : Nat} {L : List (Nat × Value)} {st : List Value} {M : Mem} {o : Option ρ} {z : Int} (v : Int32) (d : decode cc pc = .ok (.bipush z, 2)) (hv : (Int8.ofInt z).toInt32 = v) (kk : Go p l e R s m args below meth c w nL k n Qf o (pc + 2) L (.int v :: st) M) : Go p l e R s m args below meth c w nL k n Qf o pc L st M :=
  fun r hr H locs ls hP hS hl => lv_bipush g.1 g.2.1 d hv (kk r hr H locs ls hP hS hl)
theorem G_sipush (g : Gd p s m args meth c w nL cc own) {pc : Nat} {L : List (Nat × Value)} {st : List Value} {M : Mem} {o : Option ρ} {z : Int} (v : Int32) (d : decode cc pc = .ok (.sipush z, 3)) (hv : (Int16.ofInt z).toInt32 = v) (kk : Go p l e R s m args below meth c w nL k n Qf o (pc + 3) L (.int v :: st) M) : Go p l e R s m args below meth c w nL k n Qf o pc L st M :=
  fun r hr H locs ls hP hS hl => lv_sipush g.1 g.2.1 d hv (kk r hr H locs ls hP hS hl)
theorem G_iload_n (g : Gd p s m args meth c w nL cc own) {pc : Nat} {L : List (Nat × Value)} {st : List Value} {M : Mem} {o : Option ρ} {f : Fin 4} {i : Nat} {x : Int32} (j : Nat) (d : decode cc pc = .ok (.iload_n f, 1)) (hi : (f : Nat) = i) (hj : L[j]? = some (i, .int x)) (kk : Go p l e R s m args below meth c w nL k n Qf o (pc + 1) L (.int x :: st) M) : Go p l e R s m args below meth c w nL k n Qf o pc L st M :=
  fun r hr H locs ls hP hS hl => lv_iload_n g.1 g.2.1 d hi (lv_at hl j hj) (kk r hr H locs ls hP hS hl)
theorem G_iload (g : Gd p s m args meth c w nL cc own) {pc : Nat} {L : List (Nat × Value)} {st : List Value} {M : Mem} {o : Option ρ} {i : Nat} {x : Int32} (j : Nat) (d : decode cc pc = .ok (.iload i, 2)) (hj : L[j]? = some (i, .int x)) (kk : Go p l e R s m args below meth c w nL k n Qf o (pc + 2) L (.int x :: st) M) : Go p l e R s m args below meth c w nL k n Qf o pc L st M :=
  fun r hr H locs ls hP hS hl => lv_iload g.1 g.2.1 d (lv_at hl j hj) (kk r hr H locs ls hP hS hl)
theorem G_aload_n (g : Gd p s m args meth c w nL cc own) {pc : Nat} {L : List (Nat × Value)} {st : List Value} {M : Mem} {o : Option ρ} {f : Fin 4} {i : Nat} {x : Nat} (j : Nat) (d : decode cc pc = .ok (.aload_n f, 1)) (hi : (f : Nat) = i) (hj : L[j]? = some (i, .ref x)) (kk : Go p l e R s m args below meth c w nL k n Qf o (pc + 1) L (.ref x :: st) M) : Go p l e R s m args below meth c w nL k n Qf o pc L st M :=
  fun r hr H locs ls hP hS hl => lv_aload_n g.1 g.2.1 d hi (lv_at hl j hj) (kk r hr H locs ls hP hS hl)
theorem G_aload (g : Gd p s m args meth c w nL cc own) {pc : Nat} {L : List (Nat × Value)} {st : List Value} {M : Mem} {o : Option ρ} {i : Nat} {x : Nat} (j : Nat) (d : decode cc pc = .ok (.aload i, 2)) (hj : L[j]? = some (i, .ref x)) (kk : Go p l e R s m args below meth c w nL k n Qf o (pc + 2) L (.ref x :: st) M) : Go p l e R s m args below meth c w nL k n Qf o pc L st M :=
  fun r hr H locs ls hP hS hl => lv_aload g.1 g.2.1 d (lv_at hl j hj) (kk r hr H locs ls hP hS hl)
theorem G_dload_n (g : Gd p s m args meth c w nL cc own) {pc : Nat} {L : List (Nat × Value)} {st : List Value} {M : Mem} {o : Option ρ} {f : Fin 4} {i : Nat} {x : UInt64} (j : Nat) (d : decode cc pc = .ok (.dload_n f, 1)) (hi : (f : Nat) = i) (hj : L[j]? = some (i, .double x)) (kk : Go p l e R s m args below meth c w nL k n Qf o (pc + 1) L (.double x :: st) M) : Go p l e R s m args below meth c w nL k n Qf o pc L st M :=
  fun r hr H locs ls hP hS hl => lv_dload_n g.1 g.2.1 d hi (lv_at hl j hj) (kk r hr H locs ls hP hS hl)
theorem G_dload (g : Gd p s m args meth c w nL cc own) {pc : Nat} {L : List (Nat × Value)} {st : List Value} {M : Mem} {o : Option ρ} {i : Nat} {x : UInt64} (j : Nat) (d : decode cc pc = .ok (.dload i, 2)) (hj : L[j]? = some (i, .double x)) (kk : Go p l e R s m args below meth c w nL k n Qf o (pc + 2) L (.double x :: st) M) : Go p l e R s m args below meth c w nL k n Qf o pc L st M :=
  fun r hr H locs ls hP hS hl => lv_dload g.1 g.2.1 d (lv_at hl j hj) (kk r hr H locs ls hP hS hl)
theorem G_aload_nN (g : Gd p s m args meth c w nL cc own) {pc : Nat} {L : List (Nat × Value)} {st : List Value} {M : Mem} {o : Option ρ} {f : Fin 4} {i : Nat} (j : Nat) (d : decode cc pc = .ok (.aload_n f, 1)) (hi : (f : Nat) = i) (hj : L[j]? = some (i, .null)) (kk : Go p l e R s m args below meth c w nL k n Qf o (pc + 1) L (.null :: st) M) : Go p l e R s m args below meth c w nL k n Qf o pc L st M :=
  fun r hr H locs ls hP hS hl => lv_aload_nN g.1 g.2.1 d hi (lv_at hl j hj) (kk r hr H locs ls hP hS hl)
theorem G_istore_n (g : Gd p s m args meth c w nL cc own) {pc : Nat} {L : List (Nat × Value)} {st : List Value} {M : Mem} {o : Option ρ} {f : Fin 4} {i : Nat} {x : Int32} (L2 : List (Nat × Value)) (d : decode cc pc = .ok (.istore_n f, 1)) (hi : (f : Nat) = i) (hn : i < nL) (hL : (i, Value.int x) :: L.filter (fun q => !(q.1 == i) && !(q.1 + 1 == i && q.2.category == 2)) = L2) (kk : Go p l e R s m args below meth c w nL k n Qf o (pc + 1) L2 st M) : Go p l e R s m args below meth c w nL k n Qf o pc L (Value.int x :: st) M :=
  fun r hr H locs ls hP hS hl => lv_istore_n g.1 g.2.1 d hi hl hn hL (fun ls hl => kk r hr H locs ls hP hS hl)
theorem G_istore (g : Gd p s m args meth c w nL cc own) {pc : Nat} {L : List (Nat × Value)} {st : List Value} {M : Mem} {o : Option ρ} {i : Nat} {x : Int32} (L2 : List (Nat × Value)) (d : decode cc pc = .ok (.istore i, 2)) (hn : i < nL) (hL : (i, Value.int x) :: L.filter (fun q => !(q.1 == i) && !(q.1 + 1 == i && q.2.category == 2)) = L2) (kk : Go p l e R s m args below meth c w nL k n Qf o (pc + 2) L2 st M) : Go p l e R s m args below meth c w nL k n Qf o pc L (Value.int x :: st) M :=
  fun r hr H locs ls hP hS hl => lv_istore g.1 g.2.1 d hl hn hL (fun ls hl => kk r hr H locs ls hP hS hl)
theorem G_astore_n (g : Gd p s m args meth c w nL cc own) {pc : Nat} {L : List (Nat × Value)} {st : List Value} {M : Mem} {o : Option ρ} {f : Fin 4} {i : Nat} {x : Nat} (L2 : List (Nat × Value)) (d : decode cc pc = .ok (.astore_n f, 1)) (hi : (f : Nat) = i) (hn : i < nL) (hL : (i, Value.ref x) :: L.filter (fun q => !(q.1 == i) && !(q.1 + 1 == i && q.2.category == 2)) = L2) (kk : Go p l e R s m args below meth c w nL k n Qf o (pc + 1) L2 st M) : Go p l e R s m args below meth c w nL k n Qf o pc L (Value.ref x :: st) M :=
  fun r hr H locs ls hP hS hl => lv_astore_n g.1 g.2.1 d hi hl hn hL (fun ls hl => kk r hr H locs ls hP hS hl)
theorem G_astore (g : Gd p s m args meth c w nL cc own) {pc : Nat} {L : List (Nat × Value)} {st : List Value} {M : Mem} {o : Option ρ} {i : Nat} {x : Nat} (L2 : List (Nat × Value)) (d : decode cc pc = .ok (.astore i, 2)) (hn : i < nL) (hL : (i, Value.ref x) :: L.filter (fun q => !(q.1 == i) && !(q.1 + 1 == i && q.2.category == 2)) = L2) (kk : Go p l e R s m args below meth c w nL k n Qf o (pc + 2) L2 st M) : Go p l e R s m args below meth c w nL k n Qf o pc L (Value.ref x :: st) M :=
  fun r hr H locs ls hP hS hl => lv_astore g.1 g.2.1 d hl hn hL (fun ls hl => kk r hr H locs ls hP hS hl)
theorem G_astore_nN (g : Gd p s m args meth c w nL cc own) {pc : Nat} {L : List (Nat × Value)} {st : List Value} {M : Mem} {o : Option ρ} {f : Fin 4} {i : Nat} (L2 : List (Nat × Value)) (d : decode cc pc = .ok (.astore_n f, 1)) (hi : (f : Nat) = i) (hn : i < nL) (hL : (i, Value.null) :: L.filter (fun q => !(q.1 == i) && !(q.1 + 1 == i && q.2.category == 2)) = L2) (kk : Go p l e R s m args below meth c w nL k n Qf o (pc + 1) L2 st M) : Go p l e R s m args below meth c w nL k n Qf o pc L (.null :: st) M :=
  fun r hr H locs ls hP hS hl => lv_astore_nN g.1 g.2.1 d hi hl hn hL (fun ls hl => kk r hr H locs ls hP hS hl)
theorem G_null (g : Gd p s m args meth c w nL cc own) {pc : Nat} {L : List (Nat × Value)} {st : List Value} {M : Mem} {o : Option ρ} (d : decode cc pc = .ok (.aconst_null, 1)) (kk : Go p l e R s m args below meth c w nL k n Qf o (pc + 1) L (.null :: st) M) : Go p l e R s m args below meth c w nL k n Qf o pc L st M :=
  fun r hr H locs ls hP hS hl => lv_null g.1 g.2.1 d (kk r hr H locs ls hP hS hl)
theorem G_iinc (g : Gd p s m args meth c w nL cc own) {pc : Nat} {L : List (Nat × Value)} {st : List Value} {M : Mem} {o : Option ρ} {i : Nat} {z : Int} {x : Int32} (v : Int32) (L2 : List (Nat × Value)) (j : Nat) (d : decode cc pc = .ok (.iinc i z, 3)) (hj : L[j]? = some (i, .int x)) (hv : x + Int32.ofInt z = v) (hn : i < nL) (hL : (i, Value.int v) :: L.filter (fun q => !(q.1 == i) && !(q.1 + 1 == i && q.2.category == 2)) = L2) (kk : Go p l e R s m args below meth c w nL k n Qf o (pc + 3) L2 st M) : Go p l e R s m args below meth c w nL k n Qf o pc L st M :=
  fun r hr H locs ls hP hS hl => lv_iinc g.1 g.2.1 d hl hj hv hn hL (fun ls hl => kk r hr H locs ls hP hS hl)
theorem G_dup (g : Gd p s m args meth c w nL cc own) {pc : Nat} {L : List (Nat × Value)} {st : List Value} {M : Mem} {o : Option ρ} {va : Value} (d : decode cc pc = .ok (.dup, 1)) (hc : va.category = 1) (kk : Go p l e R s m args below meth c w nL k n Qf o (pc + 1) L (va :: va :: st) M) : Go p l e R s m args below meth c w nL k n Qf o pc L (va :: st) M :=
  fun r hr H locs ls hP hS hl => lv_dup g.1 g.2.1 d hc (kk r hr H locs ls hP hS hl)
theorem G_dup2 (g : Gd p s m args meth c w nL cc own) {pc : Nat} {L : List (Nat × Value)} {st : List Value} {M : Mem} {o : Option ρ} {va vb : Value} (d : decode cc pc = .ok (.dup2, 1)) (ha : va.category = 1) (hb : vb.category = 1) (kk : Go p l e R s m args below meth c w nL k n Qf o (pc + 1) L (va :: vb :: va :: vb :: st) M) : Go p l e R s m args below meth c w nL k n Qf o pc L (va :: vb :: st) M :=
  fun r hr H locs ls hP hS hl => lv_dup2_11 g.1 g.2.1 d ha hb (kk r hr H locs ls hP hS hl)
theorem G_pop (g : Gd p s m args meth c w nL cc own) {pc : Nat} {L : List (Nat × Value)} {st : List Value} {M : Mem} {o : Option ρ} {va : Value} (d : decode cc pc = .ok (.pop, 1)) (hc : va.category = 1) (kk : Go p l e R s m args below meth c w nL k n Qf o (pc + 1) L st M) : Go p l e R s m args below meth c w nL k n Qf o pc L (va :: st) M :=
  fun r hr H locs ls hP hS hl => lv_pop g.1 g.2.1 d hc (kk r hr H locs ls hP hS hl)
theorem G_goto (g : Gd p s m args meth c w nL cc own) {pc : Nat} {L : List (Nat × Value)} {st : List Value} {M : Mem} {o : Option ρ} {off : Int} (tgt : Nat) (d : decode cc pc = .ok (.goto off, 3)) (ht : (pc : Int) + off = (tgt : Int)) (kk : Go p l e R s m args below meth c w nL k n Qf o tgt L st M) : Go p l e R s m args below meth c w nL k n Qf o pc L st M :=
  fun r hr H locs ls hP hS hl => lv_goto g.1 g.2.1 d ht (kk r hr H locs ls hP hS hl)
theorem G_if_eq (g : Gd p s m args meth c w nL cc own) {pc : Nat} {L : List (Nat × Value)} {st : List Value} {M : Mem} {o1 o2 : Option ρ} {x : Int32} {off : Int} (tgt : Nat) (d : decode cc pc = .ok (.ifCond .eq off, 3)) (ht : (pc : Int) + off = (tgt : Int)) (k1 : Go p l e R s m args below meth c w nL k n Qf o1 tgt L st M) (k2 : Go p l e R s m args below meth c w nL k n Qf o2 (pc + 3) L st M) : Go p l e R s m args below meth c w nL k n Qf (if x = 0 then o1 else o2) pc L (.int x :: st) M := by
  intro r hr H locs ls hP hS hl
  refine lv_if_eq g.1 g.2.1 d ht (fun h => ?_) (fun h => ?_)
  · rw [if_pos h] at hr; exact k1 r hr H locs ls hP hS hl
  · rw [if_neg h] at hr; exact k2 r hr H locs ls hP hS hl
theorem G_if_ne (g : Gd p s m args meth c w nL cc own) {pc : Nat} {L : List (Nat × Value)} {st : List Value} {M : Mem} {o1 o2 : Option ρ} {x : Int32} {off : Int} (tgt : Nat) (d : decode cc pc = .ok (.ifCond .ne off, 3)) (ht : (pc : Int) + off = (tgt : Int)) (k1 : Go p l e R s m args below meth c w nL k n Qf o1 (pc + 3) L st M) (k2 : Go p l e R s m args below meth c w nL k n Qf o2 tgt L st M) : Go p l e R s m args below meth c w nL k n Qf (if x = 0 then o1 else o2) pc L (.int x :: st) M := by
  intro r hr H locs ls hP hS hl
  refine lv_if_ne g.1 g.2.1 d ht (fun h => ?_) (fun h => ?_)
  · rw [if_neg h] at hr; exact k2 r hr H locs ls hP hS hl
  · rw [if_pos h] at hr; exact k1 r hr H locs ls hP hS hl
theorem G_if_lt (g : Gd p s m args meth c w nL cc own) {pc : Nat} {L : List (Nat × Value)} {st : List Value} {M : Mem} {o1 o2 : Option ρ} {x : Int32} {off : Int} (tgt : Nat) (d : decode cc pc = .ok (.ifCond .lt off, 3)) (ht : (pc : Int) + off = (tgt : Int)) (k1 : Go p l e R s m args below meth c w nL k n Qf o1 tgt L st M) (k2 : Go p l e R s m args below meth c w nL k n Qf o2 (pc + 3) L st M) : Go p l e R s m args below meth c w nL k n Qf (if x < 0 then o1 else o2) pc L (.int x :: st) M := by
  intro r hr H locs ls hP hS hl
  refine lv_if_lt g.1 g.2.1 d ht (fun h => ?_) (fun h => ?_)
  · rw [if_pos h] at hr; exact k1 r hr H locs ls hP hS hl
  · rw [if_neg h] at hr; exact k2 r hr H locs ls hP hS hl
theorem G_if_ge (g : Gd p s m args meth c w nL cc own) {pc : Nat} {L : List (Nat × Value)} {st : List Value} {M : Mem} {o1 o2 : Option ρ} {x : Int32} {off : Int} (tgt : Nat) (d : decode cc pc = .ok (.ifCond .ge off, 3)) (ht : (pc : Int) + off = (tgt : Int)) (k1 : Go p l e R s m args below meth c w nL k n Qf o1 (pc + 3) L st M) (k2 : Go p l e R s m args below meth c w nL k n Qf o2 tgt L st M) : Go p l e R s m args below meth c w nL k n Qf (if x < 0 then o1 else o2) pc L (.int x :: st) M := by
  intro r hr H locs ls hP hS hl
  refine lv_if_ge g.1 g.2.1 d ht (fun h => ?_) (fun h => ?_)
  · rw [if_neg (Int32.not_lt.mpr h)] at hr; exact k2 r hr H locs ls hP hS hl
  · rw [if_pos (Int32.not_le.mp h)] at hr; exact k1 r hr H locs ls hP hS hl
theorem G_if_gt (g : Gd p s m args meth c w nL cc own) {pc : Nat} {L : List (Nat × Value)} {st : List Value} {M : Mem} {o1 o2 : Option ρ} {x : Int32} {off : Int} (tgt : Nat) (d : decode cc pc = .ok (.ifCond .gt off, 3)) (ht : (pc : Int) + off = (tgt : Int)) (k1 : Go p l e R s m args below meth c w nL k n Qf o1 (pc + 3) L st M) (k2 : Go p l e R s m args below meth c w nL k n Qf o2 tgt L st M) : Go p l e R s m args below meth c w nL k n Qf (if x ≤ 0 then o1 else o2) pc L (.int x :: st) M := by
  intro r hr H locs ls hP hS hl
  refine lv_if_gt g.1 g.2.1 d ht (fun h => ?_) (fun h => ?_)
  · rw [if_neg (Int32.not_le.mpr h)] at hr; exact k2 r hr H locs ls hP hS hl
  · rw [if_pos (Int32.not_lt.mp h)] at hr; exact k1 r hr H locs ls hP hS hl
theorem G_if_le (g : Gd p s m args meth c w nL cc own) {pc : Nat} {L : List (Nat × Value)} {st : List Value} {M : Mem} {o1 o2 : Option ρ} {x : Int32} {off : Int} (tgt : Nat) (d : decode cc pc = .ok (.ifCond .le off, 3)) (ht : (pc : Int) + off = (tgt : Int)) (k1 : Go p l e R s m args below meth c w nL k n Qf o1 (pc + 3) L st M) (k2 : Go p l e R s m args below meth c w nL k n Qf o2 tgt L st M) : Go p l e R s m args below meth c w nL k n Qf (if 0 < x then o1 else o2) pc L (.int x :: st) M := by
  intro r hr H locs ls hP hS hl
  refine lv_if_le g.1 g.2.1 d ht (fun h => ?_) (fun h => ?_)
  · rw [if_neg (Int32.not_lt.mpr h)] at hr; exact k2 r hr H locs ls hP hS hl
  · rw [if_pos (Int32.not_le.mp h)] at hr; exact k1 r hr H locs ls hP hS hl
theorem G_icmp_eq (g : Gd p s m args meth c w nL cc own) {pc : Nat} {L : List (Nat × Value)} {st : List Value} {M : Mem} {o1 o2 : Option ρ} {x y : Int32} {off : Int} (tgt : Nat) (d : decode cc pc = .ok (.if_icmp .eq off, 3)) (ht : (pc : Int) + off = (tgt : Int)) (k1 : Go p l e R s m args below meth c w nL k n Qf o1 tgt L st M) (k2 : Go p l e R s m args below meth c w nL k n Qf o2 (pc + 3) L st M) : Go p l e R s m args below meth c w nL k n Qf (if x = y then o1 else o2) pc L (.int y :: .int x :: st) M := by
  intro r hr H locs ls hP hS hl
  refine lv_icmp_eq g.1 g.2.1 d ht (fun h => ?_) (fun h => ?_)
  · rw [if_pos h] at hr; exact k1 r hr H locs ls hP hS hl
  · rw [if_neg h] at hr; exact k2 r hr H locs ls hP hS hl
theorem G_icmp_ne (g : Gd p s m args meth c w nL cc own) {pc : Nat} {L : List (Nat × Value)} {st : List Value} {M : Mem} {o1 o2 : Option ρ} {x y : Int32} {off : Int} (tgt : Nat) (d : decode cc pc = .ok (.if_icmp .ne off, 3)) (ht : (pc : Int) + off = (tgt : Int)) (k1 : Go p l e R s m args below meth c w nL k n Qf o1 (pc + 3) L st M) (k2 : Go p l e R s m args below meth c w nL k n Qf o2 tgt L st M) : Go p l e R s m args below meth c w nL k n Qf (if x = y then o1 else o2) pc L (.int y :: .int x :: st) M := by
  intro r hr H locs ls hP hS hl
  refine lv_icmp_ne g.1 g.2.1 d ht (fun h => ?_) (fun h => ?_)
  · rw [if_neg h] at hr; exact k2 r hr H locs ls hP hS hl
  · rw [if_pos h] at hr; exact k1 r hr H locs ls hP hS hl
theorem G_icmp_lt (g : Gd p s m args meth c w nL cc own) {pc : Nat} {L : List (Nat × Value)} {st : List Value} {M : Mem} {o1 o2 : Option ρ} {x y : Int32} {off : Int} (tgt : Nat) (d : decode cc pc = .ok (.if_icmp .lt off, 3)) (ht : (pc : Int) + off = (tgt : Int)) (k1 : Go p l e R s m args below meth c w nL k n Qf o1 tgt L st M) (k2 : Go p l e R s m args below meth c w nL k n Qf o2 (pc + 3) L st M) : Go p l e R s m args below meth c w nL k n Qf (if x < y then o1 else o2) pc L (.int y :: .int x :: st) M := by
  intro r hr H locs ls hP hS hl
  refine lv_icmp_lt g.1 g.2.1 d ht (fun h => ?_) (fun h => ?_)
  · rw [if_pos h] at hr; exact k1 r hr H locs ls hP hS hl
  · rw [if_neg h] at hr; exact k2 r hr H locs ls hP hS hl
theorem G_icmp_ge (g : Gd p s m args meth c w nL cc own) {pc : Nat} {L : List (Nat × Value)} {st : List Value} {M : Mem} {o1 o2 : Option ρ} {x y : Int32} {off : Int} (tgt : Nat) (d : decode cc pc = .ok (.if_icmp .ge off, 3)) (ht : (pc : Int) + off = (tgt : Int)) (k1 : Go p l e R s m args below meth c w nL k n Qf o1 (pc + 3) L st M) (k2 : Go p l e R s m args below meth c w nL k n Qf o2 tgt L st M) : Go p l e R s m args below meth c w nL k n Qf (if x < y then o1 else o2) pc L (.int y :: .int x :: st) M := by
  intro r hr H locs ls hP hS hl
  refine lv_icmp_ge g.1 g.2.1 d ht (fun h => ?_) (fun h => ?_)
  · rw [if_neg (Int32.not_lt.mpr h)] at hr; exact k2 r hr H locs ls hP hS hl
  · rw [if_pos (Int32.not_le.mp h)] at hr; exact k1 r hr H locs ls hP hS hl
theorem G_icmp_gt (g : Gd p s m args meth c w nL cc own) {pc : Nat} {L : List (Nat × Value)} {st : List Value} {M : Mem} {o1 o2 : Option ρ} {x y : Int32} {off : Int} (tgt : Nat) (d : decode cc pc = .ok (.if_icmp .gt off, 3)) (ht : (pc : Int) + off = (tgt : Int)) (k1 : Go p l e R s m args below meth c w nL k n Qf o1 (pc + 3) L st M) (k2 : Go p l e R s m args below meth c w nL k n Qf o2 tgt L st M) : Go p l e R s m args below meth c w nL k n Qf (if x ≤ y then o1 else o2) pc L (.int y :: .int x :: st) M := by
  intro r hr H locs ls hP hS hl
  refine lv_icmp_gt g.1 g.2.1 d ht (fun h => ?_) (fun h => ?_)
  · rw [if_neg (Int32.not_le.mpr h)] at hr; exact k2 r hr H locs ls hP hS hl
  · rw [if_pos (Int32.not_lt.mp h)] at hr; exact k1 r hr H locs ls hP hS hl
theorem G_icmp_le (g : Gd p s m args meth c w nL cc own) {pc : Nat} {L : List (Nat × Value)} {st : List Value} {M : Mem} {o1 o2 : Option ρ} {x y : Int32} {off : Int} (tgt : Nat) (d : decode cc pc = .ok (.if_icmp .le off, 3)) (ht : (pc : Int) + off = (tgt : Int)) (k1 : Go p l e R s m args below meth c w nL k n Qf o1 (pc + 3) L st M) (k2 : Go p l e R s m args below meth c w nL k n Qf o2 tgt L st M) : Go p l e R s m args below meth c w nL k n Qf (if y < x then o1 else o2) pc L (.int y :: .int x :: st) M := by
  intro r hr H locs ls hP hS hl
  refine lv_icmp_le g.1 g.2.1 d ht (fun h => ?_) (fun h => ?_)
  · rw [if_neg (Int32.not_lt.mpr h)] at hr; exact k2 r hr H locs ls hP hS hl
  · rw [if_pos (Int32.not_le.mp h)] at hr; exact k1 r hr H locs ls hP hS hl
theorem b2i_0 {b : Bool} : b2i b = 0 ↔ ¬ b = true := by cases b <;> decide
theorem G_if_eqB (g : Gd p s m args meth c w nL cc own) {pc : Nat} {L : List (Nat × Value)} {st : List Value} {M : Mem} {o1 o2 : Option ρ} {b : Bool} {off : Int} (tgt : Nat) (d : decode cc pc = .ok (.ifCond .eq off, 3)) (ht : (pc : Int) + off = (tgt : Int)) (k1 : Go p l e R s m args below meth c w nL k n Qf o1 (pc + 3) L st M) (k2 : Go p l e R s m args below meth c w nL k n Qf o2 tgt L st M) : Go p l e R s m args below meth c w nL k n Qf (if b = true then o1 else o2) pc L (.int (b2i b) :: st) M := by
  intro r hr H locs ls hP hS hl
  refine lv_if_eq g.1 g.2.1 d ht (fun h => ?_) (fun h => ?_)
  · rw [if_neg (b2i_0.mp h)] at hr; exact k2 r hr H locs ls hP hS hl
  · rw [if_pos (by by_cases hb : b = true; exact hb; exact absurd (b2i_0.mpr hb) h)] at hr; exact k1 r hr H locs ls hP hS hl
theorem G_if_neB (g : Gd p s m args meth c w nL cc own) {pc : Nat} {L : List (Nat × Value)} {st : List Value} {M : Mem} {o1 o2 : Option ρ} {b : Bool} {off : Int} (tgt : Nat) (d : decode cc pc = .ok (.ifCond .ne off, 3)) (ht : (pc : Int) + off = (tgt : Int)) (k1 : Go p l e R s m args below meth c w nL k n Qf o1 tgt L st M) (k2 : Go p l e R s m args below meth c w nL k n Qf o2 (pc + 3) L st M) : Go p l e R s m args below meth c w nL k n Qf (if b = true then o1 else o2) pc L (.int (b2i b) :: st) M := by
  intro r hr H locs ls hP hS hl
  refine lv_if_ne g.1 g.2.1 d ht (fun h => ?_) (fun h => ?_)
  · rw [if_pos (by by_cases hb : b = true; exact hb; exact absurd (b2i_0.mpr hb) h)] at hr; exact k1 r hr H locs ls hP hS hl
  · rw [if_neg (b2i_0.mp h)] at hr; exact k2 r hr H locs ls hP hS hl
theorem G_ifT_eq (g : Gd p s m args meth c w nL cc own) {pc : Nat} {L : List (Nat × Value)} {st : List Value} {M : Mem} {o : Option ρ} {x : Int32} {off : Int} (tgt : Nat) (hc : x = 0) (d : decode cc pc = .ok (.ifCond .eq off, 3)) (ht : (pc : Int) + off = (tgt : Int)) (kk : Go p l e R s m args below meth c w nL k n Qf o tgt L st M) : Go p l e R s m args below meth c w nL k n Qf o pc L (.int x :: st) M :=
  fun r hr H locs ls hP hS hl => lv_if_eq g.1 g.2.1 d ht (fun _ => kk r hr H locs ls hP hS hl) (fun h => absurd hc h)
theorem G_ifF_eq (g : Gd p s m args meth c w nL cc own) {pc : Nat} {L : List (Nat × Value)} {st : List Value} {M : Mem} {o : Option ρ} {x : Int32} {off : Int} (tgt : Nat) (hc : ¬ x = 0) (d : decode cc pc = .ok (.ifCond .eq off, 3)) (ht : (pc : Int) + off = (tgt : Int)) (kk : Go p l e R s m args below meth c w nL k n Qf o (pc + 3) L st M) : Go p l e R s m args below meth c w nL k n Qf o pc L (.int x :: st) M :=
  fun r hr H locs ls hP hS hl => lv_if_eq g.1 g.2.1 d ht (fun h => absurd h hc) (fun _ => kk r hr H locs ls hP hS hl)
theorem G_ifT_ne (g : Gd p s m args meth c w nL cc own) {pc : Nat} {L : List (Nat × Value)} {st : List Value} {M : Mem} {o : Option ρ} {x : Int32} {off : Int} (tgt : Nat) (hc : ¬ x = 0) (d : decode cc pc = .ok (.ifCond .ne off, 3)) (ht : (pc : Int) + off = (tgt : Int)) (kk : Go p l e R s m args below meth c w nL k n Qf o tgt L st M) : Go p l e R s m args below meth c w nL k n Qf o pc L (.int x :: st) M :=
  fun r hr H locs ls hP hS hl => lv_if_ne g.1 g.2.1 d ht (fun _ => kk r hr H locs ls hP hS hl) (fun h => absurd h hc)
theorem G_ifF_ne (g : Gd p s m args meth c w nL cc own) {pc : Nat} {L : List (Nat × Value)} {st : List Value} {M : Mem} {o : Option ρ} {x : Int32} {off : Int} (tgt : Nat) (hc : x = 0) (d : decode cc pc = .ok (.ifCond .ne off, 3)) (ht : (pc : Int) + off = (tgt : Int)) (kk : Go p l e R s m args below meth c w nL k n Qf o (pc + 3) L st M) : Go p l e R s m args below meth c w nL k n Qf o pc L (.int x :: st) M :=
  fun r hr H locs ls hP hS hl => lv_if_ne g.1 g.2.1 d ht (fun h => absurd hc h) (fun _ => kk r hr H locs ls hP hS hl)
theorem G_ifT_lt (g : Gd p s m args meth c w nL cc own) {pc : Nat} {L : List (Nat × Value)} {st : List Value} {M : Mem} {o : Option ρ} {x : Int32} {off : Int} (tgt : Nat) (hc : x < 0) (d : decode cc pc = .ok (.ifCond .lt off, 3)) (ht : (pc : Int) + off = (tgt : Int)) (kk : Go p l e R s m args below meth c w nL k n Qf o tgt L st M) : Go p l e R s m args below meth c w nL k n Qf o pc L (.int x :: st) M :=
  fun r hr H locs ls hP hS hl => lv_if_lt g.1 g.2.1 d ht (fun _ => kk r hr H locs ls hP hS hl) (fun h => absurd hc h)
theorem G_ifF_lt (g : Gd p s m args meth c w nL cc own) {pc : Nat} {L : List (Nat × Value)} {st : List Value} {M : Mem} {o : Option ρ} {x : Int32} {off : Int} (tgt : Nat) (hc : ¬ x < 0) (d : decode cc pc = .ok (.ifCond .lt off, 3)) (ht : (pc : Int) + off = (tgt : Int)) (kk : Go p l e R s m args below meth c w nL k n Qf o (pc + 3) L st M) : Go p l e R s m args below meth c w nL k n Qf o pc L (.int x :: st) M :=
  fun r hr H locs ls hP hS hl => lv_if_lt g.1 g.2.1 d ht (fun h => absurd h hc) (fun _ => kk r hr H locs ls hP hS hl)
theorem G_ifT_ge (g : Gd p s m args meth c w nL cc own) {pc : Nat} {L : List (Nat × Value)} {st : List Value} {M : Mem} {o : Option ρ} {x : Int32} {off : Int} (tgt : Nat) (hc : 0 ≤ x) (d : decode cc pc = .ok (.ifCond .ge off, 3)) (ht : (pc : Int) + off = (tgt : Int)) (kk : Go p l e R s m args below meth c w nL k n Qf o tgt L st M) : Go p l e R s m args below meth c w nL k n Qf o pc L (.int x :: st) M :=
  fun r hr H locs ls hP hS hl => lv_if_ge g.1 g.2.1 d ht (fun _ => kk r hr H locs ls hP hS hl) (fun h => absurd hc h)
theorem G_ifF_ge (g : Gd p s m args meth c w nL cc own) {pc : Nat} {L : List (Nat × Value)} {st : List Value} {M : Mem} {o : Option ρ} {x : Int32} {off : Int} (tgt : Nat) (hc : ¬ 0 ≤ x) (d : decode cc pc = .ok (.ifCond .ge off, 3)) (ht : (pc : Int) + off = (tgt : Int)) (kk : Go p l e R s m args below meth c w nL k n Qf o (pc + 3) L st M) : Go p l e R s m args below meth c w nL k n Qf o pc L (.int x :: st) M :=
  fun r hr H locs ls hP hS hl => lv_if_ge g.1 g.2.1 d ht (fun h => absurd h hc) (fun _ => kk r hr H locs ls hP hS hl)
theorem G_ifT_gt (g : Gd p s m args meth c w nL cc own) {pc : Nat} {L : List (Nat × Value)} {st : List Value} {M : Mem} {o : Option ρ} {x : Int32} {off : Int} (tgt : Nat) (hc : 0 < x) (d : decode cc pc = .ok (.ifCond .gt off, 3)) (ht : (pc : Int) + off = (tgt : Int)) (kk : Go p l e R s m args below meth c w nL k n Qf o tgt L st M) : Go p l e R s m args below meth c w nL k n Qf o pc L (.int x :: st) M :=
  fun r hr H locs ls hP hS hl => lv_if_gt g.1 g.2.1 d ht (fun _ => kk r hr H locs ls hP hS hl) (fun h => absurd hc h)
theorem G_ifF_gt (g : Gd p s m args meth c w nL cc own) {pc : Nat} {L : List (Nat × Value)} {st : List Value} {M : Mem} {o : Option ρ} {x : Int32} {off : Int} (tgt : Nat) (hc : ¬ 0 < x) (d : decode cc pc = .ok (.ifCond .gt off, 3)) (ht : (pc : Int) + off = (tgt : Int)) (kk : Go p l e R s m args below meth c w nL k n Qf o (pc + 3) L st M) : Go p l e R s m args below meth c w nL k n Qf o pc L (.int x :: st) M :=
  fun r hr H locs ls hP hS hl => lv_if_gt g.1 g.2.1 d ht (fun h => absurd h hc) (fun _ => kk r hr H locs ls hP hS hl)
theorem G_ifT_le (g : Gd p s m args meth c w nL cc own) {pc : Nat} {L : List (Nat × Value)} {st : List Value} {M : Mem} {o : Option ρ} {x : Int32} {off : Int} (tgt : Nat) (hc : x ≤ 0) (d : decode cc pc = .ok (.ifCond .le off, 3)) (ht : (pc : Int) + off = (tgt : Int)) (kk : Go p l e R s m args below meth c w nL k n Qf o tgt L st M) : Go p l e R s m args below meth c w nL k n Qf o pc L (.int x :: st) M :=
  fun r hr H locs ls hP hS hl => lv_if_le g.1 g.2.1 d ht (fun _ => kk r hr H locs ls hP hS hl) (fun h => absurd hc h)
theorem G_ifF_le (g : Gd p s m args meth c w nL cc own) {pc : Nat} {L : List (Nat × Value)} {st : List Value} {M : Mem} {o : Option ρ} {x : Int32} {off : Int} (tgt : Nat) (hc : ¬ x ≤ 0) (d : decode cc pc = .ok (.ifCond .le off, 3)) (ht : (pc : Int) + off = (tgt : Int)) (kk : Go p l e R s m args below meth c w nL k n Qf o (pc + 3) L st M) : Go p l e R s m args below meth c w nL k n Qf o pc L (.int x :: st) M :=
  fun r hr H locs ls hP hS hl => lv_if_le g.1 g.2.1 d ht (fun h => absurd h hc) (fun _ => kk r hr H locs ls hP hS hl)
theorem G_case {pc : Nat} {L : List (Nat × Value)} {st : List Value} {M : Mem} {o1 o2 : Option ρ} {x v : Int32} (k1 : Go p l e R s m args below meth c w nL k n Qf o1 pc L (.int v :: st) M) (k2 : ¬ x = v → Go p l e R s m args below meth c w nL k n Qf o2 pc L (.int x :: st) M) : Go p l e R s m args below meth c w nL k n Qf (if x = v then o1 else o2) pc L (.int x :: st) M := by
  intro r hr
  by_cases h : x = v
  · subst h
    rw [if_pos rfl] at hr
    exact k1 r hr
  · rw [if_neg h] at hr
    exact k2 h r hr
theorem G_tabK (g : Gd p s m args meth c w nL cc own) {pc : Nat} {L : List (Nat × Value)} {st : List Value} {M : Mem} {o : Option ρ} {dflt lo hi : Int} {offs : Array Int} {len : Nat} {x : Int32} {off : Int} (tgt : Nat) (d : decode cc pc = .ok (.tableswitch dflt lo hi offs, len)) (h1 : ¬ x.toInt < lo) (h2 : ¬ hi < x.toInt) (ho : offs[(x.toInt - lo).toNat]? = some off) (ht : (pc : Int) + off = (tgt : Int)) (kk : Go p l e R s m args below meth c w nL k n Qf o tgt L st M) : Go p l e R s m args below meth c w nL k n Qf o pc L (.int x :: st) M :=
  fun r hr H locs ls hP hS hl => lv_tableIn g.1 g.2.1 d h1 h2 ho ht (kk r hr H locs ls hP hS hl)
theorem G_tabD (g : Gd p s m args meth c w nL cc own) {pc : Nat} {L : List (Nat × Value)} {st : List Value} {M : Mem} {o : Option ρ} {dflt lo hi : Int} {offs : Array Int} {len : Nat} {x : Int32} (tgt : Nat) (d : decode cc pc = .ok (.tableswitch dflt lo hi offs, len)) (h : x.toInt < lo ∨ hi < x.toInt) (ht : (pc : Int) + dflt = (tgt : Int)) (kk : Go p l e R s m args below meth c w nL k n Qf o tgt L st M) : Go p l e R s m args below meth c w nL k n Qf o pc L (.int x :: st) M :=
  fun r hr H locs ls hP hS hl => lv_tableOut g.1 g.2.1 d h ht (kk r hr H locs ls hP hS hl)
theorem G_lkp (g : Gd p s m args meth c w nL cc own) {pc : Nat} {L : List (Nat × Value)} {st : List Value} {M : Mem} {o : Option ρ} {dflt : Int} {ps : Array (Int × Int)} {len : Nat} {x : Int32} {off : Int} (tgt : Nat) (d : decode cc pc = .ok (.lookupswitch dflt ps, len)) (hp : (ps.toList.zip (ps.toList.drop 1)).all (fun (a, next) => a.1 < next.1) = true) (ho : Op.lookupswitch.offset ps.toList dflt x.toInt = off) (ht : (pc : Int) + off = (tgt : Int)) (kk : Go p l e R s m args below meth c w nL k n Qf o tgt L st M) : Go p l e R s m args below meth c w nL k n Qf o pc L (.int x :: st) M :=
  fun r hr H locs ls hP hS hl => lv_lookup g.1 g.2.1 d hp ho ht (kk r hr H locs ls hP hS hl)
theorem G_ifnull (g : Gd p s m args meth c w nL cc own) {pc : Nat} {L : List (Nat × Value)} {st : List Value} {M : Mem} {o : Option ρ} {q : Nat} {off : Int} (d : decode cc pc = .ok (.ifnull off, 3)) (kk : Go p l e R s m args below meth c w nL k n Qf o (pc + 3) L st M) : Go p l e R s m args below meth c w nL k n Qf o pc L (.ref q :: st) M :=
  fun r hr H locs ls hP hS hl => lv_ifnull g.1 g.2.1 d (kk r hr H locs ls hP hS hl)
theorem G_ifnullN (g : Gd p s m args meth c w nL cc own) {pc : Nat} {L : List (Nat × Value)} {st : List Value} {M : Mem} {o : Option ρ} {off : Int} (tgt : Nat) (d : decode cc pc = .ok (.ifnull off, 3)) (ht : (pc : Int) + off = (tgt : Int)) (kk : Go p l e R s m args below meth c w nL k n Qf o tgt L st M) : Go p l e R s m args below meth c w nL k n Qf o pc L (.null :: st) M :=
  fun r hr H locs ls hP hS hl => lv_ifnullN g.1 g.2.1 d ht (kk r hr H locs ls hP hS hl)
theorem G_get (g : Gd p s m args meth c w nL cc own) {pc : Nat} {L : List (Nat × Value)} {st : List Value} {M : Mem} {o : Option ρ} {idx ci fk q : Nat} (fa : FA own idx ci fk 0) (hq : q ∈ wL w) (hk : (wZ w q).1 = ci) (d : decode cc pc = .ok (.getfield idx, 3)) (kk : Go p l e R s m args below meth c w nL k n Qf o (pc + 3) L (.int (M q fk) :: st) M) : Go p l e R s m args below meth c w nL k n Qf o pc L (.ref (wad w q) :: st) M := by
  intro r hr H locs ls hP hS hl
  obtain ⟨ref, C, T, N, f1, rfl, f3, f4, f5, f6, f7, f8⟩ := fa
  obtain ⟨j, -, hj⟩ := wW_get (M := M) hq
  rw [cellE_obj hk f6] at hj
  exact va_get g.1 g.2.1 g.2.2.2.2.1 f5 g.2.2.2.1 g.2.2.2.2.2.1 hP j hj f3 fk f4 (g.2.2.2.2.1 _ f1) (fun _ h9 => h9) (flds_int f7 f8) d (kk r hr H locs ls hP hS hl)
theorem G_getR (g : Gd p s m args meth c w nL cc own) {pc : Nat} {L : List (Nat × Value)} {st : List Value} {M : Mem} {o : Option ρ} {idx ci fk q q2 : Nat} (fa : FA own idx ci fk 1) (hq : q ∈ wL w) (hk : (wZ w q).1 = ci) (hz : (wZ w q).2.2 fk = some q2) (d : decode cc pc = .ok (.getfield idx, 3)) (kk : Go p l e R s m args below meth c w nL k n Qf o (pc + 3) L (.ref (wad w q2) :: st) M) : Go p l e R s m args below meth c w nL k n Qf o pc L (.ref (wad w q) :: st) M := by
  intro r hr H locs ls hP hS hl
  obtain ⟨ref, C, T, N, f1, rfl, f3, f4, f5, f6, f7, f8⟩ := fa
  obtain ⟨j, -, hj⟩ := wW_get (M := M) hq
  rw [cellE_obj hk f6] at hj
  exact va_get g.1 g.2.1 g.2.2.2.2.1 f5 g.2.2.2.1 g.2.2.2.2.2.1 hP j hj f3 fk f4 (g.2.2.2.2.1 _ f1) (fun _ h9 => h9) (flds_ref f7 f8 hz) d (kk r hr H locs ls hP hS hl)
theorem G_put (g : Gd p s m args meth c w nL cc own) {pc : Nat} {L : List (Nat × Value)} {st : List Value} {M : Mem} {o : Option ρ} {idx ci fk q : Nat} {v : Int32} {ty : FieldType} (fa : FA own idx ci fk 0) (fw : FW ci fk ty) (hn : narrow ty (.int v) = .int v) (hf : fits ty (.int v) = true) (hq : q ∈ wL w) (hk : (wZ w q).1 = ci) (d : decode cc pc = .ok (.putfield idx, 3)) (kk : Go p l e R s m args below meth c w nL k n Qf o (pc + 3) L st (put M q fk v)) : Go p l e R s m args below meth c w nL k n Qf o pc L (.int v :: .ref (wad w q) :: st) M := by
  intro r hr H locs ls hP hS hl
  obtain ⟨ref, C, T, N, f1, rfl, f3, f4, f5, f6, f7, f8⟩ := fa
  obtain ⟨C2, T2, N2, ty0, w1, w2, w3, w4, w5⟩ := fw
  cases Option.some.inj (w1.symm.trans f3)
  obtain ⟨j, hj0, hj⟩ := wW_get (M := M) hq
  rw [cellE_obj hk f6] at hj
  refine va_put g.1 g.2.1 g.2.2.2.2.1 f5 ty0 w2 w3 g.2.2.2.1 g.2.2.2.2.2.1 hP (wD_of g.2.2.2.2.2.2.2.2.1 M) hS j hj f3 fk f4 (g.2.2.2.2.1 _ f1) (fun _ h9 => h9) w4 w5 hn hf (by rw [flds_len]; exact f7) d (fun H1 locs1 hP1 _ hS1 => ?_)
  rw [wW_set g.2.2.2.2.2.2.2.2.1 hj0 (f := upd (M q) fk v) (by rw [cellE_obj hk f6, flds_put f7 f8, setR_self])] at hP1
  exact kk r hr H1 locs1 ls hP1 hS1 hl
theorem G_getN (g : Gd p s m args meth c w nL cc own) {pc : Nat} {L : List (Nat × Value)} {st : List Value} {M : Mem} {o : Option ρ} {idx ci fk q : Nat} (fa : FN own idx ci fk 0) (hq : q ∈ wL w) (hk : (wZ w q).1 = ci) (d : decode cc pc = .ok (.getfield idx, 3)) (kk : Go p l e R s m args below meth c w nL k n Qf o (pc + 3) L (.int (M q fk) :: st) M) : Go p l e R s m args below meth c w nL k n Qf o pc L (.ref (wad w q) :: st) M := by
  intro r hr H locs ls hP hS hl
  obtain ⟨ref, host, C, T, N, f1, rfl, f3, f4, f5, f6, f7, f8⟩ := fa
  obtain ⟨j, -, hj⟩ := wW_get (M := M) hq
  rw [cellE_obj hk f6] at hj
  exact va_getN g.1 g.2.1 g.2.2.2.2.1 f5 g.2.2.2.1 g.2.2.2.2.2.1 hP j hj f3 fk f4 (va_Nw.use rfl (g.2.2.2.2.2.2.2.1.2.2.1 _ f1)) (fun _ h9 => h9) (flds_int f7 f8) d (kk r hr H locs ls hP hS hl)
theorem G_getRN (g : Gd p s m args meth c w nL cc own) {pc : Nat} {L : List (Nat × Value)} {st : List Value} {M : Mem} {o : Option ρ} {idx ci fk q q2 : Nat} (fa : FN own idx ci fk 1) (hq : q ∈ wL w) (hk : (wZ w q).1 = ci) (hz : (wZ w q).2.2 fk = some q2) (d : decode cc pc = .ok (.getfield idx, 3)) (kk : Go p l e R s m args below meth c w nL k n Qf o (pc + 3) L (.ref (wad w q2) :: st) M) : Go p l e R s m args below meth c w nL k n Qf o pc L (.ref (wad w q) :: st) M := by
  intro r hr H locs ls hP hS hl
  obtain ⟨ref, host, C, T, N, f1, rfl, f3, f4, f5, f6, f7, f8⟩ := fa
  obtain ⟨j, -, hj⟩ := wW_get (M := M) hq
  rw [cellE_obj hk f6] at hj
  exact va_getN g.1 g.2.1 g.2.2.2.2.1 f5 g.2.2.2.1 g.2.2.2.2.2.1 hP j hj f3 fk f4 (va_Nw.use rfl (g.2.2.2.2.2.2.2.1.2.2.1 _ f1)) (fun _ h9 => h9) (flds_ref f7 f8 hz) d (kk r hr H locs ls hP hS hl)
theorem G_putN (g : Gd p s m args meth c w nL cc own) {pc : Nat} {L : List (Nat × Value)} {st : List Value} {M : Mem} {o : Option ρ} {idx ci fk q : Nat} {v : Int32} {ty : FieldType} (fa : FN own idx ci fk 0) (fw : FW ci fk ty) (hn : narrow ty (.int v) = .int v) (hf : fits ty (.int v) = true) (hq : q ∈ wL w) (hk : (wZ w q).1 = ci) (d : decode cc pc = .ok (.putfield idx, 3)) (kk : Go p l e R s m args below meth c w nL k n Qf o (pc + 3) L st (put M q fk v)) : Go p l e R s m args below meth c w nL k n Qf o pc L (.int v :: .ref (wad w q) :: st) M := by
  intro r hr H locs ls hP hS hl
  obtain ⟨ref, host, C, T, N, f1, rfl, f3, f4, f5, f6, f7, f8⟩ := fa
  obtain ⟨C2, T2, N2, ty0, w1, w2, w3, w4, w5⟩ := fw
  cases Option.some.inj (w1.symm.trans f3)
  obtain ⟨j, hj0, hj⟩ := wW_get (M := M) hq
  rw [cellE_obj hk f6] at hj
  refine va_putN g.1 g.2.1 g.2.2.2.2.1 f5 ty0 w2 w3 g.2.2.2.1 g.2.2.2.2.2.1 hP (wD_of g.2.2.2.2.2.2.2.2.1 M) hS j hj f3 fk f4 (va_Nw.use rfl (g.2.2.2.2.2.2.2.1.2.2.1 _ f1)) (fun _ h9 => h9) w4 w5 hn hf (by rw [flds_len]; exact f7) d (fun H1 locs1 hP1 _ hS1 => ?_)
  rw [wW_set g.2.2.2.2.2.2.2.2.1 hj0 (f := upd (M q) fk v) (by rw [cellE_obj hk f6, flds_put f7 f8, setR_self])] at hP1
  exact kk r hr H1 locs1 ls hP1 hS1 hl
theorem G_iald (g : Gd p s m args meth c w nL cc own) {pc : Nat} {L : List (Nat × Value)} {st : List Value} {M : Mem} {o : Option ρ} {q nn : Nat} {i : Int32} (hq : q ∈ wL w) (hk : (wZ w q).1 = 20) (hn : (wZ w q).2.1 = nn) (d : decode cc pc = .ok (.iaload, 1)) (kk : Go p l e R s m args below meth c w nL k n Qf o (pc + 1) L (.int (M q i.toNatClampNeg) :: st) M) : Go p l e R s m args below meth c w nL k n Qf (grd (inB i nn) o) pc L (.int i :: .ref (wad w q) :: st) M := by
  intro r hr H locs ls hP hS hl
  obtain ⟨h, hr⟩ := grd_some hr
  have h := inB_of h
  · skip
    obtain ⟨j, -, hj⟩ := wW_get (M := M) hq
    rw [cellE_arr hk, hn] at hj
    exact va_iald g.1 g.2.1 g.2.2.2.2.2.1 hP j 0 hj rfl h d (kk r hr H locs ls hP hS hl)
theorem G_bald (g : Gd p s m args meth c w nL cc own) {pc : Nat} {L : List (Nat × Value)} {st : List Value} {M : Mem} {o : Option ρ} {q nn : Nat} {i : Int32} (hq : q ∈ wL w) (hk : (wZ w q).1 = 21) (hn : (wZ w q).2.1 = nn) (d : decode cc pc = .ok (.baload, 1)) (kk : Go p l e R s m args below meth c w nL k n Qf o (pc + 1) L (.int (M q i.toNatClampNeg) :: st) M) : Go p l e R s m args below meth c w nL k n Qf (grd (inB i nn) o) pc L (.int i :: .ref (wad w q) :: st) M := by
  intro r hr H locs ls hP hS hl
  obtain ⟨h, hr⟩ := grd_some hr
  have h := inB_of h
  · skip
    obtain ⟨j, -, hj⟩ := wW_get (M := M) hq
    rw [cellE_byt hk, hn] at hj
    exact va_bald g.1 g.2.1 g.2.2.2.2.2.1 hP j 1 hj rfl h d (kk r hr H locs ls hP hS hl)
theorem G_iast (g : Gd p s m args meth c w nL cc own) {pc : Nat} {L : List (Nat × Value)} {st : List Value} {M : Mem} {o : Option ρ} {q nn : Nat} {i x : Int32} (hq : q ∈ wL w) (hk : (wZ w q).1 = 20) (hn : (wZ w q).2.1 = nn) (d : decode cc pc = .ok (.iastore, 1)) (kk : Go p l e R s m args below meth c w nL k n Qf o (pc + 1) L st (put M q i.toNatClampNeg x)) : Go p l e R s m args below meth c w nL k n Qf (grd (inB i nn) o) pc L (.int x :: .int i :: .ref (wad w q) :: st) M := by
  intro r hr H locs ls hP hS hl
  obtain ⟨h, hr⟩ := grd_some hr
  have h := inB_of h
  · skip
    obtain ⟨j, hj0, hj⟩ := wW_get (M := M) hq
    rw [cellE_arr hk, hn] at hj
    refine va_iast g.1 g.2.1 g.2.2.2.2.2.1 hP (wD_of g.2.2.2.2.2.2.2.2.1 M) hS j 0 hj rfl h d (fun H1 locs1 hP1 _ hS1 => ?_)
    rw [wW_set g.2.2.2.2.2.2.2.2.1 hj0 (f := upd (M q) i.toNatClampNeg x) (by rw [cellE_arr hk, setR_self, hn])] at hP1
    exact kk r hr H1 locs1 ls hP1 hS1 hl
theorem G_bast (g : Gd p s m args meth c w nL cc own) {pc : Nat} {L : List (Nat × Value)} {st : List Value} {M : Mem} {o : Option ρ} {q nn : Nat} {i x : Int32} (hq : q ∈ wL w) (hk : (wZ w q).1 = 21) (hn : (wZ w q).2.1 = nn) (d : decode cc pc = .ok (.bastore, 1)) (kk : Go p l e R s m args below meth c w nL k n Qf o (pc + 1) L st (put M q i.toNatClampNeg (vp_nar .byte x))) : Go p l e R s m args below meth c w nL k n Qf (grd (inB i nn) o) pc L (.int x :: .int i :: .ref (wad w q) :: st) M := by
  intro r hr H locs ls hP hS hl
  obtain ⟨h, hr⟩ := grd_some hr
  have h := inB_of h
  · skip
    obtain ⟨j, hj0, hj⟩ := wW_get (M := M) hq
    rw [cellE_byt hk, hn] at hj
    refine va_bast g.1 g.2.1 g.2.2.2.2.2.1 hP (wD_of g.2.2.2.2.2.2.2.2.1 M) hS j 1 hj rfl h d (fun H1 locs1 hP1 _ hS1 => ?_)
    rw [wW_set g.2.2.2.2.2.2.2.2.1 hj0 (f := upd (M q) i.toNatClampNeg (vp_nar .byte x)) (by rw [cellE_byt hk, setR_self, hn])] at hP1
    exact kk r hr H1 locs1 ls hP1 hS1 hl
theorem G_ialdK (g : Gd p s m args meth c w nL cc own) {pc : Nat} {L : List (Nat × Value)} {st : List Value} {M : Mem} {o : Option ρ} {q nn : Nat} {i : Int32} (j : Nat) (hi : inB i nn = true) (hij : i.toNatClampNeg = j) (hq : q ∈ wL w) (hk : (wZ w q).1 = 20) (hn : (wZ w q).2.1 = nn) (d : decode cc pc = .ok (.iaload, 1)) (kk : Go p l e R s m args below meth c w nL k n Qf o (pc + 1) L (.int (M q j) :: st) M) : Go p l e R s m args below meth c w nL k n Qf o pc L (.int i :: .ref (wad w q) :: st) M := by
  subst hij
  have h := G_iald g (o := o) hq hk hn d kk
  rw [grd_t hi] at h
  exact h
theorem G_iastK (g : Gd p s m args meth c w nL cc own) {pc : Nat} {L : List (Nat × Value)} {st : List Value} {M : Mem} {o : Option ρ} {q nn : Nat} {i x : Int32} (j : Nat) (hi : inB i nn = true) (hij : i.toNatClampNeg = j) (hq : q ∈ wL w) (hk : (wZ w q).1 = 20) (hn : (wZ w q).2.1 = nn) (d : decode cc pc = .ok (.iastore, 1)) (kk : Go p l e R s m args below meth c w nL k n Qf o (pc + 1) L st (put M q j x)) : Go p l e R s m args below meth c w nL k n Qf o pc L (.int x :: .int i :: .ref (wad w q) :: st) M := by
  subst hij
  have h := G_iast g (o := o) hq hk hn d kk
  rw [grd_t hi] at h
  exact h
theorem G_nmM {pc : Nat} {L : List (Nat × Value)} {st : List Value} {M : Mem} {o : Mem → Option ρ} (kk : ∀ M1 : Mem, Go p l e R s m args below meth c w nL k n Qf (o M1) pc L st M1) : Go p l e R s m args below meth c w nL k n Qf (nm M o) pc L st M := kk M
theorem G_nmX {pc : Nat} {L : List (Nat × Value)} {st : List Value} {M : Mem} (t : Int32) {o : Int32 → Option ρ} (kk : ∀ y : Int32, y = t → Go p l e R s m args below meth c w nL k n Qf (o y) pc L st M) : Go p l e R s m args below meth c w nL k n Qf (nm t o) pc L st M := kk t rfl
theorem G_nmI {pc : Nat} {L : List (Nat × Value)} {st : List Value} {M : Mem} {x : Int32} {o : Int32 → Option ρ} (kk : ∀ y : Int32, Go p l e R s m args below meth c w nL k n Qf (o y) pc L (.int y :: st) M) : Go p l e R s m args below meth c w nL k n Qf (nm x o) pc L (.int x :: st) M := kk x
theorem G_bcase {pc : Nat} {L : List (Nat × Value)} {st : List Value} {M : Mem} {x : Int32} {o : Bool → Option ρ} (kk : ∀ b : Bool, Go p l e R s m args below meth c w nL k n Qf (o b) pc L (.int (b2i b) :: st) M) : Go p l e R s m args below meth c w nL k n Qf (bcase x o) pc L (.int x :: st) M := by
  intro r hr
  unfold bcase at hr
  by_cases h : x = 0
  · subst h; rw [if_pos rfl] at hr; exact kk false r hr
  · rw [if_neg h] at hr
    by_cases h1 : x = 1
    · subst h1; rw [if_pos rfl] at hr; exact kk true r hr
    · rw [if_neg h1] at hr; cases hr
theorem G_sub {pc : Nat} {L : List (Nat × Value)} {st : List Value} {M : Mem} {o : Option ρ} (ks : List Nat) (L2 : List (Nat × Value)) (hL : lv_pick L ks = L2) (kk : Go p l e R s m args below meth c w nL k n Qf o pc L2 st M) : Go p l e R s m args below meth c w nL k n Qf o pc L st M := fun r hr H locs ls hP hS hl => kk r hr H locs ls hP hS (lv_sub hl ks hL)
theorem G_none {pc : Nat} {L : List (Nat × Value)} {st : List Value} {M : Mem} : Go p l e R s m args below meth c w nL k n Qf none pc L st M := fun r hr => nomatch hr
theorem G_jn {pc : Nat} {L : List (Nat × Value)} {st : List Value} {M : Mem} {A : Type} {f : A → Mem → Option ρ} {h : (A → Mem → Option ρ) → Option ρ} (pj : Nat) (Lj : A → List (Nat × Value)) (sj : A → List Value) (k1 : ∀ a M1, Go p l e R s m args below meth c w nL k n Qf (f a M1) pj (Lj a) (sj a) M1) (k2 : ∀ j : A → Mem → Option ρ, (∀ a M1, Go p l e R s m args below meth c w nL k n Qf (j a M1) pj (Lj a) (sj a) M1) → Go p l e R s m args below meth c w nL k n Qf (h j) pc L st M) : Go p l e R s m args below meth c w nL k n Qf (jn f h) pc L st M := k2 f k1
theorem G_loop {A : Type} {F : Nat → A → Mem → (A → Mem → Option ρ) → Option ρ} {K : A → Mem → Option ρ} (h x : Nat) (Lh Lx : A → List (Nat × Value)) (h0 : ∀ a M K, F 0 a M K = none) (hk : ∀ a M, Go p l e R s m args below meth c w nL k n Qf (K a M) x (Lx a) [] M) (hs : ∀ K : A → Mem → Option ρ, (∀ a M, Go p l e R s m args below meth c w nL k n Qf (K a M) x (Lx a) [] M) → ∀ N, (∀ a M, Go p l e R s m args below meth c w nL k n Qf (F N a M K) h (Lh a) [] M) → ∀ a M, Go p l e R s m args below meth c w nL k n Qf (F (N + 1) a M K) h (Lh a) [] M) (N : Nat) (a : A) (M : Mem) : Go p l e R s m args below meth c w nL k n Qf (F N a M K) h (Lh a) [] M := by
  have key : ∀ N, ∀ a M, Go p l e R s m args below meth c w nL k n Qf (F N a M K) h (Lh a) [] M := by
    intro N
    induction N with
    | zero => intro a M; rw [h0]; exact fun r hr => nomatch hr
    | succ N ih => exact hs K hk N ih
  exact key N a M
theorem G_ocase {pc : Nat} {L : List (Nat × Value)} {st : List Value} {M : Mem} {x : Option Nat} {o1 : Option ρ} {o2 : Nat → Option ρ} (k1 : Go p l e R s m args below meth c w nL k n Qf o1 pc L (.null :: st) M) (k2 : ∀ q, q ∈ stL → Go p l e R s m args below meth c w nL k n Qf (o2 q) pc L (.ref (wad w q) :: st) M) : Go p l e R s m args below meth c w nL k n Qf (ocase x o1 o2) pc L (va_rf (x.map (wad w)) :: st) M := by
  intro r hr
  cases x with
  | none => exact k1 r hr
  | some q =>
    obtain ⟨h, hr⟩ := grd_some hr
    exact k2 q (List.contains_iff_mem.mp h) r hr
theorem G_scase {pc : Nat} {L : List (Nat × Value)} {st : List Value} {M : Mem} {x : Option Nat} {o : Nat → Option ρ} (kk : ∀ i, i < 12 → Go p l e R s m args below meth c w nL k n Qf (o i) pc L (.ref (wad w (1000 + i)) :: st) M) : Go p l e R s m args below meth c w nL k n Qf (scase x o) pc L (va_rf (x.map (wad w)) :: st) M := by
  intro r hr
  cases x with
  | none => cases hr
  | some q =>
    obtain ⟨h, hr⟩ := grd_some hr
    simp only [Bool.and_eq_true, decide_eq_true_eq] at h
    have e : q = 1000 + (q - 1000) := by omega
    have h2 := kk (q - 1000) (by omega) r hr
    rw [← e] at h2
    exact h2
theorem G_alen (g : Gd p s m args meth c w nL cc own) {pc : Nat} {L : List (Nat × Value)} {st : List Value} {M : Mem} {o : Option ρ} {q : Nat} (v : Int32) (hq : q ∈ wL w) (hk : (wZ w q).1 = 20) (hn : Int32.ofNat (wZ w q).2.1 = v) (d : decode cc pc = .ok (.arraylength, 1)) (kk : Go p l e R s m args below meth c w nL k n Qf o (pc + 1) L (.int v :: st) M) : Go p l e R s m args below meth c w nL k n Qf o pc L (.ref (wad w q) :: st) M := by
  intro r hr H locs ls hP hS hl
  obtain ⟨j, -, hj⟩ := wW_get (M := M) hq
  rw [cellE_arr hk] at hj
  exact va_alen g.1 g.2.1 g.2.2.2.2.2.1 hP j 0 hj rfl hn d (kk r hr H locs ls hP hS hl)
theorem G_alenB (g : Gd p s m args meth c w nL cc own) {pc : Nat} {L : List (Nat × Value)} {st : List Value} {M : Mem} {o : Option ρ} {q : Nat} (v : Int32) (hq : q ∈ wL w) (hk : (wZ w q).1 = 21) (hn : Int32.ofNat (wZ w q).2.1 = v) (d : decode cc pc = .ok (.arraylength, 1)) (kk : Go p l e R s m args below meth c w nL k n Qf o (pc + 1) L (.int v :: st) M) : Go p l e R s m args below meth c w nL k n Qf o pc L (.ref (wad w q) :: st) M := by
  intro r hr H locs ls hP hS hl
  obtain ⟨j, -, hj⟩ := wW_get (M := M) hq
  rw [cellE_byt hk] at hj
  exact va_alen g.1 g.2.1 g.2.2.2.2.2.1 hP j 1 hj rfl hn d (kk r hr H locs ls hP hS hl)
theorem G_alenS (g : Gd p s m args meth c w nL cc own) {pc : Nat} {L : List (Nat × Value)} {st : List Value} {M : Mem} {o : Option ρ} {q : Nat} (v : Int32) (hq : q ∈ wL w) (hk : (wZ w q).1 = 24) (hn : Int32.ofNat (wZ w q).2.1 = v) (d : decode cc pc = .ok (.arraylength, 1)) (kk : Go p l e R s m args below meth c w nL k n Qf o (pc + 1) L (.int v :: st) M) : Go p l e R s m args below meth c w nL k n Qf o pc L (.ref (wad w q) :: st) M := by
  intro r hr H locs ls hP hS hl
  obtain ⟨j, -, hj⟩ := wW_get (M := M) hq
  rw [cellE_sta hk] at hj
  exact va_alen g.1 g.2.1 g.2.2.2.2.2.1 hP j 2 hj rfl hn d (kk r hr H locs ls hP hS hl)
theorem G_ireturn (g : Gd p s m args meth c w nL cc own) {L : List (Nat × Value)} {M : Mem} {pc mc ms : Nat} {x : Int32} (hr0 : meth.sig.returnType = some .int) (h1 : k ≤ mc) (h2 : n ≤ ms) (d : decode cc pc = .ok (.ireturn, 1)) : Go p l e R s m args below meth c w nL k n (fun r => MQ below (QI w r) args s mc ms (wA w)) (some (x, M)) pc L [.int x] M := by
  intro r hr H locs ls hP hS hl
  cases hr
  refine W.widen h1 h2 ?_
  exact W.iret (hlocks := g.2.2.2.2.2.2.1) g.1 g.2.1 hr0 (fun t ht hW => ⟨⟨x, (), rfl, rfl, Rp.at ht hP⟩, hS.F ht⟩) hS.2.2 d
theorem G_zreturn (g : Gd p s m args meth c w nL cc own) {L : List (Nat × Value)} {M : Mem} {pc mc ms : Nat} {x : Int32} (b : Bool) (hx : x = b2i b) (hr0 : meth.sig.returnType = some .boolean) (h1 : k ≤ mc) (h2 : n ≤ ms) (d : decode cc pc = .ok (.ireturn, 1)) : Go p l e R s m args below meth c w nL k n (fun r => MQ below (QZ w r) args s mc ms (wA w)) (some (b, M)) pc L [.int x] M := by
  intro r hr H locs ls hP hS hl
  cases hr
  subst hx
  refine W.widen h1 h2 ?_
  exact W.zret (hlocks := g.2.2.2.2.2.2.1) g.1 g.2.1 hr0 (b2i_nar b) (fun t ht hW => ⟨⟨b2i b, (), rfl, rfl, Rp.at ht hP⟩, hS.F ht⟩) hS.2.2 d
theorem G_nreturn (g : Gd p s m args meth c w nL cc own) {L : List (Nat × Value)} {M : Mem} {pc mc ms : Nat} {x : Int32} {rt : FieldType} (hr0 : meth.sig.returnType = some rt) (hn : narrow rt (.int x) = .int x) (h1 : k ≤ mc) (h2 : n ≤ ms) (d : decode cc pc = .ok (.ireturn, 1)) : Go p l e R s m args below meth c w nL k n (fun r => MQ below (QI w r) args s mc ms (wA w)) (some (x, M)) pc L [.int x] M := by
  intro r hr H locs ls hP hS hl
  cases hr
  refine W.widen h1 h2 ?_
  exact W.zret (hlocks := g.2.2.2.2.2.2.1) g.1 g.2.1 hr0 hn (fun t ht hW => ⟨⟨x, (), rfl, rfl, Rp.at ht hP⟩, hS.F ht⟩) hS.2.2 d
theorem G_return (g : Gd p s m args meth c w nL cc own) {L : List (Nat × Value)} {M : Mem} {pc mc ms : Nat} (hr0 : meth.sig.returnType = none) (h1 : k ≤ mc) (h2 : n ≤ ms) (d : decode cc pc = .ok (.return_, 1)) : Go p l e R s m args below meth c w nL k n (fun r => MQ below (QV w r) args s mc ms (wA w)) (some M) pc L [] M := by
  intro r hr H locs ls hP hS hl
  cases hr
  refine W.widen h1 h2 ?_
  exact W.vret (hlocks := g.2.2.2.2.2.2.1) g.1 g.2.1 hr0 (fun t ht hW => ⟨⟨(), rfl, trivial, Rp.at ht hP⟩, hS.F ht⟩) hS.2.2 d
theorem G_areturn (g : Gd p s m args meth c w nL cc own) {L : List (Nat × Value)} {M : Mem} {pc mc ms : Nat} {v : Value} {rt : FieldType} (q : Option Nat) (hv : v = va_rf (q.map (wad w))) (hr0 : meth.sig.returnType = some rt) (hrt : (∃ n, rt = .object n) ∨ ∃ t, rt = .array t) (h1 : k ≤ mc) (h2 : n ≤ ms) (d : decode cc pc = .ok (.areturn, 1)) : Go p l e R s m args below meth c w nL k n (fun r => MQ below (QR w r) args s mc ms (wA w)) (some (q, M)) pc L [v] M := by
  intro r hr H locs ls hP hS hl
  cases hr
  subst hv
  refine W.widen h1 h2 ?_
  exact W.aret (hlocks := g.2.2.2.2.2.2.1) g.1 g.2.1 hr0 hrt (by cases q with | none => exact Or.inl rfl | some a => exact Or.inr ⟨wad w a, rfl⟩) (fun t ht hW => ⟨⟨q.map (wad w), (), rfl, rfl, Rp.at ht hP⟩, hS.F ht⟩) hS.2.2 d
theorem G_dreturn (g : Gd p s m args meth c w nL cc own) {L : List (Nat × Value)} {M : Mem} {pc mc ms : Nat} {x : UInt64} (hr0 : meth.sig.returnType = some .double) (h1 : k ≤ mc) (h2 : n ≤ ms) (d : decode cc pc = .ok (.dreturn, 1)) : Go p l e R s m args below meth c w nL k n (fun r => MQ below (QD w r) args s mc ms (wA w)) (some (x, M)) pc L [.double x] M := by
  intro r hr H locs ls hP hS hl
  cases hr
  refine W.widen h1 h2 ?_
  exact W.dret (hlocks := g.2.2.2.2.2.2.1) g.1 g.2.1 hr0 (fun t ht hW => ⟨⟨x, (), rfl, rfl, Rp.at ht hP⟩, hS.F ht⟩) hS.2.2 d
theorem G_freturn (g : Gd p s m args meth c w nL cc own) {L : List (Nat × Value)} {M : Mem} {pc mc ms : Nat} {x : UInt32} (hr0 : meth.sig.returnType = some .float) (h1 : k ≤ mc) (h2 : n ≤ ms) (d : decode cc pc = .ok (.freturn, 1)) : Go p l e R s m args below meth c w nL k n (fun r => MQ below (QF w r) args s mc ms (wA w)) (some (x, M)) pc L [.float x] M := by
  intro r hr H locs ls hP hS hl
  cases hr
  refine W.widen h1 h2 ?_
  exact W.fret (hlocks := g.2.2.2.2.2.2.1) g.1 g.2.1 hr0 (fun t ht hW => ⟨⟨x, (), rfl, rfl, Rp.at ht hP⟩, hS.F ht⟩) hS.2.2 d
theorem G_ldcS (g : Gd p s m args meth c w nL cc own) {pc : Nat} {L : List (Nat × Value)} {st : List Value} {M : Mem} {o : Option ρ} {idx : Nat} (i : Nat) (hs : (own, idx, i) ∈ strS) (d : decode cc pc = .ok (.ldc idx, 2)) (kk : Go p l e R s m args below meth c w nL k n Qf o (pc + 2) L (.ref (wad w (1000 + i)) :: st) M) : Go p l e R s m args below meth c w nL k n Qf o pc L st M :=
  fun r hr H locs ls hP hS hl => va_ldcS g.1 g.2.1 g.2.2.2.1 (g.2.2.2.2.2.2.2.1.2.1 _ hs) d (kk r hr H locs ls hP hS hl)
theorem G_ldcI (g : Gd p s m args meth c w nL cc own) {pc : Nat} {L : List (Nat × Value)} {st : List Value} {M : Mem} {o : Option ρ} {idx : Nat} {v : Int32} (hs : Cond.constant own idx v ∈ TT) (d : decode cc pc = .ok (.ldc idx, 2)) (kk : Go p l e R s m args below meth c w nL k n Qf o (pc + 2) L (.int v :: st) M) : Go p l e R s m args below meth c w nL k n Qf o pc L st M :=
  fun r hr H locs ls hP hS hl => lv_ldc g.1 g.2.1 g.2.2.2.1 (g.2.2.2.2.1 _ hs) d (kk r hr H locs ls hP hS hl)
theorem G_mmax (g : Gd p s m args meth c w nL cc own) {pc : Nat} {L : List (Nat × Value)} {st : List Value} {M : Mem} {o : Option ρ} {idx : Nat} {x y : Int32} (hm : Cond.methodLink own idx Lib.Math.max.name ∈ TT ∧ Cond.static Lib.Math.max.name ∈ TT ∧ Cond.initialized "java/lang/Math" ∈ TT ∧ Cond.code Lib.Math.max.name Lib.Math.max.code 2 (some .int) ∈ TT) (hR : 1 ≤ R.frames ∧ (st.map fun v => v.category).sum + 13 ≤ R.locals ∧ k ≤ R.cells ∧ n ≤ R.slots) (d : decode cc pc = .ok (.invokestatic idx, 3)) (kk : Go p l e R s m args below meth c w nL k n Qf o (pc + 3) L (.int (imax x y) :: st) M) : Go p l e R s m args below meth c w nL k n Qf o pc L (.int y :: .int x :: st) M :=
  fun r hr H locs ls hP hS hl => va_mmax g.1 g.2.1 (g.2.2.1.trans hl.1.symm) g.2.2.2.1 (g.2.2.2.2.1 _ hm.1) (g.2.2.2.2.1 _ hm.2.1) (g.2.2.2.2.1 _ hm.2.2.1) (g.2.2.2.2.1 _ hm.2.2.2) hR.1 hR.2.1 hR.2.2.1 hR.2.2.2 d (kk r hr H locs ls hP hS hl)
theorem G_mmin (g : Gd p s m args meth c w nL cc own) {pc : Nat} {L : List (Nat × Value)} {st : List Value} {M : Mem} {o : Option ρ} {idx : Nat} {x y : Int32} (hm : Cond.methodLink own idx Lib.Math.min.name ∈ TT ∧ Cond.static Lib.Math.min.name ∈ TT ∧ Cond.initialized "java/lang/Math" ∈ TT ∧ Cond.code Lib.Math.min.name Lib.Math.min.code 2 (some .int) ∈ TT) (hR : 1 ≤ R.frames ∧ (st.map fun v => v.category).sum + 13 ≤ R.locals ∧ k ≤ R.cells ∧ n ≤ R.slots) (d : decode cc pc = .ok (.invokestatic idx, 3)) (kk : Go p l e R s m args below meth c w nL k n Qf o (pc + 3) L (.int (imin x y) :: st) M) : Go p l e R s m args below meth c w nL k n Qf o pc L (.int y :: .int x :: st) M :=
  fun r hr H locs ls hP hS hl => va_mmin g.1 g.2.1 (g.2.2.1.trans hl.1.symm) g.2.2.2.1 (g.2.2.2.2.1 _ hm.1) (g.2.2.2.2.1 _ hm.2.1) (g.2.2.2.2.1 _ hm.2.2.1) (g.2.2.2.2.1 _ hm.2.2.2) hR.1 hR.2.1 hR.2.2.1 hR.2.2.2 d (kk r hr H locs ls hP hS hl)
theorem G_mabs (g : Gd p s m args meth c w nL cc own) {pc : Nat} {L : List (Nat × Value)} {st : List Value} {M : Mem} {o : Option ρ} {idx : Nat} {x : Int32} (hm : Cond.methodLink own idx Lib.Math.abs.name ∈ TT ∧ Cond.static Lib.Math.abs.name ∈ TT ∧ Cond.initialized "java/lang/Math" ∈ TT ∧ Cond.code Lib.Math.abs.name Lib.Math.abs.code 1 (some .int) ∈ TT) (hR : 1 ≤ R.frames ∧ (st.map fun v => v.category).sum + 13 ≤ R.locals ∧ k ≤ R.cells ∧ n ≤ R.slots) (d : decode cc pc = .ok (.invokestatic idx, 3)) (kk : Go p l e R s m args below meth c w nL k n Qf o (pc + 3) L (.int (iabs x) :: st) M) : Go p l e R s m args below meth c w nL k n Qf o pc L (.int x :: st) M :=
  fun r hr H locs ls hP hS hl => va_mabs g.1 g.2.1 (g.2.2.1.trans hl.1.symm) g.2.2.2.1 (g.2.2.2.2.1 _ hm.1) (g.2.2.2.2.1 _ hm.2.1) (g.2.2.2.2.1 _ hm.2.2.1) (g.2.2.2.2.1 _ hm.2.2.2) hR.1 hR.2.1 hR.2.2.1 hR.2.2.2 d (kk r hr H locs ls hP hS hl)
theorem G_copy (g : Gd p s m args meth c w nL cc own) {pc : Nat} {L : List (Nat × Value)} {st : List Value} {M : Mem} {o : Option ρ} {idx q0 q1 n0 n1 : Nat} {sp dp z : Int32} (hm : Cond.methodLink own idx arraycopyName ∈ TT ∧ Cond.native arraycopyName ∈ TT ∧ Cond.static arraycopyName ∈ TT ∧ Cond.initialized "java/lang/System" ∈ TT) (hR : 1 ≤ R.frames ∧ (st.map fun v => v.category).sum + (nativeFrameWords "java/lang/System" "arraycopy" 5 + 11) ≤ R.locals) (hq0 : q0 ∈ wL w) (hk0 : (wZ w q0).1 = 20) (hn0 : (wZ w q0).2.1 = n0) (hq1 : q1 ∈ wL w) (hk1 : (wZ w q1).1 = 20) (hn1 : (wZ w q1).2.1 = n1) (d : decode cc pc = .ok (.invokestatic idx, 3)) (kk : Go p l e R s m args below meth c w nL k n Qf o (pc + 3) L st (setR M q1 (va_cpy (M q0) (M q1) sp.toNatClampNeg dp.toNatClampNeg z.toNatClampNeg))) : Go p l e R s m args below meth c w nL k n Qf (grd (cpB sp dp z n0 n1) o) pc L (.int z :: .int dp :: .ref (wad w q1) :: .int sp :: .ref (wad w q0) :: st) M := by
  intro r hr H locs ls hP hS hl
  obtain ⟨h, hr⟩ := grd_some hr
  have h := cpB_of h
  · skip
    obtain ⟨h1, h2, h3, h4, h5⟩ := h
    obtain ⟨j0, -, hj0⟩ := wW_get (M := M) hq0
    obtain ⟨j1, hx1, hj1⟩ := wW_get (M := M) hq1
    rw [cellE_arr hk0, hn0] at hj0
    rw [cellE_arr hk1, hn1] at hj1
    refine va_copyi g.1 g.2.1 (g.2.2.1.trans hl.1.symm) g.2.2.2.1 (g.2.2.2.2.1 _ hm.1) (g.2.2.2.2.1 _ hm.2.1) (g.2.2.2.2.1 _ hm.2.2.1) (g.2.2.2.2.1 _ hm.2.2.2) g.2.2.2.2.2.1 hP (wD_of g.2.2.2.2.2.2.2.2.1 M) hS j0 j1 0 0 hj0 hj1 rfl rfl rfl h1 h2 h3 h4 h5 (fun _ _ => rfl) hR.1 hR.2 d (fun H1 locs1 hP1 _ hS1 => ?_)
    rw [wW_set g.2.2.2.2.2.2.2.2.1 hx1 (f := va_cpy (M q0) (M q1) sp.toNatClampNeg dp.toNatClampNeg z.toNatClampNeg) (by rw [cellE_arr hk1, setR_self, hn1])] at hP1
    exact kk r hr H1 locs1 ls hP1 hS1 hl
theorem G_aldS (g : Gd p s m args meth c w nL cc own) {pc : Nat} {L : List (Nat × Value)} {st : List Value} {M : Mem} {o : Option ρ} {q nn : Nat} {i : Int32} (hq : q ∈ wL w) (hk : (wZ w q).1 = 24) (hn : (wZ w q).2.1 = nn) (d : decode cc pc = .ok (.aaload, 1)) (kk : Go p l e R s m args below meth c w nL k n Qf o (pc + 1) L (va_rf (((wZ w q).2.2 i.toNatClampNeg).map (wad w)) :: st) M) : Go p l e R s m args below meth c w nL k n Qf (grd (inB i nn) o) pc L (.int i :: .ref (wad w q) :: st) M := by
  intro r hr H locs ls hP hS hl
  obtain ⟨h, hr⟩ := grd_some hr
  have h := inB_of h
  · skip
    obtain ⟨j, -, hj⟩ := wW_get (M := M) hq
    rw [cellE_sta hk, hn] at hj
    exact va_aldq g.1 g.2.1 g.2.2.2.2.2.1 hP j 2 hj rfl h d (kk r hr H locs ls hP hS hl)
/-- a call's words: its link, the callee's code, its class made ready -/
def CV (own : String) (idx : Nat) (y : MethodName) (b : ByteArray) (maxL : Nat) (ret : Option FieldType) (a : Nat) : Prop := Cond.methodLink own idx y ∈ TT ∧ Cond.instanceMethod y ∈ TT ∧ Cond.selects y.cls y y ∈ TT ∧ Cond.initialized y.cls ∈ TT ∧ Cond.code y b maxL ret ∈ TT ∧ (y.cls ≠ "java/lang/invoke/MethodHandle" ∧ y.cls ≠ "java/lang/invoke/VarHandle" ∧ (parseMethodDescriptor y.desc).map (fun d => d.parameters.length) = some a)
def CS (own : String) (idx : Nat) (y : MethodName) (b : ByteArray) (maxL : Nat) (ret : Option FieldType) (a : Nat) : Prop := Cond.methodLink own idx y ∈ TT ∧ Cond.static y ∈ TT ∧ Cond.initialized y.cls ∈ TT ∧ Cond.code y b maxL ret ∈ TT ∧ (y.cls ≠ "java/lang/invoke/MethodHandle" ∧ y.cls ≠ "java/lang/invoke/VarHandle" ∧ (parseMethodDescriptor y.desc).map (fun d => d.parameters.length) = some a)
def CVN (own : String) (idx : Nat) (host : String) (y : MethodName) (b : ByteArray) (maxL : Nat) (ret : Option FieldType) (a : Nat) : Prop := Cond.methodLinkNest own idx y host ∈ NW ∧ Cond.instanceMethod y ∈ TT ∧ Cond.selects y.cls y y ∈ TT ∧ Cond.initialized y.cls ∈ TT ∧ Cond.code y b maxL ret ∈ TT ∧ (y.cls ≠ "java/lang/invoke/MethodHandle" ∧ y.cls ≠ "java/lang/invoke/VarHandle" ∧ (parseMethodDescriptor y.desc).map (fun d => d.parameters.length) = some a)
def CSN (own : String) (idx : Nat) (host : String) (y : MethodName) (b : ByteArray) (maxL : Nat) (ret : Option FieldType) (a : Nat) : Prop := Cond.methodLinkNest own idx y host ∈ NW ∧ Cond.static y ∈ TT ∧ Cond.initialized y.cls ∈ TT ∧ Cond.code y b maxL ret ∈ TT ∧ (y.cls ≠ "java/lang/invoke/MethodHandle" ∧ y.cls ≠ "java/lang/invoke/VarHandle" ∧ (parseMethodDescriptor y.desc).map (fun d => d.parameters.length) = some a)
theorem TT_gi {y : Cond} (hy : y ∈ TT) : GoodIn TT (y :: TT) := by
  intro w hw
  have hm : w ∈ TT := by
    rcases List.mem_cons.mp hw with rfl | h
    · exact hy
    · exact h
  exact ⟨hm, good_of_word (TT_good hm).2⟩
def bnd {α ρ : Type} (x : Option (α × Mem)) (f : α → Mem → Option ρ) : Option ρ := match x with
  | none => none
  | some r => f r.1 r.2
def bndM {ρ : Type} (x : Option Mem) (f : Mem → Option ρ) : Option ρ := match x with
  | none => none
  | some r => f r
theorem G_cVI2 (g : Gd p s m args meth c w nL cc own) {pc idx a maxL : Nat} {L : List (Nat × Value)} {st As : List Value} {M : Mem} {y : MethodName} {b : ByteArray} {rm : Room} {q ci N : Nat} {T : u_T} {ret : Option FieldType} {f : Option (Int32 × Mem)} {o : Int32 → Mem → Option ρ} (cw : CV own idx y b maxL ret a) (hM : Ct QI l y b maxL ret rm w (.ref (wad w q) :: As) M f) (hq : q ∈ wL w) (hk : (wZ w q).1 = ci) (hc : vwCl[ci]? = some (y.cls, T, N)) (hci : ci < 20) (hn : As.length = a) (hR : rm.frames + 1 ≤ R.frames ∧ 8 + (maxL + 11) + rm.locals ≤ R.locals) (hC : k + rm.cells ≤ R.cells ∧ n + rm.slots ≤ R.slots) (hs : (st.map fun v => v.category).sum ≤ 8) (d : decode cc pc = .ok (.invokevirtual idx, 3)) (kk : ∀ (x : Int32) (M1 : Mem), Go p l e R s m args below meth c w nL (k + rm.cells) (n + rm.slots) Qf (o x M1) (pc + 3) L (.int x :: st) M1) : Go p l e R s m args below meth c w nL k n Qf (bnd f o) pc L (As.reverse ++ .ref (wad w q) :: st) M := by
  intro r hr H locs ls hP hS hl
  cases f with
  | none => cases hr
  | some v =>
    obtain ⟨j, -, hj⟩ := wW_get (M := M) hq
    rw [cellE_obj hk hci] at hj
    refine va_calli (va_runV (As := As) (rest := st) ⟨g.1, g.2.1, g.2.2.1, g.2.2.2.1, g.2.2.2.2.1⟩ (hM v rfl) ⟨callB_of a g.2.2.2.2.1 (TT_gi cw.2.2.2.2.1) rfl rfl rfl (g.2.2.2.2.1 _ cw.2.2.2.1) (g.2.2.2.2.1 _ cw.1) cw.2.2.2.2.2 hR, g.2.2.2.2.1 _ cw.2.1, g.2.2.2.2.1 _ cw.2.2.1⟩ ⟨Wd.blind, va_recv g.2.2.2.2.2.1 hP hc hj, fun U hU hW => ⟨rfl, by rw [hU]; exact hP, va_K.moved hW.alike g.2.2.2.2.2.1, g.2.2.2.2.2.2.2.2.1, by rw [hU]; exact Nat.le_trans g.2.2.2.2.2.2.2.2.2 hS.1, Sx.step g.2.2.2.2.2.2.2.1 hS hU hW⟩⟩ rfl hn hl.1 rfl (lv_room hs) d hC) hS (fun _ _ h => h) (fun _ h => h) (fun x u t H1 locs1 ht hvm hw hB hz hkp hS1 => ?_)
    have hw : x = v.1 := hw
    subst hw
    exact kk v.1 v.2 r hr H1 locs1 ls (by rw [← ht]; exact hB) hS1 hl
theorem G_cSI2 (g : Gd p s m args meth c w nL cc own) {pc idx a maxL : Nat} {L : List (Nat × Value)} {st As : List Value} {M : Mem} {y : MethodName} {b : ByteArray} {rm : Room} {ret : Option FieldType} {f : Option (Int32 × Mem)} {o : Int32 → Mem → Option ρ} (cw : CS own idx y b maxL ret a) (hM : Ct QI l y b maxL ret rm w (As) M f) (hn : As.length = a) (hR : rm.frames + 1 ≤ R.frames ∧ 8 + (maxL + 11) + rm.locals ≤ R.locals) (hC : k + rm.cells ≤ R.cells ∧ n + rm.slots ≤ R.slots) (hs : (st.map fun v => v.category).sum ≤ 8) (d : decode cc pc = .ok (.invokestatic idx, 3)) (kk : ∀ (x : Int32) (M1 : Mem), Go p l e R s m args below meth c w nL (k + rm.cells) (n + rm.slots) Qf (o x M1) (pc + 3) L (.int x :: st) M1) : Go p l e R s m args below meth c w nL k n Qf (bnd f o) pc L (As.reverse ++ st) M := by
  intro r hr H locs ls hP hS hl
  cases f with
  | none => cases hr
  | some v =>
    refine va_calli (va_runS (As := As) (rest := st) ⟨g.1, g.2.1, g.2.2.1, g.2.2.2.1, g.2.2.2.2.1⟩ (hM v rfl) ⟨callB_of a g.2.2.2.2.1 (TT_gi cw.2.2.2.1) rfl rfl rfl (g.2.2.2.2.1 _ cw.2.2.1) (g.2.2.2.2.1 _ cw.1) cw.2.2.2.2 hR, g.2.2.2.2.1 _ cw.2.1⟩ ⟨Wd.blind, fun U hU hW => ⟨rfl, by rw [hU]; exact hP, va_K.moved hW.alike g.2.2.2.2.2.1, g.2.2.2.2.2.2.2.2.1, by rw [hU]; exact Nat.le_trans g.2.2.2.2.2.2.2.2.2 hS.1, Sx.step g.2.2.2.2.2.2.2.1 hS hU hW⟩⟩ rfl hn hl.1 rfl (lv_room hs) d hC) hS (fun _ _ h => h) (fun _ h => h) (fun x u t H1 locs1 ht hvm hw hB hz hkp hS1 => ?_)
    have hw : x = v.1 := hw
    subst hw
    exact kk v.1 v.2 r hr H1 locs1 ls (by rw [← ht]; exact hB) hS1 hl
theorem G_cVNI2 (g : Gd p s m args meth c w nL cc own) {pc idx a maxL : Nat} {L : List (Nat × Value)} {st As : List Value} {M : Mem} {y : MethodName} {b : ByteArray} {rm : Room} {host : String} {q ci N : Nat} {T : u_T} {ret : Option FieldType} {f : Option (Int32 × Mem)} {o : Int32 → Mem → Option ρ} (cw : CVN own idx host y b maxL ret a) (hM : Ct QI l y b maxL ret rm w (.ref (wad w q) :: As) M f) (hq : q ∈ wL w) (hk : (wZ w q).1 = ci) (hc : vwCl[ci]? = some (y.cls, T, N)) (hci : ci < 20) (hn : As.length = a) (hR : rm.frames + 1 ≤ R.frames ∧ 8 + (maxL + 11) + rm.locals ≤ R.locals) (hC : k + rm.cells ≤ R.cells ∧ n + rm.slots ≤ R.slots) (hs : (st.map fun v => v.category).sum ≤ 8) (d : decode cc pc = .ok (.invokevirtual idx, 3)) (kk : ∀ (x : Int32) (M1 : Mem), Go p l e R s m args below meth c w nL (k + rm.cells) (n + rm.slots) Qf (o x M1) (pc + 3) L (.int x :: st) M1) : Go p l e R s m args below meth c w nL k n Qf (bnd f o) pc L (As.reverse ++ .ref (wad w q) :: st) M := by
  intro r hr H locs ls hP hS hl
  cases f with
  | none => cases hr
  | some v =>
    obtain ⟨j, -, hj⟩ := wW_get (M := M) hq
    rw [cellE_obj hk hci] at hj
    refine va_calli (va_runVN (As := As) (rest := st) ⟨g.1, g.2.1, g.2.2.1, g.2.2.2.1, g.2.2.2.2.1⟩ (hM v rfl) ⟨va_cnB a g.2.2.2.2.1 (TT_gi cw.2.2.2.2.1) rfl rfl rfl (g.2.2.2.2.2.2.2.1.2.2.1 _ cw.1) (g.2.2.2.2.1 _ cw.2.2.2.1) cw.2.2.2.2.2 hR, g.2.2.2.2.1 _ cw.2.1, g.2.2.2.2.1 _ cw.2.2.1⟩ ⟨Wd.blind, va_recv g.2.2.2.2.2.1 hP hc hj, fun U hU hW => ⟨rfl, by rw [hU]; exact hP, va_K.moved hW.alike g.2.2.2.2.2.1, g.2.2.2.2.2.2.2.2.1, by rw [hU]; exact Nat.le_trans g.2.2.2.2.2.2.2.2.2 hS.1, Sx.step g.2.2.2.2.2.2.2.1 hS hU hW⟩⟩ rfl hn hl.1 rfl (lv_room hs) d hC) hS (fun _ _ h => h) (fun _ h => h) (fun x u t H1 locs1 ht hvm hw hB hz hkp hS1 => ?_)
    have hw : x = v.1 := hw
    subst hw
    exact kk v.1 v.2 r hr H1 locs1 ls (by rw [← ht]; exact hB) hS1 hl
theorem G_cSNI2 (g : Gd p s m args meth c w nL cc own) {pc idx a maxL : Nat} {L : List (Nat × Value)} {st As : List Value} {M : Mem} {y : MethodName} {b : ByteArray} {rm : Room} {host : String} {ret : Option FieldType} {f : Option (Int32 × Mem)} {o : Int32 → Mem → Option ρ} (cw : CSN own idx host y b maxL ret a) (hM : Ct QI l y b maxL ret rm w (As) M f) (hn : As.length = a) (hR : rm.frames + 1 ≤ R.frames ∧ 8 + (maxL + 11) + rm.locals ≤ R.locals) (hC : k + rm.cells ≤ R.cells ∧ n + rm.slots ≤ R.slots) (hs : (st.map fun v => v.category).sum ≤ 8) (d : decode cc pc = .ok (.invokestatic idx, 3)) (kk : ∀ (x : Int32) (M1 : Mem), Go p l e R s m args below meth c w nL (k + rm.cells) (n + rm.slots) Qf (o x M1) (pc + 3) L (.int x :: st) M1) : Go p l e R s m args below meth c w nL k n Qf (bnd f o) pc L (As.reverse ++ st) M := by
  intro r hr H locs ls hP hS hl
  cases f with
  | none => cases hr
  | some v =>
    refine va_calli (va_runSN (As := As) (rest := st) ⟨g.1, g.2.1, g.2.2.1, g.2.2.2.1, g.2.2.2.2.1⟩ (hM v rfl) ⟨va_cnB a g.2.2.2.2.1 (TT_gi cw.2.2.2.1) rfl rfl rfl (g.2.2.2.2.2.2.2.1.2.2.1 _ cw.1) (g.2.2.2.2.1 _ cw.2.2.1) cw.2.2.2.2 hR, g.2.2.2.2.1 _ cw.2.1, trivial⟩ ⟨Wd.blind, fun U hU hW => ⟨rfl, by rw [hU]; exact hP, va_K.moved hW.alike g.2.2.2.2.2.1, g.2.2.2.2.2.2.2.2.1, by rw [hU]; exact Nat.le_trans g.2.2.2.2.2.2.2.2.2 hS.1, Sx.step g.2.2.2.2.2.2.2.1 hS hU hW⟩⟩ rfl hn hl.1 rfl (lv_room hs) d hC) hS (fun _ _ h => h) (fun _ h => h) (fun x u t H1 locs1 ht hvm hw hB hz hkp hS1 => ?_)
    have hw : x = v.1 := hw
    subst hw
    exact kk v.1 v.2 r hr H1 locs1 ls (by rw [← ht]; exact hB) hS1 hl
theorem G_cVI (g : Gd p s m args meth c w nL cc own) {pc idx a maxL : Nat} {L : List (Nat × Value)} {st As : List Value} {M : Mem} {y : MethodName} {b : ByteArray} {rm : Room} {q ci N : Nat} {T : u_T} {f : Option (Int32 × Mem)} {o : Int32 → Mem → Option ρ} (cw : CV own idx y b maxL (some .int) a) (hM : Ct QI l y b maxL (some .int) rm w (.ref (wad w q) :: As) M f) (hq : q ∈ wL w) (hk : (wZ w q).1 = ci) (hc : vwCl[ci]? = some (y.cls, T, N)) (hci : ci < 20) (hn : As.length = a) (hR : rm.frames + 1 ≤ R.frames ∧ 8 + (maxL + 11) + rm.locals ≤ R.locals) (hC : k + rm.cells ≤ R.cells ∧ n + rm.slots ≤ R.slots) (hs : (st.map fun v => v.category).sum ≤ 8) (d : decode cc pc = .ok (.invokevirtual idx, 3)) (kk : ∀ (x : Int32) (M1 : Mem), Go p l e R s m args below meth c w nL (k + rm.cells) (n + rm.slots) Qf (o x M1) (pc + 3) L (.int x :: st) M1) : Go p l e R s m args below meth c w nL k n Qf (bnd f o) pc L (As.reverse ++ .ref (wad w q) :: st) M := by
  intro r hr H locs ls hP hS hl
  cases f with
  | none => cases hr
  | some v =>
    obtain ⟨j, -, hj⟩ := wW_get (M := M) hq
    rw [cellE_obj hk hci] at hj
    refine va_calli (va_runV (As := As) (rest := st) ⟨g.1, g.2.1, g.2.2.1, g.2.2.2.1, g.2.2.2.2.1⟩ (hM v rfl) ⟨callB_of a g.2.2.2.2.1 (TT_gi cw.2.2.2.2.1) rfl rfl rfl (g.2.2.2.2.1 _ cw.2.2.2.1) (g.2.2.2.2.1 _ cw.1) cw.2.2.2.2.2 hR, g.2.2.2.2.1 _ cw.2.1, g.2.2.2.2.1 _ cw.2.2.1⟩ ⟨Wd.blind, va_recv g.2.2.2.2.2.1 hP hc hj, fun U hU hW => ⟨rfl, by rw [hU]; exact hP, va_K.moved hW.alike g.2.2.2.2.2.1, g.2.2.2.2.2.2.2.2.1, by rw [hU]; exact Nat.le_trans g.2.2.2.2.2.2.2.2.2 hS.1, Sx.step g.2.2.2.2.2.2.2.1 hS hU hW⟩⟩ rfl hn hl.1 rfl (lv_room hs) d hC) hS (fun _ _ h => h) (fun _ h => h) (fun x u t H1 locs1 ht hvm hw hB hz hkp hS1 => ?_)
    have hw : x = v.1 := hw
    subst hw
    exact kk v.1 v.2 r hr H1 locs1 ls (by rw [← ht]; exact hB) hS1 hl
theorem G_cSI (g : Gd p s m args meth c w nL cc own) {pc idx a maxL : Nat} {L : List (Nat × Value)} {st As : List Value} {M : Mem} {y : MethodName} {b : ByteArray} {rm : Room} {f : Option (Int32 × Mem)} {o : Int32 → Mem → Option ρ} (cw : CS own idx y b maxL (some .int) a) (hM : Ct QI l y b maxL (some .int) rm w (As) M f) (hn : As.length = a) (hR : rm.frames + 1 ≤ R.frames ∧ 8 + (maxL + 11) + rm.locals ≤ R.locals) (hC : k + rm.cells ≤ R.cells ∧ n + rm.slots ≤ R.slots) (hs : (st.map fun v => v.category).sum ≤ 8) (d : decode cc pc = .ok (.invokestatic idx, 3)) (kk : ∀ (x : Int32) (M1 : Mem), Go p l e R s m args below meth c w nL (k + rm.cells) (n + rm.slots) Qf (o x M1) (pc + 3) L (.int x :: st) M1) : Go p l e R s m args below meth c w nL k n Qf (bnd f o) pc L (As.reverse ++ st) M := by
  intro r hr H locs ls hP hS hl
  cases f with
  | none => cases hr
  | some v =>
    refine va_calli (va_runS (As := As) (rest := st) ⟨g.1, g.2.1, g.2.2.1, g.2.2.2.1, g.2.2.2.2.1⟩ (hM v rfl) ⟨callB_of a g.2.2.2.2.1 (TT_gi cw.2.2.2.1) rfl rfl rfl (g.2.2.2.2.1 _ cw.2.2.1) (g.2.2.2.2.1 _ cw.1) cw.2.2.2.2 hR, g.2.2.2.2.1 _ cw.2.1⟩ ⟨Wd.blind, fun U hU hW => ⟨rfl, by rw [hU]; exact hP, va_K.moved hW.alike g.2.2.2.2.2.1, g.2.2.2.2.2.2.2.2.1, by rw [hU]; exact Nat.le_trans g.2.2.2.2.2.2.2.2.2 hS.1, Sx.step g.2.2.2.2.2.2.2.1 hS hU hW⟩⟩ rfl hn hl.1 rfl (lv_room hs) d hC) hS (fun _ _ h => h) (fun _ h => h) (fun x u t H1 locs1 ht hvm hw hB hz hkp hS1 => ?_)
    have hw : x = v.1 := hw
    subst hw
    exact kk v.1 v.2 r hr H1 locs1 ls (by rw [← ht]; exact hB) hS1 hl
theorem G_cVNI (g : Gd p s m args meth c w nL cc own) {pc idx a maxL : Nat} {L : List (Nat × Value)} {st As : List Value} {M : Mem} {y : MethodName} {b : ByteArray} {rm : Room} {host : String} {q ci N : Nat} {T : u_T} {f : Option (Int32 × Mem)} {o : Int32 → Mem → Option ρ} (cw : CVN own idx host y b maxL (some .int) a) (hM : Ct QI l y b maxL (some .int) rm w (.ref (wad w q) :: As) M f) (hq : q ∈ wL w) (hk : (wZ w q).1 = ci) (hc : vwCl[ci]? = some (y.cls, T, N)) (hci : ci < 20) (hn : As.length = a) (hR : rm.frames + 1 ≤ R.frames ∧ 8 + (maxL + 11) + rm.locals ≤ R.locals) (hC : k + rm.cells ≤ R.cells ∧ n + rm.slots ≤ R.slots) (hs : (st.map fun v => v.category).sum ≤ 8) (d : decode cc pc = .ok (.invokevirtual idx, 3)) (kk : ∀ (x : Int32) (M1 : Mem), Go p l e R s m args below meth c w nL (k + rm.cells) (n + rm.slots) Qf (o x M1) (pc + 3) L (.int x :: st) M1) : Go p l e R s m args below meth c w nL k n Qf (bnd f o) pc L (As.reverse ++ .ref (wad w q) :: st) M := by
  intro r hr H locs ls hP hS hl
  cases f with
  | none => cases hr
  | some v =>
    obtain ⟨j, -, hj⟩ := wW_get (M := M) hq
    rw [cellE_obj hk hci] at hj
    refine va_calli (va_runVN (As := As) (rest := st) ⟨g.1, g.2.1, g.2.2.1, g.2.2.2.1, g.2.2.2.2.1⟩ (hM v rfl) ⟨va_cnB a g.2.2.2.2.1 (TT_gi cw.2.2.2.2.1) rfl rfl rfl (g.2.2.2.2.2.2.2.1.2.2.1 _ cw.1) (g.2.2.2.2.1 _ cw.2.2.2.1) cw.2.2.2.2.2 hR, g.2.2.2.2.1 _ cw.2.1, g.2.2.2.2.1 _ cw.2.2.1⟩ ⟨Wd.blind, va_recv g.2.2.2.2.2.1 hP hc hj, fun U hU hW => ⟨rfl, by rw [hU]; exact hP, va_K.moved hW.alike g.2.2.2.2.2.1, g.2.2.2.2.2.2.2.2.1, by rw [hU]; exact Nat.le_trans g.2.2.2.2.2.2.2.2.2 hS.1, Sx.step g.2.2.2.2.2.2.2.1 hS hU hW⟩⟩ rfl hn hl.1 rfl (lv_room hs) d hC) hS (fun _ _ h => h) (fun _ h => h) (fun x u t H1 locs1 ht hvm hw hB hz hkp hS1 => ?_)
    have hw : x = v.1 := hw
    subst hw
    exact kk v.1 v.2 r hr H1 locs1 ls (by rw [← ht]; exact hB) hS1 hl
theorem G_cSNI (g : Gd p s m args meth c w nL cc own) {pc idx a maxL : Nat} {L : List (Nat × Value)} {st As : List Value} {M : Mem} {y : MethodName} {b : ByteArray} {rm : Room} {host : String} {f : Option (Int32 × Mem)} {o : Int32 → Mem → Option ρ} (cw : CSN own idx host y b maxL (some .int) a) (hM : Ct QI l y b maxL (some .int) rm w (As) M f) (hn : As.length = a) (hR : rm.frames + 1 ≤ R.frames ∧ 8 + (maxL + 11) + rm.locals ≤ R.locals) (hC : k + rm.cells ≤ R.cells ∧ n + rm.slots ≤ R.slots) (hs : (st.map fun v => v.category).sum ≤ 8) (d : decode cc pc = .ok (.invokestatic idx, 3)) (kk : ∀ (x : Int32) (M1 : Mem), Go p l e R s m args below meth c w nL (k + rm.cells) (n + rm.slots) Qf (o x M1) (pc + 3) L (.int x :: st) M1) : Go p l e R s m args below meth c w nL k n Qf (bnd f o) pc L (As.reverse ++ st) M := by
  intro r hr H locs ls hP hS hl
  cases f with
  | none => cases hr
  | some v =>
    refine va_calli (va_runSN (As := As) (rest := st) ⟨g.1, g.2.1, g.2.2.1, g.2.2.2.1, g.2.2.2.2.1⟩ (hM v rfl) ⟨va_cnB a g.2.2.2.2.1 (TT_gi cw.2.2.2.1) rfl rfl rfl (g.2.2.2.2.2.2.2.1.2.2.1 _ cw.1) (g.2.2.2.2.1 _ cw.2.2.1) cw.2.2.2.2 hR, g.2.2.2.2.1 _ cw.2.1, trivial⟩ ⟨Wd.blind, fun U hU hW => ⟨rfl, by rw [hU]; exact hP, va_K.moved hW.alike g.2.2.2.2.2.1, g.2.2.2.2.2.2.2.2.1, by rw [hU]; exact Nat.le_trans g.2.2.2.2.2.2.2.2.2 hS.1, Sx.step g.2.2.2.2.2.2.2.1 hS hU hW⟩⟩ rfl hn hl.1 rfl (lv_room hs) d hC) hS (fun _ _ h => h) (fun _ h => h) (fun x u t H1 locs1 ht hvm hw hB hz hkp hS1 => ?_)
    have hw : x = v.1 := hw
    subst hw
    exact kk v.1 v.2 r hr H1 locs1 ls (by rw [← ht]; exact hB) hS1 hl
theorem G_cVZ (g : Gd p s m args meth c w nL cc own) {pc idx a maxL : Nat} {L : List (Nat × Value)} {st As : List Value} {M : Mem} {y : MethodName} {b : ByteArray} {rm : Room} {q ci N : Nat} {T : u_T} {f : Option (Bool × Mem)} {o : Bool → Mem → Option ρ} (cw : CV own idx y b maxL (some .boolean) a) (hM : Ct QZ l y b maxL (some .boolean) rm w (.ref (wad w q) :: As) M f) (hq : q ∈ wL w) (hk : (wZ w q).1 = ci) (hc : vwCl[ci]? = some (y.cls, T, N)) (hci : ci < 20) (hn : As.length = a) (hR : rm.frames + 1 ≤ R.frames ∧ 8 + (maxL + 11) + rm.locals ≤ R.locals) (hC : k + rm.cells ≤ R.cells ∧ n + rm.slots ≤ R.slots) (hs : (st.map fun v => v.category).sum ≤ 8) (d : decode cc pc = .ok (.invokevirtual idx, 3)) (kk : ∀ (x : Bool) (M1 : Mem), Go p l e R s m args below meth c w nL (k + rm.cells) (n + rm.slots) Qf (o x M1) (pc + 3) L (.int (b2i x) :: st) M1) : Go p l e R s m args below meth c w nL k n Qf (bnd f o) pc L (As.reverse ++ .ref (wad w q) :: st) M := by
  intro r hr H locs ls hP hS hl
  cases f with
  | none => cases hr
  | some v =>
    obtain ⟨j, -, hj⟩ := wW_get (M := M) hq
    rw [cellE_obj hk hci] at hj
    refine va_calli (va_runV (As := As) (rest := st) ⟨g.1, g.2.1, g.2.2.1, g.2.2.2.1, g.2.2.2.2.1⟩ (hM v rfl) ⟨callB_of a g.2.2.2.2.1 (TT_gi cw.2.2.2.2.1) rfl rfl rfl (g.2.2.2.2.1 _ cw.2.2.2.1) (g.2.2.2.2.1 _ cw.1) cw.2.2.2.2.2 hR, g.2.2.2.2.1 _ cw.2.1, g.2.2.2.2.1 _ cw.2.2.1⟩ ⟨Wd.blind, va_recv g.2.2.2.2.2.1 hP hc hj, fun U hU hW => ⟨rfl, by rw [hU]; exact hP, va_K.moved hW.alike g.2.2.2.2.2.1, g.2.2.2.2.2.2.2.2.1, by rw [hU]; exact Nat.le_trans g.2.2.2.2.2.2.2.2.2 hS.1, Sx.step g.2.2.2.2.2.2.2.1 hS hU hW⟩⟩ rfl hn hl.1 rfl (lv_room hs) d hC) hS (fun _ _ h => h) (fun _ h => h) (fun x u t H1 locs1 ht hvm hw hB hz hkp hS1 => ?_)
    have hw : x = b2i v.1 := hw
    subst hw
    exact kk v.1 v.2 r hr H1 locs1 ls (by rw [← ht]; exact hB) hS1 hl
theorem G_cSZ (g : Gd p s m args meth c w nL cc own) {pc idx a maxL : Nat} {L : List (Nat × Value)} {st As : List Value} {M : Mem} {y : MethodName} {b : ByteArray} {rm : Room} {f : Option (Bool × Mem)} {o : Bool → Mem → Option ρ} (cw : CS own idx y b maxL (some .boolean) a) (hM : Ct QZ l y b maxL (some .boolean) rm w (As) M f) (hn : As.length = a) (hR : rm.frames + 1 ≤ R.frames ∧ 8 + (maxL + 11) + rm.locals ≤ R.locals) (hC : k + rm.cells ≤ R.cells ∧ n + rm.slots ≤ R.slots) (hs : (st.map fun v => v.category).sum ≤ 8) (d : decode cc pc = .ok (.invokestatic idx, 3)) (kk : ∀ (x : Bool) (M1 : Mem), Go p l e R s m args below meth c w nL (k + rm.cells) (n + rm.slots) Qf (o x M1) (pc + 3) L (.int (b2i x) :: st) M1) : Go p l e R s m args below meth c w nL k n Qf (bnd f o) pc L (As.reverse ++ st) M := by
  intro r hr H locs ls hP hS hl
  cases f with
  | none => cases hr
  | some v =>
    refine va_calli (va_runS (As := As) (rest := st) ⟨g.1, g.2.1, g.2.2.1, g.2.2.2.1, g.2.2.2.2.1⟩ (hM v rfl) ⟨callB_of a g.2.2.2.2.1 (TT_gi cw.2.2.2.1) rfl rfl rfl (g.2.2.2.2.1 _ cw.2.2.1) (g.2.2.2.2.1 _ cw.1) cw.2.2.2.2 hR, g.2.2.2.2.1 _ cw.2.1⟩ ⟨Wd.blind, fun U hU hW => ⟨rfl, by rw [hU]; exact hP, va_K.moved hW.alike g.2.2.2.2.2.1, g.2.2.2.2.2.2.2.2.1, by rw [hU]; exact Nat.le_trans g.2.2.2.2.2.2.2.2.2 hS.1, Sx.step g.2.2.2.2.2.2.2.1 hS hU hW⟩⟩ rfl hn hl.1 rfl (lv_room hs) d hC) hS (fun _ _ h => h) (fun _ h => h) (fun x u t H1 locs1 ht hvm hw hB hz hkp hS1 => ?_)
    have hw : x = b2i v.1 := hw
    subst hw
    exact kk v.1 v.2 r hr H1 locs1 ls (by rw [← ht]; exact hB) hS1 hl
theorem G_cVNZ (g : Gd p s m args meth c w nL cc own) {pc idx a maxL : Nat} {L : List (Nat × Value)} {st As : List Value} {M : Mem} {y : MethodName} {b : ByteArray} {rm : Room} {host : String} {q ci N : Nat} {T : u_T} {f : Option (Bool × Mem)} {o : Bool → Mem → Option ρ} (cw : CVN own idx host y b maxL (some .boolean) a) (hM : Ct QZ l y b maxL (some .boolean) rm w (.ref (wad w q) :: As) M f) (hq : q ∈ wL w) (hk : (wZ w q).1 = ci) (hc : vwCl[ci]? = some (y.cls, T, N)) (hci : ci < 20) (hn : As.length = a) (hR : rm.frames + 1 ≤ R.frames ∧ 8 + (maxL + 11) + rm.locals ≤ R.locals) (hC : k + rm.cells ≤ R.cells ∧ n + rm.slots ≤ R.slots) (hs : (st.map fun v => v.category).sum ≤ 8) (d : decode cc pc = .ok (.invokevirtual idx, 3)) (kk : ∀ (x : Bool) (M1 : Mem), Go p l e R s m args below meth c w nL (k + rm.cells) (n + rm.slots) Qf (o x M1) (pc + 3) L (.int (b2i x) :: st) M1) : Go p l e R s m args below meth c w nL k n Qf (bnd f o) pc L (As.reverse ++ .ref (wad w q) :: st) M := by
  intro r hr H locs ls hP hS hl
  cases f with
  | none => cases hr
  | some v =>
    obtain ⟨j, -, hj⟩ := wW_get (M := M) hq
    rw [cellE_obj hk hci] at hj
    refine va_calli (va_runVN (As := As) (rest := st) ⟨g.1, g.2.1, g.2.2.1, g.2.2.2.1, g.2.2.2.2.1⟩ (hM v rfl) ⟨va_cnB a g.2.2.2.2.1 (TT_gi cw.2.2.2.2.1) rfl rfl rfl (g.2.2.2.2.2.2.2.1.2.2.1 _ cw.1) (g.2.2.2.2.1 _ cw.2.2.2.1) cw.2.2.2.2.2 hR, g.2.2.2.2.1 _ cw.2.1, g.2.2.2.2.1 _ cw.2.2.1⟩ ⟨Wd.blind, va_recv g.2.2.2.2.2.1 hP hc hj, fun U hU hW => ⟨rfl, by rw [hU]; exact hP, va_K.moved hW.alike g.2.2.2.2.2.1, g.2.2.2.2.2.2.2.2.1, by rw [hU]; exact Nat.le_trans g.2.2.2.2.2.2.2.2.2 hS.1, Sx.step g.2.2.2.2.2.2.2.1 hS hU hW⟩⟩ rfl hn hl.1 rfl (lv_room hs) d hC) hS (fun _ _ h => h) (fun _ h => h) (fun x u t H1 locs1 ht hvm hw hB hz hkp hS1 => ?_)
    have hw : x = b2i v.1 := hw
    subst hw
    exact kk v.1 v.2 r hr H1 locs1 ls (by rw [← ht]; exact hB) hS1 hl
theorem G_cSNZ (g : Gd p s m args meth c w nL cc own) {pc idx a maxL : Nat} {L : List (Nat × Value)} {st As : List Value} {M : Mem} {y : MethodName} {b : ByteArray} {rm : Room} {host : String} {f : Option (Bool × Mem)} {o : Bool → Mem → Option ρ} (cw : CSN own idx host y b maxL (some .boolean) a) (hM : Ct QZ l y b maxL (some .boolean) rm w (As) M f) (hn : As.length = a) (hR : rm.frames + 1 ≤ R.frames ∧ 8 + (maxL + 11) + rm.locals ≤ R.locals) (hC : k + rm.cells ≤ R.cells ∧ n + rm.slots ≤ R.slots) (hs : (st.map fun v => v.category).sum ≤ 8) (d : decode cc pc = .ok (.invokestatic idx, 3)) (kk : ∀ (x : Bool) (M1 : Mem), Go p l e R s m args below meth c w nL (k + rm.cells) (n + rm.slots) Qf (o x M1) (pc + 3) L (.int (b2i x) :: st) M1) : Go p l e R s m args below meth c w nL k n Qf (bnd f o) pc L (As.reverse ++ st) M := by
  intro r hr H locs ls hP hS hl
  cases f with
  | none => cases hr
  | some v =>
    refine va_calli (va_runSN (As := As) (rest := st) ⟨g.1, g.2.1, g.2.2.1, g.2.2.2.1, g.2.2.2.2.1⟩ (hM v rfl) ⟨va_cnB a g.2.2.2.2.1 (TT_gi cw.2.2.2.1) rfl rfl rfl (g.2.2.2.2.2.2.2.1.2.2.1 _ cw.1) (g.2.2.2.2.1 _ cw.2.2.1) cw.2.2.2.2 hR, g.2.2.2.2.1 _ cw.2.1, trivial⟩ ⟨Wd.blind, fun U hU hW => ⟨rfl, by rw [hU]; exact hP, va_K.moved hW.alike g.2.2.2.2.2.1, g.2.2.2.2.2.2.2.2.1, by rw [hU]; exact Nat.le_trans g.2.2.2.2.2.2.2.2.2 hS.1, Sx.step g.2.2.2.2.2.2.2.1 hS hU hW⟩⟩ rfl hn hl.1 rfl (lv_room hs) d hC) hS (fun _ _ h => h) (fun _ h => h) (fun x u t H1 locs1 ht hvm hw hB hz hkp hS1 => ?_)
    have hw : x = b2i v.1 := hw
    subst hw
    exact kk v.1 v.2 r hr H1 locs1 ls (by rw [← ht]; exact hB) hS1 hl
theorem G_cVV (g : Gd p s m args meth c w nL cc own) {pc idx a maxL : Nat} {L : List (Nat × Value)} {st As : List Value} {M : Mem} {y : MethodName} {b : ByteArray} {rm : Room} {q ci N : Nat} {T : u_T} {f : Option (Mem)} {o : Mem → Option ρ} (cw : CV own idx y b maxL none a) (hM : Ct QV l y b maxL none rm w (.ref (wad w q) :: As) M f) (hq : q ∈ wL w) (hk : (wZ w q).1 = ci) (hc : vwCl[ci]? = some (y.cls, T, N)) (hci : ci < 20) (hn : As.length = a) (hR : rm.frames + 1 ≤ R.frames ∧ 8 + (maxL + 11) + rm.locals ≤ R.locals) (hC : k + rm.cells ≤ R.cells ∧ n + rm.slots ≤ R.slots) (hs : (st.map fun v => v.category).sum ≤ 8) (d : decode cc pc = .ok (.invokevirtual idx, 3)) (kk : ∀ (M1 : Mem), Go p l e R s m args below meth c w nL (k + rm.cells) (n + rm.slots) Qf (o M1) (pc + 3) L (st) M1) : Go p l e R s m args below meth c w nL k n Qf (bndM f o) pc L (As.reverse ++ .ref (wad w q) :: st) M := by
  intro r hr H locs ls hP hS hl
  cases f with
  | none => cases hr
  | some v =>
    obtain ⟨j, -, hj⟩ := wW_get (M := M) hq
    rw [cellE_obj hk hci] at hj
    refine va_callv (va_runV (As := As) (rest := st) ⟨g.1, g.2.1, g.2.2.1, g.2.2.2.1, g.2.2.2.2.1⟩ (hM v rfl) ⟨callB_of a g.2.2.2.2.1 (TT_gi cw.2.2.2.2.1) rfl rfl rfl (g.2.2.2.2.1 _ cw.2.2.2.1) (g.2.2.2.2.1 _ cw.1) cw.2.2.2.2.2 hR, g.2.2.2.2.1 _ cw.2.1, g.2.2.2.2.1 _ cw.2.2.1⟩ ⟨Wd.blind, va_recv g.2.2.2.2.2.1 hP hc hj, fun U hU hW => ⟨rfl, by rw [hU]; exact hP, va_K.moved hW.alike g.2.2.2.2.2.1, g.2.2.2.2.2.2.2.2.1, by rw [hU]; exact Nat.le_trans g.2.2.2.2.2.2.2.2.2 hS.1, Sx.step g.2.2.2.2.2.2.2.1 hS hU hW⟩⟩ rfl hn hl.1 rfl (lv_room hs) d hC) hS (fun _ _ h => h) (fun _ h => h) (fun u t H1 locs1 ht hvm hw hB hz hkp hS1 => ?_)
    exact kk v r hr H1 locs1 ls (by rw [← ht]; exact hB) hS1 hl
theorem G_cSV (g : Gd p s m args meth c w nL cc own) {pc idx a maxL : Nat} {L : List (Nat × Value)} {st As : List Value} {M : Mem} {y : MethodName} {b : ByteArray} {rm : Room} {f : Option (Mem)} {o : Mem → Option ρ} (cw : CS own idx y b maxL none a) (hM : Ct QV l y b maxL none rm w (As) M f) (hn : As.length = a) (hR : rm.frames + 1 ≤ R.frames ∧ 8 + (maxL + 11) + rm.locals ≤ R.locals) (hC : k + rm.cells ≤ R.cells ∧ n + rm.slots ≤ R.slots) (hs : (st.map fun v => v.category).sum ≤ 8) (d : decode cc pc = .ok (.invokestatic idx, 3)) (kk : ∀ (M1 : Mem), Go p l e R s m args below meth c w nL (k + rm.cells) (n + rm.slots) Qf (o M1) (pc + 3) L (st) M1) : Go p l e R s m args below meth c w nL k n Qf (bndM f o) pc L (As.reverse ++ st) M := by
  intro r hr H locs ls hP hS hl
  cases f with
  | none => cases hr
  | some v =>
    refine va_callv (va_runS (As := As) (rest := st) ⟨g.1, g.2.1, g.2.2.1, g.2.2.2.1, g.2.2.2.2.1⟩ (hM v rfl) ⟨callB_of a g.2.2.2.2.1 (TT_gi cw.2.2.2.1) rfl rfl rfl (g.2.2.2.2.1 _ cw.2.2.1) (g.2.2.2.2.1 _ cw.1) cw.2.2.2.2 hR, g.2.2.2.2.1 _ cw.2.1⟩ ⟨Wd.blind, fun U hU hW => ⟨rfl, by rw [hU]; exact hP, va_K.moved hW.alike g.2.2.2.2.2.1, g.2.2.2.2.2.2.2.2.1, by rw [hU]; exact Nat.le_trans g.2.2.2.2.2.2.2.2.2 hS.1, Sx.step g.2.2.2.2.2.2.2.1 hS hU hW⟩⟩ rfl hn hl.1 rfl (lv_room hs) d hC) hS (fun _ _ h => h) (fun _ h => h) (fun u t H1 locs1 ht hvm hw hB hz hkp hS1 => ?_)
    exact kk v r hr H1 locs1 ls (by rw [← ht]; exact hB) hS1 hl
theorem G_cVNV (g : Gd p s m args meth c w nL cc own) {pc idx a maxL : Nat} {L : List (Nat × Value)} {st As : List Value} {M : Mem} {y : MethodName} {b : ByteArray} {rm : Room} {host : String} {q ci N : Nat} {T : u_T} {f : Option (Mem)} {o : Mem → Option ρ} (cw : CVN own idx host y b maxL none a) (hM : Ct QV l y b maxL none rm w (.ref (wad w q) :: As) M f) (hq : q ∈ wL w) (hk : (wZ w q).1 = ci) (hc : vwCl[ci]? = some (y.cls, T, N)) (hci : ci < 20) (hn : As.length = a) (hR : rm.frames + 1 ≤ R.frames ∧ 8 + (maxL + 11) + rm.locals ≤ R.locals) (hC : k + rm.cells ≤ R.cells ∧ n + rm.slots ≤ R.slots) (hs : (st.map fun v => v.category).sum ≤ 8) (d : decode cc pc = .ok (.invokevirtual idx, 3)) (kk : ∀ (M1 : Mem), Go p l e R s m args below meth c w nL (k + rm.cells) (n + rm.slots) Qf (o M1) (pc + 3) L (st) M1) : Go p l e R s m args below meth c w nL k n Qf (bndM f o) pc L (As.reverse ++ .ref (wad w q) :: st) M := by
  intro r hr H locs ls hP hS hl
  cases f with
  | none => cases hr
  | some v =>
    obtain ⟨j, -, hj⟩ := wW_get (M := M) hq
    rw [cellE_obj hk hci] at hj
    refine va_callv (va_runVN (As := As) (rest := st) ⟨g.1, g.2.1, g.2.2.1, g.2.2.2.1, g.2.2.2.2.1⟩ (hM v rfl) ⟨va_cnB a g.2.2.2.2.1 (TT_gi cw.2.2.2.2.1) rfl rfl rfl (g.2.2.2.2.2.2.2.1.2.2.1 _ cw.1) (g.2.2.2.2.1 _ cw.2.2.2.1) cw.2.2.2.2.2 hR, g.2.2.2.2.1 _ cw.2.1, g.2.2.2.2.1 _ cw.2.2.1⟩ ⟨Wd.blind, va_recv g.2.2.2.2.2.1 hP hc hj, fun U hU hW => ⟨rfl, by rw [hU]; exact hP, va_K.moved hW.alike g.2.2.2.2.2.1, g.2.2.2.2.2.2.2.2.1, by rw [hU]; exact Nat.le_trans g.2.2.2.2.2.2.2.2.2 hS.1, Sx.step g.2.2.2.2.2.2.2.1 hS hU hW⟩⟩ rfl hn hl.1 rfl (lv_room hs) d hC) hS (fun _ _ h => h) (fun _ h => h) (fun u t H1 locs1 ht hvm hw hB hz hkp hS1 => ?_)
    exact kk v r hr H1 locs1 ls (by rw [← ht]; exact hB) hS1 hl
theorem G_cSNV (g : Gd p s m args meth c w nL cc own) {pc idx a maxL : Nat} {L : List (Nat × Value)} {st As : List Value} {M : Mem} {y : MethodName} {b : ByteArray} {rm : Room} {host : String} {f : Option (Mem)} {o : Mem → Option ρ} (cw : CSN own idx host y b maxL none a) (hM : Ct QV l y b maxL none rm w (As) M f) (hn : As.length = a) (hR : rm.frames + 1 ≤ R.frames ∧ 8 + (maxL + 11) + rm.locals ≤ R.locals) (hC : k + rm.cells ≤ R.cells ∧ n + rm.slots ≤ R.slots) (hs : (st.map fun v => v.category).sum ≤ 8) (d : decode cc pc = .ok (.invokestatic idx, 3)) (kk : ∀ (M1 : Mem), Go p l e R s m args below meth c w nL (k + rm.cells) (n + rm.slots) Qf (o M1) (pc + 3) L (st) M1) : Go p l e R s m args below meth c w nL k n Qf (bndM f o) pc L (As.reverse ++ st) M := by
  intro r hr H locs ls hP hS hl
  cases f with
  | none => cases hr
  | some v =>
    refine va_callv (va_runSN (As := As) (rest := st) ⟨g.1, g.2.1, g.2.2.1, g.2.2.2.1, g.2.2.2.2.1⟩ (hM v rfl) ⟨va_cnB a g.2.2.2.2.1 (TT_gi cw.2.2.2.1) rfl rfl rfl (g.2.2.2.2.2.2.2.1.2.2.1 _ cw.1) (g.2.2.2.2.1 _ cw.2.2.1) cw.2.2.2.2 hR, g.2.2.2.2.1 _ cw.2.1, trivial⟩ ⟨Wd.blind, fun U hU hW => ⟨rfl, by rw [hU]; exact hP, va_K.moved hW.alike g.2.2.2.2.2.1, g.2.2.2.2.2.2.2.2.1, by rw [hU]; exact Nat.le_trans g.2.2.2.2.2.2.2.2.2 hS.1, Sx.step g.2.2.2.2.2.2.2.1 hS hU hW⟩⟩ rfl hn hl.1 rfl (lv_room hs) d hC) hS (fun _ _ h => h) (fun _ h => h) (fun u t H1 locs1 ht hvm hw hB hz hkp hS1 => ?_)
    exact kk v r hr H1 locs1 ls (by rw [← ht]; exact hB) hS1 hl
theorem G_cVR (g : Gd p s m args meth c w nL cc own) {pc idx a maxL : Nat} {L : List (Nat × Value)} {st As : List Value} {M : Mem} {y : MethodName} {b : ByteArray} {rm : Room} {q ci N : Nat} {T : u_T} {rn : String} {f : Option (Option Nat × Mem)} {o : Option Nat → Mem → Option ρ} (cw : CV own idx y b maxL (some (.object rn)) a) (hM : Ct QR l y b maxL (some (.object rn)) rm w (.ref (wad w q) :: As) M f) (hq : q ∈ wL w) (hk : (wZ w q).1 = ci) (hc : vwCl[ci]? = some (y.cls, T, N)) (hci : ci < 20) (hn : As.length = a) (hR : rm.frames + 1 ≤ R.frames ∧ 8 + (maxL + 11) + rm.locals ≤ R.locals) (hC : k + rm.cells ≤ R.cells ∧ n + rm.slots ≤ R.slots) (hs : (st.map fun v => v.category).sum ≤ 8) (d : decode cc pc = .ok (.invokevirtual idx, 3)) (kk : ∀ (x : Option Nat) (M1 : Mem), Go p l e R s m args below meth c w nL (k + rm.cells) (n + rm.slots) Qf (o x M1) (pc + 3) L (va_rf (x.map (wad w)) :: st) M1) : Go p l e R s m args below meth c w nL k n Qf (bnd f o) pc L (As.reverse ++ .ref (wad w q) :: st) M := by
  intro r hr H locs ls hP hS hl
  cases f with
  | none => cases hr
  | some v =>
    obtain ⟨j, -, hj⟩ := wW_get (M := M) hq
    rw [cellE_obj hk hci] at hj
    refine va_callq (va_runV (As := As) (rest := st) ⟨g.1, g.2.1, g.2.2.1, g.2.2.2.1, g.2.2.2.2.1⟩ (hM v rfl) ⟨callB_of a g.2.2.2.2.1 (TT_gi cw.2.2.2.2.1) rfl rfl rfl (g.2.2.2.2.1 _ cw.2.2.2.1) (g.2.2.2.2.1 _ cw.1) cw.2.2.2.2.2 hR, g.2.2.2.2.1 _ cw.2.1, g.2.2.2.2.1 _ cw.2.2.1⟩ ⟨Wd.blind, va_recv g.2.2.2.2.2.1 hP hc hj, fun U hU hW => ⟨rfl, by rw [hU]; exact hP, va_K.moved hW.alike g.2.2.2.2.2.1, g.2.2.2.2.2.2.2.2.1, by rw [hU]; exact Nat.le_trans g.2.2.2.2.2.2.2.2.2 hS.1, Sx.step g.2.2.2.2.2.2.2.1 hS hU hW⟩⟩ rfl hn hl.1 rfl (lv_room hs) d hC) hS (fun _ _ h => h) (fun _ h => h) (fun x u t H1 locs1 ht hvm hw hB hz hkp hS1 => ?_)
    have hw : x = v.1.map (wad w) := hw
    subst hw
    exact kk v.1 v.2 r hr H1 locs1 ls (by rw [← ht]; exact hB) hS1 hl
theorem G_cSR (g : Gd p s m args meth c w nL cc own) {pc idx a maxL : Nat} {L : List (Nat × Value)} {st As : List Value} {M : Mem} {y : MethodName} {b : ByteArray} {rm : Room} {rn : String} {f : Option (Option Nat × Mem)} {o : Option Nat → Mem → Option ρ} (cw : CS own idx y b maxL (some (.object rn)) a) (hM : Ct QR l y b maxL (some (.object rn)) rm w (As) M f) (hn : As.length = a) (hR : rm.frames + 1 ≤ R.frames ∧ 8 + (maxL + 11) + rm.locals ≤ R.locals) (hC : k + rm.cells ≤ R.cells ∧ n + rm.slots ≤ R.slots) (hs : (st.map fun v => v.category).sum ≤ 8) (d : decode cc pc = .ok (.invokestatic idx, 3)) (kk : ∀ (x : Option Nat) (M1 : Mem), Go p l e R s m args below meth c w nL (k + rm.cells) (n + rm.slots) Qf (o x M1) (pc + 3) L (va_rf (x.map (wad w)) :: st) M1) : Go p l e R s m args below meth c w nL k n Qf (bnd f o) pc L (As.reverse ++ st) M := by
  intro r hr H locs ls hP hS hl
  cases f with
  | none => cases hr
  | some v =>
    refine va_callq (va_runS (As := As) (rest := st) ⟨g.1, g.2.1, g.2.2.1, g.2.2.2.1, g.2.2.2.2.1⟩ (hM v rfl) ⟨callB_of a g.2.2.2.2.1 (TT_gi cw.2.2.2.1) rfl rfl rfl (g.2.2.2.2.1 _ cw.2.2.1) (g.2.2.2.2.1 _ cw.1) cw.2.2.2.2 hR, g.2.2.2.2.1 _ cw.2.1⟩ ⟨Wd.blind, fun U hU hW => ⟨rfl, by rw [hU]; exact hP, va_K.moved hW.alike g.2.2.2.2.2.1, g.2.2.2.2.2.2.2.2.1, by rw [hU]; exact Nat.le_trans g.2.2.2.2.2.2.2.2.2 hS.1, Sx.step g.2.2.2.2.2.2.2.1 hS hU hW⟩⟩ rfl hn hl.1 rfl (lv_room hs) d hC) hS (fun _ _ h => h) (fun _ h => h) (fun x u t H1 locs1 ht hvm hw hB hz hkp hS1 => ?_)
    have hw : x = v.1.map (wad w) := hw
    subst hw
    exact kk v.1 v.2 r hr H1 locs1 ls (by rw [← ht]; exact hB) hS1 hl
theorem G_cVNR (g : Gd p s m args meth c w nL cc own) {pc idx a maxL : Nat} {L : List (Nat × Value)} {st As : List Value} {M : Mem} {y : MethodName} {b : ByteArray} {rm : Room} {host : String} {q ci N : Nat} {T : u_T} {rn : String} {f : Option (Option Nat × Mem)} {o : Option Nat → Mem → Option ρ} (cw : CVN own idx host y b maxL (some (.object rn)) a) (hM : Ct QR l y b maxL (some (.object rn)) rm w (.ref (wad w q) :: As) M f) (hq : q ∈ wL w) (hk : (wZ w q).1 = ci) (hc : vwCl[ci]? = some (y.cls, T, N)) (hci : ci < 20) (hn : As.length = a) (hR : rm.frames + 1 ≤ R.frames ∧ 8 + (maxL + 11) + rm.locals ≤ R.locals) (hC : k + rm.cells ≤ R.cells ∧ n + rm.slots ≤ R.slots) (hs : (st.map fun v => v.category).sum ≤ 8) (d : decode cc pc = .ok (.invokevirtual idx, 3)) (kk : ∀ (x : Option Nat) (M1 : Mem), Go p l e R s m args below meth c w nL (k + rm.cells) (n + rm.slots) Qf (o x M1) (pc + 3) L (va_rf (x.map (wad w)) :: st) M1) : Go p l e R s m args below meth c w nL k n Qf (bnd f o) pc L (As.reverse ++ .ref (wad w q) :: st) M := by
  intro r hr H locs ls hP hS hl
  cases f with
  | none => cases hr
  | some v =>
    obtain ⟨j, -, hj⟩ := wW_get (M := M) hq
    rw [cellE_obj hk hci] at hj
    refine va_callq (va_runVN (As := As) (rest := st) ⟨g.1, g.2.1, g.2.2.1, g.2.2.2.1, g.2.2.2.2.1⟩ (hM v rfl) ⟨va_cnB a g.2.2.2.2.1 (TT_gi cw.2.2.2.2.1) rfl rfl rfl (g.2.2.2.2.2.2.2.1.2.2.1 _ cw.1) (g.2.2.2.2.1 _ cw.2.2.2.1) cw.2.2.2.2.2 hR, g.2.2.2.2.1 _ cw.2.1, g.2.2.2.2.1 _ cw.2.2.1⟩ ⟨Wd.blind, va_recv g.2.2.2.2.2.1 hP hc hj, fun U hU hW => ⟨rfl, by rw [hU]; exact hP, va_K.moved hW.alike g.2.2.2.2.2.1, g.2.2.2.2.2.2.2.2.1, by rw [hU]; exact Nat.le_trans g.2.2.2.2.2.2.2.2.2 hS.1, Sx.step g.2.2.2.2.2.2.2.1 hS hU hW⟩⟩ rfl hn hl.1 rfl (lv_room hs) d hC) hS (fun _ _ h => h) (fun _ h => h) (fun x u t H1 locs1 ht hvm hw hB hz hkp hS1 => ?_)
    have hw : x = v.1.map (wad w) := hw
    subst hw
    exact kk v.1 v.2 r hr H1 locs1 ls (by rw [← ht]; exact hB) hS1 hl
theorem G_cSNR (g : Gd p s m args meth c w nL cc own) {pc idx a maxL : Nat} {L : List (Nat × Value)} {st As : List Value} {M : Mem} {y : MethodName} {b : ByteArray} {rm : Room} {host : String} {rn : String} {f : Option (Option Nat × Mem)} {o : Option Nat → Mem → Option ρ} (cw : CSN own idx host y b maxL (some (.object rn)) a) (hM : Ct QR l y b maxL (some (.object rn)) rm w (As) M f) (hn : As.length = a) (hR : rm.frames + 1 ≤ R.frames ∧ 8 + (maxL + 11) + rm.locals ≤ R.locals) (hC : k + rm.cells ≤ R.cells ∧ n + rm.slots ≤ R.slots) (hs : (st.map fun v => v.category).sum ≤ 8) (d : decode cc pc = .ok (.invokestatic idx, 3)) (kk : ∀ (x : Option Nat) (M1 : Mem), Go p l e R s m args below meth c w nL (k + rm.cells) (n + rm.slots) Qf (o x M1) (pc + 3) L (va_rf (x.map (wad w)) :: st) M1) : Go p l e R s m args below meth c w nL k n Qf (bnd f o) pc L (As.reverse ++ st) M := by
  intro r hr H locs ls hP hS hl
  cases f with
  | none => cases hr
  | some v =>
    refine va_callq (va_runSN (As := As) (rest := st) ⟨g.1, g.2.1, g.2.2.1, g.2.2.2.1, g.2.2.2.2.1⟩ (hM v rfl) ⟨va_cnB a g.2.2.2.2.1 (TT_gi cw.2.2.2.1) rfl rfl rfl (g.2.2.2.2.2.2.2.1.2.2.1 _ cw.1) (g.2.2.2.2.1 _ cw.2.2.1) cw.2.2.2.2 hR, g.2.2.2.2.1 _ cw.2.1, trivial⟩ ⟨Wd.blind, fun U hU hW => ⟨rfl, by rw [hU]; exact hP, va_K.moved hW.alike g.2.2.2.2.2.1, g.2.2.2.2.2.2.2.2.1, by rw [hU]; exact Nat.le_trans g.2.2.2.2.2.2.2.2.2 hS.1, Sx.step g.2.2.2.2.2.2.2.1 hS hU hW⟩⟩ rfl hn hl.1 rfl (lv_room hs) d hC) hS (fun _ _ h => h) (fun _ h => h) (fun x u t H1 locs1 ht hvm hw hB hz hkp hS1 => ?_)
    have hw : x = v.1.map (wad w) := hw
    subst hw
    exact kk v.1 v.2 r hr H1 locs1 ls (by rw [← ht]; exact hB) hS1 hl
theorem G_cVD (g : Gd p s m args meth c w nL cc own) {pc idx a maxL : Nat} {L : List (Nat × Value)} {st As : List Value} {M : Mem} {y : MethodName} {b : ByteArray} {rm : Room} {q ci N : Nat} {T : u_T} {f : Option (UInt64 × Mem)} {o : UInt64 → Mem → Option ρ} (cw : CV own idx y b maxL (some .double) a) (hM : Ct QD l y b maxL (some .double) rm w (.ref (wad w q) :: As) M f) (hq : q ∈ wL w) (hk : (wZ w q).1 = ci) (hc : vwCl[ci]? = some (y.cls, T, N)) (hci : ci < 20) (hn : As.length = a) (hR : rm.frames + 1 ≤ R.frames ∧ 8 + (maxL + 11) + rm.locals ≤ R.locals) (hC : k + rm.cells ≤ R.cells ∧ n + rm.slots ≤ R.slots) (hs : (st.map fun v => v.category).sum ≤ 8) (d : decode cc pc = .ok (.invokevirtual idx, 3)) (kk : ∀ (x : UInt64) (M1 : Mem), Go p l e R s m args below meth c w nL (k + rm.cells) (n + rm.slots) Qf (o x M1) (pc + 3) L (.double x :: st) M1) : Go p l e R s m args below meth c w nL k n Qf (bnd f o) pc L (As.reverse ++ .ref (wad w q) :: st) M := by
  intro r hr H locs ls hP hS hl
  cases f with
  | none => cases hr
  | some v =>
    obtain ⟨j, -, hj⟩ := wW_get (M := M) hq
    rw [cellE_obj hk hci] at hj
    refine va_calld (va_runV (As := As) (rest := st) ⟨g.1, g.2.1, g.2.2.1, g.2.2.2.1, g.2.2.2.2.1⟩ (hM v rfl) ⟨callB_of a g.2.2.2.2.1 (TT_gi cw.2.2.2.2.1) rfl rfl rfl (g.2.2.2.2.1 _ cw.2.2.2.1) (g.2.2.2.2.1 _ cw.1) cw.2.2.2.2.2 hR, g.2.2.2.2.1 _ cw.2.1, g.2.2.2.2.1 _ cw.2.2.1⟩ ⟨Wd.blind, va_recv g.2.2.2.2.2.1 hP hc hj, fun U hU hW => ⟨rfl, by rw [hU]; exact hP, va_K.moved hW.alike g.2.2.2.2.2.1, g.2.2.2.2.2.2.2.2.1, by rw [hU]; exact Nat.le_trans g.2.2.2.2.2.2.2.2.2 hS.1, Sx.step g.2.2.2.2.2.2.2.1 hS hU hW⟩⟩ rfl hn hl.1 rfl (lv_room hs) d hC) hS (fun _ _ h => h) (fun _ h => h) (fun x u t H1 locs1 ht hvm hw hB hz hkp hS1 => ?_)
    have hw : x = v.1 := hw
    subst hw
    exact kk v.1 v.2 r hr H1 locs1 ls (by rw [← ht]; exact hB) hS1 hl
theorem G_cSD (g : Gd p s m args meth c w nL cc own) {pc idx a maxL : Nat} {L : List (Nat × Value)} {st As : List Value} {M : Mem} {y : MethodName} {b : ByteArray} {rm : Room} {f : Option (UInt64 × Mem)} {o : UInt64 → Mem → Option ρ} (cw : CS own idx y b maxL (some .double) a) (hM : Ct QD l y b maxL (some .double) rm w (As) M f) (hn : As.length = a) (hR : rm.frames + 1 ≤ R.frames ∧ 8 + (maxL + 11) + rm.locals ≤ R.locals) (hC : k + rm.cells ≤ R.cells ∧ n + rm.slots ≤ R.slots) (hs : (st.map fun v => v.category).sum ≤ 8) (d : decode cc pc = .ok (.invokestatic idx, 3)) (kk : ∀ (x : UInt64) (M1 : Mem), Go p l e R s m args below meth c w nL (k + rm.cells) (n + rm.slots) Qf (o x M1) (pc + 3) L (.double x :: st) M1) : Go p l e R s m args below meth c w nL k n Qf (bnd f o) pc L (As.reverse ++ st) M := by
  intro r hr H locs ls hP hS hl
  cases f with
  | none => cases hr
  | some v =>
    refine va_calld (va_runS (As := As) (rest := st) ⟨g.1, g.2.1, g.2.2.1, g.2.2.2.1, g.2.2.2.2.1⟩ (hM v rfl) ⟨callB_of a g.2.2.2.2.1 (TT_gi cw.2.2.2.1) rfl rfl rfl (g.2.2.2.2.1 _ cw.2.2.1) (g.2.2.2.2.1 _ cw.1) cw.2.2.2.2 hR, g.2.2.2.2.1 _ cw.2.1⟩ ⟨Wd.blind, fun U hU hW => ⟨rfl, by rw [hU]; exact hP, va_K.moved hW.alike g.2.2.2.2.2.1, g.2.2.2.2.2.2.2.2.1, by rw [hU]; exact Nat.le_trans g.2.2.2.2.2.2.2.2.2 hS.1, Sx.step g.2.2.2.2.2.2.2.1 hS hU hW⟩⟩ rfl hn hl.1 rfl (lv_room hs) d hC) hS (fun _ _ h => h) (fun _ h => h) (fun x u t H1 locs1 ht hvm hw hB hz hkp hS1 => ?_)
    have hw : x = v.1 := hw
    subst hw
    exact kk v.1 v.2 r hr H1 locs1 ls (by rw [← ht]; exact hB) hS1 hl
theorem G_cVND (g : Gd p s m args meth c w nL cc own) {pc idx a maxL : Nat} {L : List (Nat × Value)} {st As : List Value} {M : Mem} {y : MethodName} {b : ByteArray} {rm : Room} {host : String} {q ci N : Nat} {T : u_T} {f : Option (UInt64 × Mem)} {o : UInt64 → Mem → Option ρ} (cw : CVN own idx host y b maxL (some .double) a) (hM : Ct QD l y b maxL (some .double) rm w (.ref (wad w q) :: As) M f) (hq : q ∈ wL w) (hk : (wZ w q).1 = ci) (hc : vwCl[ci]? = some (y.cls, T, N)) (hci : ci < 20) (hn : As.length = a) (hR : rm.frames + 1 ≤ R.frames ∧ 8 + (maxL + 11) + rm.locals ≤ R.locals) (hC : k + rm.cells ≤ R.cells ∧ n + rm.slots ≤ R.slots) (hs : (st.map fun v => v.category).sum ≤ 8) (d : decode cc pc = .ok (.invokevirtual idx, 3)) (kk : ∀ (x : UInt64) (M1 : Mem), Go p l e R s m args below meth c w nL (k + rm.cells) (n + rm.slots) Qf (o x M1) (pc + 3) L (.double x :: st) M1) : Go p l e R s m args below meth c w nL k n Qf (bnd f o) pc L (As.reverse ++ .ref (wad w q) :: st) M := by
  intro r hr H locs ls hP hS hl
  cases f with
  | none => cases hr
  | some v =>
    obtain ⟨j, -, hj⟩ := wW_get (M := M) hq
    rw [cellE_obj hk hci] at hj
    refine va_calld (va_runVN (As := As) (rest := st) ⟨g.1, g.2.1, g.2.2.1, g.2.2.2.1, g.2.2.2.2.1⟩ (hM v rfl) ⟨va_cnB a g.2.2.2.2.1 (TT_gi cw.2.2.2.2.1) rfl rfl rfl (g.2.2.2.2.2.2.2.1.2.2.1 _ cw.1) (g.2.2.2.2.1 _ cw.2.2.2.1) cw.2.2.2.2.2 hR, g.2.2.2.2.1 _ cw.2.1, g.2.2.2.2.1 _ cw.2.2.1⟩ ⟨Wd.blind, va_recv g.2.2.2.2.2.1 hP hc hj, fun U hU hW => ⟨rfl, by rw [hU]; exact hP, va_K.moved hW.alike g.2.2.2.2.2.1, g.2.2.2.2.2.2.2.2.1, by rw [hU]; exact Nat.le_trans g.2.2.2.2.2.2.2.2.2 hS.1, Sx.step g.2.2.2.2.2.2.2.1 hS hU hW⟩⟩ rfl hn hl.1 rfl (lv_room hs) d hC) hS (fun _ _ h => h) (fun _ h => h) (fun x u t H1 locs1 ht hvm hw hB hz hkp hS1 => ?_)
    have hw : x = v.1 := hw
    subst hw
    exact kk v.1 v.2 r hr H1 locs1 ls (by rw [← ht]; exact hB) hS1 hl
theorem G_cSND (g : Gd p s m args meth c w nL cc own) {pc idx a maxL : Nat} {L : List (Nat × Value)} {st As : List Value} {M : Mem} {y : MethodName} {b : ByteArray} {rm : Room} {host : String} {f : Option (UInt64 × Mem)} {o : UInt64 → Mem → Option ρ} (cw : CSN own idx host y b maxL (some .double) a) (hM : Ct QD l y b maxL (some .double) rm w (As) M f) (hn : As.length = a) (hR : rm.frames + 1 ≤ R.frames ∧ 8 + (maxL + 11) + rm.locals ≤ R.locals) (hC : k + rm.cells ≤ R.cells ∧ n + rm.slots ≤ R.slots) (hs : (st.map fun v => v.category).sum ≤ 8) (d : decode cc pc = .ok (.invokestatic idx, 3)) (kk : ∀ (x : UInt64) (M1 : Mem), Go p l e R s m args below meth c w nL (k + rm.cells) (n + rm.slots) Qf (o x M1) (pc + 3) L (.double x :: st) M1) : Go p l e R s m args below meth c w nL k n Qf (bnd f o) pc L (As.reverse ++ st) M := by
  intro r hr H locs ls hP hS hl
  cases f with
  | none => cases hr
  | some v =>
    refine va_calld (va_runSN (As := As) (rest := st) ⟨g.1, g.2.1, g.2.2.1, g.2.2.2.1, g.2.2.2.2.1⟩ (hM v rfl) ⟨va_cnB a g.2.2.2.2.1 (TT_gi cw.2.2.2.1) rfl rfl rfl (g.2.2.2.2.2.2.2.1.2.2.1 _ cw.1) (g.2.2.2.2.1 _ cw.2.2.1) cw.2.2.2.2 hR, g.2.2.2.2.1 _ cw.2.1, trivial⟩ ⟨Wd.blind, fun U hU hW => ⟨rfl, by rw [hU]; exact hP, va_K.moved hW.alike g.2.2.2.2.2.1, g.2.2.2.2.2.2.2.2.1, by rw [hU]; exact Nat.le_trans g.2.2.2.2.2.2.2.2.2 hS.1, Sx.step g.2.2.2.2.2.2.2.1 hS hU hW⟩⟩ rfl hn hl.1 rfl (lv_room hs) d hC) hS (fun _ _ h => h) (fun _ h => h) (fun x u t H1 locs1 ht hvm hw hB hz hkp hS1 => ?_)
    have hw : x = v.1 := hw
    subst hw
    exact kk v.1 v.2 r hr H1 locs1 ls (by rw [← ht]; exact hB) hS1 hl
theorem G_cVF (g : Gd p s m args meth c w nL cc own) {pc idx a maxL : Nat} {L : List (Nat × Value)} {st As : List Value} {M : Mem} {y : MethodName} {b : ByteArray} {rm : Room} {q ci N : Nat} {T : u_T} {f : Option (UInt32 × Mem)} {o : UInt32 → Mem → Option ρ} (cw : CV own idx y b maxL (some .float) a) (hM : Ct QF l y b maxL (some .float) rm w (.ref (wad w q) :: As) M f) (hq : q ∈ wL w) (hk : (wZ w q).1 = ci) (hc : vwCl[ci]? = some (y.cls, T, N)) (hci : ci < 20) (hn : As.length = a) (hR : rm.frames + 1 ≤ R.frames ∧ 8 + (maxL + 11) + rm.locals ≤ R.locals) (hC : k + rm.cells ≤ R.cells ∧ n + rm.slots ≤ R.slots) (hs : (st.map fun v => v.category).sum ≤ 8) (d : decode cc pc = .ok (.invokevirtual idx, 3)) (kk : ∀ (x : UInt32) (M1 : Mem), Go p l e R s m args below meth c w nL (k + rm.cells) (n + rm.slots) Qf (o x M1) (pc + 3) L (.float x :: st) M1) : Go p l e R s m args below meth c w nL k n Qf (bnd f o) pc L (As.reverse ++ .ref (wad w q) :: st) M := by
  intro r hr H locs ls hP hS hl
  cases f with
  | none => cases hr
  | some v =>
    obtain ⟨j, -, hj⟩ := wW_get (M := M) hq
    rw [cellE_obj hk hci] at hj
    refine va_callf (va_runV (As := As) (rest := st) ⟨g.1, g.2.1, g.2.2.1, g.2.2.2.1, g.2.2.2.2.1⟩ (hM v rfl) ⟨callB_of a g.2.2.2.2.1 (TT_gi cw.2.2.2.2.1) rfl rfl rfl (g.2.2.2.2.1 _ cw.2.2.2.1) (g.2.2.2.2.1 _ cw.1) cw.2.2.2.2.2 hR, g.2.2.2.2.1 _ cw.2.1, g.2.2.2.2.1 _ cw.2.2.1⟩ ⟨Wd.blind, va_recv g.2.2.2.2.2.1 hP hc hj, fun U hU hW => ⟨rfl, by rw [hU]; exact hP, va_K.moved hW.alike g.2.2.2.2.2.1, g.2.2.2.2.2.2.2.2.1, by rw [hU]; exact Nat.le_trans g.2.2.2.2.2.2.2.2.2 hS.1, Sx.step g.2.2.2.2.2.2.2.1 hS hU hW⟩⟩ rfl hn hl.1 rfl (lv_room hs) d hC) hS (fun _ _ h => h) (fun _ h => h) (fun x u t H1 locs1 ht hvm hw hB hz hkp hS1 => ?_)
    have hw : x = v.1 := hw
    subst hw
    exact kk v.1 v.2 r hr H1 locs1 ls (by rw [← ht]; exact hB) hS1 hl
theorem G_cSF (g : Gd p s m args meth c w nL cc own) {pc idx a maxL : Nat} {L : List (Nat × Value)} {st As : List Value} {M : Mem} {y : MethodName} {b : ByteArray} {rm : Room} {f : Option (UInt32 × Mem)} {o : UInt32 → Mem → Option ρ} (cw : CS own idx y b maxL (some .float) a) (hM : Ct QF l y b maxL (some .float) rm w (As) M f) (hn : As.length = a) (hR : rm.frames + 1 ≤ R.frames ∧ 8 + (maxL + 11) + rm.locals ≤ R.locals) (hC : k + rm.cells ≤ R.cells ∧ n + rm.slots ≤ R.slots) (hs : (st.map fun v => v.category).sum ≤ 8) (d : decode cc pc = .ok (.invokestatic idx, 3)) (kk : ∀ (x : UInt32) (M1 : Mem), Go p l e R s m args below meth c w nL (k + rm.cells) (n + rm.slots) Qf (o x M1) (pc + 3) L (.float x :: st) M1) : Go p l e R s m args below meth c w nL k n Qf (bnd f o) pc L (As.reverse ++ st) M := by
  intro r hr H locs ls hP hS hl
  cases f with
  | none => cases hr
  | some v =>
    refine va_callf (va_runS (As := As) (rest := st) ⟨g.1, g.2.1, g.2.2.1, g.2.2.2.1, g.2.2.2.2.1⟩ (hM v rfl) ⟨callB_of a g.2.2.2.2.1 (TT_gi cw.2.2.2.1) rfl rfl rfl (g.2.2.2.2.1 _ cw.2.2.1) (g.2.2.2.2.1 _ cw.1) cw.2.2.2.2 hR, g.2.2.2.2.1 _ cw.2.1⟩ ⟨Wd.blind, fun U hU hW => ⟨rfl, by rw [hU]; exact hP, va_K.moved hW.alike g.2.2.2.2.2.1, g.2.2.2.2.2.2.2.2.1, by rw [hU]; exact Nat.le_trans g.2.2.2.2.2.2.2.2.2 hS.1, Sx.step g.2.2.2.2.2.2.2.1 hS hU hW⟩⟩ rfl hn hl.1 rfl (lv_room hs) d hC) hS (fun _ _ h => h) (fun _ h => h) (fun x u t H1 locs1 ht hvm hw hB hz hkp hS1 => ?_)
    have hw : x = v.1 := hw
    subst hw
    exact kk v.1 v.2 r hr H1 locs1 ls (by rw [← ht]; exact hB) hS1 hl
theorem G_cVNF (g : Gd p s m args meth c w nL cc own) {pc idx a maxL : Nat} {L : List (Nat × Value)} {st As : List Value} {M : Mem} {y : MethodName} {b : ByteArray} {rm : Room} {host : String} {q ci N : Nat} {T : u_T} {f : Option (UInt32 × Mem)} {o : UInt32 → Mem → Option ρ} (cw : CVN own idx host y b maxL (some .float) a) (hM : Ct QF l y b maxL (some .float) rm w (.ref (wad w q) :: As) M f) (hq : q ∈ wL w) (hk : (wZ w q).1 = ci) (hc : vwCl[ci]? = some (y.cls, T, N)) (hci : ci < 20) (hn : As.length = a) (hR : rm.frames + 1 ≤ R.frames ∧ 8 + (maxL + 11) + rm.locals ≤ R.locals) (hC : k + rm.cells ≤ R.cells ∧ n + rm.slots ≤ R.slots) (hs : (st.map fun v => v.category).sum ≤ 8) (d : decode cc pc = .ok (.invokevirtual idx, 3)) (kk : ∀ (x : UInt32) (M1 : Mem), Go p l e R s m args below meth c w nL (k + rm.cells) (n + rm.slots) Qf (o x M1) (pc + 3) L (.float x :: st) M1) : Go p l e R s m args below meth c w nL k n Qf (bnd f o) pc L (As.reverse ++ .ref (wad w q) :: st) M := by
  intro r hr H locs ls hP hS hl
  cases f with
  | none => cases hr
  | some v =>
    obtain ⟨j, -, hj⟩ := wW_get (M := M) hq
    rw [cellE_obj hk hci] at hj
    refine va_callf (va_runVN (As := As) (rest := st) ⟨g.1, g.2.1, g.2.2.1, g.2.2.2.1, g.2.2.2.2.1⟩ (hM v rfl) ⟨va_cnB a g.2.2.2.2.1 (TT_gi cw.2.2.2.2.1) rfl rfl rfl (g.2.2.2.2.2.2.2.1.2.2.1 _ cw.1) (g.2.2.2.2.1 _ cw.2.2.2.1) cw.2.2.2.2.2 hR, g.2.2.2.2.1 _ cw.2.1, g.2.2.2.2.1 _ cw.2.2.1⟩ ⟨Wd.blind, va_recv g.2.2.2.2.2.1 hP hc hj, fun U hU hW => ⟨rfl, by rw [hU]; exact hP, va_K.moved hW.alike g.2.2.2.2.2.1, g.2.2.2.2.2.2.2.2.1, by rw [hU]; exact Nat.le_trans g.2.2.2.2.2.2.2.2.2 hS.1, Sx.step g.2.2.2.2.2.2.2.1 hS hU hW⟩⟩ rfl hn hl.1 rfl (lv_room hs) d hC) hS (fun _ _ h => h) (fun _ h => h) (fun x u t H1 locs1 ht hvm hw hB hz hkp hS1 => ?_)
    have hw : x = v.1 := hw
    subst hw
    exact kk v.1 v.2 r hr H1 locs1 ls (by rw [← ht]; exact hB) hS1 hl
theorem G_cSNF (g : Gd p s m args meth c w nL cc own) {pc idx a maxL : Nat} {L : List (Nat × Value)} {st As : List Value} {M : Mem} {y : MethodName} {b : ByteArray} {rm : Room} {host : String} {f : Option (UInt32 × Mem)} {o : UInt32 → Mem → Option ρ} (cw : CSN own idx host y b maxL (some .float) a) (hM : Ct QF l y b maxL (some .float) rm w (As) M f) (hn : As.length = a) (hR : rm.frames + 1 ≤ R.frames ∧ 8 + (maxL + 11) + rm.locals ≤ R.locals) (hC : k + rm.cells ≤ R.cells ∧ n + rm.slots ≤ R.slots) (hs : (st.map fun v => v.category).sum ≤ 8) (d : decode cc pc = .ok (.invokestatic idx, 3)) (kk : ∀ (x : UInt32) (M1 : Mem), Go p l e R s m args below meth c w nL (k + rm.cells) (n + rm.slots) Qf (o x M1) (pc + 3) L (.float x :: st) M1) : Go p l e R s m args below meth c w nL k n Qf (bnd f o) pc L (As.reverse ++ st) M := by
  intro r hr H locs ls hP hS hl
  cases f with
  | none => cases hr
  | some v =>
    refine va_callf (va_runSN (As := As) (rest := st) ⟨g.1, g.2.1, g.2.2.1, g.2.2.2.1, g.2.2.2.2.1⟩ (hM v rfl) ⟨va_cnB a g.2.2.2.2.1 (TT_gi cw.2.2.2.1) rfl rfl rfl (g.2.2.2.2.2.2.2.1.2.2.1 _ cw.1) (g.2.2.2.2.1 _ cw.2.2.1) cw.2.2.2.2 hR, g.2.2.2.2.1 _ cw.2.1, trivial⟩ ⟨Wd.blind, fun U hU hW => ⟨rfl, by rw [hU]; exact hP, va_K.moved hW.alike g.2.2.2.2.2.1, g.2.2.2.2.2.2.2.2.1, by rw [hU]; exact Nat.le_trans g.2.2.2.2.2.2.2.2.2 hS.1, Sx.step g.2.2.2.2.2.2.2.1 hS hU hW⟩⟩ rfl hn hl.1 rfl (lv_room hs) d hC) hS (fun _ _ h => h) (fun _ h => h) (fun x u t H1 locs1 ht hvm hw hB hz hkp hS1 => ?_)
    have hw : x = v.1 := hw
    subst hw
    exact kk v.1 v.2 r hr H1 locs1 ls (by rw [← ht]; exact hB) hS1 hl
theorem G_cStr (g : Gd p s m args meth c w nL cc own) {pc idx a maxL i : Nat} {L : List (Nat × Value)} {st As : List Value} {M : Mem} {y : MethodName} {b : ByteArray} {rm : Room} {ret : Option FieldType} {f : Option (Int32 × Mem)} {o : Int32 → Mem → Option ρ} (cw : CV own idx y b maxL ret a) (hy : y.cls = "java/lang/String") (hM : Ct QI l y b maxL ret rm w (.ref (wad w (1000 + i)) :: As) M f) (hi : i < 12) (hn : As.length = a) (hR : rm.frames + 1 ≤ R.frames ∧ 8 + (maxL + 11) + rm.locals ≤ R.locals) (hC : k + rm.cells ≤ R.cells ∧ n + rm.slots ≤ R.slots) (hs : (st.map fun v => v.category).sum ≤ 8) (d : decode cc pc = .ok (.invokevirtual idx, 3)) (kk : ∀ (x : Int32) (M1 : Mem), Go p l e R s m args below meth c w nL (k + rm.cells) (n + rm.slots) Qf (o x M1) (pc + 3) L (.int x :: st) M1) : Go p l e R s m args below meth c w nL k n Qf (bnd f o) pc L (As.reverse ++ .ref (wad w (1000 + i)) :: st) M := by
  intro r hr H locs ls hP hS hl
  cases f with
  | none => cases hr
  | some v =>
    have hrc : ∃ cell : Cell, H[wad w (1000 + i)]? = some cell ∧ cell.vm.isStatics = false ∧ s.vm.findClass y.cls = some cell.cls := by
      obtain ⟨cell, h1, h2, h3, -⟩ := (g.2.2.2.2.2.2.2.1.1 i hi).1.kept hS.2.1
      exact ⟨cell, h1, h2, by rw [hy]; exact h3⟩
    refine va_calli (va_runV (As := As) (rest := st) ⟨g.1, g.2.1, g.2.2.1, g.2.2.2.1, g.2.2.2.2.1⟩ (hM v rfl) ⟨callB_of a g.2.2.2.2.1 (TT_gi cw.2.2.2.2.1) rfl rfl rfl (g.2.2.2.2.1 _ cw.2.2.2.1) (g.2.2.2.2.1 _ cw.1) cw.2.2.2.2.2 hR, g.2.2.2.2.1 _ cw.2.1, g.2.2.2.2.1 _ cw.2.2.1⟩ ⟨Wd.blind, hrc, fun U hU hW => ⟨rfl, by rw [hU]; exact hP, va_K.moved hW.alike g.2.2.2.2.2.1, g.2.2.2.2.2.2.2.2.1, by rw [hU]; exact Nat.le_trans g.2.2.2.2.2.2.2.2.2 hS.1, Sx.step g.2.2.2.2.2.2.2.1 hS hU hW⟩⟩ rfl hn hl.1 rfl (lv_room hs) d hC) hS (fun _ _ h => h) (fun _ h => h) (fun x u t H1 locs1 ht hvm hw hB hz hkp hS1 => ?_)
    have hw : x = v.1 := hw
    subst hw
    exact kk v.1 v.2 r hr H1 locs1 ls (by rw [← ht]; exact hB) hS1 hl
theorem G_sget (g : Gd p s m args meth c w nL cc own) {pc : Nat} {L : List (Nat × Value)} {st : List Value} {M : Mem} {o : Option ρ} {idx i : Nat} {n2 d2 : String} {v : Value} (hl0 : Cond.fieldLink own idx "java/lang/String" n2 d2 ∈ TT) (hE : va_OF "java/lang/String" n2 d2 v (wad w (1000 + i)) (wA w) s s.heap) (d : decode cc pc = .ok (.getfield idx, 3)) (kk : Go p l e R s m args below meth c w nL k n Qf o (pc + 3) L (v :: st) M) : Go p l e R s m args below meth c w nL k n Qf o pc L (.ref (wad w (1000 + i)) :: st) M :=
  fun r hr H locs ls hP hS hl => vk_getf g.1 g.2.1 hE hS g.2.2.2.1 (g.2.2.2.2.1 _ hl0) (fun _ h => h) d (kk r hr H locs ls hP hS hl)
theorem G_gets (g : Gd p s m args meth c w nL cc own) {pc : Nat} {L : List (Nat × Value)} {st : List Value} {M : Mem} {o : Option ρ} {idx : Nat} {C2 n2 d2 : String} {v : Value} (hl0 : Cond.fieldLink own idx C2 n2 d2 ∈ TT) (hZ : va_Z C2 n2 d2 v (wA w) s s.heap) (d : decode cc pc = .ok (.getstatic idx, 3)) (kk : Go p l e R s m args below meth c w nL k n Qf o (pc + 3) L (v :: st) M) : Go p l e R s m args below meth c w nL k n Qf o pc L st M :=
  fun r hr H locs ls hP hS hl => va_gets g.1 g.2.1 hZ hS g.2.2.2.1 (g.2.2.2.2.1 _ hl0) (fun _ h => h) d (kk r hr H locs ls hP hS hl)
theorem G_tlen (g : Gd p s m args meth c w nL cc own) {pc : Nat} {L : List (Nat × Value)} {st : List Value} {M : Mem} {o : Option ρ} {t N : Nat} {f : Nat → Value} {ty : FieldType} (v : Int32) (hT : va_T ty t N f (wA w) s s.heap) (hv : Int32.ofNat N = v) (d : decode cc pc = .ok (.arraylength, 1)) (kk : Go p l e R s m args below meth c w nL k n Qf o (pc + 1) L (.int v :: st) M) : Go p l e R s m args below meth c w nL k n Qf o pc L (.ref t :: st) M :=
  fun r hr H locs ls hP hS hl => va_tlen g.1 g.2.1 hT hS hv d (kk r hr H locs ls hP hS hl)
theorem G_tb (g : Gd p s m args meth c w nL cc own) {pc : Nat} {L : List (Nat × Value)} {st : List Value} {M : Mem} {o : Option ρ} {t N : Nat} {f : Nat → Value} {i : Int32} (v : Value) (hT : va_T .byte t N f (wA w) s s.heap) (hin : vp_in i N) (hv : f i.toNatClampNeg = v) (d : decode cc pc = .ok (.baload, 1)) (kk : Go p l e R s m args below meth c w nL k n Qf o (pc + 1) L (v :: st) M) : Go p l e R s m args below meth c w nL k n Qf o pc L (.int i :: .ref t :: st) M :=
  fun r hr H locs ls hP hS hl => va_tb g.1 g.2.1 hT hS hin hv d (kk r hr H locs ls hP hS hl)
end GO
theorem Ct.mono {ρ : Type} {Q : Wc → ρ → Array Value → State → Outcome → State → Prop} {l : Launch} {y : MethodName} {b : ByteArray} {maxL : Nat} {ret : Option FieldType} {rm : Room} {w : Wc} {av : List Value} {M : Mem} {f f2 : Option ρ} (h : ∀ r, f = some r → f2 = some r) (hM : Ct Q l y b maxL ret rm w av M f2) : Ct Q l y b maxL ret rm w av M f := fun r hr => hM r (h r hr)
theorem Ct.go {ρ : Type} {Q : Wc → ρ → Array Value → State → Outcome → State → Prop} {l : Launch} {y : MethodName} {b : ByteArray} {maxL : Nat} {ret : Option FieldType} {rm : Room} {w : Wc} {av : List Value} {M : Mem} {f : Option ρ} (hy : plainName y.cls = true) {L : List (Nat × Value)} (hL : lv_args 0 av = L) (hlen : (lg_sl av).length ≤ maxL)
    (body : ∀ p e s m args below meth c, Gd p s m args meth c w maxL b y.cls → meth.sig.returnType = ret → Go p l e rm s m args below meth c w maxL 0 0 (fun r => MQ below (Q w r) args s rm.cells rm.slots (wA w)) f 0 L [] M) : Ct Q l y b maxL ret rm w av M f := by
  intro r hr
  refine Met.ofW (cc := b) (maxL := maxL) (ret := ret) hy rfl ?_
  intro p e s m args below meth c s₁ B hml hv
  obtain ⟨rfl, hP, hK, hW, hlo, hSx⟩ := hv
  have hts := atoms_spec B.pre
  have hl := lv_entry av hlen
  rw [hL] at hl
  rw [lg_entry_eq]
  exact body p e s m _ below meth c ⟨B.exec, B.bytes, hml, findClass_of_methodNamed B.named, fun x hx => hts x (List.mem_cons_of_mem _ hx), hK, B.notSynchronized, hSx, hW, hlo⟩ B.returns r hr _ [] _ hP va_S.rf hl
