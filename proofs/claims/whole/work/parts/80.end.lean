/-! the law's end -/
theorem law_end {p : Program} {l : Launch} {e : Env} {s : State} {m : MethodId} {below : List Frame} {meth : Method} {c : Code} {w : Wc} {b : Nat} {K : Mem → Option Unit} (g : Gd p s m #[Value.ref b] meth c w 10 code "KiteLoggerLaw") (hr0 : meth.sig.returnType = ret) (hlo : wlo w = s.heap.size) : ∀ (k n ii : Nat) (M : Mem), k ≤ 601024 → n ≤ 7293034 → Go p l e room_1 s m #[Value.ref b] below meth c w 10 k n (fun (_ : Unit) => lw_Z below #[Value.ref b] s) (K M) 2301 (LL w b ii) [] M := by
  intro k n ii M hk hn
  refine G_iconst g (pc := 2301) (1 : Int32) d_W_2301 rfl ?_
  intro r hr' H locs ls hP hS hl
  refine W.widen hk hn (va_forget (fun q hq => ?_) ?_)
  · have h := hS.2.2 q hq
    rw [← hlo]
    exact h
  · refine W.base ?_
    exact lw_ret (Drawn.sameBut.refl s.drawn lw_cs) g.1 g.2.1 hr0 g.2.2.2.2.2.2.1 d_W_2302
/-- the law from its loop on -/
theorem law_run (l : Launch) (hst : l.stackTraces = false) {p : Program} {e : Env} {s : State} {m : MethodId} {below : List Frame} {meth : Method} {c : Code} {w : Wc} {b Lx : Nat} {xs : Nat → Int32} (g : Gd p s m #[Value.ref b] meth c w 10 code "KiteLoggerLaw") (hnc : va_Nc exS exI s) (hw : WL w) (hX : LX s w b Lx xs) (hr0 : meth.sig.returnType = ret) (hlo : wlo w = s.heap.size) {k n : Nat} (hk : k ≤ 600000) (hn : n ≤ 7200000) {M : Mem} (H0 : RR M M) {H : Heap} {locs : List Loc} {ls : Array Slot} (hP : Rp w M H) (hS : va_S (wA w) s.heap H locs) (hl : lv_has ls 10 (LL w b 0)) : W p l e room_1 s m #[Value.ref b] below meth c H locs k n (lw_Z below #[Value.ref b] s) (F0 m 28 ls []) := by
  obtain ⟨K, hRK⟩ := exK
  have hLx := hX.2.2.2
  exact law_loop l hst g hnc hw hX hRK (law_end g hr0 hlo) 513 0 k n M (by omega) (by omega) (by omega) (by omega) () ((hRK M).mpr H0) H locs ls hP hS hl
