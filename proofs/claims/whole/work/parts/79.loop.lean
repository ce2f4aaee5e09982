/-! the law's loop -/
section EE
variable {K : Mem → Option Unit} {M : Mem}
theorem E_A {α : Type} [DecidableEq α] {fc fm : Mem → Option (α × Mem)} (hRK : ∀ M, K M = some () ↔ RR M M) (h : JA fc fm) : ∀ r, K M = some r → (bnd (fc M) fun x1 M1 => bnd (fm M1) fun x2 M2 => if x1 = x2 then K M2 else none) = some r := fun r hr => by
  obtain ⟨v, M1, M2, e1, e2, e3⟩ := S_A h ((hRK M).mp hr)
  rw [e1, bnd_s, e2, bnd_s, if_pos rfl]
  exact (hRK M2).mpr e3
theorem E_V {fc fm : Mem → Option Mem} (hRK : ∀ M, K M = some () ↔ RR M M) (h : JV fc fm) : ∀ r, K M = some r → (bndM (fc M) fun M1 => bndM (fm M1) fun M2 => K M2) = some r := fun r hr => by
  obtain ⟨M1, M2, e1, e2, e3⟩ := S_V h ((hRK M).mp hr)
  rw [e1, bndM_s, e2, bndM_s]
  exact (hRK M2).mpr e3
theorem E_X {ex : List (Nat × Int32)} {fc : Mem → Option ((Sum Int32 Nat) × Mem)} {fm : Mem → Option (Int32 × Mem)} (hRK : ∀ M, K M = some () ↔ RR M M) (hx : exok ex) (h : JX ex fc fm) : ∀ r, K M = some r → (bnd (lwW ex (fc M)) fun x1 M1 => bnd (fm M1) fun x2 M2 => bnd (f_M_thrown M2) fun x3 M3 => if x3 = x1 ∧ (x1 = 0 → M3 156 0 = x2) then K M3 else none) = some r := fun r hr => by
  obtain ⟨k, M1, b, M2, e1, e2, e3, e4, e5⟩ := S_X h hx ((hRK M).mp hr)
  rw [e1, bnd_s, e2, bnd_s]
  unfold f_M_thrown
  rw [bnd_s, if_pos ⟨e3, e4⟩]
  exact (hRK M2).mpr e5
theorem E_D {ex : List (Nat × Int32)} {fc : Mem → Option ((Sum UInt64 Nat) × Mem)} {fm : Mem → Option (UInt64 × Mem)} (hRK : ∀ M, K M = some () ↔ RR M M) (hx : exok ex) (h : JX ex fc fm) : ∀ r, K M = some r → (bnd (lwD ex (fc M)) fun x1 M1 => bnd (fm M1) fun x2 M2 => bnd (f_M_thrown M2) fun x3 M3 => if x3 = x1 ∧ (x1 = 0 → dcomb (M3 157 0) (M3 157 1) = x2) then K M3 else none) = some r := fun r hr => by
  obtain ⟨k, M1, b, M2, e1, e2, e3, e4, e5⟩ := S_D h hx ((hRK M).mp hr)
  rw [e1, bnd_s, e2, bnd_s]
  unfold f_M_thrown
  rw [bnd_s, if_pos ⟨e3, e4⟩]
  exact (hRK M2).mpr e5
theorem share_nn {M M1 : Mem} {v : UInt32} (h : f_G_archivedShare M = some (v, M1)) : nn32 v = true := by
  unfold f_G_archivedShare at h
  by_cases c : M 10 8 < (1 : Int32)
  · rw [if_pos c] at h
    cases h
    decide
  · rw [if_neg c] at h
    obtain ⟨h1, h2⟩ := grd_some h
    cases h2
    exact h1
theorem E_F (hRK : ∀ M, K M = some () ↔ RR M M) : ∀ r, K M = some r → (bnd (f_G_archivedShare M) fun x1 M1 => if nn32 x1 = true then (bnd (f_M_archivedShare 146 M1) fun x2 M2 => if nn32 x2 = true then (if FP.f2d x1 = FP.f2d x2 then K M2 else none) else none) else none) = some r := fun r hr => by
  obtain ⟨v, M1, M2, e1, e2, e3⟩ := S_A j_archivedShare ((hRK M).mp hr)
  have hv := share_nn e1
  rw [e1, bnd_s, if_pos hv, e2, bnd_s, if_pos hv, if_pos rfl]
  exact (hRK M2).mpr e3
end EE
theorem d_W_45 : decode code 45 = .ok (.tableswitch 2250 0 61 #[263, 336, 392, 405, 418, 431, 444, 500, 556, 569, 594, 607, 648, 661, 674, 687, 700, 713, 726, 739, 752, 765, 821, 834, 847, 860, 873, 886, 899, 912, 968, 1024, 1080, 1093, 1106, 1162, 1218, 1274, 1311, 1324, 1349, 1426, 1469, 1482, 1495, 1551, 1564, 1577, 1621, 1677, 1733, 1801, 1857, 1913, 1957, 2013, 2069, 2082, 2138, 2151, 2195, 2206], 263) := by decide +kernel
theorem d_W_28 : decode code 28 = .ok (.iload 5, 2) := by decide +kernel
theorem d_W_30 : decode code 30 = .ok (.aload_n 0, 1) := by decide +kernel
theorem d_W_31 : decode code 31 = .ok (.arraylength, 1) := by decide +kernel
theorem d_W_32 : decode code 32 = .ok (.bipush 6, 2) := by decide +kernel
theorem d_W_34 : decode code 34 = .ok (.isub, 1) := by decide +kernel
theorem d_W_35 : decode code 35 = .ok (.if_icmp .gt 2266, 3) := by decide +kernel
theorem d_W_38 : decode code 38 = .ok (.aload_n 0, 1) := by decide +kernel
theorem d_W_39 : decode code 39 = .ok (.iload 5, 2) := by decide +kernel
theorem d_W_41 : decode code 41 = .ok (.iaload, 1) := by decide +kernel
theorem d_W_42 : decode code 42 = .ok (.bipush 63, 2) := by decide +kernel
theorem d_W_44 : decode code 44 = .ok (.iand, 1) := by decide +kernel
theorem d_W_2295 : decode code 2295 = .ok (.iinc 5 6, 3) := by decide +kernel
theorem d_W_2298 : decode code 2298 = .ok (.goto (-2270), 3) := by decide +kernel
theorem d_W_2301 : decode code 2301 = .ok (.iconst 1, 1) := by decide +kernel
theorem d_W_2302 : decode code 2302 = .ok (.ireturn, 1) := by decide +kernel
set_option maxHeartbeats 4000000 in
set_option maxRecDepth 100000 in
theorem sw_0 (l : Launch) (hst : l.stackTraces = false) {p : Program} {e : Env} {s : State} {m : MethodId} {args : Array Value} {below : List Frame} {meth : Method} {c : Code} {w : Wc} {k n b Lx ii : Nat} {xs : Nat → Int32} {Qf : Unit → State → Prop} {K : Mem → Option Unit} (g : Gd p s m args meth c w 10 code "KiteLoggerLaw") (hnc : va_Nc exS exI s) (hw : WL w) (hX : LX s w b Lx xs) (hii : ii + 6 ≤ Lx) (hC0 : k ≤ room_1.cells ∧ n ≤ room_1.slots) (hC1 : k + 1 ≤ room_1.cells ∧ n + 6 ≤ room_1.slots) (hK : ∀ M, Go p l e room_1 s m args below meth c w 10 (k + 1) (n + 6) Qf (K M) 2295 (LL w b ii) [] M) (hRK : ∀ M, K M = some () ↔ RR M M) (M : Mem) (j : Nat) (hj : j < 8) (hj0 : 0 ≤ j) : Go p l e room_1 s m args below meth c w 10 k n Qf  (K M) 45 (LL w b ii) [.int (nI j)] M := by
  have hh : j = 0 ∨ j = 1 ∨ j = 2 ∨ j = 3 ∨ j = 4 ∨ j = 5 ∨ j = 6 ∨ j = 7 := by omega
  rcases hh with rfl | rfl | rfl | rfl | rfl | rfl | rfl | rfl
  · exact Go.mono (E_A hRK (j_appendText (N := 1000) (by decide))) (G_tabK g (pc := 45) 308 d_W_45 (by decide) (by decide) rfl (by decide) (k_0 l hst 1000 g hnc hw hX hii hC0 hC1 hK M))
  · exact Go.mono (E_X hRK exok1 (j_loadStation (N := 1000) (by decide))) (G_tabK g (pc := 45) 381 d_W_45 (by decide) (by decide) rfl (by decide) (k_1 l hst 1000 g hnc hw hX hii hC0 hC1 hK M))
  · exact Go.mono (E_A hRK (j_errorCode)) (G_tabK g (pc := 45) 437 d_W_45 (by decide) (by decide) rfl (by decide) (k_2 l hst 1000 g hnc hw hX hii hC0 hC1 hK M))
  · exact Go.mono (E_A hRK (j_errorOffset)) (G_tabK g (pc := 45) 450 d_W_45 (by decide) (by decide) rfl (by decide) (k_3 l hst 1000 g hnc hw hX hii hC0 hC1 hK M))
  · exact Go.mono (E_A hRK (j_tick)) (G_tabK g (pc := 45) 463 d_W_45 (by decide) (by decide) rfl (by decide) (k_4 l hst 1000 g hnc hw hX hii hC0 hC1 hK M))
  · exact Go.mono (E_A hRK (j_patternLength)) (G_tabK g (pc := 45) 476 d_W_45 (by decide) (by decide) rfl (by decide) (k_5 l hst 1000 g hnc hw hX hii hC0 hC1 hK M))
  · exact Go.mono (E_X hRK exok1 (j_gust)) (G_tabK g (pc := 45) 489 d_W_45 (by decide) (by decide) rfl (by decide) (k_6 l hst 1000 g hnc hw hX hii hC0 hC1 hK M))
  · exact Go.mono (E_X hRK exok1 (j_windAt)) (G_tabK g (pc := 45) 545 d_W_45 (by decide) (by decide) rfl (by decide) (k_7 l hst 1000 g hnc hw hX hii hC0 hC1 hK M))
set_option maxHeartbeats 4000000 in
set_option maxRecDepth 100000 in
theorem sw_1 (l : Launch) (hst : l.stackTraces = false) {p : Program} {e : Env} {s : State} {m : MethodId} {args : Array Value} {below : List Frame} {meth : Method} {c : Code} {w : Wc} {k n b Lx ii : Nat} {xs : Nat → Int32} {Qf : Unit → State → Prop} {K : Mem → Option Unit} (g : Gd p s m args meth c w 10 code "KiteLoggerLaw") (hnc : va_Nc exS exI s) (hw : WL w) (hX : LX s w b Lx xs) (hii : ii + 6 ≤ Lx) (hC0 : k ≤ room_1.cells ∧ n ≤ room_1.slots) (hC1 : k + 1 ≤ room_1.cells ∧ n + 6 ≤ room_1.slots) (hK : ∀ M, Go p l e room_1 s m args below meth c w 10 (k + 1) (n + 6) Qf (K M) 2295 (LL w b ii) [] M) (hRK : ∀ M, K M = some () ↔ RR M M) (M : Mem) (j : Nat) (hj : j < 16) (hj0 : 8 ≤ j) : Go p l e room_1 s m args below meth c w 10 k n Qf  (K M) 45 (LL w b ii) [.int (nI j)] M := by
  have hh : j = 8 ∨ j = 9 ∨ j = 10 ∨ j = 11 ∨ j = 12 ∨ j = 13 ∨ j = 14 ∨ j = 15 := by omega
  rcases hh with rfl | rfl | rfl | rfl | rfl | rfl | rfl | rfl
  · exact Go.mono (E_A hRK (j_bufferSize)) (G_tabK g (pc := 45) 601 d_W_45 (by decide) (by decide) rfl (by decide) (k_8 l hst 1000 g hnc hw hX hii hC0 hC1 hK M))
  · exact Go.mono (E_A hRK (j_bufferedWind)) (G_tabK g (pc := 45) 614 d_W_45 (by decide) (by decide) rfl (by decide) (k_9 l hst 1000 g hnc hw hX hii hC0 hC1 hK M))
  · exact Go.mono (E_A hRK (j_greatestWind (N := 1000) (by decide))) (G_tabK g (pc := 45) 639 d_W_45 (by decide) (by decide) rfl (by decide) (k_10 l hst 1000 g hnc hw hX hii hC0 hC1 hK M))
  · exact Go.mono (E_A hRK (j_meanWind (N := 1000) (by decide))) (G_tabK g (pc := 45) 652 d_W_45 (by decide) (by decide) rfl (by decide) (k_11 l hst 1000 g hnc hw hX hii hC0 hC1 hK M))
  · exact Go.mono (E_A hRK (j_isLanded)) (G_tabK g (pc := 45) 693 d_W_45 (by decide) (by decide) rfl (by decide) (k_12 l hst 1000 g hnc hw hX hii hC0 hC1 hK M))
  · exact Go.mono (E_A hRK (j_isFlying)) (G_tabK g (pc := 45) 706 d_W_45 (by decide) (by decide) rfl (by decide) (k_13 l hst 1000 g hnc hw hX hii hC0 hC1 hK M))
  · exact Go.mono (E_A hRK (j_isFallen)) (G_tabK g (pc := 45) 719 d_W_45 (by decide) (by decide) rfl (by decide) (k_14 l hst 1000 g hnc hw hX hii hC0 hC1 hK M))
  · exact Go.mono (E_A hRK (j_height)) (G_tabK g (pc := 45) 732 d_W_45 (by decide) (by decide) rfl (by decide) (k_15 l hst 1000 g hnc hw hX hii hC0 hC1 hK M))
set_option maxHeartbeats 4000000 in
set_option maxRecDepth 100000 in
theorem sw_2 (l : Launch) (hst : l.stackTraces = false) {p : Program} {e : Env} {s : State} {m : MethodId} {args : Array Value} {below : List Frame} {meth : Method} {c : Code} {w : Wc} {k n b Lx ii : Nat} {xs : Nat → Int32} {Qf : Unit → State → Prop} {K : Mem → Option Unit} (g : Gd p s m args meth c w 10 code "KiteLoggerLaw") (hnc : va_Nc exS exI s) (hw : WL w) (hX : LX s w b Lx xs) (hii : ii + 6 ≤ Lx) (hC0 : k ≤ room_1.cells ∧ n ≤ room_1.slots) (hC1 : k + 1 ≤ room_1.cells ∧ n + 6 ≤ room_1.slots) (hK : ∀ M, Go p l e room_1 s m args below meth c w 10 (k + 1) (n + 6) Qf (K M) 2295 (LL w b ii) [] M) (hRK : ∀ M, K M = some () ↔ RR M M) (M : Mem) (j : Nat) (hj : j < 24) (hj0 : 16 ≤ j) : Go p l e room_1 s m args below meth c w 10 k n Qf  (K M) 45 (LL w b ii) [.int (nI j)] M := by
  have hh : j = 16 ∨ j = 17 ∨ j = 18 ∨ j = 19 ∨ j = 20 ∨ j = 21 ∨ j = 22 ∨ j = 23 := by omega
  rcases hh with rfl | rfl | rfl | rfl | rfl | rfl | rfl | rfl
  · exact Go.mono (E_A hRK (j_tether)) (G_tabK g (pc := 45) 745 d_W_45 (by decide) (by decide) rfl (by decide) (k_16 l hst 1000 g hnc hw hX hii hC0 hC1 hK M))
  · exact Go.mono (E_A hRK (j_area)) (G_tabK g (pc := 45) 758 d_W_45 (by decide) (by decide) rfl (by decide) (k_17 l hst 1000 g hnc hw hX hii hC0 hC1 hK M))
  · exact Go.mono (E_A hRK (j_limit)) (G_tabK g (pc := 45) 771 d_W_45 (by decide) (by decide) rfl (by decide) (k_18 l hst 1000 g hnc hw hX hii hC0 hC1 hK M))
  · exact Go.mono (E_A hRK (j_endurance)) (G_tabK g (pc := 45) 784 d_W_45 (by decide) (by decide) rfl (by decide) (k_19 l hst 1000 g hnc hw hX hii hC0 hC1 hK M))
  · exact Go.mono (E_A hRK (j_wear)) (G_tabK g (pc := 45) 797 d_W_45 (by decide) (by decide) rfl (by decide) (k_20 l hst 1000 g hnc hw hX hii hC0 hC1 hK M))
  · exact Go.mono (E_X hRK exok1 (j_loadOf)) (G_tabK g (pc := 45) 810 d_W_45 (by decide) (by decide) rfl (by decide) (k_21 l hst 1000 g hnc hw hX hii hC0 hC1 hK M))
  · exact Go.mono (E_A hRK (j_flightTime)) (G_tabK g (pc := 45) 866 d_W_45 (by decide) (by decide) rfl (by decide) (k_22 l hst 1000 g hnc hw hX hii hC0 hC1 hK M))
  · exact Go.mono (E_A hRK (j_beaconTime)) (G_tabK g (pc := 45) 879 d_W_45 (by decide) (by decide) rfl (by decide) (k_23 l hst 1000 g hnc hw hX hii hC0 hC1 hK M))
set_option maxHeartbeats 4000000 in
set_option maxRecDepth 100000 in
theorem sw_3 (l : Launch) (hst : l.stackTraces = false) {p : Program} {e : Env} {s : State} {m : MethodId} {args : Array Value} {below : List Frame} {meth : Method} {c : Code} {w : Wc} {k n b Lx ii : Nat} {xs : Nat → Int32} {Qf : Unit → State → Prop} {K : Mem → Option Unit} (g : Gd p s m args meth c w 10 code "KiteLoggerLaw") (hnc : va_Nc exS exI s) (hw : WL w) (hX : LX s w b Lx xs) (hii : ii + 6 ≤ Lx) (hC0 : k ≤ room_1.cells ∧ n ≤ room_1.slots) (hC1 : k + 1 ≤ room_1.cells ∧ n + 6 ≤ room_1.slots) (hK : ∀ M, Go p l e room_1 s m args below meth c w 10 (k + 1) (n + 6) Qf (K M) 2295 (LL w b ii) [] M) (hRK : ∀ M, K M = some () ↔ RR M M) (M : Mem) (j : Nat) (hj : j < 32) (hj0 : 24 ≤ j) : Go p l e room_1 s m args below meth c w 10 k n Qf  (K M) 45 (LL w b ii) [.int (nI j)] M := by
  have hh : j = 24 ∨ j = 25 ∨ j = 26 ∨ j = 27 ∨ j = 28 ∨ j = 29 ∨ j = 30 ∨ j = 31 := by omega
  rcases hh with rfl | rfl | rfl | rfl | rfl | rfl | rfl | rfl
  · exact Go.mono (E_A hRK (j_launches)) (G_tabK g (pc := 45) 892 d_W_45 (by decide) (by decide) rfl (by decide) (k_24 l hst 1000 g hnc hw hX hii hC0 hC1 hK M))
  · exact Go.mono (E_A hRK (j_snaps)) (G_tabK g (pc := 45) 905 d_W_45 (by decide) (by decide) rfl (by decide) (k_25 l hst 1000 g hnc hw hX hii hC0 hC1 hK M))
  · exact Go.mono (E_A hRK (j_searches)) (G_tabK g (pc := 45) 918 d_W_45 (by decide) (by decide) rfl (by decide) (k_26 l hst 1000 g hnc hw hX hii hC0 hC1 hK M))
  · exact Go.mono (E_A hRK (j_interval)) (G_tabK g (pc := 45) 931 d_W_45 (by decide) (by decide) rfl (by decide) (k_27 l hst 1000 g hnc hw hX hii hC0 hC1 hK M))
  · exact Go.mono (E_A hRK (j_loggedCount)) (G_tabK g (pc := 45) 944 d_W_45 (by decide) (by decide) rfl (by decide) (k_28 l hst 1000 g hnc hw hX hii hC0 hC1 hK M))
  · exact Go.mono (E_X hRK exok1 (j_loggedTick)) (G_tabK g (pc := 45) 957 d_W_45 (by decide) (by decide) rfl (by decide) (k_29 l hst 1000 g hnc hw hX hii hC0 hC1 hK M))
  · exact Go.mono (E_X hRK exok1 (j_loggedHeight)) (G_tabK g (pc := 45) 1013 d_W_45 (by decide) (by decide) rfl (by decide) (k_30 l hst 1000 g hnc hw hX hii hC0 hC1 hK M))
  · exact Go.mono (E_X hRK exok1 (j_loggedGust)) (G_tabK g (pc := 45) 1069 d_W_45 (by decide) (by decide) rfl (by decide) (k_31 l hst 1000 g hnc hw hX hii hC0 hC1 hK M))
set_option maxHeartbeats 4000000 in
set_option maxRecDepth 100000 in
theorem sw_4 (l : Launch) (hst : l.stackTraces = false) {p : Program} {e : Env} {s : State} {m : MethodId} {args : Array Value} {below : List Frame} {meth : Method} {c : Code} {w : Wc} {k n b Lx ii : Nat} {xs : Nat → Int32} {Qf : Unit → State → Prop} {K : Mem → Option Unit} (g : Gd p s m args meth c w 10 code "KiteLoggerLaw") (hnc : va_Nc exS exI s) (hw : WL w) (hX : LX s w b Lx xs) (hii : ii + 6 ≤ Lx) (hC0 : k ≤ room_1.cells ∧ n ≤ room_1.slots) (hC1 : k + 1 ≤ room_1.cells ∧ n + 6 ≤ room_1.slots) (hK : ∀ M, Go p l e room_1 s m args below meth c w 10 (k + 1) (n + 6) Qf (K M) 2295 (LL w b ii) [] M) (hRK : ∀ M, K M = some () ↔ RR M M) (M : Mem) (j : Nat) (hj : j < 40) (hj0 : 32 ≤ j) : Go p l e room_1 s m args below meth c w 10 k n Qf  (K M) 45 (LL w b ii) [.int (nI j)] M := by
  have hh : j = 32 ∨ j = 33 ∨ j = 34 ∨ j = 35 ∨ j = 36 ∨ j = 37 ∨ j = 38 ∨ j = 39 := by omega
  rcases hh with rfl | rfl | rfl | rfl | rfl | rfl | rfl | rfl
  · exact Go.mono (E_A hRK (j_droppedCount)) (G_tabK g (pc := 45) 1125 d_W_45 (by decide) (by decide) rfl (by decide) (k_32 l hst 1000 g hnc hw hX hii hC0 hC1 hK M))
  · exact Go.mono (E_A hRK (j_archivedCount)) (G_tabK g (pc := 45) 1138 d_W_45 (by decide) (by decide) rfl (by decide) (k_33 l hst 1000 g hnc hw hX hii hC0 hC1 hK M))
  · exact Go.mono (E_X hRK exok1 (j_archivedTick)) (G_tabK g (pc := 45) 1151 d_W_45 (by decide) (by decide) rfl (by decide) (k_34 l hst 1000 g hnc hw hX hii hC0 hC1 hK M))
  · exact Go.mono (E_X hRK exok1 (j_archivedHeight)) (G_tabK g (pc := 45) 1207 d_W_45 (by decide) (by decide) rfl (by decide) (k_35 l hst 1000 g hnc hw hX hii hC0 hC1 hK M))
  · exact Go.mono (E_X hRK exok1 (j_archivedGust)) (G_tabK g (pc := 45) 1263 d_W_45 (by decide) (by decide) rfl (by decide) (k_36 l hst 1000 g hnc hw hX hii hC0 hC1 hK M))
  · exact Go.mono (E_A hRK (j_archivedBetween (N := 1000) (by decide))) (G_tabK g (pc := 45) 1319 d_W_45 (by decide) (by decide) rfl (by decide) (k_37 l hst 1000 g hnc hw hX hii hC0 hC1 hK M))
  · exact Go.mono (E_A hRK (j_highestArchived (N := 1000) (by decide))) (G_tabK g (pc := 45) 1356 d_W_45 (by decide) (by decide) rfl (by decide) (k_38 l hst 1000 g hnc hw hX hii hC0 hC1 hK M))
  · exact Go.mono (E_A hRK (j_archivedBefore (N := 1000) (by decide))) (G_tabK g (pc := 45) 1369 d_W_45 (by decide) (by decide) rfl (by decide) (k_39 l hst 1000 g hnc hw hX hii hC0 hC1 hK M))
set_option maxHeartbeats 4000000 in
set_option maxRecDepth 100000 in
theorem sw_5 (l : Launch) (hst : l.stackTraces = false) {p : Program} {e : Env} {s : State} {m : MethodId} {args : Array Value} {below : List Frame} {meth : Method} {c : Code} {w : Wc} {k n b Lx ii : Nat} {xs : Nat → Int32} {Qf : Unit → State → Prop} {K : Mem → Option Unit} (g : Gd p s m args meth c w 10 code "KiteLoggerLaw") (hnc : va_Nc exS exI s) (hw : WL w) (hX : LX s w b Lx xs) (hii : ii + 6 ≤ Lx) (hC0 : k ≤ room_1.cells ∧ n ≤ room_1.slots) (hC1 : k + 1 ≤ room_1.cells ∧ n + 6 ≤ room_1.slots) (hK : ∀ M, Go p l e room_1 s m args below meth c w 10 (k + 1) (n + 6) Qf (K M) 2295 (LL w b ii) [] M) (hRK : ∀ M, K M = some () ↔ RR M M) (M : Mem) (j : Nat) (hj : j < 48) (hj0 : 40 ≤ j) : Go p l e room_1 s m args below meth c w 10 k n Qf  (K M) 45 (LL w b ii) [.int (nI j)] M := by
  have hh : j = 40 ∨ j = 41 ∨ j = 42 ∨ j = 43 ∨ j = 44 ∨ j = 45 ∨ j = 46 ∨ j = 47 := by omega
  rcases hh with rfl | rfl | rfl | rfl | rfl | rfl | rfl | rfl
  · exact Go.mono (E_D hRK exok1 (j_meanGust (N := 1000) (by decide))) (G_tabK g (pc := 45) 1394 d_W_45 (by decide) (by decide) rfl (by decide) (k_40 l hst 1000 g hnc hw hX hii hC0 hC1 hK M))
  · exact Go.mono (E_F hRK) (G_tabK g (pc := 45) 1471 d_W_45 (by decide) (by decide) rfl (by decide) (k_41 l hst 1000 g hnc hw hX hii hC0 hC1 hK M))
  · exact Go.mono (E_A hRK (j_gap (N := 1000) (by decide))) (G_tabK g (pc := 45) 1514 d_W_45 (by decide) (by decide) rfl (by decide) (k_42 l hst 1000 g hnc hw hX hii hC0 hC1 hK M))
  · exact Go.mono (E_A hRK (j_launchObstacle)) (G_tabK g (pc := 45) 1527 d_W_45 (by decide) (by decide) rfl (by decide) (k_43 l hst 1000 g hnc hw hX hii hC0 hC1 hK M))
  · exact Go.mono (E_X hRK exok1 (j_heightAfter (N := 1000) (by decide))) (G_tabK g (pc := 45) 1540 d_W_45 (by decide) (by decide) rfl (by decide) (k_44 l hst 1000 g hnc hw hX hii hC0 hC1 hK M))
  · exact Go.mono (E_A hRK (j_ticksToSnap (N := 1000) (by decide))) (G_tabK g (pc := 45) 1596 d_W_45 (by decide) (by decide) rfl (by decide) (k_45 l hst 1000 g hnc hw hX hii hC0 hC1 hK M))
  · exact Go.mono (E_A hRK (j_safeHeight (N := 1000) (by decide))) (G_tabK g (pc := 45) 1609 d_W_45 (by decide) (by decide) rfl (by decide) (k_46 l hst 1000 g hnc hw hX hii hC0 hC1 hK M))
  · exact Go.mono (E_X hRK exok1 (j_launch (N := 1000) (by decide))) (G_tabK g (pc := 45) 1622 d_W_45 (by decide) (by decide) rfl (by decide) (k_47 l hst 1000 g hnc hw hX hii hC0 hC1 hK M))
set_option maxHeartbeats 4000000 in
set_option maxRecDepth 100000 in
theorem sw_6 (l : Launch) (hst : l.stackTraces = false) {p : Program} {e : Env} {s : State} {m : MethodId} {args : Array Value} {below : List Frame} {meth : Method} {c : Code} {w : Wc} {k n b Lx ii : Nat} {xs : Nat → Int32} {Qf : Unit → State → Prop} {K : Mem → Option Unit} (g : Gd p s m args meth c w 10 code "KiteLoggerLaw") (hnc : va_Nc exS exI s) (hw : WL w) (hX : LX s w b Lx xs) (hii : ii + 6 ≤ Lx) (hC0 : k ≤ room_1.cells ∧ n ≤ room_1.slots) (hC1 : k + 1 ≤ room_1.cells ∧ n + 6 ≤ room_1.slots) (hK : ∀ M, Go p l e room_1 s m args below meth c w 10 (k + 1) (n + 6) Qf (K M) 2295 (LL w b ii) [] M) (hRK : ∀ M, K M = some () ↔ RR M M) (M : Mem) (j : Nat) (hj : j < 56) (hj0 : 48 ≤ j) : Go p l e room_1 s m args below meth c w 10 k n Qf  (K M) 45 (LL w b ii) [.int (nI j)] M := by
  have hh : j = 48 ∨ j = 49 ∨ j = 50 ∨ j = 51 ∨ j = 52 ∨ j = 53 ∨ j = 54 ∨ j = 55 := by omega
  rcases hh with rfl | rfl | rfl | rfl | rfl | rfl | rfl | rfl
  · exact Go.mono (E_X hRK exok2 (j_payOut (N := 1000) (by decide))) (G_tabK g (pc := 45) 1666 d_W_45 (by decide) (by decide) rfl (by decide) (k_48 l hst 1000 g hnc hw hX hii hC0 hC1 hK M))
  · exact Go.mono (E_X hRK exok2 (j_reelIn (N := 1000) (by decide))) (G_tabK g (pc := 45) 1722 d_W_45 (by decide) (by decide) rfl (by decide) (k_49 l hst 1000 g hnc hw hX hii hC0 hC1 hK M))
  · exact Go.mono (E_X hRK exok2 (j_replaceBridle (N := 1000) (by decide))) (G_tabK g (pc := 45) 1778 d_W_45 (by decide) (by decide) rfl (by decide) (k_50 l hst 1000 g hnc hw hX hii hC0 hC1 hK M))
  · exact Go.mono (E_X hRK exok1 (j_setInterval (N := 1000) (by decide))) (G_tabK g (pc := 45) 1846 d_W_45 (by decide) (by decide) rfl (by decide) (k_51 l hst 1000 g hnc hw hX hii hC0 hC1 hK M))
  · exact Go.mono (E_X hRK exok2 (j_search (N := 1000) (by decide))) (G_tabK g (pc := 45) 1902 d_W_45 (by decide) (by decide) rfl (by decide) (k_52 l hst 1000 g hnc hw hX hii hC0 hC1 hK M))
  · exact Go.mono (E_X hRK exok1 (j_archive (N := 1000) (by decide))) (G_tabK g (pc := 45) 1958 d_W_45 (by decide) (by decide) rfl (by decide) (k_53 l hst 1000 g hnc hw hX hii hC0 hC1 hK M))
  · exact Go.mono (E_X hRK exok2 (j_passTicks (N := 1000) (by decide))) (G_tabK g (pc := 45) 2002 d_W_45 (by decide) (by decide) rfl (by decide) (k_54 l hst 1000 g hnc hw hX hii hC0 hC1 hK M))
  · exact Go.mono (E_X hRK exok1 (j_runScript (N := 1000) (by decide))) (G_tabK g (pc := 45) 2058 d_W_45 (by decide) (by decide) rfl (by decide) (k_55 l hst 1000 g hnc hw hX hii hC0 hC1 hK M))
set_option maxHeartbeats 4000000 in
set_option maxRecDepth 100000 in
theorem sw_7 (l : Launch) (hst : l.stackTraces = false) {p : Program} {e : Env} {s : State} {m : MethodId} {args : Array Value} {below : List Frame} {meth : Method} {c : Code} {w : Wc} {k n b Lx ii : Nat} {xs : Nat → Int32} {Qf : Unit → State → Prop} {K : Mem → Option Unit} (g : Gd p s m args meth c w 10 code "KiteLoggerLaw") (hnc : va_Nc exS exI s) (hw : WL w) (hX : LX s w b Lx xs) (hii : ii + 6 ≤ Lx) (hC0 : k ≤ room_1.cells ∧ n ≤ room_1.slots) (hC1 : k + 1 ≤ room_1.cells ∧ n + 6 ≤ room_1.slots) (hK : ∀ M, Go p l e room_1 s m args below meth c w 10 (k + 1) (n + 6) Qf (K M) 2295 (LL w b ii) [] M) (hRK : ∀ M, K M = some () ↔ RR M M) (M : Mem) (j : Nat) (hj : j < 64) (hj0 : 56 ≤ j) : Go p l e room_1 s m args below meth c w 10 k n Qf  (K M) 45 (LL w b ii) [.int (nI j)] M := by
  have hh : j = 56 ∨ j = 57 ∨ j = 58 ∨ j = 59 ∨ j = 60 ∨ j = 61 ∨ j = 62 ∨ j = 63 := by omega
  rcases hh with rfl | rfl | rfl | rfl | rfl | rfl | rfl | rfl
  · exact Go.mono (E_A hRK (j_writeLogger (N := 1000) (by decide))) (G_tabK g (pc := 45) 2114 d_W_45 (by decide) (by decide) rfl (by decide) (k_56 l hst 1000 g hnc hw hX hii hC0 hC1 hK M))
  · exact Go.mono (E_X hRK exok1 (j_outputByte)) (G_tabK g (pc := 45) 2127 d_W_45 (by decide) (by decide) rfl (by decide) (k_57 l hst 1000 g hnc hw hX hii hC0 hC1 hK M))
  · exact Go.mono (E_A hRK (j_undoableCount)) (G_tabK g (pc := 45) 2183 d_W_45 (by decide) (by decide) rfl (by decide) (k_58 l hst 1000 g hnc hw hX hii hC0 hC1 hK M))
  · exact Go.mono (E_X hRK exok1 (j_undo)) (G_tabK g (pc := 45) 2196 d_W_45 (by decide) (by decide) rfl (by decide) (k_59 l hst 1000 g hnc hw hX hii hC0 hC1 hK M))
  · exact Go.mono (E_V hRK (j_saveSnapshot)) (G_tabK g (pc := 45) 2240 d_W_45 (by decide) (by decide) rfl (by decide) (k_60 l hst 1000 g hnc hw hX hii hC0 hC1 hK M))
  · exact Go.mono (E_X hRK exok1 (j_restoreSnapshot)) (G_tabK g (pc := 45) 2251 d_W_45 (by decide) (by decide) rfl (by decide) (k_61 l hst 1000 g hnc hw hX hii hC0 hC1 hK M))
  · exact G_tabD g (pc := 45) 2295 d_W_45 (by decide) (by decide) (Go.widen (Nat.le_succ _) (Nat.le_add_right _ _) (hK M))
  · exact G_tabD g (pc := 45) 2295 d_W_45 (by decide) (by decide) (Go.widen (Nat.le_succ _) (Nat.le_add_right _ _) (hK M))
theorem sw_all (l : Launch) (hst : l.stackTraces = false) {p : Program} {e : Env} {s : State} {m : MethodId} {args : Array Value} {below : List Frame} {meth : Method} {c : Code} {w : Wc} {k n b Lx ii : Nat} {xs : Nat → Int32} {Qf : Unit → State → Prop} {K : Mem → Option Unit} (g : Gd p s m args meth c w 10 code "KiteLoggerLaw") (hnc : va_Nc exS exI s) (hw : WL w) (hX : LX s w b Lx xs) (hii : ii + 6 ≤ Lx) (hC0 : k ≤ room_1.cells ∧ n ≤ room_1.slots) (hC1 : k + 1 ≤ room_1.cells ∧ n + 6 ≤ room_1.slots) (hK : ∀ M, Go p l e room_1 s m args below meth c w 10 (k + 1) (n + 6) Qf (K M) 2295 (LL w b ii) [] M) (hRK : ∀ M, K M = some () ↔ RR M M) (M : Mem) (j : Nat) (hj : j < 64) : Go p l e room_1 s m args below meth c w 10 k n Qf  (K M) 45 (LL w b ii) [.int (nI j)] M := by
  have hh : (0 ≤ j ∧ j < 8) ∨ (8 ≤ j ∧ j < 16) ∨ (16 ≤ j ∧ j < 24) ∨ (24 ≤ j ∧ j < 32) ∨ (32 ≤ j ∧ j < 40) ∨ (40 ≤ j ∧ j < 48) ∨ (48 ≤ j ∧ j < 56) ∨ (56 ≤ j ∧ j < 64) := by omega
  rcases hh with ⟨h1, h2⟩ | ⟨h1, h2⟩ | ⟨h1, h2⟩ | ⟨h1, h2⟩ | ⟨h1, h2⟩ | ⟨h1, h2⟩ | ⟨h1, h2⟩ | ⟨h1, h2⟩
  · exact sw_0 l hst g hnc hw hX hii hC0 hC1 hK hRK M j h2 h1
  · exact sw_1 l hst g hnc hw hX hii hC0 hC1 hK hRK M j h2 h1
  · exact sw_2 l hst g hnc hw hX hii hC0 hC1 hK hRK M j h2 h1
  · exact sw_3 l hst g hnc hw hX hii hC0 hC1 hK hRK M j h2 h1
  · exact sw_4 l hst g hnc hw hX hii hC0 hC1 hK hRK M j h2 h1
  · exact sw_5 l hst g hnc hw hX hii hC0 hC1 hK hRK M j h2 h1
  · exact sw_6 l hst g hnc hw hX hii hC0 hC1 hK hRK M j h2 h1
  · exact sw_7 l hst g hnc hw hX hii hC0 hC1 hK hRK M j h2 h1
section LO
variable {p : Program} {l : Launch} {e : Env} {R : Room} {s : State} {m : MethodId} {args : Array Value} {below : List Frame} {meth : Method} {c : Code} {w : Wc} {nL k n : Nat} {Qf : Unit → State → Prop} {cc : ByteArray} {own : String}
theorem H_cmpgt (g : Gd p s m args meth c w nL cc own) {pc : Nat} {L : List (Nat × Value)} {st : List Value} {M : Mem} {o : Option Unit} {x y : Int32} {off : Int} (tgt : Nat) (d : decode cc pc = .ok (.if_icmp .gt off, 3)) (ht : (pc : Int) + off = (tgt : Int)) (k1 : y < x → Go p l e R s m args below meth c w nL k n Qf o tgt L st M) (k2 : ¬ y < x → Go p l e R s m args below meth c w nL k n Qf o (pc + 3) L st M) : Go p l e R s m args below meth c w nL k n Qf o pc L (.int y :: .int x :: st) M := by
  intro r hr H locs ls hP hS hl
  exact lv_icmp_gt g.1 g.2.1 d ht (fun h => k1 h r hr H locs ls hP hS hl) (fun h => k2 h r hr H locs ls hP hS hl)
end LO
theorem nI_6 {L i : Nat} (hL : L ≤ 3072) (hi : i ≤ 4000) : (nI L - nI 6 < nI i) ↔ ¬ i + 6 ≤ L := by
  rcases Nat.lt_or_ge L 6 with h | h
  · have h1 : nI L - nI 6 < 0 := pk_sneg (by omega) h
    have h2 : ¬ nI i < 0 := nI_pos (by omega)
    exact ⟨fun _ => by omega, fun _ => Int32.lt_of_lt_of_le h1 (Int32.not_lt.mp h2)⟩
  · rw [pk_sub h]
    exact ⟨fun h1 h2 => (nI_nlt (show L - 6 ≥ i by omega) (by omega)) h1, fun h1 => nI_lt (by omega) (by omega)⟩
set_option maxHeartbeats 4000000 in
set_option maxRecDepth 100000 in
theorem law_loop (l : Launch) (hst : l.stackTraces = false) {p : Program} {e : Env} {s : State} {m : MethodId} {args : Array Value} {below : List Frame} {meth : Method} {c : Code} {w : Wc} {b Lx : Nat} {xs : Nat → Int32} {Qf : Unit → State → Prop} {K : Mem → Option Unit} (g : Gd p s m args meth c w 10 code "KiteLoggerLaw") (hnc : va_Nc exS exI s) (hw : WL w) (hX : LX s w b Lx xs) (hRK : ∀ M, K M = some () ↔ RR M M) (hend : ∀ (k n ii : Nat) (M : Mem), k ≤ room_1.cells → n ≤ room_1.slots → Go p l e room_1 s m args below meth c w 10 k n Qf (K M) 2301 (LL w b ii) [] M) : ∀ (d ii k n : Nat) (M : Mem), ii ≤ Lx + 6 → Lx ≤ ii + 6 * d → k + d + 1 ≤ room_1.cells → n + 6 * d + 6 ≤ room_1.slots → Go p l e room_1 s m args below meth c w 10 k n Qf (K M) 28 (LL w b ii) [] M := by
  have hLx := hX.2.2.2
  intro d
  induction d with
  | zero =>
    intro ii k n M h1 h2 h3 h4
    refine G_iload g (pc := 28) 5 d_W_28 rfl ?_
    refine G_aload_n g (pc := 30) 0 d_W_30 rfl rfl ?_
    refine G_slen g hX (pc := 31) d_W_31 ?_
    refine G_bipush g (pc := 32) (nI 6) d_W_32 rfl ?_
    refine G_isub g (pc := 34) d_W_34 ?_
    refine H_cmpgt g (pc := 35) 2301 d_W_35 (by decide) (fun _ => hend k n ii M (by omega) (by omega)) (fun h => Go.no (h ((nI_6 hLx (by omega)).mpr (by omega))))
  | succ d ih =>
    intro ii k n M h1 h2 h3 h4
    refine G_iload g (pc := 28) 5 d_W_28 rfl ?_
    refine G_aload_n g (pc := 30) 0 d_W_30 rfl rfl ?_
    refine G_slen g hX (pc := 31) d_W_31 ?_
    refine G_bipush g (pc := 32) (nI 6) d_W_32 rfl ?_
    refine G_isub g (pc := 34) d_W_34 ?_
    refine H_cmpgt g (pc := 35) 2301 d_W_35 (by decide) (fun _ => hend k n ii M (by omega) (by omega)) (fun h => ?_)
    have hii : ii + 6 ≤ Lx := Decidable.not_not.mp (fun q => h ((nI_6 hLx (by omega)).mpr q))
    refine G_aload_n g (pc := 38) 0 d_W_38 rfl rfl ?_
    refine G_iload g (pc := 39) 5 d_W_39 rfl ?_
    refine G_sld g hX (pc := 41) (by omega) d_W_41 ?_
    refine G_bipush g (pc := 42) (63 : Int32) d_W_42 rfl ?_
    refine G_iand g (pc := 44) d_W_44 ?_
    obtain ⟨j, hj, ej⟩ := pk_andE (xs ii) (m := 63) 6 rfl
    rw [ej]
    refine sw_all l hst g hnc hw hX hii ⟨?_, ?_⟩ ⟨?_, ?_⟩ (fun M2 => ?_) hRK M j hj
    · show k ≤ room_1.cells; omega
    · show n ≤ room_1.slots; omega
    · show k + 1 ≤ room_1.cells; omega
    · show n + 6 ≤ room_1.slots; omega
    · refine G_iinc g (pc := 2295) (nI (ii + 6)) _ 5 d_W_2295 rfl (nI_add ii 6) (Nat.le_of_ble_eq_true rfl) rfl ?_
      refine G_goto g (pc := 2298) 28 d_W_2298 (by decide) ?_
      refine G_sub [1, 2, 3, 4, 5, 0] (LL w b (ii + 6)) rfl ?_
      exact ih (ii + 6) (k + 1) (n + 6) M2 (by omega) (by omega) (by omega) (by omega)
