/-! more cases -/
theorem d_W_2114 : decode code 2114 = .ok (.aload_n 1, 1) := by decide +kernel
theorem d_W_2115 : decode code 2115 = .ok (.invokevirtual 311, 3) := by decide +kernel
theorem d_W_2118 : decode code 2118 = .ok (.aload_n 2, 1) := by decide +kernel
theorem d_W_2119 : decode code 2119 = .ok (.invokevirtual 314, 3) := by decide +kernel
theorem d_W_2122 : decode code 2122 = .ok (.if_icmp .eq 173, 3) := by decide +kernel
theorem cc_L_311 : CV "KiteLoggerLaw" 311 y_G_writeLogger b_G_writeLogger 1 (some .int) 0 := ⟨TT_in (i := 729) (by decide +kernel) (by decide +kernel), TT_in (i := 730) (by decide +kernel) (by decide +kernel), TT_in (i := 731) (by decide +kernel) (by decide +kernel), TT_in (i := 88) (by decide +kernel) (by decide +kernel), TT_in (i := 732) (by decide +kernel) (by decide +kernel), ⟨by decide +kernel, by decide +kernel, by decide +kernel⟩⟩
theorem cc_L_314 : CV "KiteLoggerLaw" 314 y_M_writeLogger b_M_writeLogger 3 (some .int) 0 := ⟨TT_in (i := 1814) (by decide +kernel) (by decide +kernel), TT_in (i := 1815) (by decide +kernel) (by decide +kernel), TT_in (i := 1816) (by decide +kernel) (by decide +kernel), TT_in (i := 100) (by decide +kernel) (by decide +kernel), TT_in (i := 1817) (by decide +kernel) (by decide +kernel), ⟨by decide +kernel, by decide +kernel, by decide +kernel⟩⟩
set_option maxHeartbeats 4000000 in
set_option maxRecDepth 100000 in
theorem k_56 (l : Launch) (hst : l.stackTraces = false) (N : Nat) {p : Program} {e : Env} {s : State} {m : MethodId} {args : Array Value} {below : List Frame} {meth : Method} {c : Code} {w : Wc} {k n b Lx ii : Nat} {xs : Nat → Int32} {Qf : Unit → State → Prop} {K : Mem → Option Unit} (g : Gd p s m args meth c w 10 code "KiteLoggerLaw") (hnc : va_Nc exS exI s) (hw : WL w) (hX : LX s w b Lx xs) (hii : ii + 6 ≤ Lx) (hC0 : k ≤ room_1.cells ∧ n ≤ room_1.slots) (hC1 : k + 1 ≤ room_1.cells ∧ n + 6 ≤ room_1.slots) (hK : ∀ M, Go p l e room_1 s m args below meth c w 10 (k + 1) (n + 6) Qf (K M) 2295 (LL w b ii) [] M) (M : Mem) : Go p l e room_1 s m args below meth c w 10 k n Qf  (bnd (f_G_writeLogger N 146 M) fun x1 M1 => bnd (f_M_writeLogger N 146 M1) fun x2 M2 => if x1 = x2 then K M2 else none) 2114 (LL w b ii) [] M := by
  refine G_aload_n g (pc := 2114) 1 d_W_2114 rfl rfl ?_
  refine G_cVI g (pc := 2115) (As := []) (st := []) cc_L_311 (c_G_writeLogger l N hw.1 M) (hw.1.2 0 (Nat.le_of_ble_eq_true rfl)) (hw.1.k rfl) rfl (by decide) rfl ⟨(Nat.le_of_ble_eq_true rfl), (Nat.le_of_ble_eq_true rfl)⟩ hC0 (Nat.le_of_ble_eq_true rfl) d_W_2115 (fun x1 M1 => ?_)
  refine G_aload_n g (pc := 2118) 2 d_W_2118 rfl rfl ?_
  refine G_cVI g (pc := 2119) (As := []) (st := [.int x1]) cc_L_314 (c_M_writeLogger l N hw.2.1 M1) (hw.2.1.mm 145 (Nat.le_of_ble_eq_true rfl) (Nat.le_of_ble_eq_true rfl)) (hw.1.k rfl) rfl (by decide) rfl ⟨(Nat.le_of_ble_eq_true rfl), (Nat.le_of_ble_eq_true rfl)⟩ hC0 (Nat.le_of_ble_eq_true rfl) d_W_2119 (fun x2 M2 => ?_)
  refine Go.ite (fun h12 => ?_)
  refine H_cmpeq g (pc := 2122) 2295 d_W_2122 (by decide) h12 ?_
  exact Go.widen (Nat.le_succ _) (Nat.le_add_right _ _) (hK _)
theorem d_W_2127 : decode code 2127 = .ok (.aload_n 1, 1) := by decide +kernel
theorem d_W_2128 : decode code 2128 = .ok (.aload_n 0, 1) := by decide +kernel
theorem d_W_2129 : decode code 2129 = .ok (.iload 5, 2) := by decide +kernel
theorem d_W_2131 : decode code 2131 = .ok (.iconst 1, 1) := by decide +kernel
theorem d_W_2132 : decode code 2132 = .ok (.iadd, 1) := by decide +kernel
theorem d_W_2133 : decode code 2133 = .ok (.iaload, 1) := by decide +kernel
theorem d_W_2134 : decode code 2134 = .ok (.aload_n 3, 1) := by decide +kernel
theorem d_W_2135 : decode code 2135 = .ok (.invokestatic 315, 3) := by decide +kernel
theorem d_W_2138 : decode code 2138 = .ok (.istore 6, 2) := by decide +kernel
theorem d_W_2140 : decode code 2140 = .ok (.aload_n 2, 1) := by decide +kernel
theorem d_W_2141 : decode code 2141 = .ok (.aload_n 0, 1) := by decide +kernel
theorem d_W_2142 : decode code 2142 = .ok (.iload 5, 2) := by decide +kernel
theorem d_W_2144 : decode code 2144 = .ok (.iconst 1, 1) := by decide +kernel
theorem d_W_2145 : decode code 2145 = .ok (.iadd, 1) := by decide +kernel
theorem d_W_2146 : decode code 2146 = .ok (.iaload, 1) := by decide +kernel
theorem d_W_2147 : decode code 2147 = .ok (.invokevirtual 317, 3) := by decide +kernel
theorem d_W_2150 : decode code 2150 = .ok (.istore 7, 2) := by decide +kernel
theorem d_W_2152 : decode code 2152 = .ok (.aload_n 2, 1) := by decide +kernel
theorem d_W_2153 : decode code 2153 = .ok (.invokevirtual 106, 3) := by decide +kernel
theorem d_W_2156 : decode code 2156 = .ok (.iload 6, 2) := by decide +kernel
theorem d_W_2158 : decode code 2158 = .ok (.if_icmp .eq 5, 3) := by decide +kernel
theorem d_W_2163 : decode code 2163 = .ok (.iload 6, 2) := by decide +kernel
theorem d_W_2165 : decode code 2165 = .ok (.ifCond .ne 15, 3) := by decide +kernel
theorem d_W_2168 : decode code 2168 = .ok (.aload_n 3, 1) := by decide +kernel
theorem d_W_2169 : decode code 2169 = .ok (.iconst 0, 1) := by decide +kernel
theorem d_W_2170 : decode code 2170 = .ok (.laload, 1) := by decide +kernel
theorem d_W_2171 : decode code 2171 = .ok (.iload 7, 2) := by decide +kernel
theorem d_W_2173 : decode code 2173 = .ok (.i2l, 1) := by decide +kernel
theorem d_W_2174 : decode code 2174 = .ok (.lcmp, 1) := by decide +kernel
theorem d_W_2175 : decode code 2175 = .ok (.ifCond .eq 5, 3) := by decide +kernel
theorem d_W_2180 : decode code 2180 = .ok (.goto 115, 3) := by decide +kernel
theorem cs_L_315 : CSH "KiteLoggerLaw" 315 y_L_outputByte b_L_outputByte 4 [(0, 9, 12, 27)] 3 := ⟨TT_in (i := 1304) (by decide +kernel) (by decide +kernel), TT_in (i := 1305) (by decide +kernel) (by decide +kernel), TT_in (i := 87) (by decide +kernel) (by decide +kernel), TT_in (i := 1306) (by decide +kernel) (by decide +kernel), ⟨by decide +kernel, by decide +kernel, by decide +kernel⟩⟩
theorem cc_L_317 : CV "KiteLoggerLaw" 317 y_M_outputByte b_M_outputByte 2 (some .int) 1 := ⟨TT_in (i := 1826) (by decide +kernel) (by decide +kernel), TT_in (i := 1827) (by decide +kernel) (by decide +kernel), TT_in (i := 1828) (by decide +kernel) (by decide +kernel), TT_in (i := 100) (by decide +kernel) (by decide +kernel), TT_in (i := 1829) (by decide +kernel) (by decide +kernel), ⟨by decide +kernel, by decide +kernel, by decide +kernel⟩⟩
set_option maxHeartbeats 4000000 in
set_option maxRecDepth 100000 in
theorem k_57 (l : Launch) (hst : l.stackTraces = false) (N : Nat) {p : Program} {e : Env} {s : State} {m : MethodId} {args : Array Value} {below : List Frame} {meth : Method} {c : Code} {w : Wc} {k n b Lx ii : Nat} {xs : Nat → Int32} {Qf : Unit → State → Prop} {K : Mem → Option Unit} (g : Gd p s m args meth c w 10 code "KiteLoggerLaw") (hnc : va_Nc exS exI s) (hw : WL w) (hX : LX s w b Lx xs) (hii : ii + 6 ≤ Lx) (hC0 : k ≤ room_1.cells ∧ n ≤ room_1.slots) (hC1 : k + 1 ≤ room_1.cells ∧ n + 6 ≤ room_1.slots) (hK : ∀ M, Go p l e room_1 s m args below meth c w 10 (k + 1) (n + 6) Qf (K M) 2295 (LL w b ii) [] M) (M : Mem) : Go p l e room_1 s m args below meth c w 10 k n Qf  (bnd (lwW [(2, 1)] (f_G_outputByte (xs (ii + 1)) M)) fun x1 M1 => bnd (f_M_outputByte (xs (ii + 1)) M1) fun x2 M2 => bnd (f_M_thrown M2) fun x3 M3 => if x3 = x1 ∧ (x1 = 0 → M3 156 0 = x2) then K M3 else none) 2127 (LL w b ii) [] M := by
  refine G_aload_n g (pc := 2127) 1 d_W_2127 rfl rfl ?_
  refine G_arg g (pc := 2128) hX (j := 1) (j0 := 0) (j5 := 5) hii (by decide) rfl rfl d_W_2128 d_W_2129 d_W_2131 rfl d_W_2132 d_W_2133 ?_
  refine G_aload_n g (pc := 2134) 3 d_W_2134 rfl rfl ?_
  refine G_cSH g hnc (pc := 2135) (As := [.ref (wad w 0), .int (xs (ii + 1)), .ref (wad w 156)]) (st := []) cs_L_315 (c_L_outputByte l hst hw (xs (ii + 1)) M) rfl ⟨(Nat.le_of_ble_eq_true rfl), (Nat.le_of_ble_eq_true rfl)⟩ hC1 (Nat.le_of_ble_eq_true rfl) d_W_2135 (fun x1 M1 => ?_)
  refine G_istore g (pc := 2138) _ d_W_2138 (Nat.le_of_ble_eq_true rfl) rfl ?_
  refine G_aload_n g (pc := 2140) 3 d_W_2140 rfl rfl ?_
  refine G_arg g (pc := 2141) hX (j := 1) (j0 := 1) (j5 := 6) hii (by decide) rfl rfl d_W_2141 d_W_2142 d_W_2144 rfl d_W_2145 d_W_2146 ?_
  refine G_cVI g (pc := 2147) (As := [.int (xs (ii + 1))]) (st := []) cc_L_317 (c_M_outputByte l hw.2.1 (xs (ii + 1)) M1) (hw.2.1.mm 145 (Nat.le_of_ble_eq_true rfl) (Nat.le_of_ble_eq_true rfl)) (hw.1.k rfl) rfl (by decide) rfl ⟨(Nat.le_of_ble_eq_true rfl), (Nat.le_of_ble_eq_true rfl)⟩ hC1 (Nat.le_of_ble_eq_true rfl) d_W_2147 (fun x2 M2 => ?_)
  refine G_istore g (pc := 2150) _ d_W_2150 (Nat.le_of_ble_eq_true rfl) rfl ?_
  refine G_aload_n g (pc := 2152) 4 d_W_2152 rfl rfl ?_
  refine G_cVI g (pc := 2153) (As := []) (st := []) cc_L_106 (c_M_thrown l hw.2.1 M2) (hw.2.1.mm 145 (Nat.le_of_ble_eq_true rfl) (Nat.le_of_ble_eq_true rfl)) (hw.1.k rfl) rfl (by decide) rfl ⟨(Nat.le_of_ble_eq_true rfl), (Nat.le_of_ble_eq_true rfl)⟩ hC1 (Nat.le_of_ble_eq_true rfl) d_W_2153 (fun x3 M3 => ?_)
  refine Go.ite (fun h12 => ?_)
  refine G_iload g (pc := 2156) 1 d_W_2156 rfl ?_
  refine H_cmpeq g (pc := 2158) 2163 d_W_2158 (by decide) h12.1 ?_
  refine G_iload g (pc := 2163) 1 d_W_2163 rfl ?_
  refine H_ifne g (pc := 2165) 2180 d_W_2165 (by decide) (fun h0 => ?_) (fun h0 => ?_)
  · refine G_goto g (pc := 2180) 2295 d_W_2180 (by decide) ?_
    refine G_sub [2, 3, 4, 5, 6, 7] _ rfl ?_
    exact hK _
  · refine G_aload_n g (pc := 2168) 5 d_W_2168 rfl rfl ?_
    refine G_iconst g (pc := 2169) (0 : Int32) d_W_2169 rfl ?_
    refine G_lald0 g (pc := 2170) hw.2.2.1 (hw.1.k rfl) d_W_2170 ?_
    refine G_iload g (pc := 2171) 0 d_W_2171 rfl ?_
    refine G_i2l g (pc := 2173) d_W_2173 ?_
    refine G_lcmp g (pc := 2174) (congrArg Int32.toInt64 (h12.2 h0)) d_W_2174 ?_
    refine H_ifeq g (pc := 2175) 2180 d_W_2175 (by decide) (fun _ => ?_) (fun h9 => Go.no (h9 rfl))
    refine G_goto g (pc := 2180) 2295 d_W_2180 (by decide) ?_
    refine G_sub [2, 3, 4, 5, 6, 7] _ rfl ?_
    exact hK _
theorem d_W_2183 : decode code 2183 = .ok (.aload_n 1, 1) := by decide +kernel
theorem d_W_2184 : decode code 2184 = .ok (.invokevirtual 318, 3) := by decide +kernel
theorem d_W_2187 : decode code 2187 = .ok (.aload_n 2, 1) := by decide +kernel
theorem d_W_2188 : decode code 2188 = .ok (.invokevirtual 321, 3) := by decide +kernel
theorem d_W_2191 : decode code 2191 = .ok (.if_icmp .eq 104, 3) := by decide +kernel
theorem cc_L_318 : CV "KiteLoggerLaw" 318 y_G_undoableCount b_G_undoableCount 1 (some .int) 0 := ⟨TT_in (i := 751) (by decide +kernel) (by decide +kernel), TT_in (i := 752) (by decide +kernel) (by decide +kernel), TT_in (i := 753) (by decide +kernel) (by decide +kernel), TT_in (i := 88) (by decide +kernel) (by decide +kernel), TT_in (i := 754) (by decide +kernel) (by decide +kernel), ⟨by decide +kernel, by decide +kernel, by decide +kernel⟩⟩
theorem cc_L_321 : CV "KiteLoggerLaw" 321 y_M_undoableCount b_M_undoableCount 1 (some .int) 0 := ⟨TT_in (i := 1830) (by decide +kernel) (by decide +kernel), TT_in (i := 1831) (by decide +kernel) (by decide +kernel), TT_in (i := 1832) (by decide +kernel) (by decide +kernel), TT_in (i := 100) (by decide +kernel) (by decide +kernel), TT_in (i := 1833) (by decide +kernel) (by decide +kernel), ⟨by decide +kernel, by decide +kernel, by decide +kernel⟩⟩
set_option maxHeartbeats 4000000 in
set_option maxRecDepth 100000 in
theorem k_58 (l : Launch) (hst : l.stackTraces = false) (N : Nat) {p : Program} {e : Env} {s : State} {m : MethodId} {args : Array Value} {below : List Frame} {meth : Method} {c : Code} {w : Wc} {k n b Lx ii : Nat} {xs : Nat → Int32} {Qf : Unit → State → Prop} {K : Mem → Option Unit} (g : Gd p s m args meth c w 10 code "KiteLoggerLaw") (hnc : va_Nc exS exI s) (hw : WL w) (hX : LX s w b Lx xs) (hii : ii + 6 ≤ Lx) (hC0 : k ≤ room_1.cells ∧ n ≤ room_1.slots) (hC1 : k + 1 ≤ room_1.cells ∧ n + 6 ≤ room_1.slots) (hK : ∀ M, Go p l e room_1 s m args below meth c w 10 (k + 1) (n + 6) Qf (K M) 2295 (LL w b ii) [] M) (M : Mem) : Go p l e room_1 s m args below meth c w 10 k n Qf  (bnd (f_G_undoableCount M) fun x1 M1 => bnd (f_M_undoableCount M1) fun x2 M2 => if x1 = x2 then K M2 else none) 2183 (LL w b ii) [] M := by
  refine G_aload_n g (pc := 2183) 1 d_W_2183 rfl rfl ?_
  refine G_cVI g (pc := 2184) (As := []) (st := []) cc_L_318 (c_G_undoableCount l hw.1 M) (hw.1.2 0 (Nat.le_of_ble_eq_true rfl)) (hw.1.k rfl) rfl (by decide) rfl ⟨(Nat.le_of_ble_eq_true rfl), (Nat.le_of_ble_eq_true rfl)⟩ hC0 (Nat.le_of_ble_eq_true rfl) d_W_2184 (fun x1 M1 => ?_)
  refine G_aload_n g (pc := 2187) 2 d_W_2187 rfl rfl ?_
  refine G_cVI g (pc := 2188) (As := []) (st := [.int x1]) cc_L_321 (c_M_undoableCount l hw.2.1 M1) (hw.2.1.mm 145 (Nat.le_of_ble_eq_true rfl) (Nat.le_of_ble_eq_true rfl)) (hw.1.k rfl) rfl (by decide) rfl ⟨(Nat.le_of_ble_eq_true rfl), (Nat.le_of_ble_eq_true rfl)⟩ hC0 (Nat.le_of_ble_eq_true rfl) d_W_2188 (fun x2 M2 => ?_)
  refine Go.ite (fun h12 => ?_)
  refine H_cmpeq g (pc := 2191) 2295 d_W_2191 (by decide) h12 ?_
  exact Go.widen (Nat.le_succ _) (Nat.le_add_right _ _) (hK _)
theorem d_W_2196 : decode code 2196 = .ok (.aload_n 1, 1) := by decide +kernel
theorem d_W_2197 : decode code 2197 = .ok (.aload_n 3, 1) := by decide +kernel
theorem d_W_2198 : decode code 2198 = .ok (.invokestatic 322, 3) := by decide +kernel
theorem d_W_2201 : decode code 2201 = .ok (.istore 6, 2) := by decide +kernel
theorem d_W_2203 : decode code 2203 = .ok (.aload_n 2, 1) := by decide +kernel
theorem d_W_2204 : decode code 2204 = .ok (.invokevirtual 324, 3) := by decide +kernel
theorem d_W_2207 : decode code 2207 = .ok (.istore 7, 2) := by decide +kernel
theorem d_W_2209 : decode code 2209 = .ok (.aload_n 2, 1) := by decide +kernel
theorem d_W_2210 : decode code 2210 = .ok (.invokevirtual 106, 3) := by decide +kernel
theorem d_W_2213 : decode code 2213 = .ok (.iload 6, 2) := by decide +kernel
theorem d_W_2215 : decode code 2215 = .ok (.if_icmp .eq 5, 3) := by decide +kernel
theorem d_W_2220 : decode code 2220 = .ok (.iload 6, 2) := by decide +kernel
theorem d_W_2222 : decode code 2222 = .ok (.ifCond .ne 15, 3) := by decide +kernel
theorem d_W_2225 : decode code 2225 = .ok (.aload_n 3, 1) := by decide +kernel
theorem d_W_2226 : decode code 2226 = .ok (.iconst 0, 1) := by decide +kernel
theorem d_W_2227 : decode code 2227 = .ok (.laload, 1) := by decide +kernel
theorem d_W_2228 : decode code 2228 = .ok (.iload 7, 2) := by decide +kernel
theorem d_W_2230 : decode code 2230 = .ok (.i2l, 1) := by decide +kernel
theorem d_W_2231 : decode code 2231 = .ok (.lcmp, 1) := by decide +kernel
theorem d_W_2232 : decode code 2232 = .ok (.ifCond .eq 5, 3) := by decide +kernel
theorem d_W_2237 : decode code 2237 = .ok (.goto 58, 3) := by decide +kernel
theorem cs_L_322 : CSH "KiteLoggerLaw" 322 y_L_undo b_L_undo 3 [(0, 8, 11, 55)] 2 := ⟨TT_in (i := 1316) (by decide +kernel) (by decide +kernel), TT_in (i := 1317) (by decide +kernel) (by decide +kernel), TT_in (i := 87) (by decide +kernel) (by decide +kernel), TT_in (i := 1318) (by decide +kernel) (by decide +kernel), ⟨by decide +kernel, by decide +kernel, by decide +kernel⟩⟩
theorem cc_L_324 : CV "KiteLoggerLaw" 324 y_M_undo b_M_undo 1 (some .int) 0 := ⟨TT_in (i := 1834) (by decide +kernel) (by decide +kernel), TT_in (i := 1835) (by decide +kernel) (by decide +kernel), TT_in (i := 1836) (by decide +kernel) (by decide +kernel), TT_in (i := 100) (by decide +kernel) (by decide +kernel), TT_in (i := 1837) (by decide +kernel) (by decide +kernel), ⟨by decide +kernel, by decide +kernel, by decide +kernel⟩⟩
set_option maxHeartbeats 4000000 in
set_option maxRecDepth 100000 in
theorem k_59 (l : Launch) (hst : l.stackTraces = false) (N : Nat) {p : Program} {e : Env} {s : State} {m : MethodId} {args : Array Value} {below : List Frame} {meth : Method} {c : Code} {w : Wc} {k n b Lx ii : Nat} {xs : Nat → Int32} {Qf : Unit → State → Prop} {K : Mem → Option Unit} (g : Gd p s m args meth c w 10 code "KiteLoggerLaw") (hnc : va_Nc exS exI s) (hw : WL w) (hX : LX s w b Lx xs) (hii : ii + 6 ≤ Lx) (hC0 : k ≤ room_1.cells ∧ n ≤ room_1.slots) (hC1 : k + 1 ≤ room_1.cells ∧ n + 6 ≤ room_1.slots) (hK : ∀ M, Go p l e room_1 s m args below meth c w 10 (k + 1) (n + 6) Qf (K M) 2295 (LL w b ii) [] M) (M : Mem) : Go p l e room_1 s m args below meth c w 10 k n Qf  (bnd (lwW [(1, 1)] (f_G_undo 146 M)) fun x1 M1 => bnd (f_M_undo M1) fun x2 M2 => bnd (f_M_thrown M2) fun x3 M3 => if x3 = x1 ∧ (x1 = 0 → M3 156 0 = x2) then K M3 else none) 2196 (LL w b ii) [] M := by
  refine G_aload_n g (pc := 2196) 1 d_W_2196 rfl rfl ?_
  refine G_aload_n g (pc := 2197) 3 d_W_2197 rfl rfl ?_
  refine G_cSH g hnc (pc := 2198) (As := [.ref (wad w 0), .ref (wad w 156)]) (st := []) cs_L_322 (c_L_undo l hst hw M) rfl ⟨(Nat.le_of_ble_eq_true rfl), (Nat.le_of_ble_eq_true rfl)⟩ hC1 (Nat.le_of_ble_eq_true rfl) d_W_2198 (fun x1 M1 => ?_)
  refine G_istore g (pc := 2201) _ d_W_2201 (Nat.le_of_ble_eq_true rfl) rfl ?_
  refine G_aload_n g (pc := 2203) 3 d_W_2203 rfl rfl ?_
  refine G_cVI g (pc := 2204) (As := []) (st := []) cc_L_324 (c_M_undo l hw.2.1 M1) (hw.2.1.mm 145 (Nat.le_of_ble_eq_true rfl) (Nat.le_of_ble_eq_true rfl)) (hw.1.k rfl) rfl (by decide) rfl ⟨(Nat.le_of_ble_eq_true rfl), (Nat.le_of_ble_eq_true rfl)⟩ hC1 (Nat.le_of_ble_eq_true rfl) d_W_2204 (fun x2 M2 => ?_)
  refine G_istore g (pc := 2207) _ d_W_2207 (Nat.le_of_ble_eq_true rfl) rfl ?_
  refine G_aload_n g (pc := 2209) 4 d_W_2209 rfl rfl ?_
  refine G_cVI g (pc := 2210) (As := []) (st := []) cc_L_106 (c_M_thrown l hw.2.1 M2) (hw.2.1.mm 145 (Nat.le_of_ble_eq_true rfl) (Nat.le_of_ble_eq_true rfl)) (hw.1.k rfl) rfl (by decide) rfl ⟨(Nat.le_of_ble_eq_true rfl), (Nat.le_of_ble_eq_true rfl)⟩ hC1 (Nat.le_of_ble_eq_true rfl) d_W_2210 (fun x3 M3 => ?_)
  refine Go.ite (fun h12 => ?_)
  refine G_iload g (pc := 2213) 1 d_W_2213 rfl ?_
  refine H_cmpeq g (pc := 2215) 2220 d_W_2215 (by decide) h12.1 ?_
  refine G_iload g (pc := 2220) 1 d_W_2220 rfl ?_
  refine H_ifne g (pc := 2222) 2237 d_W_2222 (by decide) (fun h0 => ?_) (fun h0 => ?_)
  · refine G_goto g (pc := 2237) 2295 d_W_2237 (by decide) ?_
    refine G_sub [2, 3, 4, 5, 6, 7] _ rfl ?_
    exact hK _
  · refine G_aload_n g (pc := 2225) 5 d_W_2225 rfl rfl ?_
    refine G_iconst g (pc := 2226) (0 : Int32) d_W_2226 rfl ?_
    refine G_lald0 g (pc := 2227) hw.2.2.1 (hw.1.k rfl) d_W_2227 ?_
    refine G_iload g (pc := 2228) 0 d_W_2228 rfl ?_
    refine G_i2l g (pc := 2230) d_W_2230 ?_
    refine G_lcmp g (pc := 2231) (congrArg Int32.toInt64 (h12.2 h0)) d_W_2231 ?_
    refine H_ifeq g (pc := 2232) 2237 d_W_2232 (by decide) (fun _ => ?_) (fun h9 => Go.no (h9 rfl))
    refine G_goto g (pc := 2237) 2295 d_W_2237 (by decide) ?_
    refine G_sub [2, 3, 4, 5, 6, 7] _ rfl ?_
    exact hK _
theorem d_W_2240 : decode code 2240 = .ok (.aload_n 1, 1) := by decide +kernel
theorem d_W_2241 : decode code 2241 = .ok (.invokevirtual 325, 3) := by decide +kernel
theorem d_W_2244 : decode code 2244 = .ok (.aload_n 2, 1) := by decide +kernel
theorem d_W_2245 : decode code 2245 = .ok (.invokevirtual 328, 3) := by decide +kernel
theorem d_W_2248 : decode code 2248 = .ok (.goto 47, 3) := by decide +kernel
theorem cc_L_325 : CV "KiteLoggerLaw" 325 y_G_saveSnapshot b_G_saveSnapshot 1 none 0 := ⟨TT_in (i := 755) (by decide +kernel) (by decide +kernel), TT_in (i := 756) (by decide +kernel) (by decide +kernel), TT_in (i := 757) (by decide +kernel) (by decide +kernel), TT_in (i := 88) (by decide +kernel) (by decide +kernel), TT_in (i := 758) (by decide +kernel) (by decide +kernel), ⟨by decide +kernel, by decide +kernel, by decide +kernel⟩⟩
theorem cc_L_328 : CV "KiteLoggerLaw" 328 y_M_saveSnapshot b_M_saveSnapshot 1 none 0 := ⟨TT_in (i := 1838) (by decide +kernel) (by decide +kernel), TT_in (i := 1839) (by decide +kernel) (by decide +kernel), TT_in (i := 1840) (by decide +kernel) (by decide +kernel), TT_in (i := 100) (by decide +kernel) (by decide +kernel), TT_in (i := 1841) (by decide +kernel) (by decide +kernel), ⟨by decide +kernel, by decide +kernel, by decide +kernel⟩⟩
set_option maxHeartbeats 4000000 in
set_option maxRecDepth 100000 in
theorem k_60 (l : Launch) (hst : l.stackTraces = false) (N : Nat) {p : Program} {e : Env} {s : State} {m : MethodId} {args : Array Value} {below : List Frame} {meth : Method} {c : Code} {w : Wc} {k n b Lx ii : Nat} {xs : Nat → Int32} {Qf : Unit → State → Prop} {K : Mem → Option Unit} (g : Gd p s m args meth c w 10 code "KiteLoggerLaw") (hnc : va_Nc exS exI s) (hw : WL w) (hX : LX s w b Lx xs) (hii : ii + 6 ≤ Lx) (hC0 : k ≤ room_1.cells ∧ n ≤ room_1.slots) (hC1 : k + 1 ≤ room_1.cells ∧ n + 6 ≤ room_1.slots) (hK : ∀ M, Go p l e room_1 s m args below meth c w 10 (k + 1) (n + 6) Qf (K M) 2295 (LL w b ii) [] M) (M : Mem) : Go p l e room_1 s m args below meth c w 10 k n Qf  (bndM (f_G_saveSnapshot M) fun M1 => bndM (f_M_saveSnapshot M1) fun M2 => K M2) 2240 (LL w b ii) [] M := by
  refine G_aload_n g (pc := 2240) 1 d_W_2240 rfl rfl ?_
  refine G_cVV g (pc := 2241) (As := []) (st := []) cc_L_325 (c_G_saveSnapshot l hw.1 M) (hw.1.2 0 (Nat.le_of_ble_eq_true rfl)) (hw.1.k rfl) rfl (by decide) rfl ⟨(Nat.le_of_ble_eq_true rfl), (Nat.le_of_ble_eq_true rfl)⟩ hC0 (Nat.le_of_ble_eq_true rfl) d_W_2241 (fun M1 => ?_)
  refine G_aload_n g (pc := 2244) 2 d_W_2244 rfl rfl ?_
  refine G_cVV g (pc := 2245) (As := []) (st := []) cc_L_328 (c_M_saveSnapshot l hw.2.1 M1) (hw.2.1.mm 145 (Nat.le_of_ble_eq_true rfl) (Nat.le_of_ble_eq_true rfl)) (hw.1.k rfl) rfl (by decide) rfl ⟨(Nat.le_of_ble_eq_true rfl), (Nat.le_of_ble_eq_true rfl)⟩ hC0 (Nat.le_of_ble_eq_true rfl) d_W_2245 (fun M2 => ?_)
  refine G_goto g (pc := 2248) 2295 d_W_2248 (by decide) ?_
  exact Go.widen (Nat.le_succ _) (Nat.le_add_right _ _) (hK _)
theorem d_W_2251 : decode code 2251 = .ok (.aload_n 1, 1) := by decide +kernel
theorem d_W_2252 : decode code 2252 = .ok (.aload_n 3, 1) := by decide +kernel
theorem d_W_2253 : decode code 2253 = .ok (.invokestatic 329, 3) := by decide +kernel
theorem d_W_2256 : decode code 2256 = .ok (.istore 6, 2) := by decide +kernel
theorem d_W_2258 : decode code 2258 = .ok (.aload_n 2, 1) := by decide +kernel
theorem d_W_2259 : decode code 2259 = .ok (.invokevirtual 331, 3) := by decide +kernel
theorem d_W_2262 : decode code 2262 = .ok (.istore 7, 2) := by decide +kernel
theorem d_W_2264 : decode code 2264 = .ok (.aload_n 2, 1) := by decide +kernel
theorem d_W_2265 : decode code 2265 = .ok (.invokevirtual 106, 3) := by decide +kernel
theorem d_W_2268 : decode code 2268 = .ok (.iload 6, 2) := by decide +kernel
theorem d_W_2270 : decode code 2270 = .ok (.if_icmp .eq 5, 3) := by decide +kernel
theorem d_W_2275 : decode code 2275 = .ok (.iload 6, 2) := by decide +kernel
theorem d_W_2277 : decode code 2277 = .ok (.ifCond .ne 15, 3) := by decide +kernel
theorem d_W_2280 : decode code 2280 = .ok (.aload_n 3, 1) := by decide +kernel
theorem d_W_2281 : decode code 2281 = .ok (.iconst 0, 1) := by decide +kernel
theorem d_W_2282 : decode code 2282 = .ok (.laload, 1) := by decide +kernel
theorem d_W_2283 : decode code 2283 = .ok (.iload 7, 2) := by decide +kernel
theorem d_W_2285 : decode code 2285 = .ok (.i2l, 1) := by decide +kernel
theorem d_W_2286 : decode code 2286 = .ok (.lcmp, 1) := by decide +kernel
theorem d_W_2287 : decode code 2287 = .ok (.ifCond .eq 5, 3) := by decide +kernel
theorem d_W_2292 : decode code 2292 = .ok (.goto 3, 3) := by decide +kernel
theorem cs_L_329 : CSH "KiteLoggerLaw" 329 y_L_restoreSnapshot b_L_restoreSnapshot 3 [(0, 8, 11, 55)] 2 := ⟨TT_in (i := 1329) (by decide +kernel) (by decide +kernel), TT_in (i := 1330) (by decide +kernel) (by decide +kernel), TT_in (i := 87) (by decide +kernel) (by decide +kernel), TT_in (i := 1331) (by decide +kernel) (by decide +kernel), ⟨by decide +kernel, by decide +kernel, by decide +kernel⟩⟩
theorem cc_L_331 : CV "KiteLoggerLaw" 331 y_M_restoreSnapshot b_M_restoreSnapshot 1 (some .int) 0 := ⟨TT_in (i := 1842) (by decide +kernel) (by decide +kernel), TT_in (i := 1843) (by decide +kernel) (by decide +kernel), TT_in (i := 1844) (by decide +kernel) (by decide +kernel), TT_in (i := 100) (by decide +kernel) (by decide +kernel), TT_in (i := 1845) (by decide +kernel) (by decide +kernel), ⟨by decide +kernel, by decide +kernel, by decide +kernel⟩⟩
set_option maxHeartbeats 4000000 in
set_option maxRecDepth 100000 in
theorem k_61 (l : Launch) (hst : l.stackTraces = false) (N : Nat) {p : Program} {e : Env} {s : State} {m : MethodId} {args : Array Value} {below : List Frame} {meth : Method} {c : Code} {w : Wc} {k n b Lx ii : Nat} {xs : Nat → Int32} {Qf : Unit → State → Prop} {K : Mem → Option Unit} (g : Gd p s m args meth c w 10 code "KiteLoggerLaw") (hnc : va_Nc exS exI s) (hw : WL w) (hX : LX s w b Lx xs) (hii : ii + 6 ≤ Lx) (hC0 : k ≤ room_1.cells ∧ n ≤ room_1.slots) (hC1 : k + 1 ≤ room_1.cells ∧ n + 6 ≤ room_1.slots) (hK : ∀ M, Go p l e room_1 s m args below meth c w 10 (k + 1) (n + 6) Qf (K M) 2295 (LL w b ii) [] M) (M : Mem) : Go p l e room_1 s m args below meth c w 10 k n Qf  (bnd (lwW [(1, 1)] (f_G_restoreSnapshot M)) fun x1 M1 => bnd (f_M_restoreSnapshot 146 M1) fun x2 M2 => bnd (f_M_thrown M2) fun x3 M3 => if x3 = x1 ∧ (x1 = 0 → M3 156 0 = x2) then K M3 else none) 2251 (LL w b ii) [] M := by
  refine G_aload_n g (pc := 2251) 1 d_W_2251 rfl rfl ?_
  refine G_aload_n g (pc := 2252) 3 d_W_2252 rfl rfl ?_
  refine G_cSH g hnc (pc := 2253) (As := [.ref (wad w 0), .ref (wad w 156)]) (st := []) cs_L_329 (c_L_restoreSnapshot l hst hw M) rfl ⟨(Nat.le_of_ble_eq_true rfl), (Nat.le_of_ble_eq_true rfl)⟩ hC1 (Nat.le_of_ble_eq_true rfl) d_W_2253 (fun x1 M1 => ?_)
  refine G_istore g (pc := 2256) _ d_W_2256 (Nat.le_of_ble_eq_true rfl) rfl ?_
  refine G_aload_n g (pc := 2258) 3 d_W_2258 rfl rfl ?_
  refine G_cVI g (pc := 2259) (As := []) (st := []) cc_L_331 (c_M_restoreSnapshot l hw.2.1 M1) (hw.2.1.mm 145 (Nat.le_of_ble_eq_true rfl) (Nat.le_of_ble_eq_true rfl)) (hw.1.k rfl) rfl (by decide) rfl ⟨(Nat.le_of_ble_eq_true rfl), (Nat.le_of_ble_eq_true rfl)⟩ hC1 (Nat.le_of_ble_eq_true rfl) d_W_2259 (fun x2 M2 => ?_)
  refine G_istore g (pc := 2262) _ d_W_2262 (Nat.le_of_ble_eq_true rfl) rfl ?_
  refine G_aload_n g (pc := 2264) 4 d_W_2264 rfl rfl ?_
  refine G_cVI g (pc := 2265) (As := []) (st := []) cc_L_106 (c_M_thrown l hw.2.1 M2) (hw.2.1.mm 145 (Nat.le_of_ble_eq_true rfl) (Nat.le_of_ble_eq_true rfl)) (hw.1.k rfl) rfl (by decide) rfl ⟨(Nat.le_of_ble_eq_true rfl), (Nat.le_of_ble_eq_true rfl)⟩ hC1 (Nat.le_of_ble_eq_true rfl) d_W_2265 (fun x3 M3 => ?_)
  refine Go.ite (fun h12 => ?_)
  refine G_iload g (pc := 2268) 1 d_W_2268 rfl ?_
  refine H_cmpeq g (pc := 2270) 2275 d_W_2270 (by decide) h12.1 ?_
  refine G_iload g (pc := 2275) 1 d_W_2275 rfl ?_
  refine H_ifne g (pc := 2277) 2292 d_W_2277 (by decide) (fun h0 => ?_) (fun h0 => ?_)
  · refine G_goto g (pc := 2292) 2295 d_W_2292 (by decide) ?_
    refine G_sub [2, 3, 4, 5, 6, 7] _ rfl ?_
    exact hK _
  · refine G_aload_n g (pc := 2280) 5 d_W_2280 rfl rfl ?_
    refine G_iconst g (pc := 2281) (0 : Int32) d_W_2281 rfl ?_
    refine G_lald0 g (pc := 2282) hw.2.2.1 (hw.1.k rfl) d_W_2282 ?_
    refine G_iload g (pc := 2283) 0 d_W_2283 rfl ?_
    refine G_i2l g (pc := 2285) d_W_2285 ?_
    refine G_lcmp g (pc := 2286) (congrArg Int32.toInt64 (h12.2 h0)) d_W_2286 ?_
    refine H_ifeq g (pc := 2287) 2292 d_W_2287 (by decide) (fun _ => ?_) (fun h9 => Go.no (h9 rfl))
    refine G_goto g (pc := 2292) 2295 d_W_2292 (by decide) ?_
    refine G_sub [2, 3, 4, 5, 6, 7] _ rfl ?_
    exact hK _
