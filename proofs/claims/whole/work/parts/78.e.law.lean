/-! more cases -/
theorem d_W_1125 : decode code 1125 = .ok (.aload_n 1, 1) := by decide +kernel
theorem d_W_1126 : decode code 1126 = .ok (.invokevirtual 225, 3) := by decide +kernel
theorem d_W_1129 : decode code 1129 = .ok (.aload_n 2, 1) := by decide +kernel
theorem d_W_1130 : decode code 1130 = .ok (.invokevirtual 228, 3) := by decide +kernel
theorem d_W_1133 : decode code 1133 = .ok (.if_icmp .eq 1162, 3) := by decide +kernel
theorem cc_L_225 : CV "KiteLoggerLaw" 225 y_G_droppedCount b_G_droppedCount 1 (some .int) 0 := ⟨TT_in (i := 608) (by decide +kernel) (by decide +kernel), TT_in (i := 609) (by decide +kernel) (by decide +kernel), TT_in (i := 610) (by decide +kernel) (by decide +kernel), TT_in (i := 88) (by decide +kernel) (by decide +kernel), TT_in (i := 611) (by decide +kernel) (by decide +kernel), ⟨by decide +kernel, by decide +kernel, by decide +kernel⟩⟩
theorem cc_L_228 : CV "KiteLoggerLaw" 228 y_M_droppedCount b_M_droppedCount 1 (some .int) 0 := ⟨TT_in (i := 1600) (by decide +kernel) (by decide +kernel), TT_in (i := 1601) (by decide +kernel) (by decide +kernel), TT_in (i := 1602) (by decide +kernel) (by decide +kernel), TT_in (i := 100) (by decide +kernel) (by decide +kernel), TT_in (i := 1603) (by decide +kernel) (by decide +kernel), ⟨by decide +kernel, by decide +kernel, by decide +kernel⟩⟩
set_option maxHeartbeats 4000000 in
set_option maxRecDepth 100000 in
theorem k_32 (l : Launch) (hst : l.stackTraces = false) (N : Nat) {p : Program} {e : Env} {s : State} {m : MethodId} {args : Array Value} {below : List Frame} {meth : Method} {c : Code} {w : Wc} {k n b Lx ii : Nat} {xs : Nat → Int32} {Qf : Unit → State → Prop} {K : Mem → Option Unit} (g : Gd p s m args meth c w 10 code "KiteLoggerLaw") (hnc : va_Nc exS exI s) (hw : WL w) (hX : LX s w b Lx xs) (hii : ii + 6 ≤ Lx) (hC0 : k ≤ room_1.cells ∧ n ≤ room_1.slots) (hC1 : k + 1 ≤ room_1.cells ∧ n + 6 ≤ room_1.slots) (hK : ∀ M, Go p l e room_1 s m args below meth c w 10 (k + 1) (n + 6) Qf (K M) 2295 (LL w b ii) [] M) (M : Mem) : Go p l e room_1 s m args below meth c w 10 k n Qf  (bnd (f_G_droppedCount M) fun x1 M1 => bnd (f_M_droppedCount 146 M1) fun x2 M2 => if x1 = x2 then K M2 else none) 1125 (LL w b ii) [] M := by
  refine G_aload_n g (pc := 1125) 1 d_W_1125 rfl rfl ?_
  refine G_cVI g (pc := 1126) (As := []) (st := []) cc_L_225 (c_G_droppedCount l hw.1 M) (hw.1.2 0 (Nat.le_of_ble_eq_true rfl)) (hw.1.k rfl) rfl (by decide) rfl ⟨(Nat.le_of_ble_eq_true rfl), (Nat.le_of_ble_eq_true rfl)⟩ hC0 (Nat.le_of_ble_eq_true rfl) d_W_1126 (fun x1 M1 => ?_)
  refine G_aload_n g (pc := 1129) 2 d_W_1129 rfl rfl ?_
  refine G_cVI g (pc := 1130) (As := []) (st := [.int x1]) cc_L_228 (c_M_droppedCount l hw.2.1 M1) (hw.2.1.mm 145 (Nat.le_of_ble_eq_true rfl) (Nat.le_of_ble_eq_true rfl)) (hw.1.k rfl) rfl (by decide) rfl ⟨(Nat.le_of_ble_eq_true rfl), (Nat.le_of_ble_eq_true rfl)⟩ hC0 (Nat.le_of_ble_eq_true rfl) d_W_1130 (fun x2 M2 => ?_)
  refine Go.ite (fun h12 => ?_)
  refine H_cmpeq g (pc := 1133) 2295 d_W_1133 (by decide) h12 ?_
  exact Go.widen (Nat.le_succ _) (Nat.le_add_right _ _) (hK _)
theorem d_W_1138 : decode code 1138 = .ok (.aload_n 1, 1) := by decide +kernel
theorem d_W_1139 : decode code 1139 = .ok (.invokevirtual 229, 3) := by decide +kernel
theorem d_W_1142 : decode code 1142 = .ok (.aload_n 2, 1) := by decide +kernel
theorem d_W_1143 : decode code 1143 = .ok (.invokevirtual 232, 3) := by decide +kernel
theorem d_W_1146 : decode code 1146 = .ok (.if_icmp .eq 1149, 3) := by decide +kernel
theorem cc_L_229 : CV "KiteLoggerLaw" 229 y_G_archivedCount b_G_archivedCount 1 (some .int) 0 := ⟨TT_in (i := 612) (by decide +kernel) (by decide +kernel), TT_in (i := 613) (by decide +kernel) (by decide +kernel), TT_in (i := 614) (by decide +kernel) (by decide +kernel), TT_in (i := 88) (by decide +kernel) (by decide +kernel), TT_in (i := 615) (by decide +kernel) (by decide +kernel), ⟨by decide +kernel, by decide +kernel, by decide +kernel⟩⟩
theorem cc_L_232 : CV "KiteLoggerLaw" 232 y_M_archivedCount b_M_archivedCount 1 (some .int) 0 := ⟨TT_in (i := 1604) (by decide +kernel) (by decide +kernel), TT_in (i := 1605) (by decide +kernel) (by decide +kernel), TT_in (i := 1606) (by decide +kernel) (by decide +kernel), TT_in (i := 100) (by decide +kernel) (by decide +kernel), TT_in (i := 1607) (by decide +kernel) (by decide +kernel), ⟨by decide +kernel, by decide +kernel, by decide +kernel⟩⟩
set_option maxHeartbeats 4000000 in
set_option maxRecDepth 100000 in
theorem k_33 (l : Launch) (hst : l.stackTraces = false) (N : Nat) {p : Program} {e : Env} {s : State} {m : MethodId} {args : Array Value} {below : List Frame} {meth : Method} {c : Code} {w : Wc} {k n b Lx ii : Nat} {xs : Nat → Int32} {Qf : Unit → State → Prop} {K : Mem → Option Unit} (g : Gd p s m args meth c w 10 code "KiteLoggerLaw") (hnc : va_Nc exS exI s) (hw : WL w) (hX : LX s w b Lx xs) (hii : ii + 6 ≤ Lx) (hC0 : k ≤ room_1.cells ∧ n ≤ room_1.slots) (hC1 : k + 1 ≤ room_1.cells ∧ n + 6 ≤ room_1.slots) (hK : ∀ M, Go p l e room_1 s m args below meth c w 10 (k + 1) (n + 6) Qf (K M) 2295 (LL w b ii) [] M) (M : Mem) : Go p l e room_1 s m args below meth c w 10 k n Qf  (bnd (f_G_archivedCount M) fun x1 M1 => bnd (f_M_archivedCount 146 M1) fun x2 M2 => if x1 = x2 then K M2 else none) 1138 (LL w b ii) [] M := by
  refine G_aload_n g (pc := 1138) 1 d_W_1138 rfl rfl ?_
  refine G_cVI g (pc := 1139) (As := []) (st := []) cc_L_229 (c_G_archivedCount l hw.1 M) (hw.1.2 0 (Nat.le_of_ble_eq_true rfl)) (hw.1.k rfl) rfl (by decide) rfl ⟨(Nat.le_of_ble_eq_true rfl), (Nat.le_of_ble_eq_true rfl)⟩ hC0 (Nat.le_of_ble_eq_true rfl) d_W_1139 (fun x1 M1 => ?_)
  refine G_aload_n g (pc := 1142) 2 d_W_1142 rfl rfl ?_
  refine G_cVI g (pc := 1143) (As := []) (st := [.int x1]) cc_L_232 (c_M_archivedCount l hw.2.1 M1) (hw.2.1.mm 145 (Nat.le_of_ble_eq_true rfl) (Nat.le_of_ble_eq_true rfl)) (hw.1.k rfl) rfl (by decide) rfl ⟨(Nat.le_of_ble_eq_true rfl), (Nat.le_of_ble_eq_true rfl)⟩ hC0 (Nat.le_of_ble_eq_true rfl) d_W_1143 (fun x2 M2 => ?_)
  refine Go.ite (fun h12 => ?_)
  refine H_cmpeq g (pc := 1146) 2295 d_W_1146 (by decide) h12 ?_
  exact Go.widen (Nat.le_succ _) (Nat.le_add_right _ _) (hK _)
theorem d_W_1151 : decode code 1151 = .ok (.aload_n 1, 1) := by decide +kernel
theorem d_W_1152 : decode code 1152 = .ok (.aload_n 0, 1) := by decide +kernel
theorem d_W_1153 : decode code 1153 = .ok (.iload 5, 2) := by decide +kernel
theorem d_W_1155 : decode code 1155 = .ok (.iconst 1, 1) := by decide +kernel
theorem d_W_1156 : decode code 1156 = .ok (.iadd, 1) := by decide +kernel
theorem d_W_1157 : decode code 1157 = .ok (.iaload, 1) := by decide +kernel
theorem d_W_1158 : decode code 1158 = .ok (.aload_n 3, 1) := by decide +kernel
theorem d_W_1159 : decode code 1159 = .ok (.invokestatic 233, 3) := by decide +kernel
theorem d_W_1162 : decode code 1162 = .ok (.istore 6, 2) := by decide +kernel
theorem d_W_1164 : decode code 1164 = .ok (.aload_n 2, 1) := by decide +kernel
theorem d_W_1165 : decode code 1165 = .ok (.aload_n 0, 1) := by decide +kernel
theorem d_W_1166 : decode code 1166 = .ok (.iload 5, 2) := by decide +kernel
theorem d_W_1168 : decode code 1168 = .ok (.iconst 1, 1) := by decide +kernel
theorem d_W_1169 : decode code 1169 = .ok (.iadd, 1) := by decide +kernel
theorem d_W_1170 : decode code 1170 = .ok (.iaload, 1) := by decide +kernel
theorem d_W_1171 : decode code 1171 = .ok (.invokevirtual 235, 3) := by decide +kernel
theorem d_W_1174 : decode code 1174 = .ok (.istore 7, 2) := by decide +kernel
theorem d_W_1176 : decode code 1176 = .ok (.aload_n 2, 1) := by decide +kernel
theorem d_W_1177 : decode code 1177 = .ok (.invokevirtual 106, 3) := by decide +kernel
theorem d_W_1180 : decode code 1180 = .ok (.iload 6, 2) := by decide +kernel
theorem d_W_1182 : decode code 1182 = .ok (.if_icmp .eq 5, 3) := by decide +kernel
theorem d_W_1187 : decode code 1187 = .ok (.iload 6, 2) := by decide +kernel
theorem d_W_1189 : decode code 1189 = .ok (.ifCond .ne 15, 3) := by decide +kernel
theorem d_W_1192 : decode code 1192 = .ok (.aload_n 3, 1) := by decide +kernel
theorem d_W_1193 : decode code 1193 = .ok (.iconst 0, 1) := by decide +kernel
theorem d_W_1194 : decode code 1194 = .ok (.laload, 1) := by decide +kernel
theorem d_W_1195 : decode code 1195 = .ok (.iload 7, 2) := by decide +kernel
theorem d_W_1197 : decode code 1197 = .ok (.i2l, 1) := by decide +kernel
theorem d_W_1198 : decode code 1198 = .ok (.lcmp, 1) := by decide +kernel
theorem d_W_1199 : decode code 1199 = .ok (.ifCond .eq 5, 3) := by decide +kernel
theorem d_W_1204 : decode code 1204 = .ok (.goto 1091, 3) := by decide +kernel
theorem cs_L_233 : CSH "KiteLoggerLaw" 233 y_L_archivedTick b_L_archivedTick 4 [(0, 9, 12, 27)] 3 := ⟨TT_in (i := 1049) (by decide +kernel) (by decide +kernel), TT_in (i := 1050) (by decide +kernel) (by decide +kernel), TT_in (i := 87) (by decide +kernel) (by decide +kernel), TT_in (i := 1051) (by decide +kernel) (by decide +kernel), ⟨by decide +kernel, by decide +kernel, by decide +kernel⟩⟩
theorem cc_L_235 : CV "KiteLoggerLaw" 235 y_M_archivedTick b_M_archivedTick 2 (some .int) 1 := ⟨TT_in (i := 1608) (by decide +kernel) (by decide +kernel), TT_in (i := 1609) (by decide +kernel) (by decide +kernel), TT_in (i := 1610) (by decide +kernel) (by decide +kernel), TT_in (i := 100) (by decide +kernel) (by decide +kernel), TT_in (i := 1611) (by decide +kernel) (by decide +kernel), ⟨by decide +kernel, by decide +kernel, by decide +kernel⟩⟩
set_option maxHeartbeats 4000000 in
set_option maxRecDepth 100000 in
theorem k_34 (l : Launch) (hst : l.stackTraces = false) (N : Nat) {p : Program} {e : Env} {s : State} {m : MethodId} {args : Array Value} {below : List Frame} {meth : Method} {c : Code} {w : Wc} {k n b Lx ii : Nat} {xs : Nat → Int32} {Qf : Unit → State → Prop} {K : Mem → Option Unit} (g : Gd p s m args meth c w 10 code "KiteLoggerLaw") (hnc : va_Nc exS exI s) (hw : WL w) (hX : LX s w b Lx xs) (hii : ii + 6 ≤ Lx) (hC0 : k ≤ room_1.cells ∧ n ≤ room_1.slots) (hC1 : k + 1 ≤ room_1.cells ∧ n + 6 ≤ room_1.slots) (hK : ∀ M, Go p l e room_1 s m args below meth c w 10 (k + 1) (n + 6) Qf (K M) 2295 (LL w b ii) [] M) (M : Mem) : Go p l e room_1 s m args below meth c w 10 k n Qf  (bnd (lwW [(2, 1)] (f_G_archivedTick (xs (ii + 1)) M)) fun x1 M1 => bnd (f_M_archivedTick 146 (xs (ii + 1)) M1) fun x2 M2 => bnd (f_M_thrown M2) fun x3 M3 => if x3 = x1 ∧ (x1 = 0 → M3 156 0 = x2) then K M3 else none) 1151 (LL w b ii) [] M := by
  refine G_aload_n g (pc := 1151) 1 d_W_1151 rfl rfl ?_
  refine G_arg g (pc := 1152) hX (j := 1) (j0 := 0) (j5 := 5) hii (by decide) rfl rfl d_W_1152 d_W_1153 d_W_1155 rfl d_W_1156 d_W_1157 ?_
  refine G_aload_n g (pc := 1158) 3 d_W_1158 rfl rfl ?_
  refine G_cSH g hnc (pc := 1159) (As := [.ref (wad w 0), .int (xs (ii + 1)), .ref (wad w 156)]) (st := []) cs_L_233 (c_L_archivedTick l hst hw (xs (ii + 1)) M) rfl ⟨(Nat.le_of_ble_eq_true rfl), (Nat.le_of_ble_eq_true rfl)⟩ hC1 (Nat.le_of_ble_eq_true rfl) d_W_1159 (fun x1 M1 => ?_)
  refine G_istore g (pc := 1162) _ d_W_1162 (Nat.le_of_ble_eq_true rfl) rfl ?_
  refine G_aload_n g (pc := 1164) 3 d_W_1164 rfl rfl ?_
  refine G_arg g (pc := 1165) hX (j := 1) (j0 := 1) (j5 := 6) hii (by decide) rfl rfl d_W_1165 d_W_1166 d_W_1168 rfl d_W_1169 d_W_1170 ?_
  refine G_cVI g (pc := 1171) (As := [.int (xs (ii + 1))]) (st := []) cc_L_235 (c_M_archivedTick l hw.2.1 (xs (ii + 1)) M1) (hw.2.1.mm 145 (Nat.le_of_ble_eq_true rfl) (Nat.le_of_ble_eq_true rfl)) (hw.1.k rfl) rfl (by decide) rfl ⟨(Nat.le_of_ble_eq_true rfl), (Nat.le_of_ble_eq_true rfl)⟩ hC1 (Nat.le_of_ble_eq_true rfl) d_W_1171 (fun x2 M2 => ?_)
  refine G_istore g (pc := 1174) _ d_W_1174 (Nat.le_of_ble_eq_true rfl) rfl ?_
  refine G_aload_n g (pc := 1176) 4 d_W_1176 rfl rfl ?_
  refine G_cVI g (pc := 1177) (As := []) (st := []) cc_L_106 (c_M_thrown l hw.2.1 M2) (hw.2.1.mm 145 (Nat.le_of_ble_eq_true rfl) (Nat.le_of_ble_eq_true rfl)) (hw.1.k rfl) rfl (by decide) rfl ⟨(Nat.le_of_ble_eq_true rfl), (Nat.le_of_ble_eq_true rfl)⟩ hC1 (Nat.le_of_ble_eq_true rfl) d_W_1177 (fun x3 M3 => ?_)
  refine Go.ite (fun h12 => ?_)
  refine G_iload g (pc := 1180) 1 d_W_1180 rfl ?_
  refine H_cmpeq g (pc := 1182) 1187 d_W_1182 (by decide) h12.1 ?_
  refine G_iload g (pc := 1187) 1 d_W_1187 rfl ?_
  refine H_ifne g (pc := 1189) 1204 d_W_1189 (by decide) (fun h0 => ?_) (fun h0 => ?_)
  · refine G_goto g (pc := 1204) 2295 d_W_1204 (by decide) ?_
    refine G_sub [2, 3, 4, 5, 6, 7] _ rfl ?_
    exact hK _
  · refine G_aload_n g (pc := 1192) 5 d_W_1192 rfl rfl ?_
    refine G_iconst g (pc := 1193) (0 : Int32) d_W_1193 rfl ?_
    refine G_lald0 g (pc := 1194) hw.2.2.1 (hw.1.k rfl) d_W_1194 ?_
    refine G_iload g (pc := 1195) 0 d_W_1195 rfl ?_
    refine G_i2l g (pc := 1197) d_W_1197 ?_
    refine G_lcmp g (pc := 1198) (congrArg Int32.toInt64 (h12.2 h0)) d_W_1198 ?_
    refine H_ifeq g (pc := 1199) 1204 d_W_1199 (by decide) (fun _ => ?_) (fun h9 => Go.no (h9 rfl))
    refine G_goto g (pc := 1204) 2295 d_W_1204 (by decide) ?_
    refine G_sub [2, 3, 4, 5, 6, 7] _ rfl ?_
    exact hK _
theorem d_W_1207 : decode code 1207 = .ok (.aload_n 1, 1) := by decide +kernel
theorem d_W_1208 : decode code 1208 = .ok (.aload_n 0, 1) := by decide +kernel
theorem d_W_1209 : decode code 1209 = .ok (.iload 5, 2) := by decide +kernel
theorem d_W_1211 : decode code 1211 = .ok (.iconst 1, 1) := by decide +kernel
theorem d_W_1212 : decode code 1212 = .ok (.iadd, 1) := by decide +kernel
theorem d_W_1213 : decode code 1213 = .ok (.iaload, 1) := by decide +kernel
theorem d_W_1214 : decode code 1214 = .ok (.aload_n 3, 1) := by decide +kernel
theorem d_W_1215 : decode code 1215 = .ok (.invokestatic 236, 3) := by decide +kernel
theorem d_W_1218 : decode code 1218 = .ok (.istore 6, 2) := by decide +kernel
theorem d_W_1220 : decode code 1220 = .ok (.aload_n 2, 1) := by decide +kernel
theorem d_W_1221 : decode code 1221 = .ok (.aload_n 0, 1) := by decide +kernel
theorem d_W_1222 : decode code 1222 = .ok (.iload 5, 2) := by decide +kernel
theorem d_W_1224 : decode code 1224 = .ok (.iconst 1, 1) := by decide +kernel
theorem d_W_1225 : decode code 1225 = .ok (.iadd, 1) := by decide +kernel
theorem d_W_1226 : decode code 1226 = .ok (.iaload, 1) := by decide +kernel
theorem d_W_1227 : decode code 1227 = .ok (.invokevirtual 238, 3) := by decide +kernel
theorem d_W_1230 : decode code 1230 = .ok (.istore 7, 2) := by decide +kernel
theorem d_W_1232 : decode code 1232 = .ok (.aload_n 2, 1) := by decide +kernel
theorem d_W_1233 : decode code 1233 = .ok (.invokevirtual 106, 3) := by decide +kernel
theorem d_W_1236 : decode code 1236 = .ok (.iload 6, 2) := by decide +kernel
theorem d_W_1238 : decode code 1238 = .ok (.if_icmp .eq 5, 3) := by decide +kernel
theorem d_W_1243 : decode code 1243 = .ok (.iload 6, 2) := by decide +kernel
theorem d_W_1245 : decode code 1245 = .ok (.ifCond .ne 15, 3) := by decide +kernel
theorem d_W_1248 : decode code 1248 = .ok (.aload_n 3, 1) := by decide +kernel
theorem d_W_1249 : decode code 1249 = .ok (.iconst 0, 1) := by decide +kernel
theorem d_W_1250 : decode code 1250 = .ok (.laload, 1) := by decide +kernel
theorem d_W_1251 : decode code 1251 = .ok (.iload 7, 2) := by decide +kernel
theorem d_W_1253 : decode code 1253 = .ok (.i2l, 1) := by decide +kernel
theorem d_W_1254 : decode code 1254 = .ok (.lcmp, 1) := by decide +kernel
theorem d_W_1255 : decode code 1255 = .ok (.ifCond .eq 5, 3) := by decide +kernel
theorem d_W_1260 : decode code 1260 = .ok (.goto 1035, 3) := by decide +kernel
theorem cs_L_236 : CSH "KiteLoggerLaw" 236 y_L_archivedHeight b_L_archivedHeight 4 [(0, 9, 12, 27)] 3 := ⟨TT_in (i := 1056) (by decide +kernel) (by decide +kernel), TT_in (i := 1057) (by decide +kernel) (by decide +kernel), TT_in (i := 87) (by decide +kernel) (by decide +kernel), TT_in (i := 1058) (by decide +kernel) (by decide +kernel), ⟨by decide +kernel, by decide +kernel, by decide +kernel⟩⟩
theorem cc_L_238 : CV "KiteLoggerLaw" 238 y_M_archivedHeight b_M_archivedHeight 2 (some .int) 1 := ⟨TT_in (i := 1620) (by decide +kernel) (by decide +kernel), TT_in (i := 1621) (by decide +kernel) (by decide +kernel), TT_in (i := 1622) (by decide +kernel) (by decide +kernel), TT_in (i := 100) (by decide +kernel) (by decide +kernel), TT_in (i := 1623) (by decide +kernel) (by decide +kernel), ⟨by decide +kernel, by decide +kernel, by decide +kernel⟩⟩
set_option maxHeartbeats 4000000 in
set_option maxRecDepth 100000 in
theorem k_35 (l : Launch) (hst : l.stackTraces = false) (N : Nat) {p : Program} {e : Env} {s : State} {m : MethodId} {args : Array Value} {below : List Frame} {meth : Method} {c : Code} {w : Wc} {k n b Lx ii : Nat} {xs : Nat → Int32} {Qf : Unit → State → Prop} {K : Mem → Option Unit} (g : Gd p s m args meth c w 10 code "KiteLoggerLaw") (hnc : va_Nc exS exI s) (hw : WL w) (hX : LX s w b Lx xs) (hii : ii + 6 ≤ Lx) (hC0 : k ≤ room_1.cells ∧ n ≤ room_1.slots) (hC1 : k + 1 ≤ room_1.cells ∧ n + 6 ≤ room_1.slots) (hK : ∀ M, Go p l e room_1 s m args below meth c w 10 (k + 1) (n + 6) Qf (K M) 2295 (LL w b ii) [] M) (M : Mem) : Go p l e room_1 s m args below meth c w 10 k n Qf  (bnd (lwW [(2, 1)] (f_G_archivedHeight (xs (ii + 1)) M)) fun x1 M1 => bnd (f_M_archivedHeight 146 (xs (ii + 1)) M1) fun x2 M2 => bnd (f_M_thrown M2) fun x3 M3 => if x3 = x1 ∧ (x1 = 0 → M3 156 0 = x2) then K M3 else none) 1207 (LL w b ii) [] M := by
  refine G_aload_n g (pc := 1207) 1 d_W_1207 rfl rfl ?_
  refine G_arg g (pc := 1208) hX (j := 1) (j0 := 0) (j5 := 5) hii (by decide) rfl rfl d_W_1208 d_W_1209 d_W_1211 rfl d_W_1212 d_W_1213 ?_
  refine G_aload_n g (pc := 1214) 3 d_W_1214 rfl rfl ?_
  refine G_cSH g hnc (pc := 1215) (As := [.ref (wad w 0), .int (xs (ii + 1)), .ref (wad w 156)]) (st := []) cs_L_236 (c_L_archivedHeight l hst hw (xs (ii + 1)) M) rfl ⟨(Nat.le_of_ble_eq_true rfl), (Nat.le_of_ble_eq_true rfl)⟩ hC1 (Nat.le_of_ble_eq_true rfl) d_W_1215 (fun x1 M1 => ?_)
  refine G_istore g (pc := 1218) _ d_W_1218 (Nat.le_of_ble_eq_true rfl) rfl ?_
  refine G_aload_n g (pc := 1220) 3 d_W_1220 rfl rfl ?_
  refine G_arg g (pc := 1221) hX (j := 1) (j0 := 1) (j5 := 6) hii (by decide) rfl rfl d_W_1221 d_W_1222 d_W_1224 rfl d_W_1225 d_W_1226 ?_
  refine G_cVI g (pc := 1227) (As := [.int (xs (ii + 1))]) (st := []) cc_L_238 (c_M_archivedHeight l hw.2.1 (xs (ii + 1)) M1) (hw.2.1.mm 145 (Nat.le_of_ble_eq_true rfl) (Nat.le_of_ble_eq_true rfl)) (hw.1.k rfl) rfl (by decide) rfl ⟨(Nat.le_of_ble_eq_true rfl), (Nat.le_of_ble_eq_true rfl)⟩ hC1 (Nat.le_of_ble_eq_true rfl) d_W_1227 (fun x2 M2 => ?_)
  refine G_istore g (pc := 1230) _ d_W_1230 (Nat.le_of_ble_eq_true rfl) rfl ?_
  refine G_aload_n g (pc := 1232) 4 d_W_1232 rfl rfl ?_
  refine G_cVI g (pc := 1233) (As := []) (st := []) cc_L_106 (c_M_thrown l hw.2.1 M2) (hw.2.1.mm 145 (Nat.le_of_ble_eq_true rfl) (Nat.le_of_ble_eq_true rfl)) (hw.1.k rfl) rfl (by decide) rfl ⟨(Nat.le_of_ble_eq_true rfl), (Nat.le_of_ble_eq_true rfl)⟩ hC1 (Nat.le_of_ble_eq_true rfl) d_W_1233 (fun x3 M3 => ?_)
  refine Go.ite (fun h12 => ?_)
  refine G_iload g (pc := 1236) 1 d_W_1236 rfl ?_
  refine H_cmpeq g (pc := 1238) 1243 d_W_1238 (by decide) h12.1 ?_
  refine G_iload g (pc := 1243) 1 d_W_1243 rfl ?_
  refine H_ifne g (pc := 1245) 1260 d_W_1245 (by decide) (fun h0 => ?_) (fun h0 => ?_)
  · refine G_goto g (pc := 1260) 2295 d_W_1260 (by decide) ?_
    refine G_sub [2, 3, 4, 5, 6, 7] _ rfl ?_
    exact hK _
  · refine G_aload_n g (pc := 1248) 5 d_W_1248 rfl rfl ?_
    refine G_iconst g (pc := 1249) (0 : Int32) d_W_1249 rfl ?_
    refine G_lald0 g (pc := 1250) hw.2.2.1 (hw.1.k rfl) d_W_1250 ?_
    refine G_iload g (pc := 1251) 0 d_W_1251 rfl ?_
    refine G_i2l g (pc := 1253) d_W_1253 ?_
    refine G_lcmp g (pc := 1254) (congrArg Int32.toInt64 (h12.2 h0)) d_W_1254 ?_
    refine H_ifeq g (pc := 1255) 1260 d_W_1255 (by decide) (fun _ => ?_) (fun h9 => Go.no (h9 rfl))
    refine G_goto g (pc := 1260) 2295 d_W_1260 (by decide) ?_
    refine G_sub [2, 3, 4, 5, 6, 7] _ rfl ?_
    exact hK _
theorem d_W_1263 : decode code 1263 = .ok (.aload_n 1, 1) := by decide +kernel
theorem d_W_1264 : decode code 1264 = .ok (.aload_n 0, 1) := by decide +kernel
theorem d_W_1265 : decode code 1265 = .ok (.iload 5, 2) := by decide +kernel
theorem d_W_1267 : decode code 1267 = .ok (.iconst 1, 1) := by decide +kernel
theorem d_W_1268 : decode code 1268 = .ok (.iadd, 1) := by decide +kernel
theorem d_W_1269 : decode code 1269 = .ok (.iaload, 1) := by decide +kernel
theorem d_W_1270 : decode code 1270 = .ok (.aload_n 3, 1) := by decide +kernel
theorem d_W_1271 : decode code 1271 = .ok (.invokestatic 239, 3) := by decide +kernel
theorem d_W_1274 : decode code 1274 = .ok (.istore 6, 2) := by decide +kernel
theorem d_W_1276 : decode code 1276 = .ok (.aload_n 2, 1) := by decide +kernel
theorem d_W_1277 : decode code 1277 = .ok (.aload_n 0, 1) := by decide +kernel
theorem d_W_1278 : decode code 1278 = .ok (.iload 5, 2) := by decide +kernel
theorem d_W_1280 : decode code 1280 = .ok (.iconst 1, 1) := by decide +kernel
theorem d_W_1281 : decode code 1281 = .ok (.iadd, 1) := by decide +kernel
theorem d_W_1282 : decode code 1282 = .ok (.iaload, 1) := by decide +kernel
theorem d_W_1283 : decode code 1283 = .ok (.invokevirtual 241, 3) := by decide +kernel
theorem d_W_1286 : decode code 1286 = .ok (.istore 7, 2) := by decide +kernel
theorem d_W_1288 : decode code 1288 = .ok (.aload_n 2, 1) := by decide +kernel
theorem d_W_1289 : decode code 1289 = .ok (.invokevirtual 106, 3) := by decide +kernel
theorem d_W_1292 : decode code 1292 = .ok (.iload 6, 2) := by decide +kernel
theorem d_W_1294 : decode code 1294 = .ok (.if_icmp .eq 5, 3) := by decide +kernel
theorem d_W_1299 : decode code 1299 = .ok (.iload 6, 2) := by decide +kernel
theorem d_W_1301 : decode code 1301 = .ok (.ifCond .ne 15, 3) := by decide +kernel
theorem d_W_1304 : decode code 1304 = .ok (.aload_n 3, 1) := by decide +kernel
theorem d_W_1305 : decode code 1305 = .ok (.iconst 0, 1) := by decide +kernel
theorem d_W_1306 : decode code 1306 = .ok (.laload, 1) := by decide +kernel
theorem d_W_1307 : decode code 1307 = .ok (.iload 7, 2) := by decide +kernel
theorem d_W_1309 : decode code 1309 = .ok (.i2l, 1) := by decide +kernel
theorem d_W_1310 : decode code 1310 = .ok (.lcmp, 1) := by decide +kernel
theorem d_W_1311 : decode code 1311 = .ok (.ifCond .eq 5, 3) := by decide +kernel
theorem d_W_1316 : decode code 1316 = .ok (.goto 979, 3) := by decide +kernel
theorem cs_L_239 : CSH "KiteLoggerLaw" 239 y_L_archivedGust b_L_archivedGust 4 [(0, 9, 12, 27)] 3 := ⟨TT_in (i := 1063) (by decide +kernel) (by decide +kernel), TT_in (i := 1064) (by decide +kernel) (by decide +kernel), TT_in (i := 87) (by decide +kernel) (by decide +kernel), TT_in (i := 1065) (by decide +kernel) (by decide +kernel), ⟨by decide +kernel, by decide +kernel, by decide +kernel⟩⟩
theorem cc_L_241 : CV "KiteLoggerLaw" 241 y_M_archivedGust b_M_archivedGust 2 (some .int) 1 := ⟨TT_in (i := 1624) (by decide +kernel) (by decide +kernel), TT_in (i := 1625) (by decide +kernel) (by decide +kernel), TT_in (i := 1626) (by decide +kernel) (by decide +kernel), TT_in (i := 100) (by decide +kernel) (by decide +kernel), TT_in (i := 1627) (by decide +kernel) (by decide +kernel), ⟨by decide +kernel, by decide +kernel, by decide +kernel⟩⟩
set_option maxHeartbeats 4000000 in
set_option maxRecDepth 100000 in
theorem k_36 (l : Launch) (hst : l.stackTraces = false) (N : Nat) {p : Program} {e : Env} {s : State} {m : MethodId} {args : Array Value} {below : List Frame} {meth : Method} {c : Code} {w : Wc} {k n b Lx ii : Nat} {xs : Nat → Int32} {Qf : Unit → State → Prop} {K : Mem → Option Unit} (g : Gd p s m args meth c w 10 code "KiteLoggerLaw") (hnc : va_Nc exS exI s) (hw : WL w) (hX : LX s w b Lx xs) (hii : ii + 6 ≤ Lx) (hC0 : k ≤ room_1.cells ∧ n ≤ room_1.slots) (hC1 : k + 1 ≤ room_1.cells ∧ n + 6 ≤ room_1.slots) (hK : ∀ M, Go p l e room_1 s m args below meth c w 10 (k + 1) (n + 6) Qf (K M) 2295 (LL w b ii) [] M) (M : Mem) : Go p l e room_1 s m args below meth c w 10 k n Qf  (bnd (lwW [(2, 1)] (f_G_archivedGust (xs (ii + 1)) M)) fun x1 M1 => bnd (f_M_archivedGust 146 (xs (ii + 1)) M1) fun x2 M2 => bnd (f_M_thrown M2) fun x3 M3 => if x3 = x1 ∧ (x1 = 0 → M3 156 0 = x2) then K M3 else none) 1263 (LL w b ii) [] M := by
  refine G_aload_n g (pc := 1263) 1 d_W_1263 rfl rfl ?_
  refine G_arg g (pc := 1264) hX (j := 1) (j0 := 0) (j5 := 5) hii (by decide) rfl rfl d_W_1264 d_W_1265 d_W_1267 rfl d_W_1268 d_W_1269 ?_
  refine G_aload_n g (pc := 1270) 3 d_W_1270 rfl rfl ?_
  refine G_cSH g hnc (pc := 1271) (As := [.ref (wad w 0), .int (xs (ii + 1)), .ref (wad w 156)]) (st := []) cs_L_239 (c_L_archivedGust l hst hw (xs (ii + 1)) M) rfl ⟨(Nat.le_of_ble_eq_true rfl), (Nat.le_of_ble_eq_true rfl)⟩ hC1 (Nat.le_of_ble_eq_true rfl) d_W_1271 (fun x1 M1 => ?_)
  refine G_istore g (pc := 1274) _ d_W_1274 (Nat.le_of_ble_eq_true rfl) rfl ?_
  refine G_aload_n g (pc := 1276) 3 d_W_1276 rfl rfl ?_
  refine G_arg g (pc := 1277) hX (j := 1) (j0 := 1) (j5 := 6) hii (by decide) rfl rfl d_W_1277 d_W_1278 d_W_1280 rfl d_W_1281 d_W_1282 ?_
  refine G_cVI g (pc := 1283) (As := [.int (xs (ii + 1))]) (st := []) cc_L_241 (c_M_archivedGust l hw.2.1 (xs (ii + 1)) M1) (hw.2.1.mm 145 (Nat.le_of_ble_eq_true rfl) (Nat.le_of_ble_eq_true rfl)) (hw.1.k rfl) rfl (by decide) rfl ⟨(Nat.le_of_ble_eq_true rfl), (Nat.le_of_ble_eq_true rfl)⟩ hC1 (Nat.le_of_ble_eq_true rfl) d_W_1283 (fun x2 M2 => ?_)
  refine G_istore g (pc := 1286) _ d_W_1286 (Nat.le_of_ble_eq_true rfl) rfl ?_
  refine G_aload_n g (pc := 1288) 4 d_W_1288 rfl rfl ?_
  refine G_cVI g (pc := 1289) (As := []) (st := []) cc_L_106 (c_M_thrown l hw.2.1 M2) (hw.2.1.mm 145 (Nat.le_of_ble_eq_true rfl) (Nat.le_of_ble_eq_true rfl)) (hw.1.k rfl) rfl (by decide) rfl ⟨(Nat.le_of_ble_eq_true rfl), (Nat.le_of_ble_eq_true rfl)⟩ hC1 (Nat.le_of_ble_eq_true rfl) d_W_1289 (fun x3 M3 => ?_)
  refine Go.ite (fun h12 => ?_)
  refine G_iload g (pc := 1292) 1 d_W_1292 rfl ?_
  refine H_cmpeq g (pc := 1294) 1299 d_W_1294 (by decide) h12.1 ?_
  refine G_iload g (pc := 1299) 1 d_W_1299 rfl ?_
  refine H_ifne g (pc := 1301) 1316 d_W_1301 (by decide) (fun h0 => ?_) (fun h0 => ?_)
  · refine G_goto g (pc := 1316) 2295 d_W_1316 (by decide) ?_
    refine G_sub [2, 3, 4, 5, 6, 7] _ rfl ?_
    exact hK _
  · refine G_aload_n g (pc := 1304) 5 d_W_1304 rfl rfl ?_
    refine G_iconst g (pc := 1305) (0 : Int32) d_W_1305 rfl ?_
    refine G_lald0 g (pc := 1306) hw.2.2.1 (hw.1.k rfl) d_W_1306 ?_
    refine G_iload g (pc := 1307) 0 d_W_1307 rfl ?_
    refine G_i2l g (pc := 1309) d_W_1309 ?_
    refine G_lcmp g (pc := 1310) (congrArg Int32.toInt64 (h12.2 h0)) d_W_1310 ?_
    refine H_ifeq g (pc := 1311) 1316 d_W_1311 (by decide) (fun _ => ?_) (fun h9 => Go.no (h9 rfl))
    refine G_goto g (pc := 1316) 2295 d_W_1316 (by decide) ?_
    refine G_sub [2, 3, 4, 5, 6, 7] _ rfl ?_
    exact hK _
theorem d_W_1319 : decode code 1319 = .ok (.aload_n 1, 1) := by decide +kernel
theorem d_W_1320 : decode code 1320 = .ok (.aload_n 0, 1) := by decide +kernel
theorem d_W_1321 : decode code 1321 = .ok (.iload 5, 2) := by decide +kernel
theorem d_W_1323 : decode code 1323 = .ok (.iconst 1, 1) := by decide +kernel
theorem d_W_1324 : decode code 1324 = .ok (.iadd, 1) := by decide +kernel
theorem d_W_1325 : decode code 1325 = .ok (.iaload, 1) := by decide +kernel
theorem d_W_1326 : decode code 1326 = .ok (.aload_n 0, 1) := by decide +kernel
theorem d_W_1327 : decode code 1327 = .ok (.iload 5, 2) := by decide +kernel
theorem d_W_1329 : decode code 1329 = .ok (.iconst 2, 1) := by decide +kernel
theorem d_W_1330 : decode code 1330 = .ok (.iadd, 1) := by decide +kernel
theorem d_W_1331 : decode code 1331 = .ok (.iaload, 1) := by decide +kernel
theorem d_W_1332 : decode code 1332 = .ok (.invokevirtual 242, 3) := by decide +kernel
theorem d_W_1335 : decode code 1335 = .ok (.aload_n 2, 1) := by decide +kernel
theorem d_W_1336 : decode code 1336 = .ok (.aload_n 0, 1) := by decide +kernel
theorem d_W_1337 : decode code 1337 = .ok (.iload 5, 2) := by decide +kernel
theorem d_W_1339 : decode code 1339 = .ok (.iconst 1, 1) := by decide +kernel
theorem d_W_1340 : decode code 1340 = .ok (.iadd, 1) := by decide +kernel
theorem d_W_1341 : decode code 1341 = .ok (.iaload, 1) := by decide +kernel
theorem d_W_1342 : decode code 1342 = .ok (.aload_n 0, 1) := by decide +kernel
theorem d_W_1343 : decode code 1343 = .ok (.iload 5, 2) := by decide +kernel
theorem d_W_1345 : decode code 1345 = .ok (.iconst 2, 1) := by decide +kernel
theorem d_W_1346 : decode code 1346 = .ok (.iadd, 1) := by decide +kernel
theorem d_W_1347 : decode code 1347 = .ok (.iaload, 1) := by decide +kernel
theorem d_W_1348 : decode code 1348 = .ok (.invokevirtual 245, 3) := by decide +kernel
theorem d_W_1351 : decode code 1351 = .ok (.if_icmp .eq 944, 3) := by decide +kernel
theorem cc_L_242 : CV "KiteLoggerLaw" 242 y_G_archivedBetween b_G_archivedBetween 3 (some .int) 2 := ⟨TT_in (i := 616) (by decide +kernel) (by decide +kernel), TT_in (i := 617) (by decide +kernel) (by decide +kernel), TT_in (i := 618) (by decide +kernel) (by decide +kernel), TT_in (i := 88) (by decide +kernel) (by decide +kernel), TT_in (i := 619) (by decide +kernel) (by decide +kernel), ⟨by decide +kernel, by decide +kernel, by decide +kernel⟩⟩
theorem cc_L_245 : CV "KiteLoggerLaw" 245 y_M_archivedBetween b_M_archivedBetween 3 (some .int) 2 := ⟨TT_in (i := 1628) (by decide +kernel) (by decide +kernel), TT_in (i := 1629) (by decide +kernel) (by decide +kernel), TT_in (i := 1630) (by decide +kernel) (by decide +kernel), TT_in (i := 100) (by decide +kernel) (by decide +kernel), TT_in (i := 1631) (by decide +kernel) (by decide +kernel), ⟨by decide +kernel, by decide +kernel, by decide +kernel⟩⟩
set_option maxHeartbeats 4000000 in
set_option maxRecDepth 100000 in
theorem k_37 (l : Launch) (hst : l.stackTraces = false) (N : Nat) {p : Program} {e : Env} {s : State} {m : MethodId} {args : Array Value} {below : List Frame} {meth : Method} {c : Code} {w : Wc} {k n b Lx ii : Nat} {xs : Nat → Int32} {Qf : Unit → State → Prop} {K : Mem → Option Unit} (g : Gd p s m args meth c w 10 code "KiteLoggerLaw") (hnc : va_Nc exS exI s) (hw : WL w) (hX : LX s w b Lx xs) (hii : ii + 6 ≤ Lx) (hC0 : k ≤ room_1.cells ∧ n ≤ room_1.slots) (hC1 : k + 1 ≤ room_1.cells ∧ n + 6 ≤ room_1.slots) (hK : ∀ M, Go p l e room_1 s m args below meth c w 10 (k + 1) (n + 6) Qf (K M) 2295 (LL w b ii) [] M) (M : Mem) : Go p l e room_1 s m args below meth c w 10 k n Qf  (bnd (f_G_archivedBetween N 146 (xs (ii + 1)) (xs (ii + 2)) M) fun x1 M1 => bnd (f_M_archivedBetween N 146 (xs (ii + 1)) (xs (ii + 2)) M1) fun x2 M2 => if x1 = x2 then K M2 else none) 1319 (LL w b ii) [] M := by
  refine G_aload_n g (pc := 1319) 1 d_W_1319 rfl rfl ?_
  refine G_arg g (pc := 1320) hX (j := 1) (j0 := 0) (j5 := 5) hii (by decide) rfl rfl d_W_1320 d_W_1321 d_W_1323 rfl d_W_1324 d_W_1325 ?_
  refine G_arg g (pc := 1326) hX (j := 2) (j0 := 0) (j5 := 5) hii (by decide) rfl rfl d_W_1326 d_W_1327 d_W_1329 rfl d_W_1330 d_W_1331 ?_
  refine G_cVI g (pc := 1332) (As := [.int (xs (ii + 1)), .int (xs (ii + 2))]) (st := []) cc_L_242 (c_G_archivedBetween l N hw.1 (xs (ii + 1)) (xs (ii + 2)) M) (hw.1.2 0 (Nat.le_of_ble_eq_true rfl)) (hw.1.k rfl) rfl (by decide) rfl ⟨(Nat.le_of_ble_eq_true rfl), (Nat.le_of_ble_eq_true rfl)⟩ hC0 (Nat.le_of_ble_eq_true rfl) d_W_1332 (fun x1 M1 => ?_)
  refine G_aload_n g (pc := 1335) 2 d_W_1335 rfl rfl ?_
  refine G_arg g (pc := 1336) hX (j := 1) (j0 := 0) (j5 := 5) hii (by decide) rfl rfl d_W_1336 d_W_1337 d_W_1339 rfl d_W_1340 d_W_1341 ?_
  refine G_arg g (pc := 1342) hX (j := 2) (j0 := 0) (j5 := 5) hii (by decide) rfl rfl d_W_1342 d_W_1343 d_W_1345 rfl d_W_1346 d_W_1347 ?_
  refine G_cVI g (pc := 1348) (As := [.int (xs (ii + 1)), .int (xs (ii + 2))]) (st := [.int x1]) cc_L_245 (c_M_archivedBetween l N hw.2.1 (xs (ii + 1)) (xs (ii + 2)) M1) (hw.2.1.mm 145 (Nat.le_of_ble_eq_true rfl) (Nat.le_of_ble_eq_true rfl)) (hw.1.k rfl) rfl (by decide) rfl ⟨(Nat.le_of_ble_eq_true rfl), (Nat.le_of_ble_eq_true rfl)⟩ hC0 (Nat.le_of_ble_eq_true rfl) d_W_1348 (fun x2 M2 => ?_)
  refine Go.ite (fun h12 => ?_)
  refine H_cmpeq g (pc := 1351) 2295 d_W_1351 (by decide) h12 ?_
  exact Go.widen (Nat.le_succ _) (Nat.le_add_right _ _) (hK _)
theorem d_W_1356 : decode code 1356 = .ok (.aload_n 1, 1) := by decide +kernel
theorem d_W_1357 : decode code 1357 = .ok (.invokevirtual 246, 3) := by decide +kernel
theorem d_W_1360 : decode code 1360 = .ok (.aload_n 2, 1) := by decide +kernel
theorem d_W_1361 : decode code 1361 = .ok (.invokevirtual 249, 3) := by decide +kernel
theorem d_W_1364 : decode code 1364 = .ok (.if_icmp .eq 931, 3) := by decide +kernel
theorem cc_L_246 : CV "KiteLoggerLaw" 246 y_G_highestArchived b_G_highestArchived 1 (some .int) 0 := ⟨TT_in (i := 636) (by decide +kernel) (by decide +kernel), TT_in (i := 637) (by decide +kernel) (by decide +kernel), TT_in (i := 638) (by decide +kernel) (by decide +kernel), TT_in (i := 88) (by decide +kernel) (by decide +kernel), TT_in (i := 639) (by decide +kernel) (by decide +kernel), ⟨by decide +kernel, by decide +kernel, by decide +kernel⟩⟩
theorem cc_L_249 : CV "KiteLoggerLaw" 249 y_M_highestArchived b_M_highestArchived 4 (some .int) 0 := ⟨TT_in (i := 1636) (by decide +kernel) (by decide +kernel), TT_in (i := 1637) (by decide +kernel) (by decide +kernel), TT_in (i := 1638) (by decide +kernel) (by decide +kernel), TT_in (i := 100) (by decide +kernel) (by decide +kernel), TT_in (i := 1639) (by decide +kernel) (by decide +kernel), ⟨by decide +kernel, by decide +kernel, by decide +kernel⟩⟩
set_option maxHeartbeats 4000000 in
set_option maxRecDepth 100000 in
theorem k_38 (l : Launch) (hst : l.stackTraces = false) (N : Nat) {p : Program} {e : Env} {s : State} {m : MethodId} {args : Array Value} {below : List Frame} {meth : Method} {c : Code} {w : Wc} {k n b Lx ii : Nat} {xs : Nat → Int32} {Qf : Unit → State → Prop} {K : Mem → Option Unit} (g : Gd p s m args meth c w 10 code "KiteLoggerLaw") (hnc : va_Nc exS exI s) (hw : WL w) (hX : LX s w b Lx xs) (hii : ii + 6 ≤ Lx) (hC0 : k ≤ room_1.cells ∧ n ≤ room_1.slots) (hC1 : k + 1 ≤ room_1.cells ∧ n + 6 ≤ room_1.slots) (hK : ∀ M, Go p l e room_1 s m args below meth c w 10 (k + 1) (n + 6) Qf (K M) 2295 (LL w b ii) [] M) (M : Mem) : Go p l e room_1 s m args below meth c w 10 k n Qf  (bnd (f_G_highestArchived N 146 M) fun x1 M1 => bnd (f_M_highestArchived N 146 M1) fun x2 M2 => if x1 = x2 then K M2 else none) 1356 (LL w b ii) [] M := by
  refine G_aload_n g (pc := 1356) 1 d_W_1356 rfl rfl ?_
  refine G_cVI g (pc := 1357) (As := []) (st := []) cc_L_246 (c_G_highestArchived l N hw.1 M) (hw.1.2 0 (Nat.le_of_ble_eq_true rfl)) (hw.1.k rfl) rfl (by decide) rfl ⟨(Nat.le_of_ble_eq_true rfl), (Nat.le_of_ble_eq_true rfl)⟩ hC0 (Nat.le_of_ble_eq_true rfl) d_W_1357 (fun x1 M1 => ?_)
  refine G_aload_n g (pc := 1360) 2 d_W_1360 rfl rfl ?_
  refine G_cVI g (pc := 1361) (As := []) (st := [.int x1]) cc_L_249 (c_M_highestArchived l N hw.2.1 M1) (hw.2.1.mm 145 (Nat.le_of_ble_eq_true rfl) (Nat.le_of_ble_eq_true rfl)) (hw.1.k rfl) rfl (by decide) rfl ⟨(Nat.le_of_ble_eq_true rfl), (Nat.le_of_ble_eq_true rfl)⟩ hC0 (Nat.le_of_ble_eq_true rfl) d_W_1361 (fun x2 M2 => ?_)
  refine Go.ite (fun h12 => ?_)
  refine H_cmpeq g (pc := 1364) 2295 d_W_1364 (by decide) h12 ?_
  exact Go.widen (Nat.le_succ _) (Nat.le_add_right _ _) (hK _)
theorem d_W_1369 : decode code 1369 = .ok (.aload_n 1, 1) := by decide +kernel
theorem d_W_1370 : decode code 1370 = .ok (.aload_n 0, 1) := by decide +kernel
theorem d_W_1371 : decode code 1371 = .ok (.iload 5, 2) := by decide +kernel
theorem d_W_1373 : decode code 1373 = .ok (.iconst 1, 1) := by decide +kernel
theorem d_W_1374 : decode code 1374 = .ok (.iadd, 1) := by decide +kernel
theorem d_W_1375 : decode code 1375 = .ok (.iaload, 1) := by decide +kernel
theorem d_W_1376 : decode code 1376 = .ok (.invokevirtual 250, 3) := by decide +kernel
theorem d_W_1379 : decode code 1379 = .ok (.aload_n 2, 1) := by decide +kernel
theorem d_W_1380 : decode code 1380 = .ok (.aload_n 0, 1) := by decide +kernel
theorem d_W_1381 : decode code 1381 = .ok (.iload 5, 2) := by decide +kernel
theorem d_W_1383 : decode code 1383 = .ok (.iconst 1, 1) := by decide +kernel
theorem d_W_1384 : decode code 1384 = .ok (.iadd, 1) := by decide +kernel
theorem d_W_1385 : decode code 1385 = .ok (.iaload, 1) := by decide +kernel
theorem d_W_1386 : decode code 1386 = .ok (.invokevirtual 253, 3) := by decide +kernel
theorem d_W_1389 : decode code 1389 = .ok (.if_icmp .eq 906, 3) := by decide +kernel
theorem cc_L_250 : CV "KiteLoggerLaw" 250 y_G_archivedBefore b_G_archivedBefore 2 (some .int) 1 := ⟨TT_in (i := 644) (by decide +kernel) (by decide +kernel), TT_in (i := 645) (by decide +kernel) (by decide +kernel), TT_in (i := 646) (by decide +kernel) (by decide +kernel), TT_in (i := 88) (by decide +kernel) (by decide +kernel), TT_in (i := 647) (by decide +kernel) (by decide +kernel), ⟨by decide +kernel, by decide +kernel, by decide +kernel⟩⟩
theorem cc_L_253 : CV "KiteLoggerLaw" 253 y_M_archivedBefore b_M_archivedBefore 3 (some .int) 1 := ⟨TT_in (i := 1640) (by decide +kernel) (by decide +kernel), TT_in (i := 1641) (by decide +kernel) (by decide +kernel), TT_in (i := 1642) (by decide +kernel) (by decide +kernel), TT_in (i := 100) (by decide +kernel) (by decide +kernel), TT_in (i := 1643) (by decide +kernel) (by decide +kernel), ⟨by decide +kernel, by decide +kernel, by decide +kernel⟩⟩
set_option maxHeartbeats 4000000 in
set_option maxRecDepth 100000 in
theorem k_39 (l : Launch) (hst : l.stackTraces = false) (N : Nat) {p : Program} {e : Env} {s : State} {m : MethodId} {args : Array Value} {below : List Frame} {meth : Method} {c : Code} {w : Wc} {k n b Lx ii : Nat} {xs : Nat → Int32} {Qf : Unit → State → Prop} {K : Mem → Option Unit} (g : Gd p s m args meth c w 10 code "KiteLoggerLaw") (hnc : va_Nc exS exI s) (hw : WL w) (hX : LX s w b Lx xs) (hii : ii + 6 ≤ Lx) (hC0 : k ≤ room_1.cells ∧ n ≤ room_1.slots) (hC1 : k + 1 ≤ room_1.cells ∧ n + 6 ≤ room_1.slots) (hK : ∀ M, Go p l e room_1 s m args below meth c w 10 (k + 1) (n + 6) Qf (K M) 2295 (LL w b ii) [] M) (M : Mem) : Go p l e room_1 s m args below meth c w 10 k n Qf  (bnd (f_G_archivedBefore N 146 (xs (ii + 1)) M) fun x1 M1 => bnd (f_M_archivedBefore N 146 (xs (ii + 1)) M1) fun x2 M2 => if x1 = x2 then K M2 else none) 1369 (LL w b ii) [] M := by
  refine G_aload_n g (pc := 1369) 1 d_W_1369 rfl rfl ?_
  refine G_arg g (pc := 1370) hX (j := 1) (j0 := 0) (j5 := 5) hii (by decide) rfl rfl d_W_1370 d_W_1371 d_W_1373 rfl d_W_1374 d_W_1375 ?_
  refine G_cVI g (pc := 1376) (As := [.int (xs (ii + 1))]) (st := []) cc_L_250 (c_G_archivedBefore l N hw.1 (xs (ii + 1)) M) (hw.1.2 0 (Nat.le_of_ble_eq_true rfl)) (hw.1.k rfl) rfl (by decide) rfl ⟨(Nat.le_of_ble_eq_true rfl), (Nat.le_of_ble_eq_true rfl)⟩ hC0 (Nat.le_of_ble_eq_true rfl) d_W_1376 (fun x1 M1 => ?_)
  refine G_aload_n g (pc := 1379) 2 d_W_1379 rfl rfl ?_
  refine G_arg g (pc := 1380) hX (j := 1) (j0 := 0) (j5 := 5) hii (by decide) rfl rfl d_W_1380 d_W_1381 d_W_1383 rfl d_W_1384 d_W_1385 ?_
  refine G_cVI g (pc := 1386) (As := [.int (xs (ii + 1))]) (st := [.int x1]) cc_L_253 (c_M_archivedBefore l N hw.2.1 (xs (ii + 1)) M1) (hw.2.1.mm 145 (Nat.le_of_ble_eq_true rfl) (Nat.le_of_ble_eq_true rfl)) (hw.1.k rfl) rfl (by decide) rfl ⟨(Nat.le_of_ble_eq_true rfl), (Nat.le_of_ble_eq_true rfl)⟩ hC0 (Nat.le_of_ble_eq_true rfl) d_W_1386 (fun x2 M2 => ?_)
  refine Go.ite (fun h12 => ?_)
  refine H_cmpeq g (pc := 1389) 2295 d_W_1389 (by decide) h12 ?_
  exact Go.widen (Nat.le_succ _) (Nat.le_add_right _ _) (hK _)
