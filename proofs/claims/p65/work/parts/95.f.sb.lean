/-! a text of the program behind the text -/
abbrev b_gby : ByteArray := prog_22_method_147_code
abbrev y_gby : MethodName := ⟨"java/lang/String", "getBytes", "([BIB)V"⟩
theorem d_gby_0 : decode b_gby 0 = .ok (.aload_n 0, 1) := by decide +kernel
theorem d_gby_1 : decode b_gby 1 = .ok (.invokevirtual 335, 3) := by decide +kernel
theorem d_gby_4 : decode b_gby 4 = .ok (.iload_n 3, 1) := by decide +kernel
theorem d_gby_5 : decode b_gby 5 = .ok (.if_icmp .ne 23, 3) := by decide +kernel
theorem d_gby_8 : decode b_gby 8 = .ok (.aload_n 0, 1) := by decide +kernel
theorem d_gby_9 : decode b_gby 9 = .ok (.getfield 9, 3) := by decide +kernel
theorem d_gby_12 : decode b_gby 12 = .ok (.iconst 0, 1) := by decide +kernel
theorem d_gby_13 : decode b_gby 13 = .ok (.aload_n 1, 1) := by decide +kernel
theorem d_gby_14 : decode b_gby 14 = .ok (.iload_n 2, 1) := by decide +kernel
theorem d_gby_15 : decode b_gby 15 = .ok (.iload_n 3, 1) := by decide +kernel
theorem d_gby_16 : decode b_gby 16 = .ok (.ishl, 1) := by decide +kernel
theorem d_gby_17 : decode b_gby 17 = .ok (.aload_n 0, 1) := by decide +kernel
theorem d_gby_18 : decode b_gby 18 = .ok (.getfield 9, 3) := by decide +kernel
theorem d_gby_21 : decode b_gby 21 = .ok (.arraylength, 1) := by decide +kernel
theorem d_gby_22 : decode b_gby 22 = .ok (.invokestatic 212, 3) := by decide +kernel
theorem d_gby_25 : decode b_gby 25 = .ok (.goto 18, 3) := by decide +kernel
theorem d_gby_28 : decode b_gby 28 = .ok (.aload_n 0, 1) := by decide +kernel
theorem d_gby_29 : decode b_gby 29 = .ok (.getfield 9, 3) := by decide +kernel
theorem d_gby_32 : decode b_gby 32 = .ok (.iconst 0, 1) := by decide +kernel
theorem d_gby_33 : decode b_gby 33 = .ok (.aload_n 1, 1) := by decide +kernel
theorem d_gby_34 : decode b_gby 34 = .ok (.iload_n 2, 1) := by decide +kernel
theorem d_gby_35 : decode b_gby 35 = .ok (.aload_n 0, 1) := by decide +kernel
theorem d_gby_36 : decode b_gby 36 = .ok (.getfield 9, 3) := by decide +kernel
theorem d_gby_39 : decode b_gby 39 = .ok (.arraylength, 1) := by decide +kernel
theorem d_gby_40 : decode b_gby 40 = .ok (.invokestatic 106, 3) := by decide +kernel
theorem d_gby_43 : decode b_gby 43 = .ok (.return_, 1) := by decide +kernel
abbrev b_inf : ByteArray := prog_13_method_71_code
abbrev y_inf : MethodName := ⟨"java/lang/AbstractStringBuilder", "inflateIfNeededFor", "(Ljava/lang/String;)V"⟩
theorem d_inf_0 : decode b_inf 0 = .ok (.getstatic 18, 3) := by decide +kernel
theorem d_inf_3 : decode b_inf 3 = .ok (.ifCond .eq 18, 3) := by decide +kernel
theorem d_inf_6 : decode b_inf 6 = .ok (.aload_n 0, 1) := by decide +kernel
theorem d_inf_7 : decode b_inf 7 = .ok (.getfield 22, 3) := by decide +kernel
theorem d_inf_10 : decode b_inf 10 = .ok (.aload_n 1, 1) := by decide +kernel
theorem d_inf_11 : decode b_inf 11 = .ok (.invokevirtual 40, 3) := by decide +kernel
theorem d_inf_14 : decode b_inf 14 = .ok (.if_icmp .eq 7, 3) := by decide +kernel
theorem d_inf_17 : decode b_inf 17 = .ok (.aload_n 0, 1) := by decide +kernel
theorem d_inf_18 : decode b_inf 18 = .ok (.invokevirtual 195, 3) := by decide +kernel
theorem d_inf_21 : decode b_inf 21 = .ok (.return_, 1) := by decide +kernel
abbrev b_pst : ByteArray := prog_13_method_73_code
abbrev y_pst : MethodName := ⟨"java/lang/AbstractStringBuilder", "putStringAt", "(ILjava/lang/String;)V"⟩
theorem d_pst_0 : decode b_pst 0 = .ok (.aload_n 0, 1) := by decide +kernel
theorem d_pst_1 : decode b_pst 1 = .ok (.aload_n 2, 1) := by decide +kernel
theorem d_pst_2 : decode b_pst 2 = .ok (.invokevirtual 397, 3) := by decide +kernel
theorem d_pst_5 : decode b_pst 5 = .ok (.aload_n 2, 1) := by decide +kernel
theorem d_pst_6 : decode b_pst 6 = .ok (.aload_n 0, 1) := by decide +kernel
theorem d_pst_7 : decode b_pst 7 = .ok (.getfield 15, 3) := by decide +kernel
theorem d_pst_10 : decode b_pst 10 = .ok (.iload_n 1, 1) := by decide +kernel
theorem d_pst_11 : decode b_pst 11 = .ok (.aload_n 0, 1) := by decide +kernel
theorem d_pst_12 : decode b_pst 12 = .ok (.getfield 22, 3) := by decide +kernel
theorem d_pst_15 : decode b_pst 15 = .ok (.invokevirtual 399, 3) := by decide +kernel
theorem d_pst_18 : decode b_pst 18 = .ok (.return_, 1) := by decide +kernel
abbrev b_aps : ByteArray := prog_13_method_22_code
abbrev y_aps : MethodName := ⟨"java/lang/AbstractStringBuilder", "append", "(Ljava/lang/String;)Ljava/lang/AbstractStringBuilder;"⟩
theorem d_aps_0 : decode b_aps 0 = .ok (.aload_n 1, 1) := by decide +kernel
theorem d_aps_1 : decode b_aps 1 = .ok (.ifnonnull 8, 3) := by decide +kernel
theorem d_aps_4 : decode b_aps 4 = .ok (.aload_n 0, 1) := by decide +kernel
theorem d_aps_5 : decode b_aps 5 = .ok (.invokevirtual 204, 3) := by decide +kernel
theorem d_aps_8 : decode b_aps 8 = .ok (.areturn, 1) := by decide +kernel
theorem d_aps_9 : decode b_aps 9 = .ok (.aload_n 1, 1) := by decide +kernel
theorem d_aps_10 : decode b_aps 10 = .ok (.invokevirtual 32, 3) := by decide +kernel
theorem d_aps_13 : decode b_aps 13 = .ok (.istore_n 2, 1) := by decide +kernel
theorem d_aps_14 : decode b_aps 14 = .ok (.aload_n 0, 1) := by decide +kernel
theorem d_aps_15 : decode b_aps 15 = .ok (.aload_n 0, 1) := by decide +kernel
theorem d_aps_16 : decode b_aps 16 = .ok (.getfield 79, 3) := by decide +kernel
theorem d_aps_19 : decode b_aps 19 = .ok (.iload_n 2, 1) := by decide +kernel
theorem d_aps_20 : decode b_aps 20 = .ok (.iadd, 1) := by decide +kernel
theorem d_aps_21 : decode b_aps 21 = .ok (.invokevirtual 100, 3) := by decide +kernel
theorem d_aps_24 : decode b_aps 24 = .ok (.aload_n 0, 1) := by decide +kernel
theorem d_aps_25 : decode b_aps 25 = .ok (.aload_n 0, 1) := by decide +kernel
theorem d_aps_26 : decode b_aps 26 = .ok (.getfield 79, 3) := by decide +kernel
theorem d_aps_29 : decode b_aps 29 = .ok (.aload_n 1, 1) := by decide +kernel
theorem d_aps_30 : decode b_aps 30 = .ok (.invokevirtual 208, 3) := by decide +kernel
theorem d_aps_33 : decode b_aps 33 = .ok (.aload_n 0, 1) := by decide +kernel
theorem d_aps_34 : decode b_aps 34 = .ok (.dup, 1) := by decide +kernel
theorem d_aps_35 : decode b_aps 35 = .ok (.getfield 79, 3) := by decide +kernel
theorem d_aps_38 : decode b_aps 38 = .ok (.iload_n 2, 1) := by decide +kernel
theorem d_aps_39 : decode b_aps 39 = .ok (.iadd, 1) := by decide +kernel
theorem d_aps_40 : decode b_aps 40 = .ok (.putfield 79, 3) := by decide +kernel
theorem d_aps_43 : decode b_aps 43 = .ok (.aload_n 0, 1) := by decide +kernel
theorem d_aps_44 : decode b_aps 44 = .ok (.areturn, 1) := by decide +kernel
abbrev b_saps : ByteArray := prog_23_method_7_code
abbrev y_saps : MethodName := ⟨"java/lang/StringBuilder", "append", "(Ljava/lang/String;)Ljava/lang/StringBuilder;"⟩
theorem d_saps_0 : decode b_saps 0 = .ok (.aload_n 0, 1) := by decide +kernel
theorem d_saps_1 : decode b_saps 1 = .ok (.aload_n 1, 1) := by decide +kernel
theorem d_saps_2 : decode b_saps 2 = .ok (.invokespecial 29, 3) := by decide +kernel
theorem d_saps_5 : decode b_saps 5 = .ok (.pop, 1) := by decide +kernel
theorem d_saps_6 : decode b_saps 6 = .ok (.aload_n 0, 1) := by decide +kernel
theorem d_saps_7 : decode b_saps 7 = .ok (.areturn, 1) := by decide +kernel
section RT
variable {ρ : Type} {p : Program} {l : Launch} {e : Env} {R : Room} {s : State} {m : MethodId} {args : Array Value} {below : List Frame} {meth : Method} {c : Code} {w : Wc} {nL k n j : Nat} {z : Shp} {Qf : ρ → State → Prop} {cc : ByteArray} {own : String}
/-- a call on a text of the program -/
theorem RG_T (g : Gd p s m args meth c (wg w j z) nL cc own) {pc idx a maxL i : Nat} {L : List (Nat × Value)} {st As : List Value} {M : Mem} {y : MethodName} {b : ByteArray} {rm : Room} {ret : Option FieldType} {Q : Array Value → State → Outcome → State → Prop} (had : Ad w) (hao : AO s) (hj : j ≤ 900) (h1j : 1 ≤ j) (hsz : s.heap.size + k = wlo w + j) (cw : CV own idx y b maxL ret a) (hy : y.cls = "java/lang/String") (hM : CtG l y b maxL ret rm w j z (.ref (wad w (1000 + i)) :: As) M Q) (hi : i < 12) (hn : As.length = a) (hR : rm.frames + 1 ≤ R.frames ∧ 8 + (maxL + 11) + rm.locals ≤ R.locals) (hC : k + rm.cells ≤ R.cells ∧ n + rm.slots ≤ R.slots) (hs : (st.map fun v => v.category).sum ≤ 8) (d : decode cc pc = .ok (.invokevirtual idx, 3)) : RunG p l e R s m args below meth c w nL k n j z pc L (As.reverse ++ .ref (wad w (1000 + i)) :: st) M st rm (Q (.ref (wad w (1000 + i)) :: As).toArray) :=
  fun H locs ls T hP hS hl hT X => by
    have pg := pre_G (av := .ref (wad w (1000 + i)) :: As) g had hao hj h1j hsz hP hS hT X
    have hrc : ∃ cell : Cell, H[wad w (1000 + i)]? = some cell ∧ cell.vm.isStatics = false ∧ s.vm.findClass y.cls = some cell.cls := by
      obtain ⟨cell, h1, h2, h3, -⟩ := (g.2.2.2.2.2.2.2.1.1 i hi).1.kept hS.2.1
      exact ⟨cell, h1, h2, by rw [hy]; exact h3⟩
    exact va_runV (As := As) (rest := st) ⟨g.1, g.2.1, g.2.2.1, g.2.2.2.1, g.2.2.2.2.1⟩ hM ⟨callB_of a g.2.2.2.2.1 (TT_gi cw.2.2.2.2.1) rfl rfl rfl (g.2.2.2.2.1 _ cw.2.2.2.1) (g.2.2.2.2.1 _ cw.1) cw.2.2.2.2.2 hR, g.2.2.2.2.1 _ cw.2.1, g.2.2.2.2.1 _ cw.2.2.1⟩ ⟨pg.1, hrc, pg.2⟩ rfl hn hl.1 rfl (lv_room hs) d hC
theorem G_ifnn (g : Gd p s m args meth c w nL cc own) {pc x : Nat} {L : List (Nat × Value)} {st : List Value} {M : Mem} {o : Option ρ} {off : Int} (tgt : Nat) (d : decode cc pc = .ok (.ifnonnull off, 3)) (ht : (pc : Int) + off = (tgt : Int)) (kk : Go p l e R s m args below meth c w nL k n Qf o tgt L st M) : Go p l e R s m args below meth c w nL k n Qf o pc L (.ref x :: st) M :=
  fun r hr H locs ls hP hS hl => lv_ifnonnull g.1 g.2.1 d ht (kk r hr H locs ls hP hS hl)
end RT
def txS (i : Nat) : List Nat := (strB.getD i []).map fun b => b.toInt.toNat
theorem txS_len (i : Nat) : (txS i).length = lenS i := by unfold txS lenS; rw [List.length_map]
theorem txS_f : ∀ i, i < 12 → lenS i ≤ 50 ∧ ∀ k, k < lenS i → bytS i k = nI ((txS i).getD k 0) ∧ (txS i).getD k 0 < 128 ∧ fits .byte (.int (bytS i k)) = true := by decide +kernel
theorem bytS_fit {i : Nat} (hi : i < 12) : fB (bytS i) := fun k => by
  by_cases h : k < lenS i
  · exact ((txS_f i hi).2 k h).2.2
  · have e0 : bytS i k = 0 := by
      unfold bytS
      rw [List.getD_eq_getElem?_getD, List.getElem?_eq_none (by unfold lenS at h; omega)]
      rfl
    rw [e0]
    rfl
set_option maxHeartbeats 4000000 in
set_option maxRecDepth 100000 in
theorem c_tcod (l : Launch) {w : Wc} {j i : Nat} {z : Shp} (hi : i < 12) (M : Mem) : CtG l y_Str_coder b_Str_coder 1 (some .byte) (rmC 0 0 0) w j z [.ref (wad w (1000 + i))] M (QgI w j 0 (fun z2 M2 => z2 = z ∧ M2 = M)) := by
  refine CtG.go (by decide) (L := [(0, .ref (wad w (1000 + i)))]) rfl (Nat.le_of_ble_eq_true rfl) (fun p0 e s mm args below meth c hnm hsz hao g hret => ?_)
  obtain ⟨hO, hcod, hval, hT⟩ := g.2.2.2.2.2.2.2.1.1 i hi
  refine G_gets g (pc := 0) fl_cmp g.2.2.2.2.2.2.2.1.2.2.2.2.2.1 d_Str_coder_0 ?_
  refine K_if_eq_F g (pc := 3) (x := 1) 13 (by decide) d_Str_coder_3 (by decide) ?_
  refine G_aload_n g (pc := 6) 0 d_Str_coder_6 rfl rfl ?_
  refine G_sget g (pc := 7) fl_cod hcod d_Str_coder_7 ?_
  refine G_goto g (pc := 10) 14 d_Str_coder_10 (by decide) ?_
  exact G_gretN g (pc := 14) ⟨rfl, rfl⟩ hret rfl (Nat.le_of_ble_eq_true rfl) (Nat.le_of_ble_eq_true rfl) d_Str_coder_14
set_option maxHeartbeats 4000000 in
set_option maxRecDepth 100000 in
theorem c_tlen (l : Launch) {w : Wc} (had : Ad w) {j i : Nat} {z : Shp} (hi : i < 12) (hj : j ≤ 900) (h1j : 1 ≤ j) (M : Mem) : CtG l y_Str_length b_Str_length 1 (some .int) (rmC 1 0 0) w j z [.ref (wad w (1000 + i))] M (QgI w j (nI (lenS i)) (fun z2 M2 => z2 = z ∧ M2 = M)) := by
  refine CtG.go (by decide) (L := [(0, .ref (wad w (1000 + i)))]) rfl (Nat.le_of_ble_eq_true rfl) (fun p0 e s mm args below meth c hnm hsz hao g hret => ?_)
  obtain ⟨hO, hcod, hval, hT⟩ := g.2.2.2.2.2.2.2.1.1 i hi
  refine G_aload_n g (pc := 0) 0 d_Str_length_0 rfl rfl ?_
  refine G_sget g (pc := 1) fl_val hval d_Str_length_1 ?_
  refine G_tlen g (pc := 4) (nI (lenS i)) hT rfl d_Str_length_4 ?_
  refine G_aload_n g (pc := 5) 0 d_Str_length_5 rfl rfl ?_
  refine G_gI0 (RG_T g (pc := 6) (i := i) (As := []) (st := [.int (nI (lenS i))]) had hao hj h1j hsz cj_len_coder rfl (c_tcod l hi M) hi rfl ⟨(Nat.le_of_ble_eq_true rfl), (Nat.le_of_ble_eq_true rfl)⟩ ⟨Nat.zero_le _, Nat.zero_le _⟩ (Nat.le_of_ble_eq_true rfl) d_Str_length_6) (fun z9 M9 hy9 => ?_)
  obtain ⟨rfl, rfl⟩ := hy9
  refine G_ishr g (pc := 9) d_Str_length_9 ?_
  refine Go.top (y := nI (lenS i)) (sh0 _) ?_
  exact G_gretI g (pc := 10) ⟨rfl, rfl⟩ hret (Nat.le_of_ble_eq_true rfl) (Nat.le_of_ble_eq_true rfl) d_Str_length_10
theorem ma_V_212 : Cond.methodLink "java/lang/String" 212 arraycopyName ∈ TT ∧ Cond.native arraycopyName ∈ TT ∧ Cond.static arraycopyName ∈ TT ∧ Cond.initialized "java/lang/System" ∈ TT := ⟨TT_in (i := 1248) (by decide +kernel) (by decide +kernel), TT_in (i := 111) (by decide +kernel) (by decide +kernel), TT_in (i := 110) (by decide +kernel) (by decide +kernel), TT_in (i := 22) (by decide +kernel) (by decide +kernel)⟩
theorem cj_A_32 : CV "java/lang/AbstractStringBuilder" 32 y_Str_length b_Str_length 1 (some .int) 0 := ⟨TT_in (i := 1140) (by decide +kernel) (by decide +kernel), TT_in (i := 515) (by decide +kernel) (by decide +kernel), TT_in (i := 516) (by decide +kernel) (by decide +kernel), TT_in (i := 32) (by decide +kernel) (by decide +kernel), TT_in (i := 517) (by decide +kernel) (by decide +kernel), ⟨by decide +kernel, by decide +kernel, by decide +kernel⟩⟩
theorem cj_A_40 : CV "java/lang/AbstractStringBuilder" 40 y_Str_coder b_Str_coder 1 (some .byte) 0 := ⟨TT_in (i := 1143) (by decide +kernel) (by decide +kernel), TT_in (i := 519) (by decide +kernel) (by decide +kernel), TT_in (i := 520) (by decide +kernel) (by decide +kernel), TT_in (i := 32) (by decide +kernel) (by decide +kernel), TT_in (i := 521) (by decide +kernel) (by decide +kernel), ⟨by decide +kernel, by decide +kernel, by decide +kernel⟩⟩
theorem cj_A_399 : CV "java/lang/AbstractStringBuilder" 399 y_gby b_gby 4 none 3 := ⟨TT_in (i := 1244) (by decide +kernel) (by decide +kernel), TT_in (i := 1245) (by decide +kernel) (by decide +kernel), TT_in (i := 1246) (by decide +kernel) (by decide +kernel), TT_in (i := 32) (by decide +kernel) (by decide +kernel), TT_in (i := 1247) (by decide +kernel) (by decide +kernel), ⟨by decide +kernel, by decide +kernel, by decide +kernel⟩⟩
set_option maxHeartbeats 4000000 in
set_option maxRecDepth 100000 in
theorem c_gby (l : Launch) {w : Wc} (had : Ad w) {j i b m n0 : Nat} {z : Shp} (hi : i < 12) (hj : j ≤ 900) (M : Mem) (h1 : b < j) (h7 : (z b).1 = 21) (h8 : (z b).2.1 = m) (hm : m ≤ 1000) (hn0 : n0 + lenS i ≤ m) : CtG l y_gby b_gby 4 none (rmC 1 0 0) w j z [.ref (wad w (1000 + i)), .ref (wad w b), .int (nI n0), .int 0] M (QgV w j (fun z2 M2 => z2 = z ∧ M2 = setR M b (va_cpy (bytS i) (M b) 0 n0 (lenS i)))) := by
  have hl := (txS_f i hi).1
  refine CtG.go (by decide) (L := [(0, .ref (wad w (1000 + i))), (1, .ref (wad w b)), (2, .int (nI n0)), (3, .int 0)]) rfl (Nat.le_of_ble_eq_true rfl) (fun p0 e s mm args below meth c hnm hsz hao g hret => ?_)
  obtain ⟨hO, hcod, hval, hT⟩ := g.2.2.2.2.2.2.2.1.1 i hi
  refine G_aload_n g (pc := 0) 0 d_gby_0 rfl rfl ?_
  refine G_gI0 (RG_T g (pc := 1) (i := i) (As := []) (st := []) had hao hj (by omega) hsz cj_len_coder rfl (c_tcod l hi M) hi rfl ⟨(Nat.le_of_ble_eq_true rfl), (Nat.le_of_ble_eq_true rfl)⟩ ⟨Nat.zero_le _, Nat.zero_le _⟩ (Nat.le_of_ble_eq_true rfl) d_gby_1) (fun z9 M9 hy9 => ?_)
  obtain ⟨rfl, rfl⟩ := hy9
  refine G_iload_n g (pc := 4) 3 d_gby_4 rfl rfl ?_
  refine K_icmp_ne_F g (pc := 5) 28 (rfl) d_gby_5 (by decide) ?_
  refine G_aload_n g (pc := 8) 0 d_gby_8 rfl rfl ?_
  refine G_sget g (pc := 9) fl_val hval d_gby_9 ?_
  refine G_iconst g (pc := 12) (0 : Int32) d_gby_12 rfl ?_
  refine G_aload_n g (pc := 13) 1 d_gby_13 rfl rfl ?_
  refine G_iload_n g (pc := 14) 2 d_gby_14 rfl rfl ?_
  refine G_iload_n g (pc := 15) 3 d_gby_15 rfl rfl ?_
  refine G_ishl g (pc := 16) d_gby_16 ?_
  refine Go.top (y := nI n0) (shl0 _) ?_
  refine G_aload_n g (pc := 17) 0 d_gby_17 rfl rfl ?_
  refine G_sget g (pc := 18) fl_val hval d_gby_18 ?_
  refine G_tlen g (pc := 21) (nI (lenS i)) hT rfl d_gby_21 ?_
  refine G_copyS g (pc := 22) (q1 := b) (n0 := lenS i) (n1 := m) (f := bytS i) (sp := 0) (dp := nI n0) (z := nI (lenS i)) ma_V_212 ⟨(Nat.le_of_ble_eq_true rfl), (Nat.le_of_ble_eq_true rfl)⟩ hT (List.mem_range.mpr h1) h7 h8 (show cpB (nI 0) (nI n0) (nI (lenS i)) (lenS i) m = true from cpB_nI (by omega) (by omega) (by omega) (by omega)) (bytS_fit hi) d_gby_22 ?_
  refine G_goto g (pc := 25) 43 d_gby_25 (by decide) ?_
  exact G_gretV g (pc := 43) ⟨rfl, by rw [show (0 : Int32).toNatClampNeg = 0 from rfl, nI_clamp (by omega), nI_clamp (by omega)]⟩ hret (Nat.le_of_ble_eq_true rfl) (Nat.le_of_ble_eq_true rfl) d_gby_43
set_option maxHeartbeats 4000000 in
set_option maxRecDepth 100000 in
theorem c_inf (l : Launch) {w : Wc} (had : Ad w) {j b m i : Nat} {z : Shp} {x : List Nat} (M : Mem) (h : SBS z M j b m x) (hi : i < 12) : CtG l y_inf b_inf 2 none (rmC 1 0 0) w j z [.ref (wad w 146), .ref (wad w (1000 + i))] M (QgV w j (fun z2 M2 => z2 = z ∧ M2 = M)) := by
  obtain ⟨h1, h2, h3, h4, h5, h6, h7, h8, h9, h10, h11, h12, h13, h14⟩ := h
  refine CtG.go (by decide) (L := [(0, .ref (wad w 146)), (1, .ref (wad w (1000 + i)))]) rfl (Nat.le_of_ble_eq_true rfl) (fun p0 e s mm args below meth c hnm hsz hao g hret => ?_)
  refine G_gets g (pc := 0) fl_A_18 g.2.2.2.2.2.2.2.1.2.2.2.2.2.1 d_inf_0 ?_
  refine K_if_eq_F g (pc := 3) 21 ((by decide)) d_inf_3 (by decide) ?_
  refine G_aload_n g (pc := 6) 0 d_inf_6 rfl rfl ?_
  refine G_get g (pc := 7) fa_A_22 (List.mem_range.mpr h1) h5 d_inf_7 ?_
  refine Go.top (y := (0 : Int32)) h10 ?_
  refine G_aload_n g (pc := 10) 1 d_inf_10 rfl rfl ?_
  refine G_gI0 (RG_T g (pc := 11) (i := i) (As := []) (st := [.int 0]) had hao (by omega) (by omega) hsz cj_A_40 rfl (c_tcod l hi M) hi rfl ⟨(Nat.le_of_ble_eq_true rfl), (Nat.le_of_ble_eq_true rfl)⟩ ⟨Nat.zero_le _, Nat.zero_le _⟩ (Nat.le_of_ble_eq_true rfl) d_inf_11) (fun z9 M9 hy9 => ?_)
  obtain ⟨rfl, rfl⟩ := hy9
  refine K_icmp_eq_T g (pc := 14) 21 (rfl) d_inf_14 (by decide) ?_
  exact G_gretV g (pc := 21) ⟨rfl, rfl⟩ hret (Nat.le_of_ble_eq_true rfl) (Nat.le_of_ble_eq_true rfl) d_inf_21
theorem cj_A_397 : CP "java/lang/AbstractStringBuilder" 397 y_inf b_inf 2 none 1 := ⟨TT_in (i := 1221) (by decide +kernel) (by decide +kernel), TT_in (i := 1366) (by decide +kernel) (by decide +kernel), NW_in (i := 1222) (by decide +kernel) (by decide +kernel), TT_in (i := 1223) (by decide +kernel) (by decide +kernel), TT_in (i := 30) (by decide +kernel) (by decide +kernel), TT_in (i := 1224) (by decide +kernel) (by decide +kernel), ⟨by decide +kernel, by decide +kernel, by decide +kernel⟩⟩
theorem cj_A_208 : CP "java/lang/AbstractStringBuilder" 208 y_pst b_pst 3 none 2 := ⟨TT_in (i := 1217) (by decide +kernel) (by decide +kernel), TT_in (i := 1365) (by decide +kernel) (by decide +kernel), NW_in (i := 1218) (by decide +kernel) (by decide +kernel), TT_in (i := 1219) (by decide +kernel) (by decide +kernel), TT_in (i := 30) (by decide +kernel) (by decide +kernel), TT_in (i := 1220) (by decide +kernel) (by decide +kernel), ⟨by decide +kernel, by decide +kernel, by decide +kernel⟩⟩
set_option maxHeartbeats 4000000 in
set_option maxRecDepth 100000 in
theorem c_pst (l : Launch) {w : Wc} (had : Ad w) {j b m i : Nat} {z : Shp} {x : List Nat} (M : Mem) (h : SBS z M j b m x) (hi : i < 12) (hn0 : x.length + lenS i ≤ m) : CtG l y_pst b_pst 3 none (rmC 2 0 0) w j z [.ref (wad w 146), .int (nI x.length), .ref (wad w (1000 + i))] M (QgV w j (fun z2 M2 => z2 = z ∧ M2 = setR M b (va_cpy (bytS i) (M b) 0 x.length (lenS i)))) := by
  have hh := h
  obtain ⟨h1, h2, h3, h4, h5, h6, h7, h8, h9, h10, h11, h12, h13, h14⟩ := h
  refine CtG.go (by decide) (L := [(0, .ref (wad w 146)), (1, .int (nI x.length)), (2, .ref (wad w (1000 + i)))]) rfl (Nat.le_of_ble_eq_true rfl) (fun p0 e s mm args below meth c hnm hsz hao g hret => ?_)
  refine G_aload_n g (pc := 0) 0 d_pst_0 rfl rfl ?_
  refine G_aload_n g (pc := 1) 2 d_pst_1 rfl rfl ?_
  refine G_gV0 (RG_P g (pc := 2) (q := 146) (As := [.ref (wad w (1000 + i))]) (st := []) had hao (by omega) (by omega) hsz cj_A_397 (c_inf l had M hh hi) (List.mem_range.mpr h1) h5 rfl ⟨(Nat.le_of_ble_eq_true rfl), (Nat.le_of_ble_eq_true rfl)⟩ ⟨Nat.zero_le _, Nat.zero_le _⟩ (Nat.le_of_ble_eq_true rfl) d_pst_2) (fun z9 M9 hy9 => ?_)
  obtain ⟨rfl, rfl⟩ := hy9
  refine G_aload_n g (pc := 5) 2 d_pst_5 rfl rfl ?_
  refine G_aload_n g (pc := 6) 0 d_pst_6 rfl rfl ?_
  refine G_getR g (pc := 7) fa_A_15 (List.mem_range.mpr h1) h5 h6 d_pst_7 ?_
  refine G_iload_n g (pc := 10) 1 d_pst_10 rfl rfl ?_
  refine G_aload_n g (pc := 11) 0 d_pst_11 rfl rfl ?_
  refine G_get g (pc := 12) fa_A_22 (List.mem_range.mpr h1) h5 d_pst_12 ?_
  refine Go.top (y := (0 : Int32)) h10 ?_
  refine G_gV0 (RG_T g (pc := 15) (i := i) (As := [.ref (wad w b), .int (nI x.length), .int 0]) (st := []) had hao (by omega) (by omega) hsz cj_A_399 rfl (c_gby l had hi (by omega) M9 h4 h7 h8 h9 hn0) hi rfl ⟨(Nat.le_of_ble_eq_true rfl), (Nat.le_of_ble_eq_true rfl)⟩ ⟨Nat.zero_le _, Nat.zero_le _⟩ (Nat.le_of_ble_eq_true rfl) d_pst_15) (fun z8 M8 hy8 => ?_)
  obtain ⟨rfl, hM8⟩ := hy8
  exact G_gretV g (pc := 18) ⟨rfl, hM8⟩ hret (Nat.le_of_ble_eq_true rfl) (Nat.le_of_ble_eq_true rfl) d_pst_18
theorem cj_U_29 : CSu "java/lang/StringBuilder" 29 y_aps b_aps 3 (some (.object "java/lang/AbstractStringBuilder")) 1 := ⟨by
  intro t ht
  rcases List.mem_cons.mp ht with rfl | ht
  · exact TT_in (i := 1161) (by decide +kernel) (by decide +kernel)
  rcases List.mem_cons.mp ht with rfl | ht
  · exact TT_in (i := 1153) (by decide +kernel) (by decide +kernel)
  rcases List.mem_cons.mp ht with rfl | ht
  · exact TT_in (i := 1162) (by decide +kernel) (by decide +kernel)
  rcases List.mem_cons.mp ht with rfl | ht
  · exact TT_in (i := 1152) (by decide +kernel) (by decide +kernel)
  rcases List.mem_cons.mp ht with rfl | ht
  · exact TT_in (i := 30) (by decide +kernel) (by decide +kernel)
  rcases List.mem_cons.mp ht with rfl | ht
  · exact TT_in (i := 1163) (by decide +kernel) (by decide +kernel)
  exact ht, ⟨by decide +kernel, by decide +kernel⟩⟩
set_option maxHeartbeats 4000000 in
set_option maxRecDepth 100000 in
theorem c_aps (l : Launch) {w : Wc} (had : Ad w) {j b m i : Nat} {z : Shp} {x : List Nat} (M : Mem) (h : SBS z M j b m x) (hi : i < 12) (hj : j < 800) (hq2 : nc (x.length + lenS i) m ≤ 1000) : CtG l y_aps b_aps 3 (some (.object "java/lang/AbstractStringBuilder")) (rmC 4 (gr (x.length + lenS i) m) (gs (x.length + lenS i) m)) w j z [.ref (wad w 146), .ref (wad w (1000 + i))] M (QgR w (j + gr (x.length + lenS i) m) 146 (fun z2 M2 => SBS z2 M2 (j + gr (x.length + lenS i) m) (nb (x.length + lenS i) m b j) (nc (x.length + lenS i) m) (x ++ txS i) ∧ SFr z M z2 M2)) := by
  have hh := h
  have hdl := (txS_f i hi).1
  obtain ⟨h1, h2, h3, h4, h5, h6, h7, h8, h9, h10, h11, h12, h13, h14⟩ := h
  have hle : x.length + lenS i ≤ nc (x.length + lenS i) m := by
    unfold nc
    by_cases hc : x.length + lenS i ≤ m
    · rw [if_pos hc]; exact hc
    · rw [if_neg hc]; omega
  refine CtG.go (by decide) (L := [(0, .ref (wad w 146)), (1, .ref (wad w (1000 + i)))]) rfl (Nat.le_of_ble_eq_true rfl) (fun p0 e s mm args below meth c hnm hsz hao g hret => ?_)
  refine G_aload_n g (pc := 0) 1 d_aps_0 rfl rfl ?_
  refine G_ifnn g (pc := 1) 9 d_aps_1 (by decide) ?_
  refine G_aload_n g (pc := 9) 1 d_aps_9 rfl rfl ?_
  refine G_gI0 (RG_T g (pc := 10) (i := i) (As := []) (st := []) had hao (by omega) (by omega) hsz cj_A_32 rfl (c_tlen l had hi (by omega) (by omega) M) hi rfl ⟨(Nat.le_of_ble_eq_true rfl), (Nat.le_of_ble_eq_true rfl)⟩ ⟨Nat.zero_le _, Nat.zero_le _⟩ (Nat.le_of_ble_eq_true rfl) d_aps_10) (fun z9 M9 hy9 => ?_)
  obtain ⟨rfl, rfl⟩ := hy9
  refine G_istore_n g (pc := 13) _ d_aps_13 rfl (Nat.le_of_ble_eq_true rfl) rfl ?_
  refine G_aload_n g (pc := 14) 1 d_aps_14 rfl rfl ?_
  refine G_aload_n g (pc := 15) 1 d_aps_15 rfl rfl ?_
  refine G_get g (pc := 16) fa_A_79 (List.mem_range.mpr h1) h5 d_aps_16 ?_
  refine Go.top (y := (nI x.length)) h11 ?_
  refine G_iload_n g (pc := 19) 0 d_aps_19 rfl rfl ?_
  refine G_iadd g (pc := 20) d_aps_20 ?_
  refine Go.top (y := nI (x.length + lenS i)) (nI_add _ _) ?_
  refine G_gV (RG_P g (pc := 21) (q := 146) (As := [.int (nI (x.length + lenS i))]) (st := []) had hao (by omega) (by omega) hsz cj_A_100 (c_ens l had M9 hh hj hq2) (List.mem_range.mpr h1) h5 rfl ⟨(Nat.le_of_ble_eq_true rfl), (Nat.le_of_ble_eq_true rfl)⟩ ⟨(by show 0 + gr (x.length + lenS i) m ≤ gr (x.length + lenS i) m; omega), (by show 0 + gs (x.length + lenS i) m ≤ gs (x.length + lenS i) m; omega)⟩ (Nat.le_of_ble_eq_true rfl) d_aps_21) (fun z3 M3 hy3 => ?_)
  obtain ⟨hS2, hF2⟩ := hy3
  have hgr : gr (x.length + lenS i) m ≤ 1 := by unfold gr; split <;> omega
  have g1 := Gd.wg (z2 := z3) (j2 := j + gr (x.length + lenS i) m) had (by omega) g
  have hs2 := hS2
  obtain ⟨k1, k2, k3, k4, k5, k6, k7, k8, k9, k10, k11, k12, k13, k14⟩ := hS2
  refine G_aload_n g1 (pc := 24) 1 d_aps_24 rfl rfl ?_
  refine G_aload_n g1 (pc := 25) 1 d_aps_25 rfl rfl ?_
  refine G_get g1 (pc := 26) fa_A_79 (List.mem_range.mpr k1) k5 d_aps_26 ?_
  refine Go.top (y := (nI x.length)) k11 ?_
  refine G_aload_n g1 (pc := 29) 2 d_aps_29 rfl rfl ?_
  refine G_gV0 (RG_P g1 (pc := 30) (q := 146) (As := [.int (nI x.length), .ref (wad w (1000 + i))]) (st := []) had hao (by omega) (by omega) (by omega) cj_A_208 (c_pst l had M3 hs2 hi hle) (List.mem_range.mpr k1) k5 rfl ⟨(Nat.le_of_ble_eq_true rfl), (Nat.le_of_ble_eq_true rfl)⟩ ⟨(by show 0 + gr (x.length + lenS i) m + 0 ≤ gr (x.length + lenS i) m; omega), (by show 0 + gs (x.length + lenS i) m + 0 ≤ gs (x.length + lenS i) m; omega)⟩ (Nat.le_of_ble_eq_true rfl) d_aps_30) (fun z4 M4 hy4 => ?_)
  obtain ⟨rfl, hM4⟩ := hy4
  have hne : (146 : Nat) ≠ nb (x.length + lenS i) m b j := by omega
  have k11b : M4 146 3 = nI x.length := by rw [hM4, setR_ne hne]; exact k11
  refine G_aload_n g1 (pc := 33) 1 d_aps_33 rfl rfl ?_
  refine G_dup g1 (pc := 34) d_aps_34 rfl ?_
  refine G_get g1 (pc := 35) fa_A_79 (List.mem_range.mpr k1) k5 d_aps_35 ?_
  refine Go.top (y := (nI x.length)) k11b ?_
  refine G_iload_n g1 (pc := 38) 0 d_aps_38 rfl rfl ?_
  refine G_iadd g1 (pc := 39) d_aps_39 ?_
  refine Go.top (y := nI (x.length + lenS i)) (nI_add _ _) ?_
  refine G_put g1 (pc := 40) (q := 146) fa_A_79 fw_10_3 rfl rfl (List.mem_range.mpr k1) k5 d_aps_40 ?_
  refine G_aload_n g1 (pc := 43) 1 d_aps_43 rfl rfl ?_
  refine G_gretR g1 (pc := 44) (q := 146) ⟨hs2.cat (txS i) (by rw [txS_len]; exact hle) (fun k hk => by rw [put_row, upd_at, if_neg hk, hM4, setR_ne hne]) (by rw [put_row, upd_at, if_pos rfl, txS_len]) (fun i2 hi2 => by rw [put_ne hne.symm, hM4, setR_self, pk_cpy_out (by omega)]) (fun i2 hi2 => ?_) (by rw [put_ne hne.symm, hM4, setR_self]; exact fB_cpy (bytS_fit hi) k14), fun p hp => ⟨(hF2 p hp).1, ?_⟩⟩ hret (Or.inl ⟨_, rfl⟩) (by show 0 + gr (x.length + lenS i) m ≤ gr (x.length + lenS i) m; omega) (by show 0 + gs (x.length + lenS i) m ≤ gs (x.length + lenS i) m; omega) d_aps_44
  · rw [txS_len] at hi2
    rw [put_ne hne.symm, hM4, setR_self, pk_cpy_in (by omega) (by omega), show 0 + (x.length + i2 - x.length) = i2 from by omega]
    exact ((txS_f i hi).2 i2 hi2).1
  · rw [put_ne (by omega), hM4, setR_ne (by omega)]
    exact (hF2 p hp).2
set_option maxHeartbeats 4000000 in
set_option maxRecDepth 100000 in
theorem c_saps (l : Launch) {w : Wc} (had : Ad w) {j b m i : Nat} {z : Shp} {x : List Nat} (M : Mem) (h : SBS z M j b m x) (hi : i < 12) (hj : j < 800) (hq2 : nc (x.length + lenS i) m ≤ 1000) : CtG l y_saps b_saps 2 (some (.object "java/lang/StringBuilder")) (rmC 5 (gr (x.length + lenS i) m) (gs (x.length + lenS i) m)) w j z [.ref (wad w 146), .ref (wad w (1000 + i))] M (QgR w (j + gr (x.length + lenS i) m) 146 (fun z2 M2 => SBS z2 M2 (j + gr (x.length + lenS i) m) (nb (x.length + lenS i) m b j) (nc (x.length + lenS i) m) (x ++ txS i) ∧ SFr z M z2 M2)) := by
  refine CtG.go (by decide) (L := [(0, .ref (wad w 146)), (1, .ref (wad w (1000 + i)))]) rfl (Nat.le_of_ble_eq_true rfl) (fun p0 e s mm args below meth c hnm hsz hao g hret => ?_)
  refine G_aload_n g (pc := 0) 0 d_saps_0 rfl rfl ?_
  refine G_aload_n g (pc := 1) 1 d_saps_1 rfl rfl ?_
  refine G_gR (RG_SU g (pc := 2) (q := 146) (As := [.ref (wad w (1000 + i))]) (st := []) had hao (by omega) (by have := h.1; omega) hsz cj_U_29 (c_aps l had M h hi hj hq2) (List.mem_range.mpr h.1) h.2.2.2.2.1 rfl ⟨(Nat.le_of_ble_eq_true rfl), (Nat.le_of_ble_eq_true rfl)⟩ ⟨(by show 0 + gr (x.length + lenS i) m ≤ gr (x.length + lenS i) m; omega), (by show 0 + gs (x.length + lenS i) m ≤ gs (x.length + lenS i) m; omega)⟩ (Nat.le_of_ble_eq_true rfl) d_saps_2) (fun z2 M2 hh => ?_)
  have hgr : gr (x.length + lenS i) m ≤ 1 := by unfold gr; split <;> omega
  have g1 := Gd.wg (z2 := z2) (j2 := j + gr (x.length + lenS i) m) had (by omega) g
  refine G_pop g1 (pc := 5) d_saps_5 rfl ?_
  refine G_aload_n g1 (pc := 6) 0 d_saps_6 rfl rfl ?_
  exact G_gretR g1 (pc := 7) (q := 146) hh hret (Or.inl ⟨_, rfl⟩) (by show 0 + gr (x.length + lenS i) m ≤ gr (x.length + lenS i) m; omega) (by show 0 + gs (x.length + lenS i) m ≤ gs (x.length + lenS i) m; omega) d_saps_7
