/-! the texts' own methods: length, charAt -/
abbrev b_Str_length : ByteArray := prog_22_method_54_code
abbrev y_Str_length : MethodName := ⟨"java/lang/String", "length", "()I"⟩
abbrev b_Str_charAt : ByteArray := prog_22_method_56_code
abbrev y_Str_charAt : MethodName := ⟨"java/lang/String", "charAt", "(I)C"⟩
abbrev b_Str_coder : ByteArray := prog_22_method_152_code
abbrev y_Str_coder : MethodName := ⟨"java/lang/String", "coder", "()B"⟩
abbrev b_Str_isLatin1 : ByteArray := prog_22_method_154_code
abbrev y_Str_isLatin1 : MethodName := ⟨"java/lang/String", "isLatin1", "()Z"⟩
abbrev b_Str_checkIndex : ByteArray := prog_22_method_155_code
abbrev y_Str_checkIndex : MethodName := ⟨"java/lang/String", "checkIndex", "(II)V"⟩
abbrev b_La_charAt : ByteArray := prog_24_method_2_code
abbrev y_La_charAt : MethodName := ⟨"java/lang/StringLatin1", "charAt", "([BI)C"⟩
abbrev b_Pc_checkIndex : ByteArray := prog_30_method_11_code
abbrev y_Pc_checkIndex : MethodName := ⟨"jdk/internal/util/Preconditions", "checkIndex", "(IILjava/util/function/BiFunction;)I"⟩
theorem d_Str_length_0 : decode b_Str_length 0 = .ok (.aload_n 0, 1) := by decide +kernel
theorem d_Str_length_1 : decode b_Str_length 1 = .ok (.getfield 9, 3) := by decide +kernel
theorem d_Str_length_4 : decode b_Str_length 4 = .ok (.arraylength, 1) := by decide +kernel
theorem d_Str_length_5 : decode b_Str_length 5 = .ok (.aload_n 0, 1) := by decide +kernel
theorem d_Str_length_6 : decode b_Str_length 6 = .ok (.invokevirtual 335, 3) := by decide +kernel
theorem d_Str_length_9 : decode b_Str_length 9 = .ok (.ishr, 1) := by decide +kernel
theorem d_Str_length_10 : decode b_Str_length 10 = .ok (.ireturn, 1) := by decide +kernel
theorem d_Str_charAt_0 : decode b_Str_charAt 0 = .ok (.aload_n 0, 1) := by decide +kernel
theorem d_Str_charAt_1 : decode b_Str_charAt 1 = .ok (.invokevirtual 492, 3) := by decide +kernel
theorem d_Str_charAt_4 : decode b_Str_charAt 4 = .ok (.ifCond .eq 12, 3) := by decide +kernel
theorem d_Str_charAt_7 : decode b_Str_charAt 7 = .ok (.aload_n 0, 1) := by decide +kernel
theorem d_Str_charAt_8 : decode b_Str_charAt 8 = .ok (.getfield 9, 3) := by decide +kernel
theorem d_Str_charAt_11 : decode b_Str_charAt 11 = .ok (.iload_n 1, 1) := by decide +kernel
theorem d_Str_charAt_12 : decode b_Str_charAt 12 = .ok (.invokestatic 495, 3) := by decide +kernel
theorem d_Str_charAt_15 : decode b_Str_charAt 15 = .ok (.ireturn, 1) := by decide +kernel
theorem d_Str_charAt_16 : decode b_Str_charAt 16 = .ok (.aload_n 0, 1) := by decide +kernel
theorem d_Str_charAt_17 : decode b_Str_charAt 17 = .ok (.getfield 9, 3) := by decide +kernel
theorem d_Str_charAt_20 : decode b_Str_charAt 20 = .ok (.iload_n 1, 1) := by decide +kernel
theorem d_Str_charAt_21 : decode b_Str_charAt 21 = .ok (.invokestatic 498, 3) := by decide +kernel
theorem d_Str_charAt_24 : decode b_Str_charAt 24 = .ok (.ireturn, 1) := by decide +kernel
theorem d_Str_coder_0 : decode b_Str_coder 0 = .ok (.getstatic 38, 3) := by decide +kernel
theorem d_Str_coder_3 : decode b_Str_coder 3 = .ok (.ifCond .eq 10, 3) := by decide +kernel
theorem d_Str_coder_6 : decode b_Str_coder 6 = .ok (.aload_n 0, 1) := by decide +kernel
theorem d_Str_coder_7 : decode b_Str_coder 7 = .ok (.getfield 15, 3) := by decide +kernel
theorem d_Str_coder_10 : decode b_Str_coder 10 = .ok (.goto 4, 3) := by decide +kernel
theorem d_Str_coder_13 : decode b_Str_coder 13 = .ok (.iconst 1, 1) := by decide +kernel
theorem d_Str_coder_14 : decode b_Str_coder 14 = .ok (.ireturn, 1) := by decide +kernel
theorem d_Str_isLatin1_0 : decode b_Str_isLatin1 0 = .ok (.getstatic 38, 3) := by decide +kernel
theorem d_Str_isLatin1_3 : decode b_Str_isLatin1 3 = .ok (.ifCond .eq 14, 3) := by decide +kernel
theorem d_Str_isLatin1_6 : decode b_Str_isLatin1 6 = .ok (.aload_n 0, 1) := by decide +kernel
theorem d_Str_isLatin1_7 : decode b_Str_isLatin1 7 = .ok (.getfield 15, 3) := by decide +kernel
theorem d_Str_isLatin1_10 : decode b_Str_isLatin1 10 = .ok (.ifCond .ne 7, 3) := by decide +kernel
theorem d_Str_isLatin1_13 : decode b_Str_isLatin1 13 = .ok (.iconst 1, 1) := by decide +kernel
theorem d_Str_isLatin1_14 : decode b_Str_isLatin1 14 = .ok (.goto 4, 3) := by decide +kernel
theorem d_Str_isLatin1_17 : decode b_Str_isLatin1 17 = .ok (.iconst 0, 1) := by decide +kernel
theorem d_Str_isLatin1_18 : decode b_Str_isLatin1 18 = .ok (.ireturn, 1) := by decide +kernel
theorem d_Str_checkIndex_0 : decode b_Str_checkIndex 0 = .ok (.iload_n 0, 1) := by decide +kernel
theorem d_Str_checkIndex_1 : decode b_Str_checkIndex 1 = .ok (.iload_n 1, 1) := by decide +kernel
theorem d_Str_checkIndex_2 : decode b_Str_checkIndex 2 = .ok (.getstatic 1053, 3) := by decide +kernel
theorem d_Str_checkIndex_5 : decode b_Str_checkIndex 5 = .ok (.invokestatic 1059, 3) := by decide +kernel
theorem d_Str_checkIndex_8 : decode b_Str_checkIndex 8 = .ok (.pop, 1) := by decide +kernel
theorem d_Str_checkIndex_9 : decode b_Str_checkIndex 9 = .ok (.return_, 1) := by decide +kernel
theorem d_La_charAt_0 : decode b_La_charAt 0 = .ok (.iload_n 1, 1) := by decide +kernel
theorem d_La_charAt_1 : decode b_La_charAt 1 = .ok (.aload_n 0, 1) := by decide +kernel
theorem d_La_charAt_2 : decode b_La_charAt 2 = .ok (.arraylength, 1) := by decide +kernel
theorem d_La_charAt_3 : decode b_La_charAt 3 = .ok (.invokestatic 9, 3) := by decide +kernel
theorem d_La_charAt_6 : decode b_La_charAt 6 = .ok (.aload_n 0, 1) := by decide +kernel
theorem d_La_charAt_7 : decode b_La_charAt 7 = .ok (.iload_n 1, 1) := by decide +kernel
theorem d_La_charAt_8 : decode b_La_charAt 8 = .ok (.baload, 1) := by decide +kernel
theorem d_La_charAt_9 : decode b_La_charAt 9 = .ok (.sipush 255, 3) := by decide +kernel
theorem d_La_charAt_12 : decode b_La_charAt 12 = .ok (.iand, 1) := by decide +kernel
theorem d_La_charAt_13 : decode b_La_charAt 13 = .ok (.i2c, 1) := by decide +kernel
theorem d_La_charAt_14 : decode b_La_charAt 14 = .ok (.ireturn, 1) := by decide +kernel
theorem d_Pc_checkIndex_0 : decode b_Pc_checkIndex 0 = .ok (.iload_n 0, 1) := by decide +kernel
theorem d_Pc_checkIndex_1 : decode b_Pc_checkIndex 1 = .ok (.ifCond .lt 8, 3) := by decide +kernel
theorem d_Pc_checkIndex_4 : decode b_Pc_checkIndex 4 = .ok (.iload_n 0, 1) := by decide +kernel
theorem d_Pc_checkIndex_5 : decode b_Pc_checkIndex 5 = .ok (.iload_n 1, 1) := by decide +kernel
theorem d_Pc_checkIndex_6 : decode b_Pc_checkIndex 6 = .ok (.if_icmp .lt 10, 3) := by decide +kernel
theorem d_Pc_checkIndex_9 : decode b_Pc_checkIndex 9 = .ok (.aload_n 2, 1) := by decide +kernel
theorem d_Pc_checkIndex_10 : decode b_Pc_checkIndex 10 = .ok (.iload_n 0, 1) := by decide +kernel
theorem d_Pc_checkIndex_11 : decode b_Pc_checkIndex 11 = .ok (.iload_n 1, 1) := by decide +kernel
theorem d_Pc_checkIndex_12 : decode b_Pc_checkIndex 12 = .ok (.invokestatic 95, 3) := by decide +kernel
theorem d_Pc_checkIndex_15 : decode b_Pc_checkIndex 15 = .ok (.athrow, 1) := by decide +kernel
theorem d_Pc_checkIndex_16 : decode b_Pc_checkIndex 16 = .ok (.iload_n 0, 1) := by decide +kernel
theorem d_Pc_checkIndex_17 : decode b_Pc_checkIndex 17 = .ok (.ireturn, 1) := by decide +kernel
theorem cj_len_coder : CV "java/lang/String" 335 y_Str_coder b_Str_coder 1 (some .byte) 0 := ⟨TT_in (i := 518) (by decide +kernel) (by decide +kernel), TT_in (i := 519) (by decide +kernel) (by decide +kernel), TT_in (i := 520) (by decide +kernel) (by decide +kernel), TT_in (i := 32) (by decide +kernel) (by decide +kernel), TT_in (i := 521) (by decide +kernel) (by decide +kernel), ⟨by decide +kernel, by decide +kernel, by decide +kernel⟩⟩
theorem cj_chr_lat : CV "java/lang/String" 492 y_Str_isLatin1 b_Str_isLatin1 1 (some .boolean) 0 := ⟨TT_in (i := 528) (by decide +kernel) (by decide +kernel), TT_in (i := 529) (by decide +kernel) (by decide +kernel), TT_in (i := 530) (by decide +kernel) (by decide +kernel), TT_in (i := 32) (by decide +kernel) (by decide +kernel), TT_in (i := 531) (by decide +kernel) (by decide +kernel), ⟨by decide +kernel, by decide +kernel, by decide +kernel⟩⟩
theorem cj_chr_la : CS "java/lang/String" 495 y_La_charAt b_La_charAt 2 (some .char) 2 := ⟨TT_in (i := 532) (by decide +kernel) (by decide +kernel), TT_in (i := 533) (by decide +kernel) (by decide +kernel), TT_in (i := 37) (by decide +kernel) (by decide +kernel), TT_in (i := 534) (by decide +kernel) (by decide +kernel), ⟨by decide +kernel, by decide +kernel, by decide +kernel⟩⟩
theorem cj_la_chk : CS "java/lang/StringLatin1" 9 y_Str_checkIndex b_Str_checkIndex 2 none 2 := ⟨TT_in (i := 535) (by decide +kernel) (by decide +kernel), TT_in (i := 536) (by decide +kernel) (by decide +kernel), TT_in (i := 32) (by decide +kernel) (by decide +kernel), TT_in (i := 537) (by decide +kernel) (by decide +kernel), ⟨by decide +kernel, by decide +kernel, by decide +kernel⟩⟩
theorem cj_chk_pc : CS "java/lang/String" 1059 y_Pc_checkIndex b_Pc_checkIndex 3 (some .int) 3 := ⟨TT_in (i := 540) (by decide +kernel) (by decide +kernel), TT_in (i := 541) (by decide +kernel) (by decide +kernel), TT_in (i := 36) (by decide +kernel) (by decide +kernel), TT_in (i := 542) (by decide +kernel) (by decide +kernel), ⟨by decide +kernel, by decide +kernel, by decide +kernel⟩⟩
theorem fl_val : Cond.fieldLink "java/lang/String" 9 "java/lang/String" "value" "[B" ∈ TT := TT_in (i := 1347) (by decide +kernel) (by decide +kernel)
theorem fl_cod : Cond.fieldLink "java/lang/String" 15 "java/lang/String" "coder" "B" ∈ TT := TT_in (i := 1348) (by decide +kernel) (by decide +kernel)
theorem fl_cmp : Cond.fieldLink "java/lang/String" 38 "java/lang/String" "COMPACT_STRINGS" "Z" ∈ TT := TT_in (i := 522) (by decide +kernel) (by decide +kernel)
theorem fl_fmt : Cond.fieldLink "java/lang/String" 1053 "jdk/internal/util/Preconditions" "SIOOBE_FORMATTER" "Ljava/util/function/BiFunction;" ∈ TT := TT_in (i := 538) (by decide +kernel) (by decide +kernel)
theorem lenS_lt : ∀ i, i < 12 → lenS i < 2 ^ 31 := by decide +kernel
theorem bytS_ch : ∀ i, i < 12 → ∀ j, j < lenS i → ((bytS i j &&& 255).toUInt32 % 65536).toInt32 = bytS i j ∧ narrow .char (.int (bytS i j)) = .int (bytS i j) := by decide +kernel
theorem bytS_nar : ∀ i, i < 12 → ∀ j, j < lenS i → ((bytS i j).toUInt32 % 65536).toInt32 = bytS i j := by decide +kernel
def f_Str_length (i : Nat) (M : Mem) : Option (Int32 × Mem) := some (nI (lenS i), M)
def f_Str_charAt (i : Nat) (k : Int32) (M : Mem) : Option (Int32 × Mem) := grd (inB k (lenS i)) (some (bytS i k.toNatClampNeg, M))
set_option maxHeartbeats 4000000 in
set_option maxRecDepth 100000 in
theorem c_Str_coder (l : Launch) {w : Wc} (i : Nat) (hi : i < 12) (M : Mem) : Ct QI l y_Str_coder b_Str_coder 1 (some .byte) (rmL 0) w [.ref (wad w (1000 + i))] M (some (0, M)) := by
  refine Ct.go (by decide) (L := [(0, .ref (wad w (1000 + i)))]) rfl (Nat.le_of_ble_eq_true rfl) (fun p0 e s m args below meth c g hret => ?_)
  obtain ⟨hO, hcod, hval, hT⟩ := g.2.2.2.2.2.2.2.1.1 i hi
  refine G_gets g (pc := 0) fl_cmp g.2.2.2.2.2.2.2.1.2.2.2.2.2.1 d_Str_coder_0 ?_
  refine G_ifF_eq g (pc := 3) (off := 10) 13 (by decide) d_Str_coder_3 (by decide) ?_
  refine G_aload_n g (pc := 6) 0 d_Str_coder_6 rfl rfl ?_
  refine G_sget g (pc := 7) fl_cod hcod d_Str_coder_7 ?_
  refine G_goto g (pc := 10) 14 d_Str_coder_10 (by decide) ?_
  exact G_nreturn g (pc := 14) hret rfl (Nat.le_of_ble_eq_true rfl) (Nat.le_of_ble_eq_true rfl) d_Str_coder_14
set_option maxHeartbeats 4000000 in
set_option maxRecDepth 100000 in
theorem c_Str_length0 (l : Launch) {w : Wc} (i : Nat) (hi : i < 12) (M : Mem) : Ct QI l y_Str_length b_Str_length 1 (some .int) (rmL 1) w [.ref (wad w (1000 + i))] M (bnd (some ((0 : Int32), M)) (fun (x : Int32) (M1 : Mem) => some (nI (lenS i) >>> (x &&& 31), M1))) := by
  refine Ct.go (by decide) (L := [(0, .ref (wad w (1000 + i)))]) rfl (Nat.le_of_ble_eq_true rfl) (fun p0 e s m args below meth c g hret => ?_)
  obtain ⟨hO, hcod, hval, hT⟩ := g.2.2.2.2.2.2.2.1.1 i hi
  refine G_aload_n g (pc := 0) 0 d_Str_length_0 rfl rfl ?_
  refine G_sget g (pc := 1) fl_val hval d_Str_length_1 ?_
  refine G_tlen g (pc := 4) (nI (lenS i)) hT rfl d_Str_length_4 ?_
  refine G_aload_n g (pc := 5) 0 d_Str_length_5 rfl rfl ?_
  refine G_cStr g (pc := 6) (As := []) (st := [.int (nI (lenS i))]) cj_len_coder rfl (c_Str_coder l i hi M) hi rfl ⟨Nat.le_of_ble_eq_true rfl, Nat.le_of_ble_eq_true rfl⟩ ⟨Nat.le_of_ble_eq_true rfl, Nat.le_of_ble_eq_true rfl⟩ (Nat.le_of_ble_eq_true rfl) d_Str_length_6 (fun x M1 => ?_)
  refine G_ishr g (pc := 9) d_Str_length_9 ?_
  exact G_ireturn g (pc := 10) hret (Nat.le_of_ble_eq_true rfl) (Nat.le_of_ble_eq_true rfl) d_Str_length_10
theorem c_Str_length (l : Launch) {w : Wc} (i : Nat) (hi : i < 12) (M : Mem) : Ct QI l y_Str_length b_Str_length 1 (some .int) (rmL 1) w [.ref (wad w (1000 + i))] M (f_Str_length i M) := by
  refine Ct.mono (fun r hr => ?_) (c_Str_length0 l i hi M)
  have h1 : nI (lenS i) >>> ((0 : Int32) &&& 31) = nI (lenS i) := Int32.toInt_inj.mp (by rw [pk_shr _ _ 0 (by decide)]; simp)
  show some (nI (lenS i) >>> ((0 : Int32) &&& 31), M) = some r
  rw [h1]
  exact hr
set_option maxHeartbeats 4000000 in
set_option maxRecDepth 100000 in
theorem c_Str_isLatin1 (l : Launch) {w : Wc} (i : Nat) (hi : i < 12) (M : Mem) : Ct QI l y_Str_isLatin1 b_Str_isLatin1 1 (some .boolean) (rmL 0) w [.ref (wad w (1000 + i))] M (some (1, M)) := by
  refine Ct.go (by decide) (L := [(0, .ref (wad w (1000 + i)))]) rfl (Nat.le_of_ble_eq_true rfl) (fun p0 e s m args below meth c g hret => ?_)
  obtain ⟨hO, hcod, hval, hT⟩ := g.2.2.2.2.2.2.2.1.1 i hi
  refine G_gets g (pc := 0) fl_cmp g.2.2.2.2.2.2.2.1.2.2.2.2.2.1 d_Str_isLatin1_0 ?_
  refine G_ifF_eq g (pc := 3) (off := 14) 17 (by decide) d_Str_isLatin1_3 (by decide) ?_
  refine G_aload_n g (pc := 6) 0 d_Str_isLatin1_6 rfl rfl ?_
  refine G_sget g (pc := 7) fl_cod hcod d_Str_isLatin1_7 ?_
  refine G_ifF_ne g (pc := 10) (off := 7) 17 (by decide) d_Str_isLatin1_10 (by decide) ?_
  refine G_iconst g (pc := 13) (1 : Int32) d_Str_isLatin1_13 rfl ?_
  refine G_goto g (pc := 14) 18 d_Str_isLatin1_14 (by decide) ?_
  exact G_nreturn g (pc := 18) hret rfl (Nat.le_of_ble_eq_true rfl) (Nat.le_of_ble_eq_true rfl) d_Str_isLatin1_18
set_option maxHeartbeats 4000000 in
set_option maxRecDepth 100000 in
theorem c_Pc_checkIndex (l : Launch) {w : Wc} (x y : Int32) (v : Value) (hv : v = .null ∨ ∃ t, v = .ref t) (M : Mem) : Ct QI l y_Pc_checkIndex b_Pc_checkIndex 3 (some .int) (rmL 0) w [.int x, .int y, v] M (if x < 0 then none else if x < y then some (x, M) else none) := by
  have hL : lv_args 0 [.int x, .int y, v] = [(0, .int x), (1, .int y), (2, v)] := by rcases hv with rfl | ⟨t, rfl⟩ <;> rfl
  have hs : (lg_sl [.int x, .int y, v]).length ≤ 3 := by rcases hv with rfl | ⟨t, rfl⟩ <;> exact Nat.le_of_ble_eq_true rfl
  refine Ct.go (by decide) hL hs (fun p0 e s m args below meth c g hret => ?_)
  refine G_iload_n g (pc := 0) 0 d_Pc_checkIndex_0 rfl rfl ?_
  refine G_if_lt g (pc := 1) 9 d_Pc_checkIndex_1 (by decide) G_none ?_
  refine G_iload_n g (pc := 4) 0 d_Pc_checkIndex_4 rfl rfl ?_
  refine G_iload_n g (pc := 5) 1 d_Pc_checkIndex_5 rfl rfl ?_
  refine G_icmp_lt g (pc := 6) 16 d_Pc_checkIndex_6 (by decide) ?_ G_none
  refine G_iload_n g (pc := 16) 0 d_Pc_checkIndex_16 rfl rfl ?_
  exact G_ireturn g (pc := 17) hret (Nat.le_of_ble_eq_true rfl) (Nat.le_of_ble_eq_true rfl) d_Pc_checkIndex_17
set_option maxHeartbeats 4000000 in
set_option maxRecDepth 100000 in
theorem c_Str_checkIndex (l : Launch) {w : Wc} (x y : Int32) (M : Mem) : Ct QV l y_Str_checkIndex b_Str_checkIndex 2 none (rmL 1) w [.int x, .int y] M (bnd (if x < 0 then none else if x < y then some (x, M) else none) (fun _ M1 => some M1)) := by
  refine Ct.go (by decide) (L := [(0, .int x), (1, .int y)]) rfl (Nat.le_of_ble_eq_true rfl) (fun p0 e s m args below meth c g hret => ?_)
  refine G_iload_n g (pc := 0) 0 d_Str_checkIndex_0 rfl rfl ?_
  refine G_iload_n g (pc := 1) 1 d_Str_checkIndex_1 rfl rfl ?_
  have key : ∀ v : Value, (v = .null ∨ ∃ t, v = .ref t) → Go p0 l e (rmL 1) s m args below meth c w 2 0 0 (fun r => MQ below (QV w r) args s (rmL 1).cells (rmL 1).slots (wA w)) (bnd (if x < 0 then none else if x < y then some (x, M) else none) (fun _ M1 => some M1)) (2 + 3) [(0, .int x), (1, .int y)] (v :: .int y :: .int x :: []) M := by
    intro v hv
    refine G_cSI g (pc := 5) (As := [.int x, .int y, v]) (st := []) cj_chk_pc (c_Pc_checkIndex l x y v hv M) rfl ⟨Nat.le_of_ble_eq_true rfl, Nat.le_of_ble_eq_true rfl⟩ ⟨Nat.le_of_ble_eq_true rfl, Nat.le_of_ble_eq_true rfl⟩ (Nat.le_of_ble_eq_true rfl) d_Str_checkIndex_5 (fun z M1 => ?_)
    refine G_pop g (pc := 8) d_Str_checkIndex_8 rfl ?_
    exact G_return g (pc := 9) hret (Nat.le_of_ble_eq_true rfl) (Nat.le_of_ble_eq_true rfl) d_Str_checkIndex_9
  rcases g.2.2.2.2.2.2.2.1.2.2.2.2.2.2.1 with hz | ⟨t, hz⟩
  · exact G_gets g (pc := 2) fl_fmt hz d_Str_checkIndex_2 (key _ (Or.inl rfl))
  · exact G_gets g (pc := 2) fl_fmt hz d_Str_checkIndex_2 (key _ (Or.inr ⟨t, rfl⟩))
set_option maxHeartbeats 4000000 in
set_option maxRecDepth 100000 in
theorem c_La_charAt (l : Launch) {w : Wc} (i : Nat) (hi : i < 12) (k : Int32) (M : Mem) : Ct QI l y_La_charAt b_La_charAt 2 (some .char) (rmL 2) w [.ref (wad w (2000 + i)), .int k] M (f_Str_charAt i k M) := by
  refine Ct.go (by decide) (L := [(0, .ref (wad w (2000 + i))), (1, .int k)]) rfl (Nat.le_of_ble_eq_true rfl) (fun p0 e s m args below meth c g hret => ?_)
  obtain ⟨hO, hcod, hval, hT⟩ := g.2.2.2.2.2.2.2.1.1 i hi
  intro r hr
  obtain ⟨h0, h1⟩ := grd_some hr
  have hin := inB_of h0
  unfold inB at h0
  simp only [Bool.and_eq_true, Bool.not_eq_true', decide_eq_false_iff_not, decide_eq_true_eq] at h0
  have hlt : k.toNatClampNeg < lenS i := h0.2
  have hkn : k < nI (lenS i) := by
    have hL := lenS_lt i hi
    obtain ⟨j, hj, rfl⟩ := vp_in_of hin hL
    exact nI_lt hj hL
  obtain ⟨hb1, hb2⟩ := bytS_ch i hi _ hlt
  have e1 : (bnd (if k < 0 then none else if k < nI (lenS i) then some (k, M) else none) (fun _ M1 => some M1)) = some M := by rw [if_neg h0.1, if_pos hkn]; rfl
  have key : Go p0 l e (rmL 2) s m args below meth c w 2 0 0 (fun r => MQ below (QI w r) args s (rmL 2).cells (rmL 2).slots (wA w)) (bndM (bnd (if k < 0 then none else if k < nI (lenS i) then some (k, M) else none) (fun _ M1 => some M1)) (fun M1 => some (bytS i k.toNatClampNeg, M1))) 0 [(0, .ref (wad w (2000 + i))), (1, .int k)] [] M := by
    refine G_iload_n g (pc := 0) 1 d_La_charAt_0 rfl rfl ?_
    refine G_aload_n g (pc := 1) 0 d_La_charAt_1 rfl rfl ?_
    refine G_tlen g (pc := 2) (nI (lenS i)) hT rfl d_La_charAt_2 ?_
    refine G_cSV g (pc := 3) (As := [.int k, .int (nI (lenS i))]) (st := []) cj_la_chk (c_Str_checkIndex l k (nI (lenS i)) M) rfl ⟨Nat.le_of_ble_eq_true rfl, Nat.le_of_ble_eq_true rfl⟩ ⟨Nat.le_of_ble_eq_true rfl, Nat.le_of_ble_eq_true rfl⟩ (Nat.le_of_ble_eq_true rfl) d_La_charAt_3 (fun M1 => ?_)
    refine G_aload_n g (pc := 6) 0 d_La_charAt_6 rfl rfl ?_
    refine G_iload_n g (pc := 7) 1 d_La_charAt_7 rfl rfl ?_
    refine G_tb g (pc := 8) _ hT hin rfl d_La_charAt_8 ?_
    refine G_sipush g (pc := 9) (255 : Int32) d_La_charAt_9 rfl ?_
    refine G_iand g (pc := 12) d_La_charAt_12 ?_
    refine G_i2c g (pc := 13) d_La_charAt_13 ?_
    rw [hb1]
    exact G_nreturn g (pc := 14) hret hb2 (Nat.le_of_ble_eq_true rfl) (Nat.le_of_ble_eq_true rfl) d_La_charAt_14
  exact key r (by rw [e1]; exact h1)
theorem f_Str_charAt_nar {i : Nat} (hi : i < 12) {k : Int32} {M : Mem} {v : Int32 × Mem} (hv : f_Str_charAt i k M = some v) : narrow .char (.int v.1) = .int v.1 := by
  obtain ⟨h0, h1⟩ := grd_some hv
  unfold inB at h0
  simp only [Bool.and_eq_true, Bool.not_eq_true', decide_eq_false_iff_not, decide_eq_true_eq] at h0
  rw [← Option.some.inj h1]
  exact (bytS_ch i hi _ h0.2).2
def narB (x : Int32) : Bool := decide ((x.toUInt32 % 65536).toInt32 = x)
theorem narB_of {x : Int32} (h : narB x = true) : narrow .char (.int x) = .int x := by
  have h2 : (x.toUInt32 % 65536).toInt32 = x := of_decide_eq_true h
  have h3 := pk_nc x
  rw [h2] at h3
  exact h3
set_option maxHeartbeats 4000000 in
set_option maxRecDepth 100000 in
theorem c_Str_charAt0 (l : Launch) {w : Wc} (i : Nat) (hi : i < 12) (k : Int32) (M : Mem) : Ct QI l y_Str_charAt b_Str_charAt 2 (some .char) (rmL 3) w [.ref (wad w (1000 + i)), .int k] M (bnd (some ((1 : Int32), M)) (fun x M1 => if x = 0 then none else bnd (f_Str_charAt i k M1) (fun x M2 => grd (narB x) (some (x, M2))))) := by
  refine Ct.go (by decide) (L := [(0, .ref (wad w (1000 + i))), (1, .int k)]) rfl (Nat.le_of_ble_eq_true rfl) (fun p0 e s m args below meth c g hret => ?_)
  obtain ⟨hO, hcod, hval, hT⟩ := g.2.2.2.2.2.2.2.1.1 i hi
  refine G_aload_n g (pc := 0) 0 d_Str_charAt_0 rfl rfl ?_
  refine G_cStr g (pc := 1) (As := []) (st := []) cj_chr_lat rfl (c_Str_isLatin1 l i hi M) hi rfl ⟨Nat.le_of_ble_eq_true rfl, Nat.le_of_ble_eq_true rfl⟩ ⟨Nat.le_of_ble_eq_true rfl, Nat.le_of_ble_eq_true rfl⟩ (Nat.le_of_ble_eq_true rfl) d_Str_charAt_1 (fun x M1 => ?_)
  refine G_if_eq g (pc := 4) 16 d_Str_charAt_4 (by decide) (G_none (M := M1)) ?_
  refine G_aload_n g (pc := 7) 0 d_Str_charAt_7 rfl rfl ?_
  refine G_sget g (pc := 8) fl_val hval d_Str_charAt_8 ?_
  refine G_iload_n g (pc := 11) 1 d_Str_charAt_11 rfl rfl ?_
  refine G_cSI2 g (pc := 12) (As := [.ref (wad w (2000 + i)), .int k]) (st := []) cj_chr_la (c_La_charAt l i hi k M1) rfl ⟨Nat.le_of_ble_eq_true rfl, Nat.le_of_ble_eq_true rfl⟩ ⟨Nat.le_of_ble_eq_true rfl, Nat.le_of_ble_eq_true rfl⟩ (Nat.le_of_ble_eq_true rfl) d_Str_charAt_12 (fun x M2 => ?_)
  intro r hr
  obtain ⟨hg, hr⟩ := grd_some hr
  exact G_nreturn g (pc := 15) hret (narB_of hg) (Nat.le_of_ble_eq_true rfl) (Nat.le_of_ble_eq_true rfl) d_Str_charAt_15 r hr
theorem c_Str_charAt (l : Launch) {w : Wc} (i : Nat) (hi : i < 12) (k : Int32) (M : Mem) : Ct QI l y_Str_charAt b_Str_charAt 2 (some .char) (rmL 3) w [.ref (wad w (1000 + i)), .int k] M (f_Str_charAt i k M) := by
  refine Ct.mono (fun r hr => ?_) (c_Str_charAt0 l i hi k M)
  show (if (1 : Int32) = 0 then none else bnd (f_Str_charAt i k M) (fun x M2 => grd (narB x) (some (x, M2)))) = some r
  rw [if_neg (by decide), hr]
  have h2 : narB r.1 = true := by
    obtain ⟨h0, h1⟩ := grd_some hr
    unfold inB at h0
    simp only [Bool.and_eq_true, Bool.not_eq_true', decide_eq_false_iff_not, decide_eq_true_eq] at h0
    have h3 := bytS_nar i hi _ h0.2
    rw [← Option.some.inj h1]
    exact decide_eq_true h3
  exact grd_t h2

