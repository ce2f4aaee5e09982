/-! a number behind the text -/
def decs (v : Nat) : List Nat := if v < 10 then [48 + v] else if v < 100 then [48 + v / 10, 48 + v % 10] else [48 + v / 100, 48 + v / 10 % 10, 48 + v % 10]
theorem decs_len (v : Nat) : (decs v).length = if v < 10 then 1 else if v < 100 then 2 else 3 := by
  unfold decs
  split
  · rfl
  · split <;> rfl
theorem decs_le (v : Nat) : 1 ≤ (decs v).length ∧ (decs v).length ≤ 3 := by
  rw [decs_len]
  split
  · omega
  · split <;> omega
theorem ss_f : ∀ v, v < 1000 → ¬ (nI v < 0) ∧ (v < 10 → ¬ -nI v ≤ (-10 : Int32)) ∧ (10 ≤ v → -nI v ≤ (-10 : Int32)) ∧ (v < 100 → ¬ -nI v ≤ (10 : Int32) * (-10)) ∧ (100 ≤ v → -nI v ≤ (10 : Int32) * (-10)) ∧ ¬ -nI v ≤ (10 : Int32) * ((10 : Int32) * (-10)) := by decide +kernel
theorem gc_f : ∀ v, v < 1000 → 0 ≤ nI v ∧ (v < 100 → (-100 : Int32) < -nI v) ∧ (100 ≤ v → ¬ (-100 : Int32) < -nI v ∧ -nI v / 100 = -nI (v / 100) ∧ -nI (v / 100) * 100 - -nI v = nI (v % 100) ∧ (-100 : Int32) < -nI (v / 100) ∧ (-9 : Int32) ≤ -nI (v / 100)) ∧ (v < 10 → (-9 : Int32) ≤ -nI v) ∧ (10 ≤ v → ¬ (-9 : Int32) ≤ -nI v) ∧ - -nI v = nI v := by decide +kernel
theorem dg_f : ∀ v, v < 100 → dg1L.getD v 0 = nI (48 + v % 10) ∧ dg10L.getD v 0 = nI (48 + v / 10) := by decide +kernel
theorem dn_f : ∀ v, v < 10 → fits .byte (.int (nI (48 + v))) = true ∧ vp_nar .byte (nI (48 + v)) = nI (48 + v) := by decide +kernel
theorem pr1 {e : Nat} (h : 1 ≤ e) (h2 : e < 2 ^ 30) : nI e + (-1 : Int32) = nI (e - 1) := by rw [nI_m1, ← nI_pred (e - 1), show e - 1 + 1 = e from by omega]
abbrev b_ss : ByteArray := prog_19_method_13_code
abbrev y_ss : MethodName := ⟨"java/lang/Integer", "stringSize", "(I)I"⟩
theorem d_ss_0 : decode b_ss 0 = .ok (.iconst 1, 1) := by decide +kernel
theorem d_ss_1 : decode b_ss 1 = .ok (.istore_n 1, 1) := by decide +kernel
theorem d_ss_2 : decode b_ss 2 = .ok (.iload_n 0, 1) := by decide +kernel
theorem d_ss_3 : decode b_ss 3 = .ok (.ifCond .lt 8, 3) := by decide +kernel
theorem d_ss_6 : decode b_ss 6 = .ok (.iconst 0, 1) := by decide +kernel
theorem d_ss_7 : decode b_ss 7 = .ok (.istore_n 1, 1) := by decide +kernel
theorem d_ss_8 : decode b_ss 8 = .ok (.iload_n 0, 1) := by decide +kernel
theorem d_ss_9 : decode b_ss 9 = .ok (.ineg, 1) := by decide +kernel
theorem d_ss_10 : decode b_ss 10 = .ok (.istore_n 0, 1) := by decide +kernel
theorem d_ss_11 : decode b_ss 11 = .ok (.bipush (-10), 2) := by decide +kernel
theorem d_ss_13 : decode b_ss 13 = .ok (.istore_n 2, 1) := by decide +kernel
theorem d_ss_14 : decode b_ss 14 = .ok (.iconst 1, 1) := by decide +kernel
theorem d_ss_15 : decode b_ss 15 = .ok (.istore_n 3, 1) := by decide +kernel
theorem d_ss_16 : decode b_ss 16 = .ok (.iload_n 3, 1) := by decide +kernel
theorem d_ss_17 : decode b_ss 17 = .ok (.bipush 10, 2) := by decide +kernel
theorem d_ss_19 : decode b_ss 19 = .ok (.if_icmp .ge 23, 3) := by decide +kernel
theorem d_ss_22 : decode b_ss 22 = .ok (.iload_n 0, 1) := by decide +kernel
theorem d_ss_23 : decode b_ss 23 = .ok (.iload_n 2, 1) := by decide +kernel
theorem d_ss_24 : decode b_ss 24 = .ok (.if_icmp .le 7, 3) := by decide +kernel
theorem d_ss_27 : decode b_ss 27 = .ok (.iload_n 3, 1) := by decide +kernel
theorem d_ss_28 : decode b_ss 28 = .ok (.iload_n 1, 1) := by decide +kernel
theorem d_ss_29 : decode b_ss 29 = .ok (.iadd, 1) := by decide +kernel
theorem d_ss_30 : decode b_ss 30 = .ok (.ireturn, 1) := by decide +kernel
theorem d_ss_31 : decode b_ss 31 = .ok (.bipush 10, 2) := by decide +kernel
theorem d_ss_33 : decode b_ss 33 = .ok (.iload_n 2, 1) := by decide +kernel
theorem d_ss_34 : decode b_ss 34 = .ok (.imul, 1) := by decide +kernel
theorem d_ss_35 : decode b_ss 35 = .ok (.istore_n 2, 1) := by decide +kernel
theorem d_ss_36 : decode b_ss 36 = .ok (.iinc 3 1, 3) := by decide +kernel
theorem d_ss_39 : decode b_ss 39 = .ok (.goto (-23), 3) := by decide +kernel
theorem d_ss_42 : decode b_ss 42 = .ok (.bipush 10, 2) := by decide +kernel
theorem d_ss_44 : decode b_ss 44 = .ok (.iload_n 1, 1) := by decide +kernel
theorem d_ss_45 : decode b_ss 45 = .ok (.iadd, 1) := by decide +kernel
theorem d_ss_46 : decode b_ss 46 = .ok (.ireturn, 1) := by decide +kernel
abbrev b_gch : ByteArray := prog_19_method_12_code
abbrev y_gch : MethodName := ⟨"java/lang/Integer", "getChars", "(II[B)I"⟩
theorem d_gch_0 : decode b_gch 0 = .ok (.iload_n 1, 1) := by decide +kernel
theorem d_gch_1 : decode b_gch 1 = .ok (.istore 5, 2) := by decide +kernel
theorem d_gch_3 : decode b_gch 3 = .ok (.iload_n 0, 1) := by decide +kernel
theorem d_gch_4 : decode b_gch 4 = .ok (.ifCond .ge 7, 3) := by decide +kernel
theorem d_gch_7 : decode b_gch 7 = .ok (.iconst 1, 1) := by decide +kernel
theorem d_gch_8 : decode b_gch 8 = .ok (.goto 4, 3) := by decide +kernel
theorem d_gch_11 : decode b_gch 11 = .ok (.iconst 0, 1) := by decide +kernel
theorem d_gch_12 : decode b_gch 12 = .ok (.istore 6, 2) := by decide +kernel
theorem d_gch_14 : decode b_gch 14 = .ok (.iload 6, 2) := by decide +kernel
theorem d_gch_16 : decode b_gch 16 = .ok (.ifCond .ne 6, 3) := by decide +kernel
theorem d_gch_19 : decode b_gch 19 = .ok (.iload_n 0, 1) := by decide +kernel
theorem d_gch_20 : decode b_gch 20 = .ok (.ineg, 1) := by decide +kernel
theorem d_gch_21 : decode b_gch 21 = .ok (.istore_n 0, 1) := by decide +kernel
theorem d_gch_22 : decode b_gch 22 = .ok (.iload_n 0, 1) := by decide +kernel
theorem d_gch_23 : decode b_gch 23 = .ok (.bipush (-100), 2) := by decide +kernel
theorem d_gch_25 : decode b_gch 25 = .ok (.if_icmp .gt 47, 3) := by decide +kernel
theorem d_gch_28 : decode b_gch 28 = .ok (.iload_n 0, 1) := by decide +kernel
theorem d_gch_29 : decode b_gch 29 = .ok (.bipush 100, 2) := by decide +kernel
theorem d_gch_31 : decode b_gch 31 = .ok (.idiv, 1) := by decide +kernel
theorem d_gch_32 : decode b_gch 32 = .ok (.istore_n 3, 1) := by decide +kernel
theorem d_gch_33 : decode b_gch 33 = .ok (.iload_n 3, 1) := by decide +kernel
theorem d_gch_34 : decode b_gch 34 = .ok (.bipush 100, 2) := by decide +kernel
theorem d_gch_36 : decode b_gch 36 = .ok (.imul, 1) := by decide +kernel
theorem d_gch_37 : decode b_gch 37 = .ok (.iload_n 0, 1) := by decide +kernel
theorem d_gch_38 : decode b_gch 38 = .ok (.isub, 1) := by decide +kernel
theorem d_gch_39 : decode b_gch 39 = .ok (.istore 4, 2) := by decide +kernel
theorem d_gch_41 : decode b_gch 41 = .ok (.iload_n 3, 1) := by decide +kernel
theorem d_gch_42 : decode b_gch 42 = .ok (.istore_n 0, 1) := by decide +kernel
theorem d_gch_43 : decode b_gch 43 = .ok (.aload_n 2, 1) := by decide +kernel
theorem d_gch_44 : decode b_gch 44 = .ok (.iinc 5 (-1), 3) := by decide +kernel
theorem d_gch_47 : decode b_gch 47 = .ok (.iload 5, 2) := by decide +kernel
theorem d_gch_49 : decode b_gch 49 = .ok (.getstatic 83, 3) := by decide +kernel
theorem d_gch_52 : decode b_gch 52 = .ok (.iload 4, 2) := by decide +kernel
theorem d_gch_54 : decode b_gch 54 = .ok (.baload, 1) := by decide +kernel
theorem d_gch_55 : decode b_gch 55 = .ok (.bastore, 1) := by decide +kernel
theorem d_gch_56 : decode b_gch 56 = .ok (.aload_n 2, 1) := by decide +kernel
theorem d_gch_57 : decode b_gch 57 = .ok (.iinc 5 (-1), 3) := by decide +kernel
theorem d_gch_60 : decode b_gch 60 = .ok (.iload 5, 2) := by decide +kernel
theorem d_gch_62 : decode b_gch 62 = .ok (.getstatic 87, 3) := by decide +kernel
theorem d_gch_65 : decode b_gch 65 = .ok (.iload 4, 2) := by decide +kernel
theorem d_gch_67 : decode b_gch 67 = .ok (.baload, 1) := by decide +kernel
theorem d_gch_68 : decode b_gch 68 = .ok (.bastore, 1) := by decide +kernel
theorem d_gch_69 : decode b_gch 69 = .ok (.goto (-47), 3) := by decide +kernel
theorem d_gch_72 : decode b_gch 72 = .ok (.aload_n 2, 1) := by decide +kernel
theorem d_gch_73 : decode b_gch 73 = .ok (.iinc 5 (-1), 3) := by decide +kernel
theorem d_gch_76 : decode b_gch 76 = .ok (.iload 5, 2) := by decide +kernel
theorem d_gch_78 : decode b_gch 78 = .ok (.getstatic 83, 3) := by decide +kernel
theorem d_gch_81 : decode b_gch 81 = .ok (.iload_n 0, 1) := by decide +kernel
theorem d_gch_82 : decode b_gch 82 = .ok (.ineg, 1) := by decide +kernel
theorem d_gch_83 : decode b_gch 83 = .ok (.baload, 1) := by decide +kernel
theorem d_gch_84 : decode b_gch 84 = .ok (.bastore, 1) := by decide +kernel
theorem d_gch_85 : decode b_gch 85 = .ok (.iload_n 0, 1) := by decide +kernel
theorem d_gch_86 : decode b_gch 86 = .ok (.bipush (-9), 2) := by decide +kernel
theorem d_gch_88 : decode b_gch 88 = .ok (.if_icmp .ge 16, 3) := by decide +kernel
theorem d_gch_91 : decode b_gch 91 = .ok (.aload_n 2, 1) := by decide +kernel
theorem d_gch_92 : decode b_gch 92 = .ok (.iinc 5 (-1), 3) := by decide +kernel
theorem d_gch_95 : decode b_gch 95 = .ok (.iload 5, 2) := by decide +kernel
theorem d_gch_97 : decode b_gch 97 = .ok (.getstatic 87, 3) := by decide +kernel
theorem d_gch_100 : decode b_gch 100 = .ok (.iload_n 0, 1) := by decide +kernel
theorem d_gch_101 : decode b_gch 101 = .ok (.ineg, 1) := by decide +kernel
theorem d_gch_102 : decode b_gch 102 = .ok (.baload, 1) := by decide +kernel
theorem d_gch_103 : decode b_gch 103 = .ok (.bastore, 1) := by decide +kernel
theorem d_gch_104 : decode b_gch 104 = .ok (.iload 6, 2) := by decide +kernel
theorem d_gch_106 : decode b_gch 106 = .ok (.ifCond .eq 12, 3) := by decide +kernel
theorem d_gch_109 : decode b_gch 109 = .ok (.aload_n 2, 1) := by decide +kernel
theorem d_gch_110 : decode b_gch 110 = .ok (.iinc 5 (-1), 3) := by decide +kernel
theorem d_gch_113 : decode b_gch 113 = .ok (.iload 5, 2) := by decide +kernel
theorem d_gch_115 : decode b_gch 115 = .ok (.bipush 45, 2) := by decide +kernel
theorem d_gch_117 : decode b_gch 117 = .ok (.bastore, 1) := by decide +kernel
theorem d_gch_118 : decode b_gch 118 = .ok (.iload 5, 2) := by decide +kernel
theorem d_gch_120 : decode b_gch 120 = .ok (.ireturn, 1) := by decide +kernel
abbrev b_api : ByteArray := prog_13_method_32_code
abbrev y_api : MethodName := ⟨"java/lang/AbstractStringBuilder", "append", "(I)Ljava/lang/AbstractStringBuilder;"⟩
theorem d_api_0 : decode b_api 0 = .ok (.aload_n 0, 1) := by decide +kernel
theorem d_api_1 : decode b_api 1 = .ok (.getfield 79, 3) := by decide +kernel
theorem d_api_4 : decode b_api 4 = .ok (.istore_n 2, 1) := by decide +kernel
theorem d_api_5 : decode b_api 5 = .ok (.iload_n 2, 1) := by decide +kernel
theorem d_api_6 : decode b_api 6 = .ok (.iload_n 1, 1) := by decide +kernel
theorem d_api_7 : decode b_api 7 = .ok (.invokestatic 245, 3) := by decide +kernel
theorem d_api_10 : decode b_api 10 = .ok (.iadd, 1) := by decide +kernel
theorem d_api_11 : decode b_api 11 = .ok (.istore_n 3, 1) := by decide +kernel
theorem d_api_12 : decode b_api 12 = .ok (.aload_n 0, 1) := by decide +kernel
theorem d_api_13 : decode b_api 13 = .ok (.iload_n 3, 1) := by decide +kernel
theorem d_api_14 : decode b_api 14 = .ok (.invokevirtual 100, 3) := by decide +kernel
theorem d_api_17 : decode b_api 17 = .ok (.aload_n 0, 1) := by decide +kernel
theorem d_api_18 : decode b_api 18 = .ok (.invokevirtual 83, 3) := by decide +kernel
theorem d_api_21 : decode b_api 21 = .ok (.ifCond .eq 16, 3) := by decide +kernel
theorem d_api_24 : decode b_api 24 = .ok (.iload_n 1, 1) := by decide +kernel
theorem d_api_25 : decode b_api 25 = .ok (.iload_n 3, 1) := by decide +kernel
theorem d_api_26 : decode b_api 26 = .ok (.aload_n 0, 1) := by decide +kernel
theorem d_api_27 : decode b_api 27 = .ok (.getfield 15, 3) := by decide +kernel
theorem d_api_30 : decode b_api 30 = .ok (.invokestatic 248, 3) := by decide +kernel
theorem d_api_33 : decode b_api 33 = .ok (.pop, 1) := by decide +kernel
theorem d_api_34 : decode b_api 34 = .ok (.goto 14, 3) := by decide +kernel
theorem d_api_37 : decode b_api 37 = .ok (.iload_n 1, 1) := by decide +kernel
theorem d_api_38 : decode b_api 38 = .ok (.iload_n 2, 1) := by decide +kernel
theorem d_api_39 : decode b_api 39 = .ok (.iload_n 3, 1) := by decide +kernel
theorem d_api_40 : decode b_api 40 = .ok (.aload_n 0, 1) := by decide +kernel
theorem d_api_41 : decode b_api 41 = .ok (.getfield 15, 3) := by decide +kernel
theorem d_api_44 : decode b_api 44 = .ok (.invokestatic 251, 3) := by decide +kernel
theorem d_api_47 : decode b_api 47 = .ok (.pop, 1) := by decide +kernel
theorem d_api_48 : decode b_api 48 = .ok (.aload_n 0, 1) := by decide +kernel
theorem d_api_49 : decode b_api 49 = .ok (.iload_n 3, 1) := by decide +kernel
theorem d_api_50 : decode b_api 50 = .ok (.putfield 79, 3) := by decide +kernel
theorem d_api_53 : decode b_api 53 = .ok (.aload_n 0, 1) := by decide +kernel
theorem d_api_54 : decode b_api 54 = .ok (.areturn, 1) := by decide +kernel
abbrev b_sapi : ByteArray := prog_23_method_15_code
abbrev y_sapi : MethodName := ⟨"java/lang/StringBuilder", "append", "(I)Ljava/lang/StringBuilder;"⟩
theorem d_sapi_0 : decode b_sapi 0 = .ok (.aload_n 0, 1) := by decide +kernel
theorem d_sapi_1 : decode b_sapi 1 = .ok (.iload_n 1, 1) := by decide +kernel
theorem d_sapi_2 : decode b_sapi 2 = .ok (.invokespecial 53, 3) := by decide +kernel
theorem d_sapi_5 : decode b_sapi 5 = .ok (.pop, 1) := by decide +kernel
theorem d_sapi_6 : decode b_sapi 6 = .ok (.aload_n 0, 1) := by decide +kernel
theorem d_sapi_7 : decode b_sapi 7 = .ok (.areturn, 1) := by decide +kernel
theorem fl_IN_83 : Cond.fieldLink "java/lang/Integer" 83 "java/lang/Integer" "DigitOnes" "[B" ∈ TT := TT_in (i := 1289) (by decide +kernel) (by decide +kernel)
theorem fl_IN_87 : Cond.fieldLink "java/lang/Integer" 87 "java/lang/Integer" "DigitTens" "[B" ∈ TT := TT_in (i := 1291) (by decide +kernel) (by decide +kernel)
set_option maxHeartbeats 4000000 in
set_option maxRecDepth 100000 in
theorem c_ss (l : Launch) {w : Wc} {j : Nat} {z : Shp} (v : Nat) (hv : v < 1000) (M : Mem) : CtG l y_ss b_ss 4 (some .int) (rmC 0 0 0) w j z [.int (nI v)] M (QgI w j (nI (decs v).length) (fun z2 M2 => z2 = z ∧ M2 = M)) := by
  obtain ⟨f0, f1, f2, f3, f4, f5⟩ := ss_f v hv
  refine CtG.go (by decide) (L := [(0, .int (nI v))]) rfl (Nat.le_of_ble_eq_true rfl) (fun p0 e s mm args below meth c hnm hsz hao g hret => ?_)
  refine G_iconst g (pc := 0) (1 : Int32) d_ss_0 rfl ?_
  refine G_istore_n g (pc := 1) _ d_ss_1 rfl (Nat.le_of_ble_eq_true rfl) rfl ?_
  refine G_iload_n g (pc := 2) 1 d_ss_2 rfl rfl ?_
  refine K_if_lt_F g (pc := 3) 11 (f0) d_ss_3 (by decide) ?_
  refine G_iconst g (pc := 6) (0 : Int32) d_ss_6 rfl ?_
  refine G_istore_n g (pc := 7) _ d_ss_7 rfl (Nat.le_of_ble_eq_true rfl) rfl ?_
  refine G_iload_n g (pc := 8) 1 d_ss_8 rfl rfl ?_
  refine G_ineg g (pc := 9) d_ss_9 ?_
  refine G_istore_n g (pc := 10) _ d_ss_10 rfl (Nat.le_of_ble_eq_true rfl) rfl ?_
  refine G_bipush g (pc := 11) (-10 : Int32) d_ss_11 rfl ?_
  refine G_istore_n g (pc := 13) _ d_ss_13 rfl (Nat.le_of_ble_eq_true rfl) rfl ?_
  refine G_iconst g (pc := 14) (1 : Int32) d_ss_14 rfl ?_
  refine G_istore_n g (pc := 15) _ d_ss_15 rfl (Nat.le_of_ble_eq_true rfl) rfl ?_
  refine G_iload_n g (pc := 16) 0 d_ss_16 rfl rfl ?_
  refine G_bipush g (pc := 17) (10 : Int32) d_ss_17 rfl ?_
  by_cases c1 : v < 10
  · skip
    refine K_icmp_ge_F g (pc := 19) 42 ((by decide)) d_ss_19 (by decide) ?_
    refine G_iload_n g (pc := 22) 2 d_ss_22 rfl rfl ?_
    refine G_iload_n g (pc := 23) 1 d_ss_23 rfl rfl ?_
    refine K_icmp_le_F g (pc := 24) 31 ((f1 c1)) d_ss_24 (by decide) ?_
    refine G_iload_n g (pc := 27) 0 d_ss_27 rfl rfl ?_
    refine G_iload_n g (pc := 28) 3 d_ss_28 rfl rfl ?_
    refine G_iadd g (pc := 29) d_ss_29 ?_
    have e9 : (1 : Int32) + 0 = nI (decs v).length := by
      rw [decs_len]
      rw [if_pos (by omega)]; rfl
    refine Go.top e9 ?_
    exact G_gretI g (pc := 30) ⟨rfl, rfl⟩ hret (Nat.le_of_ble_eq_true rfl) (Nat.le_of_ble_eq_true rfl) d_ss_30
  · skip
    refine K_icmp_ge_F g (pc := 19) 42 ((by decide)) d_ss_19 (by decide) ?_
    refine G_iload_n g (pc := 22) 2 d_ss_22 rfl rfl ?_
    refine G_iload_n g (pc := 23) 1 d_ss_23 rfl rfl ?_
    refine K_icmp_le_T g (pc := 24) 31 ((f2 (by omega))) d_ss_24 (by decide) ?_
    refine G_bipush g (pc := 31) (10 : Int32) d_ss_31 rfl ?_
    refine G_iload_n g (pc := 33) 1 d_ss_33 rfl rfl ?_
    refine G_imul g (pc := 34) d_ss_34 ?_
    refine G_istore_n g (pc := 35) _ d_ss_35 rfl (Nat.le_of_ble_eq_true rfl) rfl ?_
    refine G_iinc g (pc := 36) (2 : Int32) _ 1 d_ss_36 rfl (by decide) (Nat.le_of_ble_eq_true rfl) rfl ?_
    refine G_goto g (pc := 39) 16 d_ss_39 (by decide) ?_
    refine G_iload_n g (pc := 16) 0 d_ss_16 rfl rfl ?_
    refine G_bipush g (pc := 17) (10 : Int32) d_ss_17 rfl ?_
    by_cases c2 : v < 100
    · skip
      refine K_icmp_ge_F g (pc := 19) 42 ((by decide)) d_ss_19 (by decide) ?_
      refine G_iload_n g (pc := 22) 2 d_ss_22 rfl rfl ?_
      refine G_iload_n g (pc := 23) 1 d_ss_23 rfl rfl ?_
      refine K_icmp_le_F g (pc := 24) 31 ((f3 c2)) d_ss_24 (by decide) ?_
      refine G_iload_n g (pc := 27) 0 d_ss_27 rfl rfl ?_
      refine G_iload_n g (pc := 28) 3 d_ss_28 rfl rfl ?_
      refine G_iadd g (pc := 29) d_ss_29 ?_
      have e9 : (2 : Int32) + 0 = nI (decs v).length := by
        rw [decs_len]
        rw [if_neg (by omega), if_pos (by omega)]; rfl
      refine Go.top e9 ?_
      exact G_gretI g (pc := 30) ⟨rfl, rfl⟩ hret (Nat.le_of_ble_eq_true rfl) (Nat.le_of_ble_eq_true rfl) d_ss_30
    · skip
      refine K_icmp_ge_F g (pc := 19) 42 ((by decide)) d_ss_19 (by decide) ?_
      refine G_iload_n g (pc := 22) 2 d_ss_22 rfl rfl ?_
      refine G_iload_n g (pc := 23) 1 d_ss_23 rfl rfl ?_
      refine K_icmp_le_T g (pc := 24) 31 ((f4 (by omega))) d_ss_24 (by decide) ?_
      refine G_bipush g (pc := 31) (10 : Int32) d_ss_31 rfl ?_
      refine G_iload_n g (pc := 33) 1 d_ss_33 rfl rfl ?_
      refine G_imul g (pc := 34) d_ss_34 ?_
      refine G_istore_n g (pc := 35) _ d_ss_35 rfl (Nat.le_of_ble_eq_true rfl) rfl ?_
      refine G_iinc g (pc := 36) (3 : Int32) _ 1 d_ss_36 rfl (by decide) (Nat.le_of_ble_eq_true rfl) rfl ?_
      refine G_goto g (pc := 39) 16 d_ss_39 (by decide) ?_
      refine G_iload_n g (pc := 16) 0 d_ss_16 rfl rfl ?_
      refine G_bipush g (pc := 17) (10 : Int32) d_ss_17 rfl ?_
      refine K_icmp_ge_F g (pc := 19) 42 ((by decide)) d_ss_19 (by decide) ?_
      refine G_iload_n g (pc := 22) 2 d_ss_22 rfl rfl ?_
      refine G_iload_n g (pc := 23) 1 d_ss_23 rfl rfl ?_
      refine K_icmp_le_F g (pc := 24) 31 (f5) d_ss_24 (by decide) ?_
      refine G_iload_n g (pc := 27) 0 d_ss_27 rfl rfl ?_
      refine G_iload_n g (pc := 28) 3 d_ss_28 rfl rfl ?_
      refine G_iadd g (pc := 29) d_ss_29 ?_
      have e9 : (3 : Int32) + 0 = nI (decs v).length := by
        rw [decs_len]
        rw [if_neg (by omega), if_neg (by omega)]; rfl
      refine Go.top e9 ?_
      exact G_gretI g (pc := 30) ⟨rfl, rfl⟩ hret (Nat.le_of_ble_eq_true rfl) (Nat.le_of_ble_eq_true rfl) d_ss_30
set_option maxHeartbeats 4000000 in
set_option maxRecDepth 100000 in
theorem c_gch (l : Launch) {w : Wc} {j b m n v : Nat} {z : Shp} (M : Mem) (h1 : b < j) (h7 : (z b).1 = 21) (h8 : (z b).2.1 = m) (hm : m ≤ 1000) (hv : v < 1000) (hn : n + (decs v).length ≤ m) (hf : fB (M b)) : CtG l y_gch b_gch 7 (some .int) (rmC 0 0 0) w j z [.int (nI v), .int (nI (n + (decs v).length)), .ref (wad w b)] M (QgI w j (nI n) (fun z2 M2 => z2 = z ∧ (∀ p, p ≠ b → M2 p = M p) ∧ fB (M2 b) ∧ (∀ i, i < n → M2 b i = M b i) ∧ ∀ i, i < (decs v).length → M2 b (n + i) = nI ((decs v).getD i 0))) := by
  obtain ⟨f0, f1, f2, f3, f4, f5⟩ := gc_f v hv
  have hl := decs_le v
  refine CtG.go (by decide) (L := [(0, .int (nI v)), (1, .int (nI (n + (decs v).length))), (2, .ref (wad w b))]) rfl (Nat.le_of_ble_eq_true rfl) (fun p0 e s mm args below meth c hnm hsz hao g hret => ?_)
  have hT1 := g.2.2.2.2.2.2.2.1.2.2.2.2.2.2.2.2.1
  have hZ1 := g.2.2.2.2.2.2.2.1.2.2.2.2.2.2.2.1
  have hT2 := g.2.2.2.2.2.2.2.1.2.2.2.2.2.2.2.2.2.2
  have hZ2 := g.2.2.2.2.2.2.2.1.2.2.2.2.2.2.2.2.2.1
  refine G_iload_n g (pc := 0) 1 d_gch_0 rfl rfl ?_
  refine G_istore g (pc := 1) _ d_gch_1 (Nat.le_of_ble_eq_true rfl) rfl ?_
  refine G_iload_n g (pc := 3) 1 d_gch_3 rfl rfl ?_
  refine K_if_ge_T g (pc := 4) 11 (f0) d_gch_4 (by decide) ?_
  refine G_iconst g (pc := 11) (0 : Int32) d_gch_11 rfl ?_
  refine G_istore g (pc := 12) _ d_gch_12 (Nat.le_of_ble_eq_true rfl) rfl ?_
  refine G_iload g (pc := 14) 0 d_gch_14 rfl ?_
  refine K_if_ne_F g (pc := 16) 22 ((by decide)) d_gch_16 (by decide) ?_
  refine G_iload_n g (pc := 19) 2 d_gch_19 rfl rfl ?_
  refine G_ineg g (pc := 20) d_gch_20 ?_
  refine G_istore_n g (pc := 21) _ d_gch_21 rfl (Nat.le_of_ble_eq_true rfl) rfl ?_
  refine G_iload_n g (pc := 22) 0 d_gch_22 rfl rfl ?_
  refine G_bipush g (pc := 23) (-100 : Int32) d_gch_23 rfl ?_
  by_cases c1 : v < 100
  · by_cases c0 : v < 10
    · have e1 : decs v = [48 + v] := if_pos c0
      have hlen : (decs v).length = 1 := by rw [e1]; rfl
      refine K_icmp_gt_T g (pc := 25) 72 ((f1 c1)) d_gch_25 (by decide) ?_
      refine G_aload_n g (pc := 72) 4 d_gch_72 rfl rfl ?_
      refine G_iinc g (pc := 73) (nI (n + (decs v).length - 1)) _ 2 d_gch_73 rfl (pr1 (by omega) (by omega)) (Nat.le_of_ble_eq_true rfl) rfl ?_
      refine G_iload g (pc := 76) 0 d_gch_76 rfl ?_
      refine G_gets g (pc := 78) fl_IN_83 hZ1 d_gch_78 ?_
      refine G_iload_n g (pc := 81) 1 d_gch_81 rfl rfl ?_
      refine G_ineg g (pc := 82) d_gch_82 ?_
      refine Go.top (y := nI (v)) f5 ?_
      refine G_tb g (pc := 83) (.int (nI (48 + v % 10))) hT1 (vp_in_nI (by omega) (by omega)) (by rw [nI_clamp (by omega)]; exact congrArg Value.int (dg_f _ (by omega)).1) d_gch_83 ?_
      refine K_bast g (pc := 84) (nn := m) (List.mem_range.mpr h1) h7 h8 (inB_nI (by omega) (by omega)) d_gch_84 ?_
      rw [(dn_f (v % 10) (by omega)).2, nI_clamp (show n + (decs v).length - 1 < 2 ^ 31 by omega)]
      refine G_iload_n g (pc := 85) 1 d_gch_85 rfl rfl ?_
      refine G_bipush g (pc := 86) (-9 : Int32) d_gch_86 rfl ?_
      refine K_icmp_ge_T g (pc := 88) 104 ((f3 c0)) d_gch_88 (by decide) ?_
      refine G_iload g (pc := 104) 2 d_gch_104 rfl ?_
      refine K_if_eq_T g (pc := 106) 118 ((by decide)) d_gch_106 (by decide) ?_
      refine G_iload g (pc := 118) 0 d_gch_118 rfl ?_
      refine Go.top (y := nI n) (by rw [hlen]; rfl) ?_
      refine G_gretI g (pc := 120) ⟨rfl, fun p hp => put_ne hp, by rw [put_row]; exact fB_upd hf (dn_f _ (by omega)).1, fun i hi => by rw [put_row, upd_at, if_neg (by omega)], fun i hi => ?_⟩ hret (Nat.le_of_ble_eq_true rfl) (Nat.le_of_ble_eq_true rfl) d_gch_120
      have : i = 0 := by omega
      subst this
      rw [put_row, upd_at, if_pos (by omega), e1, show v % 10 = v from by omega]
      rfl
    · have e1 : decs v = [48 + v / 10, 48 + v % 10] := by unfold decs; rw [if_neg c0, if_pos c1]
      have hlen : (decs v).length = 2 := by rw [e1]; rfl
      refine K_icmp_gt_T g (pc := 25) 72 ((f1 c1)) d_gch_25 (by decide) ?_
      refine G_aload_n g (pc := 72) 4 d_gch_72 rfl rfl ?_
      refine G_iinc g (pc := 73) (nI (n + (decs v).length - 1)) _ 2 d_gch_73 rfl (pr1 (by omega) (by omega)) (Nat.le_of_ble_eq_true rfl) rfl ?_
      refine G_iload g (pc := 76) 0 d_gch_76 rfl ?_
      refine G_gets g (pc := 78) fl_IN_83 hZ1 d_gch_78 ?_
      refine G_iload_n g (pc := 81) 1 d_gch_81 rfl rfl ?_
      refine G_ineg g (pc := 82) d_gch_82 ?_
      refine Go.top (y := nI (v)) f5 ?_
      refine G_tb g (pc := 83) (.int (nI (48 + v % 10))) hT1 (vp_in_nI (by omega) (by omega)) (by rw [nI_clamp (by omega)]; exact congrArg Value.int (dg_f _ (by omega)).1) d_gch_83 ?_
      refine K_bast g (pc := 84) (nn := m) (List.mem_range.mpr h1) h7 h8 (inB_nI (by omega) (by omega)) d_gch_84 ?_
      rw [(dn_f (v % 10) (by omega)).2, nI_clamp (show n + (decs v).length - 1 < 2 ^ 31 by omega)]
      refine G_iload_n g (pc := 85) 1 d_gch_85 rfl rfl ?_
      refine G_bipush g (pc := 86) (-9 : Int32) d_gch_86 rfl ?_
      refine K_icmp_ge_F g (pc := 88) 104 ((f4 (by omega))) d_gch_88 (by decide) ?_
      refine G_aload_n g (pc := 91) 4 d_gch_91 rfl rfl ?_
      refine G_iinc g (pc := 92) (nI ((n + (decs v).length - 1) - 1)) _ 0 d_gch_92 rfl (pr1 (by omega) (by omega)) (Nat.le_of_ble_eq_true rfl) rfl ?_
      refine G_iload g (pc := 95) 0 d_gch_95 rfl ?_
      refine G_gets g (pc := 97) fl_IN_87 hZ2 d_gch_97 ?_
      refine G_iload_n g (pc := 100) 1 d_gch_100 rfl rfl ?_
      refine G_ineg g (pc := 101) d_gch_101 ?_
      refine Go.top (y := nI (v)) f5 ?_
      refine G_tb g (pc := 102) (.int (nI (48 + v / 10))) hT2 (vp_in_nI (by omega) (by omega)) (by rw [nI_clamp (by omega)]; exact congrArg Value.int (dg_f _ (by omega)).2) d_gch_102 ?_
      refine K_bast g (pc := 103) (nn := m) (List.mem_range.mpr h1) h7 h8 (inB_nI (by omega) (by omega)) d_gch_103 ?_
      rw [(dn_f (v / 10) (by omega)).2, nI_clamp (show (n + (decs v).length - 1) - 1 < 2 ^ 31 by omega)]
      refine G_iload g (pc := 104) 2 d_gch_104 rfl ?_
      refine K_if_eq_T g (pc := 106) 118 ((by decide)) d_gch_106 (by decide) ?_
      refine G_iload g (pc := 118) 0 d_gch_118 rfl ?_
      refine Go.top (y := nI n) (by rw [hlen]; rfl) ?_
      refine G_gretI g (pc := 120) ⟨rfl, fun p hp => by rw [put_ne hp, put_ne hp], by rw [put_row, put_row]; exact fB_upd (fB_upd hf (dn_f _ (by omega)).1) (dn_f _ (by omega)).1, fun i hi => by rw [put_row, upd_at, if_neg (by omega), put_row, upd_at, if_neg (by omega)], fun i hi => ?_⟩ hret (Nat.le_of_ble_eq_true rfl) (Nat.le_of_ble_eq_true rfl) d_gch_120
      have h2 : i = 0 ∨ i = 1 := by omega
      rcases h2 with rfl | rfl
      · rw [put_row, upd_at, if_pos (by omega), e1]; rfl
      · rw [put_row, upd_at, if_neg (by omega), put_row, upd_at, if_pos (by omega), e1]; rfl
  · obtain ⟨q0, q1, q2, q3, q4⟩ := f2 (by omega)
    have e1 : decs v = [48 + v / 100, 48 + v / 10 % 10, 48 + v % 10] := by unfold decs; rw [if_neg (by omega), if_neg c1]
    have hlen : (decs v).length = 3 := by rw [e1]; rfl
    refine K_icmp_gt_F g (pc := 25) 72 (q0) d_gch_25 (by decide) ?_
    refine G_iload_n g (pc := 28) 0 d_gch_28 rfl rfl ?_
    refine G_bipush g (pc := 29) (100 : Int32) d_gch_29 rfl ?_
    refine G_idivK g (pc := 31) (by decide) d_gch_31 ?_
    refine Go.top (y := (-nI (v / 100))) q1 ?_
    refine G_istore_n g (pc := 32) _ d_gch_32 rfl (Nat.le_of_ble_eq_true rfl) rfl ?_
    refine G_iload_n g (pc := 33) 0 d_gch_33 rfl rfl ?_
    refine G_bipush g (pc := 34) (100 : Int32) d_gch_34 rfl ?_
    refine G_imul g (pc := 36) d_gch_36 ?_
    refine G_iload_n g (pc := 37) 1 d_gch_37 rfl rfl ?_
    refine G_isub g (pc := 38) d_gch_38 ?_
    refine Go.top (y := nI (v % 100)) q2 ?_
    refine G_istore g (pc := 39) _ d_gch_39 (Nat.le_of_ble_eq_true rfl) rfl ?_
    refine G_iload_n g (pc := 41) 1 d_gch_41 rfl rfl ?_
    refine G_istore_n g (pc := 42) _ d_gch_42 rfl (Nat.le_of_ble_eq_true rfl) rfl ?_
    refine G_aload_n g (pc := 43) 6 d_gch_43 rfl rfl ?_
    refine G_iinc g (pc := 44) (nI (n + (decs v).length - 1)) _ 4 d_gch_44 rfl (pr1 (by omega) (by omega)) (Nat.le_of_ble_eq_true rfl) rfl ?_
    refine G_iload g (pc := 47) 0 d_gch_47 rfl ?_
    refine G_gets g (pc := 49) fl_IN_83 hZ1 d_gch_49 ?_
    refine G_iload g (pc := 52) 2 d_gch_52 rfl ?_
    refine G_tb g (pc := 54) (.int (nI (48 + (v % 100) % 10))) hT1 (vp_in_nI (by omega) (by omega)) (by rw [nI_clamp (by omega)]; exact congrArg Value.int (dg_f _ (by omega)).1) d_gch_54 ?_
    refine K_bast g (pc := 55) (nn := m) (List.mem_range.mpr h1) h7 h8 (inB_nI (by omega) (by omega)) d_gch_55 ?_
    rw [(dn_f ((v % 100) % 10) (by omega)).2, nI_clamp (show n + (decs v).length - 1 < 2 ^ 31 by omega)]
    refine G_aload_n g (pc := 56) 6 d_gch_56 rfl rfl ?_
    refine G_iinc g (pc := 57) (nI ((n + (decs v).length - 1) - 1)) _ 0 d_gch_57 rfl (pr1 (by omega) (by omega)) (Nat.le_of_ble_eq_true rfl) rfl ?_
    refine G_iload g (pc := 60) 0 d_gch_60 rfl ?_
    refine G_gets g (pc := 62) fl_IN_87 hZ2 d_gch_62 ?_
    refine G_iload g (pc := 65) 2 d_gch_65 rfl ?_
    refine G_tb g (pc := 67) (.int (nI (48 + (v % 100) / 10))) hT2 (vp_in_nI (by omega) (by omega)) (by rw [nI_clamp (by omega)]; exact congrArg Value.int (dg_f _ (by omega)).2) d_gch_67 ?_
    refine K_bast g (pc := 68) (nn := m) (List.mem_range.mpr h1) h7 h8 (inB_nI (by omega) (by omega)) d_gch_68 ?_
    rw [(dn_f ((v % 100) / 10) (by omega)).2, nI_clamp (show (n + (decs v).length - 1) - 1 < 2 ^ 31 by omega)]
    refine G_goto g (pc := 69) 22 d_gch_69 (by decide) ?_
    refine G_iload_n g (pc := 22) 1 d_gch_22 rfl rfl ?_
    refine G_bipush g (pc := 23) (-100 : Int32) d_gch_23 rfl ?_
    refine K_icmp_gt_T g (pc := 25) 72 (q3) d_gch_25 (by decide) ?_
    refine G_aload_n g (pc := 72) 6 d_gch_72 rfl rfl ?_
    refine G_iinc g (pc := 73) (nI ((n + (decs v).length - 1 - 1) - 1)) _ 0 d_gch_73 rfl (pr1 (by omega) (by omega)) (Nat.le_of_ble_eq_true rfl) rfl ?_
    refine G_iload g (pc := 76) 0 d_gch_76 rfl ?_
    refine G_gets g (pc := 78) fl_IN_83 hZ1 d_gch_78 ?_
    refine G_iload_n g (pc := 81) 1 d_gch_81 rfl rfl ?_
    refine G_ineg g (pc := 82) d_gch_82 ?_
    refine Go.top (y := nI (v / 100)) (gc_f (v / 100) (by omega)).2.2.2.2.2 ?_
    refine G_tb g (pc := 83) (.int (nI (48 + (v / 100) % 10))) hT1 (vp_in_nI (by omega) (by omega)) (by rw [nI_clamp (by omega)]; exact congrArg Value.int (dg_f _ (by omega)).1) d_gch_83 ?_
    refine K_bast g (pc := 84) (nn := m) (List.mem_range.mpr h1) h7 h8 (inB_nI (by omega) (by omega)) d_gch_84 ?_
    rw [(dn_f ((v / 100) % 10) (by omega)).2, nI_clamp (show (n + (decs v).length - 1 - 1) - 1 < 2 ^ 31 by omega)]
    refine G_iload_n g (pc := 85) 1 d_gch_85 rfl rfl ?_
    refine G_bipush g (pc := 86) (-9 : Int32) d_gch_86 rfl ?_
    refine K_icmp_ge_T g (pc := 88) 104 (q4) d_gch_88 (by decide) ?_
    refine G_iload g (pc := 104) 4 d_gch_104 rfl ?_
    refine K_if_eq_T g (pc := 106) 118 ((by decide)) d_gch_106 (by decide) ?_
    refine G_iload g (pc := 118) 0 d_gch_118 rfl ?_
    refine Go.top (y := nI n) (by rw [hlen]; rfl) ?_
    refine G_gretI g (pc := 120) ⟨rfl, fun p hp => by rw [put_ne hp, put_ne hp, put_ne hp], by rw [put_row, put_row, put_row]; exact fB_upd (fB_upd (fB_upd hf (dn_f _ (by omega)).1) (dn_f _ (by omega)).1) (dn_f _ (by omega)).1, fun i hi => by rw [put_row, upd_at, if_neg (by omega), put_row, upd_at, if_neg (by omega), put_row, upd_at, if_neg (by omega)], fun i hi => ?_⟩ hret (Nat.le_of_ble_eq_true rfl) (Nat.le_of_ble_eq_true rfl) d_gch_120
    have h2 : i = 0 ∨ i = 1 ∨ i = 2 := by omega
    rcases h2 with rfl | rfl | rfl
    · rw [put_row, upd_at, if_pos (by omega), e1, show v / 100 % 10 = v / 100 from by omega]; rfl
    · rw [put_row, upd_at, if_neg (by omega), put_row, upd_at, if_pos (by omega), e1, show v % 100 / 10 = v / 10 % 10 from by omega]; rfl
    · rw [put_row, upd_at, if_neg (by omega), put_row, upd_at, if_neg (by omega), put_row, upd_at, if_pos (by omega), e1, show v % 100 % 10 = v % 10 from by omega]; rfl
theorem cj_A_245 : CS "java/lang/AbstractStringBuilder" 245 y_ss b_ss 4 (some .int) 1 := ⟨TT_in (i := 1283) (by decide +kernel) (by decide +kernel), TT_in (i := 1284) (by decide +kernel) (by decide +kernel), TT_in (i := 38) (by decide +kernel) (by decide +kernel), TT_in (i := 1285) (by decide +kernel) (by decide +kernel), ⟨by decide +kernel, by decide +kernel, by decide +kernel⟩⟩
theorem cj_A_248 : CS "java/lang/AbstractStringBuilder" 248 y_gch b_gch 7 (some .int) 3 := ⟨TT_in (i := 1286) (by decide +kernel) (by decide +kernel), TT_in (i := 1287) (by decide +kernel) (by decide +kernel), TT_in (i := 38) (by decide +kernel) (by decide +kernel), TT_in (i := 1288) (by decide +kernel) (by decide +kernel), ⟨by decide +kernel, by decide +kernel, by decide +kernel⟩⟩
theorem cj_U_53 : CSu "java/lang/StringBuilder" 53 y_api b_api 4 (some (.object "java/lang/AbstractStringBuilder")) 1 := ⟨by
  intro t ht
  rcases List.mem_cons.mp ht with rfl | ht
  · exact TT_in (i := 1280) (by decide +kernel) (by decide +kernel)
  rcases List.mem_cons.mp ht with rfl | ht
  · exact TT_in (i := 1369) (by decide +kernel) (by decide +kernel)
  rcases List.mem_cons.mp ht with rfl | ht
  · exact TT_in (i := 1162) (by decide +kernel) (by decide +kernel)
  rcases List.mem_cons.mp ht with rfl | ht
  · exact TT_in (i := 1281) (by decide +kernel) (by decide +kernel)
  rcases List.mem_cons.mp ht with rfl | ht
  · exact TT_in (i := 30) (by decide +kernel) (by decide +kernel)
  rcases List.mem_cons.mp ht with rfl | ht
  · exact TT_in (i := 1282) (by decide +kernel) (by decide +kernel)
  exact ht, ⟨by decide +kernel, by decide +kernel⟩⟩
set_option maxHeartbeats 4000000 in
set_option maxRecDepth 100000 in
theorem c_api (l : Launch) {w : Wc} (had : Ad w) {j b m v : Nat} {z : Shp} {x : List Nat} (M : Mem) (h : SBS z M j b m x) (hv : v < 1000) (hj : j < 800) (hq2 : nc (x.length + (decs v).length) m ≤ 1000) : CtG l y_api b_api 4 (some (.object "java/lang/AbstractStringBuilder")) (rmC 4 (gr (x.length + (decs v).length) m) (gs (x.length + (decs v).length) m)) w j z [.ref (wad w 146), .int (nI v)] M (QgR w (j + gr (x.length + (decs v).length) m) 146 (fun z2 M2 => SBS z2 M2 (j + gr (x.length + (decs v).length) m) (nb (x.length + (decs v).length) m b j) (nc (x.length + (decs v).length) m) (x ++ decs v) ∧ SFr z M z2 M2)) := by
  have hh := h
  have hdl := decs_le v
  obtain ⟨h1, h2, h3, h4, h5, h6, h7, h8, h9, h10, h11, h12, h13, h14⟩ := h
  have hle : x.length + (decs v).length ≤ nc (x.length + (decs v).length) m := by
    unfold nc
    by_cases hc : x.length + (decs v).length ≤ m
    · rw [if_pos hc]; exact hc
    · rw [if_neg hc]; omega
  refine CtG.go (by decide) (L := [(0, .ref (wad w 146)), (1, .int (nI v))]) rfl (Nat.le_of_ble_eq_true rfl) (fun p0 e s mm args below meth c hnm hsz hao g hret => ?_)
  refine G_aload_n g (pc := 0) 0 d_api_0 rfl rfl ?_
  refine G_get g (pc := 1) fa_A_79 (List.mem_range.mpr h1) h5 d_api_1 ?_
  refine Go.top (y := (nI x.length)) h11 ?_
  refine G_istore_n g (pc := 4) _ d_api_4 rfl (Nat.le_of_ble_eq_true rfl) rfl ?_
  refine G_iload_n g (pc := 5) 0 d_api_5 rfl rfl ?_
  refine G_iload_n g (pc := 6) 2 d_api_6 rfl rfl ?_
  refine G_gI0 (RG_S g (pc := 7) (As := [.int (nI v)]) (st := [.int (nI x.length)]) had hao (by omega) (by omega) hsz cj_A_245 (c_ss l v hv M) rfl ⟨(Nat.le_of_ble_eq_true rfl), (Nat.le_of_ble_eq_true rfl)⟩ ⟨Nat.zero_le _, Nat.zero_le _⟩ (Nat.le_of_ble_eq_true rfl) d_api_7) (fun z2 M2 hx2 => ?_)
  obtain ⟨rfl, rfl⟩ := hx2
  refine G_iadd g (pc := 10) d_api_10 ?_
  refine Go.top (y := nI (x.length + (decs v).length)) (nI_add _ _) ?_
  refine G_istore_n g (pc := 11) _ d_api_11 rfl (Nat.le_of_ble_eq_true rfl) rfl ?_
  refine G_aload_n g (pc := 12) 2 d_api_12 rfl rfl ?_
  refine G_iload_n g (pc := 13) 0 d_api_13 rfl rfl ?_
  refine G_gV (RG_P g (pc := 14) (q := 146) (As := [.int (nI (x.length + (decs v).length))]) (st := []) had hao (by omega) (by omega) hsz cj_A_100 (c_ens l had M2 hh hj hq2) (List.mem_range.mpr h1) h5 rfl ⟨(Nat.le_of_ble_eq_true rfl), (Nat.le_of_ble_eq_true rfl)⟩ ⟨(by show 0 + gr (x.length + (decs v).length) m ≤ gr (x.length + (decs v).length) m; omega), (by show 0 + gs (x.length + (decs v).length) m ≤ gs (x.length + (decs v).length) m; omega)⟩ (Nat.le_of_ble_eq_true rfl) d_api_14) (fun z3 M3 hy3 => ?_)
  obtain ⟨hS2, hF2⟩ := hy3
  have hgr : gr (x.length + (decs v).length) m ≤ 1 := by unfold gr; split <;> omega
  have g1 := Gd.wg (z2 := z3) (j2 := j + gr (x.length + (decs v).length) m) had (by omega) g
  have hs2 := hS2
  obtain ⟨k1, k2, k3, k4, k5, k6, k7, k8, k9, k10, k11, k12, k13, k14⟩ := hS2
  refine G_aload_n g1 (pc := 17) 2 d_api_17 rfl rfl ?_
  refine G_gI0 (RG_U g1 (pc := 18) (q := 146) (As := []) (st := []) had hao (by omega) (by omega) (by omega) cj_A_83 (c_lat l M3 hs2) (List.mem_range.mpr k1) k5 rfl ⟨(Nat.le_of_ble_eq_true rfl), (Nat.le_of_ble_eq_true rfl)⟩ ⟨(by show 0 + gr (x.length + (decs v).length) m + 0 ≤ gr (x.length + (decs v).length) m; omega), (by show 0 + gs (x.length + (decs v).length) m + 0 ≤ gs (x.length + (decs v).length) m; omega)⟩ (Nat.le_of_ble_eq_true rfl) d_api_18) (fun z4 M4 hy4 => ?_)
  obtain ⟨rfl, rfl⟩ := hy4
  refine K_if_eq_F g1 (pc := 21) 37 ((by decide)) d_api_21 (by decide) ?_
  refine G_iload_n g1 (pc := 24) 3 d_api_24 rfl rfl ?_
  refine G_iload_n g1 (pc := 25) 0 d_api_25 rfl rfl ?_
  refine G_aload_n g1 (pc := 26) 2 d_api_26 rfl rfl ?_
  refine G_getR g1 (pc := 27) fa_A_15 (List.mem_range.mpr k1) k5 k6 d_api_27 ?_
  refine G_gI0 (RG_S g1 (pc := 30) (As := [.int (nI v), .int (nI (x.length + (decs v).length)), .ref (wad w (nb (x.length + (decs v).length) m b j))]) (st := []) had hao (by omega) (by omega) (by omega) cj_A_248 (c_gch l (n := x.length) M4 k4 k7 k8 k9 hv hle k14) rfl ⟨(Nat.le_of_ble_eq_true rfl), (Nat.le_of_ble_eq_true rfl)⟩ ⟨(by show 0 + gr (x.length + (decs v).length) m + 0 ≤ gr (x.length + (decs v).length) m; omega), (by show 0 + gs (x.length + (decs v).length) m + 0 ≤ gs (x.length + (decs v).length) m; omega)⟩ (Nat.le_of_ble_eq_true rfl) d_api_30) (fun z5 M5 hy5 => ?_)
  obtain ⟨rfl, c1, c2, c3, c4⟩ := hy5
  refine G_pop g1 (pc := 33) d_api_33 rfl ?_
  refine G_goto g1 (pc := 34) 48 d_api_34 (by decide) ?_
  refine G_aload_n g1 (pc := 48) 2 d_api_48 rfl rfl ?_
  refine G_iload_n g1 (pc := 49) 0 d_api_49 rfl rfl ?_
  refine G_put g1 (pc := 50) (q := 146) fa_A_79 fw_10_3 rfl rfl (List.mem_range.mpr k1) k5 d_api_50 ?_
  refine G_aload_n g1 (pc := 53) 2 d_api_53 rfl rfl ?_
  have hne : (146 : Nat) ≠ nb (x.length + (decs v).length) m b j := by omega
  refine G_gretR g1 (pc := 54) (q := 146) ⟨hs2.cat (decs v) hle (fun k hk => by rw [put_row, upd_at, if_neg hk, c1 146 hne]) (by rw [put_row, upd_at, if_pos rfl]) (fun i hi => by rw [put_ne hne.symm]; exact c3 i hi) (fun i hi => by rw [put_ne hne.symm]; exact c4 i hi) (by rw [put_ne hne.symm]; exact c2), fun p hp => ⟨(hF2 p hp).1, ?_⟩⟩ hret (Or.inl ⟨_, rfl⟩) (by show 0 + gr (x.length + (decs v).length) m ≤ gr (x.length + (decs v).length) m; omega) (by show 0 + gs (x.length + (decs v).length) m ≤ gs (x.length + (decs v).length) m; omega) d_api_54
  rw [put_ne (by omega), c1 p (by omega)]
  exact (hF2 p hp).2
set_option maxHeartbeats 4000000 in
set_option maxRecDepth 100000 in
theorem c_sapi (l : Launch) {w : Wc} (had : Ad w) {j b m v : Nat} {z : Shp} {x : List Nat} (M : Mem) (h : SBS z M j b m x) (hv : v < 1000) (hj : j < 800) (hq2 : nc (x.length + (decs v).length) m ≤ 1000) : CtG l y_sapi b_sapi 2 (some (.object "java/lang/StringBuilder")) (rmC 5 (gr (x.length + (decs v).length) m) (gs (x.length + (decs v).length) m)) w j z [.ref (wad w 146), .int (nI v)] M (QgR w (j + gr (x.length + (decs v).length) m) 146 (fun z2 M2 => SBS z2 M2 (j + gr (x.length + (decs v).length) m) (nb (x.length + (decs v).length) m b j) (nc (x.length + (decs v).length) m) (x ++ decs v) ∧ SFr z M z2 M2)) := by
  refine CtG.go (by decide) (L := [(0, .ref (wad w 146)), (1, .int (nI v))]) rfl (Nat.le_of_ble_eq_true rfl) (fun p0 e s mm args below meth c hnm hsz hao g hret => ?_)
  refine G_aload_n g (pc := 0) 0 d_sapi_0 rfl rfl ?_
  refine G_iload_n g (pc := 1) 1 d_sapi_1 rfl rfl ?_
  refine G_gR (RG_SU g (pc := 2) (q := 146) (As := [.int (nI v)]) (st := []) had hao (by omega) (by have := h.1; omega) hsz cj_U_53 (c_api l had M h hv hj hq2) (List.mem_range.mpr h.1) h.2.2.2.2.1 rfl ⟨(Nat.le_of_ble_eq_true rfl), (Nat.le_of_ble_eq_true rfl)⟩ ⟨(by show 0 + gr (x.length + (decs v).length) m ≤ gr (x.length + (decs v).length) m; omega), (by show 0 + gs (x.length + (decs v).length) m ≤ gs (x.length + (decs v).length) m; omega)⟩ (Nat.le_of_ble_eq_true rfl) d_sapi_2) (fun z2 M2 hh => ?_)
  have hgr : gr (x.length + (decs v).length) m ≤ 1 := by unfold gr; split <;> omega
  have g1 := Gd.wg (z2 := z2) (j2 := j + gr (x.length + (decs v).length) m) had (by omega) g
  refine G_pop g1 (pc := 5) d_sapi_5 rfl ?_
  refine G_aload_n g1 (pc := 6) 0 d_sapi_6 rfl rfl ?_
  exact G_gretR g1 (pc := 7) (q := 146) hh hret (Or.inl ⟨_, rfl⟩) (by show 0 + gr (x.length + (decs v).length) m ≤ gr (x.length + (decs v).length) m; omega) (by show 0 + gs (x.length + (decs v).length) m ≤ gs (x.length + (decs v).length) m; omega) d_sapi_7
