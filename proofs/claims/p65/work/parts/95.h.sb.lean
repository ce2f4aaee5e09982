/-! a builder becomes a text -/
abbrev b_gv : ByteArray := prog_13_method_64_code
abbrev y_gv : MethodName := ⟨"java/lang/AbstractStringBuilder", "getValue", "()[B"⟩
theorem d_gv_0 : decode b_gv 0 = .ok (.aload_n 0, 1) := by decide +kernel
theorem d_gv_1 : decode b_gv 1 = .ok (.getfield 15, 3) := by decide +kernel
theorem d_gv_4 : decode b_gv 4 = .ok (.areturn, 1) := by decide +kernel
abbrev b_sl : ByteArray := prog_13_method_6_code
abbrev y_sl : MethodName := ⟨"java/lang/AbstractStringBuilder", "length", "()I"⟩
theorem d_sl_0 : decode b_sl 0 = .ok (.aload_n 0, 1) := by decide +kernel
theorem d_sl_1 : decode b_sl 1 = .ok (.getfield 79, 3) := by decide +kernel
theorem d_sl_4 : decode b_sl 4 = .ok (.ireturn, 1) := by decide +kernel
abbrev b_bl : ByteArray := prog_23_method_93_code
abbrev y_bl : MethodName := ⟨"java/lang/StringBuilder", "length", "()I"⟩
theorem d_bl_0 : decode b_bl 0 = .ok (.aload_n 0, 1) := by decide +kernel
theorem d_bl_1 : decode b_bl 1 = .ok (.invokespecial 343, 3) := by decide +kernel
theorem d_bl_4 : decode b_bl 4 = .ok (.ireturn, 1) := by decide +kernel
abbrev b_chl : ByteArray := prog_28_method_131_code
abbrev y_chl : MethodName := ⟨"java/util/Arrays", "checkLength", "(II)V"⟩
theorem d_chl_0 : decode b_chl 0 = .ok (.iload_n 1, 1) := by decide +kernel
theorem d_chl_1 : decode b_chl 1 = .ok (.iload_n 0, 1) := by decide +kernel
theorem d_chl_2 : decode b_chl 2 = .ok (.if_icmp .ge 35, 3) := by decide +kernel
theorem d_chl_5 : decode b_chl 5 = .ok (.new 43, 3) := by decide +kernel
theorem d_chl_8 : decode b_chl 8 = .ok (.dup, 1) := by decide +kernel
theorem d_chl_9 : decode b_chl 9 = .ok (.new 45, 3) := by decide +kernel
theorem d_chl_12 : decode b_chl 12 = .ok (.dup, 1) := by decide +kernel
theorem d_chl_13 : decode b_chl 13 = .ok (.invokespecial 47, 3) := by decide +kernel
theorem d_chl_16 : decode b_chl 16 = .ok (.iload_n 0, 1) := by decide +kernel
theorem d_chl_17 : decode b_chl 17 = .ok (.invokevirtual 54, 3) := by decide +kernel
theorem d_chl_20 : decode b_chl 20 = .ok (.ldc_w 337, 3) := by decide +kernel
theorem d_chl_23 : decode b_chl 23 = .ok (.invokevirtual 50, 3) := by decide +kernel
theorem d_chl_26 : decode b_chl 26 = .ok (.iload_n 1, 1) := by decide +kernel
theorem d_chl_27 : decode b_chl 27 = .ok (.invokevirtual 54, 3) := by decide +kernel
theorem d_chl_30 : decode b_chl 30 = .ok (.invokevirtual 61, 3) := by decide +kernel
theorem d_chl_33 : decode b_chl 33 = .ok (.invokespecial 65, 3) := by decide +kernel
theorem d_chl_36 : decode b_chl 36 = .ok (.athrow, 1) := by decide +kernel
theorem d_chl_37 : decode b_chl 37 = .ok (.return_, 1) := by decide +kernel
abbrev b_corb : ByteArray := prog_28_method_133_code
abbrev y_corb : MethodName := ⟨"java/util/Arrays", "copyOfRangeByte", "([BII)[B"⟩
theorem d_corb_0 : decode b_corb 0 = .ok (.iload_n 1, 1) := by decide +kernel
theorem d_corb_1 : decode b_corb 1 = .ok (.iload_n 2, 1) := by decide +kernel
theorem d_corb_2 : decode b_corb 2 = .ok (.invokestatic 343, 3) := by decide +kernel
theorem d_corb_5 : decode b_corb 5 = .ok (.iload_n 2, 1) := by decide +kernel
theorem d_corb_6 : decode b_corb 6 = .ok (.iload_n 1, 1) := by decide +kernel
theorem d_corb_7 : decode b_corb 7 = .ok (.isub, 1) := by decide +kernel
theorem d_corb_8 : decode b_corb 8 = .ok (.istore_n 3, 1) := by decide +kernel
theorem d_corb_9 : decode b_corb 9 = .ok (.iload_n 3, 1) := by decide +kernel
theorem d_corb_10 : decode b_corb 10 = .ok (.newarray .byte, 2) := by decide +kernel
theorem d_corb_12 : decode b_corb 12 = .ok (.astore 4, 2) := by decide +kernel
theorem d_corb_14 : decode b_corb 14 = .ok (.aload_n 0, 1) := by decide +kernel
theorem d_corb_15 : decode b_corb 15 = .ok (.iload_n 1, 1) := by decide +kernel
theorem d_corb_16 : decode b_corb 16 = .ok (.aload 4, 2) := by decide +kernel
theorem d_corb_18 : decode b_corb 18 = .ok (.iconst 0, 1) := by decide +kernel
theorem d_corb_19 : decode b_corb 19 = .ok (.aload_n 0, 1) := by decide +kernel
theorem d_corb_20 : decode b_corb 20 = .ok (.arraylength, 1) := by decide +kernel
theorem d_corb_21 : decode b_corb 21 = .ok (.iload_n 1, 1) := by decide +kernel
theorem d_corb_22 : decode b_corb 22 = .ok (.isub, 1) := by decide +kernel
theorem d_corb_23 : decode b_corb 23 = .ok (.iload_n 3, 1) := by decide +kernel
theorem d_corb_24 : decode b_corb 24 = .ok (.invokestatic 304, 3) := by decide +kernel
theorem d_corb_27 : decode b_corb 27 = .ok (.invokestatic 150, 3) := by decide +kernel
theorem d_corb_30 : decode b_corb 30 = .ok (.aload 4, 2) := by decide +kernel
theorem d_corb_32 : decode b_corb 32 = .ok (.areturn, 1) := by decide +kernel
abbrev b_cor : ByteArray := prog_28_method_132_code
abbrev y_cor : MethodName := ⟨"java/util/Arrays", "copyOfRange", "([BII)[B"⟩
theorem d_cor_0 : decode b_cor 0 = .ok (.iload_n 1, 1) := by decide +kernel
theorem d_cor_1 : decode b_cor 1 = .ok (.ifCond .ne 9, 3) := by decide +kernel
theorem d_cor_4 : decode b_cor 4 = .ok (.iload_n 2, 1) := by decide +kernel
theorem d_cor_5 : decode b_cor 5 = .ok (.aload_n 0, 1) := by decide +kernel
theorem d_cor_6 : decode b_cor 6 = .ok (.arraylength, 1) := by decide +kernel
theorem d_cor_7 : decode b_cor 7 = .ok (.if_icmp .eq 10, 3) := by decide +kernel
theorem d_cor_10 : decode b_cor 10 = .ok (.aload_n 0, 1) := by decide +kernel
theorem d_cor_11 : decode b_cor 11 = .ok (.iload_n 1, 1) := by decide +kernel
theorem d_cor_12 : decode b_cor 12 = .ok (.iload_n 2, 1) := by decide +kernel
theorem d_cor_13 : decode b_cor 13 = .ok (.invokestatic 339, 3) := by decide +kernel
theorem d_cor_16 : decode b_cor 16 = .ok (.areturn, 1) := by decide +kernel
theorem d_cor_17 : decode b_cor 17 = .ok (.aload_n 0, 1) := by decide +kernel
theorem d_cor_18 : decode b_cor 18 = .ok (.invokevirtual 310, 3) := by decide +kernel
theorem d_cor_21 : decode b_cor 21 = .ok (.checkcast 311, 3) := by decide +kernel
theorem d_cor_24 : decode b_cor 24 = .ok (.areturn, 1) := by decide +kernel
abbrev b_ni : ByteArray := prog_22_method_150_code
abbrev y_ni : MethodName := ⟨"java/lang/String", "<init>", "(Ljava/lang/AbstractStringBuilder;Ljava/lang/Void;)V"⟩
theorem d_ni_0 : decode b_ni 0 = .ok (.aload_n 0, 1) := by decide +kernel
theorem d_ni_1 : decode b_ni 1 = .ok (.invokespecial 1, 3) := by decide +kernel
theorem d_ni_4 : decode b_ni 4 = .ok (.aload_n 1, 1) := by decide +kernel
theorem d_ni_5 : decode b_ni 5 = .ok (.invokevirtual 552, 3) := by decide +kernel
theorem d_ni_8 : decode b_ni 8 = .ok (.astore_n 3, 1) := by decide +kernel
theorem d_ni_9 : decode b_ni 9 = .ok (.aload_n 1, 1) := by decide +kernel
theorem d_ni_10 : decode b_ni 10 = .ok (.invokevirtual 549, 3) := by decide +kernel
theorem d_ni_13 : decode b_ni 13 = .ok (.istore 4, 2) := by decide +kernel
theorem d_ni_15 : decode b_ni 15 = .ok (.aload_n 1, 1) := by decide +kernel
theorem d_ni_16 : decode b_ni 16 = .ok (.invokevirtual 1047, 3) := by decide +kernel
theorem d_ni_19 : decode b_ni 19 = .ok (.ifCond .eq 22, 3) := by decide +kernel
theorem d_ni_22 : decode b_ni 22 = .ok (.aload_n 0, 1) := by decide +kernel
theorem d_ni_23 : decode b_ni 23 = .ok (.iconst 0, 1) := by decide +kernel
theorem d_ni_24 : decode b_ni 24 = .ok (.putfield 15, 3) := by decide +kernel
theorem d_ni_27 : decode b_ni 27 = .ok (.aload_n 0, 1) := by decide +kernel
theorem d_ni_28 : decode b_ni 28 = .ok (.aload_n 3, 1) := by decide +kernel
theorem d_ni_29 : decode b_ni 29 = .ok (.iconst 0, 1) := by decide +kernel
theorem d_ni_30 : decode b_ni 30 = .ok (.iload 4, 2) := by decide +kernel
theorem d_ni_32 : decode b_ni 32 = .ok (.invokestatic 54, 3) := by decide +kernel
theorem d_ni_35 : decode b_ni 35 = .ok (.putfield 9, 3) := by decide +kernel
theorem d_ni_38 : decode b_ni 38 = .ok (.goto 59, 3) := by decide +kernel
theorem d_ni_41 : decode b_ni 41 = .ok (.getstatic 38, 3) := by decide +kernel
theorem d_ni_44 : decode b_ni 44 = .ok (.ifCond .eq 35, 3) := by decide +kernel
theorem d_ni_47 : decode b_ni 47 = .ok (.aload_n 1, 1) := by decide +kernel
theorem d_ni_48 : decode b_ni 48 = .ok (.getfield 1048, 3) := by decide +kernel
theorem d_ni_51 : decode b_ni 51 = .ok (.ifCond .eq 28, 3) := by decide +kernel
theorem d_ni_54 : decode b_ni 54 = .ok (.aload_n 0, 1) := by decide +kernel
theorem d_ni_55 : decode b_ni 55 = .ok (.aload_n 3, 1) := by decide +kernel
theorem d_ni_56 : decode b_ni 56 = .ok (.iconst 0, 1) := by decide +kernel
theorem d_ni_57 : decode b_ni 57 = .ok (.iload 4, 2) := by decide +kernel
theorem d_ni_59 : decode b_ni 59 = .ok (.invokestatic 1051, 3) := by decide +kernel
theorem d_ni_62 : decode b_ni 62 = .ok (.putfield 9, 3) := by decide +kernel
theorem d_ni_65 : decode b_ni 65 = .ok (.aload_n 0, 1) := by decide +kernel
theorem d_ni_66 : decode b_ni 66 = .ok (.aload_n 0, 1) := by decide +kernel
theorem d_ni_67 : decode b_ni 67 = .ok (.getfield 9, 3) := by decide +kernel
theorem d_ni_70 : decode b_ni 70 = .ok (.iload 4, 2) := by decide +kernel
theorem d_ni_72 : decode b_ni 72 = .ok (.invokestatic 47, 3) := by decide +kernel
theorem d_ni_75 : decode b_ni 75 = .ok (.putfield 15, 3) := by decide +kernel
theorem d_ni_78 : decode b_ni 78 = .ok (.return_, 1) := by decide +kernel
theorem d_ni_79 : decode b_ni 79 = .ok (.aload_n 0, 1) := by decide +kernel
theorem d_ni_80 : decode b_ni 80 = .ok (.iconst 1, 1) := by decide +kernel
theorem d_ni_81 : decode b_ni 81 = .ok (.putfield 15, 3) := by decide +kernel
theorem d_ni_84 : decode b_ni 84 = .ok (.aload_n 0, 1) := by decide +kernel
theorem d_ni_85 : decode b_ni 85 = .ok (.aload_n 3, 1) := by decide +kernel
theorem d_ni_86 : decode b_ni 86 = .ok (.iconst 0, 1) := by decide +kernel
theorem d_ni_87 : decode b_ni 87 = .ok (.iload 4, 2) := by decide +kernel
theorem d_ni_89 : decode b_ni 89 = .ok (.iconst 1, 1) := by decide +kernel
theorem d_ni_90 : decode b_ni 90 = .ok (.ishl, 1) := by decide +kernel
theorem d_ni_91 : decode b_ni 91 = .ok (.invokestatic 54, 3) := by decide +kernel
theorem d_ni_94 : decode b_ni 94 = .ok (.putfield 9, 3) := by decide +kernel
theorem d_ni_97 : decode b_ni 97 = .ok (.return_, 1) := by decide +kernel
abbrev b_nsi : ByteArray := prog_22_method_53_code
abbrev y_nsi : MethodName := ⟨"java/lang/String", "<init>", "(Ljava/lang/StringBuilder;)V"⟩
theorem d_nsi_0 : decode b_nsi 0 = .ok (.aload_n 0, 1) := by decide +kernel
theorem d_nsi_1 : decode b_nsi 1 = .ok (.aload_n 1, 1) := by decide +kernel
theorem d_nsi_2 : decode b_nsi 2 = .ok (.aconst_null, 1) := by decide +kernel
theorem d_nsi_3 : decode b_nsi 3 = .ok (.invokespecial 489, 3) := by decide +kernel
theorem d_nsi_6 : decode b_nsi 6 = .ok (.return_, 1) := by decide +kernel
abbrev b_tst : ByteArray := prog_23_method_42_code
abbrev y_tst : MethodName := ⟨"java/lang/StringBuilder", "toString", "()Ljava/lang/String;"⟩
theorem d_tst_0 : decode b_tst 0 = .ok (.new 18, 3) := by decide +kernel
theorem d_tst_3 : decode b_tst 3 = .ok (.dup, 1) := by decide +kernel
theorem d_tst_4 : decode b_tst 4 = .ok (.aload_n 0, 1) := by decide +kernel
theorem d_tst_5 : decode b_tst 5 = .ok (.invokespecial 137, 3) := by decide +kernel
theorem d_tst_8 : decode b_tst 8 = .ok (.areturn, 1) := by decide +kernel
abbrev y_aclone : MethodName := ⟨"[B", "clone", "()Ljava/lang/Object;"⟩
abbrev y_oclone : MethodName := ⟨"java/lang/Object", "clone", "()Ljava/lang/Object;"⟩
theorem w_clone : Cond.methodLink "java/util/Arrays" 310 y_aclone ∈ TT ∧ Cond.sameMethod "[B" "java/lang/Object" "clone" "()Ljava/lang/Object;" ∈ TT ∧ Cond.native y_oclone ∈ TT ∧ Cond.instanceMethod y_oclone ∈ TT ∧ Cond.selects "[B" y_aclone y_oclone ∈ TT ∧ Cond.castable "[B" "java/lang/Cloneable" ∈ NW ∧ Cond.classLink "java/util/Arrays" 311 "[B" ∈ TT := ⟨TT_in (i := 1187) (by decide +kernel) (by decide +kernel), TT_in (i := 1188) (by decide +kernel) (by decide +kernel), TT_in (i := 1189) (by decide +kernel) (by decide +kernel), TT_in (i := 1190) (by decide +kernel) (by decide +kernel), TT_in (i := 1191) (by decide +kernel) (by decide +kernel), NW_in (i := 1192) (by decide +kernel) (by decide +kernel), TT_in (i := 1193) (by decide +kernel) (by decide +kernel)⟩
section RH
variable {ρ : Type} {p : Program} {l : Launch} {e : Env} {R : Room} {s : State} {m : MethodId} {args : Array Value} {below : List Frame} {meth : Method} {c : Code} {w : Wc} {nL k n j : Nat} {z : Shp} {Qf : ρ → State → Prop} {cc : ByteArray} {own : String}
theorem wW_growF {w : Wc} {z : Shp} {j ci n : Nat} {M : Mem} {f : Nat → Int32} {e : va_E} (he : e = cellE (wg w (j + 1) (zfr z j ci n)) (setR M j f) j) : wW (wg w j z) M ++ [(wad w j, e)] = wW (wg w (j + 1) (zfr z j ci n)) (setR M j f) := by
  subst he
  unfold wW
  show (List.range j).map _ ++ _ = (List.range (j + 1)).map _
  rw [List.range_succ, List.map_append]
  congr 1
  apply List.map_congr_left
  intro p hp
  have hp := List.mem_range.mp hp
  have hne : p ≠ j := by omega
  rw [cellE_eq (w := wg w j z) (w2 := wg w (j + 1) (zfr z j ci n)) (M := M) (M2 := setR M j f) (p := p) rfl rfl (if_neg hne) (setR_ne hne)]
  rfl
theorem fc_B (g : Gd p s m args meth c w nL cc own) : s.vm.findClass "[B" = some (wca w 1) := by
  have h := (g.2.2.2.2.2.1.2 1 (wca w 1, .byte) rfl).2
  have e : ("[" ++ (FieldType.byte).toString) = "[B" := by decide
  rw [← e]
  exact h
theorem G_cloneB (g : Gd p s m args meth c (wg w j z) nL cc "java/util/Arrays") {pc b N : Nat} {L : List (Nat × Value)} {st : List Value} {M : Mem} {o : Option ρ} (had : Ad w) (hj : j < 900) (hsz : s.heap.size + k = wlo w + j) (h1 : b < j) (h7 : (z b).1 = 21) (h8 : (z b).2.1 = N) (hf : fB (M b)) (hR : 1 ≤ R.frames ∧ (st.map fun v => v.category).sum + 14 ≤ R.locals) (hC : k + 1 ≤ R.cells ∧ n + N ≤ R.slots) (d : decode cc pc = .ok (.invokevirtual 310, 3)) (kk : Go p l e R s m args below meth c (wg w (j + 1) (zfr z j 21 N)) nL (k + 1) (n + N) Qf o (pc + 3) L (.ref (wad w j) :: st) (setR M j (M b))) : Go p l e R s m args below meth c (wg w j z) nL k n Qf o pc L (.ref (wad w b) :: st) M := by
  intro r hr H locs ls hP hS hl
  subst h8
  obtain ⟨q0, -, hq0⟩ := wW_get (w := wg w j z) (M := M) (p := b) (List.mem_range.mpr h1)
  rw [cellE_byt (w := wg w j z) h7] at hq0
  refine va_clone (ad := "[B") g.1 g.2.1 (g.2.2.1.trans hl.1.symm) g.2.2.2.1 (g.2.2.2.2.1 _ w_clone.1) (g.2.2.2.2.1 _ w_clone.2.1) (g.2.2.2.2.1 _ w_clone.2.2.1) (g.2.2.2.2.1 _ w_clone.2.2.2.1) (g.2.2.2.2.1 _ w_clone.2.2.2.2.1) (g.2.2.2.2.2.2.2.1.2.2.1 _ w_clone.2.2.2.2.2.1) g.2.2.2.2.2.1 hP (wD_of g.2.2.2.2.2.2.2.2.1 M) hS (fun q hq => Nat.le_trans g.2.2.2.2.2.2.2.2.2 hq) q0 1 hq0 rfl (fc_B g) (fun i v hv => va_fit (cA := wca w 1) (n := (z b).2.1) (F := fun j => .int (M b j)) (fun i _ => hf i) i v hv) hR.1 hR.2 hC.1 hC.2 d (fun q H1 hK1 hP1 hD1 hS1 => ?_)
  intro T2 hT X
  have hb := stand_le X
  rw [hT] at hb
  obtain rfl := grow_at had hj hP1 hD1 (by omega)
  rw [wW_growF (ci := 21) (n := (z b).2.1) (f := M b) (by
    rw [cellE_byt (w := wg w (j + 1) (zfr z j 21 (z b).2.1)) (by show (zfr z j 21 (z b).2.1 j).1 = 21; unfold zfr; rw [if_pos rfl]), setR_self]
    show _ = Sum.inl (wca w 1, (zfr z j 21 (z b).2.1 j).2.1, _)
    unfold zfr
    rw [if_pos rfl]
    rfl)] at hP1
  exact kk r hr H1 locs ls hP1 hS1 hl T2 hT X
theorem G_castB (g : Gd p s m args meth c w nL cc "java/util/Arrays") {pc b : Nat} {L : List (Nat × Value)} {st : List Value} {M : Mem} {o : Option ρ} (h1 : b ∈ wL w) (h7 : (wZ w b).1 = 21) (d : decode cc pc = .ok (.checkcast 311, 3)) (kk : Go p l e R s m args below meth c w nL k n Qf o (pc + 3) L (.ref (wad w b) :: st) M) : Go p l e R s m args below meth c w nL k n Qf o pc L (.ref (wad w b) :: st) M := by
  intro r hr H locs ls hP hS hl
  obtain ⟨q0, -, hq0⟩ := wW_get (M := M) h1
  rw [cellE_byt h7] at hq0
  exact va_castA (nm := "[B") g.1 g.2.1 g.2.2.2.1 (g.2.2.2.2.1 _ w_clone.2.2.2.2.2.2) hP q0 hq0 (fc_B g) d (kk r hr H locs ls hP hS hl)
end RH
theorem SBS.new {z : Shp} {M : Mem} {j b m : Nat} {x : List Nat} (h : SBS z M j b m x) (hj : j < 800) (ci n : Nat) (f : Nat → Int32) : SBS (zfr z j ci n) (setR M j f) (j + 1) b m x := by
  obtain ⟨h1, h2, h3, h4, h5, h6, h7, h8, h9, h10, h11, h12, h13, h14⟩ := h
  have a1 : zfr z j ci n 146 = z 146 := if_neg (by omega)
  have a2 : zfr z j ci n b = z b := if_neg (by omega)
  have a3 : setR M j f 146 = M 146 := setR_ne (by omega)
  have a4 : setR M j f b = M b := setR_ne (by omega)
  exact ⟨by omega, by omega, h3, by omega, by rw [a1]; exact h5, by rw [a1]; exact h6, by rw [a2]; exact h7, by rw [a2]; exact h8, h9, by rw [a3]; exact h10, by rw [a3]; exact h11, h12, by rw [a4]; exact h13, by rw [a4]; exact h14⟩
theorem SBS.putN {z : Shp} {M : Mem} {j b m q k : Nat} {v : Int32} {x : List Nat} (h : SBS z M j b m x) (h1 : q ≠ 146) (h2 : q ≠ b) : SBS z (put M q k v) j b m x := by
  have a3 : put M q k v 146 = M 146 := put_ne (Ne.symm h1)
  have a4 : put M q k v b = M b := put_ne (Ne.symm h2)
  obtain ⟨h1, h2, h3, h4, h5, h6, h7, h8, h9, h10, h11, h12, h13, h14⟩ := h
  exact ⟨h1, h2, h3, h4, h5, h6, h7, h8, h9, by rw [a3]; exact h10, by rw [a3]; exact h11, h12, by rw [a4]; exact h13, by rw [a4]; exact h14⟩
/-- a text of the world: at q, its bytes at b -/
def WSt (z : Shp) (M : Mem) (j q b : Nat) (x : List Nat) : Prop := q < j ∧ b < j ∧ j ≤ 800 ∧ (z q).1 = 11 ∧ (z q).2.2 0 = some b ∧ (z b).1 = 21 ∧ (z b).2.1 = x.length ∧ M q 1 = 0 ∧ ∀ i, i < x.length → M b i = nI (x.getD i 0)
set_option maxHeartbeats 4000000 in
set_option maxRecDepth 100000 in
theorem c_gv (l : Launch) {w : Wc} (had : Ad w) {j b m : Nat} {z : Shp} {x : List Nat} (M : Mem) (h : SBS z M j b m x) : CtG l y_gv b_gv 1 (some (.array .byte)) (rmC 0 0 0) w j z [.ref (wad w 146)] M (QgR w j b (fun z2 M2 => z2 = z ∧ M2 = M)) := by
  have hh := h
  obtain ⟨h1, h2, h3, h4, h5, h6, h7, h8, h9, h10, h11, h12, h13, h14⟩ := h
  refine CtG.go (by decide) (L := [(0, .ref (wad w 146))]) rfl (Nat.le_of_ble_eq_true rfl) (fun p0 e s mm args below meth c hnm hsz hao g hret => ?_)
  refine G_aload_n g (pc := 0) 0 d_gv_0 rfl rfl ?_
  refine G_getR g (pc := 1) fa_A_15 (List.mem_range.mpr h1) h5 h6 d_gv_1 ?_
  exact G_gretR g (pc := 4) (q := b) ⟨rfl, rfl⟩ hret (Or.inr ⟨_, rfl⟩) (Nat.le_of_ble_eq_true rfl) (Nat.le_of_ble_eq_true rfl) d_gv_4
set_option maxHeartbeats 4000000 in
set_option maxRecDepth 100000 in
theorem c_sl (l : Launch) {w : Wc} (had : Ad w) {j b m : Nat} {z : Shp} {x : List Nat} (M : Mem) (h : SBS z M j b m x) : CtG l y_sl b_sl 1 (some .int) (rmC 0 0 0) w j z [.ref (wad w 146)] M (QgI w j (nI x.length) (fun z2 M2 => z2 = z ∧ M2 = M)) := by
  have hh := h
  obtain ⟨h1, h2, h3, h4, h5, h6, h7, h8, h9, h10, h11, h12, h13, h14⟩ := h
  refine CtG.go (by decide) (L := [(0, .ref (wad w 146))]) rfl (Nat.le_of_ble_eq_true rfl) (fun p0 e s mm args below meth c hnm hsz hao g hret => ?_)
  refine G_aload_n g (pc := 0) 0 d_sl_0 rfl rfl ?_
  refine G_get g (pc := 1) fa_A_79 (List.mem_range.mpr h1) h5 d_sl_1 ?_
  refine Go.top (y := (nI x.length)) h11 ?_
  exact G_gretI g (pc := 4) ⟨rfl, rfl⟩ hret (Nat.le_of_ble_eq_true rfl) (Nat.le_of_ble_eq_true rfl) d_sl_4
theorem cj_U_343 : CSu "java/lang/StringBuilder" 343 y_sl b_sl 1 (some .int) 0 := ⟨by
  intro t ht
  rcases List.mem_cons.mp ht with rfl | ht
  · exact TT_in (i := 1325) (by decide +kernel) (by decide +kernel)
  rcases List.mem_cons.mp ht with rfl | ht
  · exact TT_in (i := 1321) (by decide +kernel) (by decide +kernel)
  rcases List.mem_cons.mp ht with rfl | ht
  · exact TT_in (i := 1162) (by decide +kernel) (by decide +kernel)
  rcases List.mem_cons.mp ht with rfl | ht
  · exact TT_in (i := 1320) (by decide +kernel) (by decide +kernel)
  rcases List.mem_cons.mp ht with rfl | ht
  · exact TT_in (i := 30) (by decide +kernel) (by decide +kernel)
  rcases List.mem_cons.mp ht with rfl | ht
  · exact TT_in (i := 1326) (by decide +kernel) (by decide +kernel)
  exact ht, ⟨by decide +kernel, by decide +kernel⟩⟩
set_option maxHeartbeats 4000000 in
set_option maxRecDepth 100000 in
theorem c_bl (l : Launch) {w : Wc} (had : Ad w) {j b m : Nat} {z : Shp} {x : List Nat} (M : Mem) (h : SBS z M j b m x) : CtG l y_bl b_bl 1 (some .int) (rmC 1 0 0) w j z [.ref (wad w 146)] M (QgI w j (nI x.length) (fun z2 M2 => z2 = z ∧ M2 = M)) := by
  have hh := h
  obtain ⟨h1, h2, h3, h4, h5, h6, h7, h8, h9, h10, h11, h12, h13, h14⟩ := h
  refine CtG.go (by decide) (L := [(0, .ref (wad w 146))]) rfl (Nat.le_of_ble_eq_true rfl) (fun p0 e s mm args below meth c hnm hsz hao g hret => ?_)
  refine G_aload_n g (pc := 0) 0 d_bl_0 rfl rfl ?_
  refine G_gI0 (RG_SU g (pc := 1) (q := 146) (As := []) (st := []) had hao (by omega) (by omega) hsz cj_U_343 (c_sl l had M hh) (List.mem_range.mpr h1) h5 rfl ⟨(Nat.le_of_ble_eq_true rfl), (Nat.le_of_ble_eq_true rfl)⟩ ⟨Nat.zero_le _, Nat.zero_le _⟩ (Nat.le_of_ble_eq_true rfl) d_bl_1) (fun z9 M9 hy9 => ?_)
  obtain ⟨rfl, rfl⟩ := hy9
  exact G_gretI g (pc := 4) ⟨rfl, rfl⟩ hret (Nat.le_of_ble_eq_true rfl) (Nat.le_of_ble_eq_true rfl) d_bl_4
set_option maxHeartbeats 4000000 in
set_option maxRecDepth 100000 in
theorem c_chl (l : Launch) {w : Wc} {j q : Nat} {z : Shp} (M : Mem) (hq : q ≤ 2000) : CtG l y_chl b_chl 2 none (rmC 0 0 0) w j z [.int 0, .int (nI q)] M (QgV w j (fun z2 M2 => z2 = z ∧ M2 = M)) := by
  refine CtG.go (by decide) (L := [(0, .int 0), (1, .int (nI q))]) rfl (Nat.le_of_ble_eq_true rfl) (fun p0 e s mm args below meth c hnm hsz hao g hret => ?_)
  refine G_iload_n g (pc := 0) 1 d_chl_0 rfl rfl ?_
  refine G_iload_n g (pc := 1) 0 d_chl_1 rfl rfl ?_
  refine K_icmp_ge_T g (pc := 2) 37 ((show nI 0 ≤ nI q from nI_le (by omega) (by omega))) d_chl_2 (by decide) ?_
  exact G_gretV g (pc := 37) ⟨rfl, rfl⟩ hret (Nat.le_of_ble_eq_true rfl) (Nat.le_of_ble_eq_true rfl) d_chl_37
theorem cj_AR_343 : CS "java/util/Arrays" 343 y_chl b_chl 2 none 2 := ⟨TT_in (i := 1334) (by decide +kernel) (by decide +kernel), TT_in (i := 1335) (by decide +kernel) (by decide +kernel), TT_in (i := 35) (by decide +kernel) (by decide +kernel), TT_in (i := 1336) (by decide +kernel) (by decide +kernel), ⟨by decide +kernel, by decide +kernel, by decide +kernel⟩⟩
theorem cj_AR_339 : CS "java/util/Arrays" 339 y_corb b_corb 5 (some (.array .byte)) 3 := ⟨TT_in (i := 1331) (by decide +kernel) (by decide +kernel), TT_in (i := 1332) (by decide +kernel) (by decide +kernel), TT_in (i := 35) (by decide +kernel) (by decide +kernel), TT_in (i := 1333) (by decide +kernel) (by decide +kernel), ⟨by decide +kernel, by decide +kernel, by decide +kernel⟩⟩
set_option maxHeartbeats 4000000 in
set_option maxRecDepth 100000 in
theorem c_corb (l : Launch) {w : Wc} (had : Ad w) {j b m : Nat} {z : Shp} {x : List Nat} (M : Mem) (h : SBS z M j b m x) (hj : j < 800) : CtG l y_corb b_corb 5 (some (.array .byte)) (rmC 1 1 x.length) w j z [.ref (wad w b), .int 0, .int (nI x.length)] M (QgR w (j + 1) j (fun z2 M2 => z2 = zfr z j 21 x.length ∧ (∀ p, p ≠ j → M2 p = M p) ∧ ∀ i, i < x.length → M2 j i = nI (x.getD i 0))) := by
  have hh := h
  obtain ⟨h1, h2, h3, h4, h5, h6, h7, h8, h9, h10, h11, h12, h13, h14⟩ := h
  refine CtG.go (by decide) (L := [(0, .ref (wad w b)), (1, .int 0), (2, .int (nI x.length))]) rfl (Nat.le_of_ble_eq_true rfl) (fun p0 e s mm args below meth c hnm hsz hao g hret => ?_)
  refine G_iload_n g (pc := 0) 1 d_corb_0 rfl rfl ?_
  refine G_iload_n g (pc := 1) 2 d_corb_1 rfl rfl ?_
  refine G_gV0 (RG_S g (pc := 2) (As := [.int 0, .int (nI x.length)]) (st := []) had hao (by omega) (by omega) hsz cj_AR_343 (c_chl l M (by omega)) rfl ⟨(Nat.le_of_ble_eq_true rfl), (Nat.le_of_ble_eq_true rfl)⟩ ⟨Nat.zero_le _, Nat.zero_le _⟩ (Nat.le_of_ble_eq_true rfl) d_corb_2) (fun z9 M9 hy9 => ?_)
  obtain ⟨rfl, rfl⟩ := hy9
  refine G_iload_n g (pc := 5) 2 d_corb_5 rfl rfl ?_
  refine G_iload_n g (pc := 6) 1 d_corb_6 rfl rfl ?_
  refine G_isub g (pc := 7) d_corb_7 ?_
  refine Go.top (y := nI x.length) (Int32.sub_zero _) ?_
  refine G_istore_n g (pc := 8) _ d_corb_8 rfl (Nat.le_of_ble_eq_true rfl) rfl ?_
  refine G_iload_n g (pc := 9) 0 d_corb_9 rfl rfl ?_
  refine G_newB g (pc := 10) (N := x.length) had (by omega) hsz aB (by omega) ⟨(Nat.le_of_ble_eq_true rfl), (by show 0 + x.length ≤ x.length; omega)⟩ d_corb_10 ?_
  have g1 := Gd.wg (z2 := zfr z9 j 21 x.length) (j2 := j + 1) had (by omega) g
  have zb : zfr z9 j 21 x.length b = z9 b := if_neg (by omega)
  have zj : zfr z9 j 21 x.length j = (21, x.length, fun _ => none) := if_pos rfl
  have mb : setR M9 j (fun _ => 0) b = M9 b := setR_ne (by omega)
  refine G_astore g1 (pc := 12) _ d_corb_12 (Nat.le_of_ble_eq_true rfl) rfl ?_
  refine G_aload_n g1 (pc := 14) 2 d_corb_14 rfl rfl ?_
  refine G_iload_n g1 (pc := 15) 3 d_corb_15 rfl rfl ?_
  refine G_aload g1 (pc := 16) 0 d_corb_16 rfl ?_
  refine G_iconst g1 (pc := 18) (0 : Int32) d_corb_18 rfl ?_
  refine G_aload_n g1 (pc := 19) 2 d_corb_19 rfl rfl ?_
  refine G_alenB g1 (pc := 20) (nI m) (List.mem_range.mpr (by omega)) (by show (zfr z9 j 21 x.length b).1 = 21; rw [zb]; exact h7) (by show nI (zfr z9 j 21 x.length b).2.1 = _; rw [zb, h8]) d_corb_20 ?_
  refine G_iload_n g1 (pc := 21) 3 d_corb_21 rfl rfl ?_
  refine G_isub g1 (pc := 22) d_corb_22 ?_
  refine Go.top (y := nI m) (Int32.sub_zero _) ?_
  refine G_iload_n g1 (pc := 23) 1 d_corb_23 rfl rfl ?_
  refine G_mmin g1 (pc := 24) ma_AR_304 ⟨(Nat.le_of_ble_eq_true rfl), (Nat.le_of_ble_eq_true rfl), (by show 0 + 1 ≤ 1; omega), (by show 0 + x.length ≤ x.length; omega)⟩ d_corb_24 ?_
  refine Go.top (y := nI x.length) (by rw [imin_nI (by omega) (by omega), Nat.min_eq_right (by omega)]) ?_
  refine G_copyB g1 (pc := 27) (q0 := b) (q1 := j) (n0 := m) (n1 := x.length) (sp := 0) (dp := 0) (z := nI x.length) ma_AR_150 ⟨(Nat.le_of_ble_eq_true rfl), (Nat.le_of_ble_eq_true rfl)⟩ (List.mem_range.mpr (by omega)) (by show (zfr z9 j 21 x.length b).1 = 21; rw [zb]; exact h7) (by show (zfr z9 j 21 x.length b).2.1 = m; rw [zb]; exact h8) (List.mem_range.mpr (by omega)) (by show (zfr z9 j 21 x.length j).1 = 21; rw [zj]) (by show (zfr z9 j 21 x.length j).2.1 = x.length; rw [zj]) (show cpB (nI 0) (nI 0) (nI x.length) m x.length = true from cpB_nI (by omega) (by omega) (by omega) (by omega)) (by rw [mb]; exact h14) d_corb_27 ?_
  refine G_aload g1 (pc := 30) 0 d_corb_30 rfl ?_
  refine G_gretR g1 (pc := 32) (q := j) ⟨rfl, fun p hp => by rw [setR_ne hp, setR_ne hp], fun i hi => ?_⟩ hret (Or.inr ⟨_, rfl⟩) (Nat.le_of_ble_eq_true rfl) (by show 0 + x.length ≤ x.length; omega) d_corb_32
  rw [setR_self, mb, setR_self, show (0 : Int32).toNatClampNeg = 0 from rfl, nI_clamp (by omega), pk_cpy_in (Nat.zero_le _) (by omega), show 0 + (i - 0) = i from by omega]
  exact h13 i hi
set_option maxHeartbeats 4000000 in
set_option maxRecDepth 100000 in
theorem c_cor (l : Launch) {w : Wc} (had : Ad w) {j b m : Nat} {z : Shp} {x : List Nat} (M : Mem) (h : SBS z M j b m x) (hj : j < 800) : CtG l y_cor b_cor 3 (some (.array .byte)) (rmC 2 1 x.length) w j z [.ref (wad w b), .int 0, .int (nI x.length)] M (QgR w (j + 1) j (fun z2 M2 => z2 = zfr z j 21 x.length ∧ (∀ p, p ≠ j → M2 p = M p) ∧ ∀ i, i < x.length → M2 j i = nI (x.getD i 0))) := by
  have hh := h
  obtain ⟨h1, h2, h3, h4, h5, h6, h7, h8, h9, h10, h11, h12, h13, h14⟩ := h
  refine CtG.go (by decide) (L := [(0, .ref (wad w b)), (1, .int 0), (2, .int (nI x.length))]) rfl (Nat.le_of_ble_eq_true rfl) (fun p0 e s mm args below meth c hnm hsz hao g hret => ?_)
  refine G_iload_n g (pc := 0) 1 d_cor_0 rfl rfl ?_
  refine K_if_ne_F g (pc := 1) 10 (rfl) d_cor_1 (by decide) ?_
  refine G_iload_n g (pc := 4) 2 d_cor_4 rfl rfl ?_
  refine G_aload_n g (pc := 5) 0 d_cor_5 rfl rfl ?_
  refine G_alenB g (pc := 6) (nI m) (List.mem_range.mpr h4) h7 (by show nI (z b).2.1 = _; rw [h8]) d_cor_6 ?_
  by_cases hc : x.length = m
  · skip
    refine K_icmp_eq_T g (pc := 7) 17 ((by rw [hc])) d_cor_7 (by decide) ?_
    refine G_aload_n g (pc := 17) 0 d_cor_17 rfl rfl ?_
    refine G_cloneB g (pc := 18) (N := m) had (by omega) hsz h4 h7 h8 h14 ⟨(Nat.le_of_ble_eq_true rfl), (Nat.le_of_ble_eq_true rfl)⟩ ⟨(Nat.le_of_ble_eq_true rfl), (by show 0 + m ≤ x.length; omega)⟩ d_cor_18 ?_
    have g1 := Gd.wg (z2 := zfr z j 21 m) (j2 := j + 1) had (by omega) g
    have zj : zfr z j 21 m j = (21, m, fun _ => none) := if_pos rfl
    refine G_castB g1 (pc := 21) (List.mem_range.mpr (by omega)) (by show (zfr z j 21 m j).1 = 21; rw [zj]) d_cor_21 ?_
    exact G_gretR g1 (pc := 24) (q := j) ⟨by rw [hc], fun p hp => setR_ne hp, fun i hi => by rw [setR_self]; exact h13 i hi⟩ hret (Or.inr ⟨_, rfl⟩) (Nat.le_of_ble_eq_true rfl) (by show 0 + m ≤ x.length; omega) d_cor_24
  · skip
    refine K_icmp_eq_F g (pc := 7) 17 ((fun e0 => hc ((nI_eq (by omega) (by omega)).mp e0))) d_cor_7 (by decide) ?_
    refine G_aload_n g (pc := 10) 0 d_cor_10 rfl rfl ?_
    refine G_iload_n g (pc := 11) 1 d_cor_11 rfl rfl ?_
    refine G_iload_n g (pc := 12) 2 d_cor_12 rfl rfl ?_
    refine G_gR (RG_S g (pc := 13) (As := [.ref (wad w b), .int 0, .int (nI x.length)]) (st := []) had hao (by omega) (by omega) hsz cj_AR_339 (c_corb l had M hh hj) rfl ⟨(Nat.le_of_ble_eq_true rfl), (Nat.le_of_ble_eq_true rfl)⟩ ⟨(Nat.le_of_ble_eq_true rfl), (by show 0 + x.length ≤ x.length; omega)⟩ (Nat.le_of_ble_eq_true rfl) d_cor_13) (fun z9 M9 hy9 => ?_)
    have g1 := Gd.wg (z2 := z9) (j2 := j + 1) had (by omega) g
    exact G_gretR g1 (pc := 16) (q := j) hy9 hret (Or.inr ⟨_, rfl⟩) (Nat.le_of_ble_eq_true rfl) (by show 0 + x.length ≤ x.length; omega) d_cor_16
theorem cj_V_552 : CU "java/lang/String" 552 ⟨"java/lang/AbstractStringBuilder", "getValue", "()[B"⟩ y_gv b_gv 1 (some (.array .byte)) 0 := ⟨by
  intro t ht
  rcases List.mem_cons.mp ht with rfl | ht
  · exact TT_in (i := 1314) (by decide +kernel) (by decide +kernel)
  rcases List.mem_cons.mp ht with rfl | ht
  · exact TT_in (i := 1316) (by decide +kernel) (by decide +kernel)
  rcases List.mem_cons.mp ht with rfl | ht
  · exact TT_in (i := 1317) (by decide +kernel) (by decide +kernel)
  rcases List.mem_cons.mp ht with rfl | ht
  · exact TT_in (i := 1315) (by decide +kernel) (by decide +kernel)
  rcases List.mem_cons.mp ht with rfl | ht
  · exact TT_in (i := 30) (by decide +kernel) (by decide +kernel)
  rcases List.mem_cons.mp ht with rfl | ht
  · exact TT_in (i := 1318) (by decide +kernel) (by decide +kernel)
  exact ht, rfl, ⟨by decide +kernel, by decide +kernel, by decide +kernel⟩⟩
theorem cj_V_549 : CO "java/lang/String" 549 ⟨"java/lang/AbstractStringBuilder", "length", "()I"⟩ y_bl b_bl 1 (some .int) 0 := ⟨by
  intro t ht
  rcases List.mem_cons.mp ht with rfl | ht
  · exact TT_in (i := 1319) (by decide +kernel) (by decide +kernel)
  rcases List.mem_cons.mp ht with rfl | ht
  · exact TT_in (i := 1321) (by decide +kernel) (by decide +kernel)
  rcases List.mem_cons.mp ht with rfl | ht
  · exact TT_in (i := 1320) (by decide +kernel) (by decide +kernel)
  rcases List.mem_cons.mp ht with rfl | ht
  · exact TT_in (i := 1322) (by decide +kernel) (by decide +kernel)
  rcases List.mem_cons.mp ht with rfl | ht
  · exact TT_in (i := 1323) (by decide +kernel) (by decide +kernel)
  rcases List.mem_cons.mp ht with rfl | ht
  · exact TT_in (i := 31) (by decide +kernel) (by decide +kernel)
  rcases List.mem_cons.mp ht with rfl | ht
  · exact TT_in (i := 1324) (by decide +kernel) (by decide +kernel)
  exact ht, ⟨prog_13_method_6_code, 1, (some .int), TT_in (i := 1326) (by decide +kernel) (by decide +kernel)⟩, ⟨by decide +kernel, by decide +kernel, by decide +kernel⟩⟩
theorem cj_V_1047 : CU "java/lang/String" 1047 ⟨"java/lang/AbstractStringBuilder", "isLatin1", "()Z"⟩ y_lat b_lat 1 (some .boolean) 0 := ⟨by
  intro t ht
  rcases List.mem_cons.mp ht with rfl | ht
  · exact TT_in (i := 1327) (by decide +kernel) (by decide +kernel)
  rcases List.mem_cons.mp ht with rfl | ht
  · exact TT_in (i := 1198) (by decide +kernel) (by decide +kernel)
  rcases List.mem_cons.mp ht with rfl | ht
  · exact TT_in (i := 1199) (by decide +kernel) (by decide +kernel)
  rcases List.mem_cons.mp ht with rfl | ht
  · exact TT_in (i := 1197) (by decide +kernel) (by decide +kernel)
  rcases List.mem_cons.mp ht with rfl | ht
  · exact TT_in (i := 30) (by decide +kernel) (by decide +kernel)
  rcases List.mem_cons.mp ht with rfl | ht
  · exact TT_in (i := 1200) (by decide +kernel) (by decide +kernel)
  exact ht, rfl, ⟨by decide +kernel, by decide +kernel, by decide +kernel⟩⟩
theorem cj_V_54 : CS "java/lang/String" 54 y_cor b_cor 3 (some (.array .byte)) 3 := ⟨TT_in (i := 1328) (by decide +kernel) (by decide +kernel), TT_in (i := 1329) (by decide +kernel) (by decide +kernel), TT_in (i := 35) (by decide +kernel) (by decide +kernel), TT_in (i := 1330) (by decide +kernel) (by decide +kernel), ⟨by decide +kernel, by decide +kernel, by decide +kernel⟩⟩
theorem fwf_11_0 : FWF "java/lang/String" 11 0 (.array .byte) := ⟨"java/lang/String", T11, 4, ty11, rfl, tyk11, nm11, rfl, rfl, by decide +kernel⟩
theorem fwf_11_1 : FWF "java/lang/String" 11 1 .byte := ⟨"java/lang/String", T11, 4, ty11, rfl, tyk11, nm11, rfl, rfl, by decide +kernel⟩
set_option maxHeartbeats 4000000 in
set_option maxRecDepth 100000 in
theorem c_ni (l : Launch) {w : Wc} (had : Ad w) {j b m : Nat} {z : Shp} {x : List Nat} (M : Mem) (h : SBS z M j b m x) (hj : j < 799) {q : Nat} (hq : q < j) (hq2 : 146 < q) (hqb : q ≠ b) (hqk : (z q).1 = 11) : CtG l y_ni b_ni 5 none (rmC 3 1 x.length) w j z [.ref (wad w q), .ref (wad w 146), .null] M (QgV w (j + 1) (fun z2 M2 => WSt z2 M2 (j + 1) q j x ∧ SFr z M z2 M2)) := by
  have hh := h
  obtain ⟨h1, h2, h3, h4, h5, h6, h7, h8, h9, h10, h11, h12, h13, h14⟩ := h
  refine CtG.go (by decide) (L := [(0, .ref (wad w q)), (1, .ref (wad w 146)), (2, .null)]) rfl (Nat.le_of_ble_eq_true rfl) (fun p0 e s mm args below meth c hnm hsz hao g hret => ?_)
  refine G_aload_n g (pc := 0) 0 d_ni_0 rfl rfl ?_
  refine G_objI g (pc := 1) (q := q) (TT_in (i := 1313) (by decide +kernel) (by decide +kernel)) oI1 oI2 ⟨(Nat.le_of_ble_eq_true rfl), (Nat.le_of_ble_eq_true rfl)⟩ d_ni_1 ?_
  refine G_aload_n g (pc := 4) 1 d_ni_4 rfl rfl ?_
  refine G_gR0 (RG_U g (pc := 5) (q := 146) (As := []) (st := []) had hao (by omega) (by omega) hsz cj_V_552 (c_gv l had M hh) (List.mem_range.mpr h1) h5 rfl ⟨(Nat.le_of_ble_eq_true rfl), (Nat.le_of_ble_eq_true rfl)⟩ ⟨Nat.zero_le _, Nat.zero_le _⟩ (Nat.le_of_ble_eq_true rfl) d_ni_5) (fun z7 M7 hy7 => ?_)
  obtain ⟨rfl, rfl⟩ := hy7
  refine G_astore_n g (pc := 8) _ d_ni_8 rfl (Nat.le_of_ble_eq_true rfl) rfl ?_
  refine G_aload_n g (pc := 9) 2 d_ni_9 rfl rfl ?_
  refine G_gI0 (RG_O g (pc := 10) (q := 146) (As := []) (st := []) had hao (by omega) (by omega) hsz cj_V_549 (c_bl l had M7 hh) (List.mem_range.mpr h1) h5 rfl ⟨(Nat.le_of_ble_eq_true rfl), (Nat.le_of_ble_eq_true rfl)⟩ ⟨Nat.zero_le _, Nat.zero_le _⟩ (Nat.le_of_ble_eq_true rfl) d_ni_10) (fun z8 M8 hy8 => ?_)
  obtain ⟨rfl, rfl⟩ := hy8
  refine G_istore g (pc := 13) _ d_ni_13 (Nat.le_of_ble_eq_true rfl) rfl ?_
  refine G_aload_n g (pc := 15) 3 d_ni_15 rfl rfl ?_
  refine G_gI0 (RG_U g (pc := 16) (q := 146) (As := []) (st := []) had hao (by omega) (by omega) hsz cj_V_1047 (c_lat l M8 hh) (List.mem_range.mpr h1) h5 rfl ⟨(Nat.le_of_ble_eq_true rfl), (Nat.le_of_ble_eq_true rfl)⟩ ⟨Nat.zero_le _, Nat.zero_le _⟩ (Nat.le_of_ble_eq_true rfl) d_ni_16) (fun z9 M9 hy9 => ?_)
  obtain ⟨rfl, rfl⟩ := hy9
  refine K_if_eq_F g (pc := 19) 41 ((by decide)) d_ni_19 (by decide) ?_
  refine G_aload_n g (pc := 22) 2 d_ni_22 rfl rfl ?_
  refine G_iconst g (pc := 23) (0 : Int32) d_ni_23 rfl ?_
  refine G_putF g hnm (pc := 24) (q := q) fa_V_15 fwf_11_1 rfl rfl (List.mem_range.mpr hq) hqk d_ni_24 ?_
  have hb2 : SBS z9 (put M9 q 1 0) j b m x := hh.putN (by omega) hqb
  refine G_aload_n g (pc := 27) 2 d_ni_27 rfl rfl ?_
  refine G_aload_n g (pc := 28) 1 d_ni_28 rfl rfl ?_
  refine G_iconst g (pc := 29) (0 : Int32) d_ni_29 rfl ?_
  refine G_iload g (pc := 30) 0 d_ni_30 rfl ?_
  refine G_gR (RG_S g (pc := 32) (As := [.ref (wad w b), .int 0, .int (nI x.length)]) (st := [.ref (wad w q)]) had hao (by omega) (by omega) hsz cj_V_54 (c_cor l had _ hb2 (by omega)) rfl ⟨(Nat.le_of_ble_eq_true rfl), (Nat.le_of_ble_eq_true rfl)⟩ ⟨(Nat.le_of_ble_eq_true rfl), (by show 0 + x.length ≤ x.length; omega)⟩ (Nat.le_of_ble_eq_true rfl) d_ni_32) (fun z6 M6 hy6 => ?_)
  obtain ⟨rfl, c1, c2⟩ := hy6
  have g1 := Gd.wg (z2 := zfr z9 j 21 x.length) (j2 := j + 1) had (by omega) g
  have zq : zfr z9 j 21 x.length q = z9 q := if_neg (by omega)
  refine G_putFR g1 hnm (pc := 35) (q := q) (q2 := j) fa_V_9 fwf_11_0 rfl rfl (List.mem_range.mpr (by omega)) (by show (zfr z9 j 21 x.length q).1 = 11; rw [zq]; exact hqk) d_ni_35 ?_
  have g2 := Gd.wg (z2 := zset (zfr z9 j 21 x.length) q 0 j) (j2 := j + 1) had (by omega) g
  have zj : zset (zfr z9 j 21 x.length) q 0 j j = (21, x.length, fun _ => none) := by rw [zset_ne (by omega)]; exact if_pos rfl
  have zs : (zset (zfr z9 j 21 x.length) q 0 j q).1 = 11 := by rw [zset_1, zq]; exact hqk
  have zs2 : (zset (zfr z9 j 21 x.length) q 0 j q).2.2 0 = some j := by unfold zset; rw [if_pos rfl]; rfl
  refine G_goto g2 (pc := 38) 97 d_ni_38 (by decide) ?_
  refine G_gretV g2 (pc := 97) ⟨⟨by omega, by omega, by omega, zs, zs2, by rw [zj], by rw [zj], by rw [c1 q (by omega), put_row, upd_at, if_pos rfl], c2⟩, fun p hp => ⟨by rw [zset_ne (by omega)]; exact if_neg (by omega), by rw [c1 p (by omega), put_ne (by omega)]⟩⟩ hret (Nat.le_of_ble_eq_true rfl) (by show 0 + x.length ≤ x.length; omega) d_ni_97
theorem cj_V_489 : Cond.methodLink "java/lang/String" 489 y_ni ∈ TT ∧ CIW y_ni b_ni 5 2 := ⟨TT_in (i := 1310) (by decide +kernel) (by decide +kernel), TT_in (i := 1311) (by decide +kernel) (by decide +kernel), TT_in (i := 32) (by decide +kernel) (by decide +kernel), TT_in (i := 1312) (by decide +kernel) (by decide +kernel), ⟨by decide +kernel, by decide +kernel, by decide +kernel⟩⟩
theorem cj_U_137 : Cond.methodLink "java/lang/StringBuilder" 137 y_nsi ∈ TT ∧ CIW y_nsi b_nsi 2 1 := ⟨TT_in (i := 1307) (by decide +kernel) (by decide +kernel), TT_in (i := 1308) (by decide +kernel) (by decide +kernel), TT_in (i := 32) (by decide +kernel) (by decide +kernel), TT_in (i := 1309) (by decide +kernel) (by decide +kernel), ⟨by decide +kernel, by decide +kernel, by decide +kernel⟩⟩
set_option maxHeartbeats 4000000 in
set_option maxRecDepth 100000 in
theorem c_nsi (l : Launch) {w : Wc} (had : Ad w) {j b m : Nat} {z : Shp} {x : List Nat} (M : Mem) (h : SBS z M j b m x) (hj : j < 799) {q : Nat} (hq : q < j) (hq2 : 146 < q) (hqb : q ≠ b) (hqk : (z q).1 = 11) : CtG l y_nsi b_nsi 2 none (rmC 4 1 x.length) w j z [.ref (wad w q), .ref (wad w 146)] M (QgV w (j + 1) (fun z2 M2 => WSt z2 M2 (j + 1) q j x ∧ SFr z M z2 M2)) := by
  refine CtG.go (by decide) (L := [(0, .ref (wad w q)), (1, .ref (wad w 146))]) rfl (Nat.le_of_ble_eq_true rfl) (fun p0 e s mm args below meth c hnm hsz hao g hret => ?_)
  refine G_aload_n g (pc := 0) 0 d_nsi_0 rfl rfl ?_
  refine G_aload_n g (pc := 1) 1 d_nsi_1 rfl rfl ?_
  refine G_null g (pc := 2) d_nsi_2 ?_
  refine G_gV (RG_I g (pc := 3) (q := q) (As := [.ref (wad w 146), .null]) (st := []) had hao (by omega) (by omega) hsz cj_V_489 rfl (c_ni l had M h hj hq hq2 hqb hqk) rfl ⟨(Nat.le_of_ble_eq_true rfl), (Nat.le_of_ble_eq_true rfl)⟩ ⟨(Nat.le_of_ble_eq_true rfl), (by show 0 + x.length ≤ x.length; omega)⟩ (Nat.le_of_ble_eq_true rfl) d_nsi_3) (fun z9 M9 hy9 => ?_)
  have g1 := Gd.wg (z2 := z9) (j2 := j + 1) had (by omega) g
  exact G_gretV g1 (pc := 6) hy9 hret (Nat.le_of_ble_eq_true rfl) (by show 0 + x.length ≤ x.length; omega) d_nsi_6
set_option maxHeartbeats 4000000 in
set_option maxRecDepth 100000 in
theorem c_tst (l : Launch) {w : Wc} (had : Ad w) {j b m : Nat} {z : Shp} {x : List Nat} (M : Mem) (h : SBS z M j b m x) (hj : j < 798) : CtG l y_tst b_tst 1 (some (.object "java/lang/String")) (rmC 5 2 (4 + x.length)) w j z [.ref (wad w 146)] M (QgR w (j + 2) j (fun z2 M2 => WSt z2 M2 (j + 2) j (j + 1) x ∧ SFr z M z2 M2)) := by
  have hh := h
  obtain ⟨h1, h2, h3, h4, h5, h6, h7, h8, h9, h10, h11, h12, h13, h14⟩ := h
  refine CtG.go (by decide) (L := [(0, .ref (wad w 146))]) rfl (Nat.le_of_ble_eq_true rfl) (fun p0 e s mm args below meth c hnm hsz hao g hret => ?_)
  refine G_new g (pc := 0) had (by omega) hsz nw_U_18 ⟨(Nat.le_of_ble_eq_true rfl), (by show 0 + 4 ≤ 4 + x.length; omega)⟩ d_tst_0 ?_
  have g1 := Gd.wg (z2 := zfr z j 11 0) (j2 := j + 1) had (by omega) g
  have hb2 := hh.new (by omega) 11 0 (fun _ => 0)
  have zj : zfr z j 11 0 j = (11, 0, fun _ => none) := if_pos rfl
  refine G_dup g1 (pc := 3) d_tst_3 rfl ?_
  refine G_aload_n g1 (pc := 4) 0 d_tst_4 rfl rfl ?_
  refine G_gV (RG_I g1 (pc := 5) (q := j) (As := [.ref (wad w 146)]) (st := [.ref (wad w j)]) had hao (by omega) (by omega) (by omega) cj_U_137 rfl (c_nsi l had _ hb2 (by omega) (by omega) h1 (by omega) (by rw [zj])) rfl ⟨(Nat.le_of_ble_eq_true rfl), (Nat.le_of_ble_eq_true rfl)⟩ ⟨(Nat.le_of_ble_eq_true rfl), (by show 0 + 4 + x.length ≤ 4 + x.length; omega)⟩ (Nat.le_of_ble_eq_true rfl) d_tst_5) (fun z9 M9 hy9 => ?_)
  have g2 := Gd.wg (z2 := z9) (j2 := j + 2) had (by omega) g
  exact G_gretR g2 (pc := 8) (q := j) ⟨hy9.1, fun p hp => ⟨((hy9.2 p hp).1).trans (if_neg (by omega)), ((hy9.2 p hp).2).trans (setR_ne (by omega))⟩⟩ hret (Or.inl ⟨_, rfl⟩) (Nat.le_of_ble_eq_true rfl) (by show 0 + 4 + x.length ≤ 4 + x.length; omega) d_tst_8
