/-! a builder is made -/
abbrev b_brg : ByteArray := prog_23_method_80_code
abbrev y_brg : MethodName := ⟨"java/lang/StringBuilder", "append", "(Ljava/lang/String;)Ljava/lang/AbstractStringBuilder;"⟩
theorem d_brg_0 : decode b_brg 0 = .ok (.aload_n 0, 1) := by decide +kernel
theorem d_brg_1 : decode b_brg 1 = .ok (.aload_n 1, 1) := by decide +kernel
theorem d_brg_2 : decode b_brg 2 = .ok (.invokevirtual 23, 3) := by decide +kernel
theorem d_brg_5 : decode b_brg 5 = .ok (.areturn, 1) := by decide +kernel
abbrev b_ai : ByteArray := prog_13_method_3_code
abbrev y_ai : MethodName := ⟨"java/lang/AbstractStringBuilder", "<init>", "(Ljava/lang/String;)V"⟩
theorem d_ai_0 : decode b_ai 0 = .ok (.aload_n 0, 1) := by decide +kernel
theorem d_ai_1 : decode b_ai 1 = .ok (.invokespecial 3, 3) := by decide +kernel
theorem d_ai_4 : decode b_ai 4 = .ok (.aload_n 1, 1) := by decide +kernel
theorem d_ai_5 : decode b_ai 5 = .ok (.invokevirtual 32, 3) := by decide +kernel
theorem d_ai_8 : decode b_ai 8 = .ok (.istore_n 2, 1) := by decide +kernel
theorem d_ai_9 : decode b_ai 9 = .ok (.iload_n 2, 1) := by decide +kernel
theorem d_ai_10 : decode b_ai 10 = .ok (.ldc 38, 2) := by decide +kernel
theorem d_ai_12 : decode b_ai 12 = .ok (.if_icmp .ge 10, 3) := by decide +kernel
theorem d_ai_15 : decode b_ai 15 = .ok (.iload_n 2, 1) := by decide +kernel
theorem d_ai_16 : decode b_ai 16 = .ok (.bipush 16, 2) := by decide +kernel
theorem d_ai_18 : decode b_ai 18 = .ok (.iadd, 1) := by decide +kernel
theorem d_ai_19 : decode b_ai 19 = .ok (.goto 5, 3) := by decide +kernel
theorem d_ai_22 : decode b_ai 22 = .ok (.ldc 39, 2) := by decide +kernel
theorem d_ai_24 : decode b_ai 24 = .ok (.istore_n 3, 1) := by decide +kernel
theorem d_ai_25 : decode b_ai 25 = .ok (.aload_n 1, 1) := by decide +kernel
theorem d_ai_26 : decode b_ai 26 = .ok (.invokevirtual 40, 3) := by decide +kernel
theorem d_ai_29 : decode b_ai 29 = .ok (.istore 4, 2) := by decide +kernel
theorem d_ai_31 : decode b_ai 31 = .ok (.aload_n 0, 1) := by decide +kernel
theorem d_ai_32 : decode b_ai 32 = .ok (.iload 4, 2) := by decide +kernel
theorem d_ai_34 : decode b_ai 34 = .ok (.putfield 22, 3) := by decide +kernel
theorem d_ai_37 : decode b_ai 37 = .ok (.aload_n 0, 1) := by decide +kernel
theorem d_ai_38 : decode b_ai 38 = .ok (.iload 4, 2) := by decide +kernel
theorem d_ai_40 : decode b_ai 40 = .ok (.ifCond .ne 9, 3) := by decide +kernel
theorem d_ai_43 : decode b_ai 43 = .ok (.iload_n 3, 1) := by decide +kernel
theorem d_ai_44 : decode b_ai 44 = .ok (.newarray .byte, 2) := by decide +kernel
theorem d_ai_46 : decode b_ai 46 = .ok (.goto 7, 3) := by decide +kernel
theorem d_ai_49 : decode b_ai 49 = .ok (.iload_n 3, 1) := by decide +kernel
theorem d_ai_50 : decode b_ai 50 = .ok (.invokestatic 26, 3) := by decide +kernel
theorem d_ai_53 : decode b_ai 53 = .ok (.putfield 15, 3) := by decide +kernel
theorem d_ai_56 : decode b_ai 56 = .ok (.aload_n 0, 1) := by decide +kernel
theorem d_ai_57 : decode b_ai 57 = .ok (.aload_n 1, 1) := by decide +kernel
theorem d_ai_58 : decode b_ai 58 = .ok (.invokevirtual 43, 3) := by decide +kernel
theorem d_ai_61 : decode b_ai 61 = .ok (.pop, 1) := by decide +kernel
theorem d_ai_62 : decode b_ai 62 = .ok (.return_, 1) := by decide +kernel
abbrev b_sbi : ByteArray := prog_23_method_3_code
abbrev y_sbi : MethodName := ⟨"java/lang/StringBuilder", "<init>", "(Ljava/lang/String;)V"⟩
theorem d_sbi_0 : decode b_sbi 0 = .ok (.aload_n 0, 1) := by decide +kernel
theorem d_sbi_1 : decode b_sbi 1 = .ok (.aload_n 1, 1) := by decide +kernel
theorem d_sbi_2 : decode b_sbi 2 = .ok (.invokespecial 7, 3) := by decide +kernel
theorem d_sbi_5 : decode b_sbi 5 = .ok (.return_, 1) := by decide +kernel
section RI
variable {ρ : Type} {p : Program} {l : Launch} {e : Env} {R : Room} {s : State} {m : MethodId} {args : Array Value} {below : List Frame} {meth : Method} {c : Code} {w : Wc} {nL k n j : Nat} {z : Shp} {Qf : ρ → State → Prop} {cc : ByteArray} {own : String}
/-- a constructor that is called -/
theorem RG_I (g : Gd p s m args meth c (wg w j z) nL cc own) {pc idx a maxL q : Nat} {L : List (Nat × Value)} {st As : List Value} {M : Mem} {y : MethodName} {b : ByteArray} {rm : Room} {Q : Array Value → State → Outcome → State → Prop} (had : Ad w) (hao : AO s) (hj : j ≤ 900) (h1j : 1 ≤ j) (hsz : s.heap.size + k = wlo w + j) (cw : Cond.methodLink own idx y ∈ TT ∧ CIW y b maxL a) (hy : y.name = "<init>") (hM : CtG l y b maxL none rm w j z (.ref (wad w q) :: As) M Q) (hn : As.length = a) (hR : rm.frames + 1 ≤ R.frames ∧ 8 + (maxL + 11) + rm.locals ≤ R.locals) (hC : k + rm.cells ≤ R.cells ∧ n + rm.slots ≤ R.slots) (hs : (st.map fun v => v.category).sum ≤ 8) (d : decode cc pc = .ok (.invokespecial idx, 3)) : RunG p l e R s m args below meth c w nL k n j z pc L (As.reverse ++ .ref (wad w q) :: st) M st rm (Q (.ref (wad w q) :: As).toArray) :=
  fun H locs ls T hP hS hl hT X => va_runI (As := As) (rest := st) ⟨g.1, g.2.1, g.2.2.1, g.2.2.2.1, g.2.2.2.2.1⟩ hM ⟨callB_of a g.2.2.2.2.1 (TT_gi cw.2.2.2.1) rfl rfl rfl (g.2.2.2.2.1 _ cw.2.2.1) (g.2.2.2.2.1 _ cw.1) cw.2.2.2.2 hR, hy, g.2.2.2.2.1 _ cw.2.1⟩ (pre_G g had hao hj h1j hsz hP hS hT X) rfl hn hl.1 rfl (lv_room hs) d hC
end RI
theorem cj_U_23 : CV "java/lang/StringBuilder" 23 y_saps b_saps 2 (some (.object "java/lang/StringBuilder")) 1 := ⟨TT_in (i := 1157) (by decide +kernel) (by decide +kernel), TT_in (i := 1158) (by decide +kernel) (by decide +kernel), TT_in (i := 1159) (by decide +kernel) (by decide +kernel), TT_in (i := 31) (by decide +kernel) (by decide +kernel), TT_in (i := 1160) (by decide +kernel) (by decide +kernel), ⟨by decide +kernel, by decide +kernel, by decide +kernel⟩⟩
theorem cj_A_43 : CO "java/lang/AbstractStringBuilder" 43 ⟨"java/lang/AbstractStringBuilder", "append", "(Ljava/lang/String;)Ljava/lang/AbstractStringBuilder;"⟩ y_brg b_brg 2 (some (.object "java/lang/AbstractStringBuilder")) 1 := ⟨by
  intro t ht
  rcases List.mem_cons.mp ht with rfl | ht
  · exact TT_in (i := 1151) (by decide +kernel) (by decide +kernel)
  rcases List.mem_cons.mp ht with rfl | ht
  · exact TT_in (i := 1153) (by decide +kernel) (by decide +kernel)
  rcases List.mem_cons.mp ht with rfl | ht
  · exact TT_in (i := 1152) (by decide +kernel) (by decide +kernel)
  rcases List.mem_cons.mp ht with rfl | ht
  · exact TT_in (i := 1154) (by decide +kernel) (by decide +kernel)
  rcases List.mem_cons.mp ht with rfl | ht
  · exact TT_in (i := 1155) (by decide +kernel) (by decide +kernel)
  rcases List.mem_cons.mp ht with rfl | ht
  · exact TT_in (i := 31) (by decide +kernel) (by decide +kernel)
  rcases List.mem_cons.mp ht with rfl | ht
  · exact TT_in (i := 1156) (by decide +kernel) (by decide +kernel)
  exact ht, ⟨prog_13_method_22_code, 3, (some (.object "java/lang/AbstractStringBuilder")), TT_in (i := 1163) (by decide +kernel) (by decide +kernel)⟩, ⟨by decide +kernel, by decide +kernel, by decide +kernel⟩⟩
set_option maxHeartbeats 4000000 in
set_option maxRecDepth 100000 in
theorem c_brg (l : Launch) {w : Wc} (had : Ad w) {j b m i : Nat} {z : Shp} {x : List Nat} (M : Mem) (h : SBS z M j b m x) (hi : i < 12) (hj : j < 800) (hq2 : nc (x.length + lenS i) m ≤ 1000) : CtG l y_brg b_brg 2 (some (.object "java/lang/AbstractStringBuilder")) (rmC 6 (gr (x.length + lenS i) m) (gs (x.length + lenS i) m)) w j z [.ref (wad w 146), .ref (wad w (1000 + i))] M (QgR w (j + gr (x.length + lenS i) m) 146 (fun z2 M2 => SBS z2 M2 (j + gr (x.length + lenS i) m) (nb (x.length + lenS i) m b j) (nc (x.length + lenS i) m) (x ++ txS i) ∧ SFr z M z2 M2)) := by
  refine CtG.go (by decide) (L := [(0, .ref (wad w 146)), (1, .ref (wad w (1000 + i)))]) rfl (Nat.le_of_ble_eq_true rfl) (fun p0 e s mm args below meth c hnm hsz hao g hret => ?_)
  refine G_aload_n g (pc := 0) 0 d_brg_0 rfl rfl ?_
  refine G_aload_n g (pc := 1) 1 d_brg_1 rfl rfl ?_
  refine G_gR (RG_V g (pc := 2) (q := 146) (ci := 10) (As := [.ref (wad w (1000 + i))]) (st := []) had hao (by omega) (by have := h.1; omega) hsz cj_U_23 (c_saps l had M h hi hj hq2) (List.mem_range.mpr h.1) h.2.2.2.2.1 rfl (by decide) rfl ⟨(Nat.le_of_ble_eq_true rfl), (Nat.le_of_ble_eq_true rfl)⟩ ⟨(by show 0 + gr (x.length + lenS i) m ≤ gr (x.length + lenS i) m; omega), (by show 0 + gs (x.length + lenS i) m ≤ gs (x.length + lenS i) m; omega)⟩ (Nat.le_of_ble_eq_true rfl) d_brg_2) (fun z2 M2 hh => ?_)
  have hgr : gr (x.length + lenS i) m ≤ 1 := by unfold gr; split <;> omega
  have g1 := Gd.wg (z2 := z2) (j2 := j + gr (x.length + lenS i) m) had (by omega) g
  exact G_gretR g1 (pc := 5) (q := 146) hh hret (Or.inl ⟨_, rfl⟩) (by show 0 + gr (x.length + lenS i) m ≤ gr (x.length + lenS i) m; omega) (by show 0 + gs (x.length + lenS i) m ≤ gs (x.length + lenS i) m; omega) d_brg_5
set_option maxHeartbeats 4000000 in
set_option maxRecDepth 100000 in
theorem c_ai (l : Launch) {w : Wc} (had : Ad w) {j i : Nat} {z : Shp} (M : Mem) (h1 : 146 < j) (hj : j < 799) (hi : i < 12) (h5 : (z 146).1 = 10) (h0 : M 146 3 = 0) : CtG l y_ai b_ai 5 none (rmC 7 1 (lenS i + 16)) w j z [.ref (wad w 146), .ref (wad w (1000 + i))] M (QgV w (j + 1) (fun z2 M2 => SBS z2 M2 (j + 1) j (lenS i + 16) (txS i) ∧ SFr z M z2 M2)) := by
  have hdl := (txS_f i hi).1
  refine CtG.go (by decide) (L := [(0, .ref (wad w 146)), (1, .ref (wad w (1000 + i)))]) rfl (Nat.le_of_ble_eq_true rfl) (fun p0 e s mm args below meth c hnm hsz hao g hret => ?_)
  refine G_aload_n g (pc := 0) 0 d_ai_0 rfl rfl ?_
  refine G_objI g (pc := 1) (q := 146) (TT_in (i := 1139) (by decide +kernel) (by decide +kernel)) oI1 oI2 ⟨(Nat.le_of_ble_eq_true rfl), (Nat.le_of_ble_eq_true rfl)⟩ d_ai_1 ?_
  refine G_aload_n g (pc := 4) 1 d_ai_4 rfl rfl ?_
  refine G_gI0 (RG_T g (pc := 5) (i := i) (As := []) (st := []) had hao (by omega) (by omega) hsz cj_A_32 rfl (c_tlen l had hi (by omega) (by omega) M) hi rfl ⟨(Nat.le_of_ble_eq_true rfl), (Nat.le_of_ble_eq_true rfl)⟩ ⟨Nat.zero_le _, Nat.zero_le _⟩ (Nat.le_of_ble_eq_true rfl) d_ai_5) (fun z9 M9 hy9 => ?_)
  obtain ⟨rfl, rfl⟩ := hy9
  refine G_istore_n g (pc := 8) _ d_ai_8 rfl (Nat.le_of_ble_eq_true rfl) rfl ?_
  refine G_iload_n g (pc := 9) 0 d_ai_9 rfl rfl ?_
  refine G_ldcI g (pc := 10) (own := "java/lang/AbstractStringBuilder") (v := (2147483631 : Int32)) (TT_in (i := 1141) (by decide +kernel) (by decide +kernel)) d_ai_10 ?_
  refine K_icmp_ge_F g (pc := 12) 22 ((Int32.not_le.mpr (show nI (lenS i) < nI 2147483631 from nI_lt (by omega) (by decide)))) d_ai_12 (by decide) ?_
  refine G_iload_n g (pc := 15) 0 d_ai_15 rfl rfl ?_
  refine G_bipush g (pc := 16) (16 : Int32) d_ai_16 rfl ?_
  refine G_iadd g (pc := 18) d_ai_18 ?_
  refine Go.top (y := nI (lenS i + 16)) (nI_add _ 16) ?_
  refine G_goto g (pc := 19) 24 d_ai_19 (by decide) ?_
  refine G_istore_n g (pc := 24) _ d_ai_24 rfl (Nat.le_of_ble_eq_true rfl) rfl ?_
  refine G_aload_n g (pc := 25) 3 d_ai_25 rfl rfl ?_
  refine G_gI0 (RG_T g (pc := 26) (i := i) (As := []) (st := []) had hao (by omega) (by omega) hsz cj_A_40 rfl (c_tcod l hi M9) hi rfl ⟨(Nat.le_of_ble_eq_true rfl), (Nat.le_of_ble_eq_true rfl)⟩ ⟨Nat.zero_le _, Nat.zero_le _⟩ (Nat.le_of_ble_eq_true rfl) d_ai_26) (fun z9 M9 hy9 => ?_)
  obtain ⟨rfl, rfl⟩ := hy9
  refine G_istore g (pc := 29) _ d_ai_29 (Nat.le_of_ble_eq_true rfl) rfl ?_
  refine G_aload_n g (pc := 31) 3 d_ai_31 rfl rfl ?_
  refine G_iload g (pc := 32) 0 d_ai_32 rfl ?_
  refine G_put g (pc := 34) (q := 146) fa_A_22 fw_10_1 rfl rfl (List.mem_range.mpr h1) h5 d_ai_34 ?_
  refine G_aload_n g (pc := 37) 3 d_ai_37 rfl rfl ?_
  refine G_iload g (pc := 38) 0 d_ai_38 rfl ?_
  refine K_if_ne_F g (pc := 40) 49 (rfl) d_ai_40 (by decide) ?_
  refine G_iload_n g (pc := 43) 1 d_ai_43 rfl rfl ?_
  refine G_newB g (pc := 44) (N := lenS i + 16) had (by omega) hsz aB (by omega) ⟨(Nat.le_of_ble_eq_true rfl), (by show 0 + (lenS i + 16) ≤ lenS i + 16; omega)⟩ d_ai_44 ?_
  have g1 := Gd.wg (z2 := zfr z9 j 21 (lenS i + 16)) (j2 := j + 1) had (by omega) g
  refine G_goto g1 (pc := 46) 53 d_ai_46 (by decide) ?_
  have z146 : zfr z9 j 21 (lenS i + 16) 146 = z9 146 := if_neg (by omega)
  refine G_putRef g1 (pc := 53) (q := 146) (q2 := j) fa_A_15 fw_10_0 rfl rfl (List.mem_range.mpr (by omega)) (by show (zfr z9 j 21 (lenS i + 16) 146).1 = 10; rw [z146]; exact h5) d_ai_53 ?_
  have g2 := Gd.wg (z2 := zset (zfr z9 j 21 (lenS i + 16)) 146 0 j) (j2 := j + 1) had (by omega) g
  have zj : zset (zfr z9 j 21 (lenS i + 16)) 146 0 j j = (21, lenS i + 16, fun _ => none) := by rw [zset_ne (by omega)]; exact if_pos rfl
  have zs : (zset (zfr z9 j 21 (lenS i + 16)) 146 0 j 146).1 = 10 := by show (zfr z9 j 21 (lenS i + 16) 146).1 = 10; rw [z146]; exact h5
  have hB : SBS (zset (zfr z9 j 21 (lenS i + 16)) 146 0 j) (setR (put M9 146 1 0) j (fun _ => 0)) (j + 1) j (lenS i + 16) [] := ⟨by omega, by omega, by omega, by omega, zs, rfl, by rw [zj], by rw [zj], by omega, by rw [setR_ne (by omega), put_row, upd_at, if_pos rfl], by rw [setR_ne (by omega), put_row, upd_at, if_neg (by decide)]; exact h0, Nat.zero_le _, fun i2 hi2 => absurd hi2 (Nat.not_lt_zero _), by rw [setR_self]; exact fB_0⟩
  have hS0 : SFr z9 M9 (zset (zfr z9 j 21 (lenS i + 16)) 146 0 j) (setR (put M9 146 1 0) j (fun _ => 0)) := fun p hp => ⟨by rw [zset_ne (by omega)]; exact if_neg (by omega), by rw [setR_ne (by omega), put_ne (by omega)]⟩
  have e1 : gr (([] : List Nat).length + lenS i) (lenS i + 16) = 0 := if_pos (by show 0 + lenS i ≤ _; omega)
  have e2 : nc (([] : List Nat).length + lenS i) (lenS i + 16) = lenS i + 16 := if_pos (by show 0 + lenS i ≤ _; omega)
  have e3 : nb (([] : List Nat).length + lenS i) (lenS i + 16) j (j + 1) = j := if_pos (by show 0 + lenS i ≤ _; omega)
  have e4 : gs (([] : List Nat).length + lenS i) (lenS i + 16) = 0 := if_pos (by show 0 + lenS i ≤ _; omega)
  have cB := c_brg l had _ hB hi (by omega) (by rw [e2]; omega)
  rw [e1, e2, e3, e4] at cB
  refine G_aload_n g2 (pc := 56) 3 d_ai_56 rfl rfl ?_
  refine G_aload_n g2 (pc := 57) 4 d_ai_57 rfl rfl ?_
  refine G_gR0 (RG_O g2 (pc := 58) (q := 146) (As := [.ref (wad w (1000 + i))]) (st := []) had hao (by omega) (by omega) (by omega) cj_A_43 cB (List.mem_range.mpr (by omega)) zs rfl ⟨(Nat.le_of_ble_eq_true rfl), (Nat.le_of_ble_eq_true rfl)⟩ ⟨(Nat.le_of_ble_eq_true rfl), (by show 0 + (lenS i + 16) + 0 ≤ lenS i + 16; omega)⟩ (Nat.le_of_ble_eq_true rfl) d_ai_58) (fun z3 M3 hy3 => ?_)
  have g3 := Gd.wg (z2 := z3) (j2 := j + 1) had (by omega) g
  refine G_pop g3 (pc := 61) d_ai_61 rfl ?_
  exact G_gretV g3 (pc := 62) ⟨hy3.1, hS0.trans hy3.2⟩ hret (Nat.le_of_ble_eq_true rfl) (by show 0 + (lenS i + 16) + 0 ≤ lenS i + 16; omega) d_ai_62
theorem cj_U_7 : Cond.methodLink "java/lang/StringBuilder" 7 y_ai ∈ TT ∧ CIW y_ai b_ai 5 1 := ⟨TT_in (i := 1136) (by decide +kernel) (by decide +kernel), TT_in (i := 1137) (by decide +kernel) (by decide +kernel), TT_in (i := 30) (by decide +kernel) (by decide +kernel), TT_in (i := 1138) (by decide +kernel) (by decide +kernel), ⟨by decide +kernel, by decide +kernel, by decide +kernel⟩⟩
set_option maxHeartbeats 4000000 in
set_option maxRecDepth 100000 in
theorem c_sbi (l : Launch) {w : Wc} (had : Ad w) {j i : Nat} {z : Shp} (M : Mem) (h1 : 146 < j) (hj : j < 799) (hi : i < 12) (h5 : (z 146).1 = 10) (h0 : M 146 3 = 0) : CtG l y_sbi b_sbi 2 none (rmC 8 1 (lenS i + 16)) w j z [.ref (wad w 146), .ref (wad w (1000 + i))] M (QgV w (j + 1) (fun z2 M2 => SBS z2 M2 (j + 1) j (lenS i + 16) (txS i) ∧ SFr z M z2 M2)) := by
  refine CtG.go (by decide) (L := [(0, .ref (wad w 146)), (1, .ref (wad w (1000 + i)))]) rfl (Nat.le_of_ble_eq_true rfl) (fun p0 e s mm args below meth c hnm hsz hao g hret => ?_)
  refine G_aload_n g (pc := 0) 0 d_sbi_0 rfl rfl ?_
  refine G_aload_n g (pc := 1) 1 d_sbi_1 rfl rfl ?_
  refine G_gV (RG_I g (pc := 2) (q := 146) (As := [.ref (wad w (1000 + i))]) (st := []) had hao (by omega) (by omega) hsz cj_U_7 rfl (c_ai l had M h1 hj hi h5 h0) rfl ⟨(Nat.le_of_ble_eq_true rfl), (Nat.le_of_ble_eq_true rfl)⟩ ⟨(Nat.le_of_ble_eq_true rfl), (by show 0 + (lenS i + 16) ≤ lenS i + 16; omega)⟩ (Nat.le_of_ble_eq_true rfl) d_sbi_2) (fun z2 M2 hh => ?_)
  have g1 := Gd.wg (z2 := z2) (j2 := j + 1) had (by omega) g
  exact G_gretV g1 (pc := 5) hh hret (Nat.le_of_ble_eq_true rfl) (by show 0 + (lenS i + 16) ≤ lenS i + 16; omega) d_sbi_5
