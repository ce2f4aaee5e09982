/-! a text of the world is read; say -/
theorem d_L_say_0 : decode b_L_say 0 = .ok (.iconst 0, 1) := by decide +kernel
theorem d_L_say_1 : decode b_L_say 1 = .ok (.istore_n 3, 1) := by decide +kernel
theorem d_L_say_2 : decode b_L_say 2 = .ok (.iload_n 3, 1) := by decide +kernel
theorem d_L_say_3 : decode b_L_say 3 = .ok (.aload_n 2, 1) := by decide +kernel
theorem d_L_say_4 : decode b_L_say 4 = .ok (.invokevirtual 14, 3) := by decide +kernel
theorem d_L_say_7 : decode b_L_say 7 = .ok (.if_icmp .ge 19, 3) := by decide +kernel
theorem d_L_say_10 : decode b_L_say 10 = .ok (.aload_n 0, 1) := by decide +kernel
theorem d_L_say_11 : decode b_L_say 11 = .ok (.aload_n 1, 1) := by decide +kernel
theorem d_L_say_12 : decode b_L_say 12 = .ok (.aload_n 2, 1) := by decide +kernel
theorem d_L_say_13 : decode b_L_say 13 = .ok (.iload_n 3, 1) := by decide +kernel
theorem d_L_say_14 : decode b_L_say 14 = .ok (.invokevirtual 20, 3) := by decide +kernel
theorem d_L_say_17 : decode b_L_say 17 = .ok (.invokestatic 24, 3) := by decide +kernel
theorem d_L_say_20 : decode b_L_say 20 = .ok (.iinc 3 1, 3) := by decide +kernel
theorem d_L_say_23 : decode b_L_say 23 = .ok (.goto (-21), 3) := by decide +kernel
theorem d_L_say_26 : decode b_L_say 26 = .ok (.return_, 1) := by decide +kernel
section RI2
variable {ρ : Type} {p : Program} {l : Launch} {e : Env} {R : Room} {s : State} {m : MethodId} {args : Array Value} {below : List Frame} {meth : Method} {c : Code} {w : Wc} {nL k n : Nat} {Qf : ρ → State → Prop} {cc : ByteArray} {own : String}
theorem K_bald (g : Gd p s m args meth c w nL cc own) {pc : Nat} {L : List (Nat × Value)} {st : List Value} {M : Mem} {o : Option ρ} {q nn : Nat} {i : Int32} (hq : q ∈ wL w) (hk : (wZ w q).1 = 21) (hn : (wZ w q).2.1 = nn) (hi : inB i nn = true) (d : decode cc pc = .ok (.baload, 1)) (kk : Go p l e R s m args below meth c w nL k n Qf o (pc + 1) L (.int (M q i.toNatClampNeg) :: st) M) : Go p l e R s m args below meth c w nL k n Qf o pc L (.int i :: .ref (wad w q) :: st) M := by
  have h := G_bald g (o := o) hq hk hn d kk
  rwa [grd_t hi] at h
end RI2
set_option maxHeartbeats 4000000 in
set_option maxRecDepth 100000 in
theorem c_wcod (l : Launch) {w : Wc} (had : Ad w) {j q b : Nat} {z : Shp} {x : List Nat} (M : Mem) (h : WSt z M j q b x) : CtG l y_Str_coder b_Str_coder 1 (some .byte) (rmC 0 0 0) w j z [.ref (wad w q)] M (QgI w j 0 (fun z2 M2 => z2 = z ∧ M2 = M)) := by
  have hh := h
  obtain ⟨h1, h2, h3, h4, h5, h6, h7, h8, h9⟩ := h
  refine CtG.go (by decide) (L := [(0, .ref (wad w q))]) rfl (Nat.le_of_ble_eq_true rfl) (fun p0 e s mm args below meth c hnm hsz hao g hret => ?_)
  refine G_gets g (pc := 0) fl_cmp g.2.2.2.2.2.2.2.1.2.2.2.2.2.1 d_Str_coder_0 ?_
  refine K_if_eq_F g (pc := 3) 13 ((by decide)) d_Str_coder_3 (by decide) ?_
  refine G_aload_n g (pc := 6) 0 d_Str_coder_6 rfl rfl ?_
  refine G_get g (pc := 7) fa_V_15 (List.mem_range.mpr h1) h4 d_Str_coder_7 ?_
  refine Go.top (y := (0 : Int32)) h8 ?_
  refine G_goto g (pc := 10) 14 d_Str_coder_10 (by decide) ?_
  exact G_gretN g (pc := 14) ⟨rfl, rfl⟩ hret rfl (Nat.le_of_ble_eq_true rfl) (Nat.le_of_ble_eq_true rfl) d_Str_coder_14
set_option maxHeartbeats 4000000 in
set_option maxRecDepth 100000 in
theorem c_wlat (l : Launch) {w : Wc} (had : Ad w) {j q b : Nat} {z : Shp} {x : List Nat} (M : Mem) (h : WSt z M j q b x) : CtG l y_Str_isLatin1 b_Str_isLatin1 1 (some .boolean) (rmC 0 0 0) w j z [.ref (wad w q)] M (QgI w j 1 (fun z2 M2 => z2 = z ∧ M2 = M)) := by
  have hh := h
  obtain ⟨h1, h2, h3, h4, h5, h6, h7, h8, h9⟩ := h
  refine CtG.go (by decide) (L := [(0, .ref (wad w q))]) rfl (Nat.le_of_ble_eq_true rfl) (fun p0 e s mm args below meth c hnm hsz hao g hret => ?_)
  refine G_gets g (pc := 0) fl_cmp g.2.2.2.2.2.2.2.1.2.2.2.2.2.1 d_Str_isLatin1_0 ?_
  refine K_if_eq_F g (pc := 3) 17 ((by decide)) d_Str_isLatin1_3 (by decide) ?_
  refine G_aload_n g (pc := 6) 0 d_Str_isLatin1_6 rfl rfl ?_
  refine G_get g (pc := 7) fa_V_15 (List.mem_range.mpr h1) h4 d_Str_isLatin1_7 ?_
  refine Go.top (y := (0 : Int32)) h8 ?_
  refine K_if_ne_F g (pc := 10) 17 (rfl) d_Str_isLatin1_10 (by decide) ?_
  refine G_iconst g (pc := 13) (1 : Int32) d_Str_isLatin1_13 rfl ?_
  refine G_goto g (pc := 14) 18 d_Str_isLatin1_14 (by decide) ?_
  exact G_gretN g (pc := 18) ⟨rfl, rfl⟩ hret rfl (Nat.le_of_ble_eq_true rfl) (Nat.le_of_ble_eq_true rfl) d_Str_isLatin1_18
set_option maxHeartbeats 4000000 in
set_option maxRecDepth 100000 in
theorem c_wlen (l : Launch) {w : Wc} (had : Ad w) {j q b : Nat} {z : Shp} {x : List Nat} (M : Mem) (h : WSt z M j q b x) : CtG l y_Str_length b_Str_length 1 (some .int) (rmC 1 0 0) w j z [.ref (wad w q)] M (QgI w j (nI x.length) (fun z2 M2 => z2 = z ∧ M2 = M)) := by
  have hh := h
  obtain ⟨h1, h2, h3, h4, h5, h6, h7, h8, h9⟩ := h
  refine CtG.go (by decide) (L := [(0, .ref (wad w q))]) rfl (Nat.le_of_ble_eq_true rfl) (fun p0 e s mm args below meth c hnm hsz hao g hret => ?_)
  refine G_aload_n g (pc := 0) 0 d_Str_length_0 rfl rfl ?_
  refine G_getR g (pc := 1) fa_V_9 (List.mem_range.mpr h1) h4 h5 d_Str_length_1 ?_
  refine G_alenB g (pc := 4) (nI x.length) (List.mem_range.mpr h2) h6 (by show nI (z b).2.1 = _; rw [h7]) d_Str_length_4 ?_
  refine G_aload_n g (pc := 5) 0 d_Str_length_5 rfl rfl ?_
  refine G_gI0 (RG_V g (pc := 6) (q := q) (ci := 11) (As := []) (st := [.int (nI x.length)]) had hao (by omega) (by omega) hsz cj_len_coder (c_wcod l had M hh) (List.mem_range.mpr h1) h4 rfl (by decide) rfl ⟨(Nat.le_of_ble_eq_true rfl), (Nat.le_of_ble_eq_true rfl)⟩ ⟨Nat.zero_le _, Nat.zero_le _⟩ (Nat.le_of_ble_eq_true rfl) d_Str_length_6) (fun z9 M9 hy9 => ?_)
  obtain ⟨rfl, rfl⟩ := hy9
  refine G_ishr g (pc := 9) d_Str_length_9 ?_
  refine Go.top (y := nI x.length) (sh0 _) ?_
  exact G_gretI g (pc := 10) ⟨rfl, rfl⟩ hret (Nat.le_of_ble_eq_true rfl) (Nat.le_of_ble_eq_true rfl) d_Str_length_10
set_option maxHeartbeats 4000000 in
set_option maxRecDepth 100000 in
theorem c_wpc (l : Launch) {w : Wc} {j k0 n0 : Nat} {z : Shp} (v : Value) (hv : v = .null ∨ ∃ t, v = .ref t) (M : Mem) (hk : k0 < n0) (hn : n0 ≤ 2000) : CtG l y_Pc_checkIndex b_Pc_checkIndex 3 (some .int) (rmC 0 0 0) w j z [.int (nI k0), .int (nI n0), v] M (QgI w j (nI k0) (fun z2 M2 => z2 = z ∧ M2 = M)) := by
  have hL : lv_args 0 [.int (nI k0), .int (nI n0), v] = [(0, .int (nI k0)), (1, .int (nI n0)), (2, v)] := by rcases hv with rfl | ⟨t, rfl⟩ <;> rfl
  have hs : (lg_sl [.int (nI k0), .int (nI n0), v]).length ≤ 3 := by rcases hv with rfl | ⟨t, rfl⟩ <;> exact Nat.le_of_ble_eq_true rfl
  refine CtG.go (by decide) hL hs (fun p0 e s mm args below meth c hnm hsz hao g hret => ?_)
  refine G_iload_n g (pc := 0) 0 d_Pc_checkIndex_0 rfl rfl ?_
  refine K_if_lt_F g (pc := 1) 9 ((Int32.not_lt.mpr (show nI 0 ≤ nI k0 from nI_le (by omega) (by omega)))) d_Pc_checkIndex_1 (by decide) ?_
  refine G_iload_n g (pc := 4) 0 d_Pc_checkIndex_4 rfl rfl ?_
  refine G_iload_n g (pc := 5) 1 d_Pc_checkIndex_5 rfl rfl ?_
  refine K_icmp_lt_T g (pc := 6) 16 ((nI_lt hk (by omega))) d_Pc_checkIndex_6 (by decide) ?_
  refine G_iload_n g (pc := 16) 0 d_Pc_checkIndex_16 rfl rfl ?_
  exact G_gretI g (pc := 17) ⟨rfl, rfl⟩ hret (Nat.le_of_ble_eq_true rfl) (Nat.le_of_ble_eq_true rfl) d_Pc_checkIndex_17
set_option maxHeartbeats 4000000 in
set_option maxRecDepth 100000 in
theorem c_wsc (l : Launch) {w : Wc} (had : Ad w) {j k0 n0 : Nat} {z : Shp} (hj : j ≤ 800) (h1j : 1 ≤ j) (M : Mem) (hk : k0 < n0) (hn : n0 ≤ 2000) : CtG l y_Str_checkIndex b_Str_checkIndex 2 none (rmC 1 0 0) w j z [.int (nI k0), .int (nI n0)] M (QgV w j (fun z2 M2 => z2 = z ∧ M2 = M)) := by
  refine CtG.go (by decide) (L := [(0, .int (nI k0)), (1, .int (nI n0))]) rfl (Nat.le_of_ble_eq_true rfl) (fun p0 e s mm args below meth c hnm hsz hao g hret => ?_)
  refine G_iload_n g (pc := 0) 0 d_Str_checkIndex_0 rfl rfl ?_
  refine G_iload_n g (pc := 1) 1 d_Str_checkIndex_1 rfl rfl ?_
  have key : ∀ v : Value, (v = .null ∨ ∃ t, v = .ref t) → Go p0 l e (rmC 1 0 0) s mm args below meth c (wg w j z) 2 0 0 (fun (_ : Unit) => MQ below (QgV w j (fun z2 M2 => z2 = z ∧ M2 = M)) args s (rmC 1 0 0).cells (rmC 1 0 0).slots (wA w)) (some ()) (2 + 3) [(0, .int (nI k0)), (1, .int (nI n0))] (v :: .int (nI n0) :: .int (nI k0) :: []) M := by
    intro v hv
    refine G_gI0 (RG_S g (pc := 5) (As := [.int (nI k0), .int (nI n0), v]) (st := []) had hao (by omega) h1j hsz cj_chk_pc (c_wpc l v hv M hk hn) rfl ⟨(Nat.le_of_ble_eq_true rfl), (Nat.le_of_ble_eq_true rfl)⟩ ⟨Nat.zero_le _, Nat.zero_le _⟩ (Nat.le_of_ble_eq_true rfl) d_Str_checkIndex_5) (fun z9 M9 hy9 => ?_)
    obtain ⟨rfl, rfl⟩ := hy9
    refine G_pop g (pc := 8) d_Str_checkIndex_8 rfl ?_
    exact G_gretV g (pc := 9) ⟨rfl, rfl⟩ hret (Nat.le_of_ble_eq_true rfl) (Nat.le_of_ble_eq_true rfl) d_Str_checkIndex_9
  rcases g.2.2.2.2.2.2.2.1.2.2.2.2.2.2.1 with hz | ⟨t, hz⟩
  · exact G_gets g (pc := 2) fl_fmt hz d_Str_checkIndex_2 (key _ (Or.inl rfl))
  · exact G_gets g (pc := 2) fl_fmt hz d_Str_checkIndex_2 (key _ (Or.inr ⟨t, rfl⟩))
set_option maxHeartbeats 4000000 in
set_option maxRecDepth 100000 in
theorem c_wlca (l : Launch) {w : Wc} (had : Ad w) {j q b : Nat} {z : Shp} {x : List Nat} (M : Mem) (h : WSt z M j q b x) (hx : ∀ i, i < x.length → x.getD i 0 < 128) (hxl : x.length ≤ 1000) (k0 : Nat) (hk : k0 < x.length) : CtG l y_La_charAt b_La_charAt 2 (some .char) (rmC 2 0 0) w j z [.ref (wad w b), .int (nI k0)] M (QgI w j (nI (x.getD k0 0)) (fun z2 M2 => z2 = z ∧ M2 = M)) := by
  have hh := h
  obtain ⟨h1, h2, h3, h4, h5, h6, h7, h8, h9⟩ := h
  refine CtG.go (by decide) (L := [(0, .ref (wad w b)), (1, .int (nI k0))]) rfl (Nat.le_of_ble_eq_true rfl) (fun p0 e s mm args below meth c hnm hsz hao g hret => ?_)
  refine G_iload_n g (pc := 0) 1 d_La_charAt_0 rfl rfl ?_
  refine G_aload_n g (pc := 1) 0 d_La_charAt_1 rfl rfl ?_
  refine G_alenB g (pc := 2) (nI x.length) (List.mem_range.mpr h2) h6 (by show nI (z b).2.1 = _; rw [h7]) d_La_charAt_2 ?_
  refine G_gV0 (RG_S g (pc := 3) (As := [.int (nI k0), .int (nI x.length)]) (st := []) had hao (by omega) (by omega) hsz cj_la_chk (c_wsc l had h3 (by omega) M hk (by omega)) rfl ⟨(Nat.le_of_ble_eq_true rfl), (Nat.le_of_ble_eq_true rfl)⟩ ⟨Nat.zero_le _, Nat.zero_le _⟩ (Nat.le_of_ble_eq_true rfl) d_La_charAt_3) (fun z9 M9 hy9 => ?_)
  obtain ⟨rfl, rfl⟩ := hy9
  refine G_aload_n g (pc := 6) 0 d_La_charAt_6 rfl rfl ?_
  refine G_iload_n g (pc := 7) 1 d_La_charAt_7 rfl rfl ?_
  refine K_bald g (pc := 8) (nn := x.length) (List.mem_range.mpr h2) h6 h7 (inB_nI hk (by omega)) d_La_charAt_8 ?_
  refine Go.top (y := nI (x.getD k0 0)) (by rw [nI_clamp (by omega)]; exact h9 k0 hk) ?_
  refine G_sipush g (pc := 9) (255 : Int32) d_La_charAt_9 rfl ?_
  refine G_iand g (pc := 12) d_La_charAt_12 ?_
  refine G_i2c g (pc := 13) d_La_charAt_13 ?_
  refine Go.top (y := nI (x.getD k0 0)) (fits_nI _ (hx k0 hk)).2.2.1 ?_
  exact G_gretN g (pc := 14) ⟨rfl, rfl⟩ hret (fits_nI _ (hx k0 hk)).2.2.2.1 (Nat.le_of_ble_eq_true rfl) (Nat.le_of_ble_eq_true rfl) d_La_charAt_14
set_option maxHeartbeats 4000000 in
set_option maxRecDepth 100000 in
theorem c_wchr (l : Launch) {w : Wc} (had : Ad w) {j q b : Nat} {z : Shp} {x : List Nat} (M : Mem) (h : WSt z M j q b x) (hx : ∀ i, i < x.length → x.getD i 0 < 128) (hxl : x.length ≤ 1000) (k0 : Nat) (hk : k0 < x.length) : CtG l y_Str_charAt b_Str_charAt 2 (some .char) (rmC 3 0 0) w j z [.ref (wad w q), .int (nI k0)] M (QgI w j (nI (x.getD k0 0)) (fun z2 M2 => z2 = z ∧ M2 = M)) := by
  have hh := h
  obtain ⟨h1, h2, h3, h4, h5, h6, h7, h8, h9⟩ := h
  refine CtG.go (by decide) (L := [(0, .ref (wad w q)), (1, .int (nI k0))]) rfl (Nat.le_of_ble_eq_true rfl) (fun p0 e s mm args below meth c hnm hsz hao g hret => ?_)
  refine G_aload_n g (pc := 0) 0 d_Str_charAt_0 rfl rfl ?_
  refine G_gI0 (RG_V g (pc := 1) (q := q) (ci := 11) (As := []) (st := []) had hao (by omega) (by omega) hsz cj_chr_lat (c_wlat l had M hh) (List.mem_range.mpr h1) h4 rfl (by decide) rfl ⟨(Nat.le_of_ble_eq_true rfl), (Nat.le_of_ble_eq_true rfl)⟩ ⟨Nat.zero_le _, Nat.zero_le _⟩ (Nat.le_of_ble_eq_true rfl) d_Str_charAt_1) (fun z9 M9 hy9 => ?_)
  obtain ⟨rfl, rfl⟩ := hy9
  refine K_if_eq_F g (pc := 4) 16 ((by decide)) d_Str_charAt_4 (by decide) ?_
  refine G_aload_n g (pc := 7) 0 d_Str_charAt_7 rfl rfl ?_
  refine G_getR g (pc := 8) fa_V_9 (List.mem_range.mpr h1) h4 h5 d_Str_charAt_8 ?_
  refine G_iload_n g (pc := 11) 1 d_Str_charAt_11 rfl rfl ?_
  refine G_gI0 (RG_S g (pc := 12) (As := [.ref (wad w b), .int (nI k0)]) (st := []) had hao (by omega) (by omega) hsz cj_chr_la (c_wlca l had M9 hh hx hxl k0 hk) rfl ⟨(Nat.le_of_ble_eq_true rfl), (Nat.le_of_ble_eq_true rfl)⟩ ⟨Nat.zero_le _, Nat.zero_le _⟩ (Nat.le_of_ble_eq_true rfl) d_Str_charAt_12) (fun z8 M8 hy8 => ?_)
  obtain ⟨rfl, rfl⟩ := hy8
  exact G_gretN g (pc := 15) ⟨rfl, rfl⟩ hret (fits_nI _ (hx k0 hk)).2.2.2.1 (Nat.le_of_ble_eq_true rfl) (Nat.le_of_ble_eq_true rfl) d_Str_charAt_15
theorem cj_W_14 : CV "KiteLoggerLaw" 14 y_Str_length b_Str_length 1 (some .int) 0 := ⟨TT_in (i := 672) (by decide +kernel) (by decide +kernel), TT_in (i := 515) (by decide +kernel) (by decide +kernel), TT_in (i := 516) (by decide +kernel) (by decide +kernel), TT_in (i := 32) (by decide +kernel) (by decide +kernel), TT_in (i := 517) (by decide +kernel) (by decide +kernel), ⟨by decide +kernel, by decide +kernel, by decide +kernel⟩⟩
theorem cj_W_20 : CV "KiteLoggerLaw" 20 y_Str_charAt b_Str_charAt 2 (some .char) 1 := ⟨TT_in (i := 673) (by decide +kernel) (by decide +kernel), TT_in (i := 525) (by decide +kernel) (by decide +kernel), TT_in (i := 526) (by decide +kernel) (by decide +kernel), TT_in (i := 32) (by decide +kernel) (by decide +kernel), TT_in (i := 527) (by decide +kernel) (by decide +kernel), ⟨by decide +kernel, by decide +kernel, by decide +kernel⟩⟩
set_option maxHeartbeats 4000000 in
set_option maxRecDepth 100000 in
theorem c_say (l : Launch) (N : Nat) {w : Wc} (had : Ad w) {j q b rr : Nat} {z : Shp} {x : List Nat} (hw : WK (wg w j z) rr) (hv : WV (wg w j z)) (Ms : Nat → Mem) (h : WSt z (Ms 0) j q b x) (hx : ∀ i, i < x.length → x.getD i 0 < 128) (hxl : x.length ≤ 1000) (hM : ∀ k0, k0 < x.length → f_L_add N rr (nI (x.getD k0 0)) (Ms k0) = some (Ms (k0 + 1))) (hF : ∀ k0, k0 ≤ x.length → Ms k0 q = Ms 0 q ∧ Ms k0 b = Ms 0 b) : CtG l y_L_say b_L_say 4 none (rmC 4 0 0) w j z [.ref (wad w 0), .ref (wad w 145), .ref (wad w q)] (Ms 0) (QgV w j (fun z2 M2 => z2 = z ∧ M2 = Ms x.length)) := by
  obtain ⟨h1, h2, h3, h4, h5, h6, h7, h8, h9⟩ := h
  have hW : ∀ k0, k0 ≤ x.length → WSt z (Ms k0) j q b x := fun k0 hk => ⟨h1, h2, h3, h4, h5, h6, h7, by rw [(hF k0 hk).1]; exact h8, by rw [(hF k0 hk).2]; exact h9⟩
  refine CtG.go (by decide) (L := [(0, .ref (wad w 0)), (1, .ref (wad w 145)), (2, .ref (wad w q))]) rfl (Nat.le_of_ble_eq_true rfl) (fun p0 e s mm args below meth c hnm hsz hao g hret => ?_)
  have key : ∀ d k0, k0 + d = x.length → Go p0 l e (rmC 4 0 0) s mm args below meth c (wg w j z) 4 0 0 (fun (_ : Unit) => MQ below (QgV w j (fun z2 M2 => z2 = z ∧ M2 = Ms x.length)) args s (rmC 4 0 0).cells (rmC 4 0 0).slots (wA w)) (some ()) 2 [(3, .int (nI k0)), (0, .ref (wad w 0)), (1, .ref (wad w 145)), (2, .ref (wad w q))] [] (Ms k0) := by
    intro d
    induction d with
    | zero =>
      intro k0 hk
      have hk : k0 = x.length := by omega
      subst hk
      refine G_iload_n g (pc := 2) 0 d_L_say_2 rfl rfl ?_
      refine G_aload_n g (pc := 3) 3 d_L_say_3 rfl rfl ?_
      refine G_gI0 (RG_V g (pc := 4) (q := q) (ci := 11) (As := []) (st := [.int (nI x.length)]) had hao (by omega) (by omega) hsz cj_W_14 (c_wlen l had _ (hW _ (Nat.le_refl _))) (List.mem_range.mpr h1) h4 rfl (by decide) rfl ⟨(Nat.le_of_ble_eq_true rfl), (Nat.le_of_ble_eq_true rfl)⟩ ⟨Nat.zero_le _, Nat.zero_le _⟩ (Nat.le_of_ble_eq_true rfl) d_L_say_4) (fun z9 M9 hy9 => ?_)
      obtain ⟨rfl, rfl⟩ := hy9
      refine K_icmp_ge_T g (pc := 7) 26 ((nI_le (Nat.le_refl _) (by omega))) d_L_say_7 (by decide) ?_
      exact G_gretV g (pc := 26) ⟨rfl, rfl⟩ hret (Nat.le_of_ble_eq_true rfl) (Nat.le_of_ble_eq_true rfl) d_L_say_26
    | succ d ih =>
      intro k0 hk
      refine G_iload_n g (pc := 2) 0 d_L_say_2 rfl rfl ?_
      refine G_aload_n g (pc := 3) 3 d_L_say_3 rfl rfl ?_
      refine G_gI0 (RG_V g (pc := 4) (q := q) (ci := 11) (As := []) (st := [.int (nI k0)]) had hao (by omega) (by omega) hsz cj_W_14 (c_wlen l had _ (hW _ (show k0 ≤ x.length by omega))) (List.mem_range.mpr h1) h4 rfl (by decide) rfl ⟨(Nat.le_of_ble_eq_true rfl), (Nat.le_of_ble_eq_true rfl)⟩ ⟨Nat.zero_le _, Nat.zero_le _⟩ (Nat.le_of_ble_eq_true rfl) d_L_say_4) (fun z9 M9 hy9 => ?_)
      obtain ⟨rfl, rfl⟩ := hy9
      refine K_icmp_ge_F g (pc := 7) 26 ((Int32.not_le.mpr (nI_lt (show k0 < x.length by omega) (by omega)))) d_L_say_7 (by decide) ?_
      refine G_aload_n g (pc := 10) 1 d_L_say_10 rfl rfl ?_
      refine G_aload_n g (pc := 11) 2 d_L_say_11 rfl rfl ?_
      refine G_aload_n g (pc := 12) 3 d_L_say_12 rfl rfl ?_
      refine G_iload_n g (pc := 13) 0 d_L_say_13 rfl rfl ?_
      refine G_gI0 (RG_V g (pc := 14) (q := q) (ci := 11) (As := [.int (nI k0)]) (st := [.ref (wad w 145), .ref (wad w 0)]) had hao (by omega) (by omega) hsz cj_W_20 (c_wchr l had _ (hW k0 (by omega)) hx hxl k0 (by omega)) (List.mem_range.mpr h1) h4 rfl (by decide) rfl ⟨(Nat.le_of_ble_eq_true rfl), (Nat.le_of_ble_eq_true rfl)⟩ ⟨Nat.zero_le _, Nat.zero_le _⟩ (Nat.le_of_ble_eq_true rfl) d_L_say_14) (fun z8 M8 hy8 => ?_)
      obtain ⟨rfl, rfl⟩ := hy8
      refine Go.known (f := f_L_add N rr (nI (x.getD k0 0)) (Ms k0)) (M1 := Ms (k0 + 1)) (hM k0 (by omega)) (fun K hK => ?_)
      refine G_cSV g (pc := 17) (As := [.ref (wad w 0), .ref (wad w 145), .int (nI (x.getD k0 0))]) (st := []) cc_L_24 (c_L_add l N hw hv (nI (x.getD k0 0)) (Ms k0)) rfl ⟨(Nat.le_of_ble_eq_true rfl), (Nat.le_of_ble_eq_true rfl)⟩ ⟨Nat.zero_le _, Nat.zero_le _⟩ (Nat.le_of_ble_eq_true rfl) d_L_say_17 (fun M1 => ?_)
      refine Go.of hK ?_
      refine G_iinc g (pc := 20) (nI (k0 + 1)) _ 0 d_L_say_20 rfl ((nI_add k0 1)) (Nat.le_of_ble_eq_true rfl) rfl ?_
      refine G_goto g (pc := 23) 2 d_L_say_23 (by decide) ?_
      exact ih (k0 + 1) (by omega)
  refine G_iconst g (pc := 0) (0 : Int32) d_L_say_0 rfl ?_
  refine G_istore_n g (pc := 1) _ d_L_say_1 rfl (Nat.le_of_ble_eq_true rfl) rfl ?_
  exact key x.length 0 (Nat.zero_add _)
