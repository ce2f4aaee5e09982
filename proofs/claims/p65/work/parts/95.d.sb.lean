/-! a letter behind the text -/
section KB2
variable {ρ : Type} {p : Program} {l : Launch} {e : Env} {R : Room} {s : State} {m : MethodId} {args : Array Value} {below : List Frame} {meth : Method} {c : Code} {w : Wc} {nL k n : Nat} {Qf : ρ → State → Prop} {cc : ByteArray} {own : String}
theorem K_bast (g : Gd p s m args meth c w nL cc own) {pc : Nat} {L : List (Nat × Value)} {st : List Value} {M : Mem} {o : Option ρ} {q nn : Nat} {i x : Int32} (hq : q ∈ wL w) (hk : (wZ w q).1 = 21) (hn : (wZ w q).2.1 = nn) (hi : inB i nn = true) (d : decode cc pc = .ok (.bastore, 1)) (kk : Go p l e R s m args below meth c w nL k n Qf o (pc + 1) L st (put M q i.toNatClampNeg (vp_nar .byte x))) : Go p l e R s m args below meth c w nL k n Qf o pc L (.int x :: .int i :: .ref (wad w q) :: st) M := by
  have h := G_bast g (o := o) hq hk hn d kk
  rwa [grd_t hi] at h
end KB2
theorem SBS.cat {z : Shp} {M : Mem} {j b m : Nat} {x : List Nat} (h : SBS z M j b m x) (y : List Nat) {M2 : Mem} (hl : x.length + y.length ≤ m) (h146 : ∀ k, k ≠ 3 → M2 146 k = M 146 k) (h3 : M2 146 3 = nI (x.length + y.length)) (hb : ∀ i, i < x.length → M2 b i = M b i) (hy : ∀ i, i < y.length → M2 b (x.length + i) = nI (y.getD i 0)) (hf : fB (M2 b)) : SBS z M2 j b m (x ++ y) := by
  obtain ⟨h1, h2, h3', h4, h5, h6, h7, h8, h9, h10, h11, h12, h13, h14⟩ := h
  refine ⟨h1, h2, h3', h4, h5, h6, h7, h8, h9, by rw [h146 1 (by decide)]; exact h10, by rw [List.length_append]; exact h3, by rw [List.length_append]; exact hl, fun i hi => ?_, hf⟩
  rw [List.length_append] at hi
  rcases Nat.lt_or_ge i x.length with c | c
  · rw [hb i c, h13 i c, List.getD_eq_getElem?_getD, List.getD_eq_getElem?_getD, List.getElem?_append_left c]
  · have := hy (i - x.length) (by omega)
    rw [show x.length + (i - x.length) = i from by omega] at this
    rw [this, List.getD_eq_getElem?_getD, List.getD_eq_getElem?_getD, List.getElem?_append_right c]
theorem SBS.push {z : Shp} {M : Mem} {j b m : Nat} {x : List Nat} (h : SBS z M j b m x) {v : Nat} (hv : v < 128) (hl : x.length + 1 ≤ m) : SBS z (put (put M 146 3 (nI (x.length + 1))) b (nI x.length).toNatClampNeg (vp_nar .byte (nI v).toInt8.toInt32)) j b m (x ++ [v]) := by
  have hh := h
  obtain ⟨h1, h2, h3', h4, h5, h6, h7, h8, h9, h10, h11, h12, h13, h14⟩ := h
  rw [nI_clamp (by omega), (fits_nI v hv).2.1]
  have hne : (146 : Nat) ≠ b := by omega
  refine hh.cat [v] (by exact hl) (fun k hk => ?_) ?_ (fun i hi => ?_) (fun i hi => ?_) ?_
  · rw [put_ne hne, put_row, upd_at, if_neg hk]
  · rw [put_ne hne, put_row, upd_at, if_pos rfl]; rfl
  · rw [put_row, upd_at, if_neg (by omega), put_ne hne.symm]
  · have : i = 0 := by simpa using hi
    subst this
    rw [put_row, upd_at, if_pos (Nat.add_zero _)]; rfl
  · rw [put_row, put_ne hne.symm]
    exact fB_upd h14 (fits_nI v hv).1
theorem cj_A_100 : CP "java/lang/AbstractStringBuilder" 100 y_ens b_ens 3 none 1 := ⟨TT_in (i := 1168) (by decide +kernel) (by decide +kernel), TT_in (i := 1363) (by decide +kernel) (by decide +kernel), NW_in (i := 1169) (by decide +kernel) (by decide +kernel), TT_in (i := 1170) (by decide +kernel) (by decide +kernel), TT_in (i := 30) (by decide +kernel) (by decide +kernel), TT_in (i := 1171) (by decide +kernel) (by decide +kernel), ⟨by decide +kernel, by decide +kernel, by decide +kernel⟩⟩
theorem cj_A_83 : CU "java/lang/AbstractStringBuilder" 83 ⟨"java/lang/AbstractStringBuilder", "isLatin1", "()Z"⟩ y_lat b_lat 1 (some .boolean) 0 := ⟨by
  intro t ht
  rcases List.mem_cons.mp ht with rfl | ht
  · exact TT_in (i := 1196) (by decide +kernel) (by decide +kernel)
  rcases List.mem_cons.mp ht with rfl | ht
  · exact TT_in (i := 1198) (by decide +kernel) (by decide +kernel)
  rcases List.mem_cons.mp ht with rfl | ht
  · exact TT_in (i := 1199) (by decide +kernel) (by decide +kernel)
  rcases List.mem_cons.mp ht with rfl | ht
  · exact TT_in (i := 1197) (by decide +kernel) (by decide +kernel)
  rcases List.mem_cons.mp ht with rfl | ht
  · exact TT_in (i := 30) (by decide +kernel) (by decide +kernel)
  rcases List.mem_cons.mp ht with rfl | ht
  · exact TT_in (i := 1200) (by decide +kernel) (by decide +kernel)
  exact ht, rfl, ⟨by decide +kernel, by decide +kernel, by decide +kernel⟩⟩
theorem cj_A_191 : CS "java/lang/AbstractStringBuilder" 191 y_can b_can 1 (some .boolean) 1 := ⟨TT_in (i := 1270) (by decide +kernel) (by decide +kernel), TT_in (i := 1271) (by decide +kernel) (by decide +kernel), TT_in (i := 37) (by decide +kernel) (by decide +kernel), TT_in (i := 1272) (by decide +kernel) (by decide +kernel), ⟨by decide +kernel, by decide +kernel, by decide +kernel⟩⟩
theorem cj_U_50 : CSu "java/lang/StringBuilder" 50 y_apc b_apc 2 (some (.object "java/lang/AbstractStringBuilder")) 1 := ⟨by
  intro t ht
  rcases List.mem_cons.mp ht with rfl | ht
  · exact TT_in (i := 1267) (by decide +kernel) (by decide +kernel)
  rcases List.mem_cons.mp ht with rfl | ht
  · exact TT_in (i := 1368) (by decide +kernel) (by decide +kernel)
  rcases List.mem_cons.mp ht with rfl | ht
  · exact TT_in (i := 1162) (by decide +kernel) (by decide +kernel)
  rcases List.mem_cons.mp ht with rfl | ht
  · exact TT_in (i := 1268) (by decide +kernel) (by decide +kernel)
  rcases List.mem_cons.mp ht with rfl | ht
  · exact TT_in (i := 30) (by decide +kernel) (by decide +kernel)
  rcases List.mem_cons.mp ht with rfl | ht
  · exact TT_in (i := 1269) (by decide +kernel) (by decide +kernel)
  exact ht, ⟨by decide +kernel, by decide +kernel⟩⟩
theorem fw_10_3' : FW 10 3 .int := fw_10_3
set_option maxHeartbeats 4000000 in
set_option maxRecDepth 100000 in
theorem c_apc (l : Launch) {w : Wc} (had : Ad w) {j b m v : Nat} {z : Shp} {x : List Nat} (M : Mem) (h : SBS z M j b m x) (hv : v < 128) (hj : j < 800) (hq2 : nc (x.length + 1) m ≤ 1000) : CtG l y_apc b_apc 2 (some (.object "java/lang/AbstractStringBuilder")) (rmC 4 (gr (x.length + 1) m) (gs (x.length + 1) m)) w j z [.ref (wad w 146), .int (nI v)] M (QgR w (j + gr (x.length + 1) m) 146 (fun z2 M2 => SBS z2 M2 (j + gr (x.length + 1) m) (nb (x.length + 1) m b j) (nc (x.length + 1) m) (x ++ [v]) ∧ SFr z M z2 M2)) := by
  have hh := h
  obtain ⟨h1, h2, h3, h4, h5, h6, h7, h8, h9, h10, h11, h12, h13, h14⟩ := h
  have hle : x.length + 1 ≤ nc (x.length + 1) m := by
    unfold nc
    by_cases hc : x.length + 1 ≤ m
    · rw [if_pos hc]; exact hc
    · rw [if_neg hc]; omega
  refine CtG.go (by decide) (L := [(0, .ref (wad w 146)), (1, .int (nI v))]) rfl (Nat.le_of_ble_eq_true rfl) (fun p0 e s mm args below meth c hnm hsz hao g hret => ?_)
  refine G_aload_n g (pc := 0) 0 d_apc_0 rfl rfl ?_
  refine G_aload_n g (pc := 1) 0 d_apc_1 rfl rfl ?_
  refine G_get g (pc := 2) fa_A_79 (List.mem_range.mpr h1) h5 d_apc_2 ?_
  refine Go.top (y := (nI x.length)) h11 ?_
  refine G_iconst g (pc := 5) (1 : Int32) d_apc_5 rfl ?_
  refine G_iadd g (pc := 6) d_apc_6 ?_
  refine Go.top (y := nI (x.length + 1)) (nI_add _ 1) ?_
  refine G_gV (RG_P g (pc := 7) (q := 146) (As := [.int (nI (x.length + 1))]) (st := []) had hao (by omega) (by omega) hsz cj_A_100 (c_ens l had M hh hj hq2) (List.mem_range.mpr h1) h5 rfl ⟨(Nat.le_of_ble_eq_true rfl), (Nat.le_of_ble_eq_true rfl)⟩ ⟨(by show 0 + gr (x.length + 1) m ≤ gr (x.length + 1) m; omega), (by show 0 + gs (x.length + 1) m ≤ gs (x.length + 1) m; omega)⟩ (Nat.le_of_ble_eq_true rfl) d_apc_7) (fun z2 M2 hh => ?_)
  obtain ⟨hS2, hF2⟩ := hh
  have hgr : gr (x.length + 1) m ≤ 1 := by unfold gr; split <;> omega
  have g1 := Gd.wg (z2 := z2) (j2 := j + gr (x.length + 1) m) had (by omega) g
  have hs2 := hS2
  obtain ⟨k1, k2, k3, k4, k5, k6, k7, k8, k9, k10, k11, k12, k13, k14⟩ := hS2
  refine G_aload_n g1 (pc := 10) 0 d_apc_10 rfl rfl ?_
  refine G_gI0 (RG_U g1 (pc := 11) (q := 146) (As := []) (st := []) had hao (by omega) (by omega) (by omega) cj_A_83 (c_lat l M2 hs2) (List.mem_range.mpr k1) k5 rfl ⟨(Nat.le_of_ble_eq_true rfl), (Nat.le_of_ble_eq_true rfl)⟩ ⟨(by show 0 + gr (x.length + 1) m + 0 ≤ gr (x.length + 1) m; omega), (by show 0 + gs (x.length + 1) m + 0 ≤ gs (x.length + 1) m; omega)⟩ (Nat.le_of_ble_eq_true rfl) d_apc_11) (fun z3 M3 hh => ?_)
  obtain ⟨rfl, rfl⟩ := hh
  refine K_if_eq_F g1 (pc := 14) 45 ((by decide)) d_apc_14 (by decide) ?_
  refine G_iload_n g1 (pc := 17) 1 d_apc_17 rfl rfl ?_
  refine G_gI0 (RG_S g1 (pc := 18) (As := [.int (nI v)]) (st := []) had hao (by omega) (by omega) (by omega) cj_A_191 (c_can l v hv M3) rfl ⟨(Nat.le_of_ble_eq_true rfl), (Nat.le_of_ble_eq_true rfl)⟩ ⟨(by show 0 + gr (x.length + 1) m + 0 ≤ gr (x.length + 1) m; omega), (by show 0 + gs (x.length + 1) m + 0 ≤ gs (x.length + 1) m; omega)⟩ (Nat.le_of_ble_eq_true rfl) d_apc_18) (fun z4 M4 hh => ?_)
  obtain ⟨rfl, rfl⟩ := hh
  refine K_if_eq_F g1 (pc := 21) 45 ((by decide)) d_apc_21 (by decide) ?_
  refine G_aload_n g1 (pc := 24) 0 d_apc_24 rfl rfl ?_
  refine G_getR g1 (pc := 25) fa_A_15 (List.mem_range.mpr k1) k5 k6 d_apc_25 ?_
  refine G_aload_n g1 (pc := 28) 0 d_apc_28 rfl rfl ?_
  refine G_dup g1 (pc := 29) d_apc_29 rfl ?_
  refine G_get g1 (pc := 30) fa_A_79 (List.mem_range.mpr k1) k5 d_apc_30 ?_
  refine Go.top (y := (nI x.length)) k11 ?_
  refine G_dup_x1 g1 (pc := 33) d_apc_33 rfl rfl ?_
  refine G_iconst g1 (pc := 34) (1 : Int32) d_apc_34 rfl ?_
  refine G_iadd g1 (pc := 35) d_apc_35 ?_
  refine Go.top (y := nI (x.length + 1)) (nI_add _ 1) ?_
  refine G_put g1 (pc := 36) (q := 146) fa_A_79 fw_10_3 rfl rfl (List.mem_range.mpr k1) k5 d_apc_36 ?_
  refine G_iload_n g1 (pc := 39) 1 d_apc_39 rfl rfl ?_
  refine G_i2b g1 (pc := 40) d_apc_40 ?_
  refine K_bast g1 (pc := 41) (nn := nc (x.length + 1) m) (List.mem_range.mpr k4) k7 k8 (inB_nI (by omega) (by omega)) d_apc_41 ?_
  refine G_goto g1 (pc := 42) 75 d_apc_42 (by decide) ?_
  refine G_aload_n g1 (pc := 75) 0 d_apc_75 rfl rfl ?_
  refine G_gretR g1 (pc := 76) (q := 146) ⟨hs2.push hv hle, fun p hp => ⟨(hF2 p hp).1, ?_⟩⟩ hret (Or.inl ⟨_, rfl⟩) (by show 0 + gr (x.length + 1) m ≤ gr (x.length + 1) m; omega) (by show 0 + gs (x.length + 1) m ≤ gs (x.length + 1) m; omega) d_apc_76
  rw [put_ne (by omega), put_ne (by omega)]
  exact (hF2 p hp).2
set_option maxHeartbeats 4000000 in
set_option maxRecDepth 100000 in
theorem c_sapc (l : Launch) {w : Wc} (had : Ad w) {j b m v : Nat} {z : Shp} {x : List Nat} (M : Mem) (h : SBS z M j b m x) (hv : v < 128) (hj : j < 800) (hq2 : nc (x.length + 1) m ≤ 1000) : CtG l y_sapc b_sapc 2 (some (.object "java/lang/StringBuilder")) (rmC 5 (gr (x.length + 1) m) (gs (x.length + 1) m)) w j z [.ref (wad w 146), .int (nI v)] M (QgR w (j + gr (x.length + 1) m) 146 (fun z2 M2 => SBS z2 M2 (j + gr (x.length + 1) m) (nb (x.length + 1) m b j) (nc (x.length + 1) m) (x ++ [v]) ∧ SFr z M z2 M2)) := by
  refine CtG.go (by decide) (L := [(0, .ref (wad w 146)), (1, .int (nI v))]) rfl (Nat.le_of_ble_eq_true rfl) (fun p0 e s mm args below meth c hnm hsz hao g hret => ?_)
  refine G_aload_n g (pc := 0) 0 d_sapc_0 rfl rfl ?_
  refine G_iload_n g (pc := 1) 1 d_sapc_1 rfl rfl ?_
  refine G_gR (RG_SU g (pc := 2) (q := 146) (As := [.int (nI v)]) (st := []) had hao (by omega) (by have := h.1; omega) hsz cj_U_50 (c_apc l had M h hv hj hq2) (List.mem_range.mpr h.1) h.2.2.2.2.1 rfl ⟨(Nat.le_of_ble_eq_true rfl), (Nat.le_of_ble_eq_true rfl)⟩ ⟨(by show 0 + gr (x.length + 1) m ≤ gr (x.length + 1) m; omega), (by show 0 + gs (x.length + 1) m ≤ gs (x.length + 1) m; omega)⟩ (Nat.le_of_ble_eq_true rfl) d_sapc_2) (fun z2 M2 hh => ?_)
  have hgr : gr (x.length + 1) m ≤ 1 := by unfold gr; split <;> omega
  have g1 := Gd.wg (z2 := z2) (j2 := j + gr (x.length + 1) m) had (by omega) g
  refine G_pop g1 (pc := 5) d_sapc_5 rfl ?_
  refine G_aload_n g1 (pc := 6) 0 d_sapc_6 rfl rfl ?_
  exact G_gretR g1 (pc := 7) (q := 146) hh hret (Or.inl ⟨_, rfl⟩) (by show 0 + gr (x.length + 1) m ≤ gr (x.length + 1) m; omega) (by show 0 + gs (x.length + 1) m ≤ gs (x.length + 1) m; omega) d_sapc_7
