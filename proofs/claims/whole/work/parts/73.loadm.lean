/-! a reference is put: the shape changes; the reference's loadStation -/
/-- the same places in another shape -/
def wsh (w : Wc) (z : Shp) : Wc := (w.1, w.2.1, w.2.2.1, w.2.2.2.1, z, w.2.2.2.2.2)
theorem wsh_id (w : Wc) {z : Shp} (h : wZ w = z) : wsh w z = w := by
  subst h
  rfl
def zset (z : Shp) (p k q : Nat) : Shp := fun p' => if p' = p then ((z p).1, (z p).2.1, fun k' => if k' = k then some q else (z p).2.2 k') else z p'
theorem Z0_zset (r r2 : Nat) : zset (Z0 r) 145 6 r2 = Z0 r2 := by
  funext p
  unfold zset
  by_cases e : p = 145
  · subst e
    rw [if_pos rfl]
    unfold Z0
    congr 1
    congr 1
    funext k
    by_cases c : k = 6
    · rw [if_pos c, if_pos ⟨rfl, c⟩]
    · rw [if_neg c, if_neg (fun h => c h.2)]
      exact if_neg (fun h => c h.2)
  · rw [if_neg e]
    unfold Z0
    congr 1
    congr 1
    funext k
    rw [if_neg (fun h => e h.1), if_neg (fun h => e h.1)]
theorem flds_putR {w : Wc} {z2 : Shp} {ci k q : Nat} {z : Nat → Option Nat} {m : Nat → Int32} (hk : k < (ftag ci).length) (ht : (ftag ci).getD k 0 = 1) : (flds w ci z m).set k (.ref (wad w q)) = flds (wsh w z2) ci (fun k' => if k' = k then some q else z k') m := by
  apply List.ext_getElem?
  intro j
  by_cases hj : j = k
  · subst hj
    rw [List.getElem?_set_self (by rw [flds_len]; exact hk), flds_ref (w := wsh w z2) (q := q) hk ht (if_pos rfl)]
    rfl
  · rw [List.getElem?_set_ne (Ne.symm hj)]
    by_cases hl : j < (ftag ci).length
    · rw [flds_get hl, flds_get hl]
      unfold fval
      dsimp only
      rw [if_neg hj]
      rfl
    · rw [List.getElem?_eq_none (by rw [flds_len]; omega), List.getElem?_eq_none (by rw [flds_len]; omega)]
theorem cellE_sh {w : Wc} {z : Shp} {M : Mem} {p : Nat} (h : z p = wZ w p) : cellE (wsh w z) M p = cellE w M p := by
  unfold cellE
  rw [show wZ (wsh w z) p = wZ w p from h]
  rfl
theorem wW_sh {w : Wc} {M : Mem} (hw : Wok w) {p k j q : Nat} (hj : (wL w)[j]? = some p) (hk : k < (ftag (wZ w p).1).length) (ht : (ftag (wZ w p).1).getD k 0 = 1) (hc : (wZ w p).1 < 20) : (wW w M).set j (wad w p, .inr ((wZ w p).1, (flds w (wZ w p).1 (wZ w p).2.2 (M p)).set k (.ref (wad w q)))) = wW (wsh w (zset (wZ w) p k q)) M := by
  apply List.ext_getElem?
  intro i
  have hjl : j < (wL w).length := (List.getElem?_eq_some_iff.mp hj).1
  by_cases hi : i = j
  · subst hi
    rw [List.getElem?_set_self (by unfold wW; rw [List.length_map]; exact hjl)]
    unfold wW
    rw [List.getElem?_map, show wL (wsh w (zset (wZ w) p k q)) = wL w from rfl, hj, Option.map_some]
    have e : wZ (wsh w (zset (wZ w) p k q)) p = ((wZ w p).1, (wZ w p).2.1, fun k' => if k' = k then some q else (wZ w p).2.2 k') := if_pos rfl
    rw [cellE_obj (w := wsh w (zset (wZ w) p k q)) (ci := (wZ w p).1) (by rw [e]) hc, e, flds_putR (z2 := zset (wZ w) p k q) hk ht]
    rfl
  · rw [List.getElem?_set_ne (Ne.symm hi)]
    unfold wW
    rw [List.getElem?_map, List.getElem?_map, show wL (wsh w (zset (wZ w) p k q)) = wL w from rfl]
    cases hq : (wL w)[i]? with
    | none => rfl
    | some q' =>
      have hne : q' ≠ p := by
        intro e
        subst e
        have hil : i < (wL w).length := (List.getElem?_eq_some_iff.mp hq).1
        exact hi ((List.getElem?_inj hil hw.1).mp (hq.trans hj.symm))
      rw [Option.map_some, Option.map_some, cellE_sh (w := w) (if_neg hne)]
      rfl
section GR
variable {ρ : Type} {p : Program} {l : Launch} {e : Env} {R : Room} {s : State} {m : MethodId} {args : Array Value} {below : List Frame} {meth : Method} {c : Code} {w : Wc} {nL k n : Nat} {Qf : ρ → State → Prop} {cc : ByteArray} {own : String}
theorem Gd.sh (g : Gd p s m args meth c w nL cc own) (z : Shp) : Gd p s m args meth c (wsh w z) nL cc own := g
theorem G_putRef (g : Gd p s m args meth c w nL cc own) {pc : Nat} {L : List (Nat × Value)} {st : List Value} {M : Mem} {o : Option ρ} {idx ci fk q q2 : Nat} {ty : FieldType} (fa : FA own idx ci fk 1) (fw : FW ci fk ty) (hn : narrow ty (.ref (wad w q2)) = .ref (wad w q2)) (hf : fits ty (.ref (wad w q2)) = true) (hq : q ∈ wL w) (hk : (wZ w q).1 = ci) (d : decode cc pc = .ok (.putfield idx, 3)) (kk : Go p l e R s m args below meth c (wsh w (zset (wZ w) q fk q2)) nL k n Qf o (pc + 3) L st M) : Go p l e R s m args below meth c w nL k n Qf o pc L (.ref (wad w q2) :: .ref (wad w q) :: st) M := by
  intro r hr H locs ls hP hS hl
  obtain ⟨ref, C, T, N, f1, rfl, f3, f4, f5, f6, f7, f8⟩ := fa
  obtain ⟨C2, T2, N2, ty0, w1, w2, w3, w4, w5⟩ := fw
  cases Option.some.inj (w1.symm.trans f3)
  obtain ⟨j, hj0, hj⟩ := wW_get (M := M) hq
  subst hk
  rw [cellE_obj rfl f6] at hj
  refine va_put g.1 g.2.1 g.2.2.2.2.1 f5 ty0 w2 w3 g.2.2.2.1 g.2.2.2.2.2.1 hP (wD_of g.2.2.2.2.2.2.2.2.1 M) hS j hj f3 fk f4 (g.2.2.2.2.1 _ f1) (fun _ h9 => h9) w4 w5 hn hf (by rw [flds_len]; exact f7) d (fun H1 locs1 hP1 _ hS1 => ?_)
  rw [wW_sh g.2.2.2.2.2.2.2.2.1 hj0 f7 f8 f6] at hP1
  exact kk r hr H1 locs1 ls hP1 hS1 hl
end GR
theorem fw_10_6 : FW 10 6 (.array .int) := ⟨"KiteLoggerModel", T10, 28, ty10, rfl, tyk10, nm10, rfl, by decide +kernel⟩
theorem WM.swap {w : Wc} {rr rr2 : Nat} (h : WM w rr) (h2 : rr2 = 146 ∨ rr2 = 147) : WM (wsh w (zset (wZ w) 145 6 rr2)) rr2 := ⟨by rw [h.1]; exact Z0_zset rr rr2, h.2.1, h2⟩

theorem cc_M_326 : CV "KiteLoggerModel" 326 y_M_readStation b_M_readStation 3 none 0 := ⟨TT_in (i := 1886) (by decide +kernel) (by decide +kernel), TT_in (i := 1888) (by decide +kernel) (by decide +kernel), TT_in (i := 68) (by decide +kernel) (by decide +kernel), TT_in (i := 100) (by decide +kernel) (by decide +kernel), TT_in (i := 1889) (by decide +kernel) (by decide +kernel), ⟨by decide +kernel, by decide +kernel, by decide +kernel⟩⟩
theorem d_M_loadStation_0 : decode b_M_loadStation 0 = .ok (.aload_n 0, 1) := by decide +kernel
theorem d_M_loadStation_1 : decode b_M_loadStation 1 = .ok (.aload_n 0, 1) := by decide +kernel
theorem d_M_loadStation_2 : decode b_M_loadStation 2 = .ok (.iload_n 1, 1) := by decide +kernel
theorem d_M_loadStation_3 : decode b_M_loadStation 3 = .ok (.invokevirtual 320, 3) := by decide +kernel
theorem d_M_loadStation_6 : decode b_M_loadStation 6 = .ok (.invokevirtual 87, 3) := by decide +kernel
theorem d_M_loadStation_9 : decode b_M_loadStation 9 = .ok (.ifCond .eq 5, 3) := by decide +kernel
theorem d_M_loadStation_12 : decode b_M_loadStation 12 = .ok (.iconst 0, 1) := by decide +kernel
theorem d_M_loadStation_13 : decode b_M_loadStation 13 = .ok (.ireturn, 1) := by decide +kernel
theorem d_M_loadStation_14 : decode b_M_loadStation 14 = .ok (.aload_n 0, 1) := by decide +kernel
theorem d_M_loadStation_15 : decode b_M_loadStation 15 = .ok (.iload_n 1, 1) := by decide +kernel
theorem d_M_loadStation_16 : decode b_M_loadStation 16 = .ok (.invokevirtual 323, 3) := by decide +kernel
theorem d_M_loadStation_19 : decode b_M_loadStation 19 = .ok (.aload_n 0, 1) := by decide +kernel
theorem d_M_loadStation_20 : decode b_M_loadStation 20 = .ok (.aload_n 0, 1) := by decide +kernel
theorem d_M_loadStation_21 : decode b_M_loadStation 21 = .ok (.getfield 13, 3) := by decide +kernel
theorem d_M_loadStation_24 : decode b_M_loadStation 24 = .ok (.putfield 28, 3) := by decide +kernel
theorem d_M_loadStation_27 : decode b_M_loadStation 27 = .ok (.aload_n 0, 1) := by decide +kernel
theorem d_M_loadStation_28 : decode b_M_loadStation 28 = .ok (.invokevirtual 326, 3) := by decide +kernel
theorem d_M_loadStation_31 : decode b_M_loadStation 31 = .ok (.aload_n 0, 1) := by decide +kernel
theorem d_M_loadStation_32 : decode b_M_loadStation 32 = .ok (.aload_n 0, 1) := by decide +kernel
theorem d_M_loadStation_33 : decode b_M_loadStation 33 = .ok (.getfield 9, 3) := by decide +kernel
theorem d_M_loadStation_36 : decode b_M_loadStation 36 = .ok (.putfield 28, 3) := by decide +kernel
theorem d_M_loadStation_39 : decode b_M_loadStation 39 = .ok (.aload_n 0, 1) := by decide +kernel
theorem d_M_loadStation_40 : decode b_M_loadStation 40 = .ok (.invokevirtual 329, 3) := by decide +kernel
theorem d_M_loadStation_43 : decode b_M_loadStation 43 = .ok (.ifCond .eq 5, 3) := by decide +kernel
theorem d_M_loadStation_46 : decode b_M_loadStation 46 = .ok (.iconst (-1), 1) := by decide +kernel
theorem d_M_loadStation_47 : decode b_M_loadStation 47 = .ok (.ireturn, 1) := by decide +kernel
theorem d_M_loadStation_48 : decode b_M_loadStation 48 = .ok (.aload_n 0, 1) := by decide +kernel
theorem d_M_loadStation_49 : decode b_M_loadStation 49 = .ok (.getfield 13, 3) := by decide +kernel
theorem d_M_loadStation_52 : decode b_M_loadStation 52 = .ok (.iconst 0, 1) := by decide +kernel
theorem d_M_loadStation_53 : decode b_M_loadStation 53 = .ok (.aload_n 0, 1) := by decide +kernel
theorem d_M_loadStation_54 : decode b_M_loadStation 54 = .ok (.getfield 9, 3) := by decide +kernel
theorem d_M_loadStation_57 : decode b_M_loadStation 57 = .ok (.iconst 0, 1) := by decide +kernel
theorem d_M_loadStation_58 : decode b_M_loadStation 58 = .ok (.invokestatic 164, 3) := by decide +kernel
theorem d_M_loadStation_61 : decode b_M_loadStation 61 = .ok (.aload_n 0, 1) := by decide +kernel
theorem d_M_loadStation_62 : decode b_M_loadStation 62 = .ok (.iconst 0, 1) := by decide +kernel
theorem d_M_loadStation_63 : decode b_M_loadStation 63 = .ok (.putfield 186, 3) := by decide +kernel
theorem d_M_loadStation_66 : decode b_M_loadStation 66 = .ok (.aload_n 0, 1) := by decide +kernel
theorem d_M_loadStation_67 : decode b_M_loadStation 67 = .ok (.iconst 0, 1) := by decide +kernel
theorem d_M_loadStation_68 : decode b_M_loadStation 68 = .ok (.putfield 231, 3) := by decide +kernel
theorem d_M_loadStation_71 : decode b_M_loadStation 71 = .ok (.aload_n 0, 1) := by decide +kernel
theorem d_M_loadStation_72 : decode b_M_loadStation 72 = .ok (.getfield 28, 3) := by decide +kernel
theorem d_M_loadStation_75 : decode b_M_loadStation 75 = .ok (.iconst 5, 1) := by decide +kernel
theorem d_M_loadStation_76 : decode b_M_loadStation 76 = .ok (.iaload, 1) := by decide +kernel
theorem d_M_loadStation_77 : decode b_M_loadStation 77 = .ok (.ireturn, 1) := by decide +kernel
set_option maxHeartbeats 4000000 in
set_option maxRecDepth 100000 in
theorem c_M_loadStation (l : Launch) (N : Nat) {w : Wc} (hw : WM w 146) (a1 : Int32) (M : Mem) : Ct QI l y_M_loadStation b_M_loadStation 2 (some .int) (rmL 8) w [.ref (wad w 145), .int a1] M (f_M_loadStation N a1 M) := by
  refine Ct.go (by decide) (L := [(0, .ref (wad w 145)), (1, .int a1)]) rfl (Nat.le_of_ble_eq_true rfl) (fun p0 e s m args below meth c g hret => ?_)
  unfold f_M_loadStation
  refine G_aload_n g (pc := 0) 0 d_M_loadStation_0 rfl rfl ?_
  refine G_aload_n g (pc := 1) 0 d_M_loadStation_1 rfl rfl ?_
  refine G_iload_n g (pc := 2) 1 d_M_loadStation_2 rfl rfl ?_
  refine G_cVZ g (pc := 3) (As := [.int a1]) (st := [.ref (wad w 145)]) cc_M_320 (c_M_isLength l hw a1 M) (hw.mm 145 (Nat.le_of_ble_eq_true rfl) (Nat.le_of_ble_eq_true rfl)) (hw.k (zk145 146)) rfl (by decide) rfl ⟨(Nat.le_of_ble_eq_true rfl), (Nat.le_of_ble_eq_true rfl)⟩ ⟨(Nat.le_of_ble_eq_true rfl), (Nat.le_of_ble_eq_true rfl)⟩ (Nat.le_of_ble_eq_true rfl) d_M_loadStation_3 (fun x1 M2 => ?_)
  refine G_cVZ g (pc := 6) (As := [.int (b2i x1)]) (st := []) cc_M_87 (c_M_lacks l hw x1 M2) (hw.mm 145 (Nat.le_of_ble_eq_true rfl) (Nat.le_of_ble_eq_true rfl)) (hw.k (zk145 146)) rfl (by decide) rfl ⟨(Nat.le_of_ble_eq_true rfl), (Nat.le_of_ble_eq_true rfl)⟩ ⟨(Nat.le_of_ble_eq_true rfl), (Nat.le_of_ble_eq_true rfl)⟩ (Nat.le_of_ble_eq_true rfl) d_M_loadStation_6 (fun x3 M4 => ?_)
  refine G_if_eqB g (pc := 9) 14 d_M_loadStation_9 (by decide) ?_ ?_
  · refine G_iconst g (pc := 12) (0 : Int32) d_M_loadStation_12 rfl ?_
    exact G_ireturn g (pc := 13) hret (Nat.le_of_ble_eq_true rfl) (Nat.le_of_ble_eq_true rfl) d_M_loadStation_13
  · refine G_aload_n g (pc := 14) 0 d_M_loadStation_14 rfl rfl ?_
    refine G_iload_n g (pc := 15) 1 d_M_loadStation_15 rfl rfl ?_
    refine G_cVV g (pc := 16) (As := [.int a1]) (st := []) cc_M_323 (c_M_startText l N hw a1 M4) (hw.mm 145 (Nat.le_of_ble_eq_true rfl) (Nat.le_of_ble_eq_true rfl)) (hw.k (zk145 146)) rfl (by decide) rfl ⟨(Nat.le_of_ble_eq_true rfl), (Nat.le_of_ble_eq_true rfl)⟩ ⟨(Nat.le_of_ble_eq_true rfl), (Nat.le_of_ble_eq_true rfl)⟩ (Nat.le_of_ble_eq_true rfl) d_M_loadStation_16 (fun M6 => ?_)
    refine G_aload_n g (pc := 19) 0 d_M_loadStation_19 rfl rfl ?_
    refine G_aload_n g (pc := 20) 0 d_M_loadStation_20 rfl rfl ?_
    refine G_getR g (pc := 21) fa_M_13 (hw.mm 145 (Nat.le_of_ble_eq_true rfl) (Nat.le_of_ble_eq_true rfl)) (hw.k (zk145 146)) (hw.r (zr145_1 146)) d_M_loadStation_21 ?_
    refine G_putRef g (pc := 24) fa_M_28 fw_10_6 rfl rfl (hw.mm 145 (Nat.le_of_ble_eq_true rfl) (Nat.le_of_ble_eq_true rfl)) (hw.k (zk145 146)) d_M_loadStation_24 ?_
    have hw2 : WM (wsh w (zset (wZ w) 145 6 147)) 147 := hw.swap (Or.inr rfl)
    have g2 := g.sh (zset (wZ w) 145 6 147)
    refine G_aload_n g2 (pc := 27) 0 d_M_loadStation_27 rfl rfl ?_
    refine G_cVV g2 (pc := 28) (As := []) (st := []) cc_M_326 (c_M_readStation l N hw2 M6) (hw2.mm 145 (Nat.le_of_ble_eq_true rfl) (Nat.le_of_ble_eq_true rfl)) (hw2.k (zk145 147)) rfl (by decide) rfl ⟨(Nat.le_of_ble_eq_true rfl), (Nat.le_of_ble_eq_true rfl)⟩ ⟨(Nat.le_of_ble_eq_true rfl), (Nat.le_of_ble_eq_true rfl)⟩ (Nat.le_of_ble_eq_true rfl) d_M_loadStation_28 (fun M8 => ?_)
    refine G_aload_n g2 (pc := 31) 0 d_M_loadStation_31 rfl rfl ?_
    refine G_aload_n g2 (pc := 32) 0 d_M_loadStation_32 rfl rfl ?_
    refine G_getR g2 (pc := 33) fa_M_9 (hw2.mm 145 (Nat.le_of_ble_eq_true rfl) (Nat.le_of_ble_eq_true rfl)) (hw2.k (zk145 147)) (hw2.r (zr145_0 147)) d_M_loadStation_33 ?_
    refine G_putRef g2 (pc := 36) fa_M_28 fw_10_6 rfl rfl (hw2.mm 145 (Nat.le_of_ble_eq_true rfl) (Nat.le_of_ble_eq_true rfl)) (hw2.k (zk145 147)) d_M_loadStation_36 ?_
    rw [show wsh (wsh w (zset (wZ w) 145 6 147)) (zset (wZ (wsh w (zset (wZ w) 145 6 147))) 145 6 146) = w from (congrArg (wsh (wsh w (zset (wZ w) 145 6 147))) (by show zset (zset (wZ w) 145 6 147) 145 6 146 = wZ w; rw [hw.1, Z0_zset, Z0_zset])).trans (wsh_id w rfl)]
    refine G_aload_n g (pc := 39) 0 d_M_loadStation_39 rfl rfl ?_
    refine G_cVZ g (pc := 40) (As := []) (st := []) cc_M_329 (c_M_isFaulty l hw M8) (hw.mm 145 (Nat.le_of_ble_eq_true rfl) (Nat.le_of_ble_eq_true rfl)) (hw.k (zk145 146)) rfl (by decide) rfl ⟨(Nat.le_of_ble_eq_true rfl), (Nat.le_of_ble_eq_true rfl)⟩ ⟨(Nat.le_of_ble_eq_true rfl), (Nat.le_of_ble_eq_true rfl)⟩ (Nat.le_of_ble_eq_true rfl) d_M_loadStation_40 (fun x9 M10 => ?_)
    refine G_if_eqB g (pc := 43) 48 d_M_loadStation_43 (by decide) ?_ ?_
    · refine G_iconst g (pc := 46) (-1 : Int32) d_M_loadStation_46 rfl ?_
      exact G_ireturn g (pc := 47) hret (Nat.le_of_ble_eq_true rfl) (Nat.le_of_ble_eq_true rfl) d_M_loadStation_47
    · refine G_aload_n g (pc := 48) 0 d_M_loadStation_48 rfl rfl ?_
      refine G_getR g (pc := 49) fa_M_13 (hw.mm 145 (Nat.le_of_ble_eq_true rfl) (Nat.le_of_ble_eq_true rfl)) (hw.k (zk145 146)) (hw.r (zr145_1 146)) d_M_loadStation_49 ?_
      refine G_iconst g (pc := 52) (0 : Int32) d_M_loadStation_52 rfl ?_
      refine G_aload_n g (pc := 53) 0 d_M_loadStation_53 rfl rfl ?_
      refine G_getR g (pc := 54) fa_M_9 (hw.mm 145 (Nat.le_of_ble_eq_true rfl) (Nat.le_of_ble_eq_true rfl)) (hw.k (zk145 146)) (hw.r (zr145_0 146)) d_M_loadStation_54 ?_
      refine G_iconst g (pc := 57) (0 : Int32) d_M_loadStation_57 rfl ?_
      refine G_cSV g (pc := 58) (As := [.ref (wad w 147), .int (0 : Int32), .ref (wad w 146), .int (0 : Int32)]) (st := []) cc_M_164 (c_M_copy l hw 147 (hw.mm 147 (Nat.le_of_ble_eq_true rfl) (Nat.le_of_ble_eq_true rfl)) (hw.k (zk147 146)) (0 : Int32) 146 (hw.mm 146 (Nat.le_of_ble_eq_true rfl) (Nat.le_of_ble_eq_true rfl)) (hw.k (zk146 146)) (0 : Int32) M10) rfl ⟨(Nat.le_of_ble_eq_true rfl), (Nat.le_of_ble_eq_true rfl)⟩ ⟨(Nat.le_of_ble_eq_true rfl), (Nat.le_of_ble_eq_true rfl)⟩ (Nat.le_of_ble_eq_true rfl) d_M_loadStation_58 (fun M12 => ?_)
      refine G_aload_n g (pc := 61) 0 d_M_loadStation_61 rfl rfl ?_
      refine G_iconst g (pc := 62) (0 : Int32) d_M_loadStation_62 rfl ?_
      refine G_put g (pc := 63) fa_M_186 fw_10_7 rfl rfl (hw.mm 145 (Nat.le_of_ble_eq_true rfl) (Nat.le_of_ble_eq_true rfl)) (hw.k (zk145 146)) d_M_loadStation_63 ?_
      refine G_nmM (fun M13 => ?_)
      refine G_aload_n g (pc := 66) 0 d_M_loadStation_66 rfl rfl ?_
      refine G_iconst g (pc := 67) (0 : Int32) d_M_loadStation_67 rfl ?_
      refine G_put g (pc := 68) fa_M_231 fw_10_11 rfl rfl (hw.mm 145 (Nat.le_of_ble_eq_true rfl) (Nat.le_of_ble_eq_true rfl)) (hw.k (zk145 146)) d_M_loadStation_68 ?_
      refine G_nmM (fun M14 => ?_)
      refine G_aload_n g (pc := 71) 0 d_M_loadStation_71 rfl rfl ?_
      refine G_getR g (pc := 72) fa_M_28 (hw.mm 145 (Nat.le_of_ble_eq_true rfl) (Nat.le_of_ble_eq_true rfl)) (hw.k (zk145 146)) (hw.r hw.rr) d_M_loadStation_72 ?_
      refine G_iconst g (pc := 75) (5 : Int32) d_M_loadStation_75 rfl ?_
      refine G_ialdK g (pc := 76) (nn := 405) 5 rfl rfl hw.mr hw.kr hw.nr d_M_loadStation_76 ?_
      exact G_ireturn g (pc := 77) hret (Nat.le_of_ble_eq_true rfl) (Nat.le_of_ble_eq_true rfl) d_M_loadStation_77
