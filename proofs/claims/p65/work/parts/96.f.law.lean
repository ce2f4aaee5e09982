/-! the law: the text is told and read -/
theorem decs_1 {v : Nat} (h : v < 10) : (decs v).length = 1 := by rw [decs_len, if_pos h]
theorem decs_2 {v : Nat} (h : v < 100) : (decs v).length ≤ 2 := by
  rw [decs_len]
  split
  · omega
  · omega
theorem gsT_len3 : ∀ l : List Nat, (∀ g ∈ l, 2 ≤ g ∧ g ≤ 14) → (gsT l).length ≤ 3 * l.length
  | [], _ => Nat.le_refl _
  | h :: t, hh => by
    have h1 := gsT_len3 t (fun g hg => hh g (List.mem_cons_of_mem _ hg))
    have h2 := decs_2 (v := h) (by have := hh h List.mem_cons_self; omega)
    show ([32] ++ decs h ++ gsT t).length ≤ _
    simp only [List.length_append, List.length_cons, List.length_nil]
    omega
def asc (l : List Nat) : Prop := ∀ c ∈ l, c < 128
theorem asc.app {a b : List Nat} (h1 : asc a) (h2 : asc b) : asc (a ++ b) := fun c hc => by
  rcases List.mem_append.mp hc with h | h
  · exact h1 c h
  · exact h2 c h
theorem asc.get {l : List Nat} (h : asc l) (i : Nat) (hi : i < l.length) : l.getD i 0 < 128 := by
  rw [List.getD_eq_getElem?_getD, List.getElem?_eq_getElem hi]
  exact h _ (List.getElem_mem hi)
theorem asc_tx : asc (txS 9) ∧ asc (txS 10) ∧ asc (txS 11) := by
  refine ⟨?_, ?_, ?_⟩ <;> (unfold asc; decide +kernel)
theorem asc_decs {v : Nat} (h : v < 1000) : asc (decs v) := by
  intro c hc
  unfold decs at hc
  split at hc
  · rw [List.mem_singleton] at hc
    omega
  · split at hc
    · simp only [List.mem_cons, List.not_mem_nil, or_false] at hc
      omega
    · simp only [List.mem_cons, List.not_mem_nil, or_false] at hc
      omega
theorem asc_1 {v : Nat} (h : v < 128) : asc [v] := fun c hc => by
  rw [List.mem_singleton] at hc
  omega
theorem asc_gs : ∀ l : List Nat, (∀ g ∈ l, 2 ≤ g ∧ g ≤ 14) → asc (gsT l)
  | [], _ => fun c hc => absurd hc List.not_mem_nil
  | h :: t, hh => ((asc_1 (by decide)).app (asc_decs (by have := hh h List.mem_cons_self; omega))).app (asc_gs t (fun g hg => hh g (List.mem_cons_of_mem _ hg)))
theorem lenS_9 : lenS 9 = 5 ∧ lenS 10 = 6 ∧ lenS 11 = 10 := by decide +kernel
/-- where the builder has just been made -/
def zB : Shp := zfr (zfr (Z0 146) 145 20 6) 146 10 0
def MB : Mem := setR (setR mS 145 (fun _ => 0)) 146 (fun _ => 0)
theorem zB_lo {p : Nat} (h : p < 145) : zB p = Z0 146 p := by
  unfold zB zfr
  rw [if_neg (by omega), if_neg (by omega)]
theorem zB_145 : zB 145 = (20, 6, fun _ => none) := by
  unfold zB zfr
  rw [if_neg (by omega), if_pos rfl]
theorem SFr.wk {w : Wc} {z : Shp} {M : Mem} {j rr : Nat} (h : SFr zB MB z M) (hj : 146 < j) : WK (wg w j z) rr := ⟨fun p hp => by show z p = _; rw [(h p (by omega)).1]; exact zB_lo hp, fun p hp => List.mem_range.mpr (by omega)⟩
theorem SFr.wv {w : Wc} {z : Shp} {M : Mem} {j : Nat} (h : SFr zB MB z M) (hj : 146 < j) : WV (wg w j z) := ⟨List.mem_range.mpr (by omega), by show (z 145).1 = 20; rw [(h 145 (by omega)).1, zB_145], by show (z 145).2.1 = 6; rw [(h 145 (by omega)).1, zB_145]⟩
theorem SFr.lo {z : Shp} {M : Mem} (h : SFr zB MB z M) : (∀ p, p < 145 → M p = mS p) ∧ M 145 = (fun _ => 0) := ⟨fun p hp => by rw [(h p (by omega)).2]; unfold MB; rw [setR_ne (by omega), setR_ne (by omega)], by rw [(h 145 (by omega)).2]; unfold MB; rw [setR_ne (by omega), setR_self]⟩
set_option maxHeartbeats 4000000 in
set_option maxRecDepth 100000 in
theorem law_97 (l : Launch) {N rr : Nat} {V : Nat → Mem → Row → Nat → Option Row → Prop} {lst : Row → List Int32} {actR : Row → Int32 → Row} (hP : PK N rr V lst actR) (hN : 400 < N) {p : Program} {e : Env} {s : State} {m : MethodId} {args : Array Value} {below : List Frame} {meth : Method} {c : Code} {w : Wc} (had : Ad w) (hao : AO s) (hsz : s.heap.size = wlo w) (hG : ∀ j z, j ≤ 900 → Gd p s m args meth c (wg w j z) 11 b_L_law "KiteLoggerLaw") {b Lx : Nat} {xs : Nat → Int32} (hX : LX s w b Lx xs) {Qf : Unit → State → Prop} (hend : ∀ j z n L M, j < 900 → n ≤ 1000000 → Go p l e room_1 s m args below meth c (wg w j z) 11 j n Qf (some ()) 445 L [.int 1] M) {v : Int32} {gc : Nat} {X : List Nat} (hgc : gc ≤ 8) (hXl : X.length ≤ 19) (h136 : ∀ (j : Nat) (z : Shp) (n : Nat) (M : Mem) (b2 mc : Nat) (gs : List Nat), gs.length = gc → (∀ g ∈ gs, 2 ≤ g ∧ g ≤ 14) → 146 < j → j ≤ 156 + 2 * 8 → n ≤ 20000 + 400 * 8 → mc ≤ 200 → SBS z M j b2 mc (X ++ gsT gs) → SFr zB MB z M → Go p l e room_1 s m args below meth c (wg w j z) 11 j n Qf (some ()) 136 [(0, .ref b), (1, .ref (wad w 0)), (2, .ref (wad w 145)), (3, .int v), (4, .ref (wad w 146)), (5, .int (nI gc)), (6, .int (nI gc))] [] M) : ∀ (d k j n : Nat) (z : Shp) (M : Mem) (b2 mc : Nat) (gs : List Nat), k + d = gc → gs.length = k → (∀ g ∈ gs, 2 ≤ g ∧ g ≤ 14) → 146 < j → j ≤ 156 + 2 * k → n ≤ 20000 + 400 * k → mc ≤ 200 → SBS z M j b2 mc (X ++ gsT gs) → SFr zB MB z M → Go p l e room_1 s m args below meth c (wg w j z) 11 j n Qf (some ()) 97 [(0, .ref b), (1, .ref (wad w 0)), (2, .ref (wad w 145)), (3, .int v), (4, .ref (wad w 146)), (5, .int (nI gc)), (6, .int (nI k))] [] M := by
  intro d
  induction d with
  | zero =>
    intro k j n z M b2 mc gs hk hgl hgs hj hj2 hn hm hS hF
    have g := hG j z (by omega)
    have hk : k = gc := by omega
    subst hk
    refine G_iload g (pc := 97) 6 d_L_law_97 rfl ?_
    refine G_iload g (pc := 99) 5 d_L_law_99 rfl ?_
    refine K_icmp_ge_T g (pc := 101) 136 ((nI_le (Nat.le_refl _) (by omega))) d_L_law_101 (by decide) ?_
    exact h136 j z n M b2 mc gs hgl hgs hj (by omega) (by omega) hm hS hF
  | succ d ih =>
    intro k j n z M b2 mc gs hk hgl hgs hj hj2 hn hm hS hF
    have g := hG j z (by omega)
    have hgt := gsT_len3 gs hgs
    have hxl : (X ++ gsT gs).length ≤ 43 := by rw [List.length_append]; omega
    refine G_iload g (pc := 97) 6 d_L_law_97 rfl ?_
    refine G_iload g (pc := 99) 5 d_L_law_99 rfl ?_
    refine K_icmp_ge_F g (pc := 101) 136 ((Int32.not_le.mpr (nI_lt (show k < gc by omega) (by omega)))) d_L_law_101 (by decide) ?_
    refine G_aload g (pc := 104) 4 d_L_law_104 rfl ?_
    refine G_bipush g (pc := 106) (32 : Int32) d_L_law_106 rfl ?_
    refine G_xapc g had hao hsz hS hm (by omega) (v := 32) (by decide) (by omega) (by omega) (Nat.le_of_ble_eq_true rfl) d_L_law_108 (fun ja za na Ma ba ma aa ca ea fa hSa hGa => ?_)
    have hFa := hF.trans hGa
    have ga := hG ja za (by omega)
    refine G_iconst ga (pc := 111) (2 : Int32) d_L_law_111 rfl ?_
    refine G_aload_n ga (pc := 112) 0 d_L_law_112 rfl rfl ?_
    refine G_iconst ga (pc := 113) (1 : Int32) d_L_law_113 rfl ?_
    refine G_iload ga (pc := 114) 6 d_L_law_114 rfl ?_
    refine G_iadd ga (pc := 116) d_L_law_116 ?_
    refine Go.top (y := nI (1 + k)) (nI_add 1 k) ?_
    refine G_cell (l := l) ga hX (by omega) ⟨(Nat.le_of_ble_eq_true rfl), (Nat.le_of_ble_eq_true rfl)⟩ ⟨Nat.le_trans (by show ja ≤ 600000; omega) room_ok.1, Nat.le_trans (by show na ≤ 7000000; omega) room_ok.2⟩ (Nat.le_of_ble_eq_true rfl) d_L_law_117 ?_
    refine G_bipush ga (pc := 120) (13 : Int32) d_L_law_120 rfl ?_
    refine G_xmost ga (rr := rr) (SFr.wk hFa (by omega)) (cellV Lx xs (1 + k)) (mm := 13) (by decide) (by decide) (by omega) (by omega) (Nat.le_of_ble_eq_true rfl) d_L_law_122 (fun q hq => ?_)
    refine G_iadd ga (pc := 125) d_L_law_125 ?_
    refine Go.top (y := nI (2 + q)) (nI_add 2 q) ?_
    have hxl2 : ((X ++ gsT gs) ++ [32]).length ≤ 44 := by rw [List.length_append]; exact Nat.add_le_add hxl (Nat.le_refl 1)
    refine G_xapi ga had hao hsz hSa fa (by omega) (v := 2 + q) (by omega) (by omega) (by omega) (Nat.le_of_ble_eq_true rfl) d_L_law_126 (fun jb zb nb Mb bb mb ab cb eb fb hSb hGb => ?_)
    have hFb := hFa.trans hGb
    have gb := hG jb zb (by omega)
    refine G_pop gb (pc := 129) d_L_law_129 rfl ?_
    refine G_iinc gb (pc := 130) (nI (k + 1)) _ 6 d_L_law_130 rfl ((nI_add k 1)) (Nat.le_of_ble_eq_true rfl) rfl ?_
    refine G_sub [1, 2, 3, 4, 5, 6, 0] [(0, .ref b), (1, .ref (wad w 0)), (2, .ref (wad w 145)), (3, .int v), (4, .ref (wad w 146)), (5, .int (nI gc)), (6, .int (nI (k + 1)))] rfl ?_
    refine G_goto gb (pc := 133) 97 d_L_law_133 (by decide) ?_
    have e1 : ((X ++ gsT gs) ++ [32]) ++ decs (2 + q) = X ++ gsT (gs ++ [2 + q]) := by rw [gsT_snoc]; simp only [List.append_assoc]
    rw [e1] at hSb
    refine ih (k + 1) jb nb zb Mb bb mb (gs ++ [2 + q]) (by omega) (by rw [List.length_append]; simp [hgl]) (fun g hg => ?_) (by omega) (by omega) (by omega) fb hSb hFb
    rcases List.mem_append.mp hg with h | h
    · exact hgs g h
    · rw [List.mem_singleton] at h
      omega
set_option maxHeartbeats 4000000 in
set_option maxRecDepth 100000 in
theorem law_136 (l : Launch) {N rr : Nat} {V : Nat → Mem → Row → Nat → Option Row → Prop} {lst : Row → List Int32} {actR : Row → Int32 → Row} (hP : PK N rr V lst actR) (hN : 400 < N) {p : Program} {e : Env} {s : State} {m : MethodId} {args : Array Value} {below : List Frame} {meth : Method} {c : Code} {w : Wc} (had : Ad w) (hao : AO s) (hsz : s.heap.size = wlo w) (hG : ∀ j z, j ≤ 900 → Gd p s m args meth c (wg w j z) 11 b_L_law "KiteLoggerLaw") {b Lx : Nat} {xs : Nat → Int32} (hX : LX s w b Lx xs) {Qf : Unit → State → Prop} (hend : ∀ j z n L M, j < 900 → n ≤ 1000000 → Go p l e room_1 s m args below meth c (wg w j z) 11 j n Qf (some ()) 445 L [.int 1] M) (hPL : PL N rr V) {v : Int32} {a b1 c1 j n b2 mc : Nat} {gs : List Nat} {z : Shp} {M : Mem} (ha : 1 ≤ a ∧ a ≤ 4) (hb : 1 ≤ b1 ∧ b1 ≤ 80) (hc : 1 ≤ c1 ∧ c1 ≤ 300) (hgl : 1 ≤ gs.length ∧ gs.length ≤ 8) (hgs : ∀ g ∈ gs, 2 ≤ g ∧ g ≤ 14) (hj : 146 < j) (hj2 : j ≤ 172) (hn : n ≤ 24000) (hm : mc ≤ 200) (hXl : (((((((txS 9 ++ decs a) ++ [32]) ++ decs b1) ++ [32]) ++ decs c1) ++ txS 10)).length ≤ 19) (hS : SBS z M j b2 mc ((((((((txS 9 ++ decs a) ++ [32]) ++ decs b1) ++ [32]) ++ decs c1) ++ txS 10)) ++ gsT gs)) (hF : SFr zB MB z M) : Go p l e room_1 s m args below meth c (wg w j z) 11 j n Qf (some ()) 136 [(0, .ref b), (1, .ref (wad w 0)), (2, .ref (wad w 145)), (3, .int v), (4, .ref (wad w 146)), (5, .int (nI gs.length)), (6, .int (nI gs.length))] [] M := by
  have g := hG j z (by omega)
  have hgt := gsT_len3 gs hgs
  obtain ⟨l9, l10, l11⟩ := lenS_9
  have hK : ∀ i, kText a b1 c1 gs i = (((((((((txS 9 ++ decs a) ++ [32]) ++ decs b1) ++ [32]) ++ decs c1) ++ txS 10) ++ gsT gs) ++ txS 11) ++ decs i) ++ [59] := fun _ => rfl
  generalize hXe : (((((((txS 9 ++ decs a) ++ [32]) ++ decs b1) ++ [32]) ++ decs c1) ++ txS 10)) ++ gsT gs = X at hS hK
  have hX1 : X.length ≤ 43 := by rw [← hXe, List.length_append]; omega
  refine G_aload g (pc := 136) 4 d_L_law_136 rfl ?_
  refine G_ldcS g (pc := 138) 11 (List.elem_iff.mp (by decide +kernel)) d_L_law_138 ?_
  refine G_xaps g had hao hsz hS hm (i := 11) (by decide) (by rw [l11]; omega) (by omega) (by omega) (Nat.le_of_ble_eq_true rfl) d_L_law_140 (fun ja za na Ma ba ma aa ca ea fa hSa hGa => ?_)
  have hFa := hF.trans hGa
  have ga := hG ja za (by omega)
  have hX2 : (X ++ txS 11).length ≤ 53 := by rw [List.length_append, txS_len, l11]; omega
  refine G_iconst ga (pc := 143) (1 : Int32) d_L_law_143 rfl ?_
  refine G_iload_n ga (pc := 144) 3 d_L_law_144 rfl rfl ?_
  refine G_iconst ga (pc := 145) (5 : Int32) d_L_law_145 rfl ?_
  refine G_ishr ga (pc := 146) d_L_law_146 ?_
  refine G_iconst ga (pc := 147) (4 : Int32) d_L_law_147 rfl ?_
  refine G_xmost ga (rr := rr) (SFr.wk hFa (by omega)) (v >>> ((5 : Int32) &&& 31)) (mm := 4) (by decide) (by decide) (by omega) (by omega) (Nat.le_of_ble_eq_true rfl) d_L_law_148 (fun q hq => ?_)
  refine G_iadd ga (pc := 151) d_L_law_151 ?_
  refine Go.top (y := nI (1 + q)) (nI_add 1 q) ?_
  refine G_xapi ga had hao hsz hSa fa (by omega) (v := 1 + q) (by omega) (by omega) (by omega) (Nat.le_of_ble_eq_true rfl) d_L_law_152 (fun jb zb nb Mb bb mb ab cb eb fb hSb hGb => ?_)
  have hFb := hFa.trans hGb
  have gb := hG jb zb (by omega)
  have hX3 : ((X ++ txS 11) ++ decs (1 + q)).length ≤ 54 := by rw [List.length_append, decs_1 (by omega)]; omega
  refine G_bipush gb (pc := 155) (59 : Int32) d_L_law_155 rfl ?_
  refine G_xapc gb had hao hsz hSb fb (by omega) (v := 59) (by decide) (by omega) (by omega) (Nat.le_of_ble_eq_true rfl) d_L_law_157 (fun jd zd nd Md bd md ad cd ed fd hSd hGd => ?_)
  have hFd := hFb.trans hGd
  have gd := hG jd zd (by omega)
  have hX4 : (((X ++ txS 11) ++ decs (1 + q)) ++ [59]).length ≤ 55 := by rw [List.length_append]; exact Nat.add_le_add hX3 (Nat.le_refl 1)
  rw [← hK (1 + q)] at hSd hX4
  refine G_pop gd (pc := 160) d_L_law_160 rfl ?_
  refine G_aload_n gd (pc := 161) 1 d_L_law_161 rfl rfl ?_
  refine G_aload_n gd (pc := 162) 2 d_L_law_162 rfl rfl ?_
  refine G_aload gd (pc := 163) 4 d_L_law_163 rfl ?_
  refine G_gR (RG_V gd (pc := 165) (q := 146) (ci := 10) (As := []) (st := [.ref (wad w 145), .ref (wad w 0)]) had hao (by omega) (by omega) (by rw [hsz]) cj_W_228 (c_tst l had Md hSd (by omega)) (List.mem_range.mpr hSd.1) hSd.2.2.2.2.1 rfl (by decide) rfl ⟨(Nat.le_of_ble_eq_true rfl), (Nat.le_of_ble_eq_true rfl)⟩ ⟨Nat.le_trans (by show jd + 2 ≤ 600000; omega) room_ok.1, Nat.le_trans (by show nd + (4 + (kText a b1 c1 gs (1 + q)).length) ≤ 7000000; omega) room_ok.2⟩ (Nat.le_of_ble_eq_true rfl) d_L_law_165) (fun zs Ms0 hys => ?_)
  obtain ⟨hW, hGs⟩ := hys
  have hFs := hFd.trans hGs
  have hasc : asc (kText a b1 c1 gs (1 + q)) := (((((((((asc_tx.1.app (asc_decs (by omega))).app (asc_1 (by decide))).app (asc_decs (by omega))).app (asc_1 (by decide))).app (asc_decs (by omega))).app asc_tx.2.1).app (asc_gs gs hgs)).app asc_tx.2.2).app (asc_decs (by omega))).app (asc_1 (by decide))
  obtain ⟨Ms, Me, Ml, g0, p1, p2, p3, p4, p5, p6⟩ := hPL a b1 c1 gs (1 + q) ha.1 ha.2 hb.1 hb.2 hc.1 hc.2 hgl.1 hgl.2 hgs (by omega) (by omega) Ms0 hFs.lo.1 hFs.lo.2
  have gs2 := hG (jd + 2) zs (by omega)
  have hws : WK (wg w (jd + 2) zs) rr := SFr.wk hFs (by omega)
  have hvs : WV (wg w (jd + 2) zs) := SFr.wv hFs (by omega)
  rw [← p1] at hW ⊢
  refine G_gV0 (RG_S gs2 (pc := 168) (As := [.ref (wad w 0), .ref (wad w 145), .ref (wad w jd)]) (st := []) had hao (by omega) (by omega) (by rw [hsz]) cw_L_232 (c_say l N had hws hvs Ms hW (fun i hi => hasc.get i hi) (by omega) p2 (fun k0 hk0 => ⟨by rw [p3 k0 hk0 jd (by omega), p1], by rw [p3 k0 hk0 (jd + 1) (by omega), p1]⟩)) rfl ⟨(Nat.le_of_ble_eq_true rfl), (Nat.le_of_ble_eq_true rfl)⟩ ⟨Nat.le_trans (by show jd + 2 ≤ 600000; omega) room_ok.1, Nat.le_trans (by show nd + (4 + (kText a b1 c1 gs (1 + q)).length) ≤ 7000000; omega) room_ok.2⟩ (Nat.le_of_ble_eq_true rfl) d_L_law_168) (fun z9 M9 hy9 => ?_)
  obtain ⟨rfl, rfl⟩ := hy9
  refine G_aload_n gs2 (pc := 171) 1 d_L_law_171 rfl rfl ?_
  refine G_aload_n gs2 (pc := 172) 1 d_L_law_172 rfl rfl ?_
  refine G_aload_n gs2 (pc := 173) 2 d_L_law_173 rfl rfl ?_
  refine Go.knownI p4 (fun K hK2 => ?_)
  refine G_cSI0 gs2 (pc := 174) (As := [.ref (wad w 0), .ref (wad w 145)]) (st := [.ref (wad w 0)]) cw_L_236 (c_L_end l N hws hvs _) rfl ⟨(Nat.le_of_ble_eq_true rfl), (Nat.le_of_ble_eq_true rfl)⟩ ⟨Nat.le_trans (by show jd + 2 ≤ 600000; omega) room_ok.1, Nat.le_trans (by show nd + (4 + (kText a b1 c1 gs (1 + q)).length) ≤ 7000000; omega) room_ok.2⟩ (Nat.le_of_ble_eq_true rfl) d_L_law_174 (fun x M2 => ?_)
  refine Go.ofI hK2 ?_
  refine Go.knownI p5 (fun K3 hK3 => ?_)
  refine G_cVI0 gs2 (pc := 177) (As := [.int (nI (kText a b1 c1 gs (1 + q)).length)]) (st := []) cv_L_240 (c_G_loadStation l N hws _ _) (hws.m 0 (Nat.le_of_ble_eq_true rfl)) (hws.k (Nat.le_of_ble_eq_true rfl) (zk0 rr)) rfl (by decide) rfl ⟨(Nat.le_of_ble_eq_true rfl), (Nat.le_of_ble_eq_true rfl)⟩ ⟨Nat.le_trans (by show jd + 2 ≤ 600000; omega) room_ok.1, Nat.le_trans (by show nd + (4 + (kText a b1 c1 gs (1 + q)).length) ≤ 7000000; omega) room_ok.2⟩ (Nat.le_of_ble_eq_true rfl) d_L_law_177 (fun x M2 => ?_)
  refine Go.ofI hK3 ?_
  refine G_iload gs2 (pc := 180) 5 d_L_law_180 rfl ?_
  refine K_icmp_ne_F gs2 (pc := 182) 192 (rfl) d_L_law_182 (by decide) ?_
  refine G_aload_n gs2 (pc := 185) 1 d_L_law_185 rfl rfl ?_
  refine G_xcnt gs2 hP p6 (by omega) hws (by omega) (Nat.le_of_ble_eq_true rfl) d_L_law_186 ?_
  refine K_if_eq_T gs2 (pc := 189) 194 (rfl) d_L_law_189 (by decide) ?_
  refine G_iconst gs2 (pc := 194) (0 : Int32) d_L_law_194 rfl ?_
  refine G_istore gs2 (pc := 195) _ d_L_law_195 (Nat.le_of_ble_eq_true rfl) rfl ?_
  refine G_sub [1, 2, 0] [(0, .ref b), (1, .ref (wad w 0)), (6, .int (0 : Int32))] rfl ?_
  exact law_197 l hP hN had hao hsz hG hX hend 42 0 (jd + 2) _ 0 z9 Ml g0 rfl (by omega) (by omega) (by omega) hws p6
set_option maxHeartbeats 4000000 in
set_option maxRecDepth 100000 in
theorem law_28 (l : Launch) {N rr : Nat} {V : Nat → Mem → Row → Nat → Option Row → Prop} {lst : Row → List Int32} {actR : Row → Int32 → Row} (hP : PK N rr V lst actR) (hN : 400 < N) {p : Program} {e : Env} {s : State} {m : MethodId} {args : Array Value} {below : List Frame} {meth : Method} {c : Code} {w : Wc} (had : Ad w) (hao : AO s) (hsz : s.heap.size = wlo w) (hG : ∀ j z, j ≤ 900 → Gd p s m args meth c (wg w j z) 11 b_L_law "KiteLoggerLaw") {b Lx : Nat} {xs : Nat → Int32} (hX : LX s w b Lx xs) {Qf : Unit → State → Prop} (hend : ∀ j z n L M, j < 900 → n ≤ 1000000 → Go p l e room_1 s m args below meth c (wg w j z) 11 j n Qf (some ()) 445 L [.int 1] M) (hPL : PL N rr V) {v : Int32} {n : Nat} {z : Shp} {M : Mem} (hn : n ≤ 10000) (hS : SBS z M 148 147 21 (txS 9)) (hF : SFr zB MB z M) : Go p l e room_1 s m args below meth c (wg w 148 z) 11 148 n Qf (some ()) 28 [(0, .ref b), (1, .ref (wad w 0)), (2, .ref (wad w 145)), (3, .int v)] [.ref (wad w 146)] M := by
  have g := hG 148 z (by omega)
  obtain ⟨l9, l10, l11⟩ := lenS_9
  have x0 : (txS 9).length = 5 := by rw [txS_len]; exact l9
  refine G_iconst g (pc := 28) (1 : Int32) d_L_law_28 rfl ?_
  refine G_iload_n g (pc := 29) 3 d_L_law_29 rfl rfl ?_
  refine G_iconst g (pc := 30) (4 : Int32) d_L_law_30 rfl ?_
  refine G_xmost g (rr := rr) (SFr.wk hF (by omega)) (v) (mm := 4) (by decide) (by decide) (by omega) (by omega) (Nat.le_of_ble_eq_true rfl) d_L_law_31 (fun q1 hq1 => ?_)
  refine G_iadd g (pc := 34) d_L_law_34 ?_
  refine Go.top (y := nI (1 + q1)) (nI_add 1 q1) ?_
  refine G_xapi g had hao hsz hS (by decide) (by omega) (v := 1 + q1) (by omega) (by omega) (by omega) (Nat.le_of_ble_eq_true rfl) d_L_law_35 (fun ja za na Ma ba ma aa ca ea fa hSa hGa => ?_)
  have hFa := hF.trans hGa
  have ga := hG ja za (by omega)
  have x1 : (txS 9 ++ decs (1 + q1)).length = 6 := by rw [List.length_append, x0, decs_1 (by omega)]
  refine G_bipush ga (pc := 38) (32 : Int32) d_L_law_38 rfl ?_
  refine G_xapc ga had hao hsz hSa fa (by omega) (v := 32) (by decide) (by omega) (by omega) (Nat.le_of_ble_eq_true rfl) d_L_law_40 (fun jb zb nb Mb bb mb ab cb eb fb hSb hGb => ?_)
  have hFb := hFa.trans hGb
  have gb := hG jb zb (by omega)
  have x2 : ((txS 9 ++ decs (1 + q1)) ++ [32]).length = 7 := by rw [List.length_append, x1]; rfl
  refine G_iconst gb (pc := 43) (1 : Int32) d_L_law_43 rfl ?_
  refine G_iload_n gb (pc := 44) 3 d_L_law_44 rfl rfl ?_
  refine G_iconst gb (pc := 45) (2 : Int32) d_L_law_45 rfl ?_
  refine G_ishr gb (pc := 46) d_L_law_46 ?_
  refine G_bipush gb (pc := 47) (80 : Int32) d_L_law_47 rfl ?_
  refine G_xmost gb (rr := rr) (SFr.wk hFb (by omega)) (v >>> ((2 : Int32) &&& 31)) (mm := 80) (by decide) (by decide) (by omega) (by omega) (Nat.le_of_ble_eq_true rfl) d_L_law_49 (fun q2 hq2 => ?_)
  refine G_iadd gb (pc := 52) d_L_law_52 ?_
  refine Go.top (y := nI (1 + q2)) (nI_add 1 q2) ?_
  refine G_xapi gb had hao hsz hSb fb (by omega) (v := 1 + q2) (by omega) (by omega) (by omega) (Nat.le_of_ble_eq_true rfl) d_L_law_53 (fun jd zd nd Md bd md ad cd ed fd hSd hGd => ?_)
  have hFd := hFb.trans hGd
  have gd := hG jd zd (by omega)
  have x3 : (((txS 9 ++ decs (1 + q1)) ++ [32]) ++ decs (1 + q2)).length ≤ 9 := by have := decs_2 (v := 1 + q2) (by omega); rw [List.length_append, x2]; omega
  refine G_bipush gd (pc := 56) (32 : Int32) d_L_law_56 rfl ?_
  refine G_xapc gd had hao hsz hSd fd (by omega) (v := 32) (by decide) (by omega) (by omega) (Nat.le_of_ble_eq_true rfl) d_L_law_58 (fun ji zi ni Mi bi mi ai ci ei fi hSi hGi => ?_)
  have hFi := hFd.trans hGi
  have gi := hG ji zi (by omega)
  have x4 : ((((txS 9 ++ decs (1 + q1)) ++ [32]) ++ decs (1 + q2)) ++ [32]).length ≤ 10 := by rw [List.length_append]; exact Nat.add_le_add x3 (Nat.le_refl 1)
  refine G_iconst gi (pc := 61) (1 : Int32) d_L_law_61 rfl ?_
  refine G_iload_n gi (pc := 62) 3 d_L_law_62 rfl rfl ?_
  refine G_iconst gi (pc := 63) (3 : Int32) d_L_law_63 rfl ?_
  refine G_ishr gi (pc := 64) d_L_law_64 ?_
  refine G_sipush gi (pc := 65) (300 : Int32) d_L_law_65 rfl ?_
  refine G_xmost gi (rr := rr) (SFr.wk hFi (by omega)) (v >>> ((3 : Int32) &&& 31)) (mm := 300) (by decide) (by decide) (by omega) (by omega) (Nat.le_of_ble_eq_true rfl) d_L_law_68 (fun q3 hq3 => ?_)
  refine G_iadd gi (pc := 71) d_L_law_71 ?_
  refine Go.top (y := nI (1 + q3)) (nI_add 1 q3) ?_
  refine G_xapi gi had hao hsz hSi fi (by omega) (v := 1 + q3) (by omega) (by omega) (by omega) (Nat.le_of_ble_eq_true rfl) d_L_law_72 (fun jk zk nk Mk bk mk ak ck ek fk hSk hGk => ?_)
  have hFk := hFi.trans hGk
  have gk := hG jk zk (by omega)
  have x5 : (((((txS 9 ++ decs (1 + q1)) ++ [32]) ++ decs (1 + q2)) ++ [32]) ++ decs (1 + q3)).length ≤ 13 := by have := (decs_le (1 + q3)).2; rw [List.length_append]; omega
  refine G_ldcS gk (pc := 75) 10 (List.elem_iff.mp (by decide +kernel)) d_L_law_75 ?_
  refine G_xaps gk had hao hsz hSk fk (i := 10) (by decide) (by rw [l10]; omega) (by omega) (by omega) (Nat.le_of_ble_eq_true rfl) d_L_law_77 (fun jo zo no Mo bo mo ao co eo fo hSo hGo => ?_)
  have hFo := hFk.trans hGo
  have go := hG jo zo (by omega)
  have x6 : ((((((txS 9 ++ decs (1 + q1)) ++ [32]) ++ decs (1 + q2)) ++ [32]) ++ decs (1 + q3)) ++ txS 10).length ≤ 19 := by rw [List.length_append, txS_len, l10]; omega
  refine G_astore go (pc := 80) _ d_L_law_80 (Nat.le_of_ble_eq_true rfl) rfl ?_
  refine G_iconst go (pc := 82) (1 : Int32) d_L_law_82 rfl ?_
  refine G_iload_n go (pc := 83) 4 d_L_law_83 rfl rfl ?_
  refine G_iconst go (pc := 84) (4 : Int32) d_L_law_84 rfl ?_
  refine G_ishr go (pc := 85) d_L_law_85 ?_
  refine G_bipush go (pc := 86) (8 : Int32) d_L_law_86 rfl ?_
  refine G_xmost go (rr := rr) (SFr.wk hFo (by omega)) (v >>> ((4 : Int32) &&& 31)) (mm := 8) (by decide) (by decide) (by omega) (by omega) (Nat.le_of_ble_eq_true rfl) d_L_law_88 (fun q4 hq4 => ?_)
  refine G_iadd go (pc := 91) d_L_law_91 ?_
  refine Go.top (y := nI (1 + q4)) (nI_add 1 q4) ?_
  refine G_istore go (pc := 92) _ d_L_law_92 (Nat.le_of_ble_eq_true rfl) rfl ?_
  refine G_iconst go (pc := 94) (0 : Int32) d_L_law_94 rfl ?_
  refine G_istore go (pc := 95) _ d_L_law_95 (Nat.le_of_ble_eq_true rfl) rfl ?_
  refine G_sub [3, 4, 5, 6, 2, 1, 0] [(0, .ref b), (1, .ref (wad w 0)), (2, .ref (wad w 145)), (3, .int v), (4, .ref (wad w 146)), (5, .int (nI (1 + q4))), (6, .int (0 : Int32))] rfl ?_
  refine law_97 l hP hN had hao hsz hG hX hend (v := v) (gc := 1 + q4) (X := ((((((txS 9 ++ decs (1 + q1)) ++ [32]) ++ decs (1 + q2)) ++ [32]) ++ decs (1 + q3)) ++ txS 10)) (by omega) x6 (fun j z n M b2 mc gs h1 h2 h3 h4 h5 h6 h7 h8 => ?_) (1 + q4) 0 jo no zo Mo bo mo [] (by omega) rfl (fun g hg => absurd hg List.not_mem_nil) (by omega) (by omega) (by omega) fo (by show SBS zo Mo jo bo mo (_ ++ []); rw [List.append_nil]; exact hSo) hFo
  rw [← h1]
  exact law_136 l hP hN had hao hsz hG hX hend hPL (by omega) (by omega) (by omega) (by omega) h2 h3 (by omega) (by omega) h6 x6 h7 h8
