/-! the law: the text, from the entry to its first loop -/
theorem cj_W_211 : Cond.methodLink "KiteLoggerLaw" 211 y_sbi ∈ TT ∧ CIW y_sbi b_sbi 2 1 := ⟨TT_in (i := 1133) (by decide +kernel) (by decide +kernel), TT_in (i := 1134) (by decide +kernel) (by decide +kernel), TT_in (i := 31) (by decide +kernel) (by decide +kernel), TT_in (i := 1135) (by decide +kernel) (by decide +kernel), ⟨by decide +kernel, by decide +kernel, by decide +kernel⟩⟩
theorem cj_W_214 : CV "KiteLoggerLaw" 214 y_sapi b_sapi 2 (some (.object "java/lang/StringBuilder")) 1 := ⟨TT_in (i := 1276) (by decide +kernel) (by decide +kernel), TT_in (i := 1277) (by decide +kernel) (by decide +kernel), TT_in (i := 1278) (by decide +kernel) (by decide +kernel), TT_in (i := 31) (by decide +kernel) (by decide +kernel), TT_in (i := 1279) (by decide +kernel) (by decide +kernel), ⟨by decide +kernel, by decide +kernel, by decide +kernel⟩⟩
theorem cj_W_218 : CV "KiteLoggerLaw" 218 y_sapc b_sapc 2 (some (.object "java/lang/StringBuilder")) 1 := ⟨TT_in (i := 1263) (by decide +kernel) (by decide +kernel), TT_in (i := 1264) (by decide +kernel) (by decide +kernel), TT_in (i := 1265) (by decide +kernel) (by decide +kernel), TT_in (i := 31) (by decide +kernel) (by decide +kernel), TT_in (i := 1266) (by decide +kernel) (by decide +kernel), ⟨by decide +kernel, by decide +kernel, by decide +kernel⟩⟩
theorem cj_W_223 : CV "KiteLoggerLaw" 223 y_saps b_saps 2 (some (.object "java/lang/StringBuilder")) 1 := ⟨TT_in (i := 1262) (by decide +kernel) (by decide +kernel), TT_in (i := 1158) (by decide +kernel) (by decide +kernel), TT_in (i := 1159) (by decide +kernel) (by decide +kernel), TT_in (i := 31) (by decide +kernel) (by decide +kernel), TT_in (i := 1160) (by decide +kernel) (by decide +kernel), ⟨by decide +kernel, by decide +kernel, by decide +kernel⟩⟩
theorem cj_W_228 : CV "KiteLoggerLaw" 228 y_tst b_tst 1 (some (.object "java/lang/String")) 0 := ⟨TT_in (i := 1301) (by decide +kernel) (by decide +kernel), TT_in (i := 1302) (by decide +kernel) (by decide +kernel), TT_in (i := 1303) (by decide +kernel) (by decide +kernel), TT_in (i := 31) (by decide +kernel) (by decide +kernel), TT_in (i := 1304) (by decide +kernel) (by decide +kernel), ⟨by decide +kernel, by decide +kernel, by decide +kernel⟩⟩
theorem ci_L_202 : (Cond.methodLink "KiteLoggerLaw" 202 y_G_init ∈ TT ∨ ∃ host, Cond.methodLinkNest "KiteLoggerLaw" 202 y_G_init host ∈ NW) ∧ CIW y_G_init b_G_init 1 0 := ⟨Or.inl (TT_in (i := 47) (by decide +kernel) (by decide +kernel)), TT_in (i := 48) (by decide +kernel) (by decide +kernel), TT_in (i := 18) (by decide +kernel) (by decide +kernel), TT_in (i := 49) (by decide +kernel) (by decide +kernel), ⟨by decide +kernel, by decide +kernel, by decide +kernel⟩⟩
theorem and31 (v : Int32) : ∃ n, n < 2 ^ 31 ∧ v &&& (2147483647 : Int32) = nI n := by
  refine ⟨(v &&& (2147483647 : Int32)).toBitVec.toNat, ?_, ?_⟩
  · rw [Int32.toBitVec_and, BitVec.toNat_and]
    exact Nat.lt_of_le_of_lt Nat.and_le_right (by decide)
  · apply Int32.toBitVec_inj.mp
    show _ = BitVec.ofNat 32 _
    rw [BitVec.ofNat_toNat]
    simp
theorem most_nI (v : Int32) {mm : Nat} (h1 : 1 ≤ mm) (h2 : mm ≤ 1000) (M : Mem) : ∃ k, k < mm ∧ f_L_most v (nI mm) M = some (nI k, M) := by
  obtain ⟨n, hn, e⟩ := and31 v
  refine ⟨n % mm, Nat.mod_lt _ h1, ?_⟩
  unfold f_L_most
  rw [e, irm_nI hn (by omega) (by omega)]
  have hz : nzB (nI mm) = true := by
    unfold nzB
    simp only [Bool.not_eq_true', decide_eq_false_iff_not]
    intro h
    have := (nI_eq (by omega) (by decide)).mp (show nI mm = nI 0 from h)
    omega
  rw [grd_t hz]
def gsT : List Nat → List Nat
  | [] => []
  | g :: t => [32] ++ decs g ++ gsT t
theorem gsT_snoc (g : Nat) : ∀ l : List Nat, gsT (l ++ [g]) = gsT l ++ [32] ++ decs g
  | [] => by show [32] ++ decs g ++ [] = [] ++ [32] ++ decs g; simp
  | h :: t => by
    show [32] ++ decs h ++ gsT (t ++ [g]) = [32] ++ decs h ++ gsT t ++ [32] ++ decs g
    rw [gsT_snoc g t]
    simp
theorem gsT_len : ∀ l : List Nat, (gsT l).length ≤ 4 * l.length
  | [] => Nat.le_refl _
  | h :: t => by
    have h1 := gsT_len t
    have h2 := decs_le h
    show ([32] ++ decs h ++ gsT t).length ≤ _
    simp only [List.length_append, List.length_cons, List.length_nil]
    omega
def kText (a b c : Nat) (gs : List Nat) (i : Nat) : List Nat := (((((((((txS 9 ++ decs a) ++ [32]) ++ decs b) ++ [32]) ++ decs c) ++ txS 10) ++ gsT gs) ++ txS 11) ++ decs i) ++ [59]
/-- what the pure level shows of the station's text -/
def PL (N rr : Nat) (V : Nat → Mem → Row → Nat → Option Row → Prop) : Prop := ∀ (a b c : Nat) (gs : List Nat) (i : Nat), 1 ≤ a → a ≤ 4 → 1 ≤ b → b ≤ 80 → 1 ≤ c → c ≤ 300 → 1 ≤ gs.length → gs.length ≤ 8 → (∀ g ∈ gs, 2 ≤ g ∧ g ≤ 14) → 1 ≤ i → i ≤ 4 → ∀ M0 : Mem, (∀ p, p < 145 → M0 p = mS p) → M0 145 = (fun _ => 0) →
  ∃ (Ms : Nat → Mem) (Me Ml : Mem) (g0 : Row), Ms 0 = M0 ∧ (∀ k, k < (kText a b c gs i).length → f_L_add N rr (nI ((kText a b c gs i).getD k 0)) (Ms k) = some (Ms (k + 1))) ∧ (∀ k, k ≤ (kText a b c gs i).length → ∀ p, 146 ≤ p → Ms k p = M0 p) ∧ f_L_end N rr (Ms (kText a b c gs i).length) = some (nI (kText a b c gs i).length, Me) ∧ f_G_loadStation N rr (nI (kText a b c gs i).length) Me = some (nI gs.length, Ml) ∧ V 0 Ml g0 0 none
theorem nc_le {q m : Nat} (hm : m ≤ 200) (hq : q ≤ 66) : nc q m ≤ 200 := by
  unfold nc
  split
  · exact hm
  · omega
theorem gr_le {q m : Nat} : gr q m ≤ 1 := by unfold gr; split <;> omega
theorem gs_le {q m : Nat} (hm : m ≤ 200) (hq : q ≤ 66) : gs q m ≤ 200 := by
  unfold gs
  split
  · omega
  · exact nc_le hm hq
section LE
variable {ρ : Type} {p : Program} {l : Launch} {e : Env} {s : State} {m : MethodId} {args : Array Value} {below : List Frame} {meth : Method} {c : Code} {w : Wc} {nL n j b mc : Nat} {z : Shp} {Qf : ρ → State → Prop} {cc : ByteArray} {x : List Nat}
theorem G_xmost {rr : Nat} (g : Gd p s m args meth c (wg w j z) nL cc "KiteLoggerLaw") (hw : WK (wg w j z) rr) (v : Int32) {mm : Nat} (h1 : 1 ≤ mm) (h2 : mm ≤ 1000) (hj : j ≤ 900) (hn : n ≤ 1000000) {pc : Nat} {L : List (Nat × Value)} {st : List Value} {M : Mem} {r0 : ρ} (hs : (st.map fun v => v.category).sum ≤ 8) (d : decode cc pc = .ok (.invokestatic 175, 3)) (kk : ∀ k, k < mm → Go p l e room_1 s m args below meth c (wg w j z) nL j n Qf (some r0) (pc + 3) L (.int (nI k) :: st) M) : Go p l e room_1 s m args below meth c (wg w j z) nL j n Qf (some r0) pc L (.int (nI mm) :: .int v :: st) M := by
  obtain ⟨k, hk, hf⟩ := most_nI v h1 h2 M
  refine Go.knownI hf (fun K hK => ?_)
  refine G_cSI0 g (pc := pc) (As := [.int v, .int (nI mm)]) (st := st) cc_L_175 (c_L_most l hw v (nI mm) M) rfl ⟨(Nat.le_of_ble_eq_true rfl), (Nat.le_of_ble_eq_true rfl)⟩ ⟨Nat.le_trans (by show j ≤ 600000; omega) room_ok.1, Nat.le_trans (by show n ≤ 7000000; omega) room_ok.2⟩ hs d (fun x M2 => ?_)
  exact Go.ofI hK (kk k hk)
theorem G_xapi (g : Gd p s m args meth c (wg w j z) nL cc "KiteLoggerLaw") (had : Ad w) (hao : AO s) (hsz : s.heap.size = wlo w) {M : Mem} (h : SBS z M j b mc x) (hm : mc ≤ 200) (hx : x.length ≤ 60) {v : Nat} (hv : v < 1000) (hj : j < 190) (hn : n ≤ 100000) {pc : Nat} {L : List (Nat × Value)} {st : List Value} {o : Option ρ} (hs : (st.map fun v => v.category).sum ≤ 8) (d : decode cc pc = .ok (.invokevirtual 214, 3)) (kk : ∀ (j2 : Nat) (z2 : Shp) (n2 : Nat) (M2 : Mem) (b2 m2 : Nat), j ≤ j2 → j2 ≤ j + 1 → n2 ≤ n + 200 → m2 ≤ 200 → SBS z2 M2 j2 b2 m2 (x ++ decs v) → SFr z M z2 M2 → Go p l e room_1 s m args below meth c (wg w j2 z2) nL j2 n2 Qf o (pc + 3) L (.ref (wad w 146) :: st) M2) : Go p l e room_1 s m args below meth c (wg w j z) nL j n Qf o pc L (.int (nI v) :: .ref (wad w 146) :: st) M := by
  have hd := decs_le v
  have g1 := gr_le (q := x.length + (decs v).length) (m := mc)
  have g2 := gs_le (q := x.length + (decs v).length) hm (by omega)
  have g3 := nc_le (q := x.length + (decs v).length) hm (by omega)
  refine G_gR (RG_V g (pc := pc) (q := 146) (ci := 10) (As := [.int (nI v)]) (st := st) had hao (by omega) (by have := h.1; omega) (by rw [hsz]) cj_W_214 (c_sapi l had M h hv (by omega) (by omega)) (List.mem_range.mpr h.1) h.2.2.2.2.1 rfl (by decide) rfl ⟨(Nat.le_of_ble_eq_true rfl), (Nat.le_of_ble_eq_true rfl)⟩ ⟨Nat.le_trans (by show j + gr (x.length + (decs v).length) mc ≤ 600000; omega) room_ok.1, Nat.le_trans (by show n + gs (x.length + (decs v).length) mc ≤ 7000000; omega) room_ok.2⟩ hs d) (fun z2 M2 hh => ?_)
  exact kk _ z2 _ M2 _ _ (by omega) (by omega) (by show n + gs _ _ ≤ _; omega) g3 hh.1 hh.2
theorem G_xapc (g : Gd p s m args meth c (wg w j z) nL cc "KiteLoggerLaw") (had : Ad w) (hao : AO s) (hsz : s.heap.size = wlo w) {M : Mem} (h : SBS z M j b mc x) (hm : mc ≤ 200) (hx : x.length ≤ 60) {v : Nat} (hv : v < 128) (hj : j < 190) (hn : n ≤ 100000) {pc : Nat} {L : List (Nat × Value)} {st : List Value} {o : Option ρ} (hs : (st.map fun v => v.category).sum ≤ 8) (d : decode cc pc = .ok (.invokevirtual 218, 3)) (kk : ∀ (j2 : Nat) (z2 : Shp) (n2 : Nat) (M2 : Mem) (b2 m2 : Nat), j ≤ j2 → j2 ≤ j + 1 → n2 ≤ n + 200 → m2 ≤ 200 → SBS z2 M2 j2 b2 m2 (x ++ [v]) → SFr z M z2 M2 → Go p l e room_1 s m args below meth c (wg w j2 z2) nL j2 n2 Qf o (pc + 3) L (.ref (wad w 146) :: st) M2) : Go p l e room_1 s m args below meth c (wg w j z) nL j n Qf o pc L (.int (nI v) :: .ref (wad w 146) :: st) M := by
  have g1 := gr_le (q := x.length + 1) (m := mc)
  have g2 := gs_le (q := x.length + 1) hm (by omega)
  have g3 := nc_le (q := x.length + 1) hm (by omega)
  refine G_gR (RG_V g (pc := pc) (q := 146) (ci := 10) (As := [.int (nI v)]) (st := st) had hao (by omega) (by have := h.1; omega) (by rw [hsz]) cj_W_218 (c_sapc l had M h hv (by omega) (by omega)) (List.mem_range.mpr h.1) h.2.2.2.2.1 rfl (by decide) rfl ⟨(Nat.le_of_ble_eq_true rfl), (Nat.le_of_ble_eq_true rfl)⟩ ⟨Nat.le_trans (by show j + gr (x.length + 1) mc ≤ 600000; omega) room_ok.1, Nat.le_trans (by show n + gs (x.length + 1) mc ≤ 7000000; omega) room_ok.2⟩ hs d) (fun z2 M2 hh => ?_)
  exact kk _ z2 _ M2 _ _ (by omega) (by omega) (by show n + gs _ _ ≤ _; omega) g3 hh.1 hh.2
theorem G_xaps (g : Gd p s m args meth c (wg w j z) nL cc "KiteLoggerLaw") (had : Ad w) (hao : AO s) (hsz : s.heap.size = wlo w) {M : Mem} (h : SBS z M j b mc x) (hm : mc ≤ 200) {i : Nat} (hi : i < 12) (hx : x.length + lenS i ≤ 63) (hj : j < 190) (hn : n ≤ 100000) {pc : Nat} {L : List (Nat × Value)} {st : List Value} {o : Option ρ} (hs : (st.map fun v => v.category).sum ≤ 8) (d : decode cc pc = .ok (.invokevirtual 223, 3)) (kk : ∀ (j2 : Nat) (z2 : Shp) (n2 : Nat) (M2 : Mem) (b2 m2 : Nat), j ≤ j2 → j2 ≤ j + 1 → n2 ≤ n + 200 → m2 ≤ 200 → SBS z2 M2 j2 b2 m2 (x ++ txS i) → SFr z M z2 M2 → Go p l e room_1 s m args below meth c (wg w j2 z2) nL j2 n2 Qf o (pc + 3) L (.ref (wad w 146) :: st) M2) : Go p l e room_1 s m args below meth c (wg w j z) nL j n Qf o pc L (.ref (wad w (1000 + i)) :: .ref (wad w 146) :: st) M := by
  have g1 := gr_le (q := x.length + lenS i) (m := mc)
  have g2 := gs_le (q := x.length + lenS i) hm (by omega)
  have g3 := nc_le (q := x.length + lenS i) hm (by omega)
  refine G_gR (RG_V g (pc := pc) (q := 146) (ci := 10) (As := [.ref (wad w (1000 + i))]) (st := st) had hao (by omega) (by have := h.1; omega) (by rw [hsz]) cj_W_223 (c_saps l had M h hi (by omega) (by omega)) (List.mem_range.mpr h.1) h.2.2.2.2.1 rfl (by decide) rfl ⟨(Nat.le_of_ble_eq_true rfl), (Nat.le_of_ble_eq_true rfl)⟩ ⟨Nat.le_trans (by show j + gr (x.length + lenS i) mc ≤ 600000; omega) room_ok.1, Nat.le_trans (by show n + gs (x.length + lenS i) mc ≤ 7000000; omega) room_ok.2⟩ hs d) (fun z2 M2 hh => ?_)
  exact kk _ z2 _ M2 _ _ (by omega) (by omega) (by show n + gs _ _ ≤ _; omega) g3 hh.1 hh.2
end LE
