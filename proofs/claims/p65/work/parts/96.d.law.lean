/-! the law: its loops over all rounds, its end -/
set_option maxHeartbeats 4000000 in
set_option maxRecDepth 100000 in
theorem law_410 (l : Launch) {N rr : Nat} {V : Nat → Mem → Row → Nat → Option Row → Prop} {lst : Row → List Int32} {actR : Row → Int32 → Row} (hP : PK N rr V lst actR) (hN : 400 < N) {p : Program} {e : Env} {s : State} {m : MethodId} {args : Array Value} {below : List Frame} {meth : Method} {c : Code} {w : Wc} (had : Ad w) (hao : AO s) (hsz : s.heap.size = wlo w) (hG : ∀ j z, j ≤ 900 → Gd p s m args meth c (wg w j z) 11 b_L_law "KiteLoggerLaw") {b Lx : Nat} {xs : Nat → Int32} (hX : LX s w b Lx xs) {Qf : Unit → State → Prop} (hend : ∀ j z n L M, j < 900 → n ≤ 1000000 → Go p l e room_1 s m args below meth c (wg w j z) 11 j n Qf (some ()) 445 L [.int 1] M) {i j n ch q0 : Nat} {z : Shp} {M : Mem} {gr g0 : Row} (hj : 145 < j) (hj2 : j < 880) (hn : n ≤ 900000) (hw : WK (wg w j z) rr) (hV : V i M gr ch (some g0)) (h0 : AR z M j q0 (lst g0)) (hl0 : 1 ≤ (lst g0).length ∧ (lst g0).length ≤ 400) : Go p l e room_1 s m args below meth c (wg w j z) 11 j n Qf (some ()) 410 [(0, .ref b), (1, .ref (wad w 0)), (6, .ref (wad w q0))] [] M := by
  have g := hG j z (by omega)
  obtain ⟨M2, hr, hV2, hH2⟩ := hP.rest hV
  refine G_aload_n g (pc := 410) 1 d_L_law_410 rfl rfl ?_
  refine G_xres g hr (by omega) hw (by omega) (Nat.le_of_ble_eq_true rfl) d_L_law_411 ?_
  refine G_aload g (pc := 414) 2 d_L_law_414 rfl ?_
  refine G_iconst g (pc := 416) (0 : Int32) d_L_law_416 rfl ?_
  have h1 := h0.keep hH2
  refine G_ialdK g (pc := 417) 0 (inB_nI (show 0 < (lst g0).length by omega) (by omega)) rfl (List.mem_range.mpr h1.2.1) h1.2.2.1 h1.2.2.2.1 d_L_law_417 ?_
  refine Go.top (y := ((lst g0).getD 0 0)) (h1.2.2.2.2 0 (by omega)) ?_
  refine K_icmp_ne_F g (pc := 418) 444 (rfl) d_L_law_418 (by decide) ?_
  refine G_aload_n g (pc := 421) 1 d_L_law_421 rfl rfl ?_
  refine G_xall g had hao hP hV2 (by omega) (by omega) hw hsz (by omega) (Nat.le_of_ble_eq_true rfl) d_L_law_422 ?_
  have g1 := hG (j + 1) (zfr z j 20 (lst g0).length) (by omega)
  have hw1 : WK (wg w (j + 1) (zfr z j 20 (lst g0).length)) rr := hw.wg (by omega) (fun p hp => if_neg (by omega))
  have hV3 := hP.loc hV2 (M2 := setR M2 j (fun i => (lst g0).getD i 0)) (fun p hp => setR_ne (by omega))
  have A1 : AR (zfr z j 20 (lst g0).length) (setR M2 j (fun i => (lst g0).getD i 0)) (j + 1) j (lst g0) := AR.made (by omega)
  have A0 : AR (zfr z j 20 (lst g0).length) (setR M2 j (fun i => (lst g0).getD i 0)) (j + 1) q0 (lst g0) := h1.grow
  generalize hz1 : zfr z j 20 (lst g0).length = z1 at g1 hw1 A1 A0 ⊢
  generalize hM1 : setR M2 j (fun i => (lst g0).getD i 0) = M1 at hV3 A1 A0 ⊢
  refine G_aload g1 (pc := 425) 2 d_L_law_425 rfl ?_
  refine G_xalk g1 hN (x := lst g0) hl0.2 A1 A0 (by omega) hw1 (by omega) (Nat.le_of_ble_eq_true rfl) d_L_law_427 ?_
  refine K_if_eq_F g1 (pc := 430) 444 (b2i1) d_L_law_430 (by decide) ?_
  refine G_aload_n g1 (pc := 433) 1 d_L_law_433 rfl rfl ?_
  refine G_xcnt g1 hP hV3 (by omega) hw1 (by omega) (Nat.le_of_ble_eq_true rfl) d_L_law_434 ?_
  refine K_if_ne_F g1 (pc := 437) 444 (rfl) d_L_law_437 (by decide) ?_
  refine G_iconst g1 (pc := 440) (1 : Int32) d_L_law_440 rfl ?_
  refine G_goto g1 (pc := 441) 445 d_L_law_441 (by decide) ?_
  exact hend (j + 1) z1 (n + 400) _ M1 (by omega) (by omega)
set_option maxHeartbeats 4000000 in
set_option maxRecDepth 100000 in
theorem law_380 (l : Launch) {N rr : Nat} {V : Nat → Mem → Row → Nat → Option Row → Prop} {lst : Row → List Int32} {actR : Row → Int32 → Row} (hP : PK N rr V lst actR) (hN : 400 < N) {p : Program} {e : Env} {s : State} {m : MethodId} {args : Array Value} {below : List Frame} {meth : Method} {c : Code} {w : Wc} (had : Ad w) (hao : AO s) (hsz : s.heap.size = wlo w) (hG : ∀ j z, j ≤ 900 → Gd p s m args meth c (wg w j z) 11 b_L_law "KiteLoggerLaw") {b Lx : Nat} {xs : Nat → Int32} (hX : LX s w b Lx xs) {Qf : Unit → State → Prop} (hend : ∀ j z n L M, j < 900 → n ≤ 1000000 → Go p l e room_1 s m args below meth c (wg w j z) 11 j n Qf (some ()) 445 L [.int 1] M) {q0 j n : Nat} {z : Shp} {g0 : Row} (hj : 145 < j) (hj2 : j < 880) (hn : n ≤ 900000) (hw : WK (wg w j z) rr) (hl0 : 1 ≤ (lst g0).length ∧ (lst g0).length ≤ 400) : ∀ (d k i ch : Nat) (M : Mem) (gr : Row), k + d = 5 → i + d ≤ 100 → V i M gr ch (some g0) → AR z M j q0 (lst g0) → Go p l e room_1 s m args below meth c (wg w j z) 11 j n Qf (some ()) 380 [(0, .ref b), (1, .ref (wad w 0)), (6, .ref (wad w q0)), (7, .int (nI k))] [] M := by
  have g := hG j z (by omega)
  intro d
  induction d with
  | zero =>
    intro k i ch M gr hk hi hV h0
    refine G_iload g (pc := 380) 3 d_L_law_380 rfl ?_
    refine G_iconst g (pc := 382) (5 : Int32) d_L_law_382 rfl ?_
    refine K_icmp_ge_T g (pc := 383) 410 ((show nI 5 ≤ nI k from nI_le (by omega) (by omega))) d_L_law_383 (by decide) ?_
    exact G_sub [0, 1, 2] _ rfl (law_410 l hP hN had hao hsz hG hX hend hj hj2 hn hw hV h0 hl0)
  | succ d ih =>
    intro k i ch M gr hk hi hV h0
    refine G_iload g (pc := 380) 3 d_L_law_380 rfl ?_
    refine G_iconst g (pc := 382) (5 : Int32) d_L_law_382 rfl ?_
    refine K_icmp_ge_F g (pc := 383) 410 ((Int32.not_le.mpr (show nI k < nI 5 from nI_lt (by omega) (by decide)))) d_L_law_383 (by decide) ?_
    refine G_aload_n g (pc := 386) 1 d_L_law_386 rfl rfl ?_
    refine G_aload_n g (pc := 387) 0 d_L_law_387 rfl rfl ?_
    refine G_bipush g (pc := 388) (36 : Int32) d_L_law_388 rfl ?_
    refine G_iload g (pc := 390) 3 d_L_law_390 rfl ?_
    refine G_iadd g (pc := 392) d_L_law_392 ?_
    refine Go.top (y := nI (36 + k)) (nI_add 36 k) ?_
    refine G_cell (l := l) g hX (by omega) ⟨(Nat.le_of_ble_eq_true rfl), (Nat.le_of_ble_eq_true rfl)⟩ ⟨Nat.le_trans (by show j ≤ 600000; omega) room_ok.1, Nat.le_trans (by show n ≤ 7000000; omega) room_ok.2⟩ (Nat.le_of_ble_eq_true rfl) d_L_law_393 ?_
    obtain ⟨M2, c2, ha, hV2, hH2, -, -⟩ := hP.act hV (by omega) (cellV Lx xs (36 + k))
    refine G_xact g ha (by omega) hw (by omega) (Nat.le_of_ble_eq_true rfl) d_L_law_396 ?_
    refine K_if_ne_T g (pc := 399) 404 (b2i1) d_L_law_399 (by decide) ?_
    refine G_iinc g (pc := 404) (nI (k + 1)) _ 3 d_L_law_404 rfl ((nI_add k 1)) (Nat.le_of_ble_eq_true rfl) rfl ?_
    refine G_sub [1, 2, 3, 0] [(0, .ref b), (1, .ref (wad w 0)), (6, .ref (wad w q0)), (7, .int (nI (k + 1)))] rfl ?_
    refine G_goto g (pc := 407) 380 d_L_law_407 (by decide) ?_
    exact ih (k + 1) (i + 1) c2 M2 _ (by omega) (by omega) hV2 (h0.keep hH2)
set_option maxHeartbeats 4000000 in
set_option maxRecDepth 100000 in
theorem law_367 (l : Launch) {N rr : Nat} {V : Nat → Mem → Row → Nat → Option Row → Prop} {lst : Row → List Int32} {actR : Row → Int32 → Row} (hP : PK N rr V lst actR) (hN : 400 < N) {p : Program} {e : Env} {s : State} {m : MethodId} {args : Array Value} {below : List Frame} {meth : Method} {c : Code} {w : Wc} (had : Ad w) (hao : AO s) (hsz : s.heap.size = wlo w) (hG : ∀ j z, j ≤ 900 → Gd p s m args meth c (wg w j z) 11 b_L_law "KiteLoggerLaw") {b Lx : Nat} {xs : Nat → Int32} (hX : LX s w b Lx xs) {Qf : Unit → State → Prop} (hend : ∀ j z n L M, j < 900 → n ≤ 1000000 → Go p l e room_1 s m args below meth c (wg w j z) 11 j n Qf (some ()) 445 L [.int 1] M) {i j n ch : Nat} {z : Shp} {M : Mem} {gr : Row} {sn : Option Row} (hi : i + 5 ≤ 100) (hj : 145 < j) (hj2 : j < 870) (hn : n ≤ 800000) (hw : WK (wg w j z) rr) (hV : V i M gr ch sn) : Go p l e room_1 s m args below meth c (wg w j z) 11 j n Qf (some ()) 367 [(0, .ref b), (1, .ref (wad w 0))] [] M := by
  have g := hG j z (by omega)
  have hl := hP.len hV
  obtain ⟨M2, hs, hV2, hH2⟩ := hP.save hV
  refine G_aload_n g (pc := 367) 1 d_L_law_367 rfl rfl ?_
  refine G_xsav g hs (by omega) hw (by omega) (Nat.le_of_ble_eq_true rfl) d_L_law_368 ?_
  refine G_aload_n g (pc := 371) 1 d_L_law_371 rfl rfl ?_
  refine G_xall g had hao hP hV2 (by omega) (by omega) hw hsz (by omega) (Nat.le_of_ble_eq_true rfl) d_L_law_372 ?_
  have g1 := hG (j + 1) (zfr z j 20 (lst gr).length) (by omega)
  have hw1 : WK (wg w (j + 1) (zfr z j 20 (lst gr).length)) rr := hw.wg (by omega) (fun p hp => if_neg (by omega))
  have hV3 := hP.loc hV2 (M2 := setR M2 j (fun i => (lst gr).getD i 0)) (fun p hp => setR_ne (by omega))
  have A1 : AR (zfr z j 20 (lst gr).length) (setR M2 j (fun i => (lst gr).getD i 0)) (j + 1) j (lst gr) := AR.made (by omega)
  refine G_astore g1 (pc := 375) _ d_L_law_375 (Nat.le_of_ble_eq_true rfl) rfl ?_
  refine G_iconst g1 (pc := 377) (0 : Int32) d_L_law_377 rfl ?_
  refine G_istore g1 (pc := 378) _ d_L_law_378 (Nat.le_of_ble_eq_true rfl) rfl ?_
  refine G_sub [2, 3, 1, 0] [(0, .ref b), (1, .ref (wad w 0)), (6, .ref (wad w j)), (7, .int (0 : Int32))] rfl ?_
  exact law_380 l hP hN had hao hsz hG hX hend (by omega) (by omega) (by omega) hw1 hl 5 0 i ch _ gr rfl (by omega) hV3 A1
set_option maxHeartbeats 4000000 in
set_option maxRecDepth 100000 in
theorem law_197 (l : Launch) {N rr : Nat} {V : Nat → Mem → Row → Nat → Option Row → Prop} {lst : Row → List Int32} {actR : Row → Int32 → Row} (hP : PK N rr V lst actR) (hN : 400 < N) {p : Program} {e : Env} {s : State} {m : MethodId} {args : Array Value} {below : List Frame} {meth : Method} {c : Code} {w : Wc} (had : Ad w) (hao : AO s) (hsz : s.heap.size = wlo w) (hG : ∀ j z, j ≤ 900 → Gd p s m args meth c (wg w j z) 11 b_L_law "KiteLoggerLaw") {b Lx : Nat} {xs : Nat → Int32} (hX : LX s w b Lx xs) {Qf : Unit → State → Prop} (hend : ∀ j z n L M, j < 900 → n ≤ 1000000 → Go p l e room_1 s m args below meth c (wg w j z) 11 j n Qf (some ()) 445 L [.int 1] M) {sn : Option Row} : ∀ (d k j n ch : Nat) (z : Shp) (M : Mem) (gr : Row), k + d = 42 → 145 < j → j ≤ 200 + 4 * k → n ≤ 100000 + 1600 * k → WK (wg w j z) rr → V (2 * k) M gr ch sn → Go p l e room_1 s m args below meth c (wg w j z) 11 j n Qf (some ()) 197 [(0, .ref b), (1, .ref (wad w 0)), (6, .int (nI k))] [] M := by
  intro d
  induction d with
  | zero =>
    intro k j n ch z M gr hk hj hj2 hn hw hV
    have g := hG j z (by omega)
    refine G_iload g (pc := 197) 2 d_L_law_197 rfl ?_
    refine G_bipush g (pc := 199) (42 : Int32) d_L_law_199 rfl ?_
    refine K_icmp_ge_T g (pc := 201) 367 ((show nI 42 ≤ nI k from nI_le (by omega) (by omega))) d_L_law_201 (by decide) ?_
    exact G_sub [0, 1] _ rfl (law_367 l hP hN had hao hsz hG hX hend (i := 2 * k) (by omega) (by omega) (by omega) (by omega) hw hV)
  | succ d ih =>
    intro k j n ch z M gr hk hj hj2 hn hw hV
    have g := hG j z (by omega)
    have h361 : ∀ (j2 : Nat) (z2 : Shp) (n2 : Nat) (M2 : Mem) (g2 : Row) (c2 : Nat), 145 < j2 → j2 ≤ j + 4 → n2 ≤ n + 1600 → WK (wg w j2 z2) rr → V (2 * k + 2) M2 g2 c2 sn → Go p l e room_1 s m args below meth c (wg w j2 z2) 11 j2 n2 Qf (some ()) 361 [(0, .ref b), (1, .ref (wad w 0)), (6, .int (nI k))] [] M2 := by
      intro j2 z2 n2 M2 g2 c2 k1 k2 k3 k4 k5
      have g := hG j2 z2 (by omega)
      refine G_iinc g (pc := 361) (nI (k + 1)) _ 2 d_L_law_361 rfl ((nI_add k 1)) (Nat.le_of_ble_eq_true rfl) rfl ?_
      refine G_sub [1, 2, 0] [(0, .ref b), (1, .ref (wad w 0)), (6, .int (nI (k + 1)))] rfl ?_
      refine G_goto g (pc := 364) 197 d_L_law_364 (by decide) ?_
      exact ih (k + 1) j2 n2 c2 z2 M2 g2 (by omega) k1 (by omega) (by omega) k4 (by rw [show 2 * (k + 1) = 2 * k + 2 by omega]; exact k5)
    refine G_iload g (pc := 197) 2 d_L_law_197 rfl ?_
    refine G_bipush g (pc := 199) (42 : Int32) d_L_law_199 rfl ?_
    refine K_icmp_ge_F g (pc := 201) 367 ((Int32.not_le.mpr (show nI k < nI 42 from nI_lt (by omega) (by decide)))) d_L_law_201 (by decide) ?_
    refine G_aload_n g (pc := 204) 0 d_L_law_204 rfl rfl ?_
    refine G_bipush g (pc := 205) (8 : Int32) d_L_law_205 rfl ?_
    refine G_iload g (pc := 207) 2 d_L_law_207 rfl ?_
    refine G_bipush g (pc := 209) (28 : Int32) d_L_law_209 rfl ?_
    refine G_iremK g (pc := 211) (by decide) d_L_law_211 ?_
    refine Go.top (y := nI (k % 28)) (irm_nI (d := 28) (by omega) (by decide) (by decide)) ?_
    refine G_iadd g (pc := 212) d_L_law_212 ?_
    refine Go.top (y := nI (8 + k % 28)) (nI_add 8 _) ?_
    refine G_cell (l := l) g hX (by omega) ⟨(Nat.le_of_ble_eq_true rfl), (Nat.le_of_ble_eq_true rfl)⟩ ⟨Nat.le_trans (by show j ≤ 600000; omega) room_ok.1, Nat.le_trans (by show n ≤ 7000000; omega) room_ok.2⟩ (Nat.le_of_ble_eq_true rfl) d_L_law_213 ?_
    refine G_iload g (pc := 216) 2 d_L_law_216 rfl ?_
    refine G_bipush g (pc := 218) (28 : Int32) d_L_law_218 rfl ?_
    refine G_idivK g (pc := 220) (by decide) d_L_law_220 ?_
    refine G_iconst g (pc := 221) (2 : Int32) d_L_law_221 rfl ?_
    refine G_imul g (pc := 222) d_L_law_222 ?_
    refine G_ishr g (pc := 223) d_L_law_223 ?_
    refine G_istore g (pc := 224) _ d_L_law_224 (Nat.le_of_ble_eq_true rfl) rfl ?_
    refine G_sub [1, 2, 3, 0] [(0, .ref b), (1, .ref (wad w 0)), (6, .int (nI k)), (7, .int ((cellV Lx xs (8 + k % 28)) >>> ((((nI k) / (28 : Int32)) * (2 : Int32)) &&& 31)))] rfl ?_
    refine G_iload g (pc := 226) 2 d_L_law_226 rfl ?_
    refine G_iconst g (pc := 228) (2 : Int32) d_L_law_228 rfl ?_
    refine G_iremK g (pc := 229) (by decide) d_L_law_229 ?_
    refine H_ifne g (pc := 230) 242 d_L_law_230 (by decide) (fun _ => law_242 l hP hN had hao hsz hG hX hend (i := 2 * k) (by omega) hj (by omega) (by omega) hw hV h361) (fun _ => ?_)
    refine G_aload_n g (pc := 233) 1 d_L_law_233 rfl rfl ?_
    obtain ⟨M2, hs, hV2, hH2⟩ := hP.isSt hV (by omega)
    refine G_xst g hs (by omega) hw (by omega) (Nat.le_of_ble_eq_true rfl) d_L_law_234 ?_
    refine K_if_ne_T g (pc := 237) 242 (b2i1) d_L_law_237 (by decide) ?_
    exact law_242 l hP hN had hao hsz hG hX hend (i := 2 * k) (by omega) hj (by omega) (by omega) hw hV2 h361
