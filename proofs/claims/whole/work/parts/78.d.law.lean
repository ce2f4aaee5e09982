/-! more cases -/
theorem d_W_892 : decode code 892 = .ok (.aload_n 1, 1) := by decide +kernel
theorem d_W_893 : decode code 893 = .ok (.invokevirtual 196, 3) := by decide +kernel
theorem d_W_896 : decode code 896 = .ok (.aload_n 2, 1) := by decide +kernel
theorem d_W_897 : decode code 897 = .ok (.invokevirtual 199, 3) := by decide +kernel
theorem d_W_900 : decode code 900 = .ok (.if_icmp .eq 1395, 3) := by decide +kernel
theorem cc_L_196 : CV "KiteLoggerLaw" 196 y_G_launches b_G_launches 1 (some .int) 0 := ⟨TT_in (i := 588) (by decide +kernel) (by decide +kernel), TT_in (i := 589) (by decide +kernel) (by decide +kernel), TT_in (i := 590) (by decide +kernel) (by decide +kernel), TT_in (i := 88) (by decide +kernel) (by decide +kernel), TT_in (i := 591) (by decide +kernel) (by decide +kernel), ⟨by decide +kernel, by decide +kernel, by decide +kernel⟩⟩
theorem cc_L_199 : CV "KiteLoggerLaw" 199 y_M_launches b_M_launches 1 (some .int) 0 := ⟨TT_in (i := 1564) (by decide +kernel) (by decide +kernel), TT_in (i := 1565) (by decide +kernel) (by decide +kernel), TT_in (i := 1566) (by decide +kernel) (by decide +kernel), TT_in (i := 100) (by decide +kernel) (by decide +kernel), TT_in (i := 1567) (by decide +kernel) (by decide +kernel), ⟨by decide +kernel, by decide +kernel, by decide +kernel⟩⟩
set_option maxHeartbeats 4000000 in
set_option maxRecDepth 100000 in
theorem k_24 (l : Launch) (hst : l.stackTraces = false) (N : Nat) {p : Program} {e : Env} {s : State} {m : MethodId} {args : Array Value} {below : List Frame} {meth : Method} {c : Code} {w : Wc} {k n b Lx ii : Nat} {xs : Nat → Int32} {Qf : Unit → State → Prop} {K : Mem → Option Unit} (g : Gd p s m args meth c w 10 code "KiteLoggerLaw") (hnc : va_Nc exS exI s) (hw : WL w) (hX : LX s w b Lx xs) (hii : ii + 6 ≤ Lx) (hC0 : k ≤ room_1.cells ∧ n ≤ room_1.slots) (hC1 : k + 1 ≤ room_1.cells ∧ n + 6 ≤ room_1.slots) (hK : ∀ M, Go p l e room_1 s m args below meth c w 10 (k + 1) (n + 6) Qf (K M) 2295 (LL w b ii) [] M) (M : Mem) : Go p l e room_1 s m args below meth c w 10 k n Qf  (bnd (f_G_launches M) fun x1 M1 => bnd (f_M_launches 146 M1) fun x2 M2 => if x1 = x2 then K M2 else none) 892 (LL w b ii) [] M := by
  refine G_aload_n g (pc := 892) 1 d_W_892 rfl rfl ?_
  refine G_cVI g (pc := 893) (As := []) (st := []) cc_L_196 (c_G_launches l hw.1 M) (hw.1.2 0 (Nat.le_of_ble_eq_true rfl)) (hw.1.k rfl) rfl (by decide) rfl ⟨(Nat.le_of_ble_eq_true rfl), (Nat.le_of_ble_eq_true rfl)⟩ hC0 (Nat.le_of_ble_eq_true rfl) d_W_893 (fun x1 M1 => ?_)
  refine G_aload_n g (pc := 896) 2 d_W_896 rfl rfl ?_
  refine G_cVI g (pc := 897) (As := []) (st := [.int x1]) cc_L_199 (c_M_launches l hw.2.1 M1) (hw.2.1.mm 145 (Nat.le_of_ble_eq_true rfl) (Nat.le_of_ble_eq_true rfl)) (hw.1.k rfl) rfl (by decide) rfl ⟨(Nat.le_of_ble_eq_true rfl), (Nat.le_of_ble_eq_true rfl)⟩ hC0 (Nat.le_of_ble_eq_true rfl) d_W_897 (fun x2 M2 => ?_)
  refine Go.ite (fun h12 => ?_)
  refine H_cmpeq g (pc := 900) 2295 d_W_900 (by decide) h12 ?_
  exact Go.widen (Nat.le_succ _) (Nat.le_add_right _ _) (hK _)
theorem d_W_905 : decode code 905 = .ok (.aload_n 1, 1) := by decide +kernel
theorem d_W_906 : decode code 906 = .ok (.invokevirtual 200, 3) := by decide +kernel
theorem d_W_909 : decode code 909 = .ok (.aload_n 2, 1) := by decide +kernel
theorem d_W_910 : decode code 910 = .ok (.invokevirtual 203, 3) := by decide +kernel
theorem d_W_913 : decode code 913 = .ok (.if_icmp .eq 1382, 3) := by decide +kernel
theorem cc_L_200 : CV "KiteLoggerLaw" 200 y_G_snaps b_G_snaps 1 (some .int) 0 := ⟨TT_in (i := 592) (by decide +kernel) (by decide +kernel), TT_in (i := 593) (by decide +kernel) (by decide +kernel), TT_in (i := 594) (by decide +kernel) (by decide +kernel), TT_in (i := 88) (by decide +kernel) (by decide +kernel), TT_in (i := 595) (by decide +kernel) (by decide +kernel), ⟨by decide +kernel, by decide +kernel, by decide +kernel⟩⟩
theorem cc_L_203 : CV "KiteLoggerLaw" 203 y_M_snaps b_M_snaps 1 (some .int) 0 := ⟨TT_in (i := 1568) (by decide +kernel) (by decide +kernel), TT_in (i := 1569) (by decide +kernel) (by decide +kernel), TT_in (i := 1570) (by decide +kernel) (by decide +kernel), TT_in (i := 100) (by decide +kernel) (by decide +kernel), TT_in (i := 1571) (by decide +kernel) (by decide +kernel), ⟨by decide +kernel, by decide +kernel, by decide +kernel⟩⟩
set_option maxHeartbeats 4000000 in
set_option maxRecDepth 100000 in
theorem k_25 (l : Launch) (hst : l.stackTraces = false) (N : Nat) {p : Program} {e : Env} {s : State} {m : MethodId} {args : Array Value} {below : List Frame} {meth : Method} {c : Code} {w : Wc} {k n b Lx ii : Nat} {xs : Nat → Int32} {Qf : Unit → State → Prop} {K : Mem → Option Unit} (g : Gd p s m args meth c w 10 code "KiteLoggerLaw") (hnc : va_Nc exS exI s) (hw : WL w) (hX : LX s w b Lx xs) (hii : ii + 6 ≤ Lx) (hC0 : k ≤ room_1.cells ∧ n ≤ room_1.slots) (hC1 : k + 1 ≤ room_1.cells ∧ n + 6 ≤ room_1.slots) (hK : ∀ M, Go p l e room_1 s m args below meth c w 10 (k + 1) (n + 6) Qf (K M) 2295 (LL w b ii) [] M) (M : Mem) : Go p l e room_1 s m args below meth c w 10 k n Qf  (bnd (f_G_snaps M) fun x1 M1 => bnd (f_M_snaps 146 M1) fun x2 M2 => if x1 = x2 then K M2 else none) 905 (LL w b ii) [] M := by
  refine G_aload_n g (pc := 905) 1 d_W_905 rfl rfl ?_
  refine G_cVI g (pc := 906) (As := []) (st := []) cc_L_200 (c_G_snaps l hw.1 M) (hw.1.2 0 (Nat.le_of_ble_eq_true rfl)) (hw.1.k rfl) rfl (by decide) rfl ⟨(Nat.le_of_ble_eq_true rfl), (Nat.le_of_ble_eq_true rfl)⟩ hC0 (Nat.le_of_ble_eq_true rfl) d_W_906 (fun x1 M1 => ?_)
  refine G_aload_n g (pc := 909) 2 d_W_909 rfl rfl ?_
  refine G_cVI g (pc := 910) (As := []) (st := [.int x1]) cc_L_203 (c_M_snaps l hw.2.1 M1) (hw.2.1.mm 145 (Nat.le_of_ble_eq_true rfl) (Nat.le_of_ble_eq_true rfl)) (hw.1.k rfl) rfl (by decide) rfl ⟨(Nat.le_of_ble_eq_true rfl), (Nat.le_of_ble_eq_true rfl)⟩ hC0 (Nat.le_of_ble_eq_true rfl) d_W_910 (fun x2 M2 => ?_)
  refine Go.ite (fun h12 => ?_)
  refine H_cmpeq g (pc := 913) 2295 d_W_913 (by decide) h12 ?_
  exact Go.widen (Nat.le_succ _) (Nat.le_add_right _ _) (hK _)
theorem d_W_918 : decode code 918 = .ok (.aload_n 1, 1) := by decide +kernel
theorem d_W_919 : decode code 919 = .ok (.invokevirtual 204, 3) := by decide +kernel
theorem d_W_922 : decode code 922 = .ok (.aload_n 2, 1) := by decide +kernel
theorem d_W_923 : decode code 923 = .ok (.invokevirtual 207, 3) := by decide +kernel
theorem d_W_926 : decode code 926 = .ok (.if_icmp .eq 1369, 3) := by decide +kernel
theorem cc_L_204 : CV "KiteLoggerLaw" 204 y_G_searches b_G_searches 1 (some .int) 0 := ⟨TT_in (i := 596) (by decide +kernel) (by decide +kernel), TT_in (i := 597) (by decide +kernel) (by decide +kernel), TT_in (i := 598) (by decide +kernel) (by decide +kernel), TT_in (i := 88) (by decide +kernel) (by decide +kernel), TT_in (i := 599) (by decide +kernel) (by decide +kernel), ⟨by decide +kernel, by decide +kernel, by decide +kernel⟩⟩
theorem cc_L_207 : CV "KiteLoggerLaw" 207 y_M_searches b_M_searches 1 (some .int) 0 := ⟨TT_in (i := 1572) (by decide +kernel) (by decide +kernel), TT_in (i := 1573) (by decide +kernel) (by decide +kernel), TT_in (i := 1574) (by decide +kernel) (by decide +kernel), TT_in (i := 100) (by decide +kernel) (by decide +kernel), TT_in (i := 1575) (by decide +kernel) (by decide +kernel), ⟨by decide +kernel, by decide +kernel, by decide +kernel⟩⟩
set_option maxHeartbeats 4000000 in
set_option maxRecDepth 100000 in
theorem k_26 (l : Launch) (hst : l.stackTraces = false) (N : Nat) {p : Program} {e : Env} {s : State} {m : MethodId} {args : Array Value} {below : List Frame} {meth : Method} {c : Code} {w : Wc} {k n b Lx ii : Nat} {xs : Nat → Int32} {Qf : Unit → State → Prop} {K : Mem → Option Unit} (g : Gd p s m args meth c w 10 code "KiteLoggerLaw") (hnc : va_Nc exS exI s) (hw : WL w) (hX : LX s w b Lx xs) (hii : ii + 6 ≤ Lx) (hC0 : k ≤ room_1.cells ∧ n ≤ room_1.slots) (hC1 : k + 1 ≤ room_1.cells ∧ n + 6 ≤ room_1.slots) (hK : ∀ M, Go p l e room_1 s m args below meth c w 10 (k + 1) (n + 6) Qf (K M) 2295 (LL w b ii) [] M) (M : Mem) : Go p l e room_1 s m args below meth c w 10 k n Qf  (bnd (f_G_searches M) fun x1 M1 => bnd (f_M_searches 146 M1) fun x2 M2 => if x1 = x2 then K M2 else none) 918 (LL w b ii) [] M := by
  refine G_aload_n g (pc := 918) 1 d_W_918 rfl rfl ?_
  refine G_cVI g (pc := 919) (As := []) (st := []) cc_L_204 (c_G_searches l hw.1 M) (hw.1.2 0 (Nat.le_of_ble_eq_true rfl)) (hw.1.k rfl) rfl (by decide) rfl ⟨(Nat.le_of_ble_eq_true rfl), (Nat.le_of_ble_eq_true rfl)⟩ hC0 (Nat.le_of_ble_eq_true rfl) d_W_919 (fun x1 M1 => ?_)
  refine G_aload_n g (pc := 922) 2 d_W_922 rfl rfl ?_
  refine G_cVI g (pc := 923) (As := []) (st := [.int x1]) cc_L_207 (c_M_searches l hw.2.1 M1) (hw.2.1.mm 145 (Nat.le_of_ble_eq_true rfl) (Nat.le_of_ble_eq_true rfl)) (hw.1.k rfl) rfl (by decide) rfl ⟨(Nat.le_of_ble_eq_true rfl), (Nat.le_of_ble_eq_true rfl)⟩ hC0 (Nat.le_of_ble_eq_true rfl) d_W_923 (fun x2 M2 => ?_)
  refine Go.ite (fun h12 => ?_)
  refine H_cmpeq g (pc := 926) 2295 d_W_926 (by decide) h12 ?_
  exact Go.widen (Nat.le_succ _) (Nat.le_add_right _ _) (hK _)
theorem d_W_931 : decode code 931 = .ok (.aload_n 1, 1) := by decide +kernel
theorem d_W_932 : decode code 932 = .ok (.invokevirtual 208, 3) := by decide +kernel
theorem d_W_935 : decode code 935 = .ok (.aload_n 2, 1) := by decide +kernel
theorem d_W_936 : decode code 936 = .ok (.invokevirtual 211, 3) := by decide +kernel
theorem d_W_939 : decode code 939 = .ok (.if_icmp .eq 1356, 3) := by decide +kernel
theorem cc_L_208 : CV "KiteLoggerLaw" 208 y_G_interval b_G_interval 1 (some .int) 0 := ⟨TT_in (i := 600) (by decide +kernel) (by decide +kernel), TT_in (i := 601) (by decide +kernel) (by decide +kernel), TT_in (i := 602) (by decide +kernel) (by decide +kernel), TT_in (i := 88) (by decide +kernel) (by decide +kernel), TT_in (i := 603) (by decide +kernel) (by decide +kernel), ⟨by decide +kernel, by decide +kernel, by decide +kernel⟩⟩
theorem cc_L_211 : CV "KiteLoggerLaw" 211 y_M_interval b_M_interval 1 (some .int) 0 := ⟨TT_in (i := 1576) (by decide +kernel) (by decide +kernel), TT_in (i := 1577) (by decide +kernel) (by decide +kernel), TT_in (i := 1578) (by decide +kernel) (by decide +kernel), TT_in (i := 100) (by decide +kernel) (by decide +kernel), TT_in (i := 1579) (by decide +kernel) (by decide +kernel), ⟨by decide +kernel, by decide +kernel, by decide +kernel⟩⟩
set_option maxHeartbeats 4000000 in
set_option maxRecDepth 100000 in
theorem k_27 (l : Launch) (hst : l.stackTraces = false) (N : Nat) {p : Program} {e : Env} {s : State} {m : MethodId} {args : Array Value} {below : List Frame} {meth : Method} {c : Code} {w : Wc} {k n b Lx ii : Nat} {xs : Nat → Int32} {Qf : Unit → State → Prop} {K : Mem → Option Unit} (g : Gd p s m args meth c w 10 code "KiteLoggerLaw") (hnc : va_Nc exS exI s) (hw : WL w) (hX : LX s w b Lx xs) (hii : ii + 6 ≤ Lx) (hC0 : k ≤ room_1.cells ∧ n ≤ room_1.slots) (hC1 : k + 1 ≤ room_1.cells ∧ n + 6 ≤ room_1.slots) (hK : ∀ M, Go p l e room_1 s m args below meth c w 10 (k + 1) (n + 6) Qf (K M) 2295 (LL w b ii) [] M) (M : Mem) : Go p l e room_1 s m args below meth c w 10 k n Qf  (bnd (f_G_interval M) fun x1 M1 => bnd (f_M_interval 146 M1) fun x2 M2 => if x1 = x2 then K M2 else none) 931 (LL w b ii) [] M := by
  refine G_aload_n g (pc := 931) 1 d_W_931 rfl rfl ?_
  refine G_cVI g (pc := 932) (As := []) (st := []) cc_L_208 (c_G_interval l hw.1 M) (hw.1.2 0 (Nat.le_of_ble_eq_true rfl)) (hw.1.k rfl) rfl (by decide) rfl ⟨(Nat.le_of_ble_eq_true rfl), (Nat.le_of_ble_eq_true rfl)⟩ hC0 (Nat.le_of_ble_eq_true rfl) d_W_932 (fun x1 M1 => ?_)
  refine G_aload_n g (pc := 935) 2 d_W_935 rfl rfl ?_
  refine G_cVI g (pc := 936) (As := []) (st := [.int x1]) cc_L_211 (c_M_interval l hw.2.1 M1) (hw.2.1.mm 145 (Nat.le_of_ble_eq_true rfl) (Nat.le_of_ble_eq_true rfl)) (hw.1.k rfl) rfl (by decide) rfl ⟨(Nat.le_of_ble_eq_true rfl), (Nat.le_of_ble_eq_true rfl)⟩ hC0 (Nat.le_of_ble_eq_true rfl) d_W_936 (fun x2 M2 => ?_)
  refine Go.ite (fun h12 => ?_)
  refine H_cmpeq g (pc := 939) 2295 d_W_939 (by decide) h12 ?_
  exact Go.widen (Nat.le_succ _) (Nat.le_add_right _ _) (hK _)
theorem d_W_944 : decode code 944 = .ok (.aload_n 1, 1) := by decide +kernel
theorem d_W_945 : decode code 945 = .ok (.invokevirtual 212, 3) := by decide +kernel
theorem d_W_948 : decode code 948 = .ok (.aload_n 2, 1) := by decide +kernel
theorem d_W_949 : decode code 949 = .ok (.invokevirtual 215, 3) := by decide +kernel
theorem d_W_952 : decode code 952 = .ok (.if_icmp .eq 1343, 3) := by decide +kernel
theorem cc_L_212 : CV "KiteLoggerLaw" 212 y_G_loggedCount b_G_loggedCount 1 (some .int) 0 := ⟨TT_in (i := 604) (by decide +kernel) (by decide +kernel), TT_in (i := 605) (by decide +kernel) (by decide +kernel), TT_in (i := 606) (by decide +kernel) (by decide +kernel), TT_in (i := 88) (by decide +kernel) (by decide +kernel), TT_in (i := 607) (by decide +kernel) (by decide +kernel), ⟨by decide +kernel, by decide +kernel, by decide +kernel⟩⟩
theorem cc_L_215 : CV "KiteLoggerLaw" 215 y_M_loggedCount b_M_loggedCount 1 (some .int) 0 := ⟨TT_in (i := 1580) (by decide +kernel) (by decide +kernel), TT_in (i := 1581) (by decide +kernel) (by decide +kernel), TT_in (i := 1582) (by decide +kernel) (by decide +kernel), TT_in (i := 100) (by decide +kernel) (by decide +kernel), TT_in (i := 1583) (by decide +kernel) (by decide +kernel), ⟨by decide +kernel, by decide +kernel, by decide +kernel⟩⟩
set_option maxHeartbeats 4000000 in
set_option maxRecDepth 100000 in
theorem k_28 (l : Launch) (hst : l.stackTraces = false) (N : Nat) {p : Program} {e : Env} {s : State} {m : MethodId} {args : Array Value} {below : List Frame} {meth : Method} {c : Code} {w : Wc} {k n b Lx ii : Nat} {xs : Nat → Int32} {Qf : Unit → State → Prop} {K : Mem → Option Unit} (g : Gd p s m args meth c w 10 code "KiteLoggerLaw") (hnc : va_Nc exS exI s) (hw : WL w) (hX : LX s w b Lx xs) (hii : ii + 6 ≤ Lx) (hC0 : k ≤ room_1.cells ∧ n ≤ room_1.slots) (hC1 : k + 1 ≤ room_1.cells ∧ n + 6 ≤ room_1.slots) (hK : ∀ M, Go p l e room_1 s m args below meth c w 10 (k + 1) (n + 6) Qf (K M) 2295 (LL w b ii) [] M) (M : Mem) : Go p l e room_1 s m args below meth c w 10 k n Qf  (bnd (f_G_loggedCount M) fun x1 M1 => bnd (f_M_loggedCount 146 M1) fun x2 M2 => if x1 = x2 then K M2 else none) 944 (LL w b ii) [] M := by
  refine G_aload_n g (pc := 944) 1 d_W_944 rfl rfl ?_
  refine G_cVI g (pc := 945) (As := []) (st := []) cc_L_212 (c_G_loggedCount l hw.1 M) (hw.1.2 0 (Nat.le_of_ble_eq_true rfl)) (hw.1.k rfl) rfl (by decide) rfl ⟨(Nat.le_of_ble_eq_true rfl), (Nat.le_of_ble_eq_true rfl)⟩ hC0 (Nat.le_of_ble_eq_true rfl) d_W_945 (fun x1 M1 => ?_)
  refine G_aload_n g (pc := 948) 2 d_W_948 rfl rfl ?_
  refine G_cVI g (pc := 949) (As := []) (st := [.int x1]) cc_L_215 (c_M_loggedCount l hw.2.1 M1) (hw.2.1.mm 145 (Nat.le_of_ble_eq_true rfl) (Nat.le_of_ble_eq_true rfl)) (hw.1.k rfl) rfl (by decide) rfl ⟨(Nat.le_of_ble_eq_true rfl), (Nat.le_of_ble_eq_true rfl)⟩ hC0 (Nat.le_of_ble_eq_true rfl) d_W_949 (fun x2 M2 => ?_)
  refine Go.ite (fun h12 => ?_)
  refine H_cmpeq g (pc := 952) 2295 d_W_952 (by decide) h12 ?_
  exact Go.widen (Nat.le_succ _) (Nat.le_add_right _ _) (hK _)
theorem d_W_957 : decode code 957 = .ok (.aload_n 1, 1) := by decide +kernel
theorem d_W_958 : decode code 958 = .ok (.aload_n 0, 1) := by decide +kernel
theorem d_W_959 : decode code 959 = .ok (.iload 5, 2) := by decide +kernel
theorem d_W_961 : decode code 961 = .ok (.iconst 1, 1) := by decide +kernel
theorem d_W_962 : decode code 962 = .ok (.iadd, 1) := by decide +kernel
theorem d_W_963 : decode code 963 = .ok (.iaload, 1) := by decide +kernel
theorem d_W_964 : decode code 964 = .ok (.aload_n 3, 1) := by decide +kernel
theorem d_W_965 : decode code 965 = .ok (.invokestatic 216, 3) := by decide +kernel
theorem d_W_968 : decode code 968 = .ok (.istore 6, 2) := by decide +kernel
theorem d_W_970 : decode code 970 = .ok (.aload_n 2, 1) := by decide +kernel
theorem d_W_971 : decode code 971 = .ok (.aload_n 0, 1) := by decide +kernel
theorem d_W_972 : decode code 972 = .ok (.iload 5, 2) := by decide +kernel
theorem d_W_974 : decode code 974 = .ok (.iconst 1, 1) := by decide +kernel
theorem d_W_975 : decode code 975 = .ok (.iadd, 1) := by decide +kernel
theorem d_W_976 : decode code 976 = .ok (.iaload, 1) := by decide +kernel
theorem d_W_977 : decode code 977 = .ok (.invokevirtual 218, 3) := by decide +kernel
theorem d_W_980 : decode code 980 = .ok (.istore 7, 2) := by decide +kernel
theorem d_W_982 : decode code 982 = .ok (.aload_n 2, 1) := by decide +kernel
theorem d_W_983 : decode code 983 = .ok (.invokevirtual 106, 3) := by decide +kernel
theorem d_W_986 : decode code 986 = .ok (.iload 6, 2) := by decide +kernel
theorem d_W_988 : decode code 988 = .ok (.if_icmp .eq 5, 3) := by decide +kernel
theorem d_W_993 : decode code 993 = .ok (.iload 6, 2) := by decide +kernel
theorem d_W_995 : decode code 995 = .ok (.ifCond .ne 15, 3) := by decide +kernel
theorem d_W_998 : decode code 998 = .ok (.aload_n 3, 1) := by decide +kernel
theorem d_W_999 : decode code 999 = .ok (.iconst 0, 1) := by decide +kernel
theorem d_W_1000 : decode code 1000 = .ok (.laload, 1) := by decide +kernel
theorem d_W_1001 : decode code 1001 = .ok (.iload 7, 2) := by decide +kernel
theorem d_W_1003 : decode code 1003 = .ok (.i2l, 1) := by decide +kernel
theorem d_W_1004 : decode code 1004 = .ok (.lcmp, 1) := by decide +kernel
theorem d_W_1005 : decode code 1005 = .ok (.ifCond .eq 5, 3) := by decide +kernel
theorem d_W_1010 : decode code 1010 = .ok (.goto 1285, 3) := by decide +kernel
theorem cs_L_216 : CSH "KiteLoggerLaw" 216 y_L_loggedTick b_L_loggedTick 4 [(0, 9, 12, 27)] 3 := ⟨TT_in (i := 1001) (by decide +kernel) (by decide +kernel), TT_in (i := 1002) (by decide +kernel) (by decide +kernel), TT_in (i := 87) (by decide +kernel) (by decide +kernel), TT_in (i := 1003) (by decide +kernel) (by decide +kernel), ⟨by decide +kernel, by decide +kernel, by decide +kernel⟩⟩
theorem cc_L_218 : CV "KiteLoggerLaw" 218 y_M_loggedTick b_M_loggedTick 2 (some .int) 1 := ⟨TT_in (i := 1584) (by decide +kernel) (by decide +kernel), TT_in (i := 1585) (by decide +kernel) (by decide +kernel), TT_in (i := 1586) (by decide +kernel) (by decide +kernel), TT_in (i := 100) (by decide +kernel) (by decide +kernel), TT_in (i := 1587) (by decide +kernel) (by decide +kernel), ⟨by decide +kernel, by decide +kernel, by decide +kernel⟩⟩
set_option maxHeartbeats 4000000 in
set_option maxRecDepth 100000 in
theorem k_29 (l : Launch) (hst : l.stackTraces = false) (N : Nat) {p : Program} {e : Env} {s : State} {m : MethodId} {args : Array Value} {below : List Frame} {meth : Method} {c : Code} {w : Wc} {k n b Lx ii : Nat} {xs : Nat → Int32} {Qf : Unit → State → Prop} {K : Mem → Option Unit} (g : Gd p s m args meth c w 10 code "KiteLoggerLaw") (hnc : va_Nc exS exI s) (hw : WL w) (hX : LX s w b Lx xs) (hii : ii + 6 ≤ Lx) (hC0 : k ≤ room_1.cells ∧ n ≤ room_1.slots) (hC1 : k + 1 ≤ room_1.cells ∧ n + 6 ≤ room_1.slots) (hK : ∀ M, Go p l e room_1 s m args below meth c w 10 (k + 1) (n + 6) Qf (K M) 2295 (LL w b ii) [] M) (M : Mem) : Go p l e room_1 s m args below meth c w 10 k n Qf  (bnd (lwW [(2, 1)] (f_G_loggedTick (xs (ii + 1)) M)) fun x1 M1 => bnd (f_M_loggedTick 146 (xs (ii + 1)) M1) fun x2 M2 => bnd (f_M_thrown M2) fun x3 M3 => if x3 = x1 ∧ (x1 = 0 → M3 156 0 = x2) then K M3 else none) 957 (LL w b ii) [] M := by
  refine G_aload_n g (pc := 957) 1 d_W_957 rfl rfl ?_
  refine G_arg g (pc := 958) hX (j := 1) (j0 := 0) (j5 := 5) hii (by decide) rfl rfl d_W_958 d_W_959 d_W_961 rfl d_W_962 d_W_963 ?_
  refine G_aload_n g (pc := 964) 3 d_W_964 rfl rfl ?_
  refine G_cSH g hnc (pc := 965) (As := [.ref (wad w 0), .int (xs (ii + 1)), .ref (wad w 156)]) (st := []) cs_L_216 (c_L_loggedTick l hst hw (xs (ii + 1)) M) rfl ⟨(Nat.le_of_ble_eq_true rfl), (Nat.le_of_ble_eq_true rfl)⟩ hC1 (Nat.le_of_ble_eq_true rfl) d_W_965 (fun x1 M1 => ?_)
  refine G_istore g (pc := 968) _ d_W_968 (Nat.le_of_ble_eq_true rfl) rfl ?_
  refine G_aload_n g (pc := 970) 3 d_W_970 rfl rfl ?_
  refine G_arg g (pc := 971) hX (j := 1) (j0 := 1) (j5 := 6) hii (by decide) rfl rfl d_W_971 d_W_972 d_W_974 rfl d_W_975 d_W_976 ?_
  refine G_cVI g (pc := 977) (As := [.int (xs (ii + 1))]) (st := []) cc_L_218 (c_M_loggedTick l hw.2.1 (xs (ii + 1)) M1) (hw.2.1.mm 145 (Nat.le_of_ble_eq_true rfl) (Nat.le_of_ble_eq_true rfl)) (hw.1.k rfl) rfl (by decide) rfl ⟨(Nat.le_of_ble_eq_true rfl), (Nat.le_of_ble_eq_true rfl)⟩ hC1 (Nat.le_of_ble_eq_true rfl) d_W_977 (fun x2 M2 => ?_)
  refine G_istore g (pc := 980) _ d_W_980 (Nat.le_of_ble_eq_true rfl) rfl ?_
  refine G_aload_n g (pc := 982) 4 d_W_982 rfl rfl ?_
  refine G_cVI g (pc := 983) (As := []) (st := []) cc_L_106 (c_M_thrown l hw.2.1 M2) (hw.2.1.mm 145 (Nat.le_of_ble_eq_true rfl) (Nat.le_of_ble_eq_true rfl)) (hw.1.k rfl) rfl (by decide) rfl ⟨(Nat.le_of_ble_eq_true rfl), (Nat.le_of_ble_eq_true rfl)⟩ hC1 (Nat.le_of_ble_eq_true rfl) d_W_983 (fun x3 M3 => ?_)
  refine Go.ite (fun h12 => ?_)
  refine G_iload g (pc := 986) 1 d_W_986 rfl ?_
  refine H_cmpeq g (pc := 988) 993 d_W_988 (by decide) h12.1 ?_
  refine G_iload g (pc := 993) 1 d_W_993 rfl ?_
  refine H_ifne g (pc := 995) 1010 d_W_995 (by decide) (fun h0 => ?_) (fun h0 => ?_)
  · refine G_goto g (pc := 1010) 2295 d_W_1010 (by decide) ?_
    refine G_sub [2, 3, 4, 5, 6, 7] _ rfl ?_
    exact hK _
  · refine G_aload_n g (pc := 998) 5 d_W_998 rfl rfl ?_
    refine G_iconst g (pc := 999) (0 : Int32) d_W_999 rfl ?_
    refine G_lald0 g (pc := 1000) hw.2.2.1 (hw.1.k rfl) d_W_1000 ?_
    refine G_iload g (pc := 1001) 0 d_W_1001 rfl ?_
    refine G_i2l g (pc := 1003) d_W_1003 ?_
    refine G_lcmp g (pc := 1004) (congrArg Int32.toInt64 (h12.2 h0)) d_W_1004 ?_
    refine H_ifeq g (pc := 1005) 1010 d_W_1005 (by decide) (fun _ => ?_) (fun h9 => Go.no (h9 rfl))
    refine G_goto g (pc := 1010) 2295 d_W_1010 (by decide) ?_
    refine G_sub [2, 3, 4, 5, 6, 7] _ rfl ?_
    exact hK _
theorem d_W_1013 : decode code 1013 = .ok (.aload_n 1, 1) := by decide +kernel
theorem d_W_1014 : decode code 1014 = .ok (.aload_n 0, 1) := by decide +kernel
theorem d_W_1015 : decode code 1015 = .ok (.iload 5, 2) := by decide +kernel
theorem d_W_1017 : decode code 1017 = .ok (.iconst 1, 1) := by decide +kernel
theorem d_W_1018 : decode code 1018 = .ok (.iadd, 1) := by decide +kernel
theorem d_W_1019 : decode code 1019 = .ok (.iaload, 1) := by decide +kernel
theorem d_W_1020 : decode code 1020 = .ok (.aload_n 3, 1) := by decide +kernel
theorem d_W_1021 : decode code 1021 = .ok (.invokestatic 219, 3) := by decide +kernel
theorem d_W_1024 : decode code 1024 = .ok (.istore 6, 2) := by decide +kernel
theorem d_W_1026 : decode code 1026 = .ok (.aload_n 2, 1) := by decide +kernel
theorem d_W_1027 : decode code 1027 = .ok (.aload_n 0, 1) := by decide +kernel
theorem d_W_1028 : decode code 1028 = .ok (.iload 5, 2) := by decide +kernel
theorem d_W_1030 : decode code 1030 = .ok (.iconst 1, 1) := by decide +kernel
theorem d_W_1031 : decode code 1031 = .ok (.iadd, 1) := by decide +kernel
theorem d_W_1032 : decode code 1032 = .ok (.iaload, 1) := by decide +kernel
theorem d_W_1033 : decode code 1033 = .ok (.invokevirtual 221, 3) := by decide +kernel
theorem d_W_1036 : decode code 1036 = .ok (.istore 7, 2) := by decide +kernel
theorem d_W_1038 : decode code 1038 = .ok (.aload_n 2, 1) := by decide +kernel
theorem d_W_1039 : decode code 1039 = .ok (.invokevirtual 106, 3) := by decide +kernel
theorem d_W_1042 : decode code 1042 = .ok (.iload 6, 2) := by decide +kernel
theorem d_W_1044 : decode code 1044 = .ok (.if_icmp .eq 5, 3) := by decide +kernel
theorem d_W_1049 : decode code 1049 = .ok (.iload 6, 2) := by decide +kernel
theorem d_W_1051 : decode code 1051 = .ok (.ifCond .ne 15, 3) := by decide +kernel
theorem d_W_1054 : decode code 1054 = .ok (.aload_n 3, 1) := by decide +kernel
theorem d_W_1055 : decode code 1055 = .ok (.iconst 0, 1) := by decide +kernel
theorem d_W_1056 : decode code 1056 = .ok (.laload, 1) := by decide +kernel
theorem d_W_1057 : decode code 1057 = .ok (.iload 7, 2) := by decide +kernel
theorem d_W_1059 : decode code 1059 = .ok (.i2l, 1) := by decide +kernel
theorem d_W_1060 : decode code 1060 = .ok (.lcmp, 1) := by decide +kernel
theorem d_W_1061 : decode code 1061 = .ok (.ifCond .eq 5, 3) := by decide +kernel
theorem d_W_1066 : decode code 1066 = .ok (.goto 1229, 3) := by decide +kernel
theorem cs_L_219 : CSH "KiteLoggerLaw" 219 y_L_loggedHeight b_L_loggedHeight 4 [(0, 9, 12, 27)] 3 := ⟨TT_in (i := 1033) (by decide +kernel) (by decide +kernel), TT_in (i := 1034) (by decide +kernel) (by decide +kernel), TT_in (i := 87) (by decide +kernel) (by decide +kernel), TT_in (i := 1035) (by decide +kernel) (by decide +kernel), ⟨by decide +kernel, by decide +kernel, by decide +kernel⟩⟩
theorem cc_L_221 : CV "KiteLoggerLaw" 221 y_M_loggedHeight b_M_loggedHeight 2 (some .int) 1 := ⟨TT_in (i := 1592) (by decide +kernel) (by decide +kernel), TT_in (i := 1593) (by decide +kernel) (by decide +kernel), TT_in (i := 1594) (by decide +kernel) (by decide +kernel), TT_in (i := 100) (by decide +kernel) (by decide +kernel), TT_in (i := 1595) (by decide +kernel) (by decide +kernel), ⟨by decide +kernel, by decide +kernel, by decide +kernel⟩⟩
set_option maxHeartbeats 4000000 in
set_option maxRecDepth 100000 in
theorem k_30 (l : Launch) (hst : l.stackTraces = false) (N : Nat) {p : Program} {e : Env} {s : State} {m : MethodId} {args : Array Value} {below : List Frame} {meth : Method} {c : Code} {w : Wc} {k n b Lx ii : Nat} {xs : Nat → Int32} {Qf : Unit → State → Prop} {K : Mem → Option Unit} (g : Gd p s m args meth c w 10 code "KiteLoggerLaw") (hnc : va_Nc exS exI s) (hw : WL w) (hX : LX s w b Lx xs) (hii : ii + 6 ≤ Lx) (hC0 : k ≤ room_1.cells ∧ n ≤ room_1.slots) (hC1 : k + 1 ≤ room_1.cells ∧ n + 6 ≤ room_1.slots) (hK : ∀ M, Go p l e room_1 s m args below meth c w 10 (k + 1) (n + 6) Qf (K M) 2295 (LL w b ii) [] M) (M : Mem) : Go p l e room_1 s m args below meth c w 10 k n Qf  (bnd (lwW [(2, 1)] (f_G_loggedHeight (xs (ii + 1)) M)) fun x1 M1 => bnd (f_M_loggedHeight 146 (xs (ii + 1)) M1) fun x2 M2 => bnd (f_M_thrown M2) fun x3 M3 => if x3 = x1 ∧ (x1 = 0 → M3 156 0 = x2) then K M3 else none) 1013 (LL w b ii) [] M := by
  refine G_aload_n g (pc := 1013) 1 d_W_1013 rfl rfl ?_
  refine G_arg g (pc := 1014) hX (j := 1) (j0 := 0) (j5 := 5) hii (by decide) rfl rfl d_W_1014 d_W_1015 d_W_1017 rfl d_W_1018 d_W_1019 ?_
  refine G_aload_n g (pc := 1020) 3 d_W_1020 rfl rfl ?_
  refine G_cSH g hnc (pc := 1021) (As := [.ref (wad w 0), .int (xs (ii + 1)), .ref (wad w 156)]) (st := []) cs_L_219 (c_L_loggedHeight l hst hw (xs (ii + 1)) M) rfl ⟨(Nat.le_of_ble_eq_true rfl), (Nat.le_of_ble_eq_true rfl)⟩ hC1 (Nat.le_of_ble_eq_true rfl) d_W_1021 (fun x1 M1 => ?_)
  refine G_istore g (pc := 1024) _ d_W_1024 (Nat.le_of_ble_eq_true rfl) rfl ?_
  refine G_aload_n g (pc := 1026) 3 d_W_1026 rfl rfl ?_
  refine G_arg g (pc := 1027) hX (j := 1) (j0 := 1) (j5 := 6) hii (by decide) rfl rfl d_W_1027 d_W_1028 d_W_1030 rfl d_W_1031 d_W_1032 ?_
  refine G_cVI g (pc := 1033) (As := [.int (xs (ii + 1))]) (st := []) cc_L_221 (c_M_loggedHeight l hw.2.1 (xs (ii + 1)) M1) (hw.2.1.mm 145 (Nat.le_of_ble_eq_true rfl) (Nat.le_of_ble_eq_true rfl)) (hw.1.k rfl) rfl (by decide) rfl ⟨(Nat.le_of_ble_eq_true rfl), (Nat.le_of_ble_eq_true rfl)⟩ hC1 (Nat.le_of_ble_eq_true rfl) d_W_1033 (fun x2 M2 => ?_)
  refine G_istore g (pc := 1036) _ d_W_1036 (Nat.le_of_ble_eq_true rfl) rfl ?_
  refine G_aload_n g (pc := 1038) 4 d_W_1038 rfl rfl ?_
  refine G_cVI g (pc := 1039) (As := []) (st := []) cc_L_106 (c_M_thrown l hw.2.1 M2) (hw.2.1.mm 145 (Nat.le_of_ble_eq_true rfl) (Nat.le_of_ble_eq_true rfl)) (hw.1.k rfl) rfl (by decide) rfl ⟨(Nat.le_of_ble_eq_true rfl), (Nat.le_of_ble_eq_true rfl)⟩ hC1 (Nat.le_of_ble_eq_true rfl) d_W_1039 (fun x3 M3 => ?_)
  refine Go.ite (fun h12 => ?_)
  refine G_iload g (pc := 1042) 1 d_W_1042 rfl ?_
  refine H_cmpeq g (pc := 1044) 1049 d_W_1044 (by decide) h12.1 ?_
  refine G_iload g (pc := 1049) 1 d_W_1049 rfl ?_
  refine H_ifne g (pc := 1051) 1066 d_W_1051 (by decide) (fun h0 => ?_) (fun h0 => ?_)
  · refine G_goto g (pc := 1066) 2295 d_W_1066 (by decide) ?_
    refine G_sub [2, 3, 4, 5, 6, 7] _ rfl ?_
    exact hK _
  · refine G_aload_n g (pc := 1054) 5 d_W_1054 rfl rfl ?_
    refine G_iconst g (pc := 1055) (0 : Int32) d_W_1055 rfl ?_
    refine G_lald0 g (pc := 1056) hw.2.2.1 (hw.1.k rfl) d_W_1056 ?_
    refine G_iload g (pc := 1057) 0 d_W_1057 rfl ?_
    refine G_i2l g (pc := 1059) d_W_1059 ?_
    refine G_lcmp g (pc := 1060) (congrArg Int32.toInt64 (h12.2 h0)) d_W_1060 ?_
    refine H_ifeq g (pc := 1061) 1066 d_W_1061 (by decide) (fun _ => ?_) (fun h9 => Go.no (h9 rfl))
    refine G_goto g (pc := 1066) 2295 d_W_1066 (by decide) ?_
    refine G_sub [2, 3, 4, 5, 6, 7] _ rfl ?_
    exact hK _
theorem d_W_1069 : decode code 1069 = .ok (.aload_n 1, 1) := by decide +kernel
theorem d_W_1070 : decode code 1070 = .ok (.aload_n 0, 1) := by decide +kernel
theorem d_W_1071 : decode code 1071 = .ok (.iload 5, 2) := by decide +kernel
theorem d_W_1073 : decode code 1073 = .ok (.iconst 1, 1) := by decide +kernel
theorem d_W_1074 : decode code 1074 = .ok (.iadd, 1) := by decide +kernel
theorem d_W_1075 : decode code 1075 = .ok (.iaload, 1) := by decide +kernel
theorem d_W_1076 : decode code 1076 = .ok (.aload_n 3, 1) := by decide +kernel
theorem d_W_1077 : decode code 1077 = .ok (.invokestatic 222, 3) := by decide +kernel
theorem d_W_1080 : decode code 1080 = .ok (.istore 6, 2) := by decide +kernel
theorem d_W_1082 : decode code 1082 = .ok (.aload_n 2, 1) := by decide +kernel
theorem d_W_1083 : decode code 1083 = .ok (.aload_n 0, 1) := by decide +kernel
theorem d_W_1084 : decode code 1084 = .ok (.iload 5, 2) := by decide +kernel
theorem d_W_1086 : decode code 1086 = .ok (.iconst 1, 1) := by decide +kernel
theorem d_W_1087 : decode code 1087 = .ok (.iadd, 1) := by decide +kernel
theorem d_W_1088 : decode code 1088 = .ok (.iaload, 1) := by decide +kernel
theorem d_W_1089 : decode code 1089 = .ok (.invokevirtual 224, 3) := by decide +kernel
theorem d_W_1092 : decode code 1092 = .ok (.istore 7, 2) := by decide +kernel
theorem d_W_1094 : decode code 1094 = .ok (.aload_n 2, 1) := by decide +kernel
theorem d_W_1095 : decode code 1095 = .ok (.invokevirtual 106, 3) := by decide +kernel
theorem d_W_1098 : decode code 1098 = .ok (.iload 6, 2) := by decide +kernel
theorem d_W_1100 : decode code 1100 = .ok (.if_icmp .eq 5, 3) := by decide +kernel
theorem d_W_1105 : decode code 1105 = .ok (.iload 6, 2) := by decide +kernel
theorem d_W_1107 : decode code 1107 = .ok (.ifCond .ne 15, 3) := by decide +kernel
theorem d_W_1110 : decode code 1110 = .ok (.aload_n 3, 1) := by decide +kernel
theorem d_W_1111 : decode code 1111 = .ok (.iconst 0, 1) := by decide +kernel
theorem d_W_1112 : decode code 1112 = .ok (.laload, 1) := by decide +kernel
theorem d_W_1113 : decode code 1113 = .ok (.iload 7, 2) := by decide +kernel
theorem d_W_1115 : decode code 1115 = .ok (.i2l, 1) := by decide +kernel
theorem d_W_1116 : decode code 1116 = .ok (.lcmp, 1) := by decide +kernel
theorem d_W_1117 : decode code 1117 = .ok (.ifCond .eq 5, 3) := by decide +kernel
theorem d_W_1122 : decode code 1122 = .ok (.goto 1173, 3) := by decide +kernel
theorem cs_L_222 : CSH "KiteLoggerLaw" 222 y_L_loggedGust b_L_loggedGust 4 [(0, 9, 12, 27)] 3 := ⟨TT_in (i := 1041) (by decide +kernel) (by decide +kernel), TT_in (i := 1042) (by decide +kernel) (by decide +kernel), TT_in (i := 87) (by decide +kernel) (by decide +kernel), TT_in (i := 1043) (by decide +kernel) (by decide +kernel), ⟨by decide +kernel, by decide +kernel, by decide +kernel⟩⟩
theorem cc_L_224 : CV "KiteLoggerLaw" 224 y_M_loggedGust b_M_loggedGust 2 (some .int) 1 := ⟨TT_in (i := 1596) (by decide +kernel) (by decide +kernel), TT_in (i := 1597) (by decide +kernel) (by decide +kernel), TT_in (i := 1598) (by decide +kernel) (by decide +kernel), TT_in (i := 100) (by decide +kernel) (by decide +kernel), TT_in (i := 1599) (by decide +kernel) (by decide +kernel), ⟨by decide +kernel, by decide +kernel, by decide +kernel⟩⟩
set_option maxHeartbeats 4000000 in
set_option maxRecDepth 100000 in
theorem k_31 (l : Launch) (hst : l.stackTraces = false) (N : Nat) {p : Program} {e : Env} {s : State} {m : MethodId} {args : Array Value} {below : List Frame} {meth : Method} {c : Code} {w : Wc} {k n b Lx ii : Nat} {xs : Nat → Int32} {Qf : Unit → State → Prop} {K : Mem → Option Unit} (g : Gd p s m args meth c w 10 code "KiteLoggerLaw") (hnc : va_Nc exS exI s) (hw : WL w) (hX : LX s w b Lx xs) (hii : ii + 6 ≤ Lx) (hC0 : k ≤ room_1.cells ∧ n ≤ room_1.slots) (hC1 : k + 1 ≤ room_1.cells ∧ n + 6 ≤ room_1.slots) (hK : ∀ M, Go p l e room_1 s m args below meth c w 10 (k + 1) (n + 6) Qf (K M) 2295 (LL w b ii) [] M) (M : Mem) : Go p l e room_1 s m args below meth c w 10 k n Qf  (bnd (lwW [(2, 1)] (f_G_loggedGust (xs (ii + 1)) M)) fun x1 M1 => bnd (f_M_loggedGust 146 (xs (ii + 1)) M1) fun x2 M2 => bnd (f_M_thrown M2) fun x3 M3 => if x3 = x1 ∧ (x1 = 0 → M3 156 0 = x2) then K M3 else none) 1069 (LL w b ii) [] M := by
  refine G_aload_n g (pc := 1069) 1 d_W_1069 rfl rfl ?_
  refine G_arg g (pc := 1070) hX (j := 1) (j0 := 0) (j5 := 5) hii (by decide) rfl rfl d_W_1070 d_W_1071 d_W_1073 rfl d_W_1074 d_W_1075 ?_
  refine G_aload_n g (pc := 1076) 3 d_W_1076 rfl rfl ?_
  refine G_cSH g hnc (pc := 1077) (As := [.ref (wad w 0), .int (xs (ii + 1)), .ref (wad w 156)]) (st := []) cs_L_222 (c_L_loggedGust l hst hw (xs (ii + 1)) M) rfl ⟨(Nat.le_of_ble_eq_true rfl), (Nat.le_of_ble_eq_true rfl)⟩ hC1 (Nat.le_of_ble_eq_true rfl) d_W_1077 (fun x1 M1 => ?_)
  refine G_istore g (pc := 1080) _ d_W_1080 (Nat.le_of_ble_eq_true rfl) rfl ?_
  refine G_aload_n g (pc := 1082) 3 d_W_1082 rfl rfl ?_
  refine G_arg g (pc := 1083) hX (j := 1) (j0 := 1) (j5 := 6) hii (by decide) rfl rfl d_W_1083 d_W_1084 d_W_1086 rfl d_W_1087 d_W_1088 ?_
  refine G_cVI g (pc := 1089) (As := [.int (xs (ii + 1))]) (st := []) cc_L_224 (c_M_loggedGust l hw.2.1 (xs (ii + 1)) M1) (hw.2.1.mm 145 (Nat.le_of_ble_eq_true rfl) (Nat.le_of_ble_eq_true rfl)) (hw.1.k rfl) rfl (by decide) rfl ⟨(Nat.le_of_ble_eq_true rfl), (Nat.le_of_ble_eq_true rfl)⟩ hC1 (Nat.le_of_ble_eq_true rfl) d_W_1089 (fun x2 M2 => ?_)
  refine G_istore g (pc := 1092) _ d_W_1092 (Nat.le_of_ble_eq_true rfl) rfl ?_
  refine G_aload_n g (pc := 1094) 4 d_W_1094 rfl rfl ?_
  refine G_cVI g (pc := 1095) (As := []) (st := []) cc_L_106 (c_M_thrown l hw.2.1 M2) (hw.2.1.mm 145 (Nat.le_of_ble_eq_true rfl) (Nat.le_of_ble_eq_true rfl)) (hw.1.k rfl) rfl (by decide) rfl ⟨(Nat.le_of_ble_eq_true rfl), (Nat.le_of_ble_eq_true rfl)⟩ hC1 (Nat.le_of_ble_eq_true rfl) d_W_1095 (fun x3 M3 => ?_)
  refine Go.ite (fun h12 => ?_)
  refine G_iload g (pc := 1098) 1 d_W_1098 rfl ?_
  refine H_cmpeq g (pc := 1100) 1105 d_W_1100 (by decide) h12.1 ?_
  refine G_iload g (pc := 1105) 1 d_W_1105 rfl ?_
  refine H_ifne g (pc := 1107) 1122 d_W_1107 (by decide) (fun h0 => ?_) (fun h0 => ?_)
  · refine G_goto g (pc := 1122) 2295 d_W_1122 (by decide) ?_
    refine G_sub [2, 3, 4, 5, 6, 7] _ rfl ?_
    exact hK _
  · refine G_aload_n g (pc := 1110) 5 d_W_1110 rfl rfl ?_
    refine G_iconst g (pc := 1111) (0 : Int32) d_W_1111 rfl ?_
    refine G_lald0 g (pc := 1112) hw.2.2.1 (hw.1.k rfl) d_W_1112 ?_
    refine G_iload g (pc := 1113) 0 d_W_1113 rfl ?_
    refine G_i2l g (pc := 1115) d_W_1115 ?_
    refine G_lcmp g (pc := 1116) (congrArg Int32.toInt64 (h12.2 h0)) d_W_1116 ?_
    refine H_ifeq g (pc := 1117) 1122 d_W_1117 (by decide) (fun _ => ?_) (fun h9 => Go.no (h9 rfl))
    refine G_goto g (pc := 1122) 2295 d_W_1122 (by decide) ?_
    refine G_sub [2, 3, 4, 5, 6, 7] _ rfl ?_
    exact hK _
