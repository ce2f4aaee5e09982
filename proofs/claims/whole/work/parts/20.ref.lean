theorem d_M_thrown_0 : decode b_M_thrown 0 = .ok (.aload_n 0, 1) := by decide +kernel
theorem d_M_thrown_1 : decode b_M_thrown 1 = .ok (.getfield 76, 3) := by decide +kernel
theorem d_M_thrown_4 : decode b_M_thrown 4 = .ok (.ireturn, 1) := by decide +kernel
def f_M_thrown  (M : Mem) : Option (Int32 × Mem) :=
  some (M 145 8, M)
set_option maxHeartbeats 4000000 in
set_option maxRecDepth 100000 in
theorem c_M_thrown (l : Launch) {w : Wc} {rr : Nat} (hw : WM w rr)  (M : Mem) : Ct QI l y_M_thrown b_M_thrown 1 (some .int) (rmL 0) w [.ref (wad w 145)] M (f_M_thrown  M) := by
  refine Ct.go (by decide) (L := [(0, .ref (wad w 145))]) rfl (Nat.le_of_ble_eq_true rfl) (fun p0 e s m args below meth c g hret => ?_)
  unfold f_M_thrown
  refine G_aload_n g (pc := 0) 0 d_M_thrown_0 rfl rfl ?_
  refine G_get g (pc := 1) fa_M_76 (hw.mm 145 (Nat.le_of_ble_eq_true rfl) (Nat.le_of_ble_eq_true rfl)) (hw.k (zk145 rr)) d_M_thrown_1 ?_
  exact G_ireturn g (pc := 4) hret (Nat.le_of_ble_eq_true rfl) (Nat.le_of_ble_eq_true rfl) d_M_thrown_4

theorem d_M_inRange_0 : decode b_M_inRange 0 = .ok (.iload_n 0, 1) := by decide +kernel
theorem d_M_inRange_1 : decode b_M_inRange 1 = .ok (.iload_n 1, 1) := by decide +kernel
theorem d_M_inRange_2 : decode b_M_inRange 2 = .ok (.if_icmp .lt 12, 3) := by decide +kernel
theorem d_M_inRange_5 : decode b_M_inRange 5 = .ok (.iload_n 0, 1) := by decide +kernel
theorem d_M_inRange_6 : decode b_M_inRange 6 = .ok (.iload_n 2, 1) := by decide +kernel
theorem d_M_inRange_7 : decode b_M_inRange 7 = .ok (.if_icmp .gt 7, 3) := by decide +kernel
theorem d_M_inRange_10 : decode b_M_inRange 10 = .ok (.iconst 1, 1) := by decide +kernel
theorem d_M_inRange_11 : decode b_M_inRange 11 = .ok (.goto 4, 3) := by decide +kernel
theorem d_M_inRange_14 : decode b_M_inRange 14 = .ok (.iconst 0, 1) := by decide +kernel
theorem d_M_inRange_15 : decode b_M_inRange 15 = .ok (.ireturn, 1) := by decide +kernel
def f_M_inRange (a1 : Int32) (a2 : Int32) (a3 : Int32) (M : Mem) : Option (Bool × Mem) :=
  if a1 < a2 then (some (false, M)) else (if a1 ≤ a3 then (some (true, M)) else (some (false, M)))
set_option maxHeartbeats 4000000 in
set_option maxRecDepth 100000 in
theorem c_M_inRange (l : Launch) {w : Wc} {rr : Nat} (hw : WM w rr) (a1 : Int32) (a2 : Int32) (a3 : Int32) (M : Mem) : Ct QZ l y_M_inRange b_M_inRange 3 (some .boolean) (rmL 0) w [.int a1, .int a2, .int a3] M (f_M_inRange a1 a2 a3 M) := by
  refine Ct.go (by decide) (L := [(0, .int a1), (1, .int a2), (2, .int a3)]) rfl (Nat.le_of_ble_eq_true rfl) (fun p0 e s m args below meth c g hret => ?_)
  unfold f_M_inRange
  refine G_iload_n g (pc := 0) 0 d_M_inRange_0 rfl rfl ?_
  refine G_iload_n g (pc := 1) 1 d_M_inRange_1 rfl rfl ?_
  refine G_icmp_lt g (pc := 2) 14 d_M_inRange_2 (by decide) ?_ ?_
  · refine G_iconst g (pc := 14) (0 : Int32) d_M_inRange_14 rfl ?_
    exact G_zreturn g (pc := 15) false rfl hret (Nat.le_of_ble_eq_true rfl) (Nat.le_of_ble_eq_true rfl) d_M_inRange_15
  · refine G_iload_n g (pc := 5) 0 d_M_inRange_5 rfl rfl ?_
    refine G_iload_n g (pc := 6) 2 d_M_inRange_6 rfl rfl ?_
    refine G_icmp_gt g (pc := 7) 14 d_M_inRange_7 (by decide) ?_ ?_
    · refine G_iconst g (pc := 10) (1 : Int32) d_M_inRange_10 rfl ?_
      refine G_goto g (pc := 11) 15 d_M_inRange_11 (by decide) ?_
      exact G_zreturn g (pc := 15) true rfl hret (Nat.le_of_ble_eq_true rfl) (Nat.le_of_ble_eq_true rfl) d_M_inRange_15
    · refine G_iconst g (pc := 14) (0 : Int32) d_M_inRange_14 rfl ?_
      exact G_zreturn g (pc := 15) false rfl hret (Nat.le_of_ble_eq_true rfl) (Nat.le_of_ble_eq_true rfl) d_M_inRange_15

theorem d_M_lacks_0 : decode b_M_lacks 0 = .ok (.aload_n 0, 1) := by decide +kernel
theorem d_M_lacks_1 : decode b_M_lacks 1 = .ok (.iload_n 1, 1) := by decide +kernel
theorem d_M_lacks_2 : decode b_M_lacks 2 = .ok (.ifCond .eq 7, 3) := by decide +kernel
theorem d_M_lacks_5 : decode b_M_lacks 5 = .ok (.iconst 0, 1) := by decide +kernel
theorem d_M_lacks_6 : decode b_M_lacks 6 = .ok (.goto 4, 3) := by decide +kernel
theorem d_M_lacks_9 : decode b_M_lacks 9 = .ok (.iconst 1, 1) := by decide +kernel
theorem d_M_lacks_10 : decode b_M_lacks 10 = .ok (.putfield 76, 3) := by decide +kernel
theorem d_M_lacks_13 : decode b_M_lacks 13 = .ok (.iload_n 1, 1) := by decide +kernel
theorem d_M_lacks_14 : decode b_M_lacks 14 = .ok (.ifCond .ne 7, 3) := by decide +kernel
theorem d_M_lacks_17 : decode b_M_lacks 17 = .ok (.iconst 1, 1) := by decide +kernel
theorem d_M_lacks_18 : decode b_M_lacks 18 = .ok (.goto 4, 3) := by decide +kernel
theorem d_M_lacks_21 : decode b_M_lacks 21 = .ok (.iconst 0, 1) := by decide +kernel
theorem d_M_lacks_22 : decode b_M_lacks 22 = .ok (.ireturn, 1) := by decide +kernel
def f_M_lacks (a1 : Bool) (M : Mem) : Option (Bool × Mem) :=
  if a1 = true then (nm (put M 145 8 (0 : Int32)) fun (M1 : Mem) => if a1 = true then (some (false, M1)) else (some (true, M1))) else (nm (put M 145 8 (1 : Int32)) fun (M2 : Mem) => if a1 = true then (some (false, M2)) else (some (true, M2)))
set_option maxHeartbeats 4000000 in
set_option maxRecDepth 100000 in
theorem c_M_lacks (l : Launch) {w : Wc} {rr : Nat} (hw : WM w rr) (a1 : Bool) (M : Mem) : Ct QZ l y_M_lacks b_M_lacks 2 (some .boolean) (rmL 0) w [.ref (wad w 145), .int (b2i a1)] M (f_M_lacks a1 M) := by
  refine Ct.go (by decide) (L := [(0, .ref (wad w 145)), (1, .int (b2i a1))]) rfl (Nat.le_of_ble_eq_true rfl) (fun p0 e s m args below meth c g hret => ?_)
  unfold f_M_lacks
  refine G_aload_n g (pc := 0) 0 d_M_lacks_0 rfl rfl ?_
  refine G_iload_n g (pc := 1) 1 d_M_lacks_1 rfl rfl ?_
  refine G_if_eqB g (pc := 2) 9 d_M_lacks_2 (by decide) ?_ ?_
  · refine G_iconst g (pc := 5) (0 : Int32) d_M_lacks_5 rfl ?_
    refine G_goto g (pc := 6) 10 d_M_lacks_6 (by decide) ?_
    refine G_put g (pc := 10) fa_M_76 fw_10_8 rfl rfl (hw.mm 145 (Nat.le_of_ble_eq_true rfl) (Nat.le_of_ble_eq_true rfl)) (hw.k (zk145 rr)) d_M_lacks_10 ?_
    refine G_nmM (fun M1 => ?_)
    refine G_iload_n g (pc := 13) 1 d_M_lacks_13 rfl rfl ?_
    refine G_if_neB g (pc := 14) 21 d_M_lacks_14 (by decide) ?_ ?_
    · refine G_iconst g (pc := 21) (0 : Int32) d_M_lacks_21 rfl ?_
      exact G_zreturn g (pc := 22) false rfl hret (Nat.le_of_ble_eq_true rfl) (Nat.le_of_ble_eq_true rfl) d_M_lacks_22
    · refine G_iconst g (pc := 17) (1 : Int32) d_M_lacks_17 rfl ?_
      refine G_goto g (pc := 18) 22 d_M_lacks_18 (by decide) ?_
      exact G_zreturn g (pc := 22) true rfl hret (Nat.le_of_ble_eq_true rfl) (Nat.le_of_ble_eq_true rfl) d_M_lacks_22
  · refine G_iconst g (pc := 9) (1 : Int32) d_M_lacks_9 rfl ?_
    refine G_put g (pc := 10) fa_M_76 fw_10_8 rfl rfl (hw.mm 145 (Nat.le_of_ble_eq_true rfl) (Nat.le_of_ble_eq_true rfl)) (hw.k (zk145 rr)) d_M_lacks_10 ?_
    refine G_nmM (fun M2 => ?_)
    refine G_iload_n g (pc := 13) 1 d_M_lacks_13 rfl rfl ?_
    refine G_if_neB g (pc := 14) 21 d_M_lacks_14 (by decide) ?_ ?_
    · refine G_iconst g (pc := 21) (0 : Int32) d_M_lacks_21 rfl ?_
      exact G_zreturn g (pc := 22) false rfl hret (Nat.le_of_ble_eq_true rfl) (Nat.le_of_ble_eq_true rfl) d_M_lacks_22
    · refine G_iconst g (pc := 17) (1 : Int32) d_M_lacks_17 rfl ?_
      refine G_goto g (pc := 18) 22 d_M_lacks_18 (by decide) ?_
      exact G_zreturn g (pc := 22) true rfl hret (Nat.le_of_ble_eq_true rfl) (Nat.le_of_ble_eq_true rfl) d_M_lacks_22

theorem d_M_sizeOf_0 : decode b_M_sizeOf 0 = .ok (.iload_n 0, 1) := by decide +kernel
theorem d_M_sizeOf_1 : decode b_M_sizeOf 1 = .ok (.ifCond .ge 8, 3) := by decide +kernel
theorem d_M_sizeOf_4 : decode b_M_sizeOf 4 = .ok (.iload_n 0, 1) := by decide +kernel
theorem d_M_sizeOf_5 : decode b_M_sizeOf 5 = .ok (.ineg, 1) := by decide +kernel
theorem d_M_sizeOf_6 : decode b_M_sizeOf 6 = .ok (.goto 4, 3) := by decide +kernel
theorem d_M_sizeOf_9 : decode b_M_sizeOf 9 = .ok (.iload_n 0, 1) := by decide +kernel
theorem d_M_sizeOf_10 : decode b_M_sizeOf 10 = .ok (.ireturn, 1) := by decide +kernel
def f_M_sizeOf (a1 : Int32) (M : Mem) : Option (Int32 × Mem) :=
  if a1 < 0 then (some (-a1, M)) else (some (a1, M))
set_option maxHeartbeats 4000000 in
set_option maxRecDepth 100000 in
theorem c_M_sizeOf (l : Launch) {w : Wc} {rr : Nat} (hw : WM w rr) (a1 : Int32) (M : Mem) : Ct QI l y_M_sizeOf b_M_sizeOf 1 (some .int) (rmL 0) w [.int a1] M (f_M_sizeOf a1 M) := by
  refine Ct.go (by decide) (L := [(0, .int a1)]) rfl (Nat.le_of_ble_eq_true rfl) (fun p0 e s m args below meth c g hret => ?_)
  unfold f_M_sizeOf
  refine G_iload_n g (pc := 0) 0 d_M_sizeOf_0 rfl rfl ?_
  refine G_if_ge g (pc := 1) 9 d_M_sizeOf_1 (by decide) ?_ ?_
  · refine G_iload_n g (pc := 4) 0 d_M_sizeOf_4 rfl rfl ?_
    refine G_ineg g (pc := 5) d_M_sizeOf_5 ?_
    refine G_goto g (pc := 6) 10 d_M_sizeOf_6 (by decide) ?_
    exact G_ireturn g (pc := 10) hret (Nat.le_of_ble_eq_true rfl) (Nat.le_of_ble_eq_true rfl) d_M_sizeOf_10
  · refine G_iload_n g (pc := 9) 0 d_M_sizeOf_9 rfl rfl ?_
    exact G_ireturn g (pc := 10) hret (Nat.le_of_ble_eq_true rfl) (Nat.le_of_ble_eq_true rfl) d_M_sizeOf_10

theorem d_M_least_0 : decode b_M_least 0 = .ok (.iload_n 0, 1) := by decide +kernel
theorem d_M_least_1 : decode b_M_least 1 = .ok (.iload_n 1, 1) := by decide +kernel
theorem d_M_least_2 : decode b_M_least 2 = .ok (.if_icmp .ge 7, 3) := by decide +kernel
theorem d_M_least_5 : decode b_M_least 5 = .ok (.iload_n 0, 1) := by decide +kernel
theorem d_M_least_6 : decode b_M_least 6 = .ok (.goto 4, 3) := by decide +kernel
theorem d_M_least_9 : decode b_M_least 9 = .ok (.iload_n 1, 1) := by decide +kernel
theorem d_M_least_10 : decode b_M_least 10 = .ok (.ireturn, 1) := by decide +kernel
def f_M_least (a1 : Int32) (a2 : Int32) (M : Mem) : Option (Int32 × Mem) :=
  if a1 < a2 then (some (a1, M)) else (some (a2, M))
set_option maxHeartbeats 4000000 in
set_option maxRecDepth 100000 in
theorem c_M_least (l : Launch) {w : Wc} {rr : Nat} (hw : WM w rr) (a1 : Int32) (a2 : Int32) (M : Mem) : Ct QI l y_M_least b_M_least 2 (some .int) (rmL 0) w [.int a1, .int a2] M (f_M_least a1 a2 M) := by
  refine Ct.go (by decide) (L := [(0, .int a1), (1, .int a2)]) rfl (Nat.le_of_ble_eq_true rfl) (fun p0 e s m args below meth c g hret => ?_)
  unfold f_M_least
  refine G_iload_n g (pc := 0) 0 d_M_least_0 rfl rfl ?_
  refine G_iload_n g (pc := 1) 1 d_M_least_1 rfl rfl ?_
  refine G_icmp_ge g (pc := 2) 9 d_M_least_2 (by decide) ?_ ?_
  · refine G_iload_n g (pc := 5) 0 d_M_least_5 rfl rfl ?_
    refine G_goto g (pc := 6) 10 d_M_least_6 (by decide) ?_
    exact G_ireturn g (pc := 10) hret (Nat.le_of_ble_eq_true rfl) (Nat.le_of_ble_eq_true rfl) d_M_least_10
  · refine G_iload_n g (pc := 9) 1 d_M_least_9 rfl rfl ?_
    exact G_ireturn g (pc := 10) hret (Nat.le_of_ble_eq_true rfl) (Nat.le_of_ble_eq_true rfl) d_M_least_10

theorem d_M_most_0 : decode b_M_most 0 = .ok (.iload_n 0, 1) := by decide +kernel
theorem d_M_most_1 : decode b_M_most 1 = .ok (.iload_n 1, 1) := by decide +kernel
theorem d_M_most_2 : decode b_M_most 2 = .ok (.if_icmp .le 7, 3) := by decide +kernel
theorem d_M_most_5 : decode b_M_most 5 = .ok (.iload_n 0, 1) := by decide +kernel
theorem d_M_most_6 : decode b_M_most 6 = .ok (.goto 4, 3) := by decide +kernel
theorem d_M_most_9 : decode b_M_most 9 = .ok (.iload_n 1, 1) := by decide +kernel
theorem d_M_most_10 : decode b_M_most 10 = .ok (.ireturn, 1) := by decide +kernel
def f_M_most (a1 : Int32) (a2 : Int32) (M : Mem) : Option (Int32 × Mem) :=
  if a2 < a1 then (some (a1, M)) else (some (a2, M))
set_option maxHeartbeats 4000000 in
set_option maxRecDepth 100000 in
theorem c_M_most (l : Launch) {w : Wc} {rr : Nat} (hw : WM w rr) (a1 : Int32) (a2 : Int32) (M : Mem) : Ct QI l y_M_most b_M_most 2 (some .int) (rmL 0) w [.int a1, .int a2] M (f_M_most a1 a2 M) := by
  refine Ct.go (by decide) (L := [(0, .int a1), (1, .int a2)]) rfl (Nat.le_of_ble_eq_true rfl) (fun p0 e s m args below meth c g hret => ?_)
  unfold f_M_most
  refine G_iload_n g (pc := 0) 0 d_M_most_0 rfl rfl ?_
  refine G_iload_n g (pc := 1) 1 d_M_most_1 rfl rfl ?_
  refine G_icmp_le g (pc := 2) 9 d_M_most_2 (by decide) ?_ ?_
  · refine G_iload_n g (pc := 5) 0 d_M_most_5 rfl rfl ?_
    refine G_goto g (pc := 6) 10 d_M_most_6 (by decide) ?_
    exact G_ireturn g (pc := 10) hret (Nat.le_of_ble_eq_true rfl) (Nat.le_of_ble_eq_true rfl) d_M_most_10
  · refine G_iload_n g (pc := 9) 1 d_M_most_9 rfl rfl ?_
    exact G_ireturn g (pc := 10) hret (Nat.le_of_ble_eq_true rfl) (Nat.le_of_ble_eq_true rfl) d_M_most_10

theorem d_M_begin_0 : decode b_M_begin 0 = .ok (.iconst 0, 1) := by decide +kernel
theorem d_M_begin_1 : decode b_M_begin 1 = .ok (.istore 4, 2) := by decide +kernel
theorem d_M_begin_3 : decode b_M_begin 3 = .ok (.iload 4, 2) := by decide +kernel
theorem d_M_begin_5 : decode b_M_begin 5 = .ok (.sipush 405, 3) := by decide +kernel
theorem d_M_begin_8 : decode b_M_begin 8 = .ok (.if_icmp .ge 17, 3) := by decide +kernel
theorem d_M_begin_11 : decode b_M_begin 11 = .ok (.aload_n 0, 1) := by decide +kernel
theorem d_M_begin_12 : decode b_M_begin 12 = .ok (.getfield 28, 3) := by decide +kernel
theorem d_M_begin_15 : decode b_M_begin 15 = .ok (.iload 4, 2) := by decide +kernel
theorem d_M_begin_17 : decode b_M_begin 17 = .ok (.iconst 0, 1) := by decide +kernel
theorem d_M_begin_18 : decode b_M_begin 18 = .ok (.iastore, 1) := by decide +kernel
theorem d_M_begin_19 : decode b_M_begin 19 = .ok (.iinc 4 1, 3) := by decide +kernel
theorem d_M_begin_22 : decode b_M_begin 22 = .ok (.goto (-19), 3) := by decide +kernel
theorem d_M_begin_25 : decode b_M_begin 25 = .ok (.aload_n 0, 1) := by decide +kernel
theorem d_M_begin_26 : decode b_M_begin 26 = .ok (.getfield 28, 3) := by decide +kernel
theorem d_M_begin_29 : decode b_M_begin 29 = .ok (.iconst 1, 1) := by decide +kernel
theorem d_M_begin_30 : decode b_M_begin 30 = .ok (.iload_n 1, 1) := by decide +kernel
theorem d_M_begin_31 : decode b_M_begin 31 = .ok (.iastore, 1) := by decide +kernel
theorem d_M_begin_32 : decode b_M_begin 32 = .ok (.aload_n 0, 1) := by decide +kernel
theorem d_M_begin_33 : decode b_M_begin 33 = .ok (.getfield 28, 3) := by decide +kernel
theorem d_M_begin_36 : decode b_M_begin 36 = .ok (.iconst 2, 1) := by decide +kernel
theorem d_M_begin_37 : decode b_M_begin 37 = .ok (.iload_n 2, 1) := by decide +kernel
theorem d_M_begin_38 : decode b_M_begin 38 = .ok (.iastore, 1) := by decide +kernel
theorem d_M_begin_39 : decode b_M_begin 39 = .ok (.aload_n 0, 1) := by decide +kernel
theorem d_M_begin_40 : decode b_M_begin 40 = .ok (.getfield 28, 3) := by decide +kernel
theorem d_M_begin_43 : decode b_M_begin 43 = .ok (.iconst 3, 1) := by decide +kernel
theorem d_M_begin_44 : decode b_M_begin 44 = .ok (.iload_n 3, 1) := by decide +kernel
theorem d_M_begin_45 : decode b_M_begin 45 = .ok (.iastore, 1) := by decide +kernel
theorem d_M_begin_46 : decode b_M_begin 46 = .ok (.return_, 1) := by decide +kernel
def lp_M_begin_3 (N0 rr : Nat) (a1 : Int32) (a2 : Int32) (a3 : Int32)  : Nat → Int32 → Mem → (Int32 → Mem → Option (Mem)) → Option (Mem)
  | 0, _, _, _ => none
  | N + 1, v3, M, k3 => if v3 < (405 : Int32) then (grd (inB v3 405) (nm (put M rr v3.toNatClampNeg (0 : Int32)) fun (M1 : Mem) => nm (v3 + (1 : Int32)) fun (x2 : Int32) => lp_M_begin_3 N0 rr a1 a2 a3 N x2 M1 k3)) else (k3 v3 M)
def f_M_begin (N : Nat) (rr : Nat) (a1 : Int32) (a2 : Int32) (a3 : Int32) (M : Mem) : Option (Mem) :=
  lp_M_begin_3 N rr a1 a2 a3 N (0 : Int32) M (fun (a4 : Int32) (M3 : Mem) => nm (put M3 rr 1 a1) fun (M5 : Mem) => nm (put M5 rr 2 a2) fun (M6 : Mem) => nm (put M6 rr 3 a3) fun (M7 : Mem) => some M7)
set_option maxHeartbeats 4000000 in
set_option maxRecDepth 100000 in
theorem c_M_begin (l : Launch) (N : Nat) {w : Wc} {rr : Nat} (hw : WM w rr) (a1 : Int32) (a2 : Int32) (a3 : Int32) (M : Mem) : Ct QV l y_M_begin b_M_begin 5 none (rmL 0) w [.ref (wad w 145), .int a1, .int a2, .int a3] M (f_M_begin N rr a1 a2 a3 M) := by
  refine Ct.go (by decide) (L := [(0, .ref (wad w 145)), (1, .int a1), (2, .int a2), (3, .int a3)]) rfl (Nat.le_of_ble_eq_true rfl) (fun p0 e s m args below meth c g hret => ?_)
  unfold f_M_begin
  refine G_iconst g (pc := 0) (0 : Int32) d_M_begin_0 rfl ?_
  refine G_istore g (pc := 1) _ d_M_begin_1 (Nat.le_of_ble_eq_true rfl) rfl ?_
  refine G_sub [1, 2, 3, 4, 0] _ rfl ?_
  refine G_loop (F := lp_M_begin_3 N rr a1 a2 a3) 3 25 (fun (v3 : Int32) => [(0, .ref (wad w 145)), (1, .int a1), (2, .int a2), (3, .int a3), (4, .int v3)]) (fun (v3 : Int32) => [(0, .ref (wad w 145)), (1, .int a1), (2, .int a2), (3, .int a3), (4, .int v3)]) (fun _ _ _ => rfl) (fun a4 M3 => ?_) (fun k3 hk3 Nl3 ih3 v3 M => ?_) N (0 : Int32) M
  · refine G_aload_n g (pc := 25) 0 d_M_begin_25 rfl rfl ?_
    refine G_getR g (pc := 26) fa_M_28 (hw.mm 145 (Nat.le_of_ble_eq_true rfl) (Nat.le_of_ble_eq_true rfl)) (hw.k (zk145 rr)) (hw.r hw.rr) d_M_begin_26 ?_
    refine G_iconst g (pc := 29) (1 : Int32) d_M_begin_29 rfl ?_
    refine G_iload_n g (pc := 30) 1 d_M_begin_30 rfl rfl ?_
    refine G_iastK g (pc := 31) (nn := 405) 1 rfl rfl hw.mr hw.kr hw.nr d_M_begin_31 ?_
    refine G_nmM (fun M5 => ?_)
    refine G_aload_n g (pc := 32) 0 d_M_begin_32 rfl rfl ?_
    refine G_getR g (pc := 33) fa_M_28 (hw.mm 145 (Nat.le_of_ble_eq_true rfl) (Nat.le_of_ble_eq_true rfl)) (hw.k (zk145 rr)) (hw.r hw.rr) d_M_begin_33 ?_
    refine G_iconst g (pc := 36) (2 : Int32) d_M_begin_36 rfl ?_
    refine G_iload_n g (pc := 37) 2 d_M_begin_37 rfl rfl ?_
    refine G_iastK g (pc := 38) (nn := 405) 2 rfl rfl hw.mr hw.kr hw.nr d_M_begin_38 ?_
    refine G_nmM (fun M6 => ?_)
    refine G_aload_n g (pc := 39) 0 d_M_begin_39 rfl rfl ?_
    refine G_getR g (pc := 40) fa_M_28 (hw.mm 145 (Nat.le_of_ble_eq_true rfl) (Nat.le_of_ble_eq_true rfl)) (hw.k (zk145 rr)) (hw.r hw.rr) d_M_begin_40 ?_
    refine G_iconst g (pc := 43) (3 : Int32) d_M_begin_43 rfl ?_
    refine G_iload_n g (pc := 44) 3 d_M_begin_44 rfl rfl ?_
    refine G_iastK g (pc := 45) (nn := 405) 3 rfl rfl hw.mr hw.kr hw.nr d_M_begin_45 ?_
    refine G_nmM (fun M7 => ?_)
    exact G_return g (pc := 46) hret (Nat.le_of_ble_eq_true rfl) (Nat.le_of_ble_eq_true rfl) d_M_begin_46
  · show Go p0 l e _ s m args below meth c w _ _ _ _ (lp_M_begin_3 N rr a1 a2 a3 (Nl3 + 1) v3 M k3) 3 _ _ M
    unfold lp_M_begin_3
    refine G_iload g (pc := 3) 4 d_M_begin_3 rfl ?_
    refine G_sipush g (pc := 5) (405 : Int32) d_M_begin_5 rfl ?_
    refine G_icmp_ge g (pc := 8) 25 d_M_begin_8 (by decide) ?_ ?_
    · refine G_aload_n g (pc := 11) 0 d_M_begin_11 rfl rfl ?_
      refine G_getR g (pc := 12) fa_M_28 (hw.mm 145 (Nat.le_of_ble_eq_true rfl) (Nat.le_of_ble_eq_true rfl)) (hw.k (zk145 rr)) (hw.r hw.rr) d_M_begin_12 ?_
      refine G_iload g (pc := 15) 4 d_M_begin_15 rfl ?_
      refine G_iconst g (pc := 17) (0 : Int32) d_M_begin_17 rfl ?_
      refine G_iast g (pc := 18) (nn := 405) hw.mr hw.kr hw.nr d_M_begin_18 ?_
      refine G_nmM (fun M1 => ?_)
      refine G_nmX (v3 + (1 : Int32)) (fun x2 e_x2 => ?_)
      refine G_iinc g (pc := 19) x2 _ 4 d_M_begin_19 rfl e_x2.symm (Nat.le_of_ble_eq_true rfl) rfl ?_
      refine G_goto g (pc := 22) 3 d_M_begin_22 (by decide) ?_
      refine G_sub [1, 2, 3, 4, 0] _ rfl ?_
      exact ih3 x2 M1
    · refine G_sub [0, 1, 2, 3, 4] _ rfl ?_
      exact hk3 v3 M

theorem d_M_addGust_0 : decode b_M_addGust 0 = .ok (.aload_n 0, 1) := by decide +kernel
theorem d_M_addGust_1 : decode b_M_addGust 1 = .ok (.getfield 28, 3) := by decide +kernel
theorem d_M_addGust_4 : decode b_M_addGust 4 = .ok (.bipush 21, 2) := by decide +kernel
theorem d_M_addGust_6 : decode b_M_addGust 6 = .ok (.aload_n 0, 1) := by decide +kernel
theorem d_M_addGust_7 : decode b_M_addGust 7 = .ok (.getfield 28, 3) := by decide +kernel
theorem d_M_addGust_10 : decode b_M_addGust 10 = .ok (.iconst 5, 1) := by decide +kernel
theorem d_M_addGust_11 : decode b_M_addGust 11 = .ok (.iaload, 1) := by decide +kernel
theorem d_M_addGust_12 : decode b_M_addGust 12 = .ok (.iadd, 1) := by decide +kernel
theorem d_M_addGust_13 : decode b_M_addGust 13 = .ok (.iload_n 1, 1) := by decide +kernel
theorem d_M_addGust_14 : decode b_M_addGust 14 = .ok (.iastore, 1) := by decide +kernel
theorem d_M_addGust_15 : decode b_M_addGust 15 = .ok (.aload_n 0, 1) := by decide +kernel
theorem d_M_addGust_16 : decode b_M_addGust 16 = .ok (.getfield 28, 3) := by decide +kernel
theorem d_M_addGust_19 : decode b_M_addGust 19 = .ok (.iconst 5, 1) := by decide +kernel
theorem d_M_addGust_20 : decode b_M_addGust 20 = .ok (.dup2, 1) := by decide +kernel
theorem d_M_addGust_21 : decode b_M_addGust 21 = .ok (.iaload, 1) := by decide +kernel
theorem d_M_addGust_22 : decode b_M_addGust 22 = .ok (.iconst 1, 1) := by decide +kernel
theorem d_M_addGust_23 : decode b_M_addGust 23 = .ok (.iadd, 1) := by decide +kernel
theorem d_M_addGust_24 : decode b_M_addGust 24 = .ok (.iastore, 1) := by decide +kernel
theorem d_M_addGust_25 : decode b_M_addGust 25 = .ok (.return_, 1) := by decide +kernel
def f_M_addGust (rr : Nat) (a1 : Int32) (M : Mem) : Option (Mem) :=
  grd (inB ((21 : Int32) + (M rr 5)) 405) (nm (put M rr ((21 : Int32) + (M rr 5)).toNatClampNeg a1) fun (M1 : Mem) => nm (put M1 rr 5 ((M1 rr 5) + (1 : Int32))) fun (M2 : Mem) => some M2)
set_option maxHeartbeats 4000000 in
set_option maxRecDepth 100000 in
theorem c_M_addGust (l : Launch) {w : Wc} {rr : Nat} (hw : WM w rr) (a1 : Int32) (M : Mem) : Ct QV l y_M_addGust b_M_addGust 2 none (rmL 0) w [.ref (wad w 145), .int a1] M (f_M_addGust rr a1 M) := by
  refine Ct.go (by decide) (L := [(0, .ref (wad w 145)), (1, .int a1)]) rfl (Nat.le_of_ble_eq_true rfl) (fun p0 e s m args below meth c g hret => ?_)
  unfold f_M_addGust
  refine G_aload_n g (pc := 0) 0 d_M_addGust_0 rfl rfl ?_
  refine G_getR g (pc := 1) fa_M_28 (hw.mm 145 (Nat.le_of_ble_eq_true rfl) (Nat.le_of_ble_eq_true rfl)) (hw.k (zk145 rr)) (hw.r hw.rr) d_M_addGust_1 ?_
  refine G_bipush g (pc := 4) (21 : Int32) d_M_addGust_4 rfl ?_
  refine G_aload_n g (pc := 6) 0 d_M_addGust_6 rfl rfl ?_
  refine G_getR g (pc := 7) fa_M_28 (hw.mm 145 (Nat.le_of_ble_eq_true rfl) (Nat.le_of_ble_eq_true rfl)) (hw.k (zk145 rr)) (hw.r hw.rr) d_M_addGust_7 ?_
  refine G_iconst g (pc := 10) (5 : Int32) d_M_addGust_10 rfl ?_
  refine G_ialdK g (pc := 11) (nn := 405) 5 rfl rfl hw.mr hw.kr hw.nr d_M_addGust_11 ?_
  refine G_iadd g (pc := 12) d_M_addGust_12 ?_
  refine G_iload_n g (pc := 13) 1 d_M_addGust_13 rfl rfl ?_
  refine G_iast g (pc := 14) (nn := 405) hw.mr hw.kr hw.nr d_M_addGust_14 ?_
  refine G_nmM (fun M1 => ?_)
  refine G_aload_n g (pc := 15) 0 d_M_addGust_15 rfl rfl ?_
  refine G_getR g (pc := 16) fa_M_28 (hw.mm 145 (Nat.le_of_ble_eq_true rfl) (Nat.le_of_ble_eq_true rfl)) (hw.k (zk145 rr)) (hw.r hw.rr) d_M_addGust_16 ?_
  refine G_iconst g (pc := 19) (5 : Int32) d_M_addGust_19 rfl ?_
  refine G_dup2 g (pc := 20) d_M_addGust_20 rfl rfl ?_
  refine G_ialdK g (pc := 21) (nn := 405) 5 rfl rfl hw.mr hw.kr hw.nr d_M_addGust_21 ?_
  refine G_iconst g (pc := 22) (1 : Int32) d_M_addGust_22 rfl ?_
  refine G_iadd g (pc := 23) d_M_addGust_23 ?_
  refine G_iastK g (pc := 24) (nn := 405) 5 rfl rfl hw.mr hw.kr hw.nr d_M_addGust_24 ?_
  refine G_nmM (fun M2 => ?_)
  exact G_return g (pc := 25) hret (Nat.le_of_ble_eq_true rfl) (Nat.le_of_ble_eq_true rfl) d_M_addGust_25

theorem d_M_gustOf_0 : decode b_M_gustOf 0 = .ok (.aload_n 0, 1) := by decide +kernel
theorem d_M_gustOf_1 : decode b_M_gustOf 1 = .ok (.getfield 28, 3) := by decide +kernel
theorem d_M_gustOf_4 : decode b_M_gustOf 4 = .ok (.bipush 21, 2) := by decide +kernel
theorem d_M_gustOf_6 : decode b_M_gustOf 6 = .ok (.iload_n 1, 1) := by decide +kernel
theorem d_M_gustOf_7 : decode b_M_gustOf 7 = .ok (.aload_n 0, 1) := by decide +kernel
theorem d_M_gustOf_8 : decode b_M_gustOf 8 = .ok (.getfield 28, 3) := by decide +kernel
theorem d_M_gustOf_11 : decode b_M_gustOf 11 = .ok (.iconst 5, 1) := by decide +kernel
theorem d_M_gustOf_12 : decode b_M_gustOf 12 = .ok (.iaload, 1) := by decide +kernel
theorem d_M_gustOf_13 : decode b_M_gustOf 13 = .ok (.irem, 1) := by decide +kernel
theorem d_M_gustOf_14 : decode b_M_gustOf 14 = .ok (.iadd, 1) := by decide +kernel
theorem d_M_gustOf_15 : decode b_M_gustOf 15 = .ok (.iaload, 1) := by decide +kernel
theorem d_M_gustOf_16 : decode b_M_gustOf 16 = .ok (.ireturn, 1) := by decide +kernel
def f_M_gustOf (rr : Nat) (a1 : Int32) (M : Mem) : Option (Int32 × Mem) :=
  grd (nzB (M rr 5)) (grd (inB ((21 : Int32) + (irm a1 (M rr 5))) 405) (some (M rr ((21 : Int32) + (irm a1 (M rr 5))).toNatClampNeg, M)))
set_option maxHeartbeats 4000000 in
set_option maxRecDepth 100000 in
theorem c_M_gustOf (l : Launch) {w : Wc} {rr : Nat} (hw : WM w rr) (a1 : Int32) (M : Mem) : Ct QI l y_M_gustOf b_M_gustOf 2 (some .int) (rmL 0) w [.ref (wad w 145), .int a1] M (f_M_gustOf rr a1 M) := by
  refine Ct.go (by decide) (L := [(0, .ref (wad w 145)), (1, .int a1)]) rfl (Nat.le_of_ble_eq_true rfl) (fun p0 e s m args below meth c g hret => ?_)
  unfold f_M_gustOf
  refine G_aload_n g (pc := 0) 0 d_M_gustOf_0 rfl rfl ?_
  refine G_getR g (pc := 1) fa_M_28 (hw.mm 145 (Nat.le_of_ble_eq_true rfl) (Nat.le_of_ble_eq_true rfl)) (hw.k (zk145 rr)) (hw.r hw.rr) d_M_gustOf_1 ?_
  refine G_bipush g (pc := 4) (21 : Int32) d_M_gustOf_4 rfl ?_
  refine G_iload_n g (pc := 6) 1 d_M_gustOf_6 rfl rfl ?_
  refine G_aload_n g (pc := 7) 0 d_M_gustOf_7 rfl rfl ?_
  refine G_getR g (pc := 8) fa_M_28 (hw.mm 145 (Nat.le_of_ble_eq_true rfl) (Nat.le_of_ble_eq_true rfl)) (hw.k (zk145 rr)) (hw.r hw.rr) d_M_gustOf_8 ?_
  refine G_iconst g (pc := 11) (5 : Int32) d_M_gustOf_11 rfl ?_
  refine G_ialdK g (pc := 12) (nn := 405) 5 rfl rfl hw.mr hw.kr hw.nr d_M_gustOf_12 ?_
  refine G_irem g (pc := 13) d_M_gustOf_13 ?_
  refine G_iadd g (pc := 14) d_M_gustOf_14 ?_
  refine G_iald g (pc := 15) (nn := 405) hw.mr hw.kr hw.nr d_M_gustOf_15 ?_
  exact G_ireturn g (pc := 16) hret (Nat.le_of_ble_eq_true rfl) (Nat.le_of_ble_eq_true rfl) d_M_gustOf_16

theorem d_M_windNow_0 : decode b_M_windNow 0 = .ok (.aload_n 0, 1) := by decide +kernel
theorem d_M_windNow_1 : decode b_M_windNow 1 = .ok (.aload_n 0, 1) := by decide +kernel
theorem d_M_windNow_2 : decode b_M_windNow 2 = .ok (.getfield 28, 3) := by decide +kernel
theorem d_M_windNow_5 : decode b_M_windNow 5 = .ok (.iconst 0, 1) := by decide +kernel
theorem d_M_windNow_6 : decode b_M_windNow 6 = .ok (.iaload, 1) := by decide +kernel
theorem d_M_windNow_7 : decode b_M_windNow 7 = .ok (.invokevirtual 79, 3) := by decide +kernel
theorem d_M_windNow_10 : decode b_M_windNow 10 = .ok (.iload_n 1, 1) := by decide +kernel
theorem d_M_windNow_11 : decode b_M_windNow 11 = .ok (.bipush 100, 2) := by decide +kernel
theorem d_M_windNow_13 : decode b_M_windNow 13 = .ok (.idiv, 1) := by decide +kernel
theorem d_M_windNow_14 : decode b_M_windNow 14 = .ok (.iadd, 1) := by decide +kernel
theorem d_M_windNow_15 : decode b_M_windNow 15 = .ok (.ireturn, 1) := by decide +kernel
theorem cc_M_79 : CV "KiteLoggerModel" 79 y_M_gustOf b_M_gustOf 2 (some .int) 1 := ⟨TT_in (i := 1470) (by decide +kernel) (by decide +kernel), TT_in (i := 1472) (by decide +kernel) (by decide +kernel), TT_in (i := 26) (by decide +kernel) (by decide +kernel), TT_in (i := 100) (by decide +kernel) (by decide +kernel), TT_in (i := 1473) (by decide +kernel) (by decide +kernel), ⟨by decide +kernel, by decide +kernel, by decide +kernel⟩⟩
def f_M_windNow (rr : Nat) (a1 : Int32) (M : Mem) : Option (Int32 × Mem) :=
  bnd (f_M_gustOf rr (M rr 0) M) fun (x1 : Int32) (M2 : Mem) => some (x1 + (a1 / (100 : Int32)), M2)
set_option maxHeartbeats 4000000 in
set_option maxRecDepth 100000 in
theorem c_M_windNow (l : Launch) {w : Wc} {rr : Nat} (hw : WM w rr) (a1 : Int32) (M : Mem) : Ct QI l y_M_windNow b_M_windNow 2 (some .int) (rmL 1) w [.ref (wad w 145), .int a1] M (f_M_windNow rr a1 M) := by
  refine Ct.go (by decide) (L := [(0, .ref (wad w 145)), (1, .int a1)]) rfl (Nat.le_of_ble_eq_true rfl) (fun p0 e s m args below meth c g hret => ?_)
  unfold f_M_windNow
  refine G_aload_n g (pc := 0) 0 d_M_windNow_0 rfl rfl ?_
  refine G_aload_n g (pc := 1) 0 d_M_windNow_1 rfl rfl ?_
  refine G_getR g (pc := 2) fa_M_28 (hw.mm 145 (Nat.le_of_ble_eq_true rfl) (Nat.le_of_ble_eq_true rfl)) (hw.k (zk145 rr)) (hw.r hw.rr) d_M_windNow_2 ?_
  refine G_iconst g (pc := 5) (0 : Int32) d_M_windNow_5 rfl ?_
  refine G_ialdK g (pc := 6) (nn := 405) 0 rfl rfl hw.mr hw.kr hw.nr d_M_windNow_6 ?_
  refine G_cVI g (pc := 7) (As := [.int (M rr 0)]) (st := []) cc_M_79 (c_M_gustOf l hw (M rr 0) M) (hw.mm 145 (Nat.le_of_ble_eq_true rfl) (Nat.le_of_ble_eq_true rfl)) (hw.k (zk145 rr)) rfl (by decide) rfl ⟨(Nat.le_of_ble_eq_true rfl), (Nat.le_of_ble_eq_true rfl)⟩ ⟨(Nat.le_of_ble_eq_true rfl), (Nat.le_of_ble_eq_true rfl)⟩ (Nat.le_of_ble_eq_true rfl) d_M_windNow_7 (fun x1 M2 => ?_)
  refine G_iload_n g (pc := 10) 1 d_M_windNow_10 rfl rfl ?_
  refine G_bipush g (pc := 11) (100 : Int32) d_M_windNow_11 rfl ?_
  refine G_idivK g (pc := 13) (by decide) d_M_windNow_13 ?_
  refine G_iadd g (pc := 14) d_M_windNow_14 ?_
  exact G_ireturn g (pc := 15) hret (Nat.le_of_ble_eq_true rfl) (Nat.le_of_ble_eq_true rfl) d_M_windNow_15

theorem d_M_load_0 : decode b_M_load 0 = .ok (.aload_n 0, 1) := by decide +kernel
theorem d_M_load_1 : decode b_M_load 1 = .ok (.getfield 28, 3) := by decide +kernel
theorem d_M_load_4 : decode b_M_load 4 = .ok (.iconst 1, 1) := by decide +kernel
theorem d_M_load_5 : decode b_M_load 5 = .ok (.iaload, 1) := by decide +kernel
theorem d_M_load_6 : decode b_M_load 6 = .ok (.iload_n 1, 1) := by decide +kernel
theorem d_M_load_7 : decode b_M_load 7 = .ok (.imul, 1) := by decide +kernel
theorem d_M_load_8 : decode b_M_load 8 = .ok (.iload_n 1, 1) := by decide +kernel
theorem d_M_load_9 : decode b_M_load 9 = .ok (.imul, 1) := by decide +kernel
theorem d_M_load_10 : decode b_M_load 10 = .ok (.bipush 8, 2) := by decide +kernel
theorem d_M_load_12 : decode b_M_load 12 = .ok (.idiv, 1) := by decide +kernel
theorem d_M_load_13 : decode b_M_load 13 = .ok (.ireturn, 1) := by decide +kernel
def f_M_load (rr : Nat) (a1 : Int32) (M : Mem) : Option (Int32 × Mem) :=
  some ((((M rr 1) * a1) * a1) / (8 : Int32), M)
set_option maxHeartbeats 4000000 in
set_option maxRecDepth 100000 in
theorem c_M_load (l : Launch) {w : Wc} {rr : Nat} (hw : WM w rr) (a1 : Int32) (M : Mem) : Ct QI l y_M_load b_M_load 2 (some .int) (rmL 0) w [.ref (wad w 145), .int a1] M (f_M_load rr a1 M) := by
  refine Ct.go (by decide) (L := [(0, .ref (wad w 145)), (1, .int a1)]) rfl (Nat.le_of_ble_eq_true rfl) (fun p0 e s m args below meth c g hret => ?_)
  unfold f_M_load
  refine G_aload_n g (pc := 0) 0 d_M_load_0 rfl rfl ?_
  refine G_getR g (pc := 1) fa_M_28 (hw.mm 145 (Nat.le_of_ble_eq_true rfl) (Nat.le_of_ble_eq_true rfl)) (hw.k (zk145 rr)) (hw.r hw.rr) d_M_load_1 ?_
  refine G_iconst g (pc := 4) (1 : Int32) d_M_load_4 rfl ?_
  refine G_ialdK g (pc := 5) (nn := 405) 1 rfl rfl hw.mr hw.kr hw.nr d_M_load_5 ?_
  refine G_iload_n g (pc := 6) 1 d_M_load_6 rfl rfl ?_
  refine G_imul g (pc := 7) d_M_load_7 ?_
  refine G_iload_n g (pc := 8) 1 d_M_load_8 rfl rfl ?_
  refine G_imul g (pc := 9) d_M_load_9 ?_
  refine G_bipush g (pc := 10) (8 : Int32) d_M_load_10 rfl ?_
  refine G_idivK g (pc := 12) (by decide) d_M_load_12 ?_
  exact G_ireturn g (pc := 13) hret (Nat.le_of_ble_eq_true rfl) (Nat.le_of_ble_eq_true rfl) d_M_load_13

theorem d_M_is_0 : decode b_M_is 0 = .ok (.aload_n 0, 1) := by decide +kernel
theorem d_M_is_1 : decode b_M_is 1 = .ok (.getfield 28, 3) := by decide +kernel
theorem d_M_is_4 : decode b_M_is 4 = .ok (.bipush 6, 2) := by decide +kernel
theorem d_M_is_6 : decode b_M_is 6 = .ok (.iaload, 1) := by decide +kernel
theorem d_M_is_7 : decode b_M_is 7 = .ok (.iload_n 1, 1) := by decide +kernel
theorem d_M_is_8 : decode b_M_is 8 = .ok (.if_icmp .ne 7, 3) := by decide +kernel
theorem d_M_is_11 : decode b_M_is 11 = .ok (.iconst 1, 1) := by decide +kernel
theorem d_M_is_12 : decode b_M_is 12 = .ok (.goto 4, 3) := by decide +kernel
theorem d_M_is_15 : decode b_M_is 15 = .ok (.iconst 0, 1) := by decide +kernel
theorem d_M_is_16 : decode b_M_is 16 = .ok (.ireturn, 1) := by decide +kernel
def f_M_is (rr : Nat) (a1 : Int32) (M : Mem) : Option (Bool × Mem) :=
  if (M rr 6) = a1 then (some (true, M)) else (some (false, M))
set_option maxHeartbeats 4000000 in
set_option maxRecDepth 100000 in
theorem c_M_is (l : Launch) {w : Wc} {rr : Nat} (hw : WM w rr) (a1 : Int32) (M : Mem) : Ct QZ l y_M_is b_M_is 2 (some .boolean) (rmL 0) w [.ref (wad w 145), .int a1] M (f_M_is rr a1 M) := by
  refine Ct.go (by decide) (L := [(0, .ref (wad w 145)), (1, .int a1)]) rfl (Nat.le_of_ble_eq_true rfl) (fun p0 e s m args below meth c g hret => ?_)
  unfold f_M_is
  refine G_aload_n g (pc := 0) 0 d_M_is_0 rfl rfl ?_
  refine G_getR g (pc := 1) fa_M_28 (hw.mm 145 (Nat.le_of_ble_eq_true rfl) (Nat.le_of_ble_eq_true rfl)) (hw.k (zk145 rr)) (hw.r hw.rr) d_M_is_1 ?_
  refine G_bipush g (pc := 4) (6 : Int32) d_M_is_4 rfl ?_
  refine G_ialdK g (pc := 6) (nn := 405) 6 rfl rfl hw.mr hw.kr hw.nr d_M_is_6 ?_
  refine G_iload_n g (pc := 7) 1 d_M_is_7 rfl rfl ?_
  refine G_icmp_ne g (pc := 8) 15 d_M_is_8 (by decide) ?_ ?_
  · refine G_iconst g (pc := 11) (1 : Int32) d_M_is_11 rfl ?_
    refine G_goto g (pc := 12) 16 d_M_is_12 (by decide) ?_
    exact G_zreturn g (pc := 16) true rfl hret (Nat.le_of_ble_eq_true rfl) (Nat.le_of_ble_eq_true rfl) d_M_is_16
  · refine G_iconst g (pc := 15) (0 : Int32) d_M_is_15 rfl ?_
    exact G_zreturn g (pc := 16) false rfl hret (Nat.le_of_ble_eq_true rfl) (Nat.le_of_ble_eq_true rfl) d_M_is_16

theorem d_M_tick_0 : decode b_M_tick 0 = .ok (.aload_n 0, 1) := by decide +kernel
theorem d_M_tick_1 : decode b_M_tick 1 = .ok (.iconst 0, 1) := by decide +kernel
theorem d_M_tick_2 : decode b_M_tick 2 = .ok (.putfield 76, 3) := by decide +kernel
theorem d_M_tick_5 : decode b_M_tick 5 = .ok (.aload_n 0, 1) := by decide +kernel
theorem d_M_tick_6 : decode b_M_tick 6 = .ok (.getfield 28, 3) := by decide +kernel
theorem d_M_tick_9 : decode b_M_tick 9 = .ok (.iconst 0, 1) := by decide +kernel
theorem d_M_tick_10 : decode b_M_tick 10 = .ok (.iaload, 1) := by decide +kernel
theorem d_M_tick_11 : decode b_M_tick 11 = .ok (.ireturn, 1) := by decide +kernel
def f_M_tick (rr : Nat) (M : Mem) : Option (Int32 × Mem) :=
  nm (put M 145 8 (0 : Int32)) fun (M1 : Mem) => some (M1 rr 0, M1)
set_option maxHeartbeats 4000000 in
set_option maxRecDepth 100000 in
theorem c_M_tick (l : Launch) {w : Wc} {rr : Nat} (hw : WM w rr)  (M : Mem) : Ct QI l y_M_tick b_M_tick 1 (some .int) (rmL 0) w [.ref (wad w 145)] M (f_M_tick rr M) := by
  refine Ct.go (by decide) (L := [(0, .ref (wad w 145))]) rfl (Nat.le_of_ble_eq_true rfl) (fun p0 e s m args below meth c g hret => ?_)
  unfold f_M_tick
  refine G_aload_n g (pc := 0) 0 d_M_tick_0 rfl rfl ?_
  refine G_iconst g (pc := 1) (0 : Int32) d_M_tick_1 rfl ?_
  refine G_put g (pc := 2) fa_M_76 fw_10_8 rfl rfl (hw.mm 145 (Nat.le_of_ble_eq_true rfl) (Nat.le_of_ble_eq_true rfl)) (hw.k (zk145 rr)) d_M_tick_2 ?_
  refine G_nmM (fun M1 => ?_)
  refine G_aload_n g (pc := 5) 0 d_M_tick_5 rfl rfl ?_
  refine G_getR g (pc := 6) fa_M_28 (hw.mm 145 (Nat.le_of_ble_eq_true rfl) (Nat.le_of_ble_eq_true rfl)) (hw.k (zk145 rr)) (hw.r hw.rr) d_M_tick_6 ?_
  refine G_iconst g (pc := 9) (0 : Int32) d_M_tick_9 rfl ?_
  refine G_ialdK g (pc := 10) (nn := 405) 0 rfl rfl hw.mr hw.kr hw.nr d_M_tick_10 ?_
  exact G_ireturn g (pc := 11) hret (Nat.le_of_ble_eq_true rfl) (Nat.le_of_ble_eq_true rfl) d_M_tick_11

theorem d_M_patternLength_0 : decode b_M_patternLength 0 = .ok (.aload_n 0, 1) := by decide +kernel
theorem d_M_patternLength_1 : decode b_M_patternLength 1 = .ok (.iconst 0, 1) := by decide +kernel
theorem d_M_patternLength_2 : decode b_M_patternLength 2 = .ok (.putfield 76, 3) := by decide +kernel
theorem d_M_patternLength_5 : decode b_M_patternLength 5 = .ok (.aload_n 0, 1) := by decide +kernel
theorem d_M_patternLength_6 : decode b_M_patternLength 6 = .ok (.getfield 28, 3) := by decide +kernel
theorem d_M_patternLength_9 : decode b_M_patternLength 9 = .ok (.iconst 5, 1) := by decide +kernel
theorem d_M_patternLength_10 : decode b_M_patternLength 10 = .ok (.iaload, 1) := by decide +kernel
theorem d_M_patternLength_11 : decode b_M_patternLength 11 = .ok (.ireturn, 1) := by decide +kernel
def f_M_patternLength (rr : Nat) (M : Mem) : Option (Int32 × Mem) :=
  nm (put M 145 8 (0 : Int32)) fun (M1 : Mem) => some (M1 rr 5, M1)
set_option maxHeartbeats 4000000 in
set_option maxRecDepth 100000 in
theorem c_M_patternLength (l : Launch) {w : Wc} {rr : Nat} (hw : WM w rr)  (M : Mem) : Ct QI l y_M_patternLength b_M_patternLength 1 (some .int) (rmL 0) w [.ref (wad w 145)] M (f_M_patternLength rr M) := by
  refine Ct.go (by decide) (L := [(0, .ref (wad w 145))]) rfl (Nat.le_of_ble_eq_true rfl) (fun p0 e s m args below meth c g hret => ?_)
  unfold f_M_patternLength
  refine G_aload_n g (pc := 0) 0 d_M_patternLength_0 rfl rfl ?_
  refine G_iconst g (pc := 1) (0 : Int32) d_M_patternLength_1 rfl ?_
  refine G_put g (pc := 2) fa_M_76 fw_10_8 rfl rfl (hw.mm 145 (Nat.le_of_ble_eq_true rfl) (Nat.le_of_ble_eq_true rfl)) (hw.k (zk145 rr)) d_M_patternLength_2 ?_
  refine G_nmM (fun M1 => ?_)
  refine G_aload_n g (pc := 5) 0 d_M_patternLength_5 rfl rfl ?_
  refine G_getR g (pc := 6) fa_M_28 (hw.mm 145 (Nat.le_of_ble_eq_true rfl) (Nat.le_of_ble_eq_true rfl)) (hw.k (zk145 rr)) (hw.r hw.rr) d_M_patternLength_6 ?_
  refine G_iconst g (pc := 9) (5 : Int32) d_M_patternLength_9 rfl ?_
  refine G_ialdK g (pc := 10) (nn := 405) 5 rfl rfl hw.mr hw.kr hw.nr d_M_patternLength_10 ?_
  exact G_ireturn g (pc := 11) hret (Nat.le_of_ble_eq_true rfl) (Nat.le_of_ble_eq_true rfl) d_M_patternLength_11

theorem d_M_gust_0 : decode b_M_gust 0 = .ok (.aload_n 0, 1) := by decide +kernel
theorem d_M_gust_1 : decode b_M_gust 1 = .ok (.iload_n 1, 1) := by decide +kernel
theorem d_M_gust_2 : decode b_M_gust 2 = .ok (.iconst 0, 1) := by decide +kernel
theorem d_M_gust_3 : decode b_M_gust 3 = .ok (.sipush 9999, 3) := by decide +kernel
theorem d_M_gust_6 : decode b_M_gust 6 = .ok (.invokestatic 83, 3) := by decide +kernel
theorem d_M_gust_9 : decode b_M_gust 9 = .ok (.invokevirtual 87, 3) := by decide +kernel
theorem d_M_gust_12 : decode b_M_gust 12 = .ok (.ifCond .eq 7, 3) := by decide +kernel
theorem d_M_gust_15 : decode b_M_gust 15 = .ok (.iconst 0, 1) := by decide +kernel
theorem d_M_gust_16 : decode b_M_gust 16 = .ok (.goto 8, 3) := by decide +kernel
theorem d_M_gust_19 : decode b_M_gust 19 = .ok (.aload_n 0, 1) := by decide +kernel
theorem d_M_gust_20 : decode b_M_gust 20 = .ok (.iload_n 1, 1) := by decide +kernel
theorem d_M_gust_21 : decode b_M_gust 21 = .ok (.invokevirtual 79, 3) := by decide +kernel
theorem d_M_gust_24 : decode b_M_gust 24 = .ok (.ireturn, 1) := by decide +kernel
theorem cc_M_83 : CS "KiteLoggerModel" 83 y_M_inRange b_M_inRange 3 (some .boolean) 3 := ⟨TT_in (i := 1463) (by decide +kernel) (by decide +kernel), TT_in (i := 1464) (by decide +kernel) (by decide +kernel), TT_in (i := 100) (by decide +kernel) (by decide +kernel), TT_in (i := 1465) (by decide +kernel) (by decide +kernel), ⟨by decide +kernel, by decide +kernel, by decide +kernel⟩⟩
theorem cc_M_87 : CV "KiteLoggerModel" 87 y_M_lacks b_M_lacks 2 (some .boolean) 1 := ⟨TT_in (i := 1466) (by decide +kernel) (by decide +kernel), TT_in (i := 1468) (by decide +kernel) (by decide +kernel), TT_in (i := 25) (by decide +kernel) (by decide +kernel), TT_in (i := 100) (by decide +kernel) (by decide +kernel), TT_in (i := 1469) (by decide +kernel) (by decide +kernel), ⟨by decide +kernel, by decide +kernel, by decide +kernel⟩⟩
def f_M_gust (rr : Nat) (a1 : Int32) (M : Mem) : Option (Int32 × Mem) :=
  bnd (f_M_inRange a1 (0 : Int32) (9999 : Int32) M) fun (x1 : Bool) (M2 : Mem) => bnd (f_M_lacks x1 M2) fun (x3 : Bool) (M4 : Mem) => if x3 = true then (some ((0 : Int32), M4)) else (bnd (f_M_gustOf rr a1 M4) fun (x5 : Int32) (M6 : Mem) => some (x5, M6))
set_option maxHeartbeats 4000000 in
set_option maxRecDepth 100000 in
theorem c_M_gust (l : Launch) {w : Wc} {rr : Nat} (hw : WM w rr) (a1 : Int32) (M : Mem) : Ct QI l y_M_gust b_M_gust 2 (some .int) (rmL 1) w [.ref (wad w 145), .int a1] M (f_M_gust rr a1 M) := by
  refine Ct.go (by decide) (L := [(0, .ref (wad w 145)), (1, .int a1)]) rfl (Nat.le_of_ble_eq_true rfl) (fun p0 e s m args below meth c g hret => ?_)
  unfold f_M_gust
  refine G_aload_n g (pc := 0) 0 d_M_gust_0 rfl rfl ?_
  refine G_iload_n g (pc := 1) 1 d_M_gust_1 rfl rfl ?_
  refine G_iconst g (pc := 2) (0 : Int32) d_M_gust_2 rfl ?_
  refine G_sipush g (pc := 3) (9999 : Int32) d_M_gust_3 rfl ?_
  refine G_cSZ g (pc := 6) (As := [.int a1, .int (0 : Int32), .int (9999 : Int32)]) (st := [.ref (wad w 145)]) cc_M_83 (c_M_inRange l hw a1 (0 : Int32) (9999 : Int32) M) rfl ⟨(Nat.le_of_ble_eq_true rfl), (Nat.le_of_ble_eq_true rfl)⟩ ⟨(Nat.le_of_ble_eq_true rfl), (Nat.le_of_ble_eq_true rfl)⟩ (Nat.le_of_ble_eq_true rfl) d_M_gust_6 (fun x1 M2 => ?_)
  refine G_cVZ g (pc := 9) (As := [.int (b2i x1)]) (st := []) cc_M_87 (c_M_lacks l hw x1 M2) (hw.mm 145 (Nat.le_of_ble_eq_true rfl) (Nat.le_of_ble_eq_true rfl)) (hw.k (zk145 rr)) rfl (by decide) rfl ⟨(Nat.le_of_ble_eq_true rfl), (Nat.le_of_ble_eq_true rfl)⟩ ⟨(Nat.le_of_ble_eq_true rfl), (Nat.le_of_ble_eq_true rfl)⟩ (Nat.le_of_ble_eq_true rfl) d_M_gust_9 (fun x3 M4 => ?_)
  refine G_if_eqB g (pc := 12) 19 d_M_gust_12 (by decide) ?_ ?_
  · refine G_iconst g (pc := 15) (0 : Int32) d_M_gust_15 rfl ?_
    refine G_goto g (pc := 16) 24 d_M_gust_16 (by decide) ?_
    exact G_ireturn g (pc := 24) hret (Nat.le_of_ble_eq_true rfl) (Nat.le_of_ble_eq_true rfl) d_M_gust_24
  · refine G_aload_n g (pc := 19) 0 d_M_gust_19 rfl rfl ?_
    refine G_iload_n g (pc := 20) 1 d_M_gust_20 rfl rfl ?_
    refine G_cVI g (pc := 21) (As := [.int a1]) (st := []) cc_M_79 (c_M_gustOf l hw a1 M4) (hw.mm 145 (Nat.le_of_ble_eq_true rfl) (Nat.le_of_ble_eq_true rfl)) (hw.k (zk145 rr)) rfl (by decide) rfl ⟨(Nat.le_of_ble_eq_true rfl), (Nat.le_of_ble_eq_true rfl)⟩ ⟨(Nat.le_of_ble_eq_true rfl), (Nat.le_of_ble_eq_true rfl)⟩ (Nat.le_of_ble_eq_true rfl) d_M_gust_21 (fun x5 M6 => ?_)
    exact G_ireturn g (pc := 24) hret (Nat.le_of_ble_eq_true rfl) (Nat.le_of_ble_eq_true rfl) d_M_gust_24

theorem d_M_windAt_0 : decode b_M_windAt 0 = .ok (.aload_n 0, 1) := by decide +kernel
theorem d_M_windAt_1 : decode b_M_windAt 1 = .ok (.iload_n 1, 1) := by decide +kernel
theorem d_M_windAt_2 : decode b_M_windAt 2 = .ok (.iconst 0, 1) := by decide +kernel
theorem d_M_windAt_3 : decode b_M_windAt 3 = .ok (.sipush 600, 3) := by decide +kernel
theorem d_M_windAt_6 : decode b_M_windAt 6 = .ok (.invokestatic 83, 3) := by decide +kernel
theorem d_M_windAt_9 : decode b_M_windAt 9 = .ok (.invokevirtual 87, 3) := by decide +kernel
theorem d_M_windAt_12 : decode b_M_windAt 12 = .ok (.ifCond .eq 7, 3) := by decide +kernel
theorem d_M_windAt_15 : decode b_M_windAt 15 = .ok (.iconst 0, 1) := by decide +kernel
theorem d_M_windAt_16 : decode b_M_windAt 16 = .ok (.goto 8, 3) := by decide +kernel
theorem d_M_windAt_19 : decode b_M_windAt 19 = .ok (.aload_n 0, 1) := by decide +kernel
theorem d_M_windAt_20 : decode b_M_windAt 20 = .ok (.iload_n 1, 1) := by decide +kernel
theorem d_M_windAt_21 : decode b_M_windAt 21 = .ok (.invokevirtual 91, 3) := by decide +kernel
theorem d_M_windAt_24 : decode b_M_windAt 24 = .ok (.ireturn, 1) := by decide +kernel
theorem cc_M_91 : CV "KiteLoggerModel" 91 y_M_windNow b_M_windNow 2 (some .int) 1 := ⟨TT_in (i := 1478) (by decide +kernel) (by decide +kernel), TT_in (i := 1480) (by decide +kernel) (by decide +kernel), TT_in (i := 27) (by decide +kernel) (by decide +kernel), TT_in (i := 100) (by decide +kernel) (by decide +kernel), TT_in (i := 1481) (by decide +kernel) (by decide +kernel), ⟨by decide +kernel, by decide +kernel, by decide +kernel⟩⟩
def f_M_windAt (rr : Nat) (a1 : Int32) (M : Mem) : Option (Int32 × Mem) :=
  bnd (f_M_inRange a1 (0 : Int32) (600 : Int32) M) fun (x1 : Bool) (M2 : Mem) => bnd (f_M_lacks x1 M2) fun (x3 : Bool) (M4 : Mem) => if x3 = true then (some ((0 : Int32), M4)) else (bnd (f_M_windNow rr a1 M4) fun (x5 : Int32) (M6 : Mem) => some (x5, M6))
set_option maxHeartbeats 4000000 in
set_option maxRecDepth 100000 in
theorem c_M_windAt (l : Launch) {w : Wc} {rr : Nat} (hw : WM w rr) (a1 : Int32) (M : Mem) : Ct QI l y_M_windAt b_M_windAt 2 (some .int) (rmL 2) w [.ref (wad w 145), .int a1] M (f_M_windAt rr a1 M) := by
  refine Ct.go (by decide) (L := [(0, .ref (wad w 145)), (1, .int a1)]) rfl (Nat.le_of_ble_eq_true rfl) (fun p0 e s m args below meth c g hret => ?_)
  unfold f_M_windAt
  refine G_aload_n g (pc := 0) 0 d_M_windAt_0 rfl rfl ?_
  refine G_iload_n g (pc := 1) 1 d_M_windAt_1 rfl rfl ?_
  refine G_iconst g (pc := 2) (0 : Int32) d_M_windAt_2 rfl ?_
  refine G_sipush g (pc := 3) (600 : Int32) d_M_windAt_3 rfl ?_
  refine G_cSZ g (pc := 6) (As := [.int a1, .int (0 : Int32), .int (600 : Int32)]) (st := [.ref (wad w 145)]) cc_M_83 (c_M_inRange l hw a1 (0 : Int32) (600 : Int32) M) rfl ⟨(Nat.le_of_ble_eq_true rfl), (Nat.le_of_ble_eq_true rfl)⟩ ⟨(Nat.le_of_ble_eq_true rfl), (Nat.le_of_ble_eq_true rfl)⟩ (Nat.le_of_ble_eq_true rfl) d_M_windAt_6 (fun x1 M2 => ?_)
  refine G_cVZ g (pc := 9) (As := [.int (b2i x1)]) (st := []) cc_M_87 (c_M_lacks l hw x1 M2) (hw.mm 145 (Nat.le_of_ble_eq_true rfl) (Nat.le_of_ble_eq_true rfl)) (hw.k (zk145 rr)) rfl (by decide) rfl ⟨(Nat.le_of_ble_eq_true rfl), (Nat.le_of_ble_eq_true rfl)⟩ ⟨(Nat.le_of_ble_eq_true rfl), (Nat.le_of_ble_eq_true rfl)⟩ (Nat.le_of_ble_eq_true rfl) d_M_windAt_9 (fun x3 M4 => ?_)
  refine G_if_eqB g (pc := 12) 19 d_M_windAt_12 (by decide) ?_ ?_
  · refine G_iconst g (pc := 15) (0 : Int32) d_M_windAt_15 rfl ?_
    refine G_goto g (pc := 16) 24 d_M_windAt_16 (by decide) ?_
    exact G_ireturn g (pc := 24) hret (Nat.le_of_ble_eq_true rfl) (Nat.le_of_ble_eq_true rfl) d_M_windAt_24
  · refine G_aload_n g (pc := 19) 0 d_M_windAt_19 rfl rfl ?_
    refine G_iload_n g (pc := 20) 1 d_M_windAt_20 rfl rfl ?_
    refine G_cVI g (pc := 21) (As := [.int a1]) (st := []) cc_M_91 (c_M_windNow l hw a1 M4) (hw.mm 145 (Nat.le_of_ble_eq_true rfl) (Nat.le_of_ble_eq_true rfl)) (hw.k (zk145 rr)) rfl (by decide) rfl ⟨(Nat.le_of_ble_eq_true rfl), (Nat.le_of_ble_eq_true rfl)⟩ ⟨(Nat.le_of_ble_eq_true rfl), (Nat.le_of_ble_eq_true rfl)⟩ (Nat.le_of_ble_eq_true rfl) d_M_windAt_21 (fun x5 M6 => ?_)
    exact G_ireturn g (pc := 24) hret (Nat.le_of_ble_eq_true rfl) (Nat.le_of_ble_eq_true rfl) d_M_windAt_24

theorem d_M_bufferSize_0 : decode b_M_bufferSize 0 = .ok (.aload_n 0, 1) := by decide +kernel
theorem d_M_bufferSize_1 : decode b_M_bufferSize 1 = .ok (.iconst 0, 1) := by decide +kernel
theorem d_M_bufferSize_2 : decode b_M_bufferSize 2 = .ok (.putfield 76, 3) := by decide +kernel
theorem d_M_bufferSize_5 : decode b_M_bufferSize 5 = .ok (.aload_n 0, 1) := by decide +kernel
theorem d_M_bufferSize_6 : decode b_M_bufferSize 6 = .ok (.getfield 28, 3) := by decide +kernel
theorem d_M_bufferSize_9 : decode b_M_bufferSize 9 = .ok (.bipush 16, 2) := by decide +kernel
theorem d_M_bufferSize_11 : decode b_M_bufferSize 11 = .ok (.iaload, 1) := by decide +kernel
theorem d_M_bufferSize_12 : decode b_M_bufferSize 12 = .ok (.ireturn, 1) := by decide +kernel
def f_M_bufferSize (rr : Nat) (M : Mem) : Option (Int32 × Mem) :=
  nm (put M 145 8 (0 : Int32)) fun (M1 : Mem) => some (M1 rr 16, M1)
set_option maxHeartbeats 4000000 in
set_option maxRecDepth 100000 in
theorem c_M_bufferSize (l : Launch) {w : Wc} {rr : Nat} (hw : WM w rr)  (M : Mem) : Ct QI l y_M_bufferSize b_M_bufferSize 1 (some .int) (rmL 0) w [.ref (wad w 145)] M (f_M_bufferSize rr M) := by
  refine Ct.go (by decide) (L := [(0, .ref (wad w 145))]) rfl (Nat.le_of_ble_eq_true rfl) (fun p0 e s m args below meth c g hret => ?_)
  unfold f_M_bufferSize
  refine G_aload_n g (pc := 0) 0 d_M_bufferSize_0 rfl rfl ?_
  refine G_iconst g (pc := 1) (0 : Int32) d_M_bufferSize_1 rfl ?_
  refine G_put g (pc := 2) fa_M_76 fw_10_8 rfl rfl (hw.mm 145 (Nat.le_of_ble_eq_true rfl) (Nat.le_of_ble_eq_true rfl)) (hw.k (zk145 rr)) d_M_bufferSize_2 ?_
  refine G_nmM (fun M1 => ?_)
  refine G_aload_n g (pc := 5) 0 d_M_bufferSize_5 rfl rfl ?_
  refine G_getR g (pc := 6) fa_M_28 (hw.mm 145 (Nat.le_of_ble_eq_true rfl) (Nat.le_of_ble_eq_true rfl)) (hw.k (zk145 rr)) (hw.r hw.rr) d_M_bufferSize_6 ?_
  refine G_bipush g (pc := 9) (16 : Int32) d_M_bufferSize_9 rfl ?_
  refine G_ialdK g (pc := 11) (nn := 405) 16 rfl rfl hw.mr hw.kr hw.nr d_M_bufferSize_11 ?_
  exact G_ireturn g (pc := 12) hret (Nat.le_of_ble_eq_true rfl) (Nat.le_of_ble_eq_true rfl) d_M_bufferSize_12

theorem d_M_bufferedWind_0 : decode b_M_bufferedWind 0 = .ok (.aload_n 0, 1) := by decide +kernel
theorem d_M_bufferedWind_1 : decode b_M_bufferedWind 1 = .ok (.iconst 0, 1) := by decide +kernel
theorem d_M_bufferedWind_2 : decode b_M_bufferedWind 2 = .ok (.putfield 76, 3) := by decide +kernel
theorem d_M_bufferedWind_5 : decode b_M_bufferedWind 5 = .ok (.iload_n 1, 1) := by decide +kernel
theorem d_M_bufferedWind_6 : decode b_M_bufferedWind 6 = .ok (.iconst 0, 1) := by decide +kernel
theorem d_M_bufferedWind_7 : decode b_M_bufferedWind 7 = .ok (.aload_n 0, 1) := by decide +kernel
theorem d_M_bufferedWind_8 : decode b_M_bufferedWind 8 = .ok (.getfield 28, 3) := by decide +kernel
theorem d_M_bufferedWind_11 : decode b_M_bufferedWind 11 = .ok (.bipush 16, 2) := by decide +kernel
theorem d_M_bufferedWind_13 : decode b_M_bufferedWind 13 = .ok (.iaload, 1) := by decide +kernel
theorem d_M_bufferedWind_14 : decode b_M_bufferedWind 14 = .ok (.iconst 1, 1) := by decide +kernel
theorem d_M_bufferedWind_15 : decode b_M_bufferedWind 15 = .ok (.isub, 1) := by decide +kernel
theorem d_M_bufferedWind_16 : decode b_M_bufferedWind 16 = .ok (.invokestatic 83, 3) := by decide +kernel
theorem d_M_bufferedWind_19 : decode b_M_bufferedWind 19 = .ok (.ifCond .eq 15, 3) := by decide +kernel
theorem d_M_bufferedWind_22 : decode b_M_bufferedWind 22 = .ok (.aload_n 0, 1) := by decide +kernel
theorem d_M_bufferedWind_23 : decode b_M_bufferedWind 23 = .ok (.getfield 28, 3) := by decide +kernel
theorem d_M_bufferedWind_26 : decode b_M_bufferedWind 26 = .ok (.bipush 37, 2) := by decide +kernel
theorem d_M_bufferedWind_28 : decode b_M_bufferedWind 28 = .ok (.iload_n 1, 1) := by decide +kernel
theorem d_M_bufferedWind_29 : decode b_M_bufferedWind 29 = .ok (.iadd, 1) := by decide +kernel
theorem d_M_bufferedWind_30 : decode b_M_bufferedWind 30 = .ok (.iaload, 1) := by decide +kernel
theorem d_M_bufferedWind_31 : decode b_M_bufferedWind 31 = .ok (.goto 4, 3) := by decide +kernel
theorem d_M_bufferedWind_34 : decode b_M_bufferedWind 34 = .ok (.iconst (-1), 1) := by decide +kernel
theorem d_M_bufferedWind_35 : decode b_M_bufferedWind 35 = .ok (.ireturn, 1) := by decide +kernel
def f_M_bufferedWind (rr : Nat) (a1 : Int32) (M : Mem) : Option (Int32 × Mem) :=
  nm (put M 145 8 (0 : Int32)) fun (M1 : Mem) => bnd (f_M_inRange a1 (0 : Int32) ((M1 rr 16) - (1 : Int32)) M1) fun (x2 : Bool) (M3 : Mem) => if x2 = true then (grd (inB ((37 : Int32) + a1) 405) (some (M3 rr ((37 : Int32) + a1).toNatClampNeg, M3))) else (some ((-1 : Int32), M3))
set_option maxHeartbeats 4000000 in
set_option maxRecDepth 100000 in
theorem c_M_bufferedWind (l : Launch) {w : Wc} {rr : Nat} (hw : WM w rr) (a1 : Int32) (M : Mem) : Ct QI l y_M_bufferedWind b_M_bufferedWind 2 (some .int) (rmL 1) w [.ref (wad w 145), .int a1] M (f_M_bufferedWind rr a1 M) := by
  refine Ct.go (by decide) (L := [(0, .ref (wad w 145)), (1, .int a1)]) rfl (Nat.le_of_ble_eq_true rfl) (fun p0 e s m args below meth c g hret => ?_)
  unfold f_M_bufferedWind
  refine G_aload_n g (pc := 0) 0 d_M_bufferedWind_0 rfl rfl ?_
  refine G_iconst g (pc := 1) (0 : Int32) d_M_bufferedWind_1 rfl ?_
  refine G_put g (pc := 2) fa_M_76 fw_10_8 rfl rfl (hw.mm 145 (Nat.le_of_ble_eq_true rfl) (Nat.le_of_ble_eq_true rfl)) (hw.k (zk145 rr)) d_M_bufferedWind_2 ?_
  refine G_nmM (fun M1 => ?_)
  refine G_iload_n g (pc := 5) 1 d_M_bufferedWind_5 rfl rfl ?_
  refine G_iconst g (pc := 6) (0 : Int32) d_M_bufferedWind_6 rfl ?_
  refine G_aload_n g (pc := 7) 0 d_M_bufferedWind_7 rfl rfl ?_
  refine G_getR g (pc := 8) fa_M_28 (hw.mm 145 (Nat.le_of_ble_eq_true rfl) (Nat.le_of_ble_eq_true rfl)) (hw.k (zk145 rr)) (hw.r hw.rr) d_M_bufferedWind_8 ?_
  refine G_bipush g (pc := 11) (16 : Int32) d_M_bufferedWind_11 rfl ?_
  refine G_ialdK g (pc := 13) (nn := 405) 16 rfl rfl hw.mr hw.kr hw.nr d_M_bufferedWind_13 ?_
  refine G_iconst g (pc := 14) (1 : Int32) d_M_bufferedWind_14 rfl ?_
  refine G_isub g (pc := 15) d_M_bufferedWind_15 ?_
  refine G_cSZ g (pc := 16) (As := [.int a1, .int (0 : Int32), .int ((M1 rr 16) - (1 : Int32))]) (st := []) cc_M_83 (c_M_inRange l hw a1 (0 : Int32) ((M1 rr 16) - (1 : Int32)) M1) rfl ⟨(Nat.le_of_ble_eq_true rfl), (Nat.le_of_ble_eq_true rfl)⟩ ⟨(Nat.le_of_ble_eq_true rfl), (Nat.le_of_ble_eq_true rfl)⟩ (Nat.le_of_ble_eq_true rfl) d_M_bufferedWind_16 (fun x2 M3 => ?_)
  refine G_if_eqB g (pc := 19) 34 d_M_bufferedWind_19 (by decide) ?_ ?_
  · refine G_aload_n g (pc := 22) 0 d_M_bufferedWind_22 rfl rfl ?_
    refine G_getR g (pc := 23) fa_M_28 (hw.mm 145 (Nat.le_of_ble_eq_true rfl) (Nat.le_of_ble_eq_true rfl)) (hw.k (zk145 rr)) (hw.r hw.rr) d_M_bufferedWind_23 ?_
    refine G_bipush g (pc := 26) (37 : Int32) d_M_bufferedWind_26 rfl ?_
    refine G_iload_n g (pc := 28) 1 d_M_bufferedWind_28 rfl rfl ?_
    refine G_iadd g (pc := 29) d_M_bufferedWind_29 ?_
    refine G_iald g (pc := 30) (nn := 405) hw.mr hw.kr hw.nr d_M_bufferedWind_30 ?_
    refine G_goto g (pc := 31) 35 d_M_bufferedWind_31 (by decide) ?_
    exact G_ireturn g (pc := 35) hret (Nat.le_of_ble_eq_true rfl) (Nat.le_of_ble_eq_true rfl) d_M_bufferedWind_35
  · refine G_iconst g (pc := 34) (-1 : Int32) d_M_bufferedWind_34 rfl ?_
    exact G_ireturn g (pc := 35) hret (Nat.le_of_ble_eq_true rfl) (Nat.le_of_ble_eq_true rfl) d_M_bufferedWind_35

theorem d_M_greatest_0 : decode b_M_greatest 0 = .ok (.iconst 0, 1) := by decide +kernel
theorem d_M_greatest_1 : decode b_M_greatest 1 = .ok (.istore_n 1, 1) := by decide +kernel
theorem d_M_greatest_2 : decode b_M_greatest 2 = .ok (.iconst 0, 1) := by decide +kernel
theorem d_M_greatest_3 : decode b_M_greatest 3 = .ok (.istore_n 2, 1) := by decide +kernel
theorem d_M_greatest_4 : decode b_M_greatest 4 = .ok (.iload_n 2, 1) := by decide +kernel
theorem d_M_greatest_5 : decode b_M_greatest 5 = .ok (.aload_n 0, 1) := by decide +kernel
theorem d_M_greatest_6 : decode b_M_greatest 6 = .ok (.getfield 28, 3) := by decide +kernel
theorem d_M_greatest_9 : decode b_M_greatest 9 = .ok (.bipush 16, 2) := by decide +kernel
theorem d_M_greatest_11 : decode b_M_greatest 11 = .ok (.iaload, 1) := by decide +kernel
theorem d_M_greatest_12 : decode b_M_greatest 12 = .ok (.if_icmp .ge 23, 3) := by decide +kernel
theorem d_M_greatest_15 : decode b_M_greatest 15 = .ok (.iload_n 1, 1) := by decide +kernel
theorem d_M_greatest_16 : decode b_M_greatest 16 = .ok (.aload_n 0, 1) := by decide +kernel
theorem d_M_greatest_17 : decode b_M_greatest 17 = .ok (.getfield 28, 3) := by decide +kernel
theorem d_M_greatest_20 : decode b_M_greatest 20 = .ok (.bipush 37, 2) := by decide +kernel
theorem d_M_greatest_22 : decode b_M_greatest 22 = .ok (.iload_n 2, 1) := by decide +kernel
theorem d_M_greatest_23 : decode b_M_greatest 23 = .ok (.iadd, 1) := by decide +kernel
theorem d_M_greatest_24 : decode b_M_greatest 24 = .ok (.iaload, 1) := by decide +kernel
theorem d_M_greatest_25 : decode b_M_greatest 25 = .ok (.invokestatic 94, 3) := by decide +kernel
theorem d_M_greatest_28 : decode b_M_greatest 28 = .ok (.istore_n 1, 1) := by decide +kernel
theorem d_M_greatest_29 : decode b_M_greatest 29 = .ok (.iinc 2 1, 3) := by decide +kernel
theorem d_M_greatest_32 : decode b_M_greatest 32 = .ok (.goto (-28), 3) := by decide +kernel
theorem d_M_greatest_35 : decode b_M_greatest 35 = .ok (.iload_n 1, 1) := by decide +kernel
theorem d_M_greatest_36 : decode b_M_greatest 36 = .ok (.ireturn, 1) := by decide +kernel
theorem cc_M_94 : CS "KiteLoggerModel" 94 y_M_most b_M_most 2 (some .int) 2 := ⟨TT_in (i := 1498) (by decide +kernel) (by decide +kernel), TT_in (i := 1499) (by decide +kernel) (by decide +kernel), TT_in (i := 100) (by decide +kernel) (by decide +kernel), TT_in (i := 1500) (by decide +kernel) (by decide +kernel), ⟨by decide +kernel, by decide +kernel, by decide +kernel⟩⟩
def lp_M_greatest_4 (N0 rr : Nat)   : Nat → Int32 × Int32 → Mem → (Int32 × Int32 → Mem → Option (Int32 × Mem)) → Option (Int32 × Mem)
  | 0, _, _, _ => none
  | N + 1, v4, M, k4 => if v4.2 < (M rr 16) then (grd (inB ((37 : Int32) + v4.2) 405) (bnd (f_M_most v4.1 (M rr ((37 : Int32) + v4.2).toNatClampNeg) M) fun (x1 : Int32) (M2 : Mem) => nm (v4.2 + (1 : Int32)) fun (x3 : Int32) => lp_M_greatest_4 N0 rr N (x1, x3) M2 k4)) else (k4 (v4.1, v4.2) M)
def f_M_greatest (N : Nat) (rr : Nat) (M : Mem) : Option (Int32 × Mem) :=
  lp_M_greatest_4 N rr N ((0 : Int32), (0 : Int32)) M (fun (a5 : Int32 × Int32) (M4 : Mem) => some (a5.1, M4))
set_option maxHeartbeats 4000000 in
set_option maxRecDepth 100000 in
theorem c_M_greatest (l : Launch) (N : Nat) {w : Wc} {rr : Nat} (hw : WM w rr)  (M : Mem) : Ct QI l y_M_greatest b_M_greatest 3 (some .int) (rmL 1) w [.ref (wad w 145)] M (f_M_greatest N rr M) := by
  refine Ct.go (by decide) (L := [(0, .ref (wad w 145))]) rfl (Nat.le_of_ble_eq_true rfl) (fun p0 e s m args below meth c g hret => ?_)
  unfold f_M_greatest
  refine G_iconst g (pc := 0) (0 : Int32) d_M_greatest_0 rfl ?_
  refine G_istore_n g (pc := 1) _ d_M_greatest_1 rfl (Nat.le_of_ble_eq_true rfl) rfl ?_
  refine G_iconst g (pc := 2) (0 : Int32) d_M_greatest_2 rfl ?_
  refine G_istore_n g (pc := 3) _ d_M_greatest_3 rfl (Nat.le_of_ble_eq_true rfl) rfl ?_
  refine G_sub [2, 1, 0] _ rfl ?_
  refine G_loop (F := lp_M_greatest_4 N rr) 4 35 (fun (v4 : Int32 × Int32) => [(0, .ref (wad w 145)), (1, .int v4.1), (2, .int v4.2)]) (fun (v4 : Int32 × Int32) => [(0, .ref (wad w 145)), (1, .int v4.1), (2, .int v4.2)]) (fun _ _ _ => rfl) (fun a5 M4 => ?_) (fun k4 hk4 Nl4 ih4 v4 M => ?_) N ((0 : Int32), (0 : Int32)) M
  · refine G_iload_n g (pc := 35) 1 d_M_greatest_35 rfl rfl ?_
    exact G_ireturn g (pc := 36) hret (Nat.le_of_ble_eq_true rfl) (Nat.le_of_ble_eq_true rfl) d_M_greatest_36
  · show Go p0 l e _ s m args below meth c w _ _ _ _ (lp_M_greatest_4 N rr (Nl4 + 1) v4 M k4) 4 _ _ M
    unfold lp_M_greatest_4
    refine G_iload_n g (pc := 4) 2 d_M_greatest_4 rfl rfl ?_
    refine G_aload_n g (pc := 5) 0 d_M_greatest_5 rfl rfl ?_
    refine G_getR g (pc := 6) fa_M_28 (hw.mm 145 (Nat.le_of_ble_eq_true rfl) (Nat.le_of_ble_eq_true rfl)) (hw.k (zk145 rr)) (hw.r hw.rr) d_M_greatest_6 ?_
    refine G_bipush g (pc := 9) (16 : Int32) d_M_greatest_9 rfl ?_
    refine G_ialdK g (pc := 11) (nn := 405) 16 rfl rfl hw.mr hw.kr hw.nr d_M_greatest_11 ?_
    refine G_icmp_ge g (pc := 12) 35 d_M_greatest_12 (by decide) ?_ ?_
    · refine G_iload_n g (pc := 15) 1 d_M_greatest_15 rfl rfl ?_
      refine G_aload_n g (pc := 16) 0 d_M_greatest_16 rfl rfl ?_
      refine G_getR g (pc := 17) fa_M_28 (hw.mm 145 (Nat.le_of_ble_eq_true rfl) (Nat.le_of_ble_eq_true rfl)) (hw.k (zk145 rr)) (hw.r hw.rr) d_M_greatest_17 ?_
      refine G_bipush g (pc := 20) (37 : Int32) d_M_greatest_20 rfl ?_
      refine G_iload_n g (pc := 22) 2 d_M_greatest_22 rfl rfl ?_
      refine G_iadd g (pc := 23) d_M_greatest_23 ?_
      refine G_iald g (pc := 24) (nn := 405) hw.mr hw.kr hw.nr d_M_greatest_24 ?_
      refine G_cSI g (pc := 25) (As := [.int v4.1, .int (M rr ((37 : Int32) + v4.2).toNatClampNeg)]) (st := []) cc_M_94 (c_M_most l hw v4.1 (M rr ((37 : Int32) + v4.2).toNatClampNeg) M) rfl ⟨(Nat.le_of_ble_eq_true rfl), (Nat.le_of_ble_eq_true rfl)⟩ ⟨(Nat.le_of_ble_eq_true rfl), (Nat.le_of_ble_eq_true rfl)⟩ (Nat.le_of_ble_eq_true rfl) d_M_greatest_25 (fun x1 M2 => ?_)
      refine G_istore_n g (pc := 28) _ d_M_greatest_28 rfl (Nat.le_of_ble_eq_true rfl) rfl ?_
      refine G_nmX (v4.2 + (1 : Int32)) (fun x3 e_x3 => ?_)
      refine G_iinc g (pc := 29) x3 _ 2 d_M_greatest_29 rfl e_x3.symm (Nat.le_of_ble_eq_true rfl) rfl ?_
      refine G_goto g (pc := 32) 4 d_M_greatest_32 (by decide) ?_
      refine G_sub [2, 1, 0] _ rfl ?_
      exact ih4 (x1, x3) M2
    · refine G_sub [0, 1, 2] _ rfl ?_
      exact hk4 (v4.1, v4.2) M

theorem d_M_greatestWind_0 : decode b_M_greatestWind 0 = .ok (.aload_n 0, 1) := by decide +kernel
theorem d_M_greatestWind_1 : decode b_M_greatestWind 1 = .ok (.iconst 0, 1) := by decide +kernel
theorem d_M_greatestWind_2 : decode b_M_greatestWind 2 = .ok (.putfield 76, 3) := by decide +kernel
theorem d_M_greatestWind_5 : decode b_M_greatestWind 5 = .ok (.aload_n 0, 1) := by decide +kernel
theorem d_M_greatestWind_6 : decode b_M_greatestWind 6 = .ok (.invokevirtual 98, 3) := by decide +kernel
theorem d_M_greatestWind_9 : decode b_M_greatestWind 9 = .ok (.ireturn, 1) := by decide +kernel
theorem cc_M_98 : CV "KiteLoggerModel" 98 y_M_greatest b_M_greatest 3 (some .int) 0 := ⟨TT_in (i := 1494) (by decide +kernel) (by decide +kernel), TT_in (i := 1496) (by decide +kernel) (by decide +kernel), TT_in (i := 28) (by decide +kernel) (by decide +kernel), TT_in (i := 100) (by decide +kernel) (by decide +kernel), TT_in (i := 1497) (by decide +kernel) (by decide +kernel), ⟨by decide +kernel, by decide +kernel, by decide +kernel⟩⟩
def f_M_greatestWind (N : Nat) (rr : Nat) (M : Mem) : Option (Int32 × Mem) :=
  nm (put M 145 8 (0 : Int32)) fun (M1 : Mem) => bnd (f_M_greatest N rr M1) fun (x2 : Int32) (M3 : Mem) => some (x2, M3)
set_option maxHeartbeats 4000000 in
set_option maxRecDepth 100000 in
theorem c_M_greatestWind (l : Launch) (N : Nat) {w : Wc} {rr : Nat} (hw : WM w rr)  (M : Mem) : Ct QI l y_M_greatestWind b_M_greatestWind 1 (some .int) (rmL 2) w [.ref (wad w 145)] M (f_M_greatestWind N rr M) := by
  refine Ct.go (by decide) (L := [(0, .ref (wad w 145))]) rfl (Nat.le_of_ble_eq_true rfl) (fun p0 e s m args below meth c g hret => ?_)
  unfold f_M_greatestWind
  refine G_aload_n g (pc := 0) 0 d_M_greatestWind_0 rfl rfl ?_
  refine G_iconst g (pc := 1) (0 : Int32) d_M_greatestWind_1 rfl ?_
  refine G_put g (pc := 2) fa_M_76 fw_10_8 rfl rfl (hw.mm 145 (Nat.le_of_ble_eq_true rfl) (Nat.le_of_ble_eq_true rfl)) (hw.k (zk145 rr)) d_M_greatestWind_2 ?_
  refine G_nmM (fun M1 => ?_)
  refine G_aload_n g (pc := 5) 0 d_M_greatestWind_5 rfl rfl ?_
  refine G_cVI g (pc := 6) (As := []) (st := []) cc_M_98 (c_M_greatest l N hw M1) (hw.mm 145 (Nat.le_of_ble_eq_true rfl) (Nat.le_of_ble_eq_true rfl)) (hw.k (zk145 rr)) rfl (by decide) rfl ⟨(Nat.le_of_ble_eq_true rfl), (Nat.le_of_ble_eq_true rfl)⟩ ⟨(Nat.le_of_ble_eq_true rfl), (Nat.le_of_ble_eq_true rfl)⟩ (Nat.le_of_ble_eq_true rfl) d_M_greatestWind_6 (fun x2 M3 => ?_)
  exact G_ireturn g (pc := 9) hret (Nat.le_of_ble_eq_true rfl) (Nat.le_of_ble_eq_true rfl) d_M_greatestWind_9

theorem d_M_mean_0 : decode b_M_mean 0 = .ok (.iload_n 1, 1) := by decide +kernel
theorem d_M_mean_1 : decode b_M_mean 1 = .ok (.ifCond .ne 7, 3) := by decide +kernel
theorem d_M_mean_4 : decode b_M_mean 4 = .ok (.dconst 0, 1) := by decide +kernel
theorem d_M_mean_5 : decode b_M_mean 5 = .ok (.goto 8, 3) := by decide +kernel
theorem d_M_mean_8 : decode b_M_mean 8 = .ok (.iload_n 0, 1) := by decide +kernel
theorem d_M_mean_9 : decode b_M_mean 9 = .ok (.i2d, 1) := by decide +kernel
theorem d_M_mean_10 : decode b_M_mean 10 = .ok (.iload_n 1, 1) := by decide +kernel
theorem d_M_mean_11 : decode b_M_mean 11 = .ok (.i2d, 1) := by decide +kernel
theorem d_M_mean_12 : decode b_M_mean 12 = .ok (.ddiv, 1) := by decide +kernel
theorem d_M_mean_13 : decode b_M_mean 13 = .ok (.dreturn, 1) := by decide +kernel
def f_M_mean (a1 : Int32) (a2 : Int32) (M : Mem) : Option (UInt64 × Mem) :=
  if a2 = 0 then (some (0, M)) else (grd (nn64 (FP.ddiv (FP.i2d a1) (FP.i2d a2))) (some (FP.ddiv (FP.i2d a1) (FP.i2d a2), M)))
set_option maxHeartbeats 4000000 in
set_option maxRecDepth 100000 in
theorem c_M_mean (l : Launch) {w : Wc} {rr : Nat} (hw : WM w rr) (a1 : Int32) (a2 : Int32) (M : Mem) : Ct QD l y_M_mean b_M_mean 2 (some .double) (rmL 0) w [.int a1, .int a2] M (f_M_mean a1 a2 M) := by
  refine Ct.go (by decide) (L := [(0, .int a1), (1, .int a2)]) rfl (Nat.le_of_ble_eq_true rfl) (fun p0 e s m args below meth c g hret => ?_)
  unfold f_M_mean
  refine G_iload_n g (pc := 0) 1 d_M_mean_0 rfl rfl ?_
  refine G_if_ne g (pc := 1) 8 d_M_mean_1 (by decide) ?_ ?_
  · refine G_dconst0 g (pc := 4) d_M_mean_4 ?_
    refine G_goto g (pc := 5) 13 d_M_mean_5 (by decide) ?_
    exact G_dreturn g (pc := 13) hret (Nat.le_of_ble_eq_true rfl) (Nat.le_of_ble_eq_true rfl) d_M_mean_13
  · refine G_iload_n g (pc := 8) 0 d_M_mean_8 rfl rfl ?_
    refine G_i2d g (pc := 9) d_M_mean_9 ?_
    refine G_iload_n g (pc := 10) 1 d_M_mean_10 rfl rfl ?_
    refine G_i2d g (pc := 11) d_M_mean_11 ?_
    refine G_ddiv g (pc := 12) d_M_mean_12 ?_
    exact G_dreturn g (pc := 13) hret (Nat.le_of_ble_eq_true rfl) (Nat.le_of_ble_eq_true rfl) d_M_mean_13

theorem d_M_meanWind_0 : decode b_M_meanWind 0 = .ok (.aload_n 0, 1) := by decide +kernel
theorem d_M_meanWind_1 : decode b_M_meanWind 1 = .ok (.iconst 0, 1) := by decide +kernel
theorem d_M_meanWind_2 : decode b_M_meanWind 2 = .ok (.putfield 76, 3) := by decide +kernel
theorem d_M_meanWind_5 : decode b_M_meanWind 5 = .ok (.iconst 0, 1) := by decide +kernel
theorem d_M_meanWind_6 : decode b_M_meanWind 6 = .ok (.istore_n 1, 1) := by decide +kernel
theorem d_M_meanWind_7 : decode b_M_meanWind 7 = .ok (.iconst 0, 1) := by decide +kernel
theorem d_M_meanWind_8 : decode b_M_meanWind 8 = .ok (.istore_n 2, 1) := by decide +kernel
theorem d_M_meanWind_9 : decode b_M_meanWind 9 = .ok (.iload_n 2, 1) := by decide +kernel
theorem d_M_meanWind_10 : decode b_M_meanWind 10 = .ok (.aload_n 0, 1) := by decide +kernel
theorem d_M_meanWind_11 : decode b_M_meanWind 11 = .ok (.getfield 28, 3) := by decide +kernel
theorem d_M_meanWind_14 : decode b_M_meanWind 14 = .ok (.bipush 16, 2) := by decide +kernel
theorem d_M_meanWind_16 : decode b_M_meanWind 16 = .ok (.iaload, 1) := by decide +kernel
theorem d_M_meanWind_17 : decode b_M_meanWind 17 = .ok (.if_icmp .ge 21, 3) := by decide +kernel
theorem d_M_meanWind_20 : decode b_M_meanWind 20 = .ok (.iload_n 1, 1) := by decide +kernel
theorem d_M_meanWind_21 : decode b_M_meanWind 21 = .ok (.aload_n 0, 1) := by decide +kernel
theorem d_M_meanWind_22 : decode b_M_meanWind 22 = .ok (.getfield 28, 3) := by decide +kernel
theorem d_M_meanWind_25 : decode b_M_meanWind 25 = .ok (.bipush 37, 2) := by decide +kernel
theorem d_M_meanWind_27 : decode b_M_meanWind 27 = .ok (.iload_n 2, 1) := by decide +kernel
theorem d_M_meanWind_28 : decode b_M_meanWind 28 = .ok (.iadd, 1) := by decide +kernel
theorem d_M_meanWind_29 : decode b_M_meanWind 29 = .ok (.iaload, 1) := by decide +kernel
theorem d_M_meanWind_30 : decode b_M_meanWind 30 = .ok (.iadd, 1) := by decide +kernel
theorem d_M_meanWind_31 : decode b_M_meanWind 31 = .ok (.istore_n 1, 1) := by decide +kernel
theorem d_M_meanWind_32 : decode b_M_meanWind 32 = .ok (.iinc 2 1, 3) := by decide +kernel
theorem d_M_meanWind_35 : decode b_M_meanWind 35 = .ok (.goto (-26), 3) := by decide +kernel
theorem d_M_meanWind_38 : decode b_M_meanWind 38 = .ok (.iload_n 1, 1) := by decide +kernel
theorem d_M_meanWind_39 : decode b_M_meanWind 39 = .ok (.aload_n 0, 1) := by decide +kernel
theorem d_M_meanWind_40 : decode b_M_meanWind 40 = .ok (.getfield 28, 3) := by decide +kernel
theorem d_M_meanWind_43 : decode b_M_meanWind 43 = .ok (.bipush 16, 2) := by decide +kernel
theorem d_M_meanWind_45 : decode b_M_meanWind 45 = .ok (.iaload, 1) := by decide +kernel
theorem d_M_meanWind_46 : decode b_M_meanWind 46 = .ok (.invokestatic 102, 3) := by decide +kernel
theorem d_M_meanWind_49 : decode b_M_meanWind 49 = .ok (.dreturn, 1) := by decide +kernel
theorem cc_M_102 : CS "KiteLoggerModel" 102 y_M_mean b_M_mean 2 (some .double) 2 := ⟨TT_in (i := 1505) (by decide +kernel) (by decide +kernel), TT_in (i := 1506) (by decide +kernel) (by decide +kernel), TT_in (i := 100) (by decide +kernel) (by decide +kernel), TT_in (i := 1507) (by decide +kernel) (by decide +kernel), ⟨by decide +kernel, by decide +kernel, by decide +kernel⟩⟩
def lp_M_meanWind_9 (N0 rr : Nat)   : Nat → Int32 × Int32 → Mem → (Int32 × Int32 → Mem → Option (UInt64 × Mem)) → Option (UInt64 × Mem)
  | 0, _, _, _ => none
  | N + 1, v9, M, k9 => if v9.2 < (M rr 16) then (grd (inB ((37 : Int32) + v9.2) 405) (nm (v9.1 + (M rr ((37 : Int32) + v9.2).toNatClampNeg)) fun (x2 : Int32) => nm (v9.2 + (1 : Int32)) fun (x3 : Int32) => lp_M_meanWind_9 N0 rr N (x2, x3) M k9)) else (k9 (v9.1, v9.2) M)
def f_M_meanWind (N : Nat) (rr : Nat) (M : Mem) : Option (UInt64 × Mem) :=
  nm (put M 145 8 (0 : Int32)) fun (M1 : Mem) => lp_M_meanWind_9 N rr N ((0 : Int32), (0 : Int32)) M1 (fun (a5 : Int32 × Int32) (M4 : Mem) => bnd (f_M_mean a5.1 (M4 rr 16) M4) fun (x6 : UInt64) (M7 : Mem) => some (x6, M7))
set_option maxHeartbeats 4000000 in
set_option maxRecDepth 100000 in
theorem c_M_meanWind (l : Launch) (N : Nat) {w : Wc} {rr : Nat} (hw : WM w rr)  (M : Mem) : Ct QD l y_M_meanWind b_M_meanWind 3 (some .double) (rmL 1) w [.ref (wad w 145)] M (f_M_meanWind N rr M) := by
  refine Ct.go (by decide) (L := [(0, .ref (wad w 145))]) rfl (Nat.le_of_ble_eq_true rfl) (fun p0 e s m args below meth c g hret => ?_)
  unfold f_M_meanWind
  refine G_aload_n g (pc := 0) 0 d_M_meanWind_0 rfl rfl ?_
  refine G_iconst g (pc := 1) (0 : Int32) d_M_meanWind_1 rfl ?_
  refine G_put g (pc := 2) fa_M_76 fw_10_8 rfl rfl (hw.mm 145 (Nat.le_of_ble_eq_true rfl) (Nat.le_of_ble_eq_true rfl)) (hw.k (zk145 rr)) d_M_meanWind_2 ?_
  refine G_nmM (fun M1 => ?_)
  refine G_iconst g (pc := 5) (0 : Int32) d_M_meanWind_5 rfl ?_
  refine G_istore_n g (pc := 6) _ d_M_meanWind_6 rfl (Nat.le_of_ble_eq_true rfl) rfl ?_
  refine G_iconst g (pc := 7) (0 : Int32) d_M_meanWind_7 rfl ?_
  refine G_istore_n g (pc := 8) _ d_M_meanWind_8 rfl (Nat.le_of_ble_eq_true rfl) rfl ?_
  refine G_sub [2, 1, 0] _ rfl ?_
  refine G_loop (F := lp_M_meanWind_9 N rr) 9 38 (fun (v9 : Int32 × Int32) => [(0, .ref (wad w 145)), (1, .int v9.1), (2, .int v9.2)]) (fun (v9 : Int32 × Int32) => [(0, .ref (wad w 145)), (1, .int v9.1), (2, .int v9.2)]) (fun _ _ _ => rfl) (fun a5 M4 => ?_) (fun k9 hk9 Nl9 ih9 v9 M => ?_) N ((0 : Int32), (0 : Int32)) M1
  · refine G_iload_n g (pc := 38) 1 d_M_meanWind_38 rfl rfl ?_
    refine G_aload_n g (pc := 39) 0 d_M_meanWind_39 rfl rfl ?_
    refine G_getR g (pc := 40) fa_M_28 (hw.mm 145 (Nat.le_of_ble_eq_true rfl) (Nat.le_of_ble_eq_true rfl)) (hw.k (zk145 rr)) (hw.r hw.rr) d_M_meanWind_40 ?_
    refine G_bipush g (pc := 43) (16 : Int32) d_M_meanWind_43 rfl ?_
    refine G_ialdK g (pc := 45) (nn := 405) 16 rfl rfl hw.mr hw.kr hw.nr d_M_meanWind_45 ?_
    refine G_cSD g (pc := 46) (As := [.int a5.1, .int (M4 rr 16)]) (st := []) cc_M_102 (c_M_mean l hw a5.1 (M4 rr 16) M4) rfl ⟨(Nat.le_of_ble_eq_true rfl), (Nat.le_of_ble_eq_true rfl)⟩ ⟨(Nat.le_of_ble_eq_true rfl), (Nat.le_of_ble_eq_true rfl)⟩ (Nat.le_of_ble_eq_true rfl) d_M_meanWind_46 (fun x6 M7 => ?_)
    exact G_dreturn g (pc := 49) hret (Nat.le_of_ble_eq_true rfl) (Nat.le_of_ble_eq_true rfl) d_M_meanWind_49
  · show Go p0 l e _ s m args below meth c w _ _ _ _ (lp_M_meanWind_9 N rr (Nl9 + 1) v9 M k9) 9 _ _ M
    unfold lp_M_meanWind_9
    refine G_iload_n g (pc := 9) 2 d_M_meanWind_9 rfl rfl ?_
    refine G_aload_n g (pc := 10) 0 d_M_meanWind_10 rfl rfl ?_
    refine G_getR g (pc := 11) fa_M_28 (hw.mm 145 (Nat.le_of_ble_eq_true rfl) (Nat.le_of_ble_eq_true rfl)) (hw.k (zk145 rr)) (hw.r hw.rr) d_M_meanWind_11 ?_
    refine G_bipush g (pc := 14) (16 : Int32) d_M_meanWind_14 rfl ?_
    refine G_ialdK g (pc := 16) (nn := 405) 16 rfl rfl hw.mr hw.kr hw.nr d_M_meanWind_16 ?_
    refine G_icmp_ge g (pc := 17) 38 d_M_meanWind_17 (by decide) ?_ ?_
    · refine G_iload_n g (pc := 20) 1 d_M_meanWind_20 rfl rfl ?_
      refine G_aload_n g (pc := 21) 0 d_M_meanWind_21 rfl rfl ?_
      refine G_getR g (pc := 22) fa_M_28 (hw.mm 145 (Nat.le_of_ble_eq_true rfl) (Nat.le_of_ble_eq_true rfl)) (hw.k (zk145 rr)) (hw.r hw.rr) d_M_meanWind_22 ?_
      refine G_bipush g (pc := 25) (37 : Int32) d_M_meanWind_25 rfl ?_
      refine G_iload_n g (pc := 27) 2 d_M_meanWind_27 rfl rfl ?_
      refine G_iadd g (pc := 28) d_M_meanWind_28 ?_
      refine G_iald g (pc := 29) (nn := 405) hw.mr hw.kr hw.nr d_M_meanWind_29 ?_
      refine G_iadd g (pc := 30) d_M_meanWind_30 ?_
      refine G_nmI (fun x2 => ?_)
      refine G_istore_n g (pc := 31) _ d_M_meanWind_31 rfl (Nat.le_of_ble_eq_true rfl) rfl ?_
      refine G_nmX (v9.2 + (1 : Int32)) (fun x3 e_x3 => ?_)
      refine G_iinc g (pc := 32) x3 _ 2 d_M_meanWind_32 rfl e_x3.symm (Nat.le_of_ble_eq_true rfl) rfl ?_
      refine G_goto g (pc := 35) 9 d_M_meanWind_35 (by decide) ?_
      refine G_sub [2, 1, 0] _ rfl ?_
      exact ih9 (x2, x3) M
    · refine G_sub [0, 1, 2] _ rfl ?_
      exact hk9 (v9.1, v9.2) M

theorem d_M_isLanded_0 : decode b_M_isLanded 0 = .ok (.aload_n 0, 1) := by decide +kernel
theorem d_M_isLanded_1 : decode b_M_isLanded 1 = .ok (.iconst 0, 1) := by decide +kernel
theorem d_M_isLanded_2 : decode b_M_isLanded 2 = .ok (.putfield 76, 3) := by decide +kernel
theorem d_M_isLanded_5 : decode b_M_isLanded 5 = .ok (.aload_n 0, 1) := by decide +kernel
theorem d_M_isLanded_6 : decode b_M_isLanded 6 = .ok (.iconst 0, 1) := by decide +kernel
theorem d_M_isLanded_7 : decode b_M_isLanded 7 = .ok (.invokevirtual 106, 3) := by decide +kernel
theorem d_M_isLanded_10 : decode b_M_isLanded 10 = .ok (.ireturn, 1) := by decide +kernel
theorem cc_M_106 : CV "KiteLoggerModel" 106 y_M_is b_M_is 2 (some .boolean) 1 := ⟨TT_in (i := 1512) (by decide +kernel) (by decide +kernel), TT_in (i := 1514) (by decide +kernel) (by decide +kernel), TT_in (i := 29) (by decide +kernel) (by decide +kernel), TT_in (i := 100) (by decide +kernel) (by decide +kernel), TT_in (i := 1515) (by decide +kernel) (by decide +kernel), ⟨by decide +kernel, by decide +kernel, by decide +kernel⟩⟩
def f_M_isLanded (rr : Nat) (M : Mem) : Option (Bool × Mem) :=
  nm (put M 145 8 (0 : Int32)) fun (M1 : Mem) => bnd (f_M_is rr (0 : Int32) M1) fun (x2 : Bool) (M3 : Mem) => some (x2, M3)
set_option maxHeartbeats 4000000 in
set_option maxRecDepth 100000 in
theorem c_M_isLanded (l : Launch) {w : Wc} {rr : Nat} (hw : WM w rr)  (M : Mem) : Ct QZ l y_M_isLanded b_M_isLanded 1 (some .boolean) (rmL 1) w [.ref (wad w 145)] M (f_M_isLanded rr M) := by
  refine Ct.go (by decide) (L := [(0, .ref (wad w 145))]) rfl (Nat.le_of_ble_eq_true rfl) (fun p0 e s m args below meth c g hret => ?_)
  unfold f_M_isLanded
  refine G_aload_n g (pc := 0) 0 d_M_isLanded_0 rfl rfl ?_
  refine G_iconst g (pc := 1) (0 : Int32) d_M_isLanded_1 rfl ?_
  refine G_put g (pc := 2) fa_M_76 fw_10_8 rfl rfl (hw.mm 145 (Nat.le_of_ble_eq_true rfl) (Nat.le_of_ble_eq_true rfl)) (hw.k (zk145 rr)) d_M_isLanded_2 ?_
  refine G_nmM (fun M1 => ?_)
  refine G_aload_n g (pc := 5) 0 d_M_isLanded_5 rfl rfl ?_
  refine G_iconst g (pc := 6) (0 : Int32) d_M_isLanded_6 rfl ?_
  refine G_cVZ g (pc := 7) (As := [.int (0 : Int32)]) (st := []) cc_M_106 (c_M_is l hw (0 : Int32) M1) (hw.mm 145 (Nat.le_of_ble_eq_true rfl) (Nat.le_of_ble_eq_true rfl)) (hw.k (zk145 rr)) rfl (by decide) rfl ⟨(Nat.le_of_ble_eq_true rfl), (Nat.le_of_ble_eq_true rfl)⟩ ⟨(Nat.le_of_ble_eq_true rfl), (Nat.le_of_ble_eq_true rfl)⟩ (Nat.le_of_ble_eq_true rfl) d_M_isLanded_7 (fun x2 M3 => ?_)
  exact G_zreturn g (pc := 10) x2 rfl hret (Nat.le_of_ble_eq_true rfl) (Nat.le_of_ble_eq_true rfl) d_M_isLanded_10

theorem d_M_isFlying_0 : decode b_M_isFlying 0 = .ok (.aload_n 0, 1) := by decide +kernel
theorem d_M_isFlying_1 : decode b_M_isFlying 1 = .ok (.iconst 0, 1) := by decide +kernel
theorem d_M_isFlying_2 : decode b_M_isFlying 2 = .ok (.putfield 76, 3) := by decide +kernel
theorem d_M_isFlying_5 : decode b_M_isFlying 5 = .ok (.aload_n 0, 1) := by decide +kernel
theorem d_M_isFlying_6 : decode b_M_isFlying 6 = .ok (.iconst 1, 1) := by decide +kernel
theorem d_M_isFlying_7 : decode b_M_isFlying 7 = .ok (.invokevirtual 106, 3) := by decide +kernel
theorem d_M_isFlying_10 : decode b_M_isFlying 10 = .ok (.ireturn, 1) := by decide +kernel
def f_M_isFlying (rr : Nat) (M : Mem) : Option (Bool × Mem) :=
  nm (put M 145 8 (0 : Int32)) fun (M1 : Mem) => bnd (f_M_is rr (1 : Int32) M1) fun (x2 : Bool) (M3 : Mem) => some (x2, M3)
set_option maxHeartbeats 4000000 in
set_option maxRecDepth 100000 in
theorem c_M_isFlying (l : Launch) {w : Wc} {rr : Nat} (hw : WM w rr)  (M : Mem) : Ct QZ l y_M_isFlying b_M_isFlying 1 (some .boolean) (rmL 1) w [.ref (wad w 145)] M (f_M_isFlying rr M) := by
  refine Ct.go (by decide) (L := [(0, .ref (wad w 145))]) rfl (Nat.le_of_ble_eq_true rfl) (fun p0 e s m args below meth c g hret => ?_)
  unfold f_M_isFlying
  refine G_aload_n g (pc := 0) 0 d_M_isFlying_0 rfl rfl ?_
  refine G_iconst g (pc := 1) (0 : Int32) d_M_isFlying_1 rfl ?_
  refine G_put g (pc := 2) fa_M_76 fw_10_8 rfl rfl (hw.mm 145 (Nat.le_of_ble_eq_true rfl) (Nat.le_of_ble_eq_true rfl)) (hw.k (zk145 rr)) d_M_isFlying_2 ?_
  refine G_nmM (fun M1 => ?_)
  refine G_aload_n g (pc := 5) 0 d_M_isFlying_5 rfl rfl ?_
  refine G_iconst g (pc := 6) (1 : Int32) d_M_isFlying_6 rfl ?_
  refine G_cVZ g (pc := 7) (As := [.int (1 : Int32)]) (st := []) cc_M_106 (c_M_is l hw (1 : Int32) M1) (hw.mm 145 (Nat.le_of_ble_eq_true rfl) (Nat.le_of_ble_eq_true rfl)) (hw.k (zk145 rr)) rfl (by decide) rfl ⟨(Nat.le_of_ble_eq_true rfl), (Nat.le_of_ble_eq_true rfl)⟩ ⟨(Nat.le_of_ble_eq_true rfl), (Nat.le_of_ble_eq_true rfl)⟩ (Nat.le_of_ble_eq_true rfl) d_M_isFlying_7 (fun x2 M3 => ?_)
  exact G_zreturn g (pc := 10) x2 rfl hret (Nat.le_of_ble_eq_true rfl) (Nat.le_of_ble_eq_true rfl) d_M_isFlying_10

theorem d_M_isFallen_0 : decode b_M_isFallen 0 = .ok (.aload_n 0, 1) := by decide +kernel
theorem d_M_isFallen_1 : decode b_M_isFallen 1 = .ok (.iconst 0, 1) := by decide +kernel
theorem d_M_isFallen_2 : decode b_M_isFallen 2 = .ok (.putfield 76, 3) := by decide +kernel
theorem d_M_isFallen_5 : decode b_M_isFallen 5 = .ok (.aload_n 0, 1) := by decide +kernel
theorem d_M_isFallen_6 : decode b_M_isFallen 6 = .ok (.iconst 2, 1) := by decide +kernel
theorem d_M_isFallen_7 : decode b_M_isFallen 7 = .ok (.invokevirtual 106, 3) := by decide +kernel
theorem d_M_isFallen_10 : decode b_M_isFallen 10 = .ok (.ireturn, 1) := by decide +kernel
def f_M_isFallen (rr : Nat) (M : Mem) : Option (Bool × Mem) :=
  nm (put M 145 8 (0 : Int32)) fun (M1 : Mem) => bnd (f_M_is rr (2 : Int32) M1) fun (x2 : Bool) (M3 : Mem) => some (x2, M3)
set_option maxHeartbeats 4000000 in
set_option maxRecDepth 100000 in
theorem c_M_isFallen (l : Launch) {w : Wc} {rr : Nat} (hw : WM w rr)  (M : Mem) : Ct QZ l y_M_isFallen b_M_isFallen 1 (some .boolean) (rmL 1) w [.ref (wad w 145)] M (f_M_isFallen rr M) := by
  refine Ct.go (by decide) (L := [(0, .ref (wad w 145))]) rfl (Nat.le_of_ble_eq_true rfl) (fun p0 e s m args below meth c g hret => ?_)
  unfold f_M_isFallen
  refine G_aload_n g (pc := 0) 0 d_M_isFallen_0 rfl rfl ?_
  refine G_iconst g (pc := 1) (0 : Int32) d_M_isFallen_1 rfl ?_
  refine G_put g (pc := 2) fa_M_76 fw_10_8 rfl rfl (hw.mm 145 (Nat.le_of_ble_eq_true rfl) (Nat.le_of_ble_eq_true rfl)) (hw.k (zk145 rr)) d_M_isFallen_2 ?_
  refine G_nmM (fun M1 => ?_)
  refine G_aload_n g (pc := 5) 0 d_M_isFallen_5 rfl rfl ?_
  refine G_iconst g (pc := 6) (2 : Int32) d_M_isFallen_6 rfl ?_
  refine G_cVZ g (pc := 7) (As := [.int (2 : Int32)]) (st := []) cc_M_106 (c_M_is l hw (2 : Int32) M1) (hw.mm 145 (Nat.le_of_ble_eq_true rfl) (Nat.le_of_ble_eq_true rfl)) (hw.k (zk145 rr)) rfl (by decide) rfl ⟨(Nat.le_of_ble_eq_true rfl), (Nat.le_of_ble_eq_true rfl)⟩ ⟨(Nat.le_of_ble_eq_true rfl), (Nat.le_of_ble_eq_true rfl)⟩ (Nat.le_of_ble_eq_true rfl) d_M_isFallen_7 (fun x2 M3 => ?_)
  exact G_zreturn g (pc := 10) x2 rfl hret (Nat.le_of_ble_eq_true rfl) (Nat.le_of_ble_eq_true rfl) d_M_isFallen_10

theorem d_M_height_0 : decode b_M_height 0 = .ok (.aload_n 0, 1) := by decide +kernel
theorem d_M_height_1 : decode b_M_height 1 = .ok (.iconst 0, 1) := by decide +kernel
theorem d_M_height_2 : decode b_M_height 2 = .ok (.putfield 76, 3) := by decide +kernel
theorem d_M_height_5 : decode b_M_height 5 = .ok (.aload_n 0, 1) := by decide +kernel
theorem d_M_height_6 : decode b_M_height 6 = .ok (.getfield 28, 3) := by decide +kernel
theorem d_M_height_9 : decode b_M_height 9 = .ok (.bipush 7, 2) := by decide +kernel
theorem d_M_height_11 : decode b_M_height 11 = .ok (.iaload, 1) := by decide +kernel
theorem d_M_height_12 : decode b_M_height 12 = .ok (.ireturn, 1) := by decide +kernel
def f_M_height (rr : Nat) (M : Mem) : Option (Int32 × Mem) :=
  nm (put M 145 8 (0 : Int32)) fun (M1 : Mem) => some (M1 rr 7, M1)
set_option maxHeartbeats 4000000 in
set_option maxRecDepth 100000 in
theorem c_M_height (l : Launch) {w : Wc} {rr : Nat} (hw : WM w rr)  (M : Mem) : Ct QI l y_M_height b_M_height 1 (some .int) (rmL 0) w [.ref (wad w 145)] M (f_M_height rr M) := by
  refine Ct.go (by decide) (L := [(0, .ref (wad w 145))]) rfl (Nat.le_of_ble_eq_true rfl) (fun p0 e s m args below meth c g hret => ?_)
  unfold f_M_height
  refine G_aload_n g (pc := 0) 0 d_M_height_0 rfl rfl ?_
  refine G_iconst g (pc := 1) (0 : Int32) d_M_height_1 rfl ?_
  refine G_put g (pc := 2) fa_M_76 fw_10_8 rfl rfl (hw.mm 145 (Nat.le_of_ble_eq_true rfl) (Nat.le_of_ble_eq_true rfl)) (hw.k (zk145 rr)) d_M_height_2 ?_
  refine G_nmM (fun M1 => ?_)
  refine G_aload_n g (pc := 5) 0 d_M_height_5 rfl rfl ?_
  refine G_getR g (pc := 6) fa_M_28 (hw.mm 145 (Nat.le_of_ble_eq_true rfl) (Nat.le_of_ble_eq_true rfl)) (hw.k (zk145 rr)) (hw.r hw.rr) d_M_height_6 ?_
  refine G_bipush g (pc := 9) (7 : Int32) d_M_height_9 rfl ?_
  refine G_ialdK g (pc := 11) (nn := 405) 7 rfl rfl hw.mr hw.kr hw.nr d_M_height_11 ?_
  exact G_ireturn g (pc := 12) hret (Nat.le_of_ble_eq_true rfl) (Nat.le_of_ble_eq_true rfl) d_M_height_12

theorem d_M_tether_0 : decode b_M_tether 0 = .ok (.aload_n 0, 1) := by decide +kernel
theorem d_M_tether_1 : decode b_M_tether 1 = .ok (.iconst 0, 1) := by decide +kernel
theorem d_M_tether_2 : decode b_M_tether 2 = .ok (.putfield 76, 3) := by decide +kernel
theorem d_M_tether_5 : decode b_M_tether 5 = .ok (.aload_n 0, 1) := by decide +kernel
theorem d_M_tether_6 : decode b_M_tether 6 = .ok (.getfield 28, 3) := by decide +kernel
theorem d_M_tether_9 : decode b_M_tether 9 = .ok (.bipush 8, 2) := by decide +kernel
theorem d_M_tether_11 : decode b_M_tether 11 = .ok (.iaload, 1) := by decide +kernel
theorem d_M_tether_12 : decode b_M_tether 12 = .ok (.ireturn, 1) := by decide +kernel
def f_M_tether (rr : Nat) (M : Mem) : Option (Int32 × Mem) :=
  nm (put M 145 8 (0 : Int32)) fun (M1 : Mem) => some (M1 rr 8, M1)
set_option maxHeartbeats 4000000 in
set_option maxRecDepth 100000 in
theorem c_M_tether (l : Launch) {w : Wc} {rr : Nat} (hw : WM w rr)  (M : Mem) : Ct QI l y_M_tether b_M_tether 1 (some .int) (rmL 0) w [.ref (wad w 145)] M (f_M_tether rr M) := by
  refine Ct.go (by decide) (L := [(0, .ref (wad w 145))]) rfl (Nat.le_of_ble_eq_true rfl) (fun p0 e s m args below meth c g hret => ?_)
  unfold f_M_tether
  refine G_aload_n g (pc := 0) 0 d_M_tether_0 rfl rfl ?_
  refine G_iconst g (pc := 1) (0 : Int32) d_M_tether_1 rfl ?_
  refine G_put g (pc := 2) fa_M_76 fw_10_8 rfl rfl (hw.mm 145 (Nat.le_of_ble_eq_true rfl) (Nat.le_of_ble_eq_true rfl)) (hw.k (zk145 rr)) d_M_tether_2 ?_
  refine G_nmM (fun M1 => ?_)
  refine G_aload_n g (pc := 5) 0 d_M_tether_5 rfl rfl ?_
  refine G_getR g (pc := 6) fa_M_28 (hw.mm 145 (Nat.le_of_ble_eq_true rfl) (Nat.le_of_ble_eq_true rfl)) (hw.k (zk145 rr)) (hw.r hw.rr) d_M_tether_6 ?_
  refine G_bipush g (pc := 9) (8 : Int32) d_M_tether_9 rfl ?_
  refine G_ialdK g (pc := 11) (nn := 405) 8 rfl rfl hw.mr hw.kr hw.nr d_M_tether_11 ?_
  exact G_ireturn g (pc := 12) hret (Nat.le_of_ble_eq_true rfl) (Nat.le_of_ble_eq_true rfl) d_M_tether_12

theorem d_M_area_0 : decode b_M_area 0 = .ok (.aload_n 0, 1) := by decide +kernel
theorem d_M_area_1 : decode b_M_area 1 = .ok (.iconst 0, 1) := by decide +kernel
theorem d_M_area_2 : decode b_M_area 2 = .ok (.putfield 76, 3) := by decide +kernel
theorem d_M_area_5 : decode b_M_area 5 = .ok (.aload_n 0, 1) := by decide +kernel
theorem d_M_area_6 : decode b_M_area 6 = .ok (.getfield 28, 3) := by decide +kernel
theorem d_M_area_9 : decode b_M_area 9 = .ok (.iconst 1, 1) := by decide +kernel
theorem d_M_area_10 : decode b_M_area 10 = .ok (.iaload, 1) := by decide +kernel
theorem d_M_area_11 : decode b_M_area 11 = .ok (.ireturn, 1) := by decide +kernel
def f_M_area (rr : Nat) (M : Mem) : Option (Int32 × Mem) :=
  nm (put M 145 8 (0 : Int32)) fun (M1 : Mem) => some (M1 rr 1, M1)
set_option maxHeartbeats 4000000 in
set_option maxRecDepth 100000 in
theorem c_M_area (l : Launch) {w : Wc} {rr : Nat} (hw : WM w rr)  (M : Mem) : Ct QI l y_M_area b_M_area 1 (some .int) (rmL 0) w [.ref (wad w 145)] M (f_M_area rr M) := by
  refine Ct.go (by decide) (L := [(0, .ref (wad w 145))]) rfl (Nat.le_of_ble_eq_true rfl) (fun p0 e s m args below meth c g hret => ?_)
  unfold f_M_area
  refine G_aload_n g (pc := 0) 0 d_M_area_0 rfl rfl ?_
  refine G_iconst g (pc := 1) (0 : Int32) d_M_area_1 rfl ?_
  refine G_put g (pc := 2) fa_M_76 fw_10_8 rfl rfl (hw.mm 145 (Nat.le_of_ble_eq_true rfl) (Nat.le_of_ble_eq_true rfl)) (hw.k (zk145 rr)) d_M_area_2 ?_
  refine G_nmM (fun M1 => ?_)
  refine G_aload_n g (pc := 5) 0 d_M_area_5 rfl rfl ?_
  refine G_getR g (pc := 6) fa_M_28 (hw.mm 145 (Nat.le_of_ble_eq_true rfl) (Nat.le_of_ble_eq_true rfl)) (hw.k (zk145 rr)) (hw.r hw.rr) d_M_area_6 ?_
  refine G_iconst g (pc := 9) (1 : Int32) d_M_area_9 rfl ?_
  refine G_ialdK g (pc := 10) (nn := 405) 1 rfl rfl hw.mr hw.kr hw.nr d_M_area_10 ?_
  exact G_ireturn g (pc := 11) hret (Nat.le_of_ble_eq_true rfl) (Nat.le_of_ble_eq_true rfl) d_M_area_11

theorem d_M_limit_0 : decode b_M_limit 0 = .ok (.aload_n 0, 1) := by decide +kernel
theorem d_M_limit_1 : decode b_M_limit 1 = .ok (.iconst 0, 1) := by decide +kernel
theorem d_M_limit_2 : decode b_M_limit 2 = .ok (.putfield 76, 3) := by decide +kernel
theorem d_M_limit_5 : decode b_M_limit 5 = .ok (.aload_n 0, 1) := by decide +kernel
theorem d_M_limit_6 : decode b_M_limit 6 = .ok (.getfield 28, 3) := by decide +kernel
theorem d_M_limit_9 : decode b_M_limit 9 = .ok (.iconst 2, 1) := by decide +kernel
theorem d_M_limit_10 : decode b_M_limit 10 = .ok (.iaload, 1) := by decide +kernel
theorem d_M_limit_11 : decode b_M_limit 11 = .ok (.ireturn, 1) := by decide +kernel
def f_M_limit (rr : Nat) (M : Mem) : Option (Int32 × Mem) :=
  nm (put M 145 8 (0 : Int32)) fun (M1 : Mem) => some (M1 rr 2, M1)
set_option maxHeartbeats 4000000 in
set_option maxRecDepth 100000 in
theorem c_M_limit (l : Launch) {w : Wc} {rr : Nat} (hw : WM w rr)  (M : Mem) : Ct QI l y_M_limit b_M_limit 1 (some .int) (rmL 0) w [.ref (wad w 145)] M (f_M_limit rr M) := by
  refine Ct.go (by decide) (L := [(0, .ref (wad w 145))]) rfl (Nat.le_of_ble_eq_true rfl) (fun p0 e s m args below meth c g hret => ?_)
  unfold f_M_limit
  refine G_aload_n g (pc := 0) 0 d_M_limit_0 rfl rfl ?_
  refine G_iconst g (pc := 1) (0 : Int32) d_M_limit_1 rfl ?_
  refine G_put g (pc := 2) fa_M_76 fw_10_8 rfl rfl (hw.mm 145 (Nat.le_of_ble_eq_true rfl) (Nat.le_of_ble_eq_true rfl)) (hw.k (zk145 rr)) d_M_limit_2 ?_
  refine G_nmM (fun M1 => ?_)
  refine G_aload_n g (pc := 5) 0 d_M_limit_5 rfl rfl ?_
  refine G_getR g (pc := 6) fa_M_28 (hw.mm 145 (Nat.le_of_ble_eq_true rfl) (Nat.le_of_ble_eq_true rfl)) (hw.k (zk145 rr)) (hw.r hw.rr) d_M_limit_6 ?_
  refine G_iconst g (pc := 9) (2 : Int32) d_M_limit_9 rfl ?_
  refine G_ialdK g (pc := 10) (nn := 405) 2 rfl rfl hw.mr hw.kr hw.nr d_M_limit_10 ?_
  exact G_ireturn g (pc := 11) hret (Nat.le_of_ble_eq_true rfl) (Nat.le_of_ble_eq_true rfl) d_M_limit_11

theorem d_M_endurance_0 : decode b_M_endurance 0 = .ok (.aload_n 0, 1) := by decide +kernel
theorem d_M_endurance_1 : decode b_M_endurance 1 = .ok (.iconst 0, 1) := by decide +kernel
theorem d_M_endurance_2 : decode b_M_endurance 2 = .ok (.putfield 76, 3) := by decide +kernel
theorem d_M_endurance_5 : decode b_M_endurance 5 = .ok (.aload_n 0, 1) := by decide +kernel
theorem d_M_endurance_6 : decode b_M_endurance 6 = .ok (.getfield 28, 3) := by decide +kernel
theorem d_M_endurance_9 : decode b_M_endurance 9 = .ok (.iconst 3, 1) := by decide +kernel
theorem d_M_endurance_10 : decode b_M_endurance 10 = .ok (.iaload, 1) := by decide +kernel
theorem d_M_endurance_11 : decode b_M_endurance 11 = .ok (.ireturn, 1) := by decide +kernel
def f_M_endurance (rr : Nat) (M : Mem) : Option (Int32 × Mem) :=
  nm (put M 145 8 (0 : Int32)) fun (M1 : Mem) => some (M1 rr 3, M1)
set_option maxHeartbeats 4000000 in
set_option maxRecDepth 100000 in
theorem c_M_endurance (l : Launch) {w : Wc} {rr : Nat} (hw : WM w rr)  (M : Mem) : Ct QI l y_M_endurance b_M_endurance 1 (some .int) (rmL 0) w [.ref (wad w 145)] M (f_M_endurance rr M) := by
  refine Ct.go (by decide) (L := [(0, .ref (wad w 145))]) rfl (Nat.le_of_ble_eq_true rfl) (fun p0 e s m args below meth c g hret => ?_)
  unfold f_M_endurance
  refine G_aload_n g (pc := 0) 0 d_M_endurance_0 rfl rfl ?_
  refine G_iconst g (pc := 1) (0 : Int32) d_M_endurance_1 rfl ?_
  refine G_put g (pc := 2) fa_M_76 fw_10_8 rfl rfl (hw.mm 145 (Nat.le_of_ble_eq_true rfl) (Nat.le_of_ble_eq_true rfl)) (hw.k (zk145 rr)) d_M_endurance_2 ?_
  refine G_nmM (fun M1 => ?_)
  refine G_aload_n g (pc := 5) 0 d_M_endurance_5 rfl rfl ?_
  refine G_getR g (pc := 6) fa_M_28 (hw.mm 145 (Nat.le_of_ble_eq_true rfl) (Nat.le_of_ble_eq_true rfl)) (hw.k (zk145 rr)) (hw.r hw.rr) d_M_endurance_6 ?_
  refine G_iconst g (pc := 9) (3 : Int32) d_M_endurance_9 rfl ?_
  refine G_ialdK g (pc := 10) (nn := 405) 3 rfl rfl hw.mr hw.kr hw.nr d_M_endurance_10 ?_
  exact G_ireturn g (pc := 11) hret (Nat.le_of_ble_eq_true rfl) (Nat.le_of_ble_eq_true rfl) d_M_endurance_11

theorem d_M_wear_0 : decode b_M_wear 0 = .ok (.aload_n 0, 1) := by decide +kernel
theorem d_M_wear_1 : decode b_M_wear 1 = .ok (.iconst 0, 1) := by decide +kernel
theorem d_M_wear_2 : decode b_M_wear 2 = .ok (.putfield 76, 3) := by decide +kernel
theorem d_M_wear_5 : decode b_M_wear 5 = .ok (.aload_n 0, 1) := by decide +kernel
theorem d_M_wear_6 : decode b_M_wear 6 = .ok (.getfield 28, 3) := by decide +kernel
theorem d_M_wear_9 : decode b_M_wear 9 = .ok (.bipush 9, 2) := by decide +kernel
theorem d_M_wear_11 : decode b_M_wear 11 = .ok (.iaload, 1) := by decide +kernel
theorem d_M_wear_12 : decode b_M_wear 12 = .ok (.ireturn, 1) := by decide +kernel
def f_M_wear (rr : Nat) (M : Mem) : Option (Int32 × Mem) :=
  nm (put M 145 8 (0 : Int32)) fun (M1 : Mem) => some (M1 rr 9, M1)
set_option maxHeartbeats 4000000 in
set_option maxRecDepth 100000 in
theorem c_M_wear (l : Launch) {w : Wc} {rr : Nat} (hw : WM w rr)  (M : Mem) : Ct QI l y_M_wear b_M_wear 1 (some .int) (rmL 0) w [.ref (wad w 145)] M (f_M_wear rr M) := by
  refine Ct.go (by decide) (L := [(0, .ref (wad w 145))]) rfl (Nat.le_of_ble_eq_true rfl) (fun p0 e s m args below meth c g hret => ?_)
  unfold f_M_wear
  refine G_aload_n g (pc := 0) 0 d_M_wear_0 rfl rfl ?_
  refine G_iconst g (pc := 1) (0 : Int32) d_M_wear_1 rfl ?_
  refine G_put g (pc := 2) fa_M_76 fw_10_8 rfl rfl (hw.mm 145 (Nat.le_of_ble_eq_true rfl) (Nat.le_of_ble_eq_true rfl)) (hw.k (zk145 rr)) d_M_wear_2 ?_
  refine G_nmM (fun M1 => ?_)
  refine G_aload_n g (pc := 5) 0 d_M_wear_5 rfl rfl ?_
  refine G_getR g (pc := 6) fa_M_28 (hw.mm 145 (Nat.le_of_ble_eq_true rfl) (Nat.le_of_ble_eq_true rfl)) (hw.k (zk145 rr)) (hw.r hw.rr) d_M_wear_6 ?_
  refine G_bipush g (pc := 9) (9 : Int32) d_M_wear_9 rfl ?_
  refine G_ialdK g (pc := 11) (nn := 405) 9 rfl rfl hw.mr hw.kr hw.nr d_M_wear_11 ?_
  exact G_ireturn g (pc := 12) hret (Nat.le_of_ble_eq_true rfl) (Nat.le_of_ble_eq_true rfl) d_M_wear_12

theorem d_M_loadOf_0 : decode b_M_loadOf 0 = .ok (.aload_n 0, 1) := by decide +kernel
theorem d_M_loadOf_1 : decode b_M_loadOf 1 = .ok (.iload_n 1, 1) := by decide +kernel
theorem d_M_loadOf_2 : decode b_M_loadOf 2 = .ok (.iconst 0, 1) := by decide +kernel
theorem d_M_loadOf_3 : decode b_M_loadOf 3 = .ok (.bipush 36, 2) := by decide +kernel
theorem d_M_loadOf_5 : decode b_M_loadOf 5 = .ok (.invokestatic 83, 3) := by decide +kernel
theorem d_M_loadOf_8 : decode b_M_loadOf 8 = .ok (.invokevirtual 87, 3) := by decide +kernel
theorem d_M_loadOf_11 : decode b_M_loadOf 11 = .ok (.ifCond .eq 7, 3) := by decide +kernel
theorem d_M_loadOf_14 : decode b_M_loadOf 14 = .ok (.iconst 0, 1) := by decide +kernel
theorem d_M_loadOf_15 : decode b_M_loadOf 15 = .ok (.goto 8, 3) := by decide +kernel
theorem d_M_loadOf_18 : decode b_M_loadOf 18 = .ok (.aload_n 0, 1) := by decide +kernel
theorem d_M_loadOf_19 : decode b_M_loadOf 19 = .ok (.iload_n 1, 1) := by decide +kernel
theorem d_M_loadOf_20 : decode b_M_loadOf 20 = .ok (.invokevirtual 110, 3) := by decide +kernel
theorem d_M_loadOf_23 : decode b_M_loadOf 23 = .ok (.ireturn, 1) := by decide +kernel
theorem cc_M_110 : CV "KiteLoggerModel" 110 y_M_load b_M_load 2 (some .int) 1 := ⟨TT_in (i := 1552) (by decide +kernel) (by decide +kernel), TT_in (i := 1554) (by decide +kernel) (by decide +kernel), TT_in (i := 30) (by decide +kernel) (by decide +kernel), TT_in (i := 100) (by decide +kernel) (by decide +kernel), TT_in (i := 1555) (by decide +kernel) (by decide +kernel), ⟨by decide +kernel, by decide +kernel, by decide +kernel⟩⟩
def f_M_loadOf (rr : Nat) (a1 : Int32) (M : Mem) : Option (Int32 × Mem) :=
  bnd (f_M_inRange a1 (0 : Int32) (36 : Int32) M) fun (x1 : Bool) (M2 : Mem) => bnd (f_M_lacks x1 M2) fun (x3 : Bool) (M4 : Mem) => if x3 = true then (some ((0 : Int32), M4)) else (bnd (f_M_load rr a1 M4) fun (x5 : Int32) (M6 : Mem) => some (x5, M6))
set_option maxHeartbeats 4000000 in
set_option maxRecDepth 100000 in
theorem c_M_loadOf (l : Launch) {w : Wc} {rr : Nat} (hw : WM w rr) (a1 : Int32) (M : Mem) : Ct QI l y_M_loadOf b_M_loadOf 2 (some .int) (rmL 1) w [.ref (wad w 145), .int a1] M (f_M_loadOf rr a1 M) := by
  refine Ct.go (by decide) (L := [(0, .ref (wad w 145)), (1, .int a1)]) rfl (Nat.le_of_ble_eq_true rfl) (fun p0 e s m args below meth c g hret => ?_)
  unfold f_M_loadOf
  refine G_aload_n g (pc := 0) 0 d_M_loadOf_0 rfl rfl ?_
  refine G_iload_n g (pc := 1) 1 d_M_loadOf_1 rfl rfl ?_
  refine G_iconst g (pc := 2) (0 : Int32) d_M_loadOf_2 rfl ?_
  refine G_bipush g (pc := 3) (36 : Int32) d_M_loadOf_3 rfl ?_
  refine G_cSZ g (pc := 5) (As := [.int a1, .int (0 : Int32), .int (36 : Int32)]) (st := [.ref (wad w 145)]) cc_M_83 (c_M_inRange l hw a1 (0 : Int32) (36 : Int32) M) rfl ⟨(Nat.le_of_ble_eq_true rfl), (Nat.le_of_ble_eq_true rfl)⟩ ⟨(Nat.le_of_ble_eq_true rfl), (Nat.le_of_ble_eq_true rfl)⟩ (Nat.le_of_ble_eq_true rfl) d_M_loadOf_5 (fun x1 M2 => ?_)
  refine G_cVZ g (pc := 8) (As := [.int (b2i x1)]) (st := []) cc_M_87 (c_M_lacks l hw x1 M2) (hw.mm 145 (Nat.le_of_ble_eq_true rfl) (Nat.le_of_ble_eq_true rfl)) (hw.k (zk145 rr)) rfl (by decide) rfl ⟨(Nat.le_of_ble_eq_true rfl), (Nat.le_of_ble_eq_true rfl)⟩ ⟨(Nat.le_of_ble_eq_true rfl), (Nat.le_of_ble_eq_true rfl)⟩ (Nat.le_of_ble_eq_true rfl) d_M_loadOf_8 (fun x3 M4 => ?_)
  refine G_if_eqB g (pc := 11) 18 d_M_loadOf_11 (by decide) ?_ ?_
  · refine G_iconst g (pc := 14) (0 : Int32) d_M_loadOf_14 rfl ?_
    refine G_goto g (pc := 15) 23 d_M_loadOf_15 (by decide) ?_
    exact G_ireturn g (pc := 23) hret (Nat.le_of_ble_eq_true rfl) (Nat.le_of_ble_eq_true rfl) d_M_loadOf_23
  · refine G_aload_n g (pc := 18) 0 d_M_loadOf_18 rfl rfl ?_
    refine G_iload_n g (pc := 19) 1 d_M_loadOf_19 rfl rfl ?_
    refine G_cVI g (pc := 20) (As := [.int a1]) (st := []) cc_M_110 (c_M_load l hw a1 M4) (hw.mm 145 (Nat.le_of_ble_eq_true rfl) (Nat.le_of_ble_eq_true rfl)) (hw.k (zk145 rr)) rfl (by decide) rfl ⟨(Nat.le_of_ble_eq_true rfl), (Nat.le_of_ble_eq_true rfl)⟩ ⟨(Nat.le_of_ble_eq_true rfl), (Nat.le_of_ble_eq_true rfl)⟩ (Nat.le_of_ble_eq_true rfl) d_M_loadOf_20 (fun x5 M6 => ?_)
    exact G_ireturn g (pc := 23) hret (Nat.le_of_ble_eq_true rfl) (Nat.le_of_ble_eq_true rfl) d_M_loadOf_23

theorem d_M_flightTime_0 : decode b_M_flightTime 0 = .ok (.aload_n 0, 1) := by decide +kernel
theorem d_M_flightTime_1 : decode b_M_flightTime 1 = .ok (.iconst 0, 1) := by decide +kernel
theorem d_M_flightTime_2 : decode b_M_flightTime 2 = .ok (.putfield 76, 3) := by decide +kernel
theorem d_M_flightTime_5 : decode b_M_flightTime 5 = .ok (.aload_n 0, 1) := by decide +kernel
theorem d_M_flightTime_6 : decode b_M_flightTime 6 = .ok (.iconst 1, 1) := by decide +kernel
theorem d_M_flightTime_7 : decode b_M_flightTime 7 = .ok (.invokevirtual 106, 3) := by decide +kernel
theorem d_M_flightTime_10 : decode b_M_flightTime 10 = .ok (.ifCond .eq 13, 3) := by decide +kernel
theorem d_M_flightTime_13 : decode b_M_flightTime 13 = .ok (.aload_n 0, 1) := by decide +kernel
theorem d_M_flightTime_14 : decode b_M_flightTime 14 = .ok (.getfield 28, 3) := by decide +kernel
theorem d_M_flightTime_17 : decode b_M_flightTime 17 = .ok (.bipush 12, 2) := by decide +kernel
theorem d_M_flightTime_19 : decode b_M_flightTime 19 = .ok (.iaload, 1) := by decide +kernel
theorem d_M_flightTime_20 : decode b_M_flightTime 20 = .ok (.goto 4, 3) := by decide +kernel
theorem d_M_flightTime_23 : decode b_M_flightTime 23 = .ok (.iconst 0, 1) := by decide +kernel
theorem d_M_flightTime_24 : decode b_M_flightTime 24 = .ok (.ireturn, 1) := by decide +kernel
def f_M_flightTime (rr : Nat) (M : Mem) : Option (Int32 × Mem) :=
  nm (put M 145 8 (0 : Int32)) fun (M1 : Mem) => bnd (f_M_is rr (1 : Int32) M1) fun (x2 : Bool) (M3 : Mem) => if x2 = true then (some (M3 rr 12, M3)) else (some ((0 : Int32), M3))
set_option maxHeartbeats 4000000 in
set_option maxRecDepth 100000 in
theorem c_M_flightTime (l : Launch) {w : Wc} {rr : Nat} (hw : WM w rr)  (M : Mem) : Ct QI l y_M_flightTime b_M_flightTime 1 (some .int) (rmL 1) w [.ref (wad w 145)] M (f_M_flightTime rr M) := by
  refine Ct.go (by decide) (L := [(0, .ref (wad w 145))]) rfl (Nat.le_of_ble_eq_true rfl) (fun p0 e s m args below meth c g hret => ?_)
  unfold f_M_flightTime
  refine G_aload_n g (pc := 0) 0 d_M_flightTime_0 rfl rfl ?_
  refine G_iconst g (pc := 1) (0 : Int32) d_M_flightTime_1 rfl ?_
  refine G_put g (pc := 2) fa_M_76 fw_10_8 rfl rfl (hw.mm 145 (Nat.le_of_ble_eq_true rfl) (Nat.le_of_ble_eq_true rfl)) (hw.k (zk145 rr)) d_M_flightTime_2 ?_
  refine G_nmM (fun M1 => ?_)
  refine G_aload_n g (pc := 5) 0 d_M_flightTime_5 rfl rfl ?_
  refine G_iconst g (pc := 6) (1 : Int32) d_M_flightTime_6 rfl ?_
  refine G_cVZ g (pc := 7) (As := [.int (1 : Int32)]) (st := []) cc_M_106 (c_M_is l hw (1 : Int32) M1) (hw.mm 145 (Nat.le_of_ble_eq_true rfl) (Nat.le_of_ble_eq_true rfl)) (hw.k (zk145 rr)) rfl (by decide) rfl ⟨(Nat.le_of_ble_eq_true rfl), (Nat.le_of_ble_eq_true rfl)⟩ ⟨(Nat.le_of_ble_eq_true rfl), (Nat.le_of_ble_eq_true rfl)⟩ (Nat.le_of_ble_eq_true rfl) d_M_flightTime_7 (fun x2 M3 => ?_)
  refine G_if_eqB g (pc := 10) 23 d_M_flightTime_10 (by decide) ?_ ?_
  · refine G_aload_n g (pc := 13) 0 d_M_flightTime_13 rfl rfl ?_
    refine G_getR g (pc := 14) fa_M_28 (hw.mm 145 (Nat.le_of_ble_eq_true rfl) (Nat.le_of_ble_eq_true rfl)) (hw.k (zk145 rr)) (hw.r hw.rr) d_M_flightTime_14 ?_
    refine G_bipush g (pc := 17) (12 : Int32) d_M_flightTime_17 rfl ?_
    refine G_ialdK g (pc := 19) (nn := 405) 12 rfl rfl hw.mr hw.kr hw.nr d_M_flightTime_19 ?_
    refine G_goto g (pc := 20) 24 d_M_flightTime_20 (by decide) ?_
    exact G_ireturn g (pc := 24) hret (Nat.le_of_ble_eq_true rfl) (Nat.le_of_ble_eq_true rfl) d_M_flightTime_24
  · refine G_iconst g (pc := 23) (0 : Int32) d_M_flightTime_23 rfl ?_
    exact G_ireturn g (pc := 24) hret (Nat.le_of_ble_eq_true rfl) (Nat.le_of_ble_eq_true rfl) d_M_flightTime_24

theorem d_M_beaconTime_0 : decode b_M_beaconTime 0 = .ok (.aload_n 0, 1) := by decide +kernel
theorem d_M_beaconTime_1 : decode b_M_beaconTime 1 = .ok (.iconst 0, 1) := by decide +kernel
theorem d_M_beaconTime_2 : decode b_M_beaconTime 2 = .ok (.putfield 76, 3) := by decide +kernel
theorem d_M_beaconTime_5 : decode b_M_beaconTime 5 = .ok (.aload_n 0, 1) := by decide +kernel
theorem d_M_beaconTime_6 : decode b_M_beaconTime 6 = .ok (.iconst 2, 1) := by decide +kernel
theorem d_M_beaconTime_7 : decode b_M_beaconTime 7 = .ok (.invokevirtual 106, 3) := by decide +kernel
theorem d_M_beaconTime_10 : decode b_M_beaconTime 10 = .ok (.ifCond .eq 13, 3) := by decide +kernel
theorem d_M_beaconTime_13 : decode b_M_beaconTime 13 = .ok (.aload_n 0, 1) := by decide +kernel
theorem d_M_beaconTime_14 : decode b_M_beaconTime 14 = .ok (.getfield 28, 3) := by decide +kernel
theorem d_M_beaconTime_17 : decode b_M_beaconTime 17 = .ok (.bipush 11, 2) := by decide +kernel
theorem d_M_beaconTime_19 : decode b_M_beaconTime 19 = .ok (.iaload, 1) := by decide +kernel
theorem d_M_beaconTime_20 : decode b_M_beaconTime 20 = .ok (.goto 4, 3) := by decide +kernel
theorem d_M_beaconTime_23 : decode b_M_beaconTime 23 = .ok (.iconst 0, 1) := by decide +kernel
theorem d_M_beaconTime_24 : decode b_M_beaconTime 24 = .ok (.ireturn, 1) := by decide +kernel
def f_M_beaconTime (rr : Nat) (M : Mem) : Option (Int32 × Mem) :=
  nm (put M 145 8 (0 : Int32)) fun (M1 : Mem) => bnd (f_M_is rr (2 : Int32) M1) fun (x2 : Bool) (M3 : Mem) => if x2 = true then (some (M3 rr 11, M3)) else (some ((0 : Int32), M3))
set_option maxHeartbeats 4000000 in
set_option maxRecDepth 100000 in
theorem c_M_beaconTime (l : Launch) {w : Wc} {rr : Nat} (hw : WM w rr)  (M : Mem) : Ct QI l y_M_beaconTime b_M_beaconTime 1 (some .int) (rmL 1) w [.ref (wad w 145)] M (f_M_beaconTime rr M) := by
  refine Ct.go (by decide) (L := [(0, .ref (wad w 145))]) rfl (Nat.le_of_ble_eq_true rfl) (fun p0 e s m args below meth c g hret => ?_)
  unfold f_M_beaconTime
  refine G_aload_n g (pc := 0) 0 d_M_beaconTime_0 rfl rfl ?_
  refine G_iconst g (pc := 1) (0 : Int32) d_M_beaconTime_1 rfl ?_
  refine G_put g (pc := 2) fa_M_76 fw_10_8 rfl rfl (hw.mm 145 (Nat.le_of_ble_eq_true rfl) (Nat.le_of_ble_eq_true rfl)) (hw.k (zk145 rr)) d_M_beaconTime_2 ?_
  refine G_nmM (fun M1 => ?_)
  refine G_aload_n g (pc := 5) 0 d_M_beaconTime_5 rfl rfl ?_
  refine G_iconst g (pc := 6) (2 : Int32) d_M_beaconTime_6 rfl ?_
  refine G_cVZ g (pc := 7) (As := [.int (2 : Int32)]) (st := []) cc_M_106 (c_M_is l hw (2 : Int32) M1) (hw.mm 145 (Nat.le_of_ble_eq_true rfl) (Nat.le_of_ble_eq_true rfl)) (hw.k (zk145 rr)) rfl (by decide) rfl ⟨(Nat.le_of_ble_eq_true rfl), (Nat.le_of_ble_eq_true rfl)⟩ ⟨(Nat.le_of_ble_eq_true rfl), (Nat.le_of_ble_eq_true rfl)⟩ (Nat.le_of_ble_eq_true rfl) d_M_beaconTime_7 (fun x2 M3 => ?_)
  refine G_if_eqB g (pc := 10) 23 d_M_beaconTime_10 (by decide) ?_ ?_
  · refine G_aload_n g (pc := 13) 0 d_M_beaconTime_13 rfl rfl ?_
    refine G_getR g (pc := 14) fa_M_28 (hw.mm 145 (Nat.le_of_ble_eq_true rfl) (Nat.le_of_ble_eq_true rfl)) (hw.k (zk145 rr)) (hw.r hw.rr) d_M_beaconTime_14 ?_
    refine G_bipush g (pc := 17) (11 : Int32) d_M_beaconTime_17 rfl ?_
    refine G_ialdK g (pc := 19) (nn := 405) 11 rfl rfl hw.mr hw.kr hw.nr d_M_beaconTime_19 ?_
    refine G_goto g (pc := 20) 24 d_M_beaconTime_20 (by decide) ?_
    exact G_ireturn g (pc := 24) hret (Nat.le_of_ble_eq_true rfl) (Nat.le_of_ble_eq_true rfl) d_M_beaconTime_24
  · refine G_iconst g (pc := 23) (0 : Int32) d_M_beaconTime_23 rfl ?_
    exact G_ireturn g (pc := 24) hret (Nat.le_of_ble_eq_true rfl) (Nat.le_of_ble_eq_true rfl) d_M_beaconTime_24

theorem d_M_launches_0 : decode b_M_launches 0 = .ok (.aload_n 0, 1) := by decide +kernel
theorem d_M_launches_1 : decode b_M_launches 1 = .ok (.iconst 0, 1) := by decide +kernel
theorem d_M_launches_2 : decode b_M_launches 2 = .ok (.putfield 76, 3) := by decide +kernel
theorem d_M_launches_5 : decode b_M_launches 5 = .ok (.aload_n 0, 1) := by decide +kernel
theorem d_M_launches_6 : decode b_M_launches 6 = .ok (.getfield 28, 3) := by decide +kernel
theorem d_M_launches_9 : decode b_M_launches 9 = .ok (.bipush 13, 2) := by decide +kernel
theorem d_M_launches_11 : decode b_M_launches 11 = .ok (.iaload, 1) := by decide +kernel
theorem d_M_launches_12 : decode b_M_launches 12 = .ok (.ireturn, 1) := by decide +kernel
def f_M_launches (rr : Nat) (M : Mem) : Option (Int32 × Mem) :=
  nm (put M 145 8 (0 : Int32)) fun (M1 : Mem) => some (M1 rr 13, M1)
set_option maxHeartbeats 4000000 in
set_option maxRecDepth 100000 in
theorem c_M_launches (l : Launch) {w : Wc} {rr : Nat} (hw : WM w rr)  (M : Mem) : Ct QI l y_M_launches b_M_launches 1 (some .int) (rmL 0) w [.ref (wad w 145)] M (f_M_launches rr M) := by
  refine Ct.go (by decide) (L := [(0, .ref (wad w 145))]) rfl (Nat.le_of_ble_eq_true rfl) (fun p0 e s m args below meth c g hret => ?_)
  unfold f_M_launches
  refine G_aload_n g (pc := 0) 0 d_M_launches_0 rfl rfl ?_
  refine G_iconst g (pc := 1) (0 : Int32) d_M_launches_1 rfl ?_
  refine G_put g (pc := 2) fa_M_76 fw_10_8 rfl rfl (hw.mm 145 (Nat.le_of_ble_eq_true rfl) (Nat.le_of_ble_eq_true rfl)) (hw.k (zk145 rr)) d_M_launches_2 ?_
  refine G_nmM (fun M1 => ?_)
  refine G_aload_n g (pc := 5) 0 d_M_launches_5 rfl rfl ?_
  refine G_getR g (pc := 6) fa_M_28 (hw.mm 145 (Nat.le_of_ble_eq_true rfl) (Nat.le_of_ble_eq_true rfl)) (hw.k (zk145 rr)) (hw.r hw.rr) d_M_launches_6 ?_
  refine G_bipush g (pc := 9) (13 : Int32) d_M_launches_9 rfl ?_
  refine G_ialdK g (pc := 11) (nn := 405) 13 rfl rfl hw.mr hw.kr hw.nr d_M_launches_11 ?_
  exact G_ireturn g (pc := 12) hret (Nat.le_of_ble_eq_true rfl) (Nat.le_of_ble_eq_true rfl) d_M_launches_12

theorem d_M_snaps_0 : decode b_M_snaps 0 = .ok (.aload_n 0, 1) := by decide +kernel
theorem d_M_snaps_1 : decode b_M_snaps 1 = .ok (.iconst 0, 1) := by decide +kernel
theorem d_M_snaps_2 : decode b_M_snaps 2 = .ok (.putfield 76, 3) := by decide +kernel
theorem d_M_snaps_5 : decode b_M_snaps 5 = .ok (.aload_n 0, 1) := by decide +kernel
theorem d_M_snaps_6 : decode b_M_snaps 6 = .ok (.getfield 28, 3) := by decide +kernel
theorem d_M_snaps_9 : decode b_M_snaps 9 = .ok (.bipush 14, 2) := by decide +kernel
theorem d_M_snaps_11 : decode b_M_snaps 11 = .ok (.iaload, 1) := by decide +kernel
theorem d_M_snaps_12 : decode b_M_snaps 12 = .ok (.ireturn, 1) := by decide +kernel
def f_M_snaps (rr : Nat) (M : Mem) : Option (Int32 × Mem) :=
  nm (put M 145 8 (0 : Int32)) fun (M1 : Mem) => some (M1 rr 14, M1)
set_option maxHeartbeats 4000000 in
set_option maxRecDepth 100000 in
theorem c_M_snaps (l : Launch) {w : Wc} {rr : Nat} (hw : WM w rr)  (M : Mem) : Ct QI l y_M_snaps b_M_snaps 1 (some .int) (rmL 0) w [.ref (wad w 145)] M (f_M_snaps rr M) := by
  refine Ct.go (by decide) (L := [(0, .ref (wad w 145))]) rfl (Nat.le_of_ble_eq_true rfl) (fun p0 e s m args below meth c g hret => ?_)
  unfold f_M_snaps
  refine G_aload_n g (pc := 0) 0 d_M_snaps_0 rfl rfl ?_
  refine G_iconst g (pc := 1) (0 : Int32) d_M_snaps_1 rfl ?_
  refine G_put g (pc := 2) fa_M_76 fw_10_8 rfl rfl (hw.mm 145 (Nat.le_of_ble_eq_true rfl) (Nat.le_of_ble_eq_true rfl)) (hw.k (zk145 rr)) d_M_snaps_2 ?_
  refine G_nmM (fun M1 => ?_)
  refine G_aload_n g (pc := 5) 0 d_M_snaps_5 rfl rfl ?_
  refine G_getR g (pc := 6) fa_M_28 (hw.mm 145 (Nat.le_of_ble_eq_true rfl) (Nat.le_of_ble_eq_true rfl)) (hw.k (zk145 rr)) (hw.r hw.rr) d_M_snaps_6 ?_
  refine G_bipush g (pc := 9) (14 : Int32) d_M_snaps_9 rfl ?_
  refine G_ialdK g (pc := 11) (nn := 405) 14 rfl rfl hw.mr hw.kr hw.nr d_M_snaps_11 ?_
  exact G_ireturn g (pc := 12) hret (Nat.le_of_ble_eq_true rfl) (Nat.le_of_ble_eq_true rfl) d_M_snaps_12

theorem d_M_searches_0 : decode b_M_searches 0 = .ok (.aload_n 0, 1) := by decide +kernel
theorem d_M_searches_1 : decode b_M_searches 1 = .ok (.iconst 0, 1) := by decide +kernel
theorem d_M_searches_2 : decode b_M_searches 2 = .ok (.putfield 76, 3) := by decide +kernel
theorem d_M_searches_5 : decode b_M_searches 5 = .ok (.aload_n 0, 1) := by decide +kernel
theorem d_M_searches_6 : decode b_M_searches 6 = .ok (.getfield 28, 3) := by decide +kernel
theorem d_M_searches_9 : decode b_M_searches 9 = .ok (.bipush 15, 2) := by decide +kernel
theorem d_M_searches_11 : decode b_M_searches 11 = .ok (.iaload, 1) := by decide +kernel
theorem d_M_searches_12 : decode b_M_searches 12 = .ok (.ireturn, 1) := by decide +kernel
def f_M_searches (rr : Nat) (M : Mem) : Option (Int32 × Mem) :=
  nm (put M 145 8 (0 : Int32)) fun (M1 : Mem) => some (M1 rr 15, M1)
set_option maxHeartbeats 4000000 in
set_option maxRecDepth 100000 in
theorem c_M_searches (l : Launch) {w : Wc} {rr : Nat} (hw : WM w rr)  (M : Mem) : Ct QI l y_M_searches b_M_searches 1 (some .int) (rmL 0) w [.ref (wad w 145)] M (f_M_searches rr M) := by
  refine Ct.go (by decide) (L := [(0, .ref (wad w 145))]) rfl (Nat.le_of_ble_eq_true rfl) (fun p0 e s m args below meth c g hret => ?_)
  unfold f_M_searches
  refine G_aload_n g (pc := 0) 0 d_M_searches_0 rfl rfl ?_
  refine G_iconst g (pc := 1) (0 : Int32) d_M_searches_1 rfl ?_
  refine G_put g (pc := 2) fa_M_76 fw_10_8 rfl rfl (hw.mm 145 (Nat.le_of_ble_eq_true rfl) (Nat.le_of_ble_eq_true rfl)) (hw.k (zk145 rr)) d_M_searches_2 ?_
  refine G_nmM (fun M1 => ?_)
  refine G_aload_n g (pc := 5) 0 d_M_searches_5 rfl rfl ?_
  refine G_getR g (pc := 6) fa_M_28 (hw.mm 145 (Nat.le_of_ble_eq_true rfl) (Nat.le_of_ble_eq_true rfl)) (hw.k (zk145 rr)) (hw.r hw.rr) d_M_searches_6 ?_
  refine G_bipush g (pc := 9) (15 : Int32) d_M_searches_9 rfl ?_
  refine G_ialdK g (pc := 11) (nn := 405) 15 rfl rfl hw.mr hw.kr hw.nr d_M_searches_11 ?_
  exact G_ireturn g (pc := 12) hret (Nat.le_of_ble_eq_true rfl) (Nat.le_of_ble_eq_true rfl) d_M_searches_12

theorem d_M_interval_0 : decode b_M_interval 0 = .ok (.aload_n 0, 1) := by decide +kernel
theorem d_M_interval_1 : decode b_M_interval 1 = .ok (.iconst 0, 1) := by decide +kernel
theorem d_M_interval_2 : decode b_M_interval 2 = .ok (.putfield 76, 3) := by decide +kernel
theorem d_M_interval_5 : decode b_M_interval 5 = .ok (.aload_n 0, 1) := by decide +kernel
theorem d_M_interval_6 : decode b_M_interval 6 = .ok (.getfield 28, 3) := by decide +kernel
theorem d_M_interval_9 : decode b_M_interval 9 = .ok (.iconst 4, 1) := by decide +kernel
theorem d_M_interval_10 : decode b_M_interval 10 = .ok (.iaload, 1) := by decide +kernel
theorem d_M_interval_11 : decode b_M_interval 11 = .ok (.ireturn, 1) := by decide +kernel
def f_M_interval (rr : Nat) (M : Mem) : Option (Int32 × Mem) :=
  nm (put M 145 8 (0 : Int32)) fun (M1 : Mem) => some (M1 rr 4, M1)
set_option maxHeartbeats 4000000 in
set_option maxRecDepth 100000 in
theorem c_M_interval (l : Launch) {w : Wc} {rr : Nat} (hw : WM w rr)  (M : Mem) : Ct QI l y_M_interval b_M_interval 1 (some .int) (rmL 0) w [.ref (wad w 145)] M (f_M_interval rr M) := by
  refine Ct.go (by decide) (L := [(0, .ref (wad w 145))]) rfl (Nat.le_of_ble_eq_true rfl) (fun p0 e s m args below meth c g hret => ?_)
  unfold f_M_interval
  refine G_aload_n g (pc := 0) 0 d_M_interval_0 rfl rfl ?_
  refine G_iconst g (pc := 1) (0 : Int32) d_M_interval_1 rfl ?_
  refine G_put g (pc := 2) fa_M_76 fw_10_8 rfl rfl (hw.mm 145 (Nat.le_of_ble_eq_true rfl) (Nat.le_of_ble_eq_true rfl)) (hw.k (zk145 rr)) d_M_interval_2 ?_
  refine G_nmM (fun M1 => ?_)
  refine G_aload_n g (pc := 5) 0 d_M_interval_5 rfl rfl ?_
  refine G_getR g (pc := 6) fa_M_28 (hw.mm 145 (Nat.le_of_ble_eq_true rfl) (Nat.le_of_ble_eq_true rfl)) (hw.k (zk145 rr)) (hw.r hw.rr) d_M_interval_6 ?_
  refine G_iconst g (pc := 9) (4 : Int32) d_M_interval_9 rfl ?_
  refine G_ialdK g (pc := 10) (nn := 405) 4 rfl rfl hw.mr hw.kr hw.nr d_M_interval_10 ?_
  exact G_ireturn g (pc := 11) hret (Nat.le_of_ble_eq_true rfl) (Nat.le_of_ble_eq_true rfl) d_M_interval_11

theorem d_M_loggedCount_0 : decode b_M_loggedCount 0 = .ok (.aload_n 0, 1) := by decide +kernel
theorem d_M_loggedCount_1 : decode b_M_loggedCount 1 = .ok (.iconst 0, 1) := by decide +kernel
theorem d_M_loggedCount_2 : decode b_M_loggedCount 2 = .ok (.putfield 76, 3) := by decide +kernel
theorem d_M_loggedCount_5 : decode b_M_loggedCount 5 = .ok (.aload_n 0, 1) := by decide +kernel
theorem d_M_loggedCount_6 : decode b_M_loggedCount 6 = .ok (.getfield 28, 3) := by decide +kernel
theorem d_M_loggedCount_9 : decode b_M_loggedCount 9 = .ok (.bipush 17, 2) := by decide +kernel
theorem d_M_loggedCount_11 : decode b_M_loggedCount 11 = .ok (.iaload, 1) := by decide +kernel
theorem d_M_loggedCount_12 : decode b_M_loggedCount 12 = .ok (.ireturn, 1) := by decide +kernel
def f_M_loggedCount (rr : Nat) (M : Mem) : Option (Int32 × Mem) :=
  nm (put M 145 8 (0 : Int32)) fun (M1 : Mem) => some (M1 rr 17, M1)
set_option maxHeartbeats 4000000 in
set_option maxRecDepth 100000 in
theorem c_M_loggedCount (l : Launch) {w : Wc} {rr : Nat} (hw : WM w rr)  (M : Mem) : Ct QI l y_M_loggedCount b_M_loggedCount 1 (some .int) (rmL 0) w [.ref (wad w 145)] M (f_M_loggedCount rr M) := by
  refine Ct.go (by decide) (L := [(0, .ref (wad w 145))]) rfl (Nat.le_of_ble_eq_true rfl) (fun p0 e s m args below meth c g hret => ?_)
  unfold f_M_loggedCount
  refine G_aload_n g (pc := 0) 0 d_M_loggedCount_0 rfl rfl ?_
  refine G_iconst g (pc := 1) (0 : Int32) d_M_loggedCount_1 rfl ?_
  refine G_put g (pc := 2) fa_M_76 fw_10_8 rfl rfl (hw.mm 145 (Nat.le_of_ble_eq_true rfl) (Nat.le_of_ble_eq_true rfl)) (hw.k (zk145 rr)) d_M_loggedCount_2 ?_
  refine G_nmM (fun M1 => ?_)
  refine G_aload_n g (pc := 5) 0 d_M_loggedCount_5 rfl rfl ?_
  refine G_getR g (pc := 6) fa_M_28 (hw.mm 145 (Nat.le_of_ble_eq_true rfl) (Nat.le_of_ble_eq_true rfl)) (hw.k (zk145 rr)) (hw.r hw.rr) d_M_loggedCount_6 ?_
  refine G_bipush g (pc := 9) (17 : Int32) d_M_loggedCount_9 rfl ?_
  refine G_ialdK g (pc := 11) (nn := 405) 17 rfl rfl hw.mr hw.kr hw.nr d_M_loggedCount_11 ?_
  exact G_ireturn g (pc := 12) hret (Nat.le_of_ble_eq_true rfl) (Nat.le_of_ble_eq_true rfl) d_M_loggedCount_12

theorem d_M_logged_0 : decode b_M_logged 0 = .ok (.aload_n 0, 1) := by decide +kernel
theorem d_M_logged_1 : decode b_M_logged 1 = .ok (.iload_n 1, 1) := by decide +kernel
theorem d_M_logged_2 : decode b_M_logged 2 = .ok (.iconst 0, 1) := by decide +kernel
theorem d_M_logged_3 : decode b_M_logged 3 = .ok (.aload_n 0, 1) := by decide +kernel
theorem d_M_logged_4 : decode b_M_logged 4 = .ok (.getfield 28, 3) := by decide +kernel
theorem d_M_logged_7 : decode b_M_logged 7 = .ok (.bipush 17, 2) := by decide +kernel
theorem d_M_logged_9 : decode b_M_logged 9 = .ok (.iaload, 1) := by decide +kernel
theorem d_M_logged_10 : decode b_M_logged 10 = .ok (.iconst 1, 1) := by decide +kernel
theorem d_M_logged_11 : decode b_M_logged 11 = .ok (.isub, 1) := by decide +kernel
theorem d_M_logged_12 : decode b_M_logged 12 = .ok (.invokestatic 83, 3) := by decide +kernel
theorem d_M_logged_15 : decode b_M_logged 15 = .ok (.invokevirtual 87, 3) := by decide +kernel
theorem d_M_logged_18 : decode b_M_logged 18 = .ok (.ifCond .eq 7, 3) := by decide +kernel
theorem d_M_logged_21 : decode b_M_logged 21 = .ok (.iconst 0, 1) := by decide +kernel
theorem d_M_logged_22 : decode b_M_logged 22 = .ok (.goto 16, 3) := by decide +kernel
theorem d_M_logged_25 : decode b_M_logged 25 = .ok (.aload_n 0, 1) := by decide +kernel
theorem d_M_logged_26 : decode b_M_logged 26 = .ok (.getfield 28, 3) := by decide +kernel
theorem d_M_logged_29 : decode b_M_logged 29 = .ok (.bipush 45, 2) := by decide +kernel
theorem d_M_logged_31 : decode b_M_logged 31 = .ok (.iconst 3, 1) := by decide +kernel
theorem d_M_logged_32 : decode b_M_logged 32 = .ok (.iload_n 1, 1) := by decide +kernel
theorem d_M_logged_33 : decode b_M_logged 33 = .ok (.imul, 1) := by decide +kernel
theorem d_M_logged_34 : decode b_M_logged 34 = .ok (.iadd, 1) := by decide +kernel
theorem d_M_logged_35 : decode b_M_logged 35 = .ok (.iload_n 2, 1) := by decide +kernel
theorem d_M_logged_36 : decode b_M_logged 36 = .ok (.iadd, 1) := by decide +kernel
theorem d_M_logged_37 : decode b_M_logged 37 = .ok (.iaload, 1) := by decide +kernel
theorem d_M_logged_38 : decode b_M_logged 38 = .ok (.ireturn, 1) := by decide +kernel
def f_M_logged (rr : Nat) (a1 : Int32) (a2 : Int32) (M : Mem) : Option (Int32 × Mem) :=
  bnd (f_M_inRange a1 (0 : Int32) ((M rr 17) - (1 : Int32)) M) fun (x1 : Bool) (M2 : Mem) => bnd (f_M_lacks x1 M2) fun (x3 : Bool) (M4 : Mem) => if x3 = true then (some ((0 : Int32), M4)) else (grd (inB (((45 : Int32) + ((3 : Int32) * a1)) + a2) 405) (some (M4 rr (((45 : Int32) + ((3 : Int32) * a1)) + a2).toNatClampNeg, M4)))
set_option maxHeartbeats 4000000 in
set_option maxRecDepth 100000 in
theorem c_M_logged (l : Launch) {w : Wc} {rr : Nat} (hw : WM w rr) (a1 : Int32) (a2 : Int32) (M : Mem) : Ct QI l y_M_logged b_M_logged 3 (some .int) (rmL 1) w [.ref (wad w 145), .int a1, .int a2] M (f_M_logged rr a1 a2 M) := by
  refine Ct.go (by decide) (L := [(0, .ref (wad w 145)), (1, .int a1), (2, .int a2)]) rfl (Nat.le_of_ble_eq_true rfl) (fun p0 e s m args below meth c g hret => ?_)
  unfold f_M_logged
  refine G_aload_n g (pc := 0) 0 d_M_logged_0 rfl rfl ?_
  refine G_iload_n g (pc := 1) 1 d_M_logged_1 rfl rfl ?_
  refine G_iconst g (pc := 2) (0 : Int32) d_M_logged_2 rfl ?_
  refine G_aload_n g (pc := 3) 0 d_M_logged_3 rfl rfl ?_
  refine G_getR g (pc := 4) fa_M_28 (hw.mm 145 (Nat.le_of_ble_eq_true rfl) (Nat.le_of_ble_eq_true rfl)) (hw.k (zk145 rr)) (hw.r hw.rr) d_M_logged_4 ?_
  refine G_bipush g (pc := 7) (17 : Int32) d_M_logged_7 rfl ?_
  refine G_ialdK g (pc := 9) (nn := 405) 17 rfl rfl hw.mr hw.kr hw.nr d_M_logged_9 ?_
  refine G_iconst g (pc := 10) (1 : Int32) d_M_logged_10 rfl ?_
  refine G_isub g (pc := 11) d_M_logged_11 ?_
  refine G_cSZ g (pc := 12) (As := [.int a1, .int (0 : Int32), .int ((M rr 17) - (1 : Int32))]) (st := [.ref (wad w 145)]) cc_M_83 (c_M_inRange l hw a1 (0 : Int32) ((M rr 17) - (1 : Int32)) M) rfl ⟨(Nat.le_of_ble_eq_true rfl), (Nat.le_of_ble_eq_true rfl)⟩ ⟨(Nat.le_of_ble_eq_true rfl), (Nat.le_of_ble_eq_true rfl)⟩ (Nat.le_of_ble_eq_true rfl) d_M_logged_12 (fun x1 M2 => ?_)
  refine G_cVZ g (pc := 15) (As := [.int (b2i x1)]) (st := []) cc_M_87 (c_M_lacks l hw x1 M2) (hw.mm 145 (Nat.le_of_ble_eq_true rfl) (Nat.le_of_ble_eq_true rfl)) (hw.k (zk145 rr)) rfl (by decide) rfl ⟨(Nat.le_of_ble_eq_true rfl), (Nat.le_of_ble_eq_true rfl)⟩ ⟨(Nat.le_of_ble_eq_true rfl), (Nat.le_of_ble_eq_true rfl)⟩ (Nat.le_of_ble_eq_true rfl) d_M_logged_15 (fun x3 M4 => ?_)
  refine G_if_eqB g (pc := 18) 25 d_M_logged_18 (by decide) ?_ ?_
  · refine G_iconst g (pc := 21) (0 : Int32) d_M_logged_21 rfl ?_
    refine G_goto g (pc := 22) 38 d_M_logged_22 (by decide) ?_
    exact G_ireturn g (pc := 38) hret (Nat.le_of_ble_eq_true rfl) (Nat.le_of_ble_eq_true rfl) d_M_logged_38
  · refine G_aload_n g (pc := 25) 0 d_M_logged_25 rfl rfl ?_
    refine G_getR g (pc := 26) fa_M_28 (hw.mm 145 (Nat.le_of_ble_eq_true rfl) (Nat.le_of_ble_eq_true rfl)) (hw.k (zk145 rr)) (hw.r hw.rr) d_M_logged_26 ?_
    refine G_bipush g (pc := 29) (45 : Int32) d_M_logged_29 rfl ?_
    refine G_iconst g (pc := 31) (3 : Int32) d_M_logged_31 rfl ?_
    refine G_iload_n g (pc := 32) 1 d_M_logged_32 rfl rfl ?_
    refine G_imul g (pc := 33) d_M_logged_33 ?_
    refine G_iadd g (pc := 34) d_M_logged_34 ?_
    refine G_iload_n g (pc := 35) 2 d_M_logged_35 rfl rfl ?_
    refine G_iadd g (pc := 36) d_M_logged_36 ?_
    refine G_iald g (pc := 37) (nn := 405) hw.mr hw.kr hw.nr d_M_logged_37 ?_
    exact G_ireturn g (pc := 38) hret (Nat.le_of_ble_eq_true rfl) (Nat.le_of_ble_eq_true rfl) d_M_logged_38

theorem d_M_loggedTick_0 : decode b_M_loggedTick 0 = .ok (.aload_n 0, 1) := by decide +kernel
theorem d_M_loggedTick_1 : decode b_M_loggedTick 1 = .ok (.iload_n 1, 1) := by decide +kernel
theorem d_M_loggedTick_2 : decode b_M_loggedTick 2 = .ok (.iconst 0, 1) := by decide +kernel
theorem d_M_loggedTick_3 : decode b_M_loggedTick 3 = .ok (.invokevirtual 113, 3) := by decide +kernel
theorem d_M_loggedTick_6 : decode b_M_loggedTick 6 = .ok (.ireturn, 1) := by decide +kernel
theorem cc_M_113 : CV "KiteLoggerModel" 113 y_M_logged b_M_logged 3 (some .int) 2 := ⟨TT_in (i := 1588) (by decide +kernel) (by decide +kernel), TT_in (i := 1590) (by decide +kernel) (by decide +kernel), TT_in (i := 31) (by decide +kernel) (by decide +kernel), TT_in (i := 100) (by decide +kernel) (by decide +kernel), TT_in (i := 1591) (by decide +kernel) (by decide +kernel), ⟨by decide +kernel, by decide +kernel, by decide +kernel⟩⟩
def f_M_loggedTick (rr : Nat) (a1 : Int32) (M : Mem) : Option (Int32 × Mem) :=
  bnd (f_M_logged rr a1 (0 : Int32) M) fun (x1 : Int32) (M2 : Mem) => some (x1, M2)
set_option maxHeartbeats 4000000 in
set_option maxRecDepth 100000 in
theorem c_M_loggedTick (l : Launch) {w : Wc} {rr : Nat} (hw : WM w rr) (a1 : Int32) (M : Mem) : Ct QI l y_M_loggedTick b_M_loggedTick 2 (some .int) (rmL 2) w [.ref (wad w 145), .int a1] M (f_M_loggedTick rr a1 M) := by
  refine Ct.go (by decide) (L := [(0, .ref (wad w 145)), (1, .int a1)]) rfl (Nat.le_of_ble_eq_true rfl) (fun p0 e s m args below meth c g hret => ?_)
  unfold f_M_loggedTick
  refine G_aload_n g (pc := 0) 0 d_M_loggedTick_0 rfl rfl ?_
  refine G_iload_n g (pc := 1) 1 d_M_loggedTick_1 rfl rfl ?_
  refine G_iconst g (pc := 2) (0 : Int32) d_M_loggedTick_2 rfl ?_
  refine G_cVI g (pc := 3) (As := [.int a1, .int (0 : Int32)]) (st := []) cc_M_113 (c_M_logged l hw a1 (0 : Int32) M) (hw.mm 145 (Nat.le_of_ble_eq_true rfl) (Nat.le_of_ble_eq_true rfl)) (hw.k (zk145 rr)) rfl (by decide) rfl ⟨(Nat.le_of_ble_eq_true rfl), (Nat.le_of_ble_eq_true rfl)⟩ ⟨(Nat.le_of_ble_eq_true rfl), (Nat.le_of_ble_eq_true rfl)⟩ (Nat.le_of_ble_eq_true rfl) d_M_loggedTick_3 (fun x1 M2 => ?_)
  exact G_ireturn g (pc := 6) hret (Nat.le_of_ble_eq_true rfl) (Nat.le_of_ble_eq_true rfl) d_M_loggedTick_6

theorem d_M_loggedHeight_0 : decode b_M_loggedHeight 0 = .ok (.aload_n 0, 1) := by decide +kernel
theorem d_M_loggedHeight_1 : decode b_M_loggedHeight 1 = .ok (.iload_n 1, 1) := by decide +kernel
theorem d_M_loggedHeight_2 : decode b_M_loggedHeight 2 = .ok (.iconst 1, 1) := by decide +kernel
theorem d_M_loggedHeight_3 : decode b_M_loggedHeight 3 = .ok (.invokevirtual 113, 3) := by decide +kernel
theorem d_M_loggedHeight_6 : decode b_M_loggedHeight 6 = .ok (.ireturn, 1) := by decide +kernel
def f_M_loggedHeight (rr : Nat) (a1 : Int32) (M : Mem) : Option (Int32 × Mem) :=
  bnd (f_M_logged rr a1 (1 : Int32) M) fun (x1 : Int32) (M2 : Mem) => some (x1, M2)
set_option maxHeartbeats 4000000 in
set_option maxRecDepth 100000 in
theorem c_M_loggedHeight (l : Launch) {w : Wc} {rr : Nat} (hw : WM w rr) (a1 : Int32) (M : Mem) : Ct QI l y_M_loggedHeight b_M_loggedHeight 2 (some .int) (rmL 2) w [.ref (wad w 145), .int a1] M (f_M_loggedHeight rr a1 M) := by
  refine Ct.go (by decide) (L := [(0, .ref (wad w 145)), (1, .int a1)]) rfl (Nat.le_of_ble_eq_true rfl) (fun p0 e s m args below meth c g hret => ?_)
  unfold f_M_loggedHeight
  refine G_aload_n g (pc := 0) 0 d_M_loggedHeight_0 rfl rfl ?_
  refine G_iload_n g (pc := 1) 1 d_M_loggedHeight_1 rfl rfl ?_
  refine G_iconst g (pc := 2) (1 : Int32) d_M_loggedHeight_2 rfl ?_
  refine G_cVI g (pc := 3) (As := [.int a1, .int (1 : Int32)]) (st := []) cc_M_113 (c_M_logged l hw a1 (1 : Int32) M) (hw.mm 145 (Nat.le_of_ble_eq_true rfl) (Nat.le_of_ble_eq_true rfl)) (hw.k (zk145 rr)) rfl (by decide) rfl ⟨(Nat.le_of_ble_eq_true rfl), (Nat.le_of_ble_eq_true rfl)⟩ ⟨(Nat.le_of_ble_eq_true rfl), (Nat.le_of_ble_eq_true rfl)⟩ (Nat.le_of_ble_eq_true rfl) d_M_loggedHeight_3 (fun x1 M2 => ?_)
  exact G_ireturn g (pc := 6) hret (Nat.le_of_ble_eq_true rfl) (Nat.le_of_ble_eq_true rfl) d_M_loggedHeight_6

theorem d_M_loggedGust_0 : decode b_M_loggedGust 0 = .ok (.aload_n 0, 1) := by decide +kernel
theorem d_M_loggedGust_1 : decode b_M_loggedGust 1 = .ok (.iload_n 1, 1) := by decide +kernel
theorem d_M_loggedGust_2 : decode b_M_loggedGust 2 = .ok (.iconst 2, 1) := by decide +kernel
theorem d_M_loggedGust_3 : decode b_M_loggedGust 3 = .ok (.invokevirtual 113, 3) := by decide +kernel
theorem d_M_loggedGust_6 : decode b_M_loggedGust 6 = .ok (.ireturn, 1) := by decide +kernel
def f_M_loggedGust (rr : Nat) (a1 : Int32) (M : Mem) : Option (Int32 × Mem) :=
  bnd (f_M_logged rr a1 (2 : Int32) M) fun (x1 : Int32) (M2 : Mem) => some (x1, M2)
set_option maxHeartbeats 4000000 in
set_option maxRecDepth 100000 in
theorem c_M_loggedGust (l : Launch) {w : Wc} {rr : Nat} (hw : WM w rr) (a1 : Int32) (M : Mem) : Ct QI l y_M_loggedGust b_M_loggedGust 2 (some .int) (rmL 2) w [.ref (wad w 145), .int a1] M (f_M_loggedGust rr a1 M) := by
  refine Ct.go (by decide) (L := [(0, .ref (wad w 145)), (1, .int a1)]) rfl (Nat.le_of_ble_eq_true rfl) (fun p0 e s m args below meth c g hret => ?_)
  unfold f_M_loggedGust
  refine G_aload_n g (pc := 0) 0 d_M_loggedGust_0 rfl rfl ?_
  refine G_iload_n g (pc := 1) 1 d_M_loggedGust_1 rfl rfl ?_
  refine G_iconst g (pc := 2) (2 : Int32) d_M_loggedGust_2 rfl ?_
  refine G_cVI g (pc := 3) (As := [.int a1, .int (2 : Int32)]) (st := []) cc_M_113 (c_M_logged l hw a1 (2 : Int32) M) (hw.mm 145 (Nat.le_of_ble_eq_true rfl) (Nat.le_of_ble_eq_true rfl)) (hw.k (zk145 rr)) rfl (by decide) rfl ⟨(Nat.le_of_ble_eq_true rfl), (Nat.le_of_ble_eq_true rfl)⟩ ⟨(Nat.le_of_ble_eq_true rfl), (Nat.le_of_ble_eq_true rfl)⟩ (Nat.le_of_ble_eq_true rfl) d_M_loggedGust_3 (fun x1 M2 => ?_)
  exact G_ireturn g (pc := 6) hret (Nat.le_of_ble_eq_true rfl) (Nat.le_of_ble_eq_true rfl) d_M_loggedGust_6

theorem d_M_droppedCount_0 : decode b_M_droppedCount 0 = .ok (.aload_n 0, 1) := by decide +kernel
theorem d_M_droppedCount_1 : decode b_M_droppedCount 1 = .ok (.iconst 0, 1) := by decide +kernel
theorem d_M_droppedCount_2 : decode b_M_droppedCount 2 = .ok (.putfield 76, 3) := by decide +kernel
theorem d_M_droppedCount_5 : decode b_M_droppedCount 5 = .ok (.aload_n 0, 1) := by decide +kernel
theorem d_M_droppedCount_6 : decode b_M_droppedCount 6 = .ok (.getfield 28, 3) := by decide +kernel
theorem d_M_droppedCount_9 : decode b_M_droppedCount 9 = .ok (.bipush 20, 2) := by decide +kernel
theorem d_M_droppedCount_11 : decode b_M_droppedCount 11 = .ok (.iaload, 1) := by decide +kernel
theorem d_M_droppedCount_12 : decode b_M_droppedCount 12 = .ok (.ireturn, 1) := by decide +kernel
def f_M_droppedCount (rr : Nat) (M : Mem) : Option (Int32 × Mem) :=
  nm (put M 145 8 (0 : Int32)) fun (M1 : Mem) => some (M1 rr 20, M1)
set_option maxHeartbeats 4000000 in
set_option maxRecDepth 100000 in
theorem c_M_droppedCount (l : Launch) {w : Wc} {rr : Nat} (hw : WM w rr)  (M : Mem) : Ct QI l y_M_droppedCount b_M_droppedCount 1 (some .int) (rmL 0) w [.ref (wad w 145)] M (f_M_droppedCount rr M) := by
  refine Ct.go (by decide) (L := [(0, .ref (wad w 145))]) rfl (Nat.le_of_ble_eq_true rfl) (fun p0 e s m args below meth c g hret => ?_)
  unfold f_M_droppedCount
  refine G_aload_n g (pc := 0) 0 d_M_droppedCount_0 rfl rfl ?_
  refine G_iconst g (pc := 1) (0 : Int32) d_M_droppedCount_1 rfl ?_
  refine G_put g (pc := 2) fa_M_76 fw_10_8 rfl rfl (hw.mm 145 (Nat.le_of_ble_eq_true rfl) (Nat.le_of_ble_eq_true rfl)) (hw.k (zk145 rr)) d_M_droppedCount_2 ?_
  refine G_nmM (fun M1 => ?_)
  refine G_aload_n g (pc := 5) 0 d_M_droppedCount_5 rfl rfl ?_
  refine G_getR g (pc := 6) fa_M_28 (hw.mm 145 (Nat.le_of_ble_eq_true rfl) (Nat.le_of_ble_eq_true rfl)) (hw.k (zk145 rr)) (hw.r hw.rr) d_M_droppedCount_6 ?_
  refine G_bipush g (pc := 9) (20 : Int32) d_M_droppedCount_9 rfl ?_
  refine G_ialdK g (pc := 11) (nn := 405) 20 rfl rfl hw.mr hw.kr hw.nr d_M_droppedCount_11 ?_
  exact G_ireturn g (pc := 12) hret (Nat.le_of_ble_eq_true rfl) (Nat.le_of_ble_eq_true rfl) d_M_droppedCount_12

theorem d_M_archivedCount_0 : decode b_M_archivedCount 0 = .ok (.aload_n 0, 1) := by decide +kernel
theorem d_M_archivedCount_1 : decode b_M_archivedCount 1 = .ok (.iconst 0, 1) := by decide +kernel
theorem d_M_archivedCount_2 : decode b_M_archivedCount 2 = .ok (.putfield 76, 3) := by decide +kernel
theorem d_M_archivedCount_5 : decode b_M_archivedCount 5 = .ok (.aload_n 0, 1) := by decide +kernel
theorem d_M_archivedCount_6 : decode b_M_archivedCount 6 = .ok (.getfield 28, 3) := by decide +kernel
theorem d_M_archivedCount_9 : decode b_M_archivedCount 9 = .ok (.bipush 18, 2) := by decide +kernel
theorem d_M_archivedCount_11 : decode b_M_archivedCount 11 = .ok (.iaload, 1) := by decide +kernel
theorem d_M_archivedCount_12 : decode b_M_archivedCount 12 = .ok (.ireturn, 1) := by decide +kernel
def f_M_archivedCount (rr : Nat) (M : Mem) : Option (Int32 × Mem) :=
  nm (put M 145 8 (0 : Int32)) fun (M1 : Mem) => some (M1 rr 18, M1)
set_option maxHeartbeats 4000000 in
set_option maxRecDepth 100000 in
theorem c_M_archivedCount (l : Launch) {w : Wc} {rr : Nat} (hw : WM w rr)  (M : Mem) : Ct QI l y_M_archivedCount b_M_archivedCount 1 (some .int) (rmL 0) w [.ref (wad w 145)] M (f_M_archivedCount rr M) := by
  refine Ct.go (by decide) (L := [(0, .ref (wad w 145))]) rfl (Nat.le_of_ble_eq_true rfl) (fun p0 e s m args below meth c g hret => ?_)
  unfold f_M_archivedCount
  refine G_aload_n g (pc := 0) 0 d_M_archivedCount_0 rfl rfl ?_
  refine G_iconst g (pc := 1) (0 : Int32) d_M_archivedCount_1 rfl ?_
  refine G_put g (pc := 2) fa_M_76 fw_10_8 rfl rfl (hw.mm 145 (Nat.le_of_ble_eq_true rfl) (Nat.le_of_ble_eq_true rfl)) (hw.k (zk145 rr)) d_M_archivedCount_2 ?_
  refine G_nmM (fun M1 => ?_)
  refine G_aload_n g (pc := 5) 0 d_M_archivedCount_5 rfl rfl ?_
  refine G_getR g (pc := 6) fa_M_28 (hw.mm 145 (Nat.le_of_ble_eq_true rfl) (Nat.le_of_ble_eq_true rfl)) (hw.k (zk145 rr)) (hw.r hw.rr) d_M_archivedCount_6 ?_
  refine G_bipush g (pc := 9) (18 : Int32) d_M_archivedCount_9 rfl ?_
  refine G_ialdK g (pc := 11) (nn := 405) 18 rfl rfl hw.mr hw.kr hw.nr d_M_archivedCount_11 ?_
  exact G_ireturn g (pc := 12) hret (Nat.le_of_ble_eq_true rfl) (Nat.le_of_ble_eq_true rfl) d_M_archivedCount_12

theorem d_M_ofArchive_0 : decode b_M_ofArchive 0 = .ok (.aload_n 0, 1) := by decide +kernel
theorem d_M_ofArchive_1 : decode b_M_ofArchive 1 = .ok (.getfield 28, 3) := by decide +kernel
theorem d_M_ofArchive_4 : decode b_M_ofArchive 4 = .ok (.sipush 135, 3) := by decide +kernel
theorem d_M_ofArchive_7 : decode b_M_ofArchive 7 = .ok (.iconst 3, 1) := by decide +kernel
theorem d_M_ofArchive_8 : decode b_M_ofArchive 8 = .ok (.iload_n 1, 1) := by decide +kernel
theorem d_M_ofArchive_9 : decode b_M_ofArchive 9 = .ok (.imul, 1) := by decide +kernel
theorem d_M_ofArchive_10 : decode b_M_ofArchive 10 = .ok (.iadd, 1) := by decide +kernel
theorem d_M_ofArchive_11 : decode b_M_ofArchive 11 = .ok (.iload_n 2, 1) := by decide +kernel
theorem d_M_ofArchive_12 : decode b_M_ofArchive 12 = .ok (.iadd, 1) := by decide +kernel
theorem d_M_ofArchive_13 : decode b_M_ofArchive 13 = .ok (.iaload, 1) := by decide +kernel
theorem d_M_ofArchive_14 : decode b_M_ofArchive 14 = .ok (.ireturn, 1) := by decide +kernel
def f_M_ofArchive (rr : Nat) (a1 : Int32) (a2 : Int32) (M : Mem) : Option (Int32 × Mem) :=
  grd (inB (((135 : Int32) + ((3 : Int32) * a1)) + a2) 405) (some (M rr (((135 : Int32) + ((3 : Int32) * a1)) + a2).toNatClampNeg, M))
set_option maxHeartbeats 4000000 in
set_option maxRecDepth 100000 in
theorem c_M_ofArchive (l : Launch) {w : Wc} {rr : Nat} (hw : WM w rr) (a1 : Int32) (a2 : Int32) (M : Mem) : Ct QI l y_M_ofArchive b_M_ofArchive 3 (some .int) (rmL 0) w [.ref (wad w 145), .int a1, .int a2] M (f_M_ofArchive rr a1 a2 M) := by
  refine Ct.go (by decide) (L := [(0, .ref (wad w 145)), (1, .int a1), (2, .int a2)]) rfl (Nat.le_of_ble_eq_true rfl) (fun p0 e s m args below meth c g hret => ?_)
  unfold f_M_ofArchive
  refine G_aload_n g (pc := 0) 0 d_M_ofArchive_0 rfl rfl ?_
  refine G_getR g (pc := 1) fa_M_28 (hw.mm 145 (Nat.le_of_ble_eq_true rfl) (Nat.le_of_ble_eq_true rfl)) (hw.k (zk145 rr)) (hw.r hw.rr) d_M_ofArchive_1 ?_
  refine G_sipush g (pc := 4) (135 : Int32) d_M_ofArchive_4 rfl ?_
  refine G_iconst g (pc := 7) (3 : Int32) d_M_ofArchive_7 rfl ?_
  refine G_iload_n g (pc := 8) 1 d_M_ofArchive_8 rfl rfl ?_
  refine G_imul g (pc := 9) d_M_ofArchive_9 ?_
  refine G_iadd g (pc := 10) d_M_ofArchive_10 ?_
  refine G_iload_n g (pc := 11) 2 d_M_ofArchive_11 rfl rfl ?_
  refine G_iadd g (pc := 12) d_M_ofArchive_12 ?_
  refine G_iald g (pc := 13) (nn := 405) hw.mr hw.kr hw.nr d_M_ofArchive_13 ?_
  exact G_ireturn g (pc := 14) hret (Nat.le_of_ble_eq_true rfl) (Nat.le_of_ble_eq_true rfl) d_M_ofArchive_14

theorem d_M_archived_0 : decode b_M_archived 0 = .ok (.aload_n 0, 1) := by decide +kernel
theorem d_M_archived_1 : decode b_M_archived 1 = .ok (.iload_n 1, 1) := by decide +kernel
theorem d_M_archived_2 : decode b_M_archived 2 = .ok (.iconst 0, 1) := by decide +kernel
theorem d_M_archived_3 : decode b_M_archived 3 = .ok (.aload_n 0, 1) := by decide +kernel
theorem d_M_archived_4 : decode b_M_archived 4 = .ok (.getfield 28, 3) := by decide +kernel
theorem d_M_archived_7 : decode b_M_archived 7 = .ok (.bipush 18, 2) := by decide +kernel
theorem d_M_archived_9 : decode b_M_archived 9 = .ok (.iaload, 1) := by decide +kernel
theorem d_M_archived_10 : decode b_M_archived 10 = .ok (.iconst 1, 1) := by decide +kernel
theorem d_M_archived_11 : decode b_M_archived 11 = .ok (.isub, 1) := by decide +kernel
theorem d_M_archived_12 : decode b_M_archived 12 = .ok (.invokestatic 83, 3) := by decide +kernel
theorem d_M_archived_15 : decode b_M_archived 15 = .ok (.invokevirtual 87, 3) := by decide +kernel
theorem d_M_archived_18 : decode b_M_archived 18 = .ok (.ifCond .eq 7, 3) := by decide +kernel
theorem d_M_archived_21 : decode b_M_archived 21 = .ok (.iconst 0, 1) := by decide +kernel
theorem d_M_archived_22 : decode b_M_archived 22 = .ok (.goto 9, 3) := by decide +kernel
theorem d_M_archived_25 : decode b_M_archived 25 = .ok (.aload_n 0, 1) := by decide +kernel
theorem d_M_archived_26 : decode b_M_archived 26 = .ok (.iload_n 1, 1) := by decide +kernel
theorem d_M_archived_27 : decode b_M_archived 27 = .ok (.iload_n 2, 1) := by decide +kernel
theorem d_M_archived_28 : decode b_M_archived 28 = .ok (.invokevirtual 116, 3) := by decide +kernel
theorem d_M_archived_31 : decode b_M_archived 31 = .ok (.ireturn, 1) := by decide +kernel
theorem cc_M_116 : CV "KiteLoggerModel" 116 y_M_ofArchive b_M_ofArchive 3 (some .int) 2 := ⟨TT_in (i := 1616) (by decide +kernel) (by decide +kernel), TT_in (i := 1618) (by decide +kernel) (by decide +kernel), TT_in (i := 33) (by decide +kernel) (by decide +kernel), TT_in (i := 100) (by decide +kernel) (by decide +kernel), TT_in (i := 1619) (by decide +kernel) (by decide +kernel), ⟨by decide +kernel, by decide +kernel, by decide +kernel⟩⟩
def f_M_archived (rr : Nat) (a1 : Int32) (a2 : Int32) (M : Mem) : Option (Int32 × Mem) :=
  bnd (f_M_inRange a1 (0 : Int32) ((M rr 18) - (1 : Int32)) M) fun (x1 : Bool) (M2 : Mem) => bnd (f_M_lacks x1 M2) fun (x3 : Bool) (M4 : Mem) => if x3 = true then (some ((0 : Int32), M4)) else (bnd (f_M_ofArchive rr a1 a2 M4) fun (x5 : Int32) (M6 : Mem) => some (x5, M6))
set_option maxHeartbeats 4000000 in
set_option maxRecDepth 100000 in
theorem c_M_archived (l : Launch) {w : Wc} {rr : Nat} (hw : WM w rr) (a1 : Int32) (a2 : Int32) (M : Mem) : Ct QI l y_M_archived b_M_archived 3 (some .int) (rmL 1) w [.ref (wad w 145), .int a1, .int a2] M (f_M_archived rr a1 a2 M) := by
  refine Ct.go (by decide) (L := [(0, .ref (wad w 145)), (1, .int a1), (2, .int a2)]) rfl (Nat.le_of_ble_eq_true rfl) (fun p0 e s m args below meth c g hret => ?_)
  unfold f_M_archived
  refine G_aload_n g (pc := 0) 0 d_M_archived_0 rfl rfl ?_
  refine G_iload_n g (pc := 1) 1 d_M_archived_1 rfl rfl ?_
  refine G_iconst g (pc := 2) (0 : Int32) d_M_archived_2 rfl ?_
  refine G_aload_n g (pc := 3) 0 d_M_archived_3 rfl rfl ?_
  refine G_getR g (pc := 4) fa_M_28 (hw.mm 145 (Nat.le_of_ble_eq_true rfl) (Nat.le_of_ble_eq_true rfl)) (hw.k (zk145 rr)) (hw.r hw.rr) d_M_archived_4 ?_
  refine G_bipush g (pc := 7) (18 : Int32) d_M_archived_7 rfl ?_
  refine G_ialdK g (pc := 9) (nn := 405) 18 rfl rfl hw.mr hw.kr hw.nr d_M_archived_9 ?_
  refine G_iconst g (pc := 10) (1 : Int32) d_M_archived_10 rfl ?_
  refine G_isub g (pc := 11) d_M_archived_11 ?_
  refine G_cSZ g (pc := 12) (As := [.int a1, .int (0 : Int32), .int ((M rr 18) - (1 : Int32))]) (st := [.ref (wad w 145)]) cc_M_83 (c_M_inRange l hw a1 (0 : Int32) ((M rr 18) - (1 : Int32)) M) rfl ⟨(Nat.le_of_ble_eq_true rfl), (Nat.le_of_ble_eq_true rfl)⟩ ⟨(Nat.le_of_ble_eq_true rfl), (Nat.le_of_ble_eq_true rfl)⟩ (Nat.le_of_ble_eq_true rfl) d_M_archived_12 (fun x1 M2 => ?_)
  refine G_cVZ g (pc := 15) (As := [.int (b2i x1)]) (st := []) cc_M_87 (c_M_lacks l hw x1 M2) (hw.mm 145 (Nat.le_of_ble_eq_true rfl) (Nat.le_of_ble_eq_true rfl)) (hw.k (zk145 rr)) rfl (by decide) rfl ⟨(Nat.le_of_ble_eq_true rfl), (Nat.le_of_ble_eq_true rfl)⟩ ⟨(Nat.le_of_ble_eq_true rfl), (Nat.le_of_ble_eq_true rfl)⟩ (Nat.le_of_ble_eq_true rfl) d_M_archived_15 (fun x3 M4 => ?_)
  refine G_if_eqB g (pc := 18) 25 d_M_archived_18 (by decide) ?_ ?_
  · refine G_iconst g (pc := 21) (0 : Int32) d_M_archived_21 rfl ?_
    refine G_goto g (pc := 22) 31 d_M_archived_22 (by decide) ?_
    exact G_ireturn g (pc := 31) hret (Nat.le_of_ble_eq_true rfl) (Nat.le_of_ble_eq_true rfl) d_M_archived_31
  · refine G_aload_n g (pc := 25) 0 d_M_archived_25 rfl rfl ?_
    refine G_iload_n g (pc := 26) 1 d_M_archived_26 rfl rfl ?_
    refine G_iload_n g (pc := 27) 2 d_M_archived_27 rfl rfl ?_
    refine G_cVI g (pc := 28) (As := [.int a1, .int a2]) (st := []) cc_M_116 (c_M_ofArchive l hw a1 a2 M4) (hw.mm 145 (Nat.le_of_ble_eq_true rfl) (Nat.le_of_ble_eq_true rfl)) (hw.k (zk145 rr)) rfl (by decide) rfl ⟨(Nat.le_of_ble_eq_true rfl), (Nat.le_of_ble_eq_true rfl)⟩ ⟨(Nat.le_of_ble_eq_true rfl), (Nat.le_of_ble_eq_true rfl)⟩ (Nat.le_of_ble_eq_true rfl) d_M_archived_28 (fun x5 M6 => ?_)
    exact G_ireturn g (pc := 31) hret (Nat.le_of_ble_eq_true rfl) (Nat.le_of_ble_eq_true rfl) d_M_archived_31

theorem d_M_archivedTick_0 : decode b_M_archivedTick 0 = .ok (.aload_n 0, 1) := by decide +kernel
theorem d_M_archivedTick_1 : decode b_M_archivedTick 1 = .ok (.iload_n 1, 1) := by decide +kernel
theorem d_M_archivedTick_2 : decode b_M_archivedTick 2 = .ok (.iconst 0, 1) := by decide +kernel
theorem d_M_archivedTick_3 : decode b_M_archivedTick 3 = .ok (.invokevirtual 119, 3) := by decide +kernel
theorem d_M_archivedTick_6 : decode b_M_archivedTick 6 = .ok (.ireturn, 1) := by decide +kernel
theorem cc_M_119 : CV "KiteLoggerModel" 119 y_M_archived b_M_archived 3 (some .int) 2 := ⟨TT_in (i := 1612) (by decide +kernel) (by decide +kernel), TT_in (i := 1614) (by decide +kernel) (by decide +kernel), TT_in (i := 32) (by decide +kernel) (by decide +kernel), TT_in (i := 100) (by decide +kernel) (by decide +kernel), TT_in (i := 1615) (by decide +kernel) (by decide +kernel), ⟨by decide +kernel, by decide +kernel, by decide +kernel⟩⟩
def f_M_archivedTick (rr : Nat) (a1 : Int32) (M : Mem) : Option (Int32 × Mem) :=
  bnd (f_M_archived rr a1 (0 : Int32) M) fun (x1 : Int32) (M2 : Mem) => some (x1, M2)
set_option maxHeartbeats 4000000 in
set_option maxRecDepth 100000 in
theorem c_M_archivedTick (l : Launch) {w : Wc} {rr : Nat} (hw : WM w rr) (a1 : Int32) (M : Mem) : Ct QI l y_M_archivedTick b_M_archivedTick 2 (some .int) (rmL 2) w [.ref (wad w 145), .int a1] M (f_M_archivedTick rr a1 M) := by
  refine Ct.go (by decide) (L := [(0, .ref (wad w 145)), (1, .int a1)]) rfl (Nat.le_of_ble_eq_true rfl) (fun p0 e s m args below meth c g hret => ?_)
  unfold f_M_archivedTick
  refine G_aload_n g (pc := 0) 0 d_M_archivedTick_0 rfl rfl ?_
  refine G_iload_n g (pc := 1) 1 d_M_archivedTick_1 rfl rfl ?_
  refine G_iconst g (pc := 2) (0 : Int32) d_M_archivedTick_2 rfl ?_
  refine G_cVI g (pc := 3) (As := [.int a1, .int (0 : Int32)]) (st := []) cc_M_119 (c_M_archived l hw a1 (0 : Int32) M) (hw.mm 145 (Nat.le_of_ble_eq_true rfl) (Nat.le_of_ble_eq_true rfl)) (hw.k (zk145 rr)) rfl (by decide) rfl ⟨(Nat.le_of_ble_eq_true rfl), (Nat.le_of_ble_eq_true rfl)⟩ ⟨(Nat.le_of_ble_eq_true rfl), (Nat.le_of_ble_eq_true rfl)⟩ (Nat.le_of_ble_eq_true rfl) d_M_archivedTick_3 (fun x1 M2 => ?_)
  exact G_ireturn g (pc := 6) hret (Nat.le_of_ble_eq_true rfl) (Nat.le_of_ble_eq_true rfl) d_M_archivedTick_6

theorem d_M_archivedHeight_0 : decode b_M_archivedHeight 0 = .ok (.aload_n 0, 1) := by decide +kernel
theorem d_M_archivedHeight_1 : decode b_M_archivedHeight 1 = .ok (.iload_n 1, 1) := by decide +kernel
theorem d_M_archivedHeight_2 : decode b_M_archivedHeight 2 = .ok (.iconst 1, 1) := by decide +kernel
theorem d_M_archivedHeight_3 : decode b_M_archivedHeight 3 = .ok (.invokevirtual 119, 3) := by decide +kernel
theorem d_M_archivedHeight_6 : decode b_M_archivedHeight 6 = .ok (.ireturn, 1) := by decide +kernel
def f_M_archivedHeight (rr : Nat) (a1 : Int32) (M : Mem) : Option (Int32 × Mem) :=
  bnd (f_M_archived rr a1 (1 : Int32) M) fun (x1 : Int32) (M2 : Mem) => some (x1, M2)
set_option maxHeartbeats 4000000 in
set_option maxRecDepth 100000 in
theorem c_M_archivedHeight (l : Launch) {w : Wc} {rr : Nat} (hw : WM w rr) (a1 : Int32) (M : Mem) : Ct QI l y_M_archivedHeight b_M_archivedHeight 2 (some .int) (rmL 2) w [.ref (wad w 145), .int a1] M (f_M_archivedHeight rr a1 M) := by
  refine Ct.go (by decide) (L := [(0, .ref (wad w 145)), (1, .int a1)]) rfl (Nat.le_of_ble_eq_true rfl) (fun p0 e s m args below meth c g hret => ?_)
  unfold f_M_archivedHeight
  refine G_aload_n g (pc := 0) 0 d_M_archivedHeight_0 rfl rfl ?_
  refine G_iload_n g (pc := 1) 1 d_M_archivedHeight_1 rfl rfl ?_
  refine G_iconst g (pc := 2) (1 : Int32) d_M_archivedHeight_2 rfl ?_
  refine G_cVI g (pc := 3) (As := [.int a1, .int (1 : Int32)]) (st := []) cc_M_119 (c_M_archived l hw a1 (1 : Int32) M) (hw.mm 145 (Nat.le_of_ble_eq_true rfl) (Nat.le_of_ble_eq_true rfl)) (hw.k (zk145 rr)) rfl (by decide) rfl ⟨(Nat.le_of_ble_eq_true rfl), (Nat.le_of_ble_eq_true rfl)⟩ ⟨(Nat.le_of_ble_eq_true rfl), (Nat.le_of_ble_eq_true rfl)⟩ (Nat.le_of_ble_eq_true rfl) d_M_archivedHeight_3 (fun x1 M2 => ?_)
  exact G_ireturn g (pc := 6) hret (Nat.le_of_ble_eq_true rfl) (Nat.le_of_ble_eq_true rfl) d_M_archivedHeight_6

theorem d_M_archivedGust_0 : decode b_M_archivedGust 0 = .ok (.aload_n 0, 1) := by decide +kernel
theorem d_M_archivedGust_1 : decode b_M_archivedGust 1 = .ok (.iload_n 1, 1) := by decide +kernel
theorem d_M_archivedGust_2 : decode b_M_archivedGust 2 = .ok (.iconst 2, 1) := by decide +kernel
theorem d_M_archivedGust_3 : decode b_M_archivedGust 3 = .ok (.invokevirtual 119, 3) := by decide +kernel
theorem d_M_archivedGust_6 : decode b_M_archivedGust 6 = .ok (.ireturn, 1) := by decide +kernel
def f_M_archivedGust (rr : Nat) (a1 : Int32) (M : Mem) : Option (Int32 × Mem) :=
  bnd (f_M_archived rr a1 (2 : Int32) M) fun (x1 : Int32) (M2 : Mem) => some (x1, M2)
set_option maxHeartbeats 4000000 in
set_option maxRecDepth 100000 in
theorem c_M_archivedGust (l : Launch) {w : Wc} {rr : Nat} (hw : WM w rr) (a1 : Int32) (M : Mem) : Ct QI l y_M_archivedGust b_M_archivedGust 2 (some .int) (rmL 2) w [.ref (wad w 145), .int a1] M (f_M_archivedGust rr a1 M) := by
  refine Ct.go (by decide) (L := [(0, .ref (wad w 145)), (1, .int a1)]) rfl (Nat.le_of_ble_eq_true rfl) (fun p0 e s m args below meth c g hret => ?_)
  unfold f_M_archivedGust
  refine G_aload_n g (pc := 0) 0 d_M_archivedGust_0 rfl rfl ?_
  refine G_iload_n g (pc := 1) 1 d_M_archivedGust_1 rfl rfl ?_
  refine G_iconst g (pc := 2) (2 : Int32) d_M_archivedGust_2 rfl ?_
  refine G_cVI g (pc := 3) (As := [.int a1, .int (2 : Int32)]) (st := []) cc_M_119 (c_M_archived l hw a1 (2 : Int32) M) (hw.mm 145 (Nat.le_of_ble_eq_true rfl) (Nat.le_of_ble_eq_true rfl)) (hw.k (zk145 rr)) rfl (by decide) rfl ⟨(Nat.le_of_ble_eq_true rfl), (Nat.le_of_ble_eq_true rfl)⟩ ⟨(Nat.le_of_ble_eq_true rfl), (Nat.le_of_ble_eq_true rfl)⟩ (Nat.le_of_ble_eq_true rfl) d_M_archivedGust_3 (fun x1 M2 => ?_)
  exact G_ireturn g (pc := 6) hret (Nat.le_of_ble_eq_true rfl) (Nat.le_of_ble_eq_true rfl) d_M_archivedGust_6

theorem d_M_countBetween_0 : decode b_M_countBetween 0 = .ok (.iconst 0, 1) := by decide +kernel
theorem d_M_countBetween_1 : decode b_M_countBetween 1 = .ok (.istore_n 3, 1) := by decide +kernel
theorem d_M_countBetween_2 : decode b_M_countBetween 2 = .ok (.iconst 0, 1) := by decide +kernel
theorem d_M_countBetween_3 : decode b_M_countBetween 3 = .ok (.istore 4, 2) := by decide +kernel
theorem d_M_countBetween_5 : decode b_M_countBetween 5 = .ok (.iload 4, 2) := by decide +kernel
theorem d_M_countBetween_7 : decode b_M_countBetween 7 = .ok (.aload_n 0, 1) := by decide +kernel
theorem d_M_countBetween_8 : decode b_M_countBetween 8 = .ok (.getfield 28, 3) := by decide +kernel
theorem d_M_countBetween_11 : decode b_M_countBetween 11 = .ok (.bipush 18, 2) := by decide +kernel
theorem d_M_countBetween_13 : decode b_M_countBetween 13 = .ok (.iaload, 1) := by decide +kernel
theorem d_M_countBetween_14 : decode b_M_countBetween 14 = .ok (.if_icmp .ge 32, 3) := by decide +kernel
theorem d_M_countBetween_17 : decode b_M_countBetween 17 = .ok (.iload_n 3, 1) := by decide +kernel
theorem d_M_countBetween_18 : decode b_M_countBetween 18 = .ok (.aload_n 0, 1) := by decide +kernel
theorem d_M_countBetween_19 : decode b_M_countBetween 19 = .ok (.iload 4, 2) := by decide +kernel
theorem d_M_countBetween_21 : decode b_M_countBetween 21 = .ok (.iconst 1, 1) := by decide +kernel
theorem d_M_countBetween_22 : decode b_M_countBetween 22 = .ok (.invokevirtual 116, 3) := by decide +kernel
theorem d_M_countBetween_25 : decode b_M_countBetween 25 = .ok (.iload_n 1, 1) := by decide +kernel
theorem d_M_countBetween_26 : decode b_M_countBetween 26 = .ok (.iload_n 2, 1) := by decide +kernel
theorem d_M_countBetween_27 : decode b_M_countBetween 27 = .ok (.invokestatic 83, 3) := by decide +kernel
theorem d_M_countBetween_30 : decode b_M_countBetween 30 = .ok (.ifCond .eq 7, 3) := by decide +kernel
theorem d_M_countBetween_33 : decode b_M_countBetween 33 = .ok (.iconst 1, 1) := by decide +kernel
theorem d_M_countBetween_34 : decode b_M_countBetween 34 = .ok (.goto 4, 3) := by decide +kernel
theorem d_M_countBetween_37 : decode b_M_countBetween 37 = .ok (.iconst 0, 1) := by decide +kernel
theorem d_M_countBetween_38 : decode b_M_countBetween 38 = .ok (.iadd, 1) := by decide +kernel
theorem d_M_countBetween_39 : decode b_M_countBetween 39 = .ok (.istore_n 3, 1) := by decide +kernel
theorem d_M_countBetween_40 : decode b_M_countBetween 40 = .ok (.iinc 4 1, 3) := by decide +kernel
theorem d_M_countBetween_43 : decode b_M_countBetween 43 = .ok (.goto (-38), 3) := by decide +kernel
theorem d_M_countBetween_46 : decode b_M_countBetween 46 = .ok (.iload_n 3, 1) := by decide +kernel
theorem d_M_countBetween_47 : decode b_M_countBetween 47 = .ok (.ireturn, 1) := by decide +kernel
def lp_M_countBetween_5 (N0 rr : Nat) (a1 : Int32) (a2 : Int32)  : Nat → Int32 × Int32 → Mem → (Int32 × Int32 → Mem → Option (Int32 × Mem)) → Option (Int32 × Mem)
  | 0, _, _, _ => none
  | N + 1, v5, M, k5 => if v5.2 < (M rr 18) then (bnd (f_M_ofArchive rr v5.2 (1 : Int32) M) fun (x1 : Int32) (M2 : Mem) => bnd (f_M_inRange x1 a1 a2 M2) fun (x3 : Bool) (M4 : Mem) => jn (fun (x6 : Bool) (M7 : Mem) => nm (v5.1 + (b2i x6)) fun (x8 : Int32) => nm (v5.2 + (1 : Int32)) fun (x9 : Int32) => lp_M_countBetween_5 N0 rr a1 a2 N (x8, x9) M7 k5) (fun j5 => if x3 = true then (j5 true M4) else (j5 false M4))) else (k5 (v5.1, v5.2) M)
def f_M_countBetween (N : Nat) (rr : Nat) (a1 : Int32) (a2 : Int32) (M : Mem) : Option (Int32 × Mem) :=
  lp_M_countBetween_5 N rr a1 a2 N ((0 : Int32), (0 : Int32)) M (fun (a11 : Int32 × Int32) (M10 : Mem) => some (a11.1, M10))
set_option maxHeartbeats 4000000 in
set_option maxRecDepth 100000 in
theorem c_M_countBetween (l : Launch) (N : Nat) {w : Wc} {rr : Nat} (hw : WM w rr) (a1 : Int32) (a2 : Int32) (M : Mem) : Ct QI l y_M_countBetween b_M_countBetween 5 (some .int) (rmL 1) w [.ref (wad w 145), .int a1, .int a2] M (f_M_countBetween N rr a1 a2 M) := by
  refine Ct.go (by decide) (L := [(0, .ref (wad w 145)), (1, .int a1), (2, .int a2)]) rfl (Nat.le_of_ble_eq_true rfl) (fun p0 e s m args below meth c g hret => ?_)
  unfold f_M_countBetween
  refine G_iconst g (pc := 0) (0 : Int32) d_M_countBetween_0 rfl ?_
  refine G_istore_n g (pc := 1) _ d_M_countBetween_1 rfl (Nat.le_of_ble_eq_true rfl) rfl ?_
  refine G_iconst g (pc := 2) (0 : Int32) d_M_countBetween_2 rfl ?_
  refine G_istore g (pc := 3) _ d_M_countBetween_3 (Nat.le_of_ble_eq_true rfl) rfl ?_
  refine G_sub [2, 3, 4, 1, 0] _ rfl ?_
  refine G_loop (F := lp_M_countBetween_5 N rr a1 a2) 5 46 (fun (v5 : Int32 × Int32) => [(0, .ref (wad w 145)), (1, .int a1), (2, .int a2), (3, .int v5.1), (4, .int v5.2)]) (fun (v5 : Int32 × Int32) => [(0, .ref (wad w 145)), (1, .int a1), (2, .int a2), (3, .int v5.1), (4, .int v5.2)]) (fun _ _ _ => rfl) (fun a11 M10 => ?_) (fun k5 hk5 Nl5 ih5 v5 M => ?_) N ((0 : Int32), (0 : Int32)) M
  · refine G_iload_n g (pc := 46) 3 d_M_countBetween_46 rfl rfl ?_
    exact G_ireturn g (pc := 47) hret (Nat.le_of_ble_eq_true rfl) (Nat.le_of_ble_eq_true rfl) d_M_countBetween_47
  · show Go p0 l e _ s m args below meth c w _ _ _ _ (lp_M_countBetween_5 N rr a1 a2 (Nl5 + 1) v5 M k5) 5 _ _ M
    unfold lp_M_countBetween_5
    refine G_iload g (pc := 5) 4 d_M_countBetween_5 rfl ?_
    refine G_aload_n g (pc := 7) 0 d_M_countBetween_7 rfl rfl ?_
    refine G_getR g (pc := 8) fa_M_28 (hw.mm 145 (Nat.le_of_ble_eq_true rfl) (Nat.le_of_ble_eq_true rfl)) (hw.k (zk145 rr)) (hw.r hw.rr) d_M_countBetween_8 ?_
    refine G_bipush g (pc := 11) (18 : Int32) d_M_countBetween_11 rfl ?_
    refine G_ialdK g (pc := 13) (nn := 405) 18 rfl rfl hw.mr hw.kr hw.nr d_M_countBetween_13 ?_
    refine G_icmp_ge g (pc := 14) 46 d_M_countBetween_14 (by decide) ?_ ?_
    · refine G_iload_n g (pc := 17) 3 d_M_countBetween_17 rfl rfl ?_
      refine G_aload_n g (pc := 18) 0 d_M_countBetween_18 rfl rfl ?_
      refine G_iload g (pc := 19) 4 d_M_countBetween_19 rfl ?_
      refine G_iconst g (pc := 21) (1 : Int32) d_M_countBetween_21 rfl ?_
      refine G_cVI g (pc := 22) (As := [.int v5.2, .int (1 : Int32)]) (st := [.int v5.1]) cc_M_116 (c_M_ofArchive l hw v5.2 (1 : Int32) M) (hw.mm 145 (Nat.le_of_ble_eq_true rfl) (Nat.le_of_ble_eq_true rfl)) (hw.k (zk145 rr)) rfl (by decide) rfl ⟨(Nat.le_of_ble_eq_true rfl), (Nat.le_of_ble_eq_true rfl)⟩ ⟨(Nat.le_of_ble_eq_true rfl), (Nat.le_of_ble_eq_true rfl)⟩ (Nat.le_of_ble_eq_true rfl) d_M_countBetween_22 (fun x1 M2 => ?_)
      refine G_iload_n g (pc := 25) 1 d_M_countBetween_25 rfl rfl ?_
      refine G_iload_n g (pc := 26) 2 d_M_countBetween_26 rfl rfl ?_
      refine G_cSZ g (pc := 27) (As := [.int x1, .int a1, .int a2]) (st := [.int v5.1]) cc_M_83 (c_M_inRange l hw x1 a1 a2 M2) rfl ⟨(Nat.le_of_ble_eq_true rfl), (Nat.le_of_ble_eq_true rfl)⟩ ⟨(Nat.le_of_ble_eq_true rfl), (Nat.le_of_ble_eq_true rfl)⟩ (Nat.le_of_ble_eq_true rfl) d_M_countBetween_27 (fun x3 M4 => ?_)
      refine G_jn 38 (fun _ => [(0, .ref (wad w 145)), (1, .int a1), (2, .int a2), (3, .int v5.1), (4, .int v5.2)]) (fun (x6 : Bool) => [.int (b2i x6), .int v5.1]) (fun x6 M7 => ?_) (fun j5 hj5 => ?_)
      · refine G_iadd g (pc := 38) d_M_countBetween_38 ?_
        refine G_nmI (fun x8 => ?_)
        refine G_istore_n g (pc := 39) _ d_M_countBetween_39 rfl (Nat.le_of_ble_eq_true rfl) rfl ?_
        refine G_nmX (v5.2 + (1 : Int32)) (fun x9 e_x9 => ?_)
        refine G_iinc g (pc := 40) x9 _ 4 d_M_countBetween_40 rfl e_x9.symm (Nat.le_of_ble_eq_true rfl) rfl ?_
        refine G_goto g (pc := 43) 5 d_M_countBetween_43 (by decide) ?_
        refine G_sub [2, 3, 4, 1, 0] _ rfl ?_
        exact ih5 (x8, x9) M7
      · refine G_if_eqB g (pc := 30) 37 d_M_countBetween_30 (by decide) ?_ ?_
        · refine G_iconst g (pc := 33) (1 : Int32) d_M_countBetween_33 rfl ?_
          refine G_goto g (pc := 34) 38 d_M_countBetween_34 (by decide) ?_
          refine G_sub [0, 1, 2, 3, 4] _ rfl ?_
          exact hj5 true M4
        · refine G_iconst g (pc := 37) (0 : Int32) d_M_countBetween_37 rfl ?_
          refine G_sub [0, 1, 2, 3, 4] _ rfl ?_
          exact hj5 false M4
    · refine G_sub [0, 1, 2, 3, 4] _ rfl ?_
      exact hk5 (v5.1, v5.2) M

theorem d_M_archivedBetween_0 : decode b_M_archivedBetween 0 = .ok (.aload_n 0, 1) := by decide +kernel
theorem d_M_archivedBetween_1 : decode b_M_archivedBetween 1 = .ok (.iconst 0, 1) := by decide +kernel
theorem d_M_archivedBetween_2 : decode b_M_archivedBetween 2 = .ok (.putfield 76, 3) := by decide +kernel
theorem d_M_archivedBetween_5 : decode b_M_archivedBetween 5 = .ok (.aload_n 0, 1) := by decide +kernel
theorem d_M_archivedBetween_6 : decode b_M_archivedBetween 6 = .ok (.iload_n 1, 1) := by decide +kernel
theorem d_M_archivedBetween_7 : decode b_M_archivedBetween 7 = .ok (.iload_n 2, 1) := by decide +kernel
theorem d_M_archivedBetween_8 : decode b_M_archivedBetween 8 = .ok (.invokevirtual 122, 3) := by decide +kernel
theorem d_M_archivedBetween_11 : decode b_M_archivedBetween 11 = .ok (.ireturn, 1) := by decide +kernel
theorem cc_M_122 : CV "KiteLoggerModel" 122 y_M_countBetween b_M_countBetween 5 (some .int) 2 := ⟨TT_in (i := 1632) (by decide +kernel) (by decide +kernel), TT_in (i := 1634) (by decide +kernel) (by decide +kernel), TT_in (i := 34) (by decide +kernel) (by decide +kernel), TT_in (i := 100) (by decide +kernel) (by decide +kernel), TT_in (i := 1635) (by decide +kernel) (by decide +kernel), ⟨by decide +kernel, by decide +kernel, by decide +kernel⟩⟩
def f_M_archivedBetween (N : Nat) (rr : Nat) (a1 : Int32) (a2 : Int32) (M : Mem) : Option (Int32 × Mem) :=
  nm (put M 145 8 (0 : Int32)) fun (M1 : Mem) => bnd (f_M_countBetween N rr a1 a2 M1) fun (x2 : Int32) (M3 : Mem) => some (x2, M3)
set_option maxHeartbeats 4000000 in
set_option maxRecDepth 100000 in
theorem c_M_archivedBetween (l : Launch) (N : Nat) {w : Wc} {rr : Nat} (hw : WM w rr) (a1 : Int32) (a2 : Int32) (M : Mem) : Ct QI l y_M_archivedBetween b_M_archivedBetween 3 (some .int) (rmL 2) w [.ref (wad w 145), .int a1, .int a2] M (f_M_archivedBetween N rr a1 a2 M) := by
  refine Ct.go (by decide) (L := [(0, .ref (wad w 145)), (1, .int a1), (2, .int a2)]) rfl (Nat.le_of_ble_eq_true rfl) (fun p0 e s m args below meth c g hret => ?_)
  unfold f_M_archivedBetween
  refine G_aload_n g (pc := 0) 0 d_M_archivedBetween_0 rfl rfl ?_
  refine G_iconst g (pc := 1) (0 : Int32) d_M_archivedBetween_1 rfl ?_
  refine G_put g (pc := 2) fa_M_76 fw_10_8 rfl rfl (hw.mm 145 (Nat.le_of_ble_eq_true rfl) (Nat.le_of_ble_eq_true rfl)) (hw.k (zk145 rr)) d_M_archivedBetween_2 ?_
  refine G_nmM (fun M1 => ?_)
  refine G_aload_n g (pc := 5) 0 d_M_archivedBetween_5 rfl rfl ?_
  refine G_iload_n g (pc := 6) 1 d_M_archivedBetween_6 rfl rfl ?_
  refine G_iload_n g (pc := 7) 2 d_M_archivedBetween_7 rfl rfl ?_
  refine G_cVI g (pc := 8) (As := [.int a1, .int a2]) (st := []) cc_M_122 (c_M_countBetween l N hw a1 a2 M1) (hw.mm 145 (Nat.le_of_ble_eq_true rfl) (Nat.le_of_ble_eq_true rfl)) (hw.k (zk145 rr)) rfl (by decide) rfl ⟨(Nat.le_of_ble_eq_true rfl), (Nat.le_of_ble_eq_true rfl)⟩ ⟨(Nat.le_of_ble_eq_true rfl), (Nat.le_of_ble_eq_true rfl)⟩ (Nat.le_of_ble_eq_true rfl) d_M_archivedBetween_8 (fun x2 M3 => ?_)
  exact G_ireturn g (pc := 11) hret (Nat.le_of_ble_eq_true rfl) (Nat.le_of_ble_eq_true rfl) d_M_archivedBetween_11

theorem d_M_highestArchived_0 : decode b_M_highestArchived 0 = .ok (.aload_n 0, 1) := by decide +kernel
theorem d_M_highestArchived_1 : decode b_M_highestArchived 1 = .ok (.iconst 0, 1) := by decide +kernel
theorem d_M_highestArchived_2 : decode b_M_highestArchived 2 = .ok (.putfield 76, 3) := by decide +kernel
theorem d_M_highestArchived_5 : decode b_M_highestArchived 5 = .ok (.iconst (-1), 1) := by decide +kernel
theorem d_M_highestArchived_6 : decode b_M_highestArchived 6 = .ok (.istore_n 1, 1) := by decide +kernel
theorem d_M_highestArchived_7 : decode b_M_highestArchived 7 = .ok (.iconst 0, 1) := by decide +kernel
theorem d_M_highestArchived_8 : decode b_M_highestArchived 8 = .ok (.istore_n 2, 1) := by decide +kernel
theorem d_M_highestArchived_9 : decode b_M_highestArchived 9 = .ok (.iload_n 2, 1) := by decide +kernel
theorem d_M_highestArchived_10 : decode b_M_highestArchived 10 = .ok (.aload_n 0, 1) := by decide +kernel
theorem d_M_highestArchived_11 : decode b_M_highestArchived 11 = .ok (.getfield 28, 3) := by decide +kernel
theorem d_M_highestArchived_14 : decode b_M_highestArchived 14 = .ok (.bipush 18, 2) := by decide +kernel
theorem d_M_highestArchived_16 : decode b_M_highestArchived 16 = .ok (.iaload, 1) := by decide +kernel
theorem d_M_highestArchived_17 : decode b_M_highestArchived 17 = .ok (.if_icmp .ge 45, 3) := by decide +kernel
theorem d_M_highestArchived_20 : decode b_M_highestArchived 20 = .ok (.iload_n 1, 1) := by decide +kernel
theorem d_M_highestArchived_21 : decode b_M_highestArchived 21 = .ok (.iconst (-1), 1) := by decide +kernel
theorem d_M_highestArchived_22 : decode b_M_highestArchived 22 = .ok (.if_icmp .eq 18, 3) := by decide +kernel
theorem d_M_highestArchived_25 : decode b_M_highestArchived 25 = .ok (.aload_n 0, 1) := by decide +kernel
theorem d_M_highestArchived_26 : decode b_M_highestArchived 26 = .ok (.iload_n 2, 1) := by decide +kernel
theorem d_M_highestArchived_27 : decode b_M_highestArchived 27 = .ok (.iconst 1, 1) := by decide +kernel
theorem d_M_highestArchived_28 : decode b_M_highestArchived 28 = .ok (.invokevirtual 116, 3) := by decide +kernel
theorem d_M_highestArchived_31 : decode b_M_highestArchived 31 = .ok (.aload_n 0, 1) := by decide +kernel
theorem d_M_highestArchived_32 : decode b_M_highestArchived 32 = .ok (.iload_n 1, 1) := by decide +kernel
theorem d_M_highestArchived_33 : decode b_M_highestArchived 33 = .ok (.iconst 1, 1) := by decide +kernel
theorem d_M_highestArchived_34 : decode b_M_highestArchived 34 = .ok (.invokevirtual 116, 3) := by decide +kernel
theorem d_M_highestArchived_37 : decode b_M_highestArchived 37 = .ok (.if_icmp .le 7, 3) := by decide +kernel
theorem d_M_highestArchived_40 : decode b_M_highestArchived 40 = .ok (.iconst 1, 1) := by decide +kernel
theorem d_M_highestArchived_41 : decode b_M_highestArchived 41 = .ok (.goto 4, 3) := by decide +kernel
theorem d_M_highestArchived_44 : decode b_M_highestArchived 44 = .ok (.iconst 0, 1) := by decide +kernel
theorem d_M_highestArchived_45 : decode b_M_highestArchived 45 = .ok (.istore_n 3, 1) := by decide +kernel
theorem d_M_highestArchived_46 : decode b_M_highestArchived 46 = .ok (.iload_n 3, 1) := by decide +kernel
theorem d_M_highestArchived_47 : decode b_M_highestArchived 47 = .ok (.ifCond .eq 7, 3) := by decide +kernel
theorem d_M_highestArchived_50 : decode b_M_highestArchived 50 = .ok (.iload_n 2, 1) := by decide +kernel
theorem d_M_highestArchived_51 : decode b_M_highestArchived 51 = .ok (.goto 4, 3) := by decide +kernel
theorem d_M_highestArchived_54 : decode b_M_highestArchived 54 = .ok (.iload_n 1, 1) := by decide +kernel
theorem d_M_highestArchived_55 : decode b_M_highestArchived 55 = .ok (.istore_n 1, 1) := by decide +kernel
theorem d_M_highestArchived_56 : decode b_M_highestArchived 56 = .ok (.iinc 2 1, 3) := by decide +kernel
theorem d_M_highestArchived_59 : decode b_M_highestArchived 59 = .ok (.goto (-50), 3) := by decide +kernel
theorem d_M_highestArchived_62 : decode b_M_highestArchived 62 = .ok (.iload_n 1, 1) := by decide +kernel
theorem d_M_highestArchived_63 : decode b_M_highestArchived 63 = .ok (.ireturn, 1) := by decide +kernel
def lp_M_highestArchived_9 (N0 rr : Nat)   : Nat → Int32 × Int32 → Mem → (Int32 × Int32 → Mem → Option (Int32 × Mem)) → Option (Int32 × Mem)
  | 0, _, _, _ => none
  | N + 1, v9, M, k9 => if v9.2 < (M rr 18) then (jn (fun (x3 : Bool) (M4 : Mem) => jn (fun (x6 : Int32) (M7 : Mem) => nm (v9.2 + (1 : Int32)) fun (x8 : Int32) => lp_M_highestArchived_9 N0 rr N (x6, x8) M7 k9) (fun j5 => if x3 = true then (j5 v9.2 M4) else (j5 v9.1 M4))) (fun j2 => if v9.1 = (-1 : Int32) then (j2 true M) else (bnd (f_M_ofArchive rr v9.2 (1 : Int32) M) fun (x9 : Int32) (M10 : Mem) => bnd (f_M_ofArchive rr v9.1 (1 : Int32) M10) fun (x11 : Int32) (M12 : Mem) => if x11 < x9 then (j2 true M12) else (j2 false M12)))) else (k9 (v9.1, v9.2) M)
def f_M_highestArchived (N : Nat) (rr : Nat) (M : Mem) : Option (Int32 × Mem) :=
  nm (put M 145 8 (0 : Int32)) fun (M1 : Mem) => lp_M_highestArchived_9 N rr N ((-1 : Int32), (0 : Int32)) M1 (fun (a14 : Int32 × Int32) (M13 : Mem) => some (a14.1, M13))
set_option maxHeartbeats 4000000 in
set_option maxRecDepth 100000 in
theorem c_M_highestArchived (l : Launch) (N : Nat) {w : Wc} {rr : Nat} (hw : WM w rr)  (M : Mem) : Ct QI l y_M_highestArchived b_M_highestArchived 4 (some .int) (rmL 1) w [.ref (wad w 145)] M (f_M_highestArchived N rr M) := by
  refine Ct.go (by decide) (L := [(0, .ref (wad w 145))]) rfl (Nat.le_of_ble_eq_true rfl) (fun p0 e s m args below meth c g hret => ?_)
  unfold f_M_highestArchived
  refine G_aload_n g (pc := 0) 0 d_M_highestArchived_0 rfl rfl ?_
  refine G_iconst g (pc := 1) (0 : Int32) d_M_highestArchived_1 rfl ?_
  refine G_put g (pc := 2) fa_M_76 fw_10_8 rfl rfl (hw.mm 145 (Nat.le_of_ble_eq_true rfl) (Nat.le_of_ble_eq_true rfl)) (hw.k (zk145 rr)) d_M_highestArchived_2 ?_
  refine G_nmM (fun M1 => ?_)
  refine G_iconst g (pc := 5) (-1 : Int32) d_M_highestArchived_5 rfl ?_
  refine G_istore_n g (pc := 6) _ d_M_highestArchived_6 rfl (Nat.le_of_ble_eq_true rfl) rfl ?_
  refine G_iconst g (pc := 7) (0 : Int32) d_M_highestArchived_7 rfl ?_
  refine G_istore_n g (pc := 8) _ d_M_highestArchived_8 rfl (Nat.le_of_ble_eq_true rfl) rfl ?_
  refine G_sub [2, 1, 0] _ rfl ?_
  refine G_loop (F := lp_M_highestArchived_9 N rr) 9 62 (fun (v9 : Int32 × Int32) => [(0, .ref (wad w 145)), (1, .int v9.1), (2, .int v9.2)]) (fun (v9 : Int32 × Int32) => [(0, .ref (wad w 145)), (1, .int v9.1), (2, .int v9.2)]) (fun _ _ _ => rfl) (fun a14 M13 => ?_) (fun k9 hk9 Nl9 ih9 v9 M => ?_) N ((-1 : Int32), (0 : Int32)) M1
  · refine G_iload_n g (pc := 62) 1 d_M_highestArchived_62 rfl rfl ?_
    exact G_ireturn g (pc := 63) hret (Nat.le_of_ble_eq_true rfl) (Nat.le_of_ble_eq_true rfl) d_M_highestArchived_63
  · show Go p0 l e _ s m args below meth c w _ _ _ _ (lp_M_highestArchived_9 N rr (Nl9 + 1) v9 M k9) 9 _ _ M
    unfold lp_M_highestArchived_9
    refine G_iload_n g (pc := 9) 2 d_M_highestArchived_9 rfl rfl ?_
    refine G_aload_n g (pc := 10) 0 d_M_highestArchived_10 rfl rfl ?_
    refine G_getR g (pc := 11) fa_M_28 (hw.mm 145 (Nat.le_of_ble_eq_true rfl) (Nat.le_of_ble_eq_true rfl)) (hw.k (zk145 rr)) (hw.r hw.rr) d_M_highestArchived_11 ?_
    refine G_bipush g (pc := 14) (18 : Int32) d_M_highestArchived_14 rfl ?_
    refine G_ialdK g (pc := 16) (nn := 405) 18 rfl rfl hw.mr hw.kr hw.nr d_M_highestArchived_16 ?_
    refine G_icmp_ge g (pc := 17) 62 d_M_highestArchived_17 (by decide) ?_ ?_
    · refine G_iload_n g (pc := 20) 1 d_M_highestArchived_20 rfl rfl ?_
      refine G_iconst g (pc := 21) (-1 : Int32) d_M_highestArchived_21 rfl ?_
      refine G_jn 45 (fun _ => [(0, .ref (wad w 145)), (1, .int v9.1), (2, .int v9.2)]) (fun (x3 : Bool) => [.int (b2i x3)]) (fun x3 M4 => ?_) (fun j2 hj2 => ?_)
      · refine G_istore_n g (pc := 45) _ d_M_highestArchived_45 rfl (Nat.le_of_ble_eq_true rfl) rfl ?_
        refine G_iload_n g (pc := 46) 0 d_M_highestArchived_46 rfl rfl ?_
        refine G_jn 55 (fun _ => [(3, .int (b2i x3)), (0, .ref (wad w 145)), (1, .int v9.1), (2, .int v9.2)]) (fun (x6 : Int32) => [.int x6]) (fun x6 M7 => ?_) (fun j5 hj5 => ?_)
        · refine G_istore_n g (pc := 55) _ d_M_highestArchived_55 rfl (Nat.le_of_ble_eq_true rfl) rfl ?_
          refine G_nmX (v9.2 + (1 : Int32)) (fun x8 e_x8 => ?_)
          refine G_iinc g (pc := 56) x8 _ 3 d_M_highestArchived_56 rfl e_x8.symm (Nat.le_of_ble_eq_true rfl) rfl ?_
          refine G_goto g (pc := 59) 9 d_M_highestArchived_59 (by decide) ?_
          refine G_sub [3, 1, 0] _ rfl ?_
          exact ih9 (x6, x8) M7
        · refine G_if_eqB g (pc := 47) 54 d_M_highestArchived_47 (by decide) ?_ ?_
          · refine G_iload_n g (pc := 50) 3 d_M_highestArchived_50 rfl rfl ?_
            refine G_goto g (pc := 51) 55 d_M_highestArchived_51 (by decide) ?_
            refine G_sub [0, 1, 2, 3] _ rfl ?_
            exact hj5 v9.2 M4
          · refine G_iload_n g (pc := 54) 2 d_M_highestArchived_54 rfl rfl ?_
            refine G_sub [0, 1, 2, 3] _ rfl ?_
            exact hj5 v9.1 M4
      · refine G_icmp_eq g (pc := 22) 40 d_M_highestArchived_22 (by decide) ?_ ?_
        · refine G_iconst g (pc := 40) (1 : Int32) d_M_highestArchived_40 rfl ?_
          refine G_goto g (pc := 41) 45 d_M_highestArchived_41 (by decide) ?_
          refine G_sub [0, 1, 2] _ rfl ?_
          exact hj2 true M
        · refine G_aload_n g (pc := 25) 0 d_M_highestArchived_25 rfl rfl ?_
          refine G_iload_n g (pc := 26) 2 d_M_highestArchived_26 rfl rfl ?_
          refine G_iconst g (pc := 27) (1 : Int32) d_M_highestArchived_27 rfl ?_
          refine G_cVI g (pc := 28) (As := [.int v9.2, .int (1 : Int32)]) (st := []) cc_M_116 (c_M_ofArchive l hw v9.2 (1 : Int32) M) (hw.mm 145 (Nat.le_of_ble_eq_true rfl) (Nat.le_of_ble_eq_true rfl)) (hw.k (zk145 rr)) rfl (by decide) rfl ⟨(Nat.le_of_ble_eq_true rfl), (Nat.le_of_ble_eq_true rfl)⟩ ⟨(Nat.le_of_ble_eq_true rfl), (Nat.le_of_ble_eq_true rfl)⟩ (Nat.le_of_ble_eq_true rfl) d_M_highestArchived_28 (fun x9 M10 => ?_)
          refine G_aload_n g (pc := 31) 0 d_M_highestArchived_31 rfl rfl ?_
          refine G_iload_n g (pc := 32) 1 d_M_highestArchived_32 rfl rfl ?_
          refine G_iconst g (pc := 33) (1 : Int32) d_M_highestArchived_33 rfl ?_
          refine G_cVI g (pc := 34) (As := [.int v9.1, .int (1 : Int32)]) (st := [.int x9]) cc_M_116 (c_M_ofArchive l hw v9.1 (1 : Int32) M10) (hw.mm 145 (Nat.le_of_ble_eq_true rfl) (Nat.le_of_ble_eq_true rfl)) (hw.k (zk145 rr)) rfl (by decide) rfl ⟨(Nat.le_of_ble_eq_true rfl), (Nat.le_of_ble_eq_true rfl)⟩ ⟨(Nat.le_of_ble_eq_true rfl), (Nat.le_of_ble_eq_true rfl)⟩ (Nat.le_of_ble_eq_true rfl) d_M_highestArchived_34 (fun x11 M12 => ?_)
          refine G_icmp_le g (pc := 37) 44 d_M_highestArchived_37 (by decide) ?_ ?_
          · refine G_iconst g (pc := 40) (1 : Int32) d_M_highestArchived_40 rfl ?_
            refine G_goto g (pc := 41) 45 d_M_highestArchived_41 (by decide) ?_
            refine G_sub [0, 1, 2] _ rfl ?_
            exact hj2 true M12
          · refine G_iconst g (pc := 44) (0 : Int32) d_M_highestArchived_44 rfl ?_
            refine G_sub [0, 1, 2] _ rfl ?_
            exact hj2 false M12
    · refine G_sub [0, 1, 2] _ rfl ?_
      exact hk9 (v9.1, v9.2) M

theorem d_M_archivedBefore_0 : decode b_M_archivedBefore 0 = .ok (.aload_n 0, 1) := by decide +kernel
theorem d_M_archivedBefore_1 : decode b_M_archivedBefore 1 = .ok (.iconst 0, 1) := by decide +kernel
theorem d_M_archivedBefore_2 : decode b_M_archivedBefore 2 = .ok (.putfield 76, 3) := by decide +kernel
theorem d_M_archivedBefore_5 : decode b_M_archivedBefore 5 = .ok (.aload_n 0, 1) := by decide +kernel
theorem d_M_archivedBefore_6 : decode b_M_archivedBefore 6 = .ok (.getfield 28, 3) := by decide +kernel
theorem d_M_archivedBefore_9 : decode b_M_archivedBefore 9 = .ok (.bipush 18, 2) := by decide +kernel
theorem d_M_archivedBefore_11 : decode b_M_archivedBefore 11 = .ok (.iaload, 1) := by decide +kernel
theorem d_M_archivedBefore_12 : decode b_M_archivedBefore 12 = .ok (.iconst 1, 1) := by decide +kernel
theorem d_M_archivedBefore_13 : decode b_M_archivedBefore 13 = .ok (.isub, 1) := by decide +kernel
theorem d_M_archivedBefore_14 : decode b_M_archivedBefore 14 = .ok (.istore_n 2, 1) := by decide +kernel
theorem d_M_archivedBefore_15 : decode b_M_archivedBefore 15 = .ok (.iload_n 2, 1) := by decide +kernel
theorem d_M_archivedBefore_16 : decode b_M_archivedBefore 16 = .ok (.ifCond .lt 19, 3) := by decide +kernel
theorem d_M_archivedBefore_19 : decode b_M_archivedBefore 19 = .ok (.aload_n 0, 1) := by decide +kernel
theorem d_M_archivedBefore_20 : decode b_M_archivedBefore 20 = .ok (.iload_n 2, 1) := by decide +kernel
theorem d_M_archivedBefore_21 : decode b_M_archivedBefore 21 = .ok (.iconst 0, 1) := by decide +kernel
theorem d_M_archivedBefore_22 : decode b_M_archivedBefore 22 = .ok (.invokevirtual 116, 3) := by decide +kernel
theorem d_M_archivedBefore_25 : decode b_M_archivedBefore 25 = .ok (.iload_n 1, 1) := by decide +kernel
theorem d_M_archivedBefore_26 : decode b_M_archivedBefore 26 = .ok (.if_icmp .le 9, 3) := by decide +kernel
theorem d_M_archivedBefore_29 : decode b_M_archivedBefore 29 = .ok (.iinc 2 (-1), 3) := by decide +kernel
theorem d_M_archivedBefore_32 : decode b_M_archivedBefore 32 = .ok (.goto (-17), 3) := by decide +kernel
theorem d_M_archivedBefore_35 : decode b_M_archivedBefore 35 = .ok (.iload_n 2, 1) := by decide +kernel
theorem d_M_archivedBefore_36 : decode b_M_archivedBefore 36 = .ok (.ireturn, 1) := by decide +kernel
def lp_M_archivedBefore_15 (N0 rr : Nat) (a1 : Int32)  : Nat → Int32 → Mem → (Int32 → Mem → Option (Int32 × Mem)) → Option (Int32 × Mem)
  | 0, _, _, _ => none
  | N + 1, v15, M, k15 => if v15 < 0 then (k15 v15 M) else (bnd (f_M_ofArchive rr v15 (0 : Int32) M) fun (x3 : Int32) (M4 : Mem) => if a1 < x3 then (nm (v15 + (-1 : Int32)) fun (x5 : Int32) => lp_M_archivedBefore_15 N0 rr a1 N x5 M4 k15) else (k15 v15 M4))
def f_M_archivedBefore (N : Nat) (rr : Nat) (a1 : Int32) (M : Mem) : Option (Int32 × Mem) :=
  nm (put M 145 8 (0 : Int32)) fun (M1 : Mem) => nm ((M1 rr 18) - (1 : Int32)) fun (x2 : Int32) => lp_M_archivedBefore_15 N rr a1 N x2 M1 (fun (a7 : Int32) (M6 : Mem) => some (a7, M6))
set_option maxHeartbeats 4000000 in
set_option maxRecDepth 100000 in
theorem c_M_archivedBefore (l : Launch) (N : Nat) {w : Wc} {rr : Nat} (hw : WM w rr) (a1 : Int32) (M : Mem) : Ct QI l y_M_archivedBefore b_M_archivedBefore 3 (some .int) (rmL 1) w [.ref (wad w 145), .int a1] M (f_M_archivedBefore N rr a1 M) := by
  refine Ct.go (by decide) (L := [(0, .ref (wad w 145)), (1, .int a1)]) rfl (Nat.le_of_ble_eq_true rfl) (fun p0 e s m args below meth c g hret => ?_)
  unfold f_M_archivedBefore
  refine G_aload_n g (pc := 0) 0 d_M_archivedBefore_0 rfl rfl ?_
  refine G_iconst g (pc := 1) (0 : Int32) d_M_archivedBefore_1 rfl ?_
  refine G_put g (pc := 2) fa_M_76 fw_10_8 rfl rfl (hw.mm 145 (Nat.le_of_ble_eq_true rfl) (Nat.le_of_ble_eq_true rfl)) (hw.k (zk145 rr)) d_M_archivedBefore_2 ?_
  refine G_nmM (fun M1 => ?_)
  refine G_aload_n g (pc := 5) 0 d_M_archivedBefore_5 rfl rfl ?_
  refine G_getR g (pc := 6) fa_M_28 (hw.mm 145 (Nat.le_of_ble_eq_true rfl) (Nat.le_of_ble_eq_true rfl)) (hw.k (zk145 rr)) (hw.r hw.rr) d_M_archivedBefore_6 ?_
  refine G_bipush g (pc := 9) (18 : Int32) d_M_archivedBefore_9 rfl ?_
  refine G_ialdK g (pc := 11) (nn := 405) 18 rfl rfl hw.mr hw.kr hw.nr d_M_archivedBefore_11 ?_
  refine G_iconst g (pc := 12) (1 : Int32) d_M_archivedBefore_12 rfl ?_
  refine G_isub g (pc := 13) d_M_archivedBefore_13 ?_
  refine G_nmI (fun x2 => ?_)
  refine G_istore_n g (pc := 14) _ d_M_archivedBefore_14 rfl (Nat.le_of_ble_eq_true rfl) rfl ?_
  refine G_sub [1, 2, 0] _ rfl ?_
  refine G_loop (F := lp_M_archivedBefore_15 N rr a1) 15 35 (fun (v15 : Int32) => [(0, .ref (wad w 145)), (1, .int a1), (2, .int v15)]) (fun (v15 : Int32) => [(0, .ref (wad w 145)), (1, .int a1), (2, .int v15)]) (fun _ _ _ => rfl) (fun a7 M6 => ?_) (fun k15 hk15 Nl15 ih15 v15 M => ?_) N x2 M1
  · refine G_iload_n g (pc := 35) 2 d_M_archivedBefore_35 rfl rfl ?_
    exact G_ireturn g (pc := 36) hret (Nat.le_of_ble_eq_true rfl) (Nat.le_of_ble_eq_true rfl) d_M_archivedBefore_36
  · show Go p0 l e _ s m args below meth c w _ _ _ _ (lp_M_archivedBefore_15 N rr a1 (Nl15 + 1) v15 M k15) 15 _ _ M
    unfold lp_M_archivedBefore_15
    refine G_iload_n g (pc := 15) 2 d_M_archivedBefore_15 rfl rfl ?_
    refine G_if_lt g (pc := 16) 35 d_M_archivedBefore_16 (by decide) ?_ ?_
    · refine G_sub [0, 1, 2] _ rfl ?_
      exact hk15 v15 M
    · refine G_aload_n g (pc := 19) 0 d_M_archivedBefore_19 rfl rfl ?_
      refine G_iload_n g (pc := 20) 2 d_M_archivedBefore_20 rfl rfl ?_
      refine G_iconst g (pc := 21) (0 : Int32) d_M_archivedBefore_21 rfl ?_
      refine G_cVI g (pc := 22) (As := [.int v15, .int (0 : Int32)]) (st := []) cc_M_116 (c_M_ofArchive l hw v15 (0 : Int32) M) (hw.mm 145 (Nat.le_of_ble_eq_true rfl) (Nat.le_of_ble_eq_true rfl)) (hw.k (zk145 rr)) rfl (by decide) rfl ⟨(Nat.le_of_ble_eq_true rfl), (Nat.le_of_ble_eq_true rfl)⟩ ⟨(Nat.le_of_ble_eq_true rfl), (Nat.le_of_ble_eq_true rfl)⟩ (Nat.le_of_ble_eq_true rfl) d_M_archivedBefore_22 (fun x3 M4 => ?_)
      refine G_iload_n g (pc := 25) 1 d_M_archivedBefore_25 rfl rfl ?_
      refine G_icmp_le g (pc := 26) 35 d_M_archivedBefore_26 (by decide) ?_ ?_
      · refine G_nmX (v15 + (-1 : Int32)) (fun x5 e_x5 => ?_)
        refine G_iinc g (pc := 29) x5 _ 2 d_M_archivedBefore_29 rfl e_x5.symm (Nat.le_of_ble_eq_true rfl) rfl ?_
        refine G_goto g (pc := 32) 15 d_M_archivedBefore_32 (by decide) ?_
        refine G_sub [1, 2, 0] _ rfl ?_
        exact ih15 x5 M4
      · refine G_sub [0, 1, 2] _ rfl ?_
        exact hk15 v15 M4

theorem d_M_meanGust_0 : decode b_M_meanGust 0 = .ok (.aload_n 0, 1) := by decide +kernel
theorem d_M_meanGust_1 : decode b_M_meanGust 1 = .ok (.iload_n 1, 1) := by decide +kernel
theorem d_M_meanGust_2 : decode b_M_meanGust 2 = .ok (.iconst 0, 1) := by decide +kernel
theorem d_M_meanGust_3 : decode b_M_meanGust 3 = .ok (.bipush 6, 2) := by decide +kernel
theorem d_M_meanGust_5 : decode b_M_meanGust 5 = .ok (.invokestatic 83, 3) := by decide +kernel
theorem d_M_meanGust_8 : decode b_M_meanGust 8 = .ok (.invokevirtual 87, 3) := by decide +kernel
theorem d_M_meanGust_11 : decode b_M_meanGust 11 = .ok (.ifCond .eq 5, 3) := by decide +kernel
theorem d_M_meanGust_14 : decode b_M_meanGust 14 = .ok (.dconst 0, 1) := by decide +kernel
theorem d_M_meanGust_15 : decode b_M_meanGust 15 = .ok (.dreturn, 1) := by decide +kernel
theorem d_M_meanGust_16 : decode b_M_meanGust 16 = .ok (.iconst 0, 1) := by decide +kernel
theorem d_M_meanGust_17 : decode b_M_meanGust 17 = .ok (.istore_n 2, 1) := by decide +kernel
theorem d_M_meanGust_18 : decode b_M_meanGust 18 = .ok (.iconst 0, 1) := by decide +kernel
theorem d_M_meanGust_19 : decode b_M_meanGust 19 = .ok (.istore_n 3, 1) := by decide +kernel
theorem d_M_meanGust_20 : decode b_M_meanGust 20 = .ok (.iload_n 3, 1) := by decide +kernel
theorem d_M_meanGust_21 : decode b_M_meanGust 21 = .ok (.aload_n 0, 1) := by decide +kernel
theorem d_M_meanGust_22 : decode b_M_meanGust 22 = .ok (.getfield 28, 3) := by decide +kernel
theorem d_M_meanGust_25 : decode b_M_meanGust 25 = .ok (.bipush 18, 2) := by decide +kernel
theorem d_M_meanGust_27 : decode b_M_meanGust 27 = .ok (.iaload, 1) := by decide +kernel
theorem d_M_meanGust_28 : decode b_M_meanGust 28 = .ok (.if_icmp .ge 35, 3) := by decide +kernel
theorem d_M_meanGust_31 : decode b_M_meanGust 31 = .ok (.iload_n 2, 1) := by decide +kernel
theorem d_M_meanGust_32 : decode b_M_meanGust 32 = .ok (.aload_n 0, 1) := by decide +kernel
theorem d_M_meanGust_33 : decode b_M_meanGust 33 = .ok (.iload_n 3, 1) := by decide +kernel
theorem d_M_meanGust_34 : decode b_M_meanGust 34 = .ok (.iconst 1, 1) := by decide +kernel
theorem d_M_meanGust_35 : decode b_M_meanGust 35 = .ok (.invokevirtual 116, 3) := by decide +kernel
theorem d_M_meanGust_38 : decode b_M_meanGust 38 = .ok (.bipush 100, 2) := by decide +kernel
theorem d_M_meanGust_40 : decode b_M_meanGust 40 = .ok (.idiv, 1) := by decide +kernel
theorem d_M_meanGust_41 : decode b_M_meanGust 41 = .ok (.iload_n 1, 1) := by decide +kernel
theorem d_M_meanGust_42 : decode b_M_meanGust 42 = .ok (.if_icmp .ne 12, 3) := by decide +kernel
theorem d_M_meanGust_45 : decode b_M_meanGust 45 = .ok (.aload_n 0, 1) := by decide +kernel
theorem d_M_meanGust_46 : decode b_M_meanGust 46 = .ok (.iload_n 3, 1) := by decide +kernel
theorem d_M_meanGust_47 : decode b_M_meanGust 47 = .ok (.iconst 2, 1) := by decide +kernel
theorem d_M_meanGust_48 : decode b_M_meanGust 48 = .ok (.invokevirtual 116, 3) := by decide +kernel
theorem d_M_meanGust_51 : decode b_M_meanGust 51 = .ok (.goto 4, 3) := by decide +kernel
theorem d_M_meanGust_54 : decode b_M_meanGust 54 = .ok (.iconst 0, 1) := by decide +kernel
theorem d_M_meanGust_55 : decode b_M_meanGust 55 = .ok (.iadd, 1) := by decide +kernel
theorem d_M_meanGust_56 : decode b_M_meanGust 56 = .ok (.istore_n 2, 1) := by decide +kernel
theorem d_M_meanGust_57 : decode b_M_meanGust 57 = .ok (.iinc 3 1, 3) := by decide +kernel
theorem d_M_meanGust_60 : decode b_M_meanGust 60 = .ok (.goto (-40), 3) := by decide +kernel
theorem d_M_meanGust_63 : decode b_M_meanGust 63 = .ok (.iload_n 2, 1) := by decide +kernel
theorem d_M_meanGust_64 : decode b_M_meanGust 64 = .ok (.aload_n 0, 1) := by decide +kernel
theorem d_M_meanGust_65 : decode b_M_meanGust 65 = .ok (.bipush 100, 2) := by decide +kernel
theorem d_M_meanGust_67 : decode b_M_meanGust 67 = .ok (.iload_n 1, 1) := by decide +kernel
theorem d_M_meanGust_68 : decode b_M_meanGust 68 = .ok (.imul, 1) := by decide +kernel
theorem d_M_meanGust_69 : decode b_M_meanGust 69 = .ok (.bipush 100, 2) := by decide +kernel
theorem d_M_meanGust_71 : decode b_M_meanGust 71 = .ok (.iload_n 1, 1) := by decide +kernel
theorem d_M_meanGust_72 : decode b_M_meanGust 72 = .ok (.imul, 1) := by decide +kernel
theorem d_M_meanGust_73 : decode b_M_meanGust 73 = .ok (.bipush 100, 2) := by decide +kernel
theorem d_M_meanGust_75 : decode b_M_meanGust 75 = .ok (.iadd, 1) := by decide +kernel
theorem d_M_meanGust_76 : decode b_M_meanGust 76 = .ok (.iconst 1, 1) := by decide +kernel
theorem d_M_meanGust_77 : decode b_M_meanGust 77 = .ok (.isub, 1) := by decide +kernel
theorem d_M_meanGust_78 : decode b_M_meanGust 78 = .ok (.invokevirtual 122, 3) := by decide +kernel
theorem d_M_meanGust_81 : decode b_M_meanGust 81 = .ok (.invokestatic 102, 3) := by decide +kernel
theorem d_M_meanGust_84 : decode b_M_meanGust 84 = .ok (.dreturn, 1) := by decide +kernel
def lp_M_meanGust_20 (N0 rr : Nat) (a1 : Int32)  : Nat → Int32 × Int32 → Mem → (Int32 × Int32 → Mem → Option (UInt64 × Mem)) → Option (UInt64 × Mem)
  | 0, _, _, _ => none
  | N + 1, v20, M, k20 => if v20.2 < (M rr 18) then (bnd (f_M_ofArchive rr v20.2 (1 : Int32) M) fun (x5 : Int32) (M6 : Mem) => if (x5 / (100 : Int32)) = a1 then (bnd (f_M_ofArchive rr v20.2 (2 : Int32) M6) fun (x7 : Int32) (M8 : Mem) => nm (v20.1 + x7) fun (x9 : Int32) => nm (v20.2 + (1 : Int32)) fun (x10 : Int32) => lp_M_meanGust_20 N0 rr a1 N (x9, x10) M8 k20) else (nm (v20.1 + (0 : Int32)) fun (x11 : Int32) => nm (v20.2 + (1 : Int32)) fun (x12 : Int32) => lp_M_meanGust_20 N0 rr a1 N (x11, x12) M6 k20)) else (k20 (v20.1, v20.2) M)
def f_M_meanGust (N : Nat) (rr : Nat) (a1 : Int32) (M : Mem) : Option (UInt64 × Mem) :=
  bnd (f_M_inRange a1 (0 : Int32) (6 : Int32) M) fun (x1 : Bool) (M2 : Mem) => bnd (f_M_lacks x1 M2) fun (x3 : Bool) (M4 : Mem) => if x3 = true then (some (0, M4)) else (lp_M_meanGust_20 N rr a1 N ((0 : Int32), (0 : Int32)) M4 (fun (a14 : Int32 × Int32) (M13 : Mem) => bnd (f_M_countBetween N rr ((100 : Int32) * a1) ((((100 : Int32) * a1) + (100 : Int32)) - (1 : Int32)) M13) fun (x15 : Int32) (M16 : Mem) => bnd (f_M_mean a14.1 x15 M16) fun (x17 : UInt64) (M18 : Mem) => some (x17, M18)))
set_option maxHeartbeats 4000000 in
set_option maxRecDepth 100000 in
theorem c_M_meanGust (l : Launch) (N : Nat) {w : Wc} {rr : Nat} (hw : WM w rr) (a1 : Int32) (M : Mem) : Ct QD l y_M_meanGust b_M_meanGust 4 (some .double) (rmL 2) w [.ref (wad w 145), .int a1] M (f_M_meanGust N rr a1 M) := by
  refine Ct.go (by decide) (L := [(0, .ref (wad w 145)), (1, .int a1)]) rfl (Nat.le_of_ble_eq_true rfl) (fun p0 e s m args below meth c g hret => ?_)
  unfold f_M_meanGust
  refine G_aload_n g (pc := 0) 0 d_M_meanGust_0 rfl rfl ?_
  refine G_iload_n g (pc := 1) 1 d_M_meanGust_1 rfl rfl ?_
  refine G_iconst g (pc := 2) (0 : Int32) d_M_meanGust_2 rfl ?_
  refine G_bipush g (pc := 3) (6 : Int32) d_M_meanGust_3 rfl ?_
  refine G_cSZ g (pc := 5) (As := [.int a1, .int (0 : Int32), .int (6 : Int32)]) (st := [.ref (wad w 145)]) cc_M_83 (c_M_inRange l hw a1 (0 : Int32) (6 : Int32) M) rfl ⟨(Nat.le_of_ble_eq_true rfl), (Nat.le_of_ble_eq_true rfl)⟩ ⟨(Nat.le_of_ble_eq_true rfl), (Nat.le_of_ble_eq_true rfl)⟩ (Nat.le_of_ble_eq_true rfl) d_M_meanGust_5 (fun x1 M2 => ?_)
  refine G_cVZ g (pc := 8) (As := [.int (b2i x1)]) (st := []) cc_M_87 (c_M_lacks l hw x1 M2) (hw.mm 145 (Nat.le_of_ble_eq_true rfl) (Nat.le_of_ble_eq_true rfl)) (hw.k (zk145 rr)) rfl (by decide) rfl ⟨(Nat.le_of_ble_eq_true rfl), (Nat.le_of_ble_eq_true rfl)⟩ ⟨(Nat.le_of_ble_eq_true rfl), (Nat.le_of_ble_eq_true rfl)⟩ (Nat.le_of_ble_eq_true rfl) d_M_meanGust_8 (fun x3 M4 => ?_)
  refine G_if_eqB g (pc := 11) 16 d_M_meanGust_11 (by decide) ?_ ?_
  · refine G_dconst0 g (pc := 14) d_M_meanGust_14 ?_
    exact G_dreturn g (pc := 15) hret (Nat.le_of_ble_eq_true rfl) (Nat.le_of_ble_eq_true rfl) d_M_meanGust_15
  · refine G_iconst g (pc := 16) (0 : Int32) d_M_meanGust_16 rfl ?_
    refine G_istore_n g (pc := 17) _ d_M_meanGust_17 rfl (Nat.le_of_ble_eq_true rfl) rfl ?_
    refine G_iconst g (pc := 18) (0 : Int32) d_M_meanGust_18 rfl ?_
    refine G_istore_n g (pc := 19) _ d_M_meanGust_19 rfl (Nat.le_of_ble_eq_true rfl) rfl ?_
    refine G_sub [2, 3, 1, 0] _ rfl ?_
    refine G_loop (F := lp_M_meanGust_20 N rr a1) 20 63 (fun (v20 : Int32 × Int32) => [(0, .ref (wad w 145)), (1, .int a1), (2, .int v20.1), (3, .int v20.2)]) (fun (v20 : Int32 × Int32) => [(0, .ref (wad w 145)), (1, .int a1), (2, .int v20.1), (3, .int v20.2)]) (fun _ _ _ => rfl) (fun a14 M13 => ?_) (fun k20 hk20 Nl20 ih20 v20 M => ?_) N ((0 : Int32), (0 : Int32)) M4
    · refine G_iload_n g (pc := 63) 2 d_M_meanGust_63 rfl rfl ?_
      refine G_aload_n g (pc := 64) 0 d_M_meanGust_64 rfl rfl ?_
      refine G_bipush g (pc := 65) (100 : Int32) d_M_meanGust_65 rfl ?_
      refine G_iload_n g (pc := 67) 1 d_M_meanGust_67 rfl rfl ?_
      refine G_imul g (pc := 68) d_M_meanGust_68 ?_
      refine G_bipush g (pc := 69) (100 : Int32) d_M_meanGust_69 rfl ?_
      refine G_iload_n g (pc := 71) 1 d_M_meanGust_71 rfl rfl ?_
      refine G_imul g (pc := 72) d_M_meanGust_72 ?_
      refine G_bipush g (pc := 73) (100 : Int32) d_M_meanGust_73 rfl ?_
      refine G_iadd g (pc := 75) d_M_meanGust_75 ?_
      refine G_iconst g (pc := 76) (1 : Int32) d_M_meanGust_76 rfl ?_
      refine G_isub g (pc := 77) d_M_meanGust_77 ?_
      refine G_cVI g (pc := 78) (As := [.int ((100 : Int32) * a1), .int ((((100 : Int32) * a1) + (100 : Int32)) - (1 : Int32))]) (st := [.int a14.1]) cc_M_122 (c_M_countBetween l N hw ((100 : Int32) * a1) ((((100 : Int32) * a1) + (100 : Int32)) - (1 : Int32)) M13) (hw.mm 145 (Nat.le_of_ble_eq_true rfl) (Nat.le_of_ble_eq_true rfl)) (hw.k (zk145 rr)) rfl (by decide) rfl ⟨(Nat.le_of_ble_eq_true rfl), (Nat.le_of_ble_eq_true rfl)⟩ ⟨(Nat.le_of_ble_eq_true rfl), (Nat.le_of_ble_eq_true rfl)⟩ (Nat.le_of_ble_eq_true rfl) d_M_meanGust_78 (fun x15 M16 => ?_)
      refine G_cSD g (pc := 81) (As := [.int a14.1, .int x15]) (st := []) cc_M_102 (c_M_mean l hw a14.1 x15 M16) rfl ⟨(Nat.le_of_ble_eq_true rfl), (Nat.le_of_ble_eq_true rfl)⟩ ⟨(Nat.le_of_ble_eq_true rfl), (Nat.le_of_ble_eq_true rfl)⟩ (Nat.le_of_ble_eq_true rfl) d_M_meanGust_81 (fun x17 M18 => ?_)
      exact G_dreturn g (pc := 84) hret (Nat.le_of_ble_eq_true rfl) (Nat.le_of_ble_eq_true rfl) d_M_meanGust_84
    · show Go p0 l e _ s m args below meth c w _ _ _ _ (lp_M_meanGust_20 N rr a1 (Nl20 + 1) v20 M k20) 20 _ _ M
      unfold lp_M_meanGust_20
      refine G_iload_n g (pc := 20) 3 d_M_meanGust_20 rfl rfl ?_
      refine G_aload_n g (pc := 21) 0 d_M_meanGust_21 rfl rfl ?_
      refine G_getR g (pc := 22) fa_M_28 (hw.mm 145 (Nat.le_of_ble_eq_true rfl) (Nat.le_of_ble_eq_true rfl)) (hw.k (zk145 rr)) (hw.r hw.rr) d_M_meanGust_22 ?_
      refine G_bipush g (pc := 25) (18 : Int32) d_M_meanGust_25 rfl ?_
      refine G_ialdK g (pc := 27) (nn := 405) 18 rfl rfl hw.mr hw.kr hw.nr d_M_meanGust_27 ?_
      refine G_icmp_ge g (pc := 28) 63 d_M_meanGust_28 (by decide) ?_ ?_
      · refine G_iload_n g (pc := 31) 2 d_M_meanGust_31 rfl rfl ?_
        refine G_aload_n g (pc := 32) 0 d_M_meanGust_32 rfl rfl ?_
        refine G_iload_n g (pc := 33) 3 d_M_meanGust_33 rfl rfl ?_
        refine G_iconst g (pc := 34) (1 : Int32) d_M_meanGust_34 rfl ?_
        refine G_cVI g (pc := 35) (As := [.int v20.2, .int (1 : Int32)]) (st := [.int v20.1]) cc_M_116 (c_M_ofArchive l hw v20.2 (1 : Int32) M) (hw.mm 145 (Nat.le_of_ble_eq_true rfl) (Nat.le_of_ble_eq_true rfl)) (hw.k (zk145 rr)) rfl (by decide) rfl ⟨(Nat.le_of_ble_eq_true rfl), (Nat.le_of_ble_eq_true rfl)⟩ ⟨(Nat.le_of_ble_eq_true rfl), (Nat.le_of_ble_eq_true rfl)⟩ (Nat.le_of_ble_eq_true rfl) d_M_meanGust_35 (fun x5 M6 => ?_)
        refine G_bipush g (pc := 38) (100 : Int32) d_M_meanGust_38 rfl ?_
        refine G_idivK g (pc := 40) (by decide) d_M_meanGust_40 ?_
        refine G_iload_n g (pc := 41) 1 d_M_meanGust_41 rfl rfl ?_
        refine G_icmp_ne g (pc := 42) 54 d_M_meanGust_42 (by decide) ?_ ?_
        · refine G_aload_n g (pc := 45) 0 d_M_meanGust_45 rfl rfl ?_
          refine G_iload_n g (pc := 46) 3 d_M_meanGust_46 rfl rfl ?_
          refine G_iconst g (pc := 47) (2 : Int32) d_M_meanGust_47 rfl ?_
          refine G_cVI g (pc := 48) (As := [.int v20.2, .int (2 : Int32)]) (st := [.int v20.1]) cc_M_116 (c_M_ofArchive l hw v20.2 (2 : Int32) M6) (hw.mm 145 (Nat.le_of_ble_eq_true rfl) (Nat.le_of_ble_eq_true rfl)) (hw.k (zk145 rr)) rfl (by decide) rfl ⟨(Nat.le_of_ble_eq_true rfl), (Nat.le_of_ble_eq_true rfl)⟩ ⟨(Nat.le_of_ble_eq_true rfl), (Nat.le_of_ble_eq_true rfl)⟩ (Nat.le_of_ble_eq_true rfl) d_M_meanGust_48 (fun x7 M8 => ?_)
          refine G_goto g (pc := 51) 55 d_M_meanGust_51 (by decide) ?_
          refine G_iadd g (pc := 55) d_M_meanGust_55 ?_
          refine G_nmI (fun x9 => ?_)
          refine G_istore_n g (pc := 56) _ d_M_meanGust_56 rfl (Nat.le_of_ble_eq_true rfl) rfl ?_
          refine G_nmX (v20.2 + (1 : Int32)) (fun x10 e_x10 => ?_)
          refine G_iinc g (pc := 57) x10 _ 3 d_M_meanGust_57 rfl e_x10.symm (Nat.le_of_ble_eq_true rfl) rfl ?_
          refine G_goto g (pc := 60) 20 d_M_meanGust_60 (by decide) ?_
          refine G_sub [2, 3, 1, 0] _ rfl ?_
          exact ih20 (x9, x10) M8
        · refine G_iconst g (pc := 54) (0 : Int32) d_M_meanGust_54 rfl ?_
          refine G_iadd g (pc := 55) d_M_meanGust_55 ?_
          refine G_nmI (fun x11 => ?_)
          refine G_istore_n g (pc := 56) _ d_M_meanGust_56 rfl (Nat.le_of_ble_eq_true rfl) rfl ?_
          refine G_nmX (v20.2 + (1 : Int32)) (fun x12 e_x12 => ?_)
          refine G_iinc g (pc := 57) x12 _ 3 d_M_meanGust_57 rfl e_x12.symm (Nat.le_of_ble_eq_true rfl) rfl ?_
          refine G_goto g (pc := 60) 20 d_M_meanGust_60 (by decide) ?_
          refine G_sub [2, 3, 1, 0] _ rfl ?_
          exact ih20 (x11, x12) M6
      · refine G_sub [0, 1, 2, 3] _ rfl ?_
        exact hk20 (v20.1, v20.2) M

theorem d_M_archivedShare_0 : decode b_M_archivedShare 0 = .ok (.aload_n 0, 1) := by decide +kernel
theorem d_M_archivedShare_1 : decode b_M_archivedShare 1 = .ok (.iconst 0, 1) := by decide +kernel
theorem d_M_archivedShare_2 : decode b_M_archivedShare 2 = .ok (.putfield 76, 3) := by decide +kernel
theorem d_M_archivedShare_5 : decode b_M_archivedShare 5 = .ok (.aload_n 0, 1) := by decide +kernel
theorem d_M_archivedShare_6 : decode b_M_archivedShare 6 = .ok (.getfield 28, 3) := by decide +kernel
theorem d_M_archivedShare_9 : decode b_M_archivedShare 9 = .ok (.bipush 19, 2) := by decide +kernel
theorem d_M_archivedShare_11 : decode b_M_archivedShare 11 = .ok (.iaload, 1) := by decide +kernel
theorem d_M_archivedShare_12 : decode b_M_archivedShare 12 = .ok (.ifCond .ne 7, 3) := by decide +kernel
theorem d_M_archivedShare_15 : decode b_M_archivedShare 15 = .ok (.fconst 0, 1) := by decide +kernel
theorem d_M_archivedShare_16 : decode b_M_archivedShare 16 = .ok (.goto 20, 3) := by decide +kernel
theorem d_M_archivedShare_19 : decode b_M_archivedShare 19 = .ok (.aload_n 0, 1) := by decide +kernel
theorem d_M_archivedShare_20 : decode b_M_archivedShare 20 = .ok (.getfield 28, 3) := by decide +kernel
theorem d_M_archivedShare_23 : decode b_M_archivedShare 23 = .ok (.bipush 18, 2) := by decide +kernel
theorem d_M_archivedShare_25 : decode b_M_archivedShare 25 = .ok (.iaload, 1) := by decide +kernel
theorem d_M_archivedShare_26 : decode b_M_archivedShare 26 = .ok (.i2f, 1) := by decide +kernel
theorem d_M_archivedShare_27 : decode b_M_archivedShare 27 = .ok (.aload_n 0, 1) := by decide +kernel
theorem d_M_archivedShare_28 : decode b_M_archivedShare 28 = .ok (.getfield 28, 3) := by decide +kernel
theorem d_M_archivedShare_31 : decode b_M_archivedShare 31 = .ok (.bipush 19, 2) := by decide +kernel
theorem d_M_archivedShare_33 : decode b_M_archivedShare 33 = .ok (.iaload, 1) := by decide +kernel
theorem d_M_archivedShare_34 : decode b_M_archivedShare 34 = .ok (.i2f, 1) := by decide +kernel
theorem d_M_archivedShare_35 : decode b_M_archivedShare 35 = .ok (.fdiv, 1) := by decide +kernel
theorem d_M_archivedShare_36 : decode b_M_archivedShare 36 = .ok (.freturn, 1) := by decide +kernel
def f_M_archivedShare (rr : Nat) (M : Mem) : Option (UInt32 × Mem) :=
  nm (put M 145 8 (0 : Int32)) fun (M1 : Mem) => if (M1 rr 19) = 0 then (some (0, M1)) else (grd (nn32 (FP.fdiv (FP.i2f (M1 rr 18)) (FP.i2f (M1 rr 19)))) (some (FP.fdiv (FP.i2f (M1 rr 18)) (FP.i2f (M1 rr 19)), M1)))
set_option maxHeartbeats 4000000 in
set_option maxRecDepth 100000 in
theorem c_M_archivedShare (l : Launch) {w : Wc} {rr : Nat} (hw : WM w rr)  (M : Mem) : Ct QF l y_M_archivedShare b_M_archivedShare 1 (some .float) (rmL 0) w [.ref (wad w 145)] M (f_M_archivedShare rr M) := by
  refine Ct.go (by decide) (L := [(0, .ref (wad w 145))]) rfl (Nat.le_of_ble_eq_true rfl) (fun p0 e s m args below meth c g hret => ?_)
  unfold f_M_archivedShare
  refine G_aload_n g (pc := 0) 0 d_M_archivedShare_0 rfl rfl ?_
  refine G_iconst g (pc := 1) (0 : Int32) d_M_archivedShare_1 rfl ?_
  refine G_put g (pc := 2) fa_M_76 fw_10_8 rfl rfl (hw.mm 145 (Nat.le_of_ble_eq_true rfl) (Nat.le_of_ble_eq_true rfl)) (hw.k (zk145 rr)) d_M_archivedShare_2 ?_
  refine G_nmM (fun M1 => ?_)
  refine G_aload_n g (pc := 5) 0 d_M_archivedShare_5 rfl rfl ?_
  refine G_getR g (pc := 6) fa_M_28 (hw.mm 145 (Nat.le_of_ble_eq_true rfl) (Nat.le_of_ble_eq_true rfl)) (hw.k (zk145 rr)) (hw.r hw.rr) d_M_archivedShare_6 ?_
  refine G_bipush g (pc := 9) (19 : Int32) d_M_archivedShare_9 rfl ?_
  refine G_ialdK g (pc := 11) (nn := 405) 19 rfl rfl hw.mr hw.kr hw.nr d_M_archivedShare_11 ?_
  refine G_if_ne g (pc := 12) 19 d_M_archivedShare_12 (by decide) ?_ ?_
  · refine G_fconst0 g (pc := 15) d_M_archivedShare_15 ?_
    refine G_goto g (pc := 16) 36 d_M_archivedShare_16 (by decide) ?_
    exact G_freturn g (pc := 36) hret (Nat.le_of_ble_eq_true rfl) (Nat.le_of_ble_eq_true rfl) d_M_archivedShare_36
  · refine G_aload_n g (pc := 19) 0 d_M_archivedShare_19 rfl rfl ?_
    refine G_getR g (pc := 20) fa_M_28 (hw.mm 145 (Nat.le_of_ble_eq_true rfl) (Nat.le_of_ble_eq_true rfl)) (hw.k (zk145 rr)) (hw.r hw.rr) d_M_archivedShare_20 ?_
    refine G_bipush g (pc := 23) (18 : Int32) d_M_archivedShare_23 rfl ?_
    refine G_ialdK g (pc := 25) (nn := 405) 18 rfl rfl hw.mr hw.kr hw.nr d_M_archivedShare_25 ?_
    refine G_i2f g (pc := 26) d_M_archivedShare_26 ?_
    refine G_aload_n g (pc := 27) 0 d_M_archivedShare_27 rfl rfl ?_
    refine G_getR g (pc := 28) fa_M_28 (hw.mm 145 (Nat.le_of_ble_eq_true rfl) (Nat.le_of_ble_eq_true rfl)) (hw.k (zk145 rr)) (hw.r hw.rr) d_M_archivedShare_28 ?_
    refine G_bipush g (pc := 31) (19 : Int32) d_M_archivedShare_31 rfl ?_
    refine G_ialdK g (pc := 33) (nn := 405) 19 rfl rfl hw.mr hw.kr hw.nr d_M_archivedShare_33 ?_
    refine G_i2f g (pc := 34) d_M_archivedShare_34 ?_
    refine G_fdiv g (pc := 35) d_M_archivedShare_35 ?_
    exact G_freturn g (pc := 36) hret (Nat.le_of_ble_eq_true rfl) (Nat.le_of_ble_eq_true rfl) d_M_archivedShare_36

theorem d_M_disorder_0 : decode b_M_disorder 0 = .ok (.iconst 0, 1) := by decide +kernel
theorem d_M_disorder_1 : decode b_M_disorder 1 = .ok (.istore_n 3, 1) := by decide +kernel
theorem d_M_disorder_2 : decode b_M_disorder 2 = .ok (.iconst 1, 1) := by decide +kernel
theorem d_M_disorder_3 : decode b_M_disorder 3 = .ok (.istore 4, 2) := by decide +kernel
theorem d_M_disorder_5 : decode b_M_disorder 5 = .ok (.iload 4, 2) := by decide +kernel
theorem d_M_disorder_7 : decode b_M_disorder 7 = .ok (.iload_n 2, 1) := by decide +kernel
theorem d_M_disorder_8 : decode b_M_disorder 8 = .ok (.if_icmp .ge 48, 3) := by decide +kernel
theorem d_M_disorder_11 : decode b_M_disorder 11 = .ok (.iload_n 1, 1) := by decide +kernel
theorem d_M_disorder_12 : decode b_M_disorder 12 = .ok (.iconst 3, 1) := by decide +kernel
theorem d_M_disorder_13 : decode b_M_disorder 13 = .ok (.iload 4, 2) := by decide +kernel
theorem d_M_disorder_15 : decode b_M_disorder 15 = .ok (.imul, 1) := by decide +kernel
theorem d_M_disorder_16 : decode b_M_disorder 16 = .ok (.iadd, 1) := by decide +kernel
theorem d_M_disorder_17 : decode b_M_disorder 17 = .ok (.istore 5, 2) := by decide +kernel
theorem d_M_disorder_19 : decode b_M_disorder 19 = .ok (.iload_n 3, 1) := by decide +kernel
theorem d_M_disorder_20 : decode b_M_disorder 20 = .ok (.aload_n 0, 1) := by decide +kernel
theorem d_M_disorder_21 : decode b_M_disorder 21 = .ok (.getfield 28, 3) := by decide +kernel
theorem d_M_disorder_24 : decode b_M_disorder 24 = .ok (.iload 5, 2) := by decide +kernel
theorem d_M_disorder_26 : decode b_M_disorder 26 = .ok (.iconst 0, 1) := by decide +kernel
theorem d_M_disorder_27 : decode b_M_disorder 27 = .ok (.iadd, 1) := by decide +kernel
theorem d_M_disorder_28 : decode b_M_disorder 28 = .ok (.iaload, 1) := by decide +kernel
theorem d_M_disorder_29 : decode b_M_disorder 29 = .ok (.aload_n 0, 1) := by decide +kernel
theorem d_M_disorder_30 : decode b_M_disorder 30 = .ok (.getfield 28, 3) := by decide +kernel
theorem d_M_disorder_33 : decode b_M_disorder 33 = .ok (.iload 5, 2) := by decide +kernel
theorem d_M_disorder_35 : decode b_M_disorder 35 = .ok (.iconst 3, 1) := by decide +kernel
theorem d_M_disorder_36 : decode b_M_disorder 36 = .ok (.isub, 1) := by decide +kernel
theorem d_M_disorder_37 : decode b_M_disorder 37 = .ok (.iconst 0, 1) := by decide +kernel
theorem d_M_disorder_38 : decode b_M_disorder 38 = .ok (.iadd, 1) := by decide +kernel
theorem d_M_disorder_39 : decode b_M_disorder 39 = .ok (.iaload, 1) := by decide +kernel
theorem d_M_disorder_40 : decode b_M_disorder 40 = .ok (.if_icmp .gt 7, 3) := by decide +kernel
theorem d_M_disorder_43 : decode b_M_disorder 43 = .ok (.iconst 1, 1) := by decide +kernel
theorem d_M_disorder_44 : decode b_M_disorder 44 = .ok (.goto 4, 3) := by decide +kernel
theorem d_M_disorder_47 : decode b_M_disorder 47 = .ok (.iconst 0, 1) := by decide +kernel
theorem d_M_disorder_48 : decode b_M_disorder 48 = .ok (.iadd, 1) := by decide +kernel
theorem d_M_disorder_49 : decode b_M_disorder 49 = .ok (.istore_n 3, 1) := by decide +kernel
theorem d_M_disorder_50 : decode b_M_disorder 50 = .ok (.iinc 4 1, 3) := by decide +kernel
theorem d_M_disorder_53 : decode b_M_disorder 53 = .ok (.goto (-48), 3) := by decide +kernel
theorem d_M_disorder_56 : decode b_M_disorder 56 = .ok (.iload_n 3, 1) := by decide +kernel
theorem d_M_disorder_57 : decode b_M_disorder 57 = .ok (.ireturn, 1) := by decide +kernel
def lp_M_disorder_5 (N0 rr : Nat) (a1 : Int32) (a2 : Int32)  : Nat → Int32 × Int32 → Mem → (Int32 × Int32 → Mem → Option (Int32 × Mem)) → Option (Int32 × Mem)
  | 0, _, _, _ => none
  | N + 1, v5, M, k5 => if v5.2 < a2 then (nm (a1 + ((3 : Int32) * v5.2)) fun (x1 : Int32) => grd (inB (x1 + (0 : Int32)) 405) (grd (inB ((x1 - (3 : Int32)) + (0 : Int32)) 405) (jn (fun (x3 : Bool) (M4 : Mem) => nm (v5.1 + (b2i x3)) fun (x5 : Int32) => nm (v5.2 + (1 : Int32)) fun (x6 : Int32) => lp_M_disorder_5 N0 rr a1 a2 N (x5, x6) M4 k5) (fun j2 => if (M rr (x1 + (0 : Int32)).toNatClampNeg) ≤ (M rr ((x1 - (3 : Int32)) + (0 : Int32)).toNatClampNeg) then (j2 true M) else (j2 false M))))) else (k5 (v5.1, v5.2) M)
def f_M_disorder (N : Nat) (rr : Nat) (a1 : Int32) (a2 : Int32) (M : Mem) : Option (Int32 × Mem) :=
  lp_M_disorder_5 N rr a1 a2 N ((0 : Int32), (1 : Int32)) M (fun (a8 : Int32 × Int32) (M7 : Mem) => some (a8.1, M7))
set_option maxHeartbeats 4000000 in
set_option maxRecDepth 100000 in
theorem c_M_disorder (l : Launch) (N : Nat) {w : Wc} {rr : Nat} (hw : WM w rr) (a1 : Int32) (a2 : Int32) (M : Mem) : Ct QI l y_M_disorder b_M_disorder 6 (some .int) (rmL 0) w [.ref (wad w 145), .int a1, .int a2] M (f_M_disorder N rr a1 a2 M) := by
  refine Ct.go (by decide) (L := [(0, .ref (wad w 145)), (1, .int a1), (2, .int a2)]) rfl (Nat.le_of_ble_eq_true rfl) (fun p0 e s m args below meth c g hret => ?_)
  unfold f_M_disorder
  refine G_iconst g (pc := 0) (0 : Int32) d_M_disorder_0 rfl ?_
  refine G_istore_n g (pc := 1) _ d_M_disorder_1 rfl (Nat.le_of_ble_eq_true rfl) rfl ?_
  refine G_iconst g (pc := 2) (1 : Int32) d_M_disorder_2 rfl ?_
  refine G_istore g (pc := 3) _ d_M_disorder_3 (Nat.le_of_ble_eq_true rfl) rfl ?_
  refine G_sub [2, 3, 4, 1, 0] _ rfl ?_
  refine G_loop (F := lp_M_disorder_5 N rr a1 a2) 5 56 (fun (v5 : Int32 × Int32) => [(0, .ref (wad w 145)), (1, .int a1), (2, .int a2), (3, .int v5.1), (4, .int v5.2)]) (fun (v5 : Int32 × Int32) => [(0, .ref (wad w 145)), (1, .int a1), (2, .int a2), (3, .int v5.1), (4, .int v5.2)]) (fun _ _ _ => rfl) (fun a8 M7 => ?_) (fun k5 hk5 Nl5 ih5 v5 M => ?_) N ((0 : Int32), (1 : Int32)) M
  · refine G_iload_n g (pc := 56) 3 d_M_disorder_56 rfl rfl ?_
    exact G_ireturn g (pc := 57) hret (Nat.le_of_ble_eq_true rfl) (Nat.le_of_ble_eq_true rfl) d_M_disorder_57
  · show Go p0 l e _ s m args below meth c w _ _ _ _ (lp_M_disorder_5 N rr a1 a2 (Nl5 + 1) v5 M k5) 5 _ _ M
    unfold lp_M_disorder_5
    refine G_iload g (pc := 5) 4 d_M_disorder_5 rfl ?_
    refine G_iload_n g (pc := 7) 2 d_M_disorder_7 rfl rfl ?_
    refine G_icmp_ge g (pc := 8) 56 d_M_disorder_8 (by decide) ?_ ?_
    · refine G_iload_n g (pc := 11) 1 d_M_disorder_11 rfl rfl ?_
      refine G_iconst g (pc := 12) (3 : Int32) d_M_disorder_12 rfl ?_
      refine G_iload g (pc := 13) 4 d_M_disorder_13 rfl ?_
      refine G_imul g (pc := 15) d_M_disorder_15 ?_
      refine G_iadd g (pc := 16) d_M_disorder_16 ?_
      refine G_nmI (fun x1 => ?_)
      refine G_istore g (pc := 17) _ d_M_disorder_17 (Nat.le_of_ble_eq_true rfl) rfl ?_
      refine G_iload_n g (pc := 19) 4 d_M_disorder_19 rfl rfl ?_
      refine G_aload_n g (pc := 20) 1 d_M_disorder_20 rfl rfl ?_
      refine G_getR g (pc := 21) fa_M_28 (hw.mm 145 (Nat.le_of_ble_eq_true rfl) (Nat.le_of_ble_eq_true rfl)) (hw.k (zk145 rr)) (hw.r hw.rr) d_M_disorder_21 ?_
      refine G_iload g (pc := 24) 0 d_M_disorder_24 rfl ?_
      refine G_iconst g (pc := 26) (0 : Int32) d_M_disorder_26 rfl ?_
      refine G_iadd g (pc := 27) d_M_disorder_27 ?_
      refine G_iald g (pc := 28) (nn := 405) hw.mr hw.kr hw.nr d_M_disorder_28 ?_
      refine G_aload_n g (pc := 29) 1 d_M_disorder_29 rfl rfl ?_
      refine G_getR g (pc := 30) fa_M_28 (hw.mm 145 (Nat.le_of_ble_eq_true rfl) (Nat.le_of_ble_eq_true rfl)) (hw.k (zk145 rr)) (hw.r hw.rr) d_M_disorder_30 ?_
      refine G_iload g (pc := 33) 0 d_M_disorder_33 rfl ?_
      refine G_iconst g (pc := 35) (3 : Int32) d_M_disorder_35 rfl ?_
      refine G_isub g (pc := 36) d_M_disorder_36 ?_
      refine G_iconst g (pc := 37) (0 : Int32) d_M_disorder_37 rfl ?_
      refine G_iadd g (pc := 38) d_M_disorder_38 ?_
      refine G_iald g (pc := 39) (nn := 405) hw.mr hw.kr hw.nr d_M_disorder_39 ?_
      refine G_jn 48 (fun _ => [(5, .int x1), (0, .ref (wad w 145)), (1, .int a1), (2, .int a2), (3, .int v5.1), (4, .int v5.2)]) (fun (x3 : Bool) => [.int (b2i x3), .int v5.1]) (fun x3 M4 => ?_) (fun j2 hj2 => ?_)
      · refine G_iadd g (pc := 48) d_M_disorder_48 ?_
        refine G_nmI (fun x5 => ?_)
        refine G_istore_n g (pc := 49) _ d_M_disorder_49 rfl (Nat.le_of_ble_eq_true rfl) rfl ?_
        refine G_nmX (v5.2 + (1 : Int32)) (fun x6 e_x6 => ?_)
        refine G_iinc g (pc := 50) x6 _ 5 d_M_disorder_50 rfl e_x6.symm (Nat.le_of_ble_eq_true rfl) rfl ?_
        refine G_goto g (pc := 53) 5 d_M_disorder_53 (by decide) ?_
        refine G_sub [3, 4, 5, 1, 0] _ rfl ?_
        exact ih5 (x5, x6) M4
      · refine G_icmp_gt g (pc := 40) 47 d_M_disorder_40 (by decide) ?_ ?_
        · refine G_iconst g (pc := 43) (1 : Int32) d_M_disorder_43 rfl ?_
          refine G_goto g (pc := 44) 48 d_M_disorder_44 (by decide) ?_
          refine G_sub [0, 1, 2, 3, 4, 5] _ rfl ?_
          exact hj2 true M
        · refine G_iconst g (pc := 47) (0 : Int32) d_M_disorder_47 rfl ?_
          refine G_sub [0, 1, 2, 3, 4, 5] _ rfl ?_
          exact hj2 false M
    · refine G_sub [0, 1, 2, 3, 4] _ rfl ?_
      exact hk5 (v5.1, v5.2) M

theorem d_M_gap_0 : decode b_M_gap 0 = .ok (.aload_n 0, 1) := by decide +kernel
theorem d_M_gap_1 : decode b_M_gap 1 = .ok (.iconst 0, 1) := by decide +kernel
theorem d_M_gap_2 : decode b_M_gap 2 = .ok (.putfield 76, 3) := by decide +kernel
theorem d_M_gap_5 : decode b_M_gap 5 = .ok (.aload_n 0, 1) := by decide +kernel
theorem d_M_gap_6 : decode b_M_gap 6 = .ok (.getfield 28, 3) := by decide +kernel
theorem d_M_gap_9 : decode b_M_gap 9 = .ok (.bipush 19, 2) := by decide +kernel
theorem d_M_gap_11 : decode b_M_gap 11 = .ok (.iaload, 1) := by decide +kernel
theorem d_M_gap_12 : decode b_M_gap 12 = .ok (.aload_n 0, 1) := by decide +kernel
theorem d_M_gap_13 : decode b_M_gap 13 = .ok (.getfield 28, 3) := by decide +kernel
theorem d_M_gap_16 : decode b_M_gap 16 = .ok (.bipush 17, 2) := by decide +kernel
theorem d_M_gap_18 : decode b_M_gap 18 = .ok (.iaload, 1) := by decide +kernel
theorem d_M_gap_19 : decode b_M_gap 19 = .ok (.isub, 1) := by decide +kernel
theorem d_M_gap_20 : decode b_M_gap 20 = .ok (.aload_n 0, 1) := by decide +kernel
theorem d_M_gap_21 : decode b_M_gap 21 = .ok (.getfield 28, 3) := by decide +kernel
theorem d_M_gap_24 : decode b_M_gap 24 = .ok (.bipush 18, 2) := by decide +kernel
theorem d_M_gap_26 : decode b_M_gap 26 = .ok (.iaload, 1) := by decide +kernel
theorem d_M_gap_27 : decode b_M_gap 27 = .ok (.isub, 1) := by decide +kernel
theorem d_M_gap_28 : decode b_M_gap 28 = .ok (.aload_n 0, 1) := by decide +kernel
theorem d_M_gap_29 : decode b_M_gap 29 = .ok (.getfield 28, 3) := by decide +kernel
theorem d_M_gap_32 : decode b_M_gap 32 = .ok (.bipush 20, 2) := by decide +kernel
theorem d_M_gap_34 : decode b_M_gap 34 = .ok (.iaload, 1) := by decide +kernel
theorem d_M_gap_35 : decode b_M_gap 35 = .ok (.isub, 1) := by decide +kernel
theorem d_M_gap_36 : decode b_M_gap 36 = .ok (.invokestatic 125, 3) := by decide +kernel
theorem d_M_gap_39 : decode b_M_gap 39 = .ok (.istore_n 1, 1) := by decide +kernel
theorem d_M_gap_40 : decode b_M_gap 40 = .ok (.iload_n 1, 1) := by decide +kernel
theorem d_M_gap_41 : decode b_M_gap 41 = .ok (.aload_n 0, 1) := by decide +kernel
theorem d_M_gap_42 : decode b_M_gap 42 = .ok (.bipush 45, 2) := by decide +kernel
theorem d_M_gap_44 : decode b_M_gap 44 = .ok (.aload_n 0, 1) := by decide +kernel
theorem d_M_gap_45 : decode b_M_gap 45 = .ok (.getfield 28, 3) := by decide +kernel
theorem d_M_gap_48 : decode b_M_gap 48 = .ok (.bipush 17, 2) := by decide +kernel
theorem d_M_gap_50 : decode b_M_gap 50 = .ok (.iaload, 1) := by decide +kernel
theorem d_M_gap_51 : decode b_M_gap 51 = .ok (.invokevirtual 128, 3) := by decide +kernel
theorem d_M_gap_54 : decode b_M_gap 54 = .ok (.iadd, 1) := by decide +kernel
theorem d_M_gap_55 : decode b_M_gap 55 = .ok (.aload_n 0, 1) := by decide +kernel
theorem d_M_gap_56 : decode b_M_gap 56 = .ok (.sipush 135, 3) := by decide +kernel
theorem d_M_gap_59 : decode b_M_gap 59 = .ok (.aload_n 0, 1) := by decide +kernel
theorem d_M_gap_60 : decode b_M_gap 60 = .ok (.getfield 28, 3) := by decide +kernel
theorem d_M_gap_63 : decode b_M_gap 63 = .ok (.bipush 18, 2) := by decide +kernel
theorem d_M_gap_65 : decode b_M_gap 65 = .ok (.iaload, 1) := by decide +kernel
theorem d_M_gap_66 : decode b_M_gap 66 = .ok (.invokevirtual 128, 3) := by decide +kernel
theorem d_M_gap_69 : decode b_M_gap 69 = .ok (.iadd, 1) := by decide +kernel
theorem d_M_gap_70 : decode b_M_gap 70 = .ok (.ireturn, 1) := by decide +kernel
theorem cc_M_125 : CS "KiteLoggerModel" 125 y_M_sizeOf b_M_sizeOf 1 (some .int) 1 := ⟨TT_in (i := 1656) (by decide +kernel) (by decide +kernel), TT_in (i := 1657) (by decide +kernel) (by decide +kernel), TT_in (i := 100) (by decide +kernel) (by decide +kernel), TT_in (i := 1658) (by decide +kernel) (by decide +kernel), ⟨by decide +kernel, by decide +kernel, by decide +kernel⟩⟩
theorem cc_M_128 : CV "KiteLoggerModel" 128 y_M_disorder b_M_disorder 6 (some .int) 2 := ⟨TT_in (i := 1659) (by decide +kernel) (by decide +kernel), TT_in (i := 1661) (by decide +kernel) (by decide +kernel), TT_in (i := 35) (by decide +kernel) (by decide +kernel), TT_in (i := 100) (by decide +kernel) (by decide +kernel), TT_in (i := 1662) (by decide +kernel) (by decide +kernel), ⟨by decide +kernel, by decide +kernel, by decide +kernel⟩⟩
def f_M_gap (N : Nat) (rr : Nat) (M : Mem) : Option (Int32 × Mem) :=
  nm (put M 145 8 (0 : Int32)) fun (M1 : Mem) => bnd (f_M_sizeOf ((((M1 rr 19) - (M1 rr 17)) - (M1 rr 18)) - (M1 rr 20)) M1) fun (x2 : Int32) (M3 : Mem) => bnd (f_M_disorder N rr (45 : Int32) (M3 rr 17) M3) fun (x4 : Int32) (M5 : Mem) => bnd (f_M_disorder N rr (135 : Int32) (M5 rr 18) M5) fun (x6 : Int32) (M7 : Mem) => some ((x2 + x4) + x6, M7)
set_option maxHeartbeats 4000000 in
set_option maxRecDepth 100000 in
theorem c_M_gap (l : Launch) (N : Nat) {w : Wc} {rr : Nat} (hw : WM w rr)  (M : Mem) : Ct QI l y_M_gap b_M_gap 2 (some .int) (rmL 1) w [.ref (wad w 145)] M (f_M_gap N rr M) := by
  refine Ct.go (by decide) (L := [(0, .ref (wad w 145))]) rfl (Nat.le_of_ble_eq_true rfl) (fun p0 e s m args below meth c g hret => ?_)
  unfold f_M_gap
  refine G_aload_n g (pc := 0) 0 d_M_gap_0 rfl rfl ?_
  refine G_iconst g (pc := 1) (0 : Int32) d_M_gap_1 rfl ?_
  refine G_put g (pc := 2) fa_M_76 fw_10_8 rfl rfl (hw.mm 145 (Nat.le_of_ble_eq_true rfl) (Nat.le_of_ble_eq_true rfl)) (hw.k (zk145 rr)) d_M_gap_2 ?_
  refine G_nmM (fun M1 => ?_)
  refine G_aload_n g (pc := 5) 0 d_M_gap_5 rfl rfl ?_
  refine G_getR g (pc := 6) fa_M_28 (hw.mm 145 (Nat.le_of_ble_eq_true rfl) (Nat.le_of_ble_eq_true rfl)) (hw.k (zk145 rr)) (hw.r hw.rr) d_M_gap_6 ?_
  refine G_bipush g (pc := 9) (19 : Int32) d_M_gap_9 rfl ?_
  refine G_ialdK g (pc := 11) (nn := 405) 19 rfl rfl hw.mr hw.kr hw.nr d_M_gap_11 ?_
  refine G_aload_n g (pc := 12) 0 d_M_gap_12 rfl rfl ?_
  refine G_getR g (pc := 13) fa_M_28 (hw.mm 145 (Nat.le_of_ble_eq_true rfl) (Nat.le_of_ble_eq_true rfl)) (hw.k (zk145 rr)) (hw.r hw.rr) d_M_gap_13 ?_
  refine G_bipush g (pc := 16) (17 : Int32) d_M_gap_16 rfl ?_
  refine G_ialdK g (pc := 18) (nn := 405) 17 rfl rfl hw.mr hw.kr hw.nr d_M_gap_18 ?_
  refine G_isub g (pc := 19) d_M_gap_19 ?_
  refine G_aload_n g (pc := 20) 0 d_M_gap_20 rfl rfl ?_
  refine G_getR g (pc := 21) fa_M_28 (hw.mm 145 (Nat.le_of_ble_eq_true rfl) (Nat.le_of_ble_eq_true rfl)) (hw.k (zk145 rr)) (hw.r hw.rr) d_M_gap_21 ?_
  refine G_bipush g (pc := 24) (18 : Int32) d_M_gap_24 rfl ?_
  refine G_ialdK g (pc := 26) (nn := 405) 18 rfl rfl hw.mr hw.kr hw.nr d_M_gap_26 ?_
  refine G_isub g (pc := 27) d_M_gap_27 ?_
  refine G_aload_n g (pc := 28) 0 d_M_gap_28 rfl rfl ?_
  refine G_getR g (pc := 29) fa_M_28 (hw.mm 145 (Nat.le_of_ble_eq_true rfl) (Nat.le_of_ble_eq_true rfl)) (hw.k (zk145 rr)) (hw.r hw.rr) d_M_gap_29 ?_
  refine G_bipush g (pc := 32) (20 : Int32) d_M_gap_32 rfl ?_
  refine G_ialdK g (pc := 34) (nn := 405) 20 rfl rfl hw.mr hw.kr hw.nr d_M_gap_34 ?_
  refine G_isub g (pc := 35) d_M_gap_35 ?_
  refine G_cSI g (pc := 36) (As := [.int ((((M1 rr 19) - (M1 rr 17)) - (M1 rr 18)) - (M1 rr 20))]) (st := []) cc_M_125 (c_M_sizeOf l hw ((((M1 rr 19) - (M1 rr 17)) - (M1 rr 18)) - (M1 rr 20)) M1) rfl ⟨(Nat.le_of_ble_eq_true rfl), (Nat.le_of_ble_eq_true rfl)⟩ ⟨(Nat.le_of_ble_eq_true rfl), (Nat.le_of_ble_eq_true rfl)⟩ (Nat.le_of_ble_eq_true rfl) d_M_gap_36 (fun x2 M3 => ?_)
  refine G_istore_n g (pc := 39) _ d_M_gap_39 rfl (Nat.le_of_ble_eq_true rfl) rfl ?_
  refine G_iload_n g (pc := 40) 0 d_M_gap_40 rfl rfl ?_
  refine G_aload_n g (pc := 41) 1 d_M_gap_41 rfl rfl ?_
  refine G_bipush g (pc := 42) (45 : Int32) d_M_gap_42 rfl ?_
  refine G_aload_n g (pc := 44) 1 d_M_gap_44 rfl rfl ?_
  refine G_getR g (pc := 45) fa_M_28 (hw.mm 145 (Nat.le_of_ble_eq_true rfl) (Nat.le_of_ble_eq_true rfl)) (hw.k (zk145 rr)) (hw.r hw.rr) d_M_gap_45 ?_
  refine G_bipush g (pc := 48) (17 : Int32) d_M_gap_48 rfl ?_
  refine G_ialdK g (pc := 50) (nn := 405) 17 rfl rfl hw.mr hw.kr hw.nr d_M_gap_50 ?_
  refine G_cVI g (pc := 51) (As := [.int (45 : Int32), .int (M3 rr 17)]) (st := [.int x2]) cc_M_128 (c_M_disorder l N hw (45 : Int32) (M3 rr 17) M3) (hw.mm 145 (Nat.le_of_ble_eq_true rfl) (Nat.le_of_ble_eq_true rfl)) (hw.k (zk145 rr)) rfl (by decide) rfl ⟨(Nat.le_of_ble_eq_true rfl), (Nat.le_of_ble_eq_true rfl)⟩ ⟨(Nat.le_of_ble_eq_true rfl), (Nat.le_of_ble_eq_true rfl)⟩ (Nat.le_of_ble_eq_true rfl) d_M_gap_51 (fun x4 M5 => ?_)
  refine G_iadd g (pc := 54) d_M_gap_54 ?_
  refine G_aload_n g (pc := 55) 1 d_M_gap_55 rfl rfl ?_
  refine G_sipush g (pc := 56) (135 : Int32) d_M_gap_56 rfl ?_
  refine G_aload_n g (pc := 59) 1 d_M_gap_59 rfl rfl ?_
  refine G_getR g (pc := 60) fa_M_28 (hw.mm 145 (Nat.le_of_ble_eq_true rfl) (Nat.le_of_ble_eq_true rfl)) (hw.k (zk145 rr)) (hw.r hw.rr) d_M_gap_60 ?_
  refine G_bipush g (pc := 63) (18 : Int32) d_M_gap_63 rfl ?_
  refine G_ialdK g (pc := 65) (nn := 405) 18 rfl rfl hw.mr hw.kr hw.nr d_M_gap_65 ?_
  refine G_cVI g (pc := 66) (As := [.int (135 : Int32), .int (M5 rr 18)]) (st := [.int (x2 + x4)]) cc_M_128 (c_M_disorder l N hw (135 : Int32) (M5 rr 18) M5) (hw.mm 145 (Nat.le_of_ble_eq_true rfl) (Nat.le_of_ble_eq_true rfl)) (hw.k (zk145 rr)) rfl (by decide) rfl ⟨(Nat.le_of_ble_eq_true rfl), (Nat.le_of_ble_eq_true rfl)⟩ ⟨(Nat.le_of_ble_eq_true rfl), (Nat.le_of_ble_eq_true rfl)⟩ (Nat.le_of_ble_eq_true rfl) d_M_gap_66 (fun x6 M7 => ?_)
  refine G_iadd g (pc := 69) d_M_gap_69 ?_
  exact G_ireturn g (pc := 70) hret (Nat.le_of_ble_eq_true rfl) (Nat.le_of_ble_eq_true rfl) d_M_gap_70
