/-! the law's methods with handlers -/
def WL (w : Wc) : Prop := WK w 146 ∧ WM w 146 ∧ 156 ∈ wL w ∧ 157 ∈ wL w
theorem lk_no1 {u e : Nat} {t : Int32} (h : ¬ u = e) : [(e, t)].lookup u = none := by
  have : (u == e) = false := beq_false_of_ne h
  simp [List.lookup, this]
theorem lk_no2 {u e e2 : Nat} {t t2 : Int32} (h : ¬ u = e) (h2 : ¬ u = e2) : [(e, t), (e2, t2)].lookup u = none := by
  have a : (u == e) = false := beq_false_of_ne h
  have b : (u == e2) = false := beq_false_of_ne h2
  simp [List.lookup, a, b]
theorem lwO_no1 {u e : Nat} {t : Int32} {M : Mem} (h : ¬ u = e) : lwO [(e, t)] (.inr u) M = none := by
  show ([(e, t)].lookup u).map _ = none
  rw [lk_no1 h]
  rfl
theorem lwO_no2 {u e e2 : Nat} {t t2 : Int32} {M : Mem} (h : ¬ u = e) (h2 : ¬ u = e2) : lwO [(e, t), (e2, t2)] (.inr u) M = none := by
  show ([(e, t), (e2, t2)].lookup u).map _ = none
  rw [lk_no2 h h2]
  rfl
theorem lwDO_no1 {u e : Nat} {t : Int32} {M : Mem} (h : ¬ u = e) : lwDO [(e, t)] (.inr u) M = none := by
  show ([(e, t)].lookup u).map _ = none
  rw [lk_no1 h]
  rfl
theorem d_L_loadStation_0 : decode b_L_loadStation 0 = .ok (.aload_n 2, 1) := by decide +kernel
theorem d_L_loadStation_1 : decode b_L_loadStation 1 = .ok (.iconst 0, 1) := by decide +kernel
theorem d_L_loadStation_2 : decode b_L_loadStation 2 = .ok (.aload_n 0, 1) := by decide +kernel
theorem d_L_loadStation_3 : decode b_L_loadStation 3 = .ok (.iload_n 1, 1) := by decide +kernel
theorem d_L_loadStation_4 : decode b_L_loadStation 4 = .ok (.invokevirtual 7, 3) := by decide +kernel
theorem d_L_loadStation_7 : decode b_L_loadStation 7 = .ok (.i2l, 1) := by decide +kernel
theorem d_L_loadStation_8 : decode b_L_loadStation 8 = .ok (.lastore, 1) := by decide +kernel
theorem d_L_loadStation_9 : decode b_L_loadStation 9 = .ok (.goto 6, 3) := by decide +kernel
theorem d_L_loadStation_12 : decode b_L_loadStation 12 = .ok (.astore_n 3, 1) := by decide +kernel
theorem d_L_loadStation_13 : decode b_L_loadStation 13 = .ok (.iconst 1, 1) := by decide +kernel
theorem d_L_loadStation_14 : decode b_L_loadStation 14 = .ok (.ireturn, 1) := by decide +kernel
theorem d_L_loadStation_15 : decode b_L_loadStation 15 = .ok (.iconst 0, 1) := by decide +kernel
theorem d_L_loadStation_16 : decode b_L_loadStation 16 = .ok (.ireturn, 1) := by decide +kernel
theorem cc_L_7 : CV "KiteLoggerLaw" 7 y_G_loadStation b_G_loadStation 3 (some .int) 1 := ⟨TT_in (i := 778) (by decide +kernel) (by decide +kernel), TT_in (i := 779) (by decide +kernel) (by decide +kernel), TT_in (i := 780) (by decide +kernel) (by decide +kernel), TT_in (i := 88) (by decide +kernel) (by decide +kernel), TT_in (i := 781) (by decide +kernel) (by decide +kernel), ⟨by decide +kernel, by decide +kernel, by decide +kernel⟩⟩
set_option maxHeartbeats 4000000 in
set_option maxRecDepth 100000 in
theorem c_L_loadStation (l : Launch) (hst : l.stackTraces = false) (N : Nat) {w : Wc} (hw : WL w) (a1 : Int32) (M : Mem) : CtH l y_L_loadStation b_L_loadStation 4 [(0, 9, 12, 13)] (rmX 9) w [.ref (wad w 0), .int a1, .ref (wad w 156)] M (lwW [(0, 1)] (f_G_loadStation N 146 a1 M)) := by
  refine CtH.go (by decide) (L := [(0, .ref (wad w 0)), (1, .int a1), (2, .ref (wad w 156))]) rfl (Nat.le_of_ble_eq_true rfl) (fun p0 e s m args below meth c ht hnc g hret => ?_)
  refine G_aload_n g (pc := 0) 2 d_L_loadStation_0 rfl rfl ?_
  refine G_iconst g (pc := 1) (0 : Int32) d_L_loadStation_1 rfl ?_
  refine G_aload_n g (pc := 2) 0 d_L_loadStation_2 rfl rfl ?_
  refine G_iload_n g (pc := 3) 1 d_L_loadStation_3 rfl rfl ?_
  refine G_tryI g (pc := 4) (As := [.int a1]) (st := [.int 0, .ref (wad w 156)]) (o := lwO [(0, 1)]) cc_L_7 (c_G_loadStation l hst N hw.1 a1 M) (hw.1.2 0 (Nat.le_of_ble_eq_true rfl)) (hw.1.k rfl) rfl (by decide) rfl ⟨(Nat.le_of_ble_eq_true rfl), (Nat.le_of_ble_eq_true rfl)⟩ ⟨(Nat.le_of_ble_eq_true rfl), (Nat.le_of_ble_eq_true rfl)⟩ (Nat.le_of_ble_eq_true rfl) d_L_loadStation_4 (fun x M1 => ?_) (fun u M1 r hr => ?_)
  · refine G_i2l g (pc := 7) d_L_loadStation_7 ?_
    refine G_last0 g (pc := 8) hw.2.2.1 (hw.1.k rfl) d_L_loadStation_8 ?_
    refine G_goto g (pc := 9) 15 d_L_loadStation_9 (by decide) ?_
    refine G_iconst g (pc := 15) (0 : Int32) d_L_loadStation_15 rfl ?_
    exact G_hireturn g (pc := 16) hret (Nat.le_of_ble_eq_true rfl) (Nat.le_of_ble_eq_true rfl) d_L_loadStation_16
  · have hu : u = 0 := by
      by_cases h0 : u = 0
      · exact h0
      · exact absurd hr (by rw [lwO_no1 h0]; exact fun z => nomatch z)
    subst hu
    refine ⟨12, Hx.fst g ht (by decide) (by decide) (TT_in (i := 777) (by decide +kernel) (by decide +kernel)) (NW_in (i := 788) (by decide +kernel) (by decide +kernel)), fun q9 => ?_⟩
    refine G_astore_n g (pc := 12) _ d_L_loadStation_12 rfl (Nat.le_of_ble_eq_true rfl) rfl ?_
    refine G_iconst g (pc := 13) (1 : Int32) d_L_loadStation_13 rfl ?_
    rw [show lwO [(0, 1)] (.inr 0) M1 = some ((1 : Int32), M1) from rfl]
    exact G_hireturn g (pc := 14) hret (Nat.le_of_ble_eq_true rfl) (Nat.le_of_ble_eq_true rfl) d_L_loadStation_14
theorem d_L_gust_0 : decode b_L_gust 0 = .ok (.aload_n 2, 1) := by decide +kernel
theorem d_L_gust_1 : decode b_L_gust 1 = .ok (.iconst 0, 1) := by decide +kernel
theorem d_L_gust_2 : decode b_L_gust 2 = .ok (.aload_n 0, 1) := by decide +kernel
theorem d_L_gust_3 : decode b_L_gust 3 = .ok (.iload_n 1, 1) := by decide +kernel
theorem d_L_gust_4 : decode b_L_gust 4 = .ok (.invokevirtual 15, 3) := by decide +kernel
theorem d_L_gust_7 : decode b_L_gust 7 = .ok (.i2l, 1) := by decide +kernel
theorem d_L_gust_8 : decode b_L_gust 8 = .ok (.lastore, 1) := by decide +kernel
theorem d_L_gust_9 : decode b_L_gust 9 = .ok (.goto 6, 3) := by decide +kernel
theorem d_L_gust_12 : decode b_L_gust 12 = .ok (.astore_n 3, 1) := by decide +kernel
theorem d_L_gust_13 : decode b_L_gust 13 = .ok (.iconst 1, 1) := by decide +kernel
theorem d_L_gust_14 : decode b_L_gust 14 = .ok (.ireturn, 1) := by decide +kernel
theorem d_L_gust_15 : decode b_L_gust 15 = .ok (.iconst 0, 1) := by decide +kernel
theorem d_L_gust_16 : decode b_L_gust 16 = .ok (.ireturn, 1) := by decide +kernel
theorem cc_L_15 : CV "KiteLoggerLaw" 15 y_G_gust b_G_gust 2 (some .int) 1 := ⟨TT_in (i := 978) (by decide +kernel) (by decide +kernel), TT_in (i := 979) (by decide +kernel) (by decide +kernel), TT_in (i := 980) (by decide +kernel) (by decide +kernel), TT_in (i := 88) (by decide +kernel) (by decide +kernel), TT_in (i := 981) (by decide +kernel) (by decide +kernel), ⟨by decide +kernel, by decide +kernel, by decide +kernel⟩⟩
set_option maxHeartbeats 4000000 in
set_option maxRecDepth 100000 in
theorem c_L_gust (l : Launch) (hst : l.stackTraces = false) {w : Wc} (hw : WL w) (a1 : Int32) (M : Mem) : CtH l y_L_gust b_L_gust 4 [(0, 9, 12, 13)] (rmX 8) w [.ref (wad w 0), .int a1, .ref (wad w 156)] M (lwW [(0, 1)] (f_G_gust a1 M)) := by
  refine CtH.go (by decide) (L := [(0, .ref (wad w 0)), (1, .int a1), (2, .ref (wad w 156))]) rfl (Nat.le_of_ble_eq_true rfl) (fun p0 e s m args below meth c ht hnc g hret => ?_)
  refine G_aload_n g (pc := 0) 2 d_L_gust_0 rfl rfl ?_
  refine G_iconst g (pc := 1) (0 : Int32) d_L_gust_1 rfl ?_
  refine G_aload_n g (pc := 2) 0 d_L_gust_2 rfl rfl ?_
  refine G_iload_n g (pc := 3) 1 d_L_gust_3 rfl rfl ?_
  refine G_tryI g (pc := 4) (As := [.int a1]) (st := [.int 0, .ref (wad w 156)]) (o := lwO [(0, 1)]) cc_L_15 (c_G_gust l hst hw.1 a1 M) (hw.1.2 0 (Nat.le_of_ble_eq_true rfl)) (hw.1.k rfl) rfl (by decide) rfl ⟨(Nat.le_of_ble_eq_true rfl), (Nat.le_of_ble_eq_true rfl)⟩ ⟨(Nat.le_of_ble_eq_true rfl), (Nat.le_of_ble_eq_true rfl)⟩ (Nat.le_of_ble_eq_true rfl) d_L_gust_4 (fun x M1 => ?_) (fun u M1 r hr => ?_)
  · refine G_i2l g (pc := 7) d_L_gust_7 ?_
    refine G_last0 g (pc := 8) hw.2.2.1 (hw.1.k rfl) d_L_gust_8 ?_
    refine G_goto g (pc := 9) 15 d_L_gust_9 (by decide) ?_
    refine G_iconst g (pc := 15) (0 : Int32) d_L_gust_15 rfl ?_
    exact G_hireturn g (pc := 16) hret (Nat.le_of_ble_eq_true rfl) (Nat.le_of_ble_eq_true rfl) d_L_gust_16
  · have hu : u = 0 := by
      by_cases h0 : u = 0
      · exact h0
      · exact absurd hr (by rw [lwO_no1 h0]; exact fun z => nomatch z)
    subst hu
    refine ⟨12, Hx.fst g ht (by decide) (by decide) (TT_in (i := 777) (by decide +kernel) (by decide +kernel)) (NW_in (i := 788) (by decide +kernel) (by decide +kernel)), fun q9 => ?_⟩
    refine G_astore_n g (pc := 12) _ d_L_gust_12 rfl (Nat.le_of_ble_eq_true rfl) rfl ?_
    refine G_iconst g (pc := 13) (1 : Int32) d_L_gust_13 rfl ?_
    rw [show lwO [(0, 1)] (.inr 0) M1 = some ((1 : Int32), M1) from rfl]
    exact G_hireturn g (pc := 14) hret (Nat.le_of_ble_eq_true rfl) (Nat.le_of_ble_eq_true rfl) d_L_gust_14
theorem d_L_windAt_0 : decode b_L_windAt 0 = .ok (.aload_n 2, 1) := by decide +kernel
theorem d_L_windAt_1 : decode b_L_windAt 1 = .ok (.iconst 0, 1) := by decide +kernel
theorem d_L_windAt_2 : decode b_L_windAt 2 = .ok (.aload_n 0, 1) := by decide +kernel
theorem d_L_windAt_3 : decode b_L_windAt 3 = .ok (.iload_n 1, 1) := by decide +kernel
theorem d_L_windAt_4 : decode b_L_windAt 4 = .ok (.invokevirtual 18, 3) := by decide +kernel
theorem d_L_windAt_7 : decode b_L_windAt 7 = .ok (.i2l, 1) := by decide +kernel
theorem d_L_windAt_8 : decode b_L_windAt 8 = .ok (.lastore, 1) := by decide +kernel
theorem d_L_windAt_9 : decode b_L_windAt 9 = .ok (.goto 6, 3) := by decide +kernel
theorem d_L_windAt_12 : decode b_L_windAt 12 = .ok (.astore_n 3, 1) := by decide +kernel
theorem d_L_windAt_13 : decode b_L_windAt 13 = .ok (.iconst 1, 1) := by decide +kernel
theorem d_L_windAt_14 : decode b_L_windAt 14 = .ok (.ireturn, 1) := by decide +kernel
theorem d_L_windAt_15 : decode b_L_windAt 15 = .ok (.iconst 0, 1) := by decide +kernel
theorem d_L_windAt_16 : decode b_L_windAt 16 = .ok (.ireturn, 1) := by decide +kernel
theorem cc_L_18 : CV "KiteLoggerLaw" 18 y_G_windAt b_G_windAt 2 (some .int) 1 := ⟨TT_in (i := 990) (by decide +kernel) (by decide +kernel), TT_in (i := 991) (by decide +kernel) (by decide +kernel), TT_in (i := 992) (by decide +kernel) (by decide +kernel), TT_in (i := 88) (by decide +kernel) (by decide +kernel), TT_in (i := 993) (by decide +kernel) (by decide +kernel), ⟨by decide +kernel, by decide +kernel, by decide +kernel⟩⟩
set_option maxHeartbeats 4000000 in
set_option maxRecDepth 100000 in
theorem c_L_windAt (l : Launch) (hst : l.stackTraces = false) {w : Wc} (hw : WL w) (a1 : Int32) (M : Mem) : CtH l y_L_windAt b_L_windAt 4 [(0, 9, 12, 13)] (rmX 8) w [.ref (wad w 0), .int a1, .ref (wad w 156)] M (lwW [(0, 1)] (f_G_windAt a1 M)) := by
  refine CtH.go (by decide) (L := [(0, .ref (wad w 0)), (1, .int a1), (2, .ref (wad w 156))]) rfl (Nat.le_of_ble_eq_true rfl) (fun p0 e s m args below meth c ht hnc g hret => ?_)
  refine G_aload_n g (pc := 0) 2 d_L_windAt_0 rfl rfl ?_
  refine G_iconst g (pc := 1) (0 : Int32) d_L_windAt_1 rfl ?_
  refine G_aload_n g (pc := 2) 0 d_L_windAt_2 rfl rfl ?_
  refine G_iload_n g (pc := 3) 1 d_L_windAt_3 rfl rfl ?_
  refine G_tryI g (pc := 4) (As := [.int a1]) (st := [.int 0, .ref (wad w 156)]) (o := lwO [(0, 1)]) cc_L_18 (c_G_windAt l hst hw.1 a1 M) (hw.1.2 0 (Nat.le_of_ble_eq_true rfl)) (hw.1.k rfl) rfl (by decide) rfl ⟨(Nat.le_of_ble_eq_true rfl), (Nat.le_of_ble_eq_true rfl)⟩ ⟨(Nat.le_of_ble_eq_true rfl), (Nat.le_of_ble_eq_true rfl)⟩ (Nat.le_of_ble_eq_true rfl) d_L_windAt_4 (fun x M1 => ?_) (fun u M1 r hr => ?_)
  · refine G_i2l g (pc := 7) d_L_windAt_7 ?_
    refine G_last0 g (pc := 8) hw.2.2.1 (hw.1.k rfl) d_L_windAt_8 ?_
    refine G_goto g (pc := 9) 15 d_L_windAt_9 (by decide) ?_
    refine G_iconst g (pc := 15) (0 : Int32) d_L_windAt_15 rfl ?_
    exact G_hireturn g (pc := 16) hret (Nat.le_of_ble_eq_true rfl) (Nat.le_of_ble_eq_true rfl) d_L_windAt_16
  · have hu : u = 0 := by
      by_cases h0 : u = 0
      · exact h0
      · exact absurd hr (by rw [lwO_no1 h0]; exact fun z => nomatch z)
    subst hu
    refine ⟨12, Hx.fst g ht (by decide) (by decide) (TT_in (i := 777) (by decide +kernel) (by decide +kernel)) (NW_in (i := 788) (by decide +kernel) (by decide +kernel)), fun q9 => ?_⟩
    refine G_astore_n g (pc := 12) _ d_L_windAt_12 rfl (Nat.le_of_ble_eq_true rfl) rfl ?_
    refine G_iconst g (pc := 13) (1 : Int32) d_L_windAt_13 rfl ?_
    rw [show lwO [(0, 1)] (.inr 0) M1 = some ((1 : Int32), M1) from rfl]
    exact G_hireturn g (pc := 14) hret (Nat.le_of_ble_eq_true rfl) (Nat.le_of_ble_eq_true rfl) d_L_windAt_14
theorem d_L_loadOf_0 : decode b_L_loadOf 0 = .ok (.aload_n 2, 1) := by decide +kernel
theorem d_L_loadOf_1 : decode b_L_loadOf 1 = .ok (.iconst 0, 1) := by decide +kernel
theorem d_L_loadOf_2 : decode b_L_loadOf 2 = .ok (.aload_n 0, 1) := by decide +kernel
theorem d_L_loadOf_3 : decode b_L_loadOf 3 = .ok (.iload_n 1, 1) := by decide +kernel
theorem d_L_loadOf_4 : decode b_L_loadOf 4 = .ok (.invokevirtual 21, 3) := by decide +kernel
theorem d_L_loadOf_7 : decode b_L_loadOf 7 = .ok (.i2l, 1) := by decide +kernel
theorem d_L_loadOf_8 : decode b_L_loadOf 8 = .ok (.lastore, 1) := by decide +kernel
theorem d_L_loadOf_9 : decode b_L_loadOf 9 = .ok (.goto 6, 3) := by decide +kernel
theorem d_L_loadOf_12 : decode b_L_loadOf 12 = .ok (.astore_n 3, 1) := by decide +kernel
theorem d_L_loadOf_13 : decode b_L_loadOf 13 = .ok (.iconst 1, 1) := by decide +kernel
theorem d_L_loadOf_14 : decode b_L_loadOf 14 = .ok (.ireturn, 1) := by decide +kernel
theorem d_L_loadOf_15 : decode b_L_loadOf 15 = .ok (.iconst 0, 1) := by decide +kernel
theorem d_L_loadOf_16 : decode b_L_loadOf 16 = .ok (.ireturn, 1) := by decide +kernel
theorem cc_L_21 : CV "KiteLoggerLaw" 21 y_G_loadOf b_G_loadOf 2 (some .int) 1 := ⟨TT_in (i := 997) (by decide +kernel) (by decide +kernel), TT_in (i := 998) (by decide +kernel) (by decide +kernel), TT_in (i := 999) (by decide +kernel) (by decide +kernel), TT_in (i := 88) (by decide +kernel) (by decide +kernel), TT_in (i := 1000) (by decide +kernel) (by decide +kernel), ⟨by decide +kernel, by decide +kernel, by decide +kernel⟩⟩
set_option maxHeartbeats 4000000 in
set_option maxRecDepth 100000 in
theorem c_L_loadOf (l : Launch) (hst : l.stackTraces = false) {w : Wc} (hw : WL w) (a1 : Int32) (M : Mem) : CtH l y_L_loadOf b_L_loadOf 4 [(0, 9, 12, 13)] (rmX 8) w [.ref (wad w 0), .int a1, .ref (wad w 156)] M (lwW [(0, 1)] (f_G_loadOf a1 M)) := by
  refine CtH.go (by decide) (L := [(0, .ref (wad w 0)), (1, .int a1), (2, .ref (wad w 156))]) rfl (Nat.le_of_ble_eq_true rfl) (fun p0 e s m args below meth c ht hnc g hret => ?_)
  refine G_aload_n g (pc := 0) 2 d_L_loadOf_0 rfl rfl ?_
  refine G_iconst g (pc := 1) (0 : Int32) d_L_loadOf_1 rfl ?_
  refine G_aload_n g (pc := 2) 0 d_L_loadOf_2 rfl rfl ?_
  refine G_iload_n g (pc := 3) 1 d_L_loadOf_3 rfl rfl ?_
  refine G_tryI g (pc := 4) (As := [.int a1]) (st := [.int 0, .ref (wad w 156)]) (o := lwO [(0, 1)]) cc_L_21 (c_G_loadOf l hst hw.1 a1 M) (hw.1.2 0 (Nat.le_of_ble_eq_true rfl)) (hw.1.k rfl) rfl (by decide) rfl ⟨(Nat.le_of_ble_eq_true rfl), (Nat.le_of_ble_eq_true rfl)⟩ ⟨(Nat.le_of_ble_eq_true rfl), (Nat.le_of_ble_eq_true rfl)⟩ (Nat.le_of_ble_eq_true rfl) d_L_loadOf_4 (fun x M1 => ?_) (fun u M1 r hr => ?_)
  · refine G_i2l g (pc := 7) d_L_loadOf_7 ?_
    refine G_last0 g (pc := 8) hw.2.2.1 (hw.1.k rfl) d_L_loadOf_8 ?_
    refine G_goto g (pc := 9) 15 d_L_loadOf_9 (by decide) ?_
    refine G_iconst g (pc := 15) (0 : Int32) d_L_loadOf_15 rfl ?_
    exact G_hireturn g (pc := 16) hret (Nat.le_of_ble_eq_true rfl) (Nat.le_of_ble_eq_true rfl) d_L_loadOf_16
  · have hu : u = 0 := by
      by_cases h0 : u = 0
      · exact h0
      · exact absurd hr (by rw [lwO_no1 h0]; exact fun z => nomatch z)
    subst hu
    refine ⟨12, Hx.fst g ht (by decide) (by decide) (TT_in (i := 777) (by decide +kernel) (by decide +kernel)) (NW_in (i := 788) (by decide +kernel) (by decide +kernel)), fun q9 => ?_⟩
    refine G_astore_n g (pc := 12) _ d_L_loadOf_12 rfl (Nat.le_of_ble_eq_true rfl) rfl ?_
    refine G_iconst g (pc := 13) (1 : Int32) d_L_loadOf_13 rfl ?_
    rw [show lwO [(0, 1)] (.inr 0) M1 = some ((1 : Int32), M1) from rfl]
    exact G_hireturn g (pc := 14) hret (Nat.le_of_ble_eq_true rfl) (Nat.le_of_ble_eq_true rfl) d_L_loadOf_14
theorem d_L_loggedTick_0 : decode b_L_loggedTick 0 = .ok (.aload_n 2, 1) := by decide +kernel
theorem d_L_loggedTick_1 : decode b_L_loggedTick 1 = .ok (.iconst 0, 1) := by decide +kernel
theorem d_L_loggedTick_2 : decode b_L_loggedTick 2 = .ok (.aload_n 0, 1) := by decide +kernel
theorem d_L_loggedTick_3 : decode b_L_loggedTick 3 = .ok (.iload_n 1, 1) := by decide +kernel
theorem d_L_loggedTick_4 : decode b_L_loggedTick 4 = .ok (.invokevirtual 24, 3) := by decide +kernel
theorem d_L_loggedTick_7 : decode b_L_loggedTick 7 = .ok (.i2l, 1) := by decide +kernel
theorem d_L_loggedTick_8 : decode b_L_loggedTick 8 = .ok (.lastore, 1) := by decide +kernel
theorem d_L_loggedTick_9 : decode b_L_loggedTick 9 = .ok (.goto 6, 3) := by decide +kernel
theorem d_L_loggedTick_12 : decode b_L_loggedTick 12 = .ok (.astore_n 3, 1) := by decide +kernel
theorem d_L_loggedTick_13 : decode b_L_loggedTick 13 = .ok (.iconst 1, 1) := by decide +kernel
theorem d_L_loggedTick_14 : decode b_L_loggedTick 14 = .ok (.ireturn, 1) := by decide +kernel
theorem d_L_loggedTick_15 : decode b_L_loggedTick 15 = .ok (.iconst 0, 1) := by decide +kernel
theorem d_L_loggedTick_16 : decode b_L_loggedTick 16 = .ok (.ireturn, 1) := by decide +kernel
theorem cc_L_24 : CV "KiteLoggerLaw" 24 y_G_loggedTick b_G_loggedTick 2 (some .int) 1 := ⟨TT_in (i := 1005) (by decide +kernel) (by decide +kernel), TT_in (i := 1006) (by decide +kernel) (by decide +kernel), TT_in (i := 1007) (by decide +kernel) (by decide +kernel), TT_in (i := 88) (by decide +kernel) (by decide +kernel), TT_in (i := 1008) (by decide +kernel) (by decide +kernel), ⟨by decide +kernel, by decide +kernel, by decide +kernel⟩⟩
set_option maxHeartbeats 4000000 in
set_option maxRecDepth 100000 in
theorem c_L_loggedTick (l : Launch) (hst : l.stackTraces = false) {w : Wc} (hw : WL w) (a1 : Int32) (M : Mem) : CtH l y_L_loggedTick b_L_loggedTick 4 [(0, 9, 12, 27)] (rmX 8) w [.ref (wad w 0), .int a1, .ref (wad w 156)] M (lwW [(2, 1)] (f_G_loggedTick a1 M)) := by
  refine CtH.go (by decide) (L := [(0, .ref (wad w 0)), (1, .int a1), (2, .ref (wad w 156))]) rfl (Nat.le_of_ble_eq_true rfl) (fun p0 e s m args below meth c ht hnc g hret => ?_)
  refine G_aload_n g (pc := 0) 2 d_L_loggedTick_0 rfl rfl ?_
  refine G_iconst g (pc := 1) (0 : Int32) d_L_loggedTick_1 rfl ?_
  refine G_aload_n g (pc := 2) 0 d_L_loggedTick_2 rfl rfl ?_
  refine G_iload_n g (pc := 3) 1 d_L_loggedTick_3 rfl rfl ?_
  refine G_tryI g (pc := 4) (As := [.int a1]) (st := [.int 0, .ref (wad w 156)]) (o := lwO [(2, 1)]) cc_L_24 (c_G_loggedTick l hst hw.1 a1 M) (hw.1.2 0 (Nat.le_of_ble_eq_true rfl)) (hw.1.k rfl) rfl (by decide) rfl ⟨(Nat.le_of_ble_eq_true rfl), (Nat.le_of_ble_eq_true rfl)⟩ ⟨(Nat.le_of_ble_eq_true rfl), (Nat.le_of_ble_eq_true rfl)⟩ (Nat.le_of_ble_eq_true rfl) d_L_loggedTick_4 (fun x M1 => ?_) (fun u M1 r hr => ?_)
  · refine G_i2l g (pc := 7) d_L_loggedTick_7 ?_
    refine G_last0 g (pc := 8) hw.2.2.1 (hw.1.k rfl) d_L_loggedTick_8 ?_
    refine G_goto g (pc := 9) 15 d_L_loggedTick_9 (by decide) ?_
    refine G_iconst g (pc := 15) (0 : Int32) d_L_loggedTick_15 rfl ?_
    exact G_hireturn g (pc := 16) hret (Nat.le_of_ble_eq_true rfl) (Nat.le_of_ble_eq_true rfl) d_L_loggedTick_16
  · have hu : u = 2 := by
      by_cases h0 : u = 2
      · exact h0
      · exact absurd hr (by rw [lwO_no1 h0]; exact fun z => nomatch z)
    subst hu
    refine ⟨12, Hx.fst g ht (by decide) (by decide) (TT_in (i := 1004) (by decide +kernel) (by decide +kernel)) (NW_in (i := 1018) (by decide +kernel) (by decide +kernel)), fun q9 => ?_⟩
    refine G_astore_n g (pc := 12) _ d_L_loggedTick_12 rfl (Nat.le_of_ble_eq_true rfl) rfl ?_
    refine G_iconst g (pc := 13) (1 : Int32) d_L_loggedTick_13 rfl ?_
    rw [show lwO [(2, 1)] (.inr 2) M1 = some ((1 : Int32), M1) from rfl]
    exact G_hireturn g (pc := 14) hret (Nat.le_of_ble_eq_true rfl) (Nat.le_of_ble_eq_true rfl) d_L_loggedTick_14
theorem d_L_loggedHeight_0 : decode b_L_loggedHeight 0 = .ok (.aload_n 2, 1) := by decide +kernel
theorem d_L_loggedHeight_1 : decode b_L_loggedHeight 1 = .ok (.iconst 0, 1) := by decide +kernel
theorem d_L_loggedHeight_2 : decode b_L_loggedHeight 2 = .ok (.aload_n 0, 1) := by decide +kernel
theorem d_L_loggedHeight_3 : decode b_L_loggedHeight 3 = .ok (.iload_n 1, 1) := by decide +kernel
theorem d_L_loggedHeight_4 : decode b_L_loggedHeight 4 = .ok (.invokevirtual 29, 3) := by decide +kernel
theorem d_L_loggedHeight_7 : decode b_L_loggedHeight 7 = .ok (.i2l, 1) := by decide +kernel
theorem d_L_loggedHeight_8 : decode b_L_loggedHeight 8 = .ok (.lastore, 1) := by decide +kernel
theorem d_L_loggedHeight_9 : decode b_L_loggedHeight 9 = .ok (.goto 6, 3) := by decide +kernel
theorem d_L_loggedHeight_12 : decode b_L_loggedHeight 12 = .ok (.astore_n 3, 1) := by decide +kernel
theorem d_L_loggedHeight_13 : decode b_L_loggedHeight 13 = .ok (.iconst 1, 1) := by decide +kernel
theorem d_L_loggedHeight_14 : decode b_L_loggedHeight 14 = .ok (.ireturn, 1) := by decide +kernel
theorem d_L_loggedHeight_15 : decode b_L_loggedHeight 15 = .ok (.iconst 0, 1) := by decide +kernel
theorem d_L_loggedHeight_16 : decode b_L_loggedHeight 16 = .ok (.ireturn, 1) := by decide +kernel
theorem cc_L_29 : CV "KiteLoggerLaw" 29 y_G_loggedHeight b_G_loggedHeight 2 (some .int) 1 := ⟨TT_in (i := 1036) (by decide +kernel) (by decide +kernel), TT_in (i := 1037) (by decide +kernel) (by decide +kernel), TT_in (i := 1038) (by decide +kernel) (by decide +kernel), TT_in (i := 88) (by decide +kernel) (by decide +kernel), TT_in (i := 1039) (by decide +kernel) (by decide +kernel), ⟨by decide +kernel, by decide +kernel, by decide +kernel⟩⟩
set_option maxHeartbeats 4000000 in
set_option maxRecDepth 100000 in
theorem c_L_loggedHeight (l : Launch) (hst : l.stackTraces = false) {w : Wc} (hw : WL w) (a1 : Int32) (M : Mem) : CtH l y_L_loggedHeight b_L_loggedHeight 4 [(0, 9, 12, 27)] (rmX 8) w [.ref (wad w 0), .int a1, .ref (wad w 156)] M (lwW [(2, 1)] (f_G_loggedHeight a1 M)) := by
  refine CtH.go (by decide) (L := [(0, .ref (wad w 0)), (1, .int a1), (2, .ref (wad w 156))]) rfl (Nat.le_of_ble_eq_true rfl) (fun p0 e s m args below meth c ht hnc g hret => ?_)
  refine G_aload_n g (pc := 0) 2 d_L_loggedHeight_0 rfl rfl ?_
  refine G_iconst g (pc := 1) (0 : Int32) d_L_loggedHeight_1 rfl ?_
  refine G_aload_n g (pc := 2) 0 d_L_loggedHeight_2 rfl rfl ?_
  refine G_iload_n g (pc := 3) 1 d_L_loggedHeight_3 rfl rfl ?_
  refine G_tryI g (pc := 4) (As := [.int a1]) (st := [.int 0, .ref (wad w 156)]) (o := lwO [(2, 1)]) cc_L_29 (c_G_loggedHeight l hst hw.1 a1 M) (hw.1.2 0 (Nat.le_of_ble_eq_true rfl)) (hw.1.k rfl) rfl (by decide) rfl ⟨(Nat.le_of_ble_eq_true rfl), (Nat.le_of_ble_eq_true rfl)⟩ ⟨(Nat.le_of_ble_eq_true rfl), (Nat.le_of_ble_eq_true rfl)⟩ (Nat.le_of_ble_eq_true rfl) d_L_loggedHeight_4 (fun x M1 => ?_) (fun u M1 r hr => ?_)
  · refine G_i2l g (pc := 7) d_L_loggedHeight_7 ?_
    refine G_last0 g (pc := 8) hw.2.2.1 (hw.1.k rfl) d_L_loggedHeight_8 ?_
    refine G_goto g (pc := 9) 15 d_L_loggedHeight_9 (by decide) ?_
    refine G_iconst g (pc := 15) (0 : Int32) d_L_loggedHeight_15 rfl ?_
    exact G_hireturn g (pc := 16) hret (Nat.le_of_ble_eq_true rfl) (Nat.le_of_ble_eq_true rfl) d_L_loggedHeight_16
  · have hu : u = 2 := by
      by_cases h0 : u = 2
      · exact h0
      · exact absurd hr (by rw [lwO_no1 h0]; exact fun z => nomatch z)
    subst hu
    refine ⟨12, Hx.fst g ht (by decide) (by decide) (TT_in (i := 1004) (by decide +kernel) (by decide +kernel)) (NW_in (i := 1018) (by decide +kernel) (by decide +kernel)), fun q9 => ?_⟩
    refine G_astore_n g (pc := 12) _ d_L_loggedHeight_12 rfl (Nat.le_of_ble_eq_true rfl) rfl ?_
    refine G_iconst g (pc := 13) (1 : Int32) d_L_loggedHeight_13 rfl ?_
    rw [show lwO [(2, 1)] (.inr 2) M1 = some ((1 : Int32), M1) from rfl]
    exact G_hireturn g (pc := 14) hret (Nat.le_of_ble_eq_true rfl) (Nat.le_of_ble_eq_true rfl) d_L_loggedHeight_14
theorem d_L_loggedGust_0 : decode b_L_loggedGust 0 = .ok (.aload_n 2, 1) := by decide +kernel
theorem d_L_loggedGust_1 : decode b_L_loggedGust 1 = .ok (.iconst 0, 1) := by decide +kernel
theorem d_L_loggedGust_2 : decode b_L_loggedGust 2 = .ok (.aload_n 0, 1) := by decide +kernel
theorem d_L_loggedGust_3 : decode b_L_loggedGust 3 = .ok (.iload_n 1, 1) := by decide +kernel
theorem d_L_loggedGust_4 : decode b_L_loggedGust 4 = .ok (.invokevirtual 32, 3) := by decide +kernel
theorem d_L_loggedGust_7 : decode b_L_loggedGust 7 = .ok (.i2l, 1) := by decide +kernel
theorem d_L_loggedGust_8 : decode b_L_loggedGust 8 = .ok (.lastore, 1) := by decide +kernel
theorem d_L_loggedGust_9 : decode b_L_loggedGust 9 = .ok (.goto 6, 3) := by decide +kernel
theorem d_L_loggedGust_12 : decode b_L_loggedGust 12 = .ok (.astore_n 3, 1) := by decide +kernel
theorem d_L_loggedGust_13 : decode b_L_loggedGust 13 = .ok (.iconst 1, 1) := by decide +kernel
theorem d_L_loggedGust_14 : decode b_L_loggedGust 14 = .ok (.ireturn, 1) := by decide +kernel
theorem d_L_loggedGust_15 : decode b_L_loggedGust 15 = .ok (.iconst 0, 1) := by decide +kernel
theorem d_L_loggedGust_16 : decode b_L_loggedGust 16 = .ok (.ireturn, 1) := by decide +kernel
theorem cc_L_32 : CV "KiteLoggerLaw" 32 y_G_loggedGust b_G_loggedGust 2 (some .int) 1 := ⟨TT_in (i := 1044) (by decide +kernel) (by decide +kernel), TT_in (i := 1045) (by decide +kernel) (by decide +kernel), TT_in (i := 1046) (by decide +kernel) (by decide +kernel), TT_in (i := 88) (by decide +kernel) (by decide +kernel), TT_in (i := 1047) (by decide +kernel) (by decide +kernel), ⟨by decide +kernel, by decide +kernel, by decide +kernel⟩⟩
set_option maxHeartbeats 4000000 in
set_option maxRecDepth 100000 in
theorem c_L_loggedGust (l : Launch) (hst : l.stackTraces = false) {w : Wc} (hw : WL w) (a1 : Int32) (M : Mem) : CtH l y_L_loggedGust b_L_loggedGust 4 [(0, 9, 12, 27)] (rmX 8) w [.ref (wad w 0), .int a1, .ref (wad w 156)] M (lwW [(2, 1)] (f_G_loggedGust a1 M)) := by
  refine CtH.go (by decide) (L := [(0, .ref (wad w 0)), (1, .int a1), (2, .ref (wad w 156))]) rfl (Nat.le_of_ble_eq_true rfl) (fun p0 e s m args below meth c ht hnc g hret => ?_)
  refine G_aload_n g (pc := 0) 2 d_L_loggedGust_0 rfl rfl ?_
  refine G_iconst g (pc := 1) (0 : Int32) d_L_loggedGust_1 rfl ?_
  refine G_aload_n g (pc := 2) 0 d_L_loggedGust_2 rfl rfl ?_
  refine G_iload_n g (pc := 3) 1 d_L_loggedGust_3 rfl rfl ?_
  refine G_tryI g (pc := 4) (As := [.int a1]) (st := [.int 0, .ref (wad w 156)]) (o := lwO [(2, 1)]) cc_L_32 (c_G_loggedGust l hst hw.1 a1 M) (hw.1.2 0 (Nat.le_of_ble_eq_true rfl)) (hw.1.k rfl) rfl (by decide) rfl ⟨(Nat.le_of_ble_eq_true rfl), (Nat.le_of_ble_eq_true rfl)⟩ ⟨(Nat.le_of_ble_eq_true rfl), (Nat.le_of_ble_eq_true rfl)⟩ (Nat.le_of_ble_eq_true rfl) d_L_loggedGust_4 (fun x M1 => ?_) (fun u M1 r hr => ?_)
  · refine G_i2l g (pc := 7) d_L_loggedGust_7 ?_
    refine G_last0 g (pc := 8) hw.2.2.1 (hw.1.k rfl) d_L_loggedGust_8 ?_
    refine G_goto g (pc := 9) 15 d_L_loggedGust_9 (by decide) ?_
    refine G_iconst g (pc := 15) (0 : Int32) d_L_loggedGust_15 rfl ?_
    exact G_hireturn g (pc := 16) hret (Nat.le_of_ble_eq_true rfl) (Nat.le_of_ble_eq_true rfl) d_L_loggedGust_16
  · have hu : u = 2 := by
      by_cases h0 : u = 2
      · exact h0
      · exact absurd hr (by rw [lwO_no1 h0]; exact fun z => nomatch z)
    subst hu
    refine ⟨12, Hx.fst g ht (by decide) (by decide) (TT_in (i := 1004) (by decide +kernel) (by decide +kernel)) (NW_in (i := 1018) (by decide +kernel) (by decide +kernel)), fun q9 => ?_⟩
    refine G_astore_n g (pc := 12) _ d_L_loggedGust_12 rfl (Nat.le_of_ble_eq_true rfl) rfl ?_
    refine G_iconst g (pc := 13) (1 : Int32) d_L_loggedGust_13 rfl ?_
    rw [show lwO [(2, 1)] (.inr 2) M1 = some ((1 : Int32), M1) from rfl]
    exact G_hireturn g (pc := 14) hret (Nat.le_of_ble_eq_true rfl) (Nat.le_of_ble_eq_true rfl) d_L_loggedGust_14
theorem d_L_archivedTick_0 : decode b_L_archivedTick 0 = .ok (.aload_n 2, 1) := by decide +kernel
theorem d_L_archivedTick_1 : decode b_L_archivedTick 1 = .ok (.iconst 0, 1) := by decide +kernel
theorem d_L_archivedTick_2 : decode b_L_archivedTick 2 = .ok (.aload_n 0, 1) := by decide +kernel
theorem d_L_archivedTick_3 : decode b_L_archivedTick 3 = .ok (.iload_n 1, 1) := by decide +kernel
theorem d_L_archivedTick_4 : decode b_L_archivedTick 4 = .ok (.invokevirtual 35, 3) := by decide +kernel
theorem d_L_archivedTick_7 : decode b_L_archivedTick 7 = .ok (.i2l, 1) := by decide +kernel
theorem d_L_archivedTick_8 : decode b_L_archivedTick 8 = .ok (.lastore, 1) := by decide +kernel
theorem d_L_archivedTick_9 : decode b_L_archivedTick 9 = .ok (.goto 6, 3) := by decide +kernel
theorem d_L_archivedTick_12 : decode b_L_archivedTick 12 = .ok (.astore_n 3, 1) := by decide +kernel
theorem d_L_archivedTick_13 : decode b_L_archivedTick 13 = .ok (.iconst 1, 1) := by decide +kernel
theorem d_L_archivedTick_14 : decode b_L_archivedTick 14 = .ok (.ireturn, 1) := by decide +kernel
theorem d_L_archivedTick_15 : decode b_L_archivedTick 15 = .ok (.iconst 0, 1) := by decide +kernel
theorem d_L_archivedTick_16 : decode b_L_archivedTick 16 = .ok (.ireturn, 1) := by decide +kernel
theorem cc_L_35 : CV "KiteLoggerLaw" 35 y_G_archivedTick b_G_archivedTick 2 (some .int) 1 := ⟨TT_in (i := 1052) (by decide +kernel) (by decide +kernel), TT_in (i := 1053) (by decide +kernel) (by decide +kernel), TT_in (i := 1054) (by decide +kernel) (by decide +kernel), TT_in (i := 88) (by decide +kernel) (by decide +kernel), TT_in (i := 1055) (by decide +kernel) (by decide +kernel), ⟨by decide +kernel, by decide +kernel, by decide +kernel⟩⟩
set_option maxHeartbeats 4000000 in
set_option maxRecDepth 100000 in
theorem c_L_archivedTick (l : Launch) (hst : l.stackTraces = false) {w : Wc} (hw : WL w) (a1 : Int32) (M : Mem) : CtH l y_L_archivedTick b_L_archivedTick 4 [(0, 9, 12, 27)] (rmX 8) w [.ref (wad w 0), .int a1, .ref (wad w 156)] M (lwW [(2, 1)] (f_G_archivedTick a1 M)) := by
  refine CtH.go (by decide) (L := [(0, .ref (wad w 0)), (1, .int a1), (2, .ref (wad w 156))]) rfl (Nat.le_of_ble_eq_true rfl) (fun p0 e s m args below meth c ht hnc g hret => ?_)
  refine G_aload_n g (pc := 0) 2 d_L_archivedTick_0 rfl rfl ?_
  refine G_iconst g (pc := 1) (0 : Int32) d_L_archivedTick_1 rfl ?_
  refine G_aload_n g (pc := 2) 0 d_L_archivedTick_2 rfl rfl ?_
  refine G_iload_n g (pc := 3) 1 d_L_archivedTick_3 rfl rfl ?_
  refine G_tryI g (pc := 4) (As := [.int a1]) (st := [.int 0, .ref (wad w 156)]) (o := lwO [(2, 1)]) cc_L_35 (c_G_archivedTick l hst hw.1 a1 M) (hw.1.2 0 (Nat.le_of_ble_eq_true rfl)) (hw.1.k rfl) rfl (by decide) rfl ⟨(Nat.le_of_ble_eq_true rfl), (Nat.le_of_ble_eq_true rfl)⟩ ⟨(Nat.le_of_ble_eq_true rfl), (Nat.le_of_ble_eq_true rfl)⟩ (Nat.le_of_ble_eq_true rfl) d_L_archivedTick_4 (fun x M1 => ?_) (fun u M1 r hr => ?_)
  · refine G_i2l g (pc := 7) d_L_archivedTick_7 ?_
    refine G_last0 g (pc := 8) hw.2.2.1 (hw.1.k rfl) d_L_archivedTick_8 ?_
    refine G_goto g (pc := 9) 15 d_L_archivedTick_9 (by decide) ?_
    refine G_iconst g (pc := 15) (0 : Int32) d_L_archivedTick_15 rfl ?_
    exact G_hireturn g (pc := 16) hret (Nat.le_of_ble_eq_true rfl) (Nat.le_of_ble_eq_true rfl) d_L_archivedTick_16
  · have hu : u = 2 := by
      by_cases h0 : u = 2
      · exact h0
      · exact absurd hr (by rw [lwO_no1 h0]; exact fun z => nomatch z)
    subst hu
    refine ⟨12, Hx.fst g ht (by decide) (by decide) (TT_in (i := 1004) (by decide +kernel) (by decide +kernel)) (NW_in (i := 1018) (by decide +kernel) (by decide +kernel)), fun q9 => ?_⟩
    refine G_astore_n g (pc := 12) _ d_L_archivedTick_12 rfl (Nat.le_of_ble_eq_true rfl) rfl ?_
    refine G_iconst g (pc := 13) (1 : Int32) d_L_archivedTick_13 rfl ?_
    rw [show lwO [(2, 1)] (.inr 2) M1 = some ((1 : Int32), M1) from rfl]
    exact G_hireturn g (pc := 14) hret (Nat.le_of_ble_eq_true rfl) (Nat.le_of_ble_eq_true rfl) d_L_archivedTick_14
theorem d_L_archivedHeight_0 : decode b_L_archivedHeight 0 = .ok (.aload_n 2, 1) := by decide +kernel
theorem d_L_archivedHeight_1 : decode b_L_archivedHeight 1 = .ok (.iconst 0, 1) := by decide +kernel
theorem d_L_archivedHeight_2 : decode b_L_archivedHeight 2 = .ok (.aload_n 0, 1) := by decide +kernel
theorem d_L_archivedHeight_3 : decode b_L_archivedHeight 3 = .ok (.iload_n 1, 1) := by decide +kernel
theorem d_L_archivedHeight_4 : decode b_L_archivedHeight 4 = .ok (.invokevirtual 38, 3) := by decide +kernel
theorem d_L_archivedHeight_7 : decode b_L_archivedHeight 7 = .ok (.i2l, 1) := by decide +kernel
theorem d_L_archivedHeight_8 : decode b_L_archivedHeight 8 = .ok (.lastore, 1) := by decide +kernel
theorem d_L_archivedHeight_9 : decode b_L_archivedHeight 9 = .ok (.goto 6, 3) := by decide +kernel
theorem d_L_archivedHeight_12 : decode b_L_archivedHeight 12 = .ok (.astore_n 3, 1) := by decide +kernel
theorem d_L_archivedHeight_13 : decode b_L_archivedHeight 13 = .ok (.iconst 1, 1) := by decide +kernel
theorem d_L_archivedHeight_14 : decode b_L_archivedHeight 14 = .ok (.ireturn, 1) := by decide +kernel
theorem d_L_archivedHeight_15 : decode b_L_archivedHeight 15 = .ok (.iconst 0, 1) := by decide +kernel
theorem d_L_archivedHeight_16 : decode b_L_archivedHeight 16 = .ok (.ireturn, 1) := by decide +kernel
theorem cc_L_38 : CV "KiteLoggerLaw" 38 y_G_archivedHeight b_G_archivedHeight 2 (some .int) 1 := ⟨TT_in (i := 1059) (by decide +kernel) (by decide +kernel), TT_in (i := 1060) (by decide +kernel) (by decide +kernel), TT_in (i := 1061) (by decide +kernel) (by decide +kernel), TT_in (i := 88) (by decide +kernel) (by decide +kernel), TT_in (i := 1062) (by decide +kernel) (by decide +kernel), ⟨by decide +kernel, by decide +kernel, by decide +kernel⟩⟩
set_option maxHeartbeats 4000000 in
set_option maxRecDepth 100000 in
theorem c_L_archivedHeight (l : Launch) (hst : l.stackTraces = false) {w : Wc} (hw : WL w) (a1 : Int32) (M : Mem) : CtH l y_L_archivedHeight b_L_archivedHeight 4 [(0, 9, 12, 27)] (rmX 8) w [.ref (wad w 0), .int a1, .ref (wad w 156)] M (lwW [(2, 1)] (f_G_archivedHeight a1 M)) := by
  refine CtH.go (by decide) (L := [(0, .ref (wad w 0)), (1, .int a1), (2, .ref (wad w 156))]) rfl (Nat.le_of_ble_eq_true rfl) (fun p0 e s m args below meth c ht hnc g hret => ?_)
  refine G_aload_n g (pc := 0) 2 d_L_archivedHeight_0 rfl rfl ?_
  refine G_iconst g (pc := 1) (0 : Int32) d_L_archivedHeight_1 rfl ?_
  refine G_aload_n g (pc := 2) 0 d_L_archivedHeight_2 rfl rfl ?_
  refine G_iload_n g (pc := 3) 1 d_L_archivedHeight_3 rfl rfl ?_
  refine G_tryI g (pc := 4) (As := [.int a1]) (st := [.int 0, .ref (wad w 156)]) (o := lwO [(2, 1)]) cc_L_38 (c_G_archivedHeight l hst hw.1 a1 M) (hw.1.2 0 (Nat.le_of_ble_eq_true rfl)) (hw.1.k rfl) rfl (by decide) rfl ⟨(Nat.le_of_ble_eq_true rfl), (Nat.le_of_ble_eq_true rfl)⟩ ⟨(Nat.le_of_ble_eq_true rfl), (Nat.le_of_ble_eq_true rfl)⟩ (Nat.le_of_ble_eq_true rfl) d_L_archivedHeight_4 (fun x M1 => ?_) (fun u M1 r hr => ?_)
  · refine G_i2l g (pc := 7) d_L_archivedHeight_7 ?_
    refine G_last0 g (pc := 8) hw.2.2.1 (hw.1.k rfl) d_L_archivedHeight_8 ?_
    refine G_goto g (pc := 9) 15 d_L_archivedHeight_9 (by decide) ?_
    refine G_iconst g (pc := 15) (0 : Int32) d_L_archivedHeight_15 rfl ?_
    exact G_hireturn g (pc := 16) hret (Nat.le_of_ble_eq_true rfl) (Nat.le_of_ble_eq_true rfl) d_L_archivedHeight_16
  · have hu : u = 2 := by
      by_cases h0 : u = 2
      · exact h0
      · exact absurd hr (by rw [lwO_no1 h0]; exact fun z => nomatch z)
    subst hu
    refine ⟨12, Hx.fst g ht (by decide) (by decide) (TT_in (i := 1004) (by decide +kernel) (by decide +kernel)) (NW_in (i := 1018) (by decide +kernel) (by decide +kernel)), fun q9 => ?_⟩
    refine G_astore_n g (pc := 12) _ d_L_archivedHeight_12 rfl (Nat.le_of_ble_eq_true rfl) rfl ?_
    refine G_iconst g (pc := 13) (1 : Int32) d_L_archivedHeight_13 rfl ?_
    rw [show lwO [(2, 1)] (.inr 2) M1 = some ((1 : Int32), M1) from rfl]
    exact G_hireturn g (pc := 14) hret (Nat.le_of_ble_eq_true rfl) (Nat.le_of_ble_eq_true rfl) d_L_archivedHeight_14
theorem d_L_archivedGust_0 : decode b_L_archivedGust 0 = .ok (.aload_n 2, 1) := by decide +kernel
theorem d_L_archivedGust_1 : decode b_L_archivedGust 1 = .ok (.iconst 0, 1) := by decide +kernel
theorem d_L_archivedGust_2 : decode b_L_archivedGust 2 = .ok (.aload_n 0, 1) := by decide +kernel
theorem d_L_archivedGust_3 : decode b_L_archivedGust 3 = .ok (.iload_n 1, 1) := by decide +kernel
theorem d_L_archivedGust_4 : decode b_L_archivedGust 4 = .ok (.invokevirtual 41, 3) := by decide +kernel
theorem d_L_archivedGust_7 : decode b_L_archivedGust 7 = .ok (.i2l, 1) := by decide +kernel
theorem d_L_archivedGust_8 : decode b_L_archivedGust 8 = .ok (.lastore, 1) := by decide +kernel
theorem d_L_archivedGust_9 : decode b_L_archivedGust 9 = .ok (.goto 6, 3) := by decide +kernel
theorem d_L_archivedGust_12 : decode b_L_archivedGust 12 = .ok (.astore_n 3, 1) := by decide +kernel
theorem d_L_archivedGust_13 : decode b_L_archivedGust 13 = .ok (.iconst 1, 1) := by decide +kernel
theorem d_L_archivedGust_14 : decode b_L_archivedGust 14 = .ok (.ireturn, 1) := by decide +kernel
theorem d_L_archivedGust_15 : decode b_L_archivedGust 15 = .ok (.iconst 0, 1) := by decide +kernel
theorem d_L_archivedGust_16 : decode b_L_archivedGust 16 = .ok (.ireturn, 1) := by decide +kernel
theorem cc_L_41 : CV "KiteLoggerLaw" 41 y_G_archivedGust b_G_archivedGust 2 (some .int) 1 := ⟨TT_in (i := 1066) (by decide +kernel) (by decide +kernel), TT_in (i := 1067) (by decide +kernel) (by decide +kernel), TT_in (i := 1068) (by decide +kernel) (by decide +kernel), TT_in (i := 88) (by decide +kernel) (by decide +kernel), TT_in (i := 1069) (by decide +kernel) (by decide +kernel), ⟨by decide +kernel, by decide +kernel, by decide +kernel⟩⟩
set_option maxHeartbeats 4000000 in
set_option maxRecDepth 100000 in
theorem c_L_archivedGust (l : Launch) (hst : l.stackTraces = false) {w : Wc} (hw : WL w) (a1 : Int32) (M : Mem) : CtH l y_L_archivedGust b_L_archivedGust 4 [(0, 9, 12, 27)] (rmX 8) w [.ref (wad w 0), .int a1, .ref (wad w 156)] M (lwW [(2, 1)] (f_G_archivedGust a1 M)) := by
  refine CtH.go (by decide) (L := [(0, .ref (wad w 0)), (1, .int a1), (2, .ref (wad w 156))]) rfl (Nat.le_of_ble_eq_true rfl) (fun p0 e s m args below meth c ht hnc g hret => ?_)
  refine G_aload_n g (pc := 0) 2 d_L_archivedGust_0 rfl rfl ?_
  refine G_iconst g (pc := 1) (0 : Int32) d_L_archivedGust_1 rfl ?_
  refine G_aload_n g (pc := 2) 0 d_L_archivedGust_2 rfl rfl ?_
  refine G_iload_n g (pc := 3) 1 d_L_archivedGust_3 rfl rfl ?_
  refine G_tryI g (pc := 4) (As := [.int a1]) (st := [.int 0, .ref (wad w 156)]) (o := lwO [(2, 1)]) cc_L_41 (c_G_archivedGust l hst hw.1 a1 M) (hw.1.2 0 (Nat.le_of_ble_eq_true rfl)) (hw.1.k rfl) rfl (by decide) rfl ⟨(Nat.le_of_ble_eq_true rfl), (Nat.le_of_ble_eq_true rfl)⟩ ⟨(Nat.le_of_ble_eq_true rfl), (Nat.le_of_ble_eq_true rfl)⟩ (Nat.le_of_ble_eq_true rfl) d_L_archivedGust_4 (fun x M1 => ?_) (fun u M1 r hr => ?_)
  · refine G_i2l g (pc := 7) d_L_archivedGust_7 ?_
    refine G_last0 g (pc := 8) hw.2.2.1 (hw.1.k rfl) d_L_archivedGust_8 ?_
    refine G_goto g (pc := 9) 15 d_L_archivedGust_9 (by decide) ?_
    refine G_iconst g (pc := 15) (0 : Int32) d_L_archivedGust_15 rfl ?_
    exact G_hireturn g (pc := 16) hret (Nat.le_of_ble_eq_true rfl) (Nat.le_of_ble_eq_true rfl) d_L_archivedGust_16
  · have hu : u = 2 := by
      by_cases h0 : u = 2
      · exact h0
      · exact absurd hr (by rw [lwO_no1 h0]; exact fun z => nomatch z)
    subst hu
    refine ⟨12, Hx.fst g ht (by decide) (by decide) (TT_in (i := 1004) (by decide +kernel) (by decide +kernel)) (NW_in (i := 1018) (by decide +kernel) (by decide +kernel)), fun q9 => ?_⟩
    refine G_astore_n g (pc := 12) _ d_L_archivedGust_12 rfl (Nat.le_of_ble_eq_true rfl) rfl ?_
    refine G_iconst g (pc := 13) (1 : Int32) d_L_archivedGust_13 rfl ?_
    rw [show lwO [(2, 1)] (.inr 2) M1 = some ((1 : Int32), M1) from rfl]
    exact G_hireturn g (pc := 14) hret (Nat.le_of_ble_eq_true rfl) (Nat.le_of_ble_eq_true rfl) d_L_archivedGust_14
theorem d_L_meanGust_0 : decode b_L_meanGust 0 = .ok (.aload_n 2, 1) := by decide +kernel
theorem d_L_meanGust_1 : decode b_L_meanGust 1 = .ok (.iconst 0, 1) := by decide +kernel
theorem d_L_meanGust_2 : decode b_L_meanGust 2 = .ok (.aload_n 0, 1) := by decide +kernel
theorem d_L_meanGust_3 : decode b_L_meanGust 3 = .ok (.iload_n 1, 1) := by decide +kernel
theorem d_L_meanGust_4 : decode b_L_meanGust 4 = .ok (.invokevirtual 44, 3) := by decide +kernel
theorem d_L_meanGust_7 : decode b_L_meanGust 7 = .ok (.dastore, 1) := by decide +kernel
theorem d_L_meanGust_8 : decode b_L_meanGust 8 = .ok (.goto 6, 3) := by decide +kernel
theorem d_L_meanGust_11 : decode b_L_meanGust 11 = .ok (.astore_n 3, 1) := by decide +kernel
theorem d_L_meanGust_12 : decode b_L_meanGust 12 = .ok (.iconst 1, 1) := by decide +kernel
theorem d_L_meanGust_13 : decode b_L_meanGust 13 = .ok (.ireturn, 1) := by decide +kernel
theorem d_L_meanGust_14 : decode b_L_meanGust 14 = .ok (.iconst 0, 1) := by decide +kernel
theorem d_L_meanGust_15 : decode b_L_meanGust 15 = .ok (.ireturn, 1) := by decide +kernel
theorem cc_L_44 : CV "KiteLoggerLaw" 44 y_G_meanGust b_G_meanGust 4 (some .double) 1 := ⟨TT_in (i := 1073) (by decide +kernel) (by decide +kernel), TT_in (i := 1074) (by decide +kernel) (by decide +kernel), TT_in (i := 1075) (by decide +kernel) (by decide +kernel), TT_in (i := 88) (by decide +kernel) (by decide +kernel), TT_in (i := 1076) (by decide +kernel) (by decide +kernel), ⟨by decide +kernel, by decide +kernel, by decide +kernel⟩⟩
set_option maxHeartbeats 4000000 in
set_option maxRecDepth 100000 in
theorem c_L_meanGust (l : Launch) (hst : l.stackTraces = false) (N : Nat) {w : Wc} (hw : WL w) (a1 : Int32) (M : Mem) : CtH l y_L_meanGust b_L_meanGust 4 [(0, 8, 11, 13)] (rmX 8) w [.ref (wad w 0), .int a1, .ref (wad w 157)] M (lwD [(0, 1)] (f_G_meanGust N 146 a1 M)) := by
  refine CtH.go (by decide) (L := [(0, .ref (wad w 0)), (1, .int a1), (2, .ref (wad w 157))]) rfl (Nat.le_of_ble_eq_true rfl) (fun p0 e s m args below meth c ht hnc g hret => ?_)
  refine G_aload_n g (pc := 0) 2 d_L_meanGust_0 rfl rfl ?_
  refine G_iconst g (pc := 1) (0 : Int32) d_L_meanGust_1 rfl ?_
  refine G_aload_n g (pc := 2) 0 d_L_meanGust_2 rfl rfl ?_
  refine G_iload_n g (pc := 3) 1 d_L_meanGust_3 rfl rfl ?_
  refine G_tryD g (pc := 4) (As := [.int a1]) (st := [.int 0, .ref (wad w 157)]) (o := lwDO [(0, 1)]) cc_L_44 (c_G_meanGust l hst N hw.1 a1 M) (hw.1.2 0 (Nat.le_of_ble_eq_true rfl)) (hw.1.k rfl) rfl (by decide) rfl ⟨(Nat.le_of_ble_eq_true rfl), (Nat.le_of_ble_eq_true rfl)⟩ ⟨(Nat.le_of_ble_eq_true rfl), (Nat.le_of_ble_eq_true rfl)⟩ (Nat.le_of_ble_eq_true rfl) d_L_meanGust_4 (fun x M1 => ?_) (fun u M1 r hr => ?_)
  · refine G_dast0 g (pc := 7) hw.2.2.2 (hw.1.k rfl) d_L_meanGust_7 ?_
    refine G_goto g (pc := 8) 14 d_L_meanGust_8 (by decide) ?_
    refine G_iconst g (pc := 14) (0 : Int32) d_L_meanGust_14 rfl ?_
    exact G_hireturn g (pc := 15) hret (Nat.le_of_ble_eq_true rfl) (Nat.le_of_ble_eq_true rfl) d_L_meanGust_15
  · have hu : u = 0 := by
      by_cases h0 : u = 0
      · exact h0
      · exact absurd hr (by rw [lwDO_no1 h0]; exact fun z => nomatch z)
    subst hu
    refine ⟨11, Hx.fst g ht (by decide) (by decide) (TT_in (i := 777) (by decide +kernel) (by decide +kernel)) (NW_in (i := 788) (by decide +kernel) (by decide +kernel)), fun q9 => ?_⟩
    refine G_astore_n g (pc := 11) _ d_L_meanGust_11 rfl (Nat.le_of_ble_eq_true rfl) rfl ?_
    refine G_iconst g (pc := 12) (1 : Int32) d_L_meanGust_12 rfl ?_
    rw [show lwDO [(0, 1)] (.inr 0) M1 = some ((1 : Int32), M1) from rfl]
    exact G_hireturn g (pc := 13) hret (Nat.le_of_ble_eq_true rfl) (Nat.le_of_ble_eq_true rfl) d_L_meanGust_13
theorem d_L_heightAfter_0 : decode b_L_heightAfter 0 = .ok (.aload_n 2, 1) := by decide +kernel
theorem d_L_heightAfter_1 : decode b_L_heightAfter 1 = .ok (.iconst 0, 1) := by decide +kernel
theorem d_L_heightAfter_2 : decode b_L_heightAfter 2 = .ok (.aload_n 0, 1) := by decide +kernel
theorem d_L_heightAfter_3 : decode b_L_heightAfter 3 = .ok (.iload_n 1, 1) := by decide +kernel
theorem d_L_heightAfter_4 : decode b_L_heightAfter 4 = .ok (.invokevirtual 48, 3) := by decide +kernel
theorem d_L_heightAfter_7 : decode b_L_heightAfter 7 = .ok (.i2l, 1) := by decide +kernel
theorem d_L_heightAfter_8 : decode b_L_heightAfter 8 = .ok (.lastore, 1) := by decide +kernel
theorem d_L_heightAfter_9 : decode b_L_heightAfter 9 = .ok (.goto 6, 3) := by decide +kernel
theorem d_L_heightAfter_12 : decode b_L_heightAfter 12 = .ok (.astore_n 3, 1) := by decide +kernel
theorem d_L_heightAfter_13 : decode b_L_heightAfter 13 = .ok (.iconst 1, 1) := by decide +kernel
theorem d_L_heightAfter_14 : decode b_L_heightAfter 14 = .ok (.ireturn, 1) := by decide +kernel
theorem d_L_heightAfter_15 : decode b_L_heightAfter 15 = .ok (.iconst 0, 1) := by decide +kernel
theorem d_L_heightAfter_16 : decode b_L_heightAfter 16 = .ok (.ireturn, 1) := by decide +kernel
theorem cc_L_48 : CV "KiteLoggerLaw" 48 y_G_heightAfter b_G_heightAfter 3 (some .int) 1 := ⟨TT_in (i := 1085) (by decide +kernel) (by decide +kernel), TT_in (i := 1086) (by decide +kernel) (by decide +kernel), TT_in (i := 1087) (by decide +kernel) (by decide +kernel), TT_in (i := 88) (by decide +kernel) (by decide +kernel), TT_in (i := 1088) (by decide +kernel) (by decide +kernel), ⟨by decide +kernel, by decide +kernel, by decide +kernel⟩⟩
set_option maxHeartbeats 4000000 in
set_option maxRecDepth 100000 in
theorem c_L_heightAfter (l : Launch) (hst : l.stackTraces = false) (N : Nat) {w : Wc} (hw : WL w) (a1 : Int32) (M : Mem) : CtH l y_L_heightAfter b_L_heightAfter 4 [(0, 9, 12, 13)] (rmX 8) w [.ref (wad w 0), .int a1, .ref (wad w 156)] M (lwW [(0, 1)] (f_G_heightAfter N 146 a1 M)) := by
  refine CtH.go (by decide) (L := [(0, .ref (wad w 0)), (1, .int a1), (2, .ref (wad w 156))]) rfl (Nat.le_of_ble_eq_true rfl) (fun p0 e s m args below meth c ht hnc g hret => ?_)
  refine G_aload_n g (pc := 0) 2 d_L_heightAfter_0 rfl rfl ?_
  refine G_iconst g (pc := 1) (0 : Int32) d_L_heightAfter_1 rfl ?_
  refine G_aload_n g (pc := 2) 0 d_L_heightAfter_2 rfl rfl ?_
  refine G_iload_n g (pc := 3) 1 d_L_heightAfter_3 rfl rfl ?_
  refine G_tryI g (pc := 4) (As := [.int a1]) (st := [.int 0, .ref (wad w 156)]) (o := lwO [(0, 1)]) cc_L_48 (c_G_heightAfter l hst N hw.1 a1 M) (hw.1.2 0 (Nat.le_of_ble_eq_true rfl)) (hw.1.k rfl) rfl (by decide) rfl ⟨(Nat.le_of_ble_eq_true rfl), (Nat.le_of_ble_eq_true rfl)⟩ ⟨(Nat.le_of_ble_eq_true rfl), (Nat.le_of_ble_eq_true rfl)⟩ (Nat.le_of_ble_eq_true rfl) d_L_heightAfter_4 (fun x M1 => ?_) (fun u M1 r hr => ?_)
  · refine G_i2l g (pc := 7) d_L_heightAfter_7 ?_
    refine G_last0 g (pc := 8) hw.2.2.1 (hw.1.k rfl) d_L_heightAfter_8 ?_
    refine G_goto g (pc := 9) 15 d_L_heightAfter_9 (by decide) ?_
    refine G_iconst g (pc := 15) (0 : Int32) d_L_heightAfter_15 rfl ?_
    exact G_hireturn g (pc := 16) hret (Nat.le_of_ble_eq_true rfl) (Nat.le_of_ble_eq_true rfl) d_L_heightAfter_16
  · have hu : u = 0 := by
      by_cases h0 : u = 0
      · exact h0
      · exact absurd hr (by rw [lwO_no1 h0]; exact fun z => nomatch z)
    subst hu
    refine ⟨12, Hx.fst g ht (by decide) (by decide) (TT_in (i := 777) (by decide +kernel) (by decide +kernel)) (NW_in (i := 788) (by decide +kernel) (by decide +kernel)), fun q9 => ?_⟩
    refine G_astore_n g (pc := 12) _ d_L_heightAfter_12 rfl (Nat.le_of_ble_eq_true rfl) rfl ?_
    refine G_iconst g (pc := 13) (1 : Int32) d_L_heightAfter_13 rfl ?_
    rw [show lwO [(0, 1)] (.inr 0) M1 = some ((1 : Int32), M1) from rfl]
    exact G_hireturn g (pc := 14) hret (Nat.le_of_ble_eq_true rfl) (Nat.le_of_ble_eq_true rfl) d_L_heightAfter_14
theorem d_L_launch_0 : decode b_L_launch 0 = .ok (.aload_n 1, 1) := by decide +kernel
theorem d_L_launch_1 : decode b_L_launch 1 = .ok (.iconst 0, 1) := by decide +kernel
theorem d_L_launch_2 : decode b_L_launch 2 = .ok (.aload_n 0, 1) := by decide +kernel
theorem d_L_launch_3 : decode b_L_launch 3 = .ok (.invokevirtual 51, 3) := by decide +kernel
theorem d_L_launch_6 : decode b_L_launch 6 = .ok (.i2l, 1) := by decide +kernel
theorem d_L_launch_7 : decode b_L_launch 7 = .ok (.lastore, 1) := by decide +kernel
theorem d_L_launch_8 : decode b_L_launch 8 = .ok (.goto 6, 3) := by decide +kernel
theorem d_L_launch_11 : decode b_L_launch 11 = .ok (.astore_n 2, 1) := by decide +kernel
theorem d_L_launch_12 : decode b_L_launch 12 = .ok (.iconst 1, 1) := by decide +kernel
theorem d_L_launch_13 : decode b_L_launch 13 = .ok (.ireturn, 1) := by decide +kernel
theorem d_L_launch_14 : decode b_L_launch 14 = .ok (.iconst 0, 1) := by decide +kernel
theorem d_L_launch_15 : decode b_L_launch 15 = .ok (.ireturn, 1) := by decide +kernel
theorem cc_L_51 : CV "KiteLoggerLaw" 51 y_G_launch b_G_launch 1 (some .int) 0 := ⟨TT_in (i := 1093) (by decide +kernel) (by decide +kernel), TT_in (i := 1094) (by decide +kernel) (by decide +kernel), TT_in (i := 1095) (by decide +kernel) (by decide +kernel), TT_in (i := 88) (by decide +kernel) (by decide +kernel), TT_in (i := 1096) (by decide +kernel) (by decide +kernel), ⟨by decide +kernel, by decide +kernel, by decide +kernel⟩⟩
set_option maxHeartbeats 4000000 in
set_option maxRecDepth 100000 in
theorem c_L_launch (l : Launch) (hst : l.stackTraces = false) (N : Nat) {w : Wc} (hw : WL w) (M : Mem) : CtH l y_L_launch b_L_launch 3 [(0, 8, 11, 55)] (rmX 8) w [.ref (wad w 0), .ref (wad w 156)] M (lwW [(1, 1)] (f_G_launch N 146 M)) := by
  refine CtH.go (by decide) (L := [(0, .ref (wad w 0)), (1, .ref (wad w 156))]) rfl (Nat.le_of_ble_eq_true rfl) (fun p0 e s m args below meth c ht hnc g hret => ?_)
  refine G_aload_n g (pc := 0) 1 d_L_launch_0 rfl rfl ?_
  refine G_iconst g (pc := 1) (0 : Int32) d_L_launch_1 rfl ?_
  refine G_aload_n g (pc := 2) 0 d_L_launch_2 rfl rfl ?_
  refine G_tryI g (pc := 3) (As := []) (st := [.int 0, .ref (wad w 156)]) (o := lwO [(1, 1)]) cc_L_51 (c_G_launch l hst N hw.1 M) (hw.1.2 0 (Nat.le_of_ble_eq_true rfl)) (hw.1.k rfl) rfl (by decide) rfl ⟨(Nat.le_of_ble_eq_true rfl), (Nat.le_of_ble_eq_true rfl)⟩ ⟨(Nat.le_of_ble_eq_true rfl), (Nat.le_of_ble_eq_true rfl)⟩ (Nat.le_of_ble_eq_true rfl) d_L_launch_3 (fun x M1 => ?_) (fun u M1 r hr => ?_)
  · refine G_i2l g (pc := 6) d_L_launch_6 ?_
    refine G_last0 g (pc := 7) hw.2.2.1 (hw.1.k rfl) d_L_launch_7 ?_
    refine G_goto g (pc := 8) 14 d_L_launch_8 (by decide) ?_
    refine G_iconst g (pc := 14) (0 : Int32) d_L_launch_14 rfl ?_
    exact G_hireturn g (pc := 15) hret (Nat.le_of_ble_eq_true rfl) (Nat.le_of_ble_eq_true rfl) d_L_launch_15
  · have hu : u = 1 := by
      by_cases h0 : u = 1
      · exact h0
      · exact absurd hr (by rw [lwO_no1 h0]; exact fun z => nomatch z)
    subst hu
    refine ⟨11, Hx.fst g ht (by decide) (by decide) (TT_in (i := 1092) (by decide +kernel) (by decide +kernel)) (NW_in (i := 1116) (by decide +kernel) (by decide +kernel)), fun q9 => ?_⟩
    refine G_astore_n g (pc := 11) _ d_L_launch_11 rfl (Nat.le_of_ble_eq_true rfl) rfl ?_
    refine G_iconst g (pc := 12) (1 : Int32) d_L_launch_12 rfl ?_
    rw [show lwO [(1, 1)] (.inr 1) M1 = some ((1 : Int32), M1) from rfl]
    exact G_hireturn g (pc := 13) hret (Nat.le_of_ble_eq_true rfl) (Nat.le_of_ble_eq_true rfl) d_L_launch_13
theorem d_L_payOut_0 : decode b_L_payOut 0 = .ok (.aload_n 2, 1) := by decide +kernel
theorem d_L_payOut_1 : decode b_L_payOut 1 = .ok (.iconst 0, 1) := by decide +kernel
theorem d_L_payOut_2 : decode b_L_payOut 2 = .ok (.aload_n 0, 1) := by decide +kernel
theorem d_L_payOut_3 : decode b_L_payOut 3 = .ok (.iload_n 1, 1) := by decide +kernel
theorem d_L_payOut_4 : decode b_L_payOut 4 = .ok (.invokevirtual 57, 3) := by decide +kernel
theorem d_L_payOut_7 : decode b_L_payOut 7 = .ok (.i2l, 1) := by decide +kernel
theorem d_L_payOut_8 : decode b_L_payOut 8 = .ok (.lastore, 1) := by decide +kernel
theorem d_L_payOut_9 : decode b_L_payOut 9 = .ok (.goto 9, 3) := by decide +kernel
theorem d_L_payOut_12 : decode b_L_payOut 12 = .ok (.astore_n 3, 1) := by decide +kernel
theorem d_L_payOut_13 : decode b_L_payOut 13 = .ok (.iconst 1, 1) := by decide +kernel
theorem d_L_payOut_14 : decode b_L_payOut 14 = .ok (.ireturn, 1) := by decide +kernel
theorem d_L_payOut_15 : decode b_L_payOut 15 = .ok (.astore_n 3, 1) := by decide +kernel
theorem d_L_payOut_16 : decode b_L_payOut 16 = .ok (.iconst 2, 1) := by decide +kernel
theorem d_L_payOut_17 : decode b_L_payOut 17 = .ok (.ireturn, 1) := by decide +kernel
theorem d_L_payOut_18 : decode b_L_payOut 18 = .ok (.iconst 0, 1) := by decide +kernel
theorem d_L_payOut_19 : decode b_L_payOut 19 = .ok (.ireturn, 1) := by decide +kernel
theorem cc_L_57 : CV "KiteLoggerLaw" 57 y_G_payOut b_G_payOut 2 (some .int) 1 := ⟨TT_in (i := 1201) (by decide +kernel) (by decide +kernel), TT_in (i := 1202) (by decide +kernel) (by decide +kernel), TT_in (i := 1203) (by decide +kernel) (by decide +kernel), TT_in (i := 88) (by decide +kernel) (by decide +kernel), TT_in (i := 1204) (by decide +kernel) (by decide +kernel), ⟨by decide +kernel, by decide +kernel, by decide +kernel⟩⟩
set_option maxHeartbeats 4000000 in
set_option maxRecDepth 100000 in
theorem c_L_payOut (l : Launch) (hst : l.stackTraces = false) (N : Nat) {w : Wc} (hw : WL w) (a1 : Int32) (M : Mem) : CtH l y_L_payOut b_L_payOut 4 [(0, 9, 12, 13), (0, 9, 15, 55)] (rmX 8) w [.ref (wad w 0), .int a1, .ref (wad w 156)] M (lwW [(0, 1), (1, 2)] (f_G_payOut N 146 a1 M)) := by
  refine CtH.go (by decide) (L := [(0, .ref (wad w 0)), (1, .int a1), (2, .ref (wad w 156))]) rfl (Nat.le_of_ble_eq_true rfl) (fun p0 e s m args below meth c ht hnc g hret => ?_)
  refine G_aload_n g (pc := 0) 2 d_L_payOut_0 rfl rfl ?_
  refine G_iconst g (pc := 1) (0 : Int32) d_L_payOut_1 rfl ?_
  refine G_aload_n g (pc := 2) 0 d_L_payOut_2 rfl rfl ?_
  refine G_iload_n g (pc := 3) 1 d_L_payOut_3 rfl rfl ?_
  refine G_tryI g (pc := 4) (As := [.int a1]) (st := [.int 0, .ref (wad w 156)]) (o := lwO [(0, 1), (1, 2)]) cc_L_57 (c_G_payOut l hst N hw.1 a1 M) (hw.1.2 0 (Nat.le_of_ble_eq_true rfl)) (hw.1.k rfl) rfl (by decide) rfl ⟨(Nat.le_of_ble_eq_true rfl), (Nat.le_of_ble_eq_true rfl)⟩ ⟨(Nat.le_of_ble_eq_true rfl), (Nat.le_of_ble_eq_true rfl)⟩ (Nat.le_of_ble_eq_true rfl) d_L_payOut_4 (fun x M1 => ?_) (fun u M1 r hr => ?_)
  · refine G_i2l g (pc := 7) d_L_payOut_7 ?_
    refine G_last0 g (pc := 8) hw.2.2.1 (hw.1.k rfl) d_L_payOut_8 ?_
    refine G_goto g (pc := 9) 18 d_L_payOut_9 (by decide) ?_
    refine G_iconst g (pc := 18) (0 : Int32) d_L_payOut_18 rfl ?_
    exact G_hireturn g (pc := 19) hret (Nat.le_of_ble_eq_true rfl) (Nat.le_of_ble_eq_true rfl) d_L_payOut_19
  · have hu : u = 0 ∨ u = 1 := by
      by_cases h0 : u = 0
      · exact Or.inl h0
      · by_cases h1 : u = 1
        · exact Or.inr h1
        · exact absurd hr (by rw [lwO_no2 h0 h1]; exact fun z => nomatch z)
    rcases hu with rfl | rfl
    · refine ⟨12, Hx.fst g ht (by decide) (by decide) (TT_in (i := 777) (by decide +kernel) (by decide +kernel)) (NW_in (i := 788) (by decide +kernel) (by decide +kernel)), fun q9 => ?_⟩
      refine G_astore_n g (pc := 12) _ d_L_payOut_12 rfl (Nat.le_of_ble_eq_true rfl) rfl ?_
      refine G_iconst g (pc := 13) (1 : Int32) d_L_payOut_13 rfl ?_
      rw [show lwO [(0, 1), (1, 2)] (.inr 0) M1 = some ((1 : Int32), M1) from rfl]
      exact G_hireturn g (pc := 14) hret (Nat.le_of_ble_eq_true rfl) (Nat.le_of_ble_eq_true rfl) d_L_payOut_14
    · refine ⟨15, Hx.snd g hnc ht (by decide) (TT_in (i := 777) (by decide +kernel) (by decide +kernel)) (TT_in (i := 1092) (by decide +kernel) (by decide +kernel)) (NW_in (i := 1116) (by decide +kernel) (by decide +kernel)), fun q9 => ?_⟩
      refine G_astore_n g (pc := 15) _ d_L_payOut_15 rfl (Nat.le_of_ble_eq_true rfl) rfl ?_
      refine G_iconst g (pc := 16) (2 : Int32) d_L_payOut_16 rfl ?_
      rw [show lwO [(0, 1), (1, 2)] (.inr 1) M1 = some ((2 : Int32), M1) from rfl]
      exact G_hireturn g (pc := 17) hret (Nat.le_of_ble_eq_true rfl) (Nat.le_of_ble_eq_true rfl) d_L_payOut_17
theorem d_L_reelIn_0 : decode b_L_reelIn 0 = .ok (.aload_n 2, 1) := by decide +kernel
theorem d_L_reelIn_1 : decode b_L_reelIn 1 = .ok (.iconst 0, 1) := by decide +kernel
theorem d_L_reelIn_2 : decode b_L_reelIn 2 = .ok (.aload_n 0, 1) := by decide +kernel
theorem d_L_reelIn_3 : decode b_L_reelIn 3 = .ok (.iload_n 1, 1) := by decide +kernel
theorem d_L_reelIn_4 : decode b_L_reelIn 4 = .ok (.invokevirtual 60, 3) := by decide +kernel
theorem d_L_reelIn_7 : decode b_L_reelIn 7 = .ok (.i2l, 1) := by decide +kernel
theorem d_L_reelIn_8 : decode b_L_reelIn 8 = .ok (.lastore, 1) := by decide +kernel
theorem d_L_reelIn_9 : decode b_L_reelIn 9 = .ok (.goto 9, 3) := by decide +kernel
theorem d_L_reelIn_12 : decode b_L_reelIn 12 = .ok (.astore_n 3, 1) := by decide +kernel
theorem d_L_reelIn_13 : decode b_L_reelIn 13 = .ok (.iconst 1, 1) := by decide +kernel
theorem d_L_reelIn_14 : decode b_L_reelIn 14 = .ok (.ireturn, 1) := by decide +kernel
theorem d_L_reelIn_15 : decode b_L_reelIn 15 = .ok (.astore_n 3, 1) := by decide +kernel
theorem d_L_reelIn_16 : decode b_L_reelIn 16 = .ok (.iconst 2, 1) := by decide +kernel
theorem d_L_reelIn_17 : decode b_L_reelIn 17 = .ok (.ireturn, 1) := by decide +kernel
theorem d_L_reelIn_18 : decode b_L_reelIn 18 = .ok (.iconst 0, 1) := by decide +kernel
theorem d_L_reelIn_19 : decode b_L_reelIn 19 = .ok (.ireturn, 1) := by decide +kernel
theorem cc_L_60 : CV "KiteLoggerLaw" 60 y_G_reelIn b_G_reelIn 2 (some .int) 1 := ⟨TT_in (i := 1208) (by decide +kernel) (by decide +kernel), TT_in (i := 1209) (by decide +kernel) (by decide +kernel), TT_in (i := 1210) (by decide +kernel) (by decide +kernel), TT_in (i := 88) (by decide +kernel) (by decide +kernel), TT_in (i := 1211) (by decide +kernel) (by decide +kernel), ⟨by decide +kernel, by decide +kernel, by decide +kernel⟩⟩
set_option maxHeartbeats 4000000 in
set_option maxRecDepth 100000 in
theorem c_L_reelIn (l : Launch) (hst : l.stackTraces = false) (N : Nat) {w : Wc} (hw : WL w) (a1 : Int32) (M : Mem) : CtH l y_L_reelIn b_L_reelIn 4 [(0, 9, 12, 13), (0, 9, 15, 55)] (rmX 8) w [.ref (wad w 0), .int a1, .ref (wad w 156)] M (lwW [(0, 1), (1, 2)] (f_G_reelIn N 146 a1 M)) := by
  refine CtH.go (by decide) (L := [(0, .ref (wad w 0)), (1, .int a1), (2, .ref (wad w 156))]) rfl (Nat.le_of_ble_eq_true rfl) (fun p0 e s m args below meth c ht hnc g hret => ?_)
  refine G_aload_n g (pc := 0) 2 d_L_reelIn_0 rfl rfl ?_
  refine G_iconst g (pc := 1) (0 : Int32) d_L_reelIn_1 rfl ?_
  refine G_aload_n g (pc := 2) 0 d_L_reelIn_2 rfl rfl ?_
  refine G_iload_n g (pc := 3) 1 d_L_reelIn_3 rfl rfl ?_
  refine G_tryI g (pc := 4) (As := [.int a1]) (st := [.int 0, .ref (wad w 156)]) (o := lwO [(0, 1), (1, 2)]) cc_L_60 (c_G_reelIn l hst N hw.1 a1 M) (hw.1.2 0 (Nat.le_of_ble_eq_true rfl)) (hw.1.k rfl) rfl (by decide) rfl ⟨(Nat.le_of_ble_eq_true rfl), (Nat.le_of_ble_eq_true rfl)⟩ ⟨(Nat.le_of_ble_eq_true rfl), (Nat.le_of_ble_eq_true rfl)⟩ (Nat.le_of_ble_eq_true rfl) d_L_reelIn_4 (fun x M1 => ?_) (fun u M1 r hr => ?_)
  · refine G_i2l g (pc := 7) d_L_reelIn_7 ?_
    refine G_last0 g (pc := 8) hw.2.2.1 (hw.1.k rfl) d_L_reelIn_8 ?_
    refine G_goto g (pc := 9) 18 d_L_reelIn_9 (by decide) ?_
    refine G_iconst g (pc := 18) (0 : Int32) d_L_reelIn_18 rfl ?_
    exact G_hireturn g (pc := 19) hret (Nat.le_of_ble_eq_true rfl) (Nat.le_of_ble_eq_true rfl) d_L_reelIn_19
  · have hu : u = 0 ∨ u = 1 := by
      by_cases h0 : u = 0
      · exact Or.inl h0
      · by_cases h1 : u = 1
        · exact Or.inr h1
        · exact absurd hr (by rw [lwO_no2 h0 h1]; exact fun z => nomatch z)
    rcases hu with rfl | rfl
    · refine ⟨12, Hx.fst g ht (by decide) (by decide) (TT_in (i := 777) (by decide +kernel) (by decide +kernel)) (NW_in (i := 788) (by decide +kernel) (by decide +kernel)), fun q9 => ?_⟩
      refine G_astore_n g (pc := 12) _ d_L_reelIn_12 rfl (Nat.le_of_ble_eq_true rfl) rfl ?_
      refine G_iconst g (pc := 13) (1 : Int32) d_L_reelIn_13 rfl ?_
      rw [show lwO [(0, 1), (1, 2)] (.inr 0) M1 = some ((1 : Int32), M1) from rfl]
      exact G_hireturn g (pc := 14) hret (Nat.le_of_ble_eq_true rfl) (Nat.le_of_ble_eq_true rfl) d_L_reelIn_14
    · refine ⟨15, Hx.snd g hnc ht (by decide) (TT_in (i := 777) (by decide +kernel) (by decide +kernel)) (TT_in (i := 1092) (by decide +kernel) (by decide +kernel)) (NW_in (i := 1116) (by decide +kernel) (by decide +kernel)), fun q9 => ?_⟩
      refine G_astore_n g (pc := 15) _ d_L_reelIn_15 rfl (Nat.le_of_ble_eq_true rfl) rfl ?_
      refine G_iconst g (pc := 16) (2 : Int32) d_L_reelIn_16 rfl ?_
      rw [show lwO [(0, 1), (1, 2)] (.inr 1) M1 = some ((2 : Int32), M1) from rfl]
      exact G_hireturn g (pc := 17) hret (Nat.le_of_ble_eq_true rfl) (Nat.le_of_ble_eq_true rfl) d_L_reelIn_17
theorem d_L_replaceBridle_0 : decode b_L_replaceBridle 0 = .ok (.aload_n 3, 1) := by decide +kernel
theorem d_L_replaceBridle_1 : decode b_L_replaceBridle 1 = .ok (.iconst 0, 1) := by decide +kernel
theorem d_L_replaceBridle_2 : decode b_L_replaceBridle 2 = .ok (.aload_n 0, 1) := by decide +kernel
theorem d_L_replaceBridle_3 : decode b_L_replaceBridle 3 = .ok (.iload_n 1, 1) := by decide +kernel
theorem d_L_replaceBridle_4 : decode b_L_replaceBridle 4 = .ok (.iload_n 2, 1) := by decide +kernel
theorem d_L_replaceBridle_5 : decode b_L_replaceBridle 5 = .ok (.invokevirtual 63, 3) := by decide +kernel
theorem d_L_replaceBridle_8 : decode b_L_replaceBridle 8 = .ok (.i2l, 1) := by decide +kernel
theorem d_L_replaceBridle_9 : decode b_L_replaceBridle 9 = .ok (.lastore, 1) := by decide +kernel
theorem d_L_replaceBridle_10 : decode b_L_replaceBridle 10 = .ok (.goto 11, 3) := by decide +kernel
theorem d_L_replaceBridle_13 : decode b_L_replaceBridle 13 = .ok (.astore 4, 2) := by decide +kernel
theorem d_L_replaceBridle_15 : decode b_L_replaceBridle 15 = .ok (.iconst 1, 1) := by decide +kernel
theorem d_L_replaceBridle_16 : decode b_L_replaceBridle 16 = .ok (.ireturn, 1) := by decide +kernel
theorem d_L_replaceBridle_17 : decode b_L_replaceBridle 17 = .ok (.astore 4, 2) := by decide +kernel
theorem d_L_replaceBridle_19 : decode b_L_replaceBridle 19 = .ok (.iconst 2, 1) := by decide +kernel
theorem d_L_replaceBridle_20 : decode b_L_replaceBridle 20 = .ok (.ireturn, 1) := by decide +kernel
theorem d_L_replaceBridle_21 : decode b_L_replaceBridle 21 = .ok (.iconst 0, 1) := by decide +kernel
theorem d_L_replaceBridle_22 : decode b_L_replaceBridle 22 = .ok (.ireturn, 1) := by decide +kernel
theorem cc_L_63 : CV "KiteLoggerLaw" 63 y_G_replaceBridle b_G_replaceBridle 3 (some .int) 2 := ⟨TT_in (i := 1215) (by decide +kernel) (by decide +kernel), TT_in (i := 1216) (by decide +kernel) (by decide +kernel), TT_in (i := 1217) (by decide +kernel) (by decide +kernel), TT_in (i := 88) (by decide +kernel) (by decide +kernel), TT_in (i := 1218) (by decide +kernel) (by decide +kernel), ⟨by decide +kernel, by decide +kernel, by decide +kernel⟩⟩
set_option maxHeartbeats 4000000 in
set_option maxRecDepth 100000 in
theorem c_L_replaceBridle (l : Launch) (hst : l.stackTraces = false) (N : Nat) {w : Wc} (hw : WL w) (a1 : Int32) (a2 : Int32) (M : Mem) : CtH l y_L_replaceBridle b_L_replaceBridle 5 [(0, 10, 13, 13), (0, 10, 17, 55)] (rmX 8) w [.ref (wad w 0), .int a1, .int a2, .ref (wad w 156)] M (lwW [(0, 1), (1, 2)] (f_G_replaceBridle N 146 a1 a2 M)) := by
  refine CtH.go (by decide) (L := [(0, .ref (wad w 0)), (1, .int a1), (2, .int a2), (3, .ref (wad w 156))]) rfl (Nat.le_of_ble_eq_true rfl) (fun p0 e s m args below meth c ht hnc g hret => ?_)
  refine G_aload_n g (pc := 0) 3 d_L_replaceBridle_0 rfl rfl ?_
  refine G_iconst g (pc := 1) (0 : Int32) d_L_replaceBridle_1 rfl ?_
  refine G_aload_n g (pc := 2) 0 d_L_replaceBridle_2 rfl rfl ?_
  refine G_iload_n g (pc := 3) 1 d_L_replaceBridle_3 rfl rfl ?_
  refine G_iload_n g (pc := 4) 2 d_L_replaceBridle_4 rfl rfl ?_
  refine G_tryI g (pc := 5) (As := [.int a1, .int a2]) (st := [.int 0, .ref (wad w 156)]) (o := lwO [(0, 1), (1, 2)]) cc_L_63 (c_G_replaceBridle l hst N hw.1 a1 a2 M) (hw.1.2 0 (Nat.le_of_ble_eq_true rfl)) (hw.1.k rfl) rfl (by decide) rfl ⟨(Nat.le_of_ble_eq_true rfl), (Nat.le_of_ble_eq_true rfl)⟩ ⟨(Nat.le_of_ble_eq_true rfl), (Nat.le_of_ble_eq_true rfl)⟩ (Nat.le_of_ble_eq_true rfl) d_L_replaceBridle_5 (fun x M1 => ?_) (fun u M1 r hr => ?_)
  · refine G_i2l g (pc := 8) d_L_replaceBridle_8 ?_
    refine G_last0 g (pc := 9) hw.2.2.1 (hw.1.k rfl) d_L_replaceBridle_9 ?_
    refine G_goto g (pc := 10) 21 d_L_replaceBridle_10 (by decide) ?_
    refine G_iconst g (pc := 21) (0 : Int32) d_L_replaceBridle_21 rfl ?_
    exact G_hireturn g (pc := 22) hret (Nat.le_of_ble_eq_true rfl) (Nat.le_of_ble_eq_true rfl) d_L_replaceBridle_22
  · have hu : u = 0 ∨ u = 1 := by
      by_cases h0 : u = 0
      · exact Or.inl h0
      · by_cases h1 : u = 1
        · exact Or.inr h1
        · exact absurd hr (by rw [lwO_no2 h0 h1]; exact fun z => nomatch z)
    rcases hu with rfl | rfl
    · refine ⟨13, Hx.fst g ht (by decide) (by decide) (TT_in (i := 777) (by decide +kernel) (by decide +kernel)) (NW_in (i := 788) (by decide +kernel) (by decide +kernel)), fun q9 => ?_⟩
      refine G_astore g (pc := 13) _ d_L_replaceBridle_13 (Nat.le_of_ble_eq_true rfl) rfl ?_
      refine G_iconst g (pc := 15) (1 : Int32) d_L_replaceBridle_15 rfl ?_
      rw [show lwO [(0, 1), (1, 2)] (.inr 0) M1 = some ((1 : Int32), M1) from rfl]
      exact G_hireturn g (pc := 16) hret (Nat.le_of_ble_eq_true rfl) (Nat.le_of_ble_eq_true rfl) d_L_replaceBridle_16
    · refine ⟨17, Hx.snd g hnc ht (by decide) (TT_in (i := 777) (by decide +kernel) (by decide +kernel)) (TT_in (i := 1092) (by decide +kernel) (by decide +kernel)) (NW_in (i := 1116) (by decide +kernel) (by decide +kernel)), fun q9 => ?_⟩
      refine G_astore g (pc := 17) _ d_L_replaceBridle_17 (Nat.le_of_ble_eq_true rfl) rfl ?_
      refine G_iconst g (pc := 19) (2 : Int32) d_L_replaceBridle_19 rfl ?_
      rw [show lwO [(0, 1), (1, 2)] (.inr 1) M1 = some ((2 : Int32), M1) from rfl]
      exact G_hireturn g (pc := 20) hret (Nat.le_of_ble_eq_true rfl) (Nat.le_of_ble_eq_true rfl) d_L_replaceBridle_20
theorem d_L_setInterval_0 : decode b_L_setInterval 0 = .ok (.aload_n 2, 1) := by decide +kernel
theorem d_L_setInterval_1 : decode b_L_setInterval 1 = .ok (.iconst 0, 1) := by decide +kernel
theorem d_L_setInterval_2 : decode b_L_setInterval 2 = .ok (.aload_n 0, 1) := by decide +kernel
theorem d_L_setInterval_3 : decode b_L_setInterval 3 = .ok (.iload_n 1, 1) := by decide +kernel
theorem d_L_setInterval_4 : decode b_L_setInterval 4 = .ok (.invokevirtual 67, 3) := by decide +kernel
theorem d_L_setInterval_7 : decode b_L_setInterval 7 = .ok (.i2l, 1) := by decide +kernel
theorem d_L_setInterval_8 : decode b_L_setInterval 8 = .ok (.lastore, 1) := by decide +kernel
theorem d_L_setInterval_9 : decode b_L_setInterval 9 = .ok (.goto 6, 3) := by decide +kernel
theorem d_L_setInterval_12 : decode b_L_setInterval 12 = .ok (.astore_n 3, 1) := by decide +kernel
theorem d_L_setInterval_13 : decode b_L_setInterval 13 = .ok (.iconst 1, 1) := by decide +kernel
theorem d_L_setInterval_14 : decode b_L_setInterval 14 = .ok (.ireturn, 1) := by decide +kernel
theorem d_L_setInterval_15 : decode b_L_setInterval 15 = .ok (.iconst 0, 1) := by decide +kernel
theorem d_L_setInterval_16 : decode b_L_setInterval 16 = .ok (.ireturn, 1) := by decide +kernel
theorem cc_L_67 : CV "KiteLoggerLaw" 67 y_G_setInterval b_G_setInterval 2 (some .int) 1 := ⟨TT_in (i := 1222) (by decide +kernel) (by decide +kernel), TT_in (i := 1223) (by decide +kernel) (by decide +kernel), TT_in (i := 1224) (by decide +kernel) (by decide +kernel), TT_in (i := 88) (by decide +kernel) (by decide +kernel), TT_in (i := 1225) (by decide +kernel) (by decide +kernel), ⟨by decide +kernel, by decide +kernel, by decide +kernel⟩⟩
set_option maxHeartbeats 4000000 in
set_option maxRecDepth 100000 in
theorem c_L_setInterval (l : Launch) (hst : l.stackTraces = false) (N : Nat) {w : Wc} (hw : WL w) (a1 : Int32) (M : Mem) : CtH l y_L_setInterval b_L_setInterval 4 [(0, 9, 12, 13)] (rmX 8) w [.ref (wad w 0), .int a1, .ref (wad w 156)] M (lwW [(0, 1)] (f_G_setInterval N 146 a1 M)) := by
  refine CtH.go (by decide) (L := [(0, .ref (wad w 0)), (1, .int a1), (2, .ref (wad w 156))]) rfl (Nat.le_of_ble_eq_true rfl) (fun p0 e s m args below meth c ht hnc g hret => ?_)
  refine G_aload_n g (pc := 0) 2 d_L_setInterval_0 rfl rfl ?_
  refine G_iconst g (pc := 1) (0 : Int32) d_L_setInterval_1 rfl ?_
  refine G_aload_n g (pc := 2) 0 d_L_setInterval_2 rfl rfl ?_
  refine G_iload_n g (pc := 3) 1 d_L_setInterval_3 rfl rfl ?_
  refine G_tryI g (pc := 4) (As := [.int a1]) (st := [.int 0, .ref (wad w 156)]) (o := lwO [(0, 1)]) cc_L_67 (c_G_setInterval l hst N hw.1 a1 M) (hw.1.2 0 (Nat.le_of_ble_eq_true rfl)) (hw.1.k rfl) rfl (by decide) rfl ⟨(Nat.le_of_ble_eq_true rfl), (Nat.le_of_ble_eq_true rfl)⟩ ⟨(Nat.le_of_ble_eq_true rfl), (Nat.le_of_ble_eq_true rfl)⟩ (Nat.le_of_ble_eq_true rfl) d_L_setInterval_4 (fun x M1 => ?_) (fun u M1 r hr => ?_)
  · refine G_i2l g (pc := 7) d_L_setInterval_7 ?_
    refine G_last0 g (pc := 8) hw.2.2.1 (hw.1.k rfl) d_L_setInterval_8 ?_
    refine G_goto g (pc := 9) 15 d_L_setInterval_9 (by decide) ?_
    refine G_iconst g (pc := 15) (0 : Int32) d_L_setInterval_15 rfl ?_
    exact G_hireturn g (pc := 16) hret (Nat.le_of_ble_eq_true rfl) (Nat.le_of_ble_eq_true rfl) d_L_setInterval_16
  · have hu : u = 0 := by
      by_cases h0 : u = 0
      · exact h0
      · exact absurd hr (by rw [lwO_no1 h0]; exact fun z => nomatch z)
    subst hu
    refine ⟨12, Hx.fst g ht (by decide) (by decide) (TT_in (i := 777) (by decide +kernel) (by decide +kernel)) (NW_in (i := 788) (by decide +kernel) (by decide +kernel)), fun q9 => ?_⟩
    refine G_astore_n g (pc := 12) _ d_L_setInterval_12 rfl (Nat.le_of_ble_eq_true rfl) rfl ?_
    refine G_iconst g (pc := 13) (1 : Int32) d_L_setInterval_13 rfl ?_
    rw [show lwO [(0, 1)] (.inr 0) M1 = some ((1 : Int32), M1) from rfl]
    exact G_hireturn g (pc := 14) hret (Nat.le_of_ble_eq_true rfl) (Nat.le_of_ble_eq_true rfl) d_L_setInterval_14
theorem d_L_search_0 : decode b_L_search 0 = .ok (.aload_n 2, 1) := by decide +kernel
theorem d_L_search_1 : decode b_L_search 1 = .ok (.iconst 0, 1) := by decide +kernel
theorem d_L_search_2 : decode b_L_search 2 = .ok (.aload_n 0, 1) := by decide +kernel
theorem d_L_search_3 : decode b_L_search 3 = .ok (.iload_n 1, 1) := by decide +kernel
theorem d_L_search_4 : decode b_L_search 4 = .ok (.invokevirtual 70, 3) := by decide +kernel
theorem d_L_search_7 : decode b_L_search 7 = .ok (.i2l, 1) := by decide +kernel
theorem d_L_search_8 : decode b_L_search 8 = .ok (.lastore, 1) := by decide +kernel
theorem d_L_search_9 : decode b_L_search 9 = .ok (.goto 9, 3) := by decide +kernel
theorem d_L_search_12 : decode b_L_search 12 = .ok (.astore_n 3, 1) := by decide +kernel
theorem d_L_search_13 : decode b_L_search 13 = .ok (.iconst 1, 1) := by decide +kernel
theorem d_L_search_14 : decode b_L_search 14 = .ok (.ireturn, 1) := by decide +kernel
theorem d_L_search_15 : decode b_L_search 15 = .ok (.astore_n 3, 1) := by decide +kernel
theorem d_L_search_16 : decode b_L_search 16 = .ok (.iconst 2, 1) := by decide +kernel
theorem d_L_search_17 : decode b_L_search 17 = .ok (.ireturn, 1) := by decide +kernel
theorem d_L_search_18 : decode b_L_search 18 = .ok (.iconst 0, 1) := by decide +kernel
theorem d_L_search_19 : decode b_L_search 19 = .ok (.ireturn, 1) := by decide +kernel
theorem cc_L_70 : CV "KiteLoggerLaw" 70 y_G_search b_G_search 2 (some .int) 1 := ⟨TT_in (i := 1229) (by decide +kernel) (by decide +kernel), TT_in (i := 1230) (by decide +kernel) (by decide +kernel), TT_in (i := 1231) (by decide +kernel) (by decide +kernel), TT_in (i := 88) (by decide +kernel) (by decide +kernel), TT_in (i := 1232) (by decide +kernel) (by decide +kernel), ⟨by decide +kernel, by decide +kernel, by decide +kernel⟩⟩
set_option maxHeartbeats 4000000 in
set_option maxRecDepth 100000 in
theorem c_L_search (l : Launch) (hst : l.stackTraces = false) (N : Nat) {w : Wc} (hw : WL w) (a1 : Int32) (M : Mem) : CtH l y_L_search b_L_search 4 [(0, 9, 12, 13), (0, 9, 15, 55)] (rmX 8) w [.ref (wad w 0), .int a1, .ref (wad w 156)] M (lwW [(0, 1), (1, 2)] (f_G_search N 146 a1 M)) := by
  refine CtH.go (by decide) (L := [(0, .ref (wad w 0)), (1, .int a1), (2, .ref (wad w 156))]) rfl (Nat.le_of_ble_eq_true rfl) (fun p0 e s m args below meth c ht hnc g hret => ?_)
  refine G_aload_n g (pc := 0) 2 d_L_search_0 rfl rfl ?_
  refine G_iconst g (pc := 1) (0 : Int32) d_L_search_1 rfl ?_
  refine G_aload_n g (pc := 2) 0 d_L_search_2 rfl rfl ?_
  refine G_iload_n g (pc := 3) 1 d_L_search_3 rfl rfl ?_
  refine G_tryI g (pc := 4) (As := [.int a1]) (st := [.int 0, .ref (wad w 156)]) (o := lwO [(0, 1), (1, 2)]) cc_L_70 (c_G_search l hst N hw.1 a1 M) (hw.1.2 0 (Nat.le_of_ble_eq_true rfl)) (hw.1.k rfl) rfl (by decide) rfl ⟨(Nat.le_of_ble_eq_true rfl), (Nat.le_of_ble_eq_true rfl)⟩ ⟨(Nat.le_of_ble_eq_true rfl), (Nat.le_of_ble_eq_true rfl)⟩ (Nat.le_of_ble_eq_true rfl) d_L_search_4 (fun x M1 => ?_) (fun u M1 r hr => ?_)
  · refine G_i2l g (pc := 7) d_L_search_7 ?_
    refine G_last0 g (pc := 8) hw.2.2.1 (hw.1.k rfl) d_L_search_8 ?_
    refine G_goto g (pc := 9) 18 d_L_search_9 (by decide) ?_
    refine G_iconst g (pc := 18) (0 : Int32) d_L_search_18 rfl ?_
    exact G_hireturn g (pc := 19) hret (Nat.le_of_ble_eq_true rfl) (Nat.le_of_ble_eq_true rfl) d_L_search_19
  · have hu : u = 0 ∨ u = 1 := by
      by_cases h0 : u = 0
      · exact Or.inl h0
      · by_cases h1 : u = 1
        · exact Or.inr h1
        · exact absurd hr (by rw [lwO_no2 h0 h1]; exact fun z => nomatch z)
    rcases hu with rfl | rfl
    · refine ⟨12, Hx.fst g ht (by decide) (by decide) (TT_in (i := 777) (by decide +kernel) (by decide +kernel)) (NW_in (i := 788) (by decide +kernel) (by decide +kernel)), fun q9 => ?_⟩
      refine G_astore_n g (pc := 12) _ d_L_search_12 rfl (Nat.le_of_ble_eq_true rfl) rfl ?_
      refine G_iconst g (pc := 13) (1 : Int32) d_L_search_13 rfl ?_
      rw [show lwO [(0, 1), (1, 2)] (.inr 0) M1 = some ((1 : Int32), M1) from rfl]
      exact G_hireturn g (pc := 14) hret (Nat.le_of_ble_eq_true rfl) (Nat.le_of_ble_eq_true rfl) d_L_search_14
    · refine ⟨15, Hx.snd g hnc ht (by decide) (TT_in (i := 777) (by decide +kernel) (by decide +kernel)) (TT_in (i := 1092) (by decide +kernel) (by decide +kernel)) (NW_in (i := 1116) (by decide +kernel) (by decide +kernel)), fun q9 => ?_⟩
      refine G_astore_n g (pc := 15) _ d_L_search_15 rfl (Nat.le_of_ble_eq_true rfl) rfl ?_
      refine G_iconst g (pc := 16) (2 : Int32) d_L_search_16 rfl ?_
      rw [show lwO [(0, 1), (1, 2)] (.inr 1) M1 = some ((2 : Int32), M1) from rfl]
      exact G_hireturn g (pc := 17) hret (Nat.le_of_ble_eq_true rfl) (Nat.le_of_ble_eq_true rfl) d_L_search_17
theorem d_L_archive_0 : decode b_L_archive 0 = .ok (.aload_n 1, 1) := by decide +kernel
theorem d_L_archive_1 : decode b_L_archive 1 = .ok (.iconst 0, 1) := by decide +kernel
theorem d_L_archive_2 : decode b_L_archive 2 = .ok (.aload_n 0, 1) := by decide +kernel
theorem d_L_archive_3 : decode b_L_archive 3 = .ok (.invokevirtual 73, 3) := by decide +kernel
theorem d_L_archive_6 : decode b_L_archive 6 = .ok (.i2l, 1) := by decide +kernel
theorem d_L_archive_7 : decode b_L_archive 7 = .ok (.lastore, 1) := by decide +kernel
theorem d_L_archive_8 : decode b_L_archive 8 = .ok (.goto 6, 3) := by decide +kernel
theorem d_L_archive_11 : decode b_L_archive 11 = .ok (.astore_n 2, 1) := by decide +kernel
theorem d_L_archive_12 : decode b_L_archive 12 = .ok (.iconst 1, 1) := by decide +kernel
theorem d_L_archive_13 : decode b_L_archive 13 = .ok (.ireturn, 1) := by decide +kernel
theorem d_L_archive_14 : decode b_L_archive 14 = .ok (.iconst 0, 1) := by decide +kernel
theorem d_L_archive_15 : decode b_L_archive 15 = .ok (.ireturn, 1) := by decide +kernel
theorem cc_L_73 : CV "KiteLoggerLaw" 73 y_G_archive b_G_archive 1 (some .int) 0 := ⟨TT_in (i := 1236) (by decide +kernel) (by decide +kernel), TT_in (i := 1237) (by decide +kernel) (by decide +kernel), TT_in (i := 1238) (by decide +kernel) (by decide +kernel), TT_in (i := 88) (by decide +kernel) (by decide +kernel), TT_in (i := 1239) (by decide +kernel) (by decide +kernel), ⟨by decide +kernel, by decide +kernel, by decide +kernel⟩⟩
set_option maxHeartbeats 4000000 in
set_option maxRecDepth 100000 in
theorem c_L_archive (l : Launch) (hst : l.stackTraces = false) (N : Nat) {w : Wc} (hw : WL w) (M : Mem) : CtH l y_L_archive b_L_archive 3 [(0, 8, 11, 55)] (rmX 8) w [.ref (wad w 0), .ref (wad w 156)] M (lwW [(1, 1)] (f_G_archive N 146 M)) := by
  refine CtH.go (by decide) (L := [(0, .ref (wad w 0)), (1, .ref (wad w 156))]) rfl (Nat.le_of_ble_eq_true rfl) (fun p0 e s m args below meth c ht hnc g hret => ?_)
  refine G_aload_n g (pc := 0) 1 d_L_archive_0 rfl rfl ?_
  refine G_iconst g (pc := 1) (0 : Int32) d_L_archive_1 rfl ?_
  refine G_aload_n g (pc := 2) 0 d_L_archive_2 rfl rfl ?_
  refine G_tryI g (pc := 3) (As := []) (st := [.int 0, .ref (wad w 156)]) (o := lwO [(1, 1)]) cc_L_73 (c_G_archive l hst N hw.1 M) (hw.1.2 0 (Nat.le_of_ble_eq_true rfl)) (hw.1.k rfl) rfl (by decide) rfl ⟨(Nat.le_of_ble_eq_true rfl), (Nat.le_of_ble_eq_true rfl)⟩ ⟨(Nat.le_of_ble_eq_true rfl), (Nat.le_of_ble_eq_true rfl)⟩ (Nat.le_of_ble_eq_true rfl) d_L_archive_3 (fun x M1 => ?_) (fun u M1 r hr => ?_)
  · refine G_i2l g (pc := 6) d_L_archive_6 ?_
    refine G_last0 g (pc := 7) hw.2.2.1 (hw.1.k rfl) d_L_archive_7 ?_
    refine G_goto g (pc := 8) 14 d_L_archive_8 (by decide) ?_
    refine G_iconst g (pc := 14) (0 : Int32) d_L_archive_14 rfl ?_
    exact G_hireturn g (pc := 15) hret (Nat.le_of_ble_eq_true rfl) (Nat.le_of_ble_eq_true rfl) d_L_archive_15
  · have hu : u = 1 := by
      by_cases h0 : u = 1
      · exact h0
      · exact absurd hr (by rw [lwO_no1 h0]; exact fun z => nomatch z)
    subst hu
    refine ⟨11, Hx.fst g ht (by decide) (by decide) (TT_in (i := 1092) (by decide +kernel) (by decide +kernel)) (NW_in (i := 1116) (by decide +kernel) (by decide +kernel)), fun q9 => ?_⟩
    refine G_astore_n g (pc := 11) _ d_L_archive_11 rfl (Nat.le_of_ble_eq_true rfl) rfl ?_
    refine G_iconst g (pc := 12) (1 : Int32) d_L_archive_12 rfl ?_
    rw [show lwO [(1, 1)] (.inr 1) M1 = some ((1 : Int32), M1) from rfl]
    exact G_hireturn g (pc := 13) hret (Nat.le_of_ble_eq_true rfl) (Nat.le_of_ble_eq_true rfl) d_L_archive_13
theorem d_L_passTicks_0 : decode b_L_passTicks 0 = .ok (.aload_n 2, 1) := by decide +kernel
theorem d_L_passTicks_1 : decode b_L_passTicks 1 = .ok (.iconst 0, 1) := by decide +kernel
theorem d_L_passTicks_2 : decode b_L_passTicks 2 = .ok (.aload_n 0, 1) := by decide +kernel
theorem d_L_passTicks_3 : decode b_L_passTicks 3 = .ok (.iload_n 1, 1) := by decide +kernel
theorem d_L_passTicks_4 : decode b_L_passTicks 4 = .ok (.invokevirtual 76, 3) := by decide +kernel
theorem d_L_passTicks_7 : decode b_L_passTicks 7 = .ok (.i2l, 1) := by decide +kernel
theorem d_L_passTicks_8 : decode b_L_passTicks 8 = .ok (.lastore, 1) := by decide +kernel
theorem d_L_passTicks_9 : decode b_L_passTicks 9 = .ok (.goto 9, 3) := by decide +kernel
theorem d_L_passTicks_12 : decode b_L_passTicks 12 = .ok (.astore_n 3, 1) := by decide +kernel
theorem d_L_passTicks_13 : decode b_L_passTicks 13 = .ok (.iconst 1, 1) := by decide +kernel
theorem d_L_passTicks_14 : decode b_L_passTicks 14 = .ok (.ireturn, 1) := by decide +kernel
theorem d_L_passTicks_15 : decode b_L_passTicks 15 = .ok (.astore_n 3, 1) := by decide +kernel
theorem d_L_passTicks_16 : decode b_L_passTicks 16 = .ok (.iconst 2, 1) := by decide +kernel
theorem d_L_passTicks_17 : decode b_L_passTicks 17 = .ok (.ireturn, 1) := by decide +kernel
theorem d_L_passTicks_18 : decode b_L_passTicks 18 = .ok (.iconst 0, 1) := by decide +kernel
theorem d_L_passTicks_19 : decode b_L_passTicks 19 = .ok (.ireturn, 1) := by decide +kernel
theorem cc_L_76 : CV "KiteLoggerLaw" 76 y_G_passTicks b_G_passTicks 2 (some .int) 1 := ⟨TT_in (i := 1243) (by decide +kernel) (by decide +kernel), TT_in (i := 1244) (by decide +kernel) (by decide +kernel), TT_in (i := 1245) (by decide +kernel) (by decide +kernel), TT_in (i := 88) (by decide +kernel) (by decide +kernel), TT_in (i := 1246) (by decide +kernel) (by decide +kernel), ⟨by decide +kernel, by decide +kernel, by decide +kernel⟩⟩
set_option maxHeartbeats 4000000 in
set_option maxRecDepth 100000 in
theorem c_L_passTicks (l : Launch) (hst : l.stackTraces = false) (N : Nat) {w : Wc} (hw : WL w) (a1 : Int32) (M : Mem) : CtH l y_L_passTicks b_L_passTicks 4 [(0, 9, 12, 13), (0, 9, 15, 55)] (rmX 8) w [.ref (wad w 0), .int a1, .ref (wad w 156)] M (lwW [(0, 1), (1, 2)] (f_G_passTicks N 146 a1 M)) := by
  refine CtH.go (by decide) (L := [(0, .ref (wad w 0)), (1, .int a1), (2, .ref (wad w 156))]) rfl (Nat.le_of_ble_eq_true rfl) (fun p0 e s m args below meth c ht hnc g hret => ?_)
  refine G_aload_n g (pc := 0) 2 d_L_passTicks_0 rfl rfl ?_
  refine G_iconst g (pc := 1) (0 : Int32) d_L_passTicks_1 rfl ?_
  refine G_aload_n g (pc := 2) 0 d_L_passTicks_2 rfl rfl ?_
  refine G_iload_n g (pc := 3) 1 d_L_passTicks_3 rfl rfl ?_
  refine G_tryI g (pc := 4) (As := [.int a1]) (st := [.int 0, .ref (wad w 156)]) (o := lwO [(0, 1), (1, 2)]) cc_L_76 (c_G_passTicks l hst N hw.1 a1 M) (hw.1.2 0 (Nat.le_of_ble_eq_true rfl)) (hw.1.k rfl) rfl (by decide) rfl ⟨(Nat.le_of_ble_eq_true rfl), (Nat.le_of_ble_eq_true rfl)⟩ ⟨(Nat.le_of_ble_eq_true rfl), (Nat.le_of_ble_eq_true rfl)⟩ (Nat.le_of_ble_eq_true rfl) d_L_passTicks_4 (fun x M1 => ?_) (fun u M1 r hr => ?_)
  · refine G_i2l g (pc := 7) d_L_passTicks_7 ?_
    refine G_last0 g (pc := 8) hw.2.2.1 (hw.1.k rfl) d_L_passTicks_8 ?_
    refine G_goto g (pc := 9) 18 d_L_passTicks_9 (by decide) ?_
    refine G_iconst g (pc := 18) (0 : Int32) d_L_passTicks_18 rfl ?_
    exact G_hireturn g (pc := 19) hret (Nat.le_of_ble_eq_true rfl) (Nat.le_of_ble_eq_true rfl) d_L_passTicks_19
  · have hu : u = 0 ∨ u = 1 := by
      by_cases h0 : u = 0
      · exact Or.inl h0
      · by_cases h1 : u = 1
        · exact Or.inr h1
        · exact absurd hr (by rw [lwO_no2 h0 h1]; exact fun z => nomatch z)
    rcases hu with rfl | rfl
    · refine ⟨12, Hx.fst g ht (by decide) (by decide) (TT_in (i := 777) (by decide +kernel) (by decide +kernel)) (NW_in (i := 788) (by decide +kernel) (by decide +kernel)), fun q9 => ?_⟩
      refine G_astore_n g (pc := 12) _ d_L_passTicks_12 rfl (Nat.le_of_ble_eq_true rfl) rfl ?_
      refine G_iconst g (pc := 13) (1 : Int32) d_L_passTicks_13 rfl ?_
      rw [show lwO [(0, 1), (1, 2)] (.inr 0) M1 = some ((1 : Int32), M1) from rfl]
      exact G_hireturn g (pc := 14) hret (Nat.le_of_ble_eq_true rfl) (Nat.le_of_ble_eq_true rfl) d_L_passTicks_14
    · refine ⟨15, Hx.snd g hnc ht (by decide) (TT_in (i := 777) (by decide +kernel) (by decide +kernel)) (TT_in (i := 1092) (by decide +kernel) (by decide +kernel)) (NW_in (i := 1116) (by decide +kernel) (by decide +kernel)), fun q9 => ?_⟩
      refine G_astore_n g (pc := 15) _ d_L_passTicks_15 rfl (Nat.le_of_ble_eq_true rfl) rfl ?_
      refine G_iconst g (pc := 16) (2 : Int32) d_L_passTicks_16 rfl ?_
      rw [show lwO [(0, 1), (1, 2)] (.inr 1) M1 = some ((2 : Int32), M1) from rfl]
      exact G_hireturn g (pc := 17) hret (Nat.le_of_ble_eq_true rfl) (Nat.le_of_ble_eq_true rfl) d_L_passTicks_17
theorem d_L_runScript_0 : decode b_L_runScript 0 = .ok (.aload_n 2, 1) := by decide +kernel
theorem d_L_runScript_1 : decode b_L_runScript 1 = .ok (.iconst 0, 1) := by decide +kernel
theorem d_L_runScript_2 : decode b_L_runScript 2 = .ok (.aload_n 0, 1) := by decide +kernel
theorem d_L_runScript_3 : decode b_L_runScript 3 = .ok (.iload_n 1, 1) := by decide +kernel
theorem d_L_runScript_4 : decode b_L_runScript 4 = .ok (.invokevirtual 79, 3) := by decide +kernel
theorem d_L_runScript_7 : decode b_L_runScript 7 = .ok (.i2l, 1) := by decide +kernel
theorem d_L_runScript_8 : decode b_L_runScript 8 = .ok (.lastore, 1) := by decide +kernel
theorem d_L_runScript_9 : decode b_L_runScript 9 = .ok (.goto 6, 3) := by decide +kernel
theorem d_L_runScript_12 : decode b_L_runScript 12 = .ok (.astore_n 3, 1) := by decide +kernel
theorem d_L_runScript_13 : decode b_L_runScript 13 = .ok (.iconst 1, 1) := by decide +kernel
theorem d_L_runScript_14 : decode b_L_runScript 14 = .ok (.ireturn, 1) := by decide +kernel
theorem d_L_runScript_15 : decode b_L_runScript 15 = .ok (.iconst 0, 1) := by decide +kernel
theorem d_L_runScript_16 : decode b_L_runScript 16 = .ok (.ireturn, 1) := by decide +kernel
theorem cc_L_79 : CV "KiteLoggerLaw" 79 y_G_runScript b_G_runScript 3 (some .int) 1 := ⟨TT_in (i := 1250) (by decide +kernel) (by decide +kernel), TT_in (i := 1251) (by decide +kernel) (by decide +kernel), TT_in (i := 1252) (by decide +kernel) (by decide +kernel), TT_in (i := 88) (by decide +kernel) (by decide +kernel), TT_in (i := 1253) (by decide +kernel) (by decide +kernel), ⟨by decide +kernel, by decide +kernel, by decide +kernel⟩⟩
set_option maxHeartbeats 4000000 in
set_option maxRecDepth 100000 in
theorem c_L_runScript (l : Launch) (hst : l.stackTraces = false) (N : Nat) {w : Wc} (hw : WL w) (a1 : Int32) (M : Mem) : CtH l y_L_runScript b_L_runScript 4 [(0, 9, 12, 13)] (rmX 23) w [.ref (wad w 0), .int a1, .ref (wad w 156)] M (lwW [(0, 1)] (f_G_runScript N 146 a1 M)) := by
  refine CtH.go (by decide) (L := [(0, .ref (wad w 0)), (1, .int a1), (2, .ref (wad w 156))]) rfl (Nat.le_of_ble_eq_true rfl) (fun p0 e s m args below meth c ht hnc g hret => ?_)
  refine G_aload_n g (pc := 0) 2 d_L_runScript_0 rfl rfl ?_
  refine G_iconst g (pc := 1) (0 : Int32) d_L_runScript_1 rfl ?_
  refine G_aload_n g (pc := 2) 0 d_L_runScript_2 rfl rfl ?_
  refine G_iload_n g (pc := 3) 1 d_L_runScript_3 rfl rfl ?_
  refine G_tryI g (pc := 4) (As := [.int a1]) (st := [.int 0, .ref (wad w 156)]) (o := lwO [(0, 1)]) cc_L_79 (c_G_runScript l hst N hw.1 a1 M) (hw.1.2 0 (Nat.le_of_ble_eq_true rfl)) (hw.1.k rfl) rfl (by decide) rfl ⟨(Nat.le_of_ble_eq_true rfl), (Nat.le_of_ble_eq_true rfl)⟩ ⟨(Nat.le_of_ble_eq_true rfl), (Nat.le_of_ble_eq_true rfl)⟩ (Nat.le_of_ble_eq_true rfl) d_L_runScript_4 (fun x M1 => ?_) (fun u M1 r hr => ?_)
  · refine G_i2l g (pc := 7) d_L_runScript_7 ?_
    refine G_last0 g (pc := 8) hw.2.2.1 (hw.1.k rfl) d_L_runScript_8 ?_
    refine G_goto g (pc := 9) 15 d_L_runScript_9 (by decide) ?_
    refine G_iconst g (pc := 15) (0 : Int32) d_L_runScript_15 rfl ?_
    exact G_hireturn g (pc := 16) hret (Nat.le_of_ble_eq_true rfl) (Nat.le_of_ble_eq_true rfl) d_L_runScript_16
  · have hu : u = 0 := by
      by_cases h0 : u = 0
      · exact h0
      · exact absurd hr (by rw [lwO_no1 h0]; exact fun z => nomatch z)
    subst hu
    refine ⟨12, Hx.fst g ht (by decide) (by decide) (TT_in (i := 777) (by decide +kernel) (by decide +kernel)) (NW_in (i := 788) (by decide +kernel) (by decide +kernel)), fun q9 => ?_⟩
    refine G_astore_n g (pc := 12) _ d_L_runScript_12 rfl (Nat.le_of_ble_eq_true rfl) rfl ?_
    refine G_iconst g (pc := 13) (1 : Int32) d_L_runScript_13 rfl ?_
    rw [show lwO [(0, 1)] (.inr 0) M1 = some ((1 : Int32), M1) from rfl]
    exact G_hireturn g (pc := 14) hret (Nat.le_of_ble_eq_true rfl) (Nat.le_of_ble_eq_true rfl) d_L_runScript_14
theorem d_L_outputByte_0 : decode b_L_outputByte 0 = .ok (.aload_n 2, 1) := by decide +kernel
theorem d_L_outputByte_1 : decode b_L_outputByte 1 = .ok (.iconst 0, 1) := by decide +kernel
theorem d_L_outputByte_2 : decode b_L_outputByte 2 = .ok (.aload_n 0, 1) := by decide +kernel
theorem d_L_outputByte_3 : decode b_L_outputByte 3 = .ok (.iload_n 1, 1) := by decide +kernel
theorem d_L_outputByte_4 : decode b_L_outputByte 4 = .ok (.invokevirtual 82, 3) := by decide +kernel
theorem d_L_outputByte_7 : decode b_L_outputByte 7 = .ok (.i2l, 1) := by decide +kernel
theorem d_L_outputByte_8 : decode b_L_outputByte 8 = .ok (.lastore, 1) := by decide +kernel
theorem d_L_outputByte_9 : decode b_L_outputByte 9 = .ok (.goto 6, 3) := by decide +kernel
theorem d_L_outputByte_12 : decode b_L_outputByte 12 = .ok (.astore_n 3, 1) := by decide +kernel
theorem d_L_outputByte_13 : decode b_L_outputByte 13 = .ok (.iconst 1, 1) := by decide +kernel
theorem d_L_outputByte_14 : decode b_L_outputByte 14 = .ok (.ireturn, 1) := by decide +kernel
theorem d_L_outputByte_15 : decode b_L_outputByte 15 = .ok (.iconst 0, 1) := by decide +kernel
theorem d_L_outputByte_16 : decode b_L_outputByte 16 = .ok (.ireturn, 1) := by decide +kernel
theorem cc_L_82 : CV "KiteLoggerLaw" 82 y_G_outputByte b_G_outputByte 2 (some .int) 1 := ⟨TT_in (i := 1307) (by decide +kernel) (by decide +kernel), TT_in (i := 1308) (by decide +kernel) (by decide +kernel), TT_in (i := 1309) (by decide +kernel) (by decide +kernel), TT_in (i := 88) (by decide +kernel) (by decide +kernel), TT_in (i := 1310) (by decide +kernel) (by decide +kernel), ⟨by decide +kernel, by decide +kernel, by decide +kernel⟩⟩
set_option maxHeartbeats 4000000 in
set_option maxRecDepth 100000 in
theorem c_L_outputByte (l : Launch) (hst : l.stackTraces = false) {w : Wc} (hw : WL w) (a1 : Int32) (M : Mem) : CtH l y_L_outputByte b_L_outputByte 4 [(0, 9, 12, 27)] (rmX 7) w [.ref (wad w 0), .int a1, .ref (wad w 156)] M (lwW [(2, 1)] (f_G_outputByte a1 M)) := by
  refine CtH.go (by decide) (L := [(0, .ref (wad w 0)), (1, .int a1), (2, .ref (wad w 156))]) rfl (Nat.le_of_ble_eq_true rfl) (fun p0 e s m args below meth c ht hnc g hret => ?_)
  refine G_aload_n g (pc := 0) 2 d_L_outputByte_0 rfl rfl ?_
  refine G_iconst g (pc := 1) (0 : Int32) d_L_outputByte_1 rfl ?_
  refine G_aload_n g (pc := 2) 0 d_L_outputByte_2 rfl rfl ?_
  refine G_iload_n g (pc := 3) 1 d_L_outputByte_3 rfl rfl ?_
  refine G_tryI g (pc := 4) (As := [.int a1]) (st := [.int 0, .ref (wad w 156)]) (o := lwO [(2, 1)]) cc_L_82 (c_G_outputByte l hst hw.1 a1 M) (hw.1.2 0 (Nat.le_of_ble_eq_true rfl)) (hw.1.k rfl) rfl (by decide) rfl ⟨(Nat.le_of_ble_eq_true rfl), (Nat.le_of_ble_eq_true rfl)⟩ ⟨(Nat.le_of_ble_eq_true rfl), (Nat.le_of_ble_eq_true rfl)⟩ (Nat.le_of_ble_eq_true rfl) d_L_outputByte_4 (fun x M1 => ?_) (fun u M1 r hr => ?_)
  · refine G_i2l g (pc := 7) d_L_outputByte_7 ?_
    refine G_last0 g (pc := 8) hw.2.2.1 (hw.1.k rfl) d_L_outputByte_8 ?_
    refine G_goto g (pc := 9) 15 d_L_outputByte_9 (by decide) ?_
    refine G_iconst g (pc := 15) (0 : Int32) d_L_outputByte_15 rfl ?_
    exact G_hireturn g (pc := 16) hret (Nat.le_of_ble_eq_true rfl) (Nat.le_of_ble_eq_true rfl) d_L_outputByte_16
  · have hu : u = 2 := by
      by_cases h0 : u = 2
      · exact h0
      · exact absurd hr (by rw [lwO_no1 h0]; exact fun z => nomatch z)
    subst hu
    refine ⟨12, Hx.fst g ht (by decide) (by decide) (TT_in (i := 1004) (by decide +kernel) (by decide +kernel)) (NW_in (i := 1018) (by decide +kernel) (by decide +kernel)), fun q9 => ?_⟩
    refine G_astore_n g (pc := 12) _ d_L_outputByte_12 rfl (Nat.le_of_ble_eq_true rfl) rfl ?_
    refine G_iconst g (pc := 13) (1 : Int32) d_L_outputByte_13 rfl ?_
    rw [show lwO [(2, 1)] (.inr 2) M1 = some ((1 : Int32), M1) from rfl]
    exact G_hireturn g (pc := 14) hret (Nat.le_of_ble_eq_true rfl) (Nat.le_of_ble_eq_true rfl) d_L_outputByte_14
theorem d_L_undo_0 : decode b_L_undo 0 = .ok (.aload_n 1, 1) := by decide +kernel
theorem d_L_undo_1 : decode b_L_undo 1 = .ok (.iconst 0, 1) := by decide +kernel
theorem d_L_undo_2 : decode b_L_undo 2 = .ok (.aload_n 0, 1) := by decide +kernel
theorem d_L_undo_3 : decode b_L_undo 3 = .ok (.invokevirtual 85, 3) := by decide +kernel
theorem d_L_undo_6 : decode b_L_undo 6 = .ok (.i2l, 1) := by decide +kernel
theorem d_L_undo_7 : decode b_L_undo 7 = .ok (.lastore, 1) := by decide +kernel
theorem d_L_undo_8 : decode b_L_undo 8 = .ok (.goto 6, 3) := by decide +kernel
theorem d_L_undo_11 : decode b_L_undo 11 = .ok (.astore_n 2, 1) := by decide +kernel
theorem d_L_undo_12 : decode b_L_undo 12 = .ok (.iconst 1, 1) := by decide +kernel
theorem d_L_undo_13 : decode b_L_undo 13 = .ok (.ireturn, 1) := by decide +kernel
theorem d_L_undo_14 : decode b_L_undo 14 = .ok (.iconst 0, 1) := by decide +kernel
theorem d_L_undo_15 : decode b_L_undo 15 = .ok (.ireturn, 1) := by decide +kernel
theorem cc_L_85 : CV "KiteLoggerLaw" 85 y_G_undo b_G_undo 1 (some .int) 0 := ⟨TT_in (i := 1319) (by decide +kernel) (by decide +kernel), TT_in (i := 1320) (by decide +kernel) (by decide +kernel), TT_in (i := 1321) (by decide +kernel) (by decide +kernel), TT_in (i := 88) (by decide +kernel) (by decide +kernel), TT_in (i := 1322) (by decide +kernel) (by decide +kernel), ⟨by decide +kernel, by decide +kernel, by decide +kernel⟩⟩
set_option maxHeartbeats 4000000 in
set_option maxRecDepth 100000 in
theorem c_L_undo (l : Launch) (hst : l.stackTraces = false) {w : Wc} (hw : WL w) (M : Mem) : CtH l y_L_undo b_L_undo 3 [(0, 8, 11, 55)] (rmX 7) w [.ref (wad w 0), .ref (wad w 156)] M (lwW [(1, 1)] (f_G_undo 146 M)) := by
  refine CtH.go (by decide) (L := [(0, .ref (wad w 0)), (1, .ref (wad w 156))]) rfl (Nat.le_of_ble_eq_true rfl) (fun p0 e s m args below meth c ht hnc g hret => ?_)
  refine G_aload_n g (pc := 0) 1 d_L_undo_0 rfl rfl ?_
  refine G_iconst g (pc := 1) (0 : Int32) d_L_undo_1 rfl ?_
  refine G_aload_n g (pc := 2) 0 d_L_undo_2 rfl rfl ?_
  refine G_tryI g (pc := 3) (As := []) (st := [.int 0, .ref (wad w 156)]) (o := lwO [(1, 1)]) cc_L_85 (c_G_undo l hst hw.1 M) (hw.1.2 0 (Nat.le_of_ble_eq_true rfl)) (hw.1.k rfl) rfl (by decide) rfl ⟨(Nat.le_of_ble_eq_true rfl), (Nat.le_of_ble_eq_true rfl)⟩ ⟨(Nat.le_of_ble_eq_true rfl), (Nat.le_of_ble_eq_true rfl)⟩ (Nat.le_of_ble_eq_true rfl) d_L_undo_3 (fun x M1 => ?_) (fun u M1 r hr => ?_)
  · refine G_i2l g (pc := 6) d_L_undo_6 ?_
    refine G_last0 g (pc := 7) hw.2.2.1 (hw.1.k rfl) d_L_undo_7 ?_
    refine G_goto g (pc := 8) 14 d_L_undo_8 (by decide) ?_
    refine G_iconst g (pc := 14) (0 : Int32) d_L_undo_14 rfl ?_
    exact G_hireturn g (pc := 15) hret (Nat.le_of_ble_eq_true rfl) (Nat.le_of_ble_eq_true rfl) d_L_undo_15
  · have hu : u = 1 := by
      by_cases h0 : u = 1
      · exact h0
      · exact absurd hr (by rw [lwO_no1 h0]; exact fun z => nomatch z)
    subst hu
    refine ⟨11, Hx.fst g ht (by decide) (by decide) (TT_in (i := 1092) (by decide +kernel) (by decide +kernel)) (NW_in (i := 1116) (by decide +kernel) (by decide +kernel)), fun q9 => ?_⟩
    refine G_astore_n g (pc := 11) _ d_L_undo_11 rfl (Nat.le_of_ble_eq_true rfl) rfl ?_
    refine G_iconst g (pc := 12) (1 : Int32) d_L_undo_12 rfl ?_
    rw [show lwO [(1, 1)] (.inr 1) M1 = some ((1 : Int32), M1) from rfl]
    exact G_hireturn g (pc := 13) hret (Nat.le_of_ble_eq_true rfl) (Nat.le_of_ble_eq_true rfl) d_L_undo_13
theorem d_L_restoreSnapshot_0 : decode b_L_restoreSnapshot 0 = .ok (.aload_n 1, 1) := by decide +kernel
theorem d_L_restoreSnapshot_1 : decode b_L_restoreSnapshot 1 = .ok (.iconst 0, 1) := by decide +kernel
theorem d_L_restoreSnapshot_2 : decode b_L_restoreSnapshot 2 = .ok (.aload_n 0, 1) := by decide +kernel
theorem d_L_restoreSnapshot_3 : decode b_L_restoreSnapshot 3 = .ok (.invokevirtual 88, 3) := by decide +kernel
theorem d_L_restoreSnapshot_6 : decode b_L_restoreSnapshot 6 = .ok (.i2l, 1) := by decide +kernel
theorem d_L_restoreSnapshot_7 : decode b_L_restoreSnapshot 7 = .ok (.lastore, 1) := by decide +kernel
theorem d_L_restoreSnapshot_8 : decode b_L_restoreSnapshot 8 = .ok (.goto 6, 3) := by decide +kernel
theorem d_L_restoreSnapshot_11 : decode b_L_restoreSnapshot 11 = .ok (.astore_n 2, 1) := by decide +kernel
theorem d_L_restoreSnapshot_12 : decode b_L_restoreSnapshot 12 = .ok (.iconst 1, 1) := by decide +kernel
theorem d_L_restoreSnapshot_13 : decode b_L_restoreSnapshot 13 = .ok (.ireturn, 1) := by decide +kernel
theorem d_L_restoreSnapshot_14 : decode b_L_restoreSnapshot 14 = .ok (.iconst 0, 1) := by decide +kernel
theorem d_L_restoreSnapshot_15 : decode b_L_restoreSnapshot 15 = .ok (.ireturn, 1) := by decide +kernel
theorem cc_L_88 : CV "KiteLoggerLaw" 88 y_G_restoreSnapshot b_G_restoreSnapshot 1 (some .int) 0 := ⟨TT_in (i := 1332) (by decide +kernel) (by decide +kernel), TT_in (i := 1333) (by decide +kernel) (by decide +kernel), TT_in (i := 1334) (by decide +kernel) (by decide +kernel), TT_in (i := 88) (by decide +kernel) (by decide +kernel), TT_in (i := 1335) (by decide +kernel) (by decide +kernel), ⟨by decide +kernel, by decide +kernel, by decide +kernel⟩⟩
set_option maxHeartbeats 4000000 in
set_option maxRecDepth 100000 in
theorem c_L_restoreSnapshot (l : Launch) (hst : l.stackTraces = false) {w : Wc} (hw : WL w) (M : Mem) : CtH l y_L_restoreSnapshot b_L_restoreSnapshot 3 [(0, 8, 11, 55)] (rmX 7) w [.ref (wad w 0), .ref (wad w 156)] M (lwW [(1, 1)] (f_G_restoreSnapshot M)) := by
  refine CtH.go (by decide) (L := [(0, .ref (wad w 0)), (1, .ref (wad w 156))]) rfl (Nat.le_of_ble_eq_true rfl) (fun p0 e s m args below meth c ht hnc g hret => ?_)
  refine G_aload_n g (pc := 0) 1 d_L_restoreSnapshot_0 rfl rfl ?_
  refine G_iconst g (pc := 1) (0 : Int32) d_L_restoreSnapshot_1 rfl ?_
  refine G_aload_n g (pc := 2) 0 d_L_restoreSnapshot_2 rfl rfl ?_
  refine G_tryI g (pc := 3) (As := []) (st := [.int 0, .ref (wad w 156)]) (o := lwO [(1, 1)]) cc_L_88 (c_G_restoreSnapshot l hst hw.1 M) (hw.1.2 0 (Nat.le_of_ble_eq_true rfl)) (hw.1.k rfl) rfl (by decide) rfl ⟨(Nat.le_of_ble_eq_true rfl), (Nat.le_of_ble_eq_true rfl)⟩ ⟨(Nat.le_of_ble_eq_true rfl), (Nat.le_of_ble_eq_true rfl)⟩ (Nat.le_of_ble_eq_true rfl) d_L_restoreSnapshot_3 (fun x M1 => ?_) (fun u M1 r hr => ?_)
  · refine G_i2l g (pc := 6) d_L_restoreSnapshot_6 ?_
    refine G_last0 g (pc := 7) hw.2.2.1 (hw.1.k rfl) d_L_restoreSnapshot_7 ?_
    refine G_goto g (pc := 8) 14 d_L_restoreSnapshot_8 (by decide) ?_
    refine G_iconst g (pc := 14) (0 : Int32) d_L_restoreSnapshot_14 rfl ?_
    exact G_hireturn g (pc := 15) hret (Nat.le_of_ble_eq_true rfl) (Nat.le_of_ble_eq_true rfl) d_L_restoreSnapshot_15
  · have hu : u = 1 := by
      by_cases h0 : u = 1
      · exact h0
      · exact absurd hr (by rw [lwO_no1 h0]; exact fun z => nomatch z)
    subst hu
    refine ⟨11, Hx.fst g ht (by decide) (by decide) (TT_in (i := 1092) (by decide +kernel) (by decide +kernel)) (NW_in (i := 1116) (by decide +kernel) (by decide +kernel)), fun q9 => ?_⟩
    refine G_astore_n g (pc := 11) _ d_L_restoreSnapshot_11 rfl (Nat.le_of_ble_eq_true rfl) rfl ?_
    refine G_iconst g (pc := 12) (1 : Int32) d_L_restoreSnapshot_12 rfl ?_
    rw [show lwO [(1, 1)] (.inr 1) M1 = some ((1 : Int32), M1) from rfl]
    exact G_hireturn g (pc := 13) hret (Nat.le_of_ble_eq_true rfl) (Nat.le_of_ble_eq_true rfl) d_L_restoreSnapshot_13
