/-! plain functions over the memory: steps over a row (no machine in them) -/
def f_M_thrown  (M : Mem) : Option (Int32 × Mem) :=
  some (M 145 8, M)
def f_M_inRange (a1 : Int32) (a2 : Int32) (a3 : Int32) (M : Mem) : Option (Bool × Mem) :=
  if a1 < a2 then (some (false, M)) else (if a1 ≤ a3 then (some (true, M)) else (some (false, M)))
def f_M_lacks (a1 : Bool) (M : Mem) : Option (Bool × Mem) :=
  if a1 = true then (nm (put M 145 8 (0 : Int32)) fun (M1 : Mem) => if a1 = true then (some (false, M1)) else (some (true, M1))) else (nm (put M 145 8 (1 : Int32)) fun (M2 : Mem) => if a1 = true then (some (false, M2)) else (some (true, M2)))
def f_M_sizeOf (a1 : Int32) (M : Mem) : Option (Int32 × Mem) :=
  if a1 < 0 then (some (-a1, M)) else (some (a1, M))
def f_M_least (a1 : Int32) (a2 : Int32) (M : Mem) : Option (Int32 × Mem) :=
  if a1 < a2 then (some (a1, M)) else (some (a2, M))
def f_M_most (a1 : Int32) (a2 : Int32) (M : Mem) : Option (Int32 × Mem) :=
  if a2 < a1 then (some (a1, M)) else (some (a2, M))
def lp_M_begin_3 (N0 rr : Nat) (a1 : Int32) (a2 : Int32) (a3 : Int32)  : Nat → Int32 → Mem → (Int32 → Mem → Option (Mem)) → Option (Mem)
  | 0, _, _, _ => none
  | N + 1, v3, M, k3 => if v3 < (405 : Int32) then (grd (inB v3 405) (nm (put M rr v3.toNatClampNeg (0 : Int32)) fun (M1 : Mem) => nm (v3 + (1 : Int32)) fun (x2 : Int32) => lp_M_begin_3 N0 rr a1 a2 a3 N x2 M1 k3)) else (k3 v3 M)
def f_M_begin (N : Nat) (rr : Nat) (a1 : Int32) (a2 : Int32) (a3 : Int32) (M : Mem) : Option (Mem) :=
  lp_M_begin_3 N rr a1 a2 a3 N (0 : Int32) M (fun (a4 : Int32) (M3 : Mem) => nm (put M3 rr 1 a1) fun (M5 : Mem) => nm (put M5 rr 2 a2) fun (M6 : Mem) => nm (put M6 rr 3 a3) fun (M7 : Mem) => some M7)
def f_M_addGust (rr : Nat) (a1 : Int32) (M : Mem) : Option (Mem) :=
  grd (inB ((21 : Int32) + (M rr 5)) 405) (nm (put M rr ((21 : Int32) + (M rr 5)).toNatClampNeg a1) fun (M1 : Mem) => nm (put M1 rr 5 ((M1 rr 5) + (1 : Int32))) fun (M2 : Mem) => some M2)
def f_M_gustOf (rr : Nat) (a1 : Int32) (M : Mem) : Option (Int32 × Mem) :=
  grd (nzB (M rr 5)) (grd (inB ((21 : Int32) + (irm a1 (M rr 5))) 405) (some (M rr ((21 : Int32) + (irm a1 (M rr 5))).toNatClampNeg, M)))
def f_M_windNow (rr : Nat) (a1 : Int32) (M : Mem) : Option (Int32 × Mem) :=
  bnd (f_M_gustOf rr (M rr 0) M) fun (x1 : Int32) (M2 : Mem) => some (x1 + (a1 / (100 : Int32)), M2)
def f_M_load (rr : Nat) (a1 : Int32) (M : Mem) : Option (Int32 × Mem) :=
  some ((((M rr 1) * a1) * a1) / (8 : Int32), M)
def f_M_is (rr : Nat) (a1 : Int32) (M : Mem) : Option (Bool × Mem) :=
  if (M rr 6) = a1 then (some (true, M)) else (some (false, M))
def f_M_tick (rr : Nat) (M : Mem) : Option (Int32 × Mem) :=
  nm (put M 145 8 (0 : Int32)) fun (M1 : Mem) => some (M1 rr 0, M1)
def f_M_patternLength (rr : Nat) (M : Mem) : Option (Int32 × Mem) :=
  nm (put M 145 8 (0 : Int32)) fun (M1 : Mem) => some (M1 rr 5, M1)
def f_M_gust (rr : Nat) (a1 : Int32) (M : Mem) : Option (Int32 × Mem) :=
  bnd (f_M_inRange a1 (0 : Int32) (9999 : Int32) M) fun (x1 : Bool) (M2 : Mem) => bnd (f_M_lacks x1 M2) fun (x3 : Bool) (M4 : Mem) => if x3 = true then (some ((0 : Int32), M4)) else (bnd (f_M_gustOf rr a1 M4) fun (x5 : Int32) (M6 : Mem) => some (x5, M6))
def f_M_windAt (rr : Nat) (a1 : Int32) (M : Mem) : Option (Int32 × Mem) :=
  bnd (f_M_inRange a1 (0 : Int32) (600 : Int32) M) fun (x1 : Bool) (M2 : Mem) => bnd (f_M_lacks x1 M2) fun (x3 : Bool) (M4 : Mem) => if x3 = true then (some ((0 : Int32), M4)) else (bnd (f_M_windNow rr a1 M4) fun (x5 : Int32) (M6 : Mem) => some (x5, M6))
def f_M_bufferSize (rr : Nat) (M : Mem) : Option (Int32 × Mem) :=
  nm (put M 145 8 (0 : Int32)) fun (M1 : Mem) => some (M1 rr 16, M1)
def f_M_bufferedWind (rr : Nat) (a1 : Int32) (M : Mem) : Option (Int32 × Mem) :=
  nm (put M 145 8 (0 : Int32)) fun (M1 : Mem) => bnd (f_M_inRange a1 (0 : Int32) ((M1 rr 16) - (1 : Int32)) M1) fun (x2 : Bool) (M3 : Mem) => if x2 = true then (grd (inB ((37 : Int32) + a1) 405) (some (M3 rr ((37 : Int32) + a1).toNatClampNeg, M3))) else (some ((-1 : Int32), M3))
def lp_M_greatest_4 (N0 rr : Nat)   : Nat → Int32 × Int32 → Mem → (Int32 × Int32 → Mem → Option (Int32 × Mem)) → Option (Int32 × Mem)
  | 0, _, _, _ => none
  | N + 1, v4, M, k4 => if v4.2 < (M rr 16) then (grd (inB ((37 : Int32) + v4.2) 405) (bnd (f_M_most v4.1 (M rr ((37 : Int32) + v4.2).toNatClampNeg) M) fun (x1 : Int32) (M2 : Mem) => nm (v4.2 + (1 : Int32)) fun (x3 : Int32) => lp_M_greatest_4 N0 rr N (x1, x3) M2 k4)) else (k4 (v4.1, v4.2) M)
def f_M_greatest (N : Nat) (rr : Nat) (M : Mem) : Option (Int32 × Mem) :=
  lp_M_greatest_4 N rr N ((0 : Int32), (0 : Int32)) M (fun (a5 : Int32 × Int32) (M4 : Mem) => some (a5.1, M4))
def f_M_greatestWind (N : Nat) (rr : Nat) (M : Mem) : Option (Int32 × Mem) :=
  nm (put M 145 8 (0 : Int32)) fun (M1 : Mem) => bnd (f_M_greatest N rr M1) fun (x2 : Int32) (M3 : Mem) => some (x2, M3)
def f_M_mean (a1 : Int32) (a2 : Int32) (M : Mem) : Option (UInt64 × Mem) :=
  if a2 = 0 then (some (0, M)) else (grd (nn64 (FP.ddiv (FP.i2d a1) (FP.i2d a2))) (some (FP.ddiv (FP.i2d a1) (FP.i2d a2), M)))
def lp_M_meanWind_9 (N0 rr : Nat)   : Nat → Int32 × Int32 → Mem → (Int32 × Int32 → Mem → Option (UInt64 × Mem)) → Option (UInt64 × Mem)
  | 0, _, _, _ => none
  | N + 1, v9, M, k9 => if v9.2 < (M rr 16) then (grd (inB ((37 : Int32) + v9.2) 405) (nm (v9.1 + (M rr ((37 : Int32) + v9.2).toNatClampNeg)) fun (x2 : Int32) => nm (v9.2 + (1 : Int32)) fun (x3 : Int32) => lp_M_meanWind_9 N0 rr N (x2, x3) M k9)) else (k9 (v9.1, v9.2) M)
def f_M_meanWind (N : Nat) (rr : Nat) (M : Mem) : Option (UInt64 × Mem) :=
  nm (put M 145 8 (0 : Int32)) fun (M1 : Mem) => lp_M_meanWind_9 N rr N ((0 : Int32), (0 : Int32)) M1 (fun (a5 : Int32 × Int32) (M4 : Mem) => bnd (f_M_mean a5.1 (M4 rr 16) M4) fun (x6 : UInt64) (M7 : Mem) => some (x6, M7))
def f_M_isLanded (rr : Nat) (M : Mem) : Option (Bool × Mem) :=
  nm (put M 145 8 (0 : Int32)) fun (M1 : Mem) => bnd (f_M_is rr (0 : Int32) M1) fun (x2 : Bool) (M3 : Mem) => some (x2, M3)
def f_M_isFlying (rr : Nat) (M : Mem) : Option (Bool × Mem) :=
  nm (put M 145 8 (0 : Int32)) fun (M1 : Mem) => bnd (f_M_is rr (1 : Int32) M1) fun (x2 : Bool) (M3 : Mem) => some (x2, M3)
def f_M_isFallen (rr : Nat) (M : Mem) : Option (Bool × Mem) :=
  nm (put M 145 8 (0 : Int32)) fun (M1 : Mem) => bnd (f_M_is rr (2 : Int32) M1) fun (x2 : Bool) (M3 : Mem) => some (x2, M3)
def f_M_height (rr : Nat) (M : Mem) : Option (Int32 × Mem) :=
  nm (put M 145 8 (0 : Int32)) fun (M1 : Mem) => some (M1 rr 7, M1)
def f_M_tether (rr : Nat) (M : Mem) : Option (Int32 × Mem) :=
  nm (put M 145 8 (0 : Int32)) fun (M1 : Mem) => some (M1 rr 8, M1)
def f_M_area (rr : Nat) (M : Mem) : Option (Int32 × Mem) :=
  nm (put M 145 8 (0 : Int32)) fun (M1 : Mem) => some (M1 rr 1, M1)
def f_M_limit (rr : Nat) (M : Mem) : Option (Int32 × Mem) :=
  nm (put M 145 8 (0 : Int32)) fun (M1 : Mem) => some (M1 rr 2, M1)
def f_M_endurance (rr : Nat) (M : Mem) : Option (Int32 × Mem) :=
  nm (put M 145 8 (0 : Int32)) fun (M1 : Mem) => some (M1 rr 3, M1)
def f_M_wear (rr : Nat) (M : Mem) : Option (Int32 × Mem) :=
  nm (put M 145 8 (0 : Int32)) fun (M1 : Mem) => some (M1 rr 9, M1)
def f_M_loadOf (rr : Nat) (a1 : Int32) (M : Mem) : Option (Int32 × Mem) :=
  bnd (f_M_inRange a1 (0 : Int32) (36 : Int32) M) fun (x1 : Bool) (M2 : Mem) => bnd (f_M_lacks x1 M2) fun (x3 : Bool) (M4 : Mem) => if x3 = true then (some ((0 : Int32), M4)) else (bnd (f_M_load rr a1 M4) fun (x5 : Int32) (M6 : Mem) => some (x5, M6))
def f_M_flightTime (rr : Nat) (M : Mem) : Option (Int32 × Mem) :=
  nm (put M 145 8 (0 : Int32)) fun (M1 : Mem) => bnd (f_M_is rr (1 : Int32) M1) fun (x2 : Bool) (M3 : Mem) => if x2 = true then (some (M3 rr 12, M3)) else (some ((0 : Int32), M3))
def f_M_beaconTime (rr : Nat) (M : Mem) : Option (Int32 × Mem) :=
  nm (put M 145 8 (0 : Int32)) fun (M1 : Mem) => bnd (f_M_is rr (2 : Int32) M1) fun (x2 : Bool) (M3 : Mem) => if x2 = true then (some (M3 rr 11, M3)) else (some ((0 : Int32), M3))
def f_M_launches (rr : Nat) (M : Mem) : Option (Int32 × Mem) :=
  nm (put M 145 8 (0 : Int32)) fun (M1 : Mem) => some (M1 rr 13, M1)
def f_M_snaps (rr : Nat) (M : Mem) : Option (Int32 × Mem) :=
  nm (put M 145 8 (0 : Int32)) fun (M1 : Mem) => some (M1 rr 14, M1)
def f_M_searches (rr : Nat) (M : Mem) : Option (Int32 × Mem) :=
  nm (put M 145 8 (0 : Int32)) fun (M1 : Mem) => some (M1 rr 15, M1)
def f_M_interval (rr : Nat) (M : Mem) : Option (Int32 × Mem) :=
  nm (put M 145 8 (0 : Int32)) fun (M1 : Mem) => some (M1 rr 4, M1)
def f_M_loggedCount (rr : Nat) (M : Mem) : Option (Int32 × Mem) :=
  nm (put M 145 8 (0 : Int32)) fun (M1 : Mem) => some (M1 rr 17, M1)
def f_M_logged (rr : Nat) (a1 : Int32) (a2 : Int32) (M : Mem) : Option (Int32 × Mem) :=
  bnd (f_M_inRange a1 (0 : Int32) ((M rr 17) - (1 : Int32)) M) fun (x1 : Bool) (M2 : Mem) => bnd (f_M_lacks x1 M2) fun (x3 : Bool) (M4 : Mem) => if x3 = true then (some ((0 : Int32), M4)) else (grd (inB (((45 : Int32) + ((3 : Int32) * a1)) + a2) 405) (some (M4 rr (((45 : Int32) + ((3 : Int32) * a1)) + a2).toNatClampNeg, M4)))
def f_M_loggedTick (rr : Nat) (a1 : Int32) (M : Mem) : Option (Int32 × Mem) :=
  bnd (f_M_logged rr a1 (0 : Int32) M) fun (x1 : Int32) (M2 : Mem) => some (x1, M2)
def f_M_loggedHeight (rr : Nat) (a1 : Int32) (M : Mem) : Option (Int32 × Mem) :=
  bnd (f_M_logged rr a1 (1 : Int32) M) fun (x1 : Int32) (M2 : Mem) => some (x1, M2)
def f_M_loggedGust (rr : Nat) (a1 : Int32) (M : Mem) : Option (Int32 × Mem) :=
  bnd (f_M_logged rr a1 (2 : Int32) M) fun (x1 : Int32) (M2 : Mem) => some (x1, M2)
def f_M_droppedCount (rr : Nat) (M : Mem) : Option (Int32 × Mem) :=
  nm (put M 145 8 (0 : Int32)) fun (M1 : Mem) => some (M1 rr 20, M1)
def f_M_archivedCount (rr : Nat) (M : Mem) : Option (Int32 × Mem) :=
  nm (put M 145 8 (0 : Int32)) fun (M1 : Mem) => some (M1 rr 18, M1)
def f_M_ofArchive (rr : Nat) (a1 : Int32) (a2 : Int32) (M : Mem) : Option (Int32 × Mem) :=
  grd (inB (((135 : Int32) + ((3 : Int32) * a1)) + a2) 405) (some (M rr (((135 : Int32) + ((3 : Int32) * a1)) + a2).toNatClampNeg, M))
def f_M_archived (rr : Nat) (a1 : Int32) (a2 : Int32) (M : Mem) : Option (Int32 × Mem) :=
  bnd (f_M_inRange a1 (0 : Int32) ((M rr 18) - (1 : Int32)) M) fun (x1 : Bool) (M2 : Mem) => bnd (f_M_lacks x1 M2) fun (x3 : Bool) (M4 : Mem) => if x3 = true then (some ((0 : Int32), M4)) else (bnd (f_M_ofArchive rr a1 a2 M4) fun (x5 : Int32) (M6 : Mem) => some (x5, M6))
def f_M_archivedTick (rr : Nat) (a1 : Int32) (M : Mem) : Option (Int32 × Mem) :=
  bnd (f_M_archived rr a1 (0 : Int32) M) fun (x1 : Int32) (M2 : Mem) => some (x1, M2)
def f_M_archivedHeight (rr : Nat) (a1 : Int32) (M : Mem) : Option (Int32 × Mem) :=
  bnd (f_M_archived rr a1 (1 : Int32) M) fun (x1 : Int32) (M2 : Mem) => some (x1, M2)
def f_M_archivedGust (rr : Nat) (a1 : Int32) (M : Mem) : Option (Int32 × Mem) :=
  bnd (f_M_archived rr a1 (2 : Int32) M) fun (x1 : Int32) (M2 : Mem) => some (x1, M2)
def lp_M_countBetween_5 (N0 rr : Nat) (a1 : Int32) (a2 : Int32)  : Nat → Int32 × Int32 → Mem → (Int32 × Int32 → Mem → Option (Int32 × Mem)) → Option (Int32 × Mem)
  | 0, _, _, _ => none
  | N + 1, v5, M, k5 => if v5.2 < (M rr 18) then (bnd (f_M_ofArchive rr v5.2 (1 : Int32) M) fun (x1 : Int32) (M2 : Mem) => bnd (f_M_inRange x1 a1 a2 M2) fun (x3 : Bool) (M4 : Mem) => jn (fun (x6 : Bool) (M7 : Mem) => nm (v5.1 + (b2i x6)) fun (x8 : Int32) => nm (v5.2 + (1 : Int32)) fun (x9 : Int32) => lp_M_countBetween_5 N0 rr a1 a2 N (x8, x9) M7 k5) (fun j5 => if x3 = true then (j5 true M4) else (j5 false M4))) else (k5 (v5.1, v5.2) M)
def f_M_countBetween (N : Nat) (rr : Nat) (a1 : Int32) (a2 : Int32) (M : Mem) : Option (Int32 × Mem) :=
  lp_M_countBetween_5 N rr a1 a2 N ((0 : Int32), (0 : Int32)) M (fun (a11 : Int32 × Int32) (M10 : Mem) => some (a11.1, M10))
def f_M_archivedBetween (N : Nat) (rr : Nat) (a1 : Int32) (a2 : Int32) (M : Mem) : Option (Int32 × Mem) :=
  nm (put M 145 8 (0 : Int32)) fun (M1 : Mem) => bnd (f_M_countBetween N rr a1 a2 M1) fun (x2 : Int32) (M3 : Mem) => some (x2, M3)
def lp_M_highestArchived_9 (N0 rr : Nat)   : Nat → Int32 × Int32 → Mem → (Int32 × Int32 → Mem → Option (Int32 × Mem)) → Option (Int32 × Mem)
  | 0, _, _, _ => none
  | N + 1, v9, M, k9 => if v9.2 < (M rr 18) then (jn (fun (x3 : Bool) (M4 : Mem) => jn (fun (x6 : Int32) (M7 : Mem) => nm (v9.2 + (1 : Int32)) fun (x8 : Int32) => lp_M_highestArchived_9 N0 rr N (x6, x8) M7 k9) (fun j5 => if x3 = true then (j5 v9.2 M4) else (j5 v9.1 M4))) (fun j2 => if v9.1 = (-1 : Int32) then (j2 true M) else (bnd (f_M_ofArchive rr v9.2 (1 : Int32) M) fun (x9 : Int32) (M10 : Mem) => bnd (f_M_ofArchive rr v9.1 (1 : Int32) M10) fun (x11 : Int32) (M12 : Mem) => if x11 < x9 then (j2 true M12) else (j2 false M12)))) else (k9 (v9.1, v9.2) M)
def f_M_highestArchived (N : Nat) (rr : Nat) (M : Mem) : Option (Int32 × Mem) :=
  nm (put M 145 8 (0 : Int32)) fun (M1 : Mem) => lp_M_highestArchived_9 N rr N ((-1 : Int32), (0 : Int32)) M1 (fun (a14 : Int32 × Int32) (M13 : Mem) => some (a14.1, M13))
def lp_M_archivedBefore_15 (N0 rr : Nat) (a1 : Int32)  : Nat → Int32 → Mem → (Int32 → Mem → Option (Int32 × Mem)) → Option (Int32 × Mem)
  | 0, _, _, _ => none
  | N + 1, v15, M, k15 => if v15 < 0 then (k15 v15 M) else (bnd (f_M_ofArchive rr v15 (0 : Int32) M) fun (x3 : Int32) (M4 : Mem) => if a1 < x3 then (nm (v15 + (-1 : Int32)) fun (x5 : Int32) => lp_M_archivedBefore_15 N0 rr a1 N x5 M4 k15) else (k15 v15 M4))
def f_M_archivedBefore (N : Nat) (rr : Nat) (a1 : Int32) (M : Mem) : Option (Int32 × Mem) :=
  nm (put M 145 8 (0 : Int32)) fun (M1 : Mem) => nm ((M1 rr 18) - (1 : Int32)) fun (x2 : Int32) => lp_M_archivedBefore_15 N rr a1 N x2 M1 (fun (a7 : Int32) (M6 : Mem) => some (a7, M6))
def lp_M_meanGust_20 (N0 rr : Nat) (a1 : Int32)  : Nat → Int32 × Int32 → Mem → (Int32 × Int32 → Mem → Option (UInt64 × Mem)) → Option (UInt64 × Mem)
  | 0, _, _, _ => none
  | N + 1, v20, M, k20 => if v20.2 < (M rr 18) then (bnd (f_M_ofArchive rr v20.2 (1 : Int32) M) fun (x5 : Int32) (M6 : Mem) => if (x5 / (100 : Int32)) = a1 then (bnd (f_M_ofArchive rr v20.2 (2 : Int32) M6) fun (x7 : Int32) (M8 : Mem) => nm (v20.1 + x7) fun (x9 : Int32) => nm (v20.2 + (1 : Int32)) fun (x10 : Int32) => lp_M_meanGust_20 N0 rr a1 N (x9, x10) M8 k20) else (nm (v20.1 + (0 : Int32)) fun (x11 : Int32) => nm (v20.2 + (1 : Int32)) fun (x12 : Int32) => lp_M_meanGust_20 N0 rr a1 N (x11, x12) M6 k20)) else (k20 (v20.1, v20.2) M)
def f_M_meanGust (N : Nat) (rr : Nat) (a1 : Int32) (M : Mem) : Option (UInt64 × Mem) :=
  bnd (f_M_inRange a1 (0 : Int32) (6 : Int32) M) fun (x1 : Bool) (M2 : Mem) => bnd (f_M_lacks x1 M2) fun (x3 : Bool) (M4 : Mem) => if x3 = true then (some (0, M4)) else (lp_M_meanGust_20 N rr a1 N ((0 : Int32), (0 : Int32)) M4 (fun (a14 : Int32 × Int32) (M13 : Mem) => bnd (f_M_countBetween N rr ((100 : Int32) * a1) ((((100 : Int32) * a1) + (100 : Int32)) - (1 : Int32)) M13) fun (x15 : Int32) (M16 : Mem) => bnd (f_M_mean a14.1 x15 M16) fun (x17 : UInt64) (M18 : Mem) => some (x17, M18)))
def f_M_archivedShare (rr : Nat) (M : Mem) : Option (UInt32 × Mem) :=
  nm (put M 145 8 (0 : Int32)) fun (M1 : Mem) => if (M1 rr 19) = 0 then (some (0, M1)) else (grd (nn32 (FP.fdiv (FP.i2f (M1 rr 18)) (FP.i2f (M1 rr 19)))) (some (FP.fdiv (FP.i2f (M1 rr 18)) (FP.i2f (M1 rr 19)), M1)))
def lp_M_disorder_5 (N0 rr : Nat) (a1 : Int32) (a2 : Int32)  : Nat → Int32 × Int32 → Mem → (Int32 × Int32 → Mem → Option (Int32 × Mem)) → Option (Int32 × Mem)
  | 0, _, _, _ => none
  | N + 1, v5, M, k5 => if v5.2 < a2 then (nm (a1 + ((3 : Int32) * v5.2)) fun (x1 : Int32) => grd (inB (x1 + (0 : Int32)) 405) (grd (inB ((x1 - (3 : Int32)) + (0 : Int32)) 405) (jn (fun (x3 : Bool) (M4 : Mem) => nm (v5.1 + (b2i x3)) fun (x5 : Int32) => nm (v5.2 + (1 : Int32)) fun (x6 : Int32) => lp_M_disorder_5 N0 rr a1 a2 N (x5, x6) M4 k5) (fun j2 => if (M rr (x1 + (0 : Int32)).toNatClampNeg) ≤ (M rr ((x1 - (3 : Int32)) + (0 : Int32)).toNatClampNeg) then (j2 true M) else (j2 false M))))) else (k5 (v5.1, v5.2) M)
def f_M_disorder (N : Nat) (rr : Nat) (a1 : Int32) (a2 : Int32) (M : Mem) : Option (Int32 × Mem) :=
  lp_M_disorder_5 N rr a1 a2 N ((0 : Int32), (1 : Int32)) M (fun (a8 : Int32 × Int32) (M7 : Mem) => some (a8.1, M7))
def f_M_gap (N : Nat) (rr : Nat) (M : Mem) : Option (Int32 × Mem) :=
  nm (put M 145 8 (0 : Int32)) fun (M1 : Mem) => bnd (f_M_sizeOf ((((M1 rr 19) - (M1 rr 17)) - (M1 rr 18)) - (M1 rr 20)) M1) fun (x2 : Int32) (M3 : Mem) => bnd (f_M_disorder N rr (45 : Int32) (M3 rr 17) M3) fun (x4 : Int32) (M5 : Mem) => bnd (f_M_disorder N rr (135 : Int32) (M5 rr 18) M5) fun (x6 : Int32) (M7 : Mem) => some ((x2 + x4) + x6, M7)
def f_M_bufferWind (rr : Nat) (a1 : Int32) (M : Mem) : Option (Mem) :=
  if (M rr 16) = (8 : Int32) then (nm (put M rr 16 ((M rr 16) - (1 : Int32))) fun (M1 : Mem) => grd (cpB (38 : Int32) (37 : Int32) (7 : Int32) 405 405) (nm (setR M1 rr (va_cpy (M1 rr) (M1 rr) (38 : Int32).toNatClampNeg (37 : Int32).toNatClampNeg (7 : Int32).toNatClampNeg)) fun (M2 : Mem) => grd (inB ((37 : Int32) + (M2 rr 16)) 405) (nm (put M2 rr ((37 : Int32) + (M2 rr 16)).toNatClampNeg a1) fun (M3 : Mem) => nm (put M3 rr 16 ((M3 rr 16) + (1 : Int32))) fun (M4 : Mem) => some M4))) else (grd (inB ((37 : Int32) + (M rr 16)) 405) (nm (put M rr ((37 : Int32) + (M rr 16)).toNatClampNeg a1) fun (M5 : Mem) => nm (put M5 rr 16 ((M5 rr 16) + (1 : Int32))) fun (M6 : Mem) => some M6))
def f_M_snap (rr : Nat) (a1 : Int32) (M : Mem) : Option (Mem) :=
  nm (put M rr 6 (2 : Int32)) fun (M1 : Mem) => nm (put M1 rr 10 ((a1 * (M1 rr 7)) / (10 : Int32))) fun (M2 : Mem) => nm (put M2 rr 7 (0 : Int32)) fun (M3 : Mem) => nm (put M3 rr 8 (0 : Int32)) fun (M4 : Mem) => nm (put M4 rr 11 (120 : Int32)) fun (M5 : Mem) => nm (put M5 rr 14 ((M5 rr 14) + (1 : Int32))) fun (M6 : Mem) => some M6
def f_M_strain (rr : Nat) (a1 : Int32) (M : Mem) : Option (Mem) :=
  bnd (f_M_load rr a1 M) fun (x1 : Int32) (M2 : Mem) => bnd (f_M_most (0 : Int32) (x1 - (M2 rr 2)) M2) fun (x3 : Int32) (M4 : Mem) => nm (put M4 rr 9 ((M rr 9) + x3)) fun (M5 : Mem) => if (M5 rr 9) < (M5 rr 3) then (some M5) else (bndM (f_M_snap rr a1 M5) fun (M7 : Mem) => some M7)
def f_M_climb (rr : Nat) (a1 : Int32) (M : Mem) : Option (Mem) :=
  nm (M rr 7) fun (x1 : Int32) => if a1 < (5 : Int32) then (bnd (f_M_most (0 : Int32) (x1 - ((6 : Int32) - a1)) M) fun (x2 : Int32) (M3 : Mem) => nm (put M3 rr 7 x2) fun (M4 : Mem) => if (M4 rr 7) = 0 then (nm (put M4 rr 6 (0 : Int32)) fun (M5 : Mem) => some M5) else (some M4)) else (bnd (f_M_least (x1 + a1) (M rr 8) M) fun (x6 : Int32) (M7 : Mem) => nm (put M7 rr 7 x6) fun (M8 : Mem) => if (M8 rr 7) = 0 then (nm (put M8 rr 6 (0 : Int32)) fun (M9 : Mem) => some M9) else (some M8))
def f_M_makeSample (N : Nat) (rr : Nat) (M : Mem) : Option (Mem) :=
  if (M rr 17) = (30 : Int32) then (nm (put M rr 17 ((M rr 17) - (1 : Int32))) fun (M1 : Mem) => nm (put M1 rr 20 ((M1 rr 20) + (1 : Int32))) fun (M2 : Mem) => grd (cpB (48 : Int32) (45 : Int32) (87 : Int32) 405 405) (nm (setR M2 rr (va_cpy (M2 rr) (M2 rr) (48 : Int32).toNatClampNeg (45 : Int32).toNatClampNeg (87 : Int32).toNatClampNeg)) fun (M3 : Mem) => nm ((45 : Int32) + ((3 : Int32) * (M3 rr 17))) fun (x4 : Int32) => grd (inB (x4 + (0 : Int32)) 405) (nm (put M3 rr (x4 + (0 : Int32)).toNatClampNeg (M3 rr 0)) fun (M5 : Mem) => grd (inB (x4 + (1 : Int32)) 405) (nm (put M5 rr (x4 + (1 : Int32)).toNatClampNeg (M5 rr 7)) fun (M6 : Mem) => bnd (f_M_greatest N rr M6) fun (x7 : Int32) (M8 : Mem) => grd (inB (x4 + (2 : Int32)) 405) (nm (put M8 rr (x4 + (2 : Int32)).toNatClampNeg x7) fun (M9 : Mem) => nm (put M9 rr 17 ((M9 rr 17) + (1 : Int32))) fun (M10 : Mem) => nm (put M10 rr 19 ((M10 rr 19) + (1 : Int32))) fun (M11 : Mem) => some M11))))) else (nm ((45 : Int32) + ((3 : Int32) * (M rr 17))) fun (x12 : Int32) => grd (inB (x12 + (0 : Int32)) 405) (nm (put M rr (x12 + (0 : Int32)).toNatClampNeg (M rr 0)) fun (M13 : Mem) => grd (inB (x12 + (1 : Int32)) 405) (nm (put M13 rr (x12 + (1 : Int32)).toNatClampNeg (M13 rr 7)) fun (M14 : Mem) => bnd (f_M_greatest N rr M14) fun (x15 : Int32) (M16 : Mem) => grd (inB (x12 + (2 : Int32)) 405) (nm (put M16 rr (x12 + (2 : Int32)).toNatClampNeg x15) fun (M17 : Mem) => nm (put M17 rr 17 ((M17 rr 17) + (1 : Int32))) fun (M18 : Mem) => nm (put M18 rr 19 ((M18 rr 19) + (1 : Int32))) fun (M19 : Mem) => some M19))))
def f_M_fly (N : Nat) (rr : Nat) (M : Mem) : Option (Mem) :=
  bnd (f_M_windNow rr (M rr 7) M) fun (x1 : Int32) (M2 : Mem) => nm (put M2 rr 12 ((M2 rr 12) + (1 : Int32))) fun (M3 : Mem) => bndM (f_M_bufferWind rr x1 M3) fun (M5 : Mem) => bndM (f_M_strain rr x1 M5) fun (M7 : Mem) => bnd (f_M_is rr (1 : Int32) M7) fun (x8 : Bool) (M9 : Mem) => if x8 = true then (bndM (f_M_climb rr x1 M9) fun (M11 : Mem) => bnd (f_M_is rr (1 : Int32) M11) fun (x12 : Bool) (M13 : Mem) => if x12 = true then (grd (nzB (M13 rr 4)) (if (irm (M13 rr 12) (M13 rr 4)) = 0 then (bndM (f_M_makeSample N rr M13) fun (M15 : Mem) => some M15) else (some M13))) else (some M13)) else (bnd (f_M_is rr (1 : Int32) M9) fun (x16 : Bool) (M17 : Mem) => if x16 = true then (grd (nzB (M17 rr 4)) (if (irm (M17 rr 12) (M17 rr 4)) = 0 then (bndM (f_M_makeSample N rr M17) fun (M19 : Mem) => some M19) else (some M17))) else (some M17))
def f_M_passTick (N : Nat) (rr : Nat) (M : Mem) : Option (Mem) :=
  if (M rr 0) = (10000 : Int32) then (some M) else (bnd (f_M_is rr (2 : Int32) M) fun (x1 : Bool) (M2 : Mem) => if x1 = true then (bnd (f_M_most (0 : Int32) ((M2 rr 11) - (1 : Int32)) M2) fun (x3 : Int32) (M4 : Mem) => nm (put M4 rr 11 x3) fun (M5 : Mem) => nm (put M5 rr 0 ((M5 rr 0) + (1 : Int32))) fun (M6 : Mem) => some M6) else (bnd (f_M_is rr (1 : Int32) M2) fun (x7 : Bool) (M8 : Mem) => if x7 = true then (bndM (f_M_fly N rr M8) fun (M10 : Mem) => nm (put M10 rr 0 ((M10 rr 0) + (1 : Int32))) fun (M11 : Mem) => some M11) else (nm (put M8 rr 0 ((M8 rr 0) + (1 : Int32))) fun (M12 : Mem) => some M12)))
def lp_M_pass_2 (N0 rr : Nat) (a1 : Int32)  : Nat → Int32 → Mem → (Int32 → Mem → Option (Mem)) → Option (Mem)
  | 0, _, _, _ => none
  | N + 1, v2, M, k2 => if v2 < a1 then (bndM (f_M_passTick N0 rr M) fun (M2 : Mem) => nm (v2 + (1 : Int32)) fun (x3 : Int32) => lp_M_pass_2 N0 rr a1 N x3 M2 k2) else (k2 v2 M)
def f_M_pass (N : Nat) (rr : Nat) (a1 : Int32) (M : Mem) : Option (Mem) :=
  lp_M_pass_2 N rr a1 N (0 : Int32) M (fun (a5 : Int32) (M4 : Mem) => some M4)
def f_M_whyNotLaunch (rr : Nat) (M : Mem) : Option (Int32 × Mem) :=
  bnd (f_M_is rr (1 : Int32) M) fun (x1 : Bool) (M2 : Mem) => if x1 = true then (some ((1 : Int32), M2)) else (bnd (f_M_is rr (2 : Int32) M2) fun (x3 : Bool) (M4 : Mem) => if x3 = true then (some ((2 : Int32), M4)) else (if (M4 rr 8) < (10 : Int32) then (some ((3 : Int32), M4)) else (bnd (f_M_windNow rr (0 : Int32) M4) fun (x5 : Int32) (M6 : Mem) => if x5 < (5 : Int32) then (some ((4 : Int32), M6)) else (some ((0 : Int32), M6)))))
def f_M_launchObstacle (rr : Nat) (M : Mem) : Option (Int32 × Mem) :=
  nm (put M 145 8 (0 : Int32)) fun (M1 : Mem) => bnd (f_M_whyNotLaunch rr M1) fun (x2 : Int32) (M3 : Mem) => some (x2, M3)
def f_M_copy (a1 : Nat) (a2 : Int32) (a3 : Nat) (a4 : Int32) (M : Mem) : Option (Mem) :=
  grd (cpB ((405 : Int32) * a2) ((405 : Int32) * a4) (405 : Int32) (zn a1) (zn a3)) (nm (setR M a3 (va_cpy (M a1) (M a3) ((405 : Int32) * a2).toNatClampNeg ((405 : Int32) * a4).toNatClampNeg (405 : Int32).toNatClampNeg)) fun (M1 : Mem) => some M1)
def f_M_putAside (rr : Nat) (M : Mem) : Option (Mem) :=
  bndM (f_M_copy rr (0 : Int32) 148 (0 : Int32) M) fun (M2 : Mem) => some M2
def f_M_laidBack (rr : Nat) (a1 : Int32) (M : Mem) : Option (Int32 × Mem) :=
  bndM (f_M_copy 148 (0 : Int32) rr (0 : Int32) M) fun (M2 : Mem) => some (a1, M2)
def f_M_heightAfter (N : Nat) (rr : Nat) (a1 : Int32) (M : Mem) : Option (Int32 × Mem) :=
  bnd (f_M_inRange a1 (0 : Int32) (100 : Int32) M) fun (x1 : Bool) (M2 : Mem) => bnd (f_M_lacks x1 M2) fun (x3 : Bool) (M4 : Mem) => if x3 = true then (some ((0 : Int32), M4)) else (bndM (f_M_putAside rr M4) fun (M6 : Mem) => bndM (f_M_pass N rr a1 M6) fun (M8 : Mem) => bnd (f_M_laidBack rr (M8 rr 7) M8) fun (x9 : Int32) (M10 : Mem) => some (x9, M10))
def lp_M_untilSnap_10 (N0 rr : Nat)  (c1 : Int32) : Nat → Int32 → Mem → (Int32 → Mem → Option (Int32 × Mem)) → Option (Int32 × Mem)
  | 0, _, _, _ => none
  | N + 1, v10, M, k10 => if v10 ≤ (200 : Int32) then (bndM (f_M_passTick N0 rr M) fun (M3 : Mem) => if c1 < (M3 rr 14) then (some (v10, M3)) else (nm (v10 + (1 : Int32)) fun (x4 : Int32) => lp_M_untilSnap_10 N0 rr c1 N x4 M3 k10)) else (k10 v10 M)
def f_M_untilSnap (N : Nat) (rr : Nat) (M : Mem) : Option (Int32 × Mem) :=
  nm (M rr 14) fun (x1 : Int32) => lp_M_untilSnap_10 N rr x1 N (1 : Int32) M (fun (a6 : Int32) (M5 : Mem) => some ((-1 : Int32), M5))
def f_M_ticksToSnap (N : Nat) (rr : Nat) (M : Mem) : Option (Int32 × Mem) :=
  nm (put M 145 8 (0 : Int32)) fun (M1 : Mem) => bndM (f_M_putAside rr M1) fun (M3 : Mem) => bnd (f_M_untilSnap N rr M3) fun (x4 : Int32) (M5 : Mem) => bnd (f_M_laidBack rr x4 M5) fun (x6 : Int32) (M7 : Mem) => some (x6, M7)
def lp_M_greatestGust_4 (N0 rr : Nat)   : Nat → Int32 × Int32 → Mem → (Int32 × Int32 → Mem → Option (Int32 × Mem)) → Option (Int32 × Mem)
  | 0, _, _, _ => none
  | N + 1, v4, M, k4 => if v4.2 < (M rr 5) then (grd (inB ((21 : Int32) + v4.2) 405) (bnd (f_M_most v4.1 (M rr ((21 : Int32) + v4.2).toNatClampNeg) M) fun (x1 : Int32) (M2 : Mem) => nm (v4.2 + (1 : Int32)) fun (x3 : Int32) => lp_M_greatestGust_4 N0 rr N (x1, x3) M2 k4)) else (k4 (v4.1, v4.2) M)
def f_M_greatestGust (N : Nat) (rr : Nat) (M : Mem) : Option (Int32 × Mem) :=
  lp_M_greatestGust_4 N rr N ((0 : Int32), (0 : Int32)) M (fun (a5 : Int32 × Int32) (M4 : Mem) => some (a5.1, M4))
def lp_M_safeHeight_14 (N0 rr : Nat)  (c1 : Int32) : Nat → Int32 → Mem → (Int32 → Mem → Option (Int32 × Mem)) → Option (Int32 × Mem)
  | 0, _, _, _ => none
  | N + 1, v14, M, k14 => if v14 < 0 then (k14 v14 M) else (bnd (f_M_load rr (c1 + (v14 / (100 : Int32))) M) fun (x4 : Int32) (M5 : Mem) => if (M5 rr 2) < x4 then (nm (v14 + (-1 : Int32)) fun (x6 : Int32) => lp_M_safeHeight_14 N0 rr c1 N x6 M5 k14) else (k14 v14 M5))
def f_M_safeHeight (N : Nat) (rr : Nat) (M : Mem) : Option (Int32 × Mem) :=
  nm (put M 145 8 (0 : Int32)) fun (M1 : Mem) => bnd (f_M_greatestGust N rr M1) fun (x2 : Int32) (M3 : Mem) => lp_M_safeHeight_14 N rr x2 N (600 : Int32) M3 (fun (a8 : Int32) (M7 : Mem) => some (a8, M7))
def f_M_doLaunch (rr : Nat) (M : Mem) : Option (Int32 × Mem) :=
  bnd (f_M_whyNotLaunch rr M) fun (x1 : Int32) (M2 : Mem) => if x1 = 0 then (nm (put M2 rr 6 (1 : Int32)) fun (M3 : Mem) => nm (put M3 rr 7 (10 : Int32)) fun (M4 : Mem) => nm (put M4 rr 12 (0 : Int32)) fun (M5 : Mem) => nm (put M5 rr 16 (0 : Int32)) fun (M6 : Mem) => nm (put M6 rr 13 ((M6 rr 13) + (1 : Int32))) fun (M7 : Mem) => nm (put M7 145 10 (M7 rr 13)) fun (M8 : Mem) => some ((0 : Int32), M8)) else (some ((1 : Int32), M2))
def f_M_doOut (rr : Nat) (a1 : Int32) (M : Mem) : Option (Int32 × Mem) :=
  bnd (f_M_is rr (2 : Int32) M) fun (x1 : Bool) (M2 : Mem) => if x1 = true then (some ((2 : Int32), M2)) else (if (600 : Int32) < ((M2 rr 8) + a1) then (some ((2 : Int32), M2)) else (nm (put M2 rr 8 ((M2 rr 8) + a1)) fun (M3 : Mem) => nm (put M3 145 10 (M3 rr 8)) fun (M4 : Mem) => some ((0 : Int32), M4)))
def f_M_doIn (rr : Nat) (a1 : Int32) (M : Mem) : Option (Int32 × Mem) :=
  bnd (f_M_is rr (2 : Int32) M) fun (x1 : Bool) (M2 : Mem) => if x1 = true then (some ((2 : Int32), M2)) else (bnd (f_M_most (0 : Int32) ((M2 rr 8) - a1) M2) fun (x3 : Int32) (M4 : Mem) => nm (put M4 rr 8 x3) fun (M5 : Mem) => bnd (f_M_least (M5 rr 7) (M5 rr 8) M5) fun (x6 : Int32) (M7 : Mem) => nm (put M7 rr 7 x6) fun (M8 : Mem) => if (M8 rr 7) = 0 then (nm (put M8 rr 6 (0 : Int32)) fun (M9 : Mem) => nm (put M9 145 10 (M9 rr 8)) fun (M10 : Mem) => some ((0 : Int32), M10)) else (nm (put M8 145 10 (M8 rr 8)) fun (M11 : Mem) => some ((0 : Int32), M11)))
def f_M_doBridle (rr : Nat) (a1 : Int32) (a2 : Int32) (M : Mem) : Option (Int32 × Mem) :=
  bnd (f_M_is rr (0 : Int32) M) fun (x1 : Bool) (M2 : Mem) => if x1 = true then (nm (put M2 145 10 (M2 rr 9)) fun (M3 : Mem) => nm (put M3 rr 9 (0 : Int32)) fun (M4 : Mem) => nm (put M4 rr 2 a1) fun (M5 : Mem) => nm (put M5 rr 3 a2) fun (M6 : Mem) => some ((0 : Int32), M6)) else (some ((2 : Int32), M2))
def f_M_doEvery (rr : Nat) (a1 : Int32) (M : Mem) : Option (Int32 × Mem) :=
  nm (put M 145 10 (M rr 4)) fun (M1 : Mem) => nm (put M1 rr 4 a1) fun (M2 : Mem) => some ((0 : Int32), M2)
def f_M_doSearch (rr : Nat) (a1 : Int32) (M : Mem) : Option (Int32 × Mem) :=
  bnd (f_M_is rr (2 : Int32) M) fun (x1 : Bool) (M2 : Mem) => if x1 = true then (bnd (f_M_sizeOf (a1 - (M2 rr 10)) M2) fun (x3 : Int32) (M4 : Mem) => jn (fun (x6 : Bool) (M7 : Mem) => nm (put M7 rr 15 ((M7 rr 15) + (1 : Int32))) fun (M8 : Mem) => jn (fun (x10 : Int32) (M11 : Mem) => if x3 ≤ x10 then (nm (put M11 rr 6 (0 : Int32)) fun (M12 : Mem) => nm (put M12 145 10 (0 : Int32)) fun (M13 : Mem) => some ((0 : Int32), M13)) else (if x6 = true then (nm (put M11 145 10 (-1 : Int32)) fun (M14 : Mem) => some ((0 : Int32), M14)) else (nm (put M11 145 10 (x3 / (20 : Int32))) fun (M15 : Mem) => some ((0 : Int32), M15)))) (fun j9 => if x6 = true then (j9 (3 : Int32) M8) else (j9 (20 : Int32) M8))) (fun j5 => if (M4 rr 11) = 0 then (j5 true M4) else (j5 false M4))) else (some ((2 : Int32), M2))
def f_M_doArchive (rr : Nat) (M : Mem) : Option (Int32 × Mem) :=
  bnd (f_M_is rr (0 : Int32) M) fun (x1 : Bool) (M2 : Mem) => if x1 = true then (if (90 : Int32) < ((M2 rr 18) + (M2 rr 17)) then (some ((1 : Int32), M2)) else (grd (cpB (45 : Int32) ((135 : Int32) + ((3 : Int32) * (M2 rr 18))) ((3 : Int32) * (M2 rr 17)) 405 405) (nm (setR M2 rr (va_cpy (M2 rr) (M2 rr) (45 : Int32).toNatClampNeg ((135 : Int32) + ((3 : Int32) * (M2 rr 18))).toNatClampNeg ((3 : Int32) * (M2 rr 17)).toNatClampNeg)) fun (M3 : Mem) => nm (put M3 rr 18 ((M3 rr 18) + (M3 rr 17))) fun (M4 : Mem) => nm (put M4 145 10 (M4 rr 17)) fun (M5 : Mem) => nm (put M5 rr 17 (0 : Int32)) fun (M6 : Mem) => some ((0 : Int32), M6)))) else (some ((1 : Int32), M2))
def f_M_doWait (N : Nat) (rr : Nat) (a1 : Int32) (M : Mem) : Option (Int32 × Mem) :=
  if (10000 : Int32) < ((M rr 0) + a1) then (some ((2 : Int32), M)) else (nm (M rr 19) fun (x1 : Int32) => bndM (f_M_pass N rr a1 M) fun (M3 : Mem) => nm (put M3 145 10 ((M3 rr 19) - x1)) fun (M4 : Mem) => some ((0 : Int32), M4))
def f_M_keep  (M : Mem) : Option (Mem) :=
  bndM (f_M_copy 146 (0 : Int32) 149 (0 : Int32) M) fun (M2 : Mem) => some M2
def lp_M_record_11 (N0 rr : Nat)   : Nat → Int32 → Mem → (Int32 → Mem → Option (Mem)) → Option (Mem)
  | 0, _, _, _ => none
  | N + 1, v11, M, k11 => if v11 < (8 : Int32) then (bndM (f_M_copy 151 v11 151 (v11 - (1 : Int32)) M) fun (M2 : Mem) => nm (v11 + (1 : Int32)) fun (x3 : Int32) => lp_M_record_11 N0 rr N x3 M2 k11) else (k11 v11 M)
def f_M_record (N : Nat) (rr : Nat) (M : Mem) : Option (Mem) :=
  if (M 145 7) = (8 : Int32) then (lp_M_record_11 N rr N (1 : Int32) M (fun (a5 : Int32) (M4 : Mem) => nm (put M4 145 7 ((M4 145 7) - (1 : Int32))) fun (M6 : Mem) => bndM (f_M_copy 149 (0 : Int32) 151 (M6 145 7) M6) fun (M8 : Mem) => nm (put M8 145 7 ((M8 145 7) + (1 : Int32))) fun (M9 : Mem) => some M9)) else (bndM (f_M_copy 149 (0 : Int32) 151 (M 145 7) M) fun (M11 : Mem) => nm (put M11 145 7 ((M11 145 7) + (1 : Int32))) fun (M12 : Mem) => some M12)
def f_M_ends (N : Nat) (rr : Nat) (a1 : Int32) (M : Mem) : Option (Int32 × Mem) :=
  nm (put M 145 8 a1) fun (M1 : Mem) => if a1 = 0 then (bndM (f_M_record N rr M1) fun (M3 : Mem) => some (M3 145 10, M3)) else (some ((0 : Int32), M1))
def f_M_launch (N : Nat) (rr : Nat) (M : Mem) : Option (Int32 × Mem) :=
  bndM (f_M_keep M) fun (M2 : Mem) => bnd (f_M_doLaunch rr M2) fun (x3 : Int32) (M4 : Mem) => bnd (f_M_ends N rr x3 M4) fun (x5 : Int32) (M6 : Mem) => some (x5, M6)
def f_M_payOut (N : Nat) (rr : Nat) (a1 : Int32) (M : Mem) : Option (Int32 × Mem) :=
  bnd (f_M_inRange a1 (1 : Int32) (200 : Int32) M) fun (x1 : Bool) (M2 : Mem) => bnd (f_M_lacks x1 M2) fun (x3 : Bool) (M4 : Mem) => if x3 = true then (some ((0 : Int32), M4)) else (bndM (f_M_keep M4) fun (M6 : Mem) => bnd (f_M_doOut rr a1 M6) fun (x7 : Int32) (M8 : Mem) => bnd (f_M_ends N rr x7 M8) fun (x9 : Int32) (M10 : Mem) => some (x9, M10))
def f_M_reelIn (N : Nat) (rr : Nat) (a1 : Int32) (M : Mem) : Option (Int32 × Mem) :=
  bnd (f_M_inRange a1 (1 : Int32) (200 : Int32) M) fun (x1 : Bool) (M2 : Mem) => bnd (f_M_lacks x1 M2) fun (x3 : Bool) (M4 : Mem) => if x3 = true then (some ((0 : Int32), M4)) else (bndM (f_M_keep M4) fun (M6 : Mem) => bnd (f_M_doIn rr a1 M6) fun (x7 : Int32) (M8 : Mem) => bnd (f_M_ends N rr x7 M8) fun (x9 : Int32) (M10 : Mem) => some (x9, M10))
def f_M_replaceBridle (N : Nat) (rr : Nat) (a1 : Int32) (a2 : Int32) (M : Mem) : Option (Int32 × Mem) :=
  bnd (f_M_inRange a1 (1 : Int32) (999 : Int32) M) fun (x1 : Bool) (M2 : Mem) => jn (fun (x4 : Bool) (M5 : Mem) => bnd (f_M_lacks x4 M5) fun (x6 : Bool) (M7 : Mem) => if x6 = true then (some ((0 : Int32), M7)) else (bndM (f_M_keep M7) fun (M9 : Mem) => bnd (f_M_doBridle rr a1 a2 M9) fun (x10 : Int32) (M11 : Mem) => bnd (f_M_ends N rr x10 M11) fun (x12 : Int32) (M13 : Mem) => some (x12, M13))) (fun j3 => if x1 = true then (bnd (f_M_inRange a2 (1 : Int32) (9999 : Int32) M2) fun (x14 : Bool) (M15 : Mem) => if x14 = true then (j3 true M15) else (j3 false M15)) else (j3 false M2))
def f_M_setInterval (N : Nat) (rr : Nat) (a1 : Int32) (M : Mem) : Option (Int32 × Mem) :=
  bnd (f_M_inRange a1 (1 : Int32) (20 : Int32) M) fun (x1 : Bool) (M2 : Mem) => bnd (f_M_lacks x1 M2) fun (x3 : Bool) (M4 : Mem) => if x3 = true then (some ((0 : Int32), M4)) else (bndM (f_M_keep M4) fun (M6 : Mem) => bnd (f_M_doEvery rr a1 M6) fun (x7 : Int32) (M8 : Mem) => bnd (f_M_ends N rr x7 M8) fun (x9 : Int32) (M10 : Mem) => some (x9, M10))
def f_M_search (N : Nat) (rr : Nat) (a1 : Int32) (M : Mem) : Option (Int32 × Mem) :=
  bnd (f_M_inRange a1 (0 : Int32) (2200 : Int32) M) fun (x1 : Bool) (M2 : Mem) => bnd (f_M_lacks x1 M2) fun (x3 : Bool) (M4 : Mem) => if x3 = true then (some ((0 : Int32), M4)) else (bndM (f_M_keep M4) fun (M6 : Mem) => bnd (f_M_doSearch rr a1 M6) fun (x7 : Int32) (M8 : Mem) => bnd (f_M_ends N rr x7 M8) fun (x9 : Int32) (M10 : Mem) => some (x9, M10))
def f_M_archive (N : Nat) (rr : Nat) (M : Mem) : Option (Int32 × Mem) :=
  bndM (f_M_keep M) fun (M2 : Mem) => bnd (f_M_doArchive rr M2) fun (x3 : Int32) (M4 : Mem) => bnd (f_M_ends N rr x3 M4) fun (x5 : Int32) (M6 : Mem) => some (x5, M6)
def f_M_passTicks (N : Nat) (rr : Nat) (a1 : Int32) (M : Mem) : Option (Int32 × Mem) :=
  bnd (f_M_inRange a1 (1 : Int32) (60 : Int32) M) fun (x1 : Bool) (M2 : Mem) => bnd (f_M_lacks x1 M2) fun (x3 : Bool) (M4 : Mem) => if x3 = true then (some ((0 : Int32), M4)) else (bndM (f_M_keep M4) fun (M6 : Mem) => bnd (f_M_doWait N rr a1 M6) fun (x7 : Int32) (M8 : Mem) => bnd (f_M_ends N rr x7 M8) fun (x9 : Int32) (M10 : Mem) => some (x9, M10))
def f_M_write (a1 : Int32) (M : Mem) : Option (Mem) :=
  grd (inB (M 145 13) 400) (nm (put M 152 (M 145 13).toNatClampNeg a1) fun (M1 : Mem) => nm (put M1 145 13 ((M1 145 13) + (1 : Int32))) fun (M2 : Mem) => some M2)
def lp_M_writeNumber_2 (N0 rr : Nat) (a1 : Int32)  : Nat → Int32 → Mem → (Int32 → Mem → Option (Mem)) → Option (Mem)
  | 0, _, _, _ => none
  | N + 1, v2, M, k2 => grd (nzB v2) (if (9 : Int32) < (a1 / v2) then (nm (v2 * (10 : Int32)) fun (x1 : Int32) => lp_M_writeNumber_2 N0 rr a1 N x1 M k2) else (k2 v2 M))
def lp_M_writeNumber_20 (N0 rr : Nat) (a1 : Int32)  : Nat → Int32 → Mem → (Int32 → Mem → Option (Mem)) → Option (Mem)
  | 0, _, _, _ => none
  | N + 1, v20, M, k20 => if 0 < v20 then (grd (nzB v20) (bndM (f_M_write ((48 : Int32) + (irm (a1 / v20) (10 : Int32))) M) fun (M5 : Mem) => nm (v20 / (10 : Int32)) fun (x6 : Int32) => lp_M_writeNumber_20 N0 rr a1 N x6 M5 k20)) else (k20 v20 M)
def f_M_writeNumber (N : Nat) (rr : Nat) (a1 : Int32) (M : Mem) : Option (Mem) :=
  lp_M_writeNumber_2 N rr a1 N (1 : Int32) M (fun (a3 : Int32) (M2 : Mem) => lp_M_writeNumber_20 N rr a1 N a3 M2 (fun (a8 : Int32) (M7 : Mem) => some M7))
def lp_M_writeLogger_12 (N0 rr : Nat)   : Nat → Int32 → Mem → (Int32 → Mem → Option (Int32 × Mem)) → Option (Int32 × Mem)
  | 0, _, _, _ => none
  | N + 1, v12, M, k12 => if v12 < (M rr 17) then (nm ((45 : Int32) + ((3 : Int32) * v12)) fun (x3 : Int32) => if 0 < v12 then (bndM (f_M_write (32 : Int32) M) fun (M5 : Mem) => grd (inB (x3 + (0 : Int32)) 405) (bndM (f_M_writeNumber N0 rr (M5 rr (x3 + (0 : Int32)).toNatClampNeg) M5) fun (M7 : Mem) => bndM (f_M_write (64 : Int32) M7) fun (M9 : Mem) => grd (inB (x3 + (1 : Int32)) 405) (bndM (f_M_writeNumber N0 rr (M9 rr (x3 + (1 : Int32)).toNatClampNeg) M9) fun (M11 : Mem) => bndM (f_M_write (44 : Int32) M11) fun (M13 : Mem) => grd (inB (x3 + (2 : Int32)) 405) (bndM (f_M_writeNumber N0 rr (M13 rr (x3 + (2 : Int32)).toNatClampNeg) M13) fun (M15 : Mem) => nm (v12 + (1 : Int32)) fun (x16 : Int32) => lp_M_writeLogger_12 N0 rr N x16 M15 k12)))) else (grd (inB (x3 + (0 : Int32)) 405) (bndM (f_M_writeNumber N0 rr (M rr (x3 + (0 : Int32)).toNatClampNeg) M) fun (M18 : Mem) => bndM (f_M_write (64 : Int32) M18) fun (M20 : Mem) => grd (inB (x3 + (1 : Int32)) 405) (bndM (f_M_writeNumber N0 rr (M20 rr (x3 + (1 : Int32)).toNatClampNeg) M20) fun (M22 : Mem) => bndM (f_M_write (44 : Int32) M22) fun (M24 : Mem) => grd (inB (x3 + (2 : Int32)) 405) (bndM (f_M_writeNumber N0 rr (M24 rr (x3 + (2 : Int32)).toNatClampNeg) M24) fun (M26 : Mem) => nm (v12 + (1 : Int32)) fun (x27 : Int32) => lp_M_writeLogger_12 N0 rr N x27 M26 k12))))) else (k12 v12 M)
def f_M_writeLogger (N : Nat) (rr : Nat) (M : Mem) : Option (Int32 × Mem) :=
  nm (put M 145 8 (0 : Int32)) fun (M1 : Mem) => nm (put M1 145 13 (0 : Int32)) fun (M2 : Mem) => lp_M_writeLogger_12 N rr N (0 : Int32) M2 (fun (a29 : Int32) (M28 : Mem) => some (M28 145 13, M28))
def f_M_outputByte (a1 : Int32) (M : Mem) : Option (Int32 × Mem) :=
  bnd (f_M_inRange a1 (0 : Int32) ((M 145 13) - (1 : Int32)) M) fun (x1 : Bool) (M2 : Mem) => bnd (f_M_lacks x1 M2) fun (x3 : Bool) (M4 : Mem) => if x3 = true then (some ((0 : Int32), M4)) else (grd (inB a1 400) (some (M4 152 a1.toNatClampNeg, M4)))
def f_M_undoableCount  (M : Mem) : Option (Int32 × Mem) :=
  nm (put M 145 8 (0 : Int32)) fun (M1 : Mem) => some (M1 145 7, M1)
def f_M_undo  (M : Mem) : Option (Int32 × Mem) :=
  jn (fun (x2 : Bool) (M3 : Mem) => bnd (f_M_lacks x2 M3) fun (x4 : Bool) (M5 : Mem) => if x4 = true then (some ((0 : Int32), M5)) else (nm (put M5 145 7 ((M5 145 7) - (1 : Int32))) fun (M6 : Mem) => bndM (f_M_copy 151 (M6 145 7) 146 (0 : Int32) M6) fun (M8 : Mem) => some (M8 145 7, M8))) (fun j1 => if 0 < (M 145 7) then (j1 true M) else (j1 false M))
def f_M_saveSnapshot  (M : Mem) : Option (Mem) :=
  nm (put M 145 8 (0 : Int32)) fun (M1 : Mem) => bndM (f_M_copy 146 (0 : Int32) 150 (0 : Int32) M1) fun (M3 : Mem) => nm (put M3 145 11 (1 : Int32)) fun (M4 : Mem) => some M4
def f_M_restoreSnapshot (rr : Nat) (M : Mem) : Option (Int32 × Mem) :=
  bcase (M 145 11) fun (b1 : Bool) => bnd (f_M_lacks b1 M) fun (x2 : Bool) (M3 : Mem) => if x2 = true then (some ((0 : Int32), M3)) else (bndM (f_M_copy 150 (0 : Int32) 146 (0 : Int32) M3) fun (M5 : Mem) => nm (put M5 145 7 (0 : Int32)) fun (M6 : Mem) => some (M6 rr 0, M6))
def lp_M_appendText_23 (N0 rr : Nat) (a1 : Int32) (a2 : Int32) (a3 : Int32) (a4 : Int32) (a5 : Int32)  : Nat → Int32 → Mem → (Int32 → Mem → Option (Int32 × Mem)) → Option (Int32 × Mem)
  | 0, _, _, _ => none
  | N + 1, v23, M, k23 => if v23 < (20 : Int32) then (jn (fun (x3 : Int32) (M4 : Mem) => grd (inB (M4 145 15) 500) (nm (put M4 153 (M4 145 15).toNatClampNeg ((x3 >>> (((24 : Int32) - ((8 : Int32) * (irm v23 (4 : Int32)))) &&& 31)) &&& (255 : Int32))) fun (M5 : Mem) => nm (put M5 145 15 ((M5 145 15) + (1 : Int32))) fun (M6 : Mem) => nm (v23 + (1 : Int32)) fun (x7 : Int32) => lp_M_appendText_23 N0 rr a1 a2 a3 a4 a5 N x7 M6 k23)) (fun j2 => if v23 < (4 : Int32) then (j2 a1 M) else (if v23 < (8 : Int32) then (j2 a2 M) else (if v23 < (12 : Int32) then (j2 a3 M) else (if v23 < (16 : Int32) then (j2 a4 M) else (j2 a5 M)))))) else (k23 v23 M)
def f_M_appendText (N : Nat) (rr : Nat) (a1 : Int32) (a2 : Int32) (a3 : Int32) (a4 : Int32) (a5 : Int32) (M : Mem) : Option (Int32 × Mem) :=
  nm (put M 145 8 (0 : Int32)) fun (M1 : Mem) => if (500 : Int32) < ((M1 145 15) + (20 : Int32)) then (some ((-1 : Int32), M1)) else (lp_M_appendText_23 N rr a1 a2 a3 a4 a5 N (0 : Int32) M1 (fun (a9 : Int32) (M8 : Mem) => some (M8 145 15, M8)))
def f_M_errorOffset  (M : Mem) : Option (Int32 × Mem) :=
  nm (put M 145 8 (0 : Int32)) fun (M1 : Mem) => some (M1 145 22, M1)
def f_M_byteAt (a1 : Int32) (M : Mem) : Option (Int32 × Mem) :=
  if a1 < (M 145 16) then (grd (inB a1 500) (some (M 153 a1.toNatClampNeg, M))) else (some ((-1 : Int32), M))
def f_M_isLetter (a1 : Int32) (M : Mem) : Option (Bool × Mem) :=
  bnd (f_M_byteAt a1 M) fun (x1 : Int32) (M2 : Mem) => if x1 < (97 : Int32) then (some (false, M2)) else (bnd (f_M_byteAt a1 M2) fun (x3 : Int32) (M4 : Mem) => if x3 ≤ (122 : Int32) then (some (true, M4)) else (some (false, M4)))
def f_M_isDigit (a1 : Int32) (M : Mem) : Option (Bool × Mem) :=
  bnd (f_M_byteAt a1 M) fun (x1 : Int32) (M2 : Mem) => if x1 < (48 : Int32) then (some (false, M2)) else (bnd (f_M_byteAt a1 M2) fun (x3 : Int32) (M4 : Mem) => if x3 ≤ (57 : Int32) then (some (true, M4)) else (some (false, M4)))
def lp_M_scan_0 (N0 rr : Nat)   : Nat → Unit → Mem → (Unit → Mem → Option (Mem)) → Option (Mem)
  | 0, _, _, _ => none
  | N + 1, v0, M, k0 => bnd (f_M_byteAt (M 145 17) M) fun (x1 : Int32) (M2 : Mem) => if x1 = (32 : Int32) then (nm (put M2 145 17 ((M2 145 17) + (1 : Int32))) fun (M3 : Mem) => lp_M_scan_0 N0 rr N () M3 k0) else (bnd (f_M_byteAt (M2 145 17) M2) fun (x4 : Int32) (M5 : Mem) => if x4 = (10 : Int32) then (nm (put M5 145 17 ((M5 145 17) + (1 : Int32))) fun (M6 : Mem) => lp_M_scan_0 N0 rr N () M6 k0) else (k0 () M5))
def lp_M_scan_77 (N0 rr : Nat)   : Nat → Unit → Mem → (Unit → Mem → Option (Mem)) → Option (Mem)
  | 0, _, _, _ => none
  | N + 1, v77, M, k77 => bnd (f_M_isLetter (M 145 17) M) fun (x12 : Bool) (M13 : Mem) => if x12 = true then (nm (put M13 145 17 ((M13 145 17) + (1 : Int32))) fun (M14 : Mem) => lp_M_scan_77 N0 rr N () M14 k77) else (k77 () M13)
def lp_M_scan_120 (N0 rr : Nat)   : Nat → Unit → Mem → (Unit → Mem → Option (Mem)) → Option (Mem)
  | 0, _, _, _ => none
  | N + 1, v120, M, k120 => bnd (f_M_isDigit (M 145 17) M) fun (x20 : Bool) (M21 : Mem) => if x20 = true then (nm (put M21 145 17 ((M21 145 17) + (1 : Int32))) fun (M22 : Mem) => lp_M_scan_120 N0 rr N () M22 k120) else (k120 () M21)
def f_M_scan (N : Nat) (rr : Nat) (M : Mem) : Option (Mem) :=
  lp_M_scan_0 N rr N () M (fun (a8 : Unit) (M7 : Mem) => nm (put M7 145 18 (M7 145 17)) fun (M9 : Mem) => if (M9 145 17) < (M9 145 16) then (bnd (f_M_isLetter (M9 145 17) M9) fun (x10 : Bool) (M11 : Mem) => if x10 = true then (lp_M_scan_77 N rr N () M11 (fun (a16 : Unit) (M15 : Mem) => nm (put M15 145 19 (1 : Int32)) fun (M17 : Mem) => some M17)) else (bnd (f_M_isDigit (M11 145 17) M11) fun (x18 : Bool) (M19 : Mem) => if x18 = true then (lp_M_scan_120 N rr N () M19 (fun (a24 : Unit) (M23 : Mem) => nm (put M23 145 19 (2 : Int32)) fun (M25 : Mem) => some M25)) else (nm (put M19 145 17 ((M19 145 17) + (1 : Int32))) fun (M26 : Mem) => nm (put M26 145 19 (3 : Int32)) fun (M27 : Mem) => some M27))) else (nm (put M9 145 19 (0 : Int32)) fun (M28 : Mem) => some M28))
def f_M_startText (N : Nat) (rr : Nat) (a1 : Int32) (M : Mem) : Option (Mem) :=
  nm (put M 145 16 a1) fun (M1 : Mem) => nm (put M1 145 17 (0 : Int32)) fun (M2 : Mem) => nm (put M2 145 20 (0 : Int32)) fun (M3 : Mem) => nm (put M3 145 23 (0 : Int32)) fun (M4 : Mem) => bndM (f_M_scan N rr M4) fun (M6 : Mem) => some M6
def f_M_finish  (M : Mem) : Option (Int32 × Mem) :=
  nm (put M 145 15 (0 : Int32)) fun (M1 : Mem) => if (M1 145 20) = 0 then (nm (put M1 145 22 (-1 : Int32)) fun (M2 : Mem) => some (M2 145 20, M2)) else (nm (put M1 145 22 (M1 145 21)) fun (M3 : Mem) => some (M3 145 20, M3))
def f_M_check (a1 : Bool) (a2 : Int32) (M : Mem) : Option (Mem) :=
  if a1 = true then (some M) else (if (M 145 20) = 0 then (nm (put M 145 20 a2) fun (M1 : Mem) => nm (put M1 145 21 (M1 145 18)) fun (M2 : Mem) => some M2) else (some M))
def f_M_advance (N : Nat) (rr : Nat) (M : Mem) : Option (Mem) :=
  if (M 145 20) = 0 then (bndM (f_M_scan N rr M) fun (M2 : Mem) => some M2) else (some M)
def f_M_isSymbol (a1 : Int32) (M : Mem) : Option (Bool × Mem) :=
  if (M 145 20) = 0 then (if (M 145 19) = (3 : Int32) then (grd (inB (M 145 18) 500) (if (M 153 (M 145 18).toNatClampNeg) = a1 then (some (true, M)) else (some (false, M)))) else (some (false, M))) else (some (false, M))
def lp_M_isWord_39 (N0 rr : Nat) (a1 : Nat)  : Nat → Bool × Int32 → Mem → (Bool × Int32 → Mem → Option (Bool × Mem)) → Option (Bool × Mem)
  | 0, _, _, _ => none
  | N + 1, v39, M, k39 => if v39.1 = true then (bnd (f_Str_length a1 M) fun (x4 : Int32) (M5 : Mem) => if v39.2 < x4 then (bnd (f_Str_charAt a1 v39.2 M5) fun (x6 : Int32) (M7 : Mem) => grd (inB ((M7 145 18) + v39.2) 500) (jn (fun (x9 : Bool) (M10 : Mem) => nm (v39.2 + (1 : Int32)) fun (x11 : Int32) => lp_M_isWord_39 N0 rr a1 N (x9, x11) M10 k39) (fun j8 => if x6 = (M7 153 ((M7 145 18) + v39.2).toNatClampNeg) then (j8 true M7) else (j8 false M7)))) else (k39 (v39.1, v39.2) M5)) else (k39 (v39.1, v39.2) M)
def f_M_isWord (N : Nat) (rr : Nat) (a1 : Nat) (M : Mem) : Option (Bool × Mem) :=
  jn (fun (x2 : Bool) (M3 : Mem) => lp_M_isWord_39 N rr a1 N (x2, (0 : Int32)) M3 (fun (a13 : Bool × Int32) (M12 : Mem) => some (a13.1, M12))) (fun j1 => if (M 145 20) = 0 then (if (M 145 19) = (1 : Int32) then (bnd (f_Str_length a1 M) fun (x14 : Int32) (M15 : Mem) => if x14 = ((M15 145 17) - (M15 145 18)) then (j1 true M15) else (j1 false M15)) else (j1 false M)) else (j1 false M))
def f_M_expect (N : Nat) (rr : Nat) (a1 : Int32) (M : Mem) : Option (Mem) :=
  bnd (f_M_isSymbol a1 M) fun (x1 : Bool) (M2 : Mem) => bndM (f_M_check x1 (1 : Int32) M2) fun (M4 : Mem) => bndM (f_M_advance N rr M4) fun (M6 : Mem) => some M6
def lp_M_value_7 (N0 rr : Nat)   : Nat → Int32 × Int32 → Mem → (Int32 × Int32 → Mem → Option (Int32 × Mem)) → Option (Int32 × Mem)
  | 0, _, _, _ => none
  | N + 1, v7, M, k7 => if v7.2 < (M 145 17) then (if (M 145 19) = (2 : Int32) then (if (9999999 : Int32) < v7.1 then (nm (v7.2 + (1 : Int32)) fun (x2 : Int32) => lp_M_value_7 N0 rr N (v7.1, x2) M k7) else (grd (inB v7.2 500) (nm ((((10 : Int32) * v7.1) + (M 153 v7.2.toNatClampNeg)) - (48 : Int32)) fun (x3 : Int32) => nm (v7.2 + (1 : Int32)) fun (x4 : Int32) => lp_M_value_7 N0 rr N (x3, x4) M k7))) else (k7 (v7.1, v7.2) M)) else (k7 (v7.1, v7.2) M)
def f_M_value (N : Nat) (rr : Nat) (M : Mem) : Option (Int32 × Mem) :=
  nm (M 145 18) fun (x1 : Int32) => lp_M_value_7 N rr N ((0 : Int32), x1) M (fun (a6 : Int32 × Int32) (M5 : Mem) => some (a6.1, M5))
def f_M_look (N : Nat) (rr : Nat) (a1 : Int32) (a2 : Int32) (M : Mem) : Option (Int32 × Mem) :=
  jn (fun (x2 : Bool) (M3 : Mem) => bndM (f_M_check x2 (1 : Int32) M3) fun (M5 : Mem) => bnd (f_M_value N rr M5) fun (x6 : Int32) (M7 : Mem) => bnd (f_M_inRange x6 a1 a2 M7) fun (x8 : Bool) (M9 : Mem) => bndM (f_M_check x8 (2 : Int32) M9) fun (M11 : Mem) => if (M11 145 20) = 0 then (some (x6, M11)) else (some (a1, M11))) (fun j1 => if (M 145 19) = (2 : Int32) then (j1 true M) else (j1 false M))
def f_M_readNumber (N : Nat) (rr : Nat) (a1 : Int32) (a2 : Int32) (M : Mem) : Option (Int32 × Mem) :=
  bnd (f_M_look N rr a1 a2 M) fun (x1 : Int32) (M2 : Mem) => bndM (f_M_advance N rr M2) fun (M4 : Mem) => some (x1, M4)
def f_M_errorCode  (M : Mem) : Option (Int32 × Mem) :=
  nm (put M 145 8 (0 : Int32)) fun (M1 : Mem) => some (M1 145 9, M1)
def f_M_isFaulty  (M : Mem) : Option (Bool × Mem) :=
  bnd (f_M_finish M) fun (x1 : Int32) (M2 : Mem) => nm (put M2 145 9 x1) fun (M3 : Mem) => if (M3 145 9) = 0 then (some (false, M3)) else (some (true, M3))
def f_M_isLength (a1 : Int32) (M : Mem) : Option (Bool × Mem) :=
  bnd (f_M_inRange a1 (0 : Int32) (M 145 15) M) fun (x1 : Bool) (M2 : Mem) => some (x1, M2)
def f_M_readGust (N : Nat) (rr : Nat) (M : Mem) : Option (Mem) :=
  bnd (f_M_look N rr (0 : Int32) (30 : Int32) M) fun (x1 : Int32) (M2 : Mem) => if (M2 145 20) = 0 then (if (M2 rr 5) < (16 : Int32) then (bndM (f_M_check true (3 : Int32) M2) fun (M4 : Mem) => bndM (f_M_advance N rr M4) fun (M6 : Mem) => if (M6 145 20) = 0 then (bndM (f_M_addGust rr x1 M6) fun (M8 : Mem) => some M8) else (some M6)) else (bndM (f_M_check false (3 : Int32) M2) fun (M10 : Mem) => bndM (f_M_advance N rr M10) fun (M12 : Mem) => if (M12 145 20) = 0 then (bndM (f_M_addGust rr x1 M12) fun (M14 : Mem) => some M14) else (some M12))) else (bndM (f_M_check true (3 : Int32) M2) fun (M16 : Mem) => bndM (f_M_advance N rr M16) fun (M18 : Mem) => if (M18 145 20) = 0 then (bndM (f_M_addGust rr x1 M18) fun (M20 : Mem) => some M20) else (some M18))
def lp_M_readStation_72 (N0 rr : Nat)  (c1 : Int32) (c2 : Int32) : Nat → Unit → Mem → (Unit → Mem → Option (Mem)) → Option (Mem)
  | 0, _, _, _ => none
  | N + 1, v72, M, k72 => if (M 145 20) = 0 then (if (M 145 19) = (2 : Int32) then (bndM (f_M_readGust N0 rr M) fun (M26 : Mem) => lp_M_readStation_72 N0 rr c1 c2 N () M26 k72) else (k72 () M)) else (k72 () M)
def f_M_readStation (N : Nat) (rr : Nat) (M : Mem) : Option (Mem) :=
  bnd (f_M_isWord N rr 1 M) fun (x1 : Bool) (M2 : Mem) => bndM (f_M_check x1 (1 : Int32) M2) fun (M4 : Mem) => bndM (f_M_advance N rr M4) fun (M6 : Mem) => bnd (f_M_readNumber N rr (1 : Int32) (4 : Int32) M6) fun (x7 : Int32) (M8 : Mem) => bnd (f_M_readNumber N rr (1 : Int32) (999 : Int32) M8) fun (x9 : Int32) (M10 : Mem) => bnd (f_M_readNumber N rr (1 : Int32) (9999 : Int32) M10) fun (x11 : Int32) (M12 : Mem) => bndM (f_M_begin N rr x7 x9 x11 M12) fun (M14 : Mem) => bndM (f_M_expect N rr (59 : Int32) M14) fun (M16 : Mem) => bnd (f_M_isWord N rr 2 M16) fun (x17 : Bool) (M18 : Mem) => bndM (f_M_check x17 (1 : Int32) M18) fun (M20 : Mem) => bndM (f_M_advance N rr M20) fun (M22 : Mem) => bndM (f_M_readGust N rr M22) fun (M24 : Mem) => lp_M_readStation_72 N rr x7 x9 N () M24 (fun (a28 : Unit) (M27 : Mem) => bndM (f_M_expect N rr (59 : Int32) M27) fun (M30 : Mem) => bnd (f_M_isWord N rr 3 M30) fun (x31 : Bool) (M32 : Mem) => bndM (f_M_check x31 (1 : Int32) M32) fun (M34 : Mem) => bndM (f_M_advance N rr M34) fun (M36 : Mem) => bnd (f_M_readNumber N rr (1 : Int32) (20 : Int32) M36) fun (x37 : Int32) (M38 : Mem) => nm (put M38 rr 4 x37) fun (M39 : Mem) => bndM (f_M_expect N rr (59 : Int32) M39) fun (M41 : Mem) => if (M41 145 20) = 0 then (if (M41 145 19) = 0 then (bndM (f_M_check true (1 : Int32) M41) fun (M43 : Mem) => some M43) else (bndM (f_M_check false (1 : Int32) M41) fun (M45 : Mem) => some M45)) else (bndM (f_M_check true (1 : Int32) M41) fun (M47 : Mem) => some M47))
