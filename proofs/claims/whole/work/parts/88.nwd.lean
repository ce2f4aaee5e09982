/-! the words of new -/
theorem nw_T_9 : NWd "KiteLogger$Station" 9 1 13 := ⟨"KiteLogger$Kite", T1, ty1, rfl, uw_1, tyk1, TT_in (i := 241) (by decide +kernel) (by decide +kernel), TT_in (i := 242) (by decide +kernel) (by decide +kernel), TT_in (i := 95) (by decide +kernel) (by decide +kernel), by decide, fun w k hk => by
  have hh : k = 0 ∨ k = 1 ∨ k = 2 ∨ k = 3 ∨ k = 4 ∨ k = 5 ∨ k = 6 ∨ k = 7 ∨ k = 8 ∨ k = 9 ∨ k = 10 ∨ k = 11 ∨ k = 12 := by omega
  rcases hh with rfl | rfl | rfl | rfl | rfl | rfl | rfl | rfl | rfl | rfl | rfl | rfl | rfl <;> rfl⟩
theorem nw_T_26 : NWd "KiteLogger$Station" 26 8 3 := ⟨"KiteLogger$WindBuffer", T8, ty8, rfl, uw_8, tyk8, TT_in (i := 303) (by decide +kernel) (by decide +kernel), TT_in (i := 304) (by decide +kernel) (by decide +kernel), TT_in (i := 96) (by decide +kernel) (by decide +kernel), by decide, fun w k hk => by
  have hh : k = 0 ∨ k = 1 ∨ k = 2 := by omega
  rcases hh with rfl | rfl | rfl <;> rfl⟩
theorem nw_T_33 : NWd "KiteLogger$Station" 33 3 7 := ⟨"KiteLogger$Samples", T3, ty3, rfl, uw_3, tyk3, TT_in (i := 320) (by decide +kernel) (by decide +kernel), TT_in (i := 321) (by decide +kernel) (by decide +kernel), TT_in (i := 97) (by decide +kernel) (by decide +kernel), by decide, fun w k hk => by
  have hh : k = 0 ∨ k = 1 ∨ k = 2 ∨ k = 3 ∨ k = 4 ∨ k = 5 ∨ k = 6 := by omega
  rcases hh with rfl | rfl | rfl | rfl | rfl | rfl | rfl <;> rfl⟩
