/-! the words of new -/
theorem nw_T_9 : NWd "KiteLogger$Station" 9 1 13 := ⟨"KiteLogger$Kite", T1, ty1, rfl, uw_1, tyk1, TT_in (i := 169) (by decide +kernel) (by decide +kernel), TT_in (i := 170) (by decide +kernel) (by decide +kernel), TT_in (i := 25) (by decide +kernel) (by decide +kernel), by decide, fun w k hk => by
  have hh : k = 0 ∨ k = 1 ∨ k = 2 ∨ k = 3 ∨ k = 4 ∨ k = 5 ∨ k = 6 ∨ k = 7 ∨ k = 8 ∨ k = 9 ∨ k = 10 ∨ k = 11 ∨ k = 12 := by omega
  rcases hh with rfl | rfl | rfl | rfl | rfl | rfl | rfl | rfl | rfl | rfl | rfl | rfl | rfl <;> rfl⟩
theorem nw_T_26 : NWd "KiteLogger$Station" 26 8 3 := ⟨"KiteLogger$WindBuffer", T8, ty8, rfl, uw_8, tyk8, TT_in (i := 231) (by decide +kernel) (by decide +kernel), TT_in (i := 232) (by decide +kernel) (by decide +kernel), TT_in (i := 26) (by decide +kernel) (by decide +kernel), by decide, fun w k hk => by
  have hh : k = 0 ∨ k = 1 ∨ k = 2 := by omega
  rcases hh with rfl | rfl | rfl <;> rfl⟩
theorem nw_T_33 : NWd "KiteLogger$Station" 33 3 7 := ⟨"KiteLogger$Samples", T3, ty3, rfl, uw_3, tyk3, TT_in (i := 248) (by decide +kernel) (by decide +kernel), TT_in (i := 249) (by decide +kernel) (by decide +kernel), TT_in (i := 27) (by decide +kernel) (by decide +kernel), by decide, fun w k hk => by
  have hh : k = 0 ∨ k = 1 ∨ k = 2 ∨ k = 3 ∨ k = 4 ∨ k = 5 ∨ k = 6 := by omega
  rcases hh with rfl | rfl | rfl | rfl | rfl | rfl | rfl <;> rfl⟩
theorem nw_L_9 : NWd "KiteLoggerLaw" 9 9 9 := ⟨"KiteLogger", T9, ty9, rfl, uw_9, tyk9, TT_in (i := 45) (by decide +kernel) (by decide +kernel), TT_in (i := 46) (by decide +kernel) (by decide +kernel), TT_in (i := 18) (by decide +kernel) (by decide +kernel), by decide, fun w k hk => by
  have hh : k = 0 ∨ k = 1 ∨ k = 2 ∨ k = 3 ∨ k = 4 ∨ k = 5 ∨ k = 6 ∨ k = 7 ∨ k = 8 := by omega
  rcases hh with rfl | rfl | rfl | rfl | rfl | rfl | rfl | rfl | rfl <;> rfl⟩
theorem nw_L_207 : NWd "KiteLoggerLaw" 207 10 4 := ⟨"java/lang/StringBuilder", T10, ty10, rfl, uw_10, tyk10, TT_in (i := 1131) (by decide +kernel) (by decide +kernel), TT_in (i := 1132) (by decide +kernel) (by decide +kernel), TT_in (i := 31) (by decide +kernel) (by decide +kernel), by decide, fun w k hk => by
  have hh : k = 0 ∨ k = 1 ∨ k = 2 ∨ k = 3 := by omega
  rcases hh with rfl | rfl | rfl | rfl <;> rfl⟩
theorem nw_U_18 : NWd "java/lang/StringBuilder" 18 11 4 := ⟨"java/lang/String", T11, ty11, rfl, uw_11, tyk11, TT_in (i := 1305) (by decide +kernel) (by decide +kernel), TT_in (i := 1306) (by decide +kernel) (by decide +kernel), TT_in (i := 32) (by decide +kernel) (by decide +kernel), by decide, fun w k hk => by
  have hh : k = 0 ∨ k = 1 ∨ k = 2 ∨ k = 3 := by omega
  rcases hh with rfl | rfl | rfl | rfl <;> rfl⟩
