/-! words: fields and calls by the pools' entries -/
theorem uw_0 : ∀ w ∈ u_ws "KiteLogger$History" T0 3, w ∈ TT := by
  intro w hw
  obtain ⟨k, hk, rfl⟩ := List.mem_map.mp hw
  have hk := List.mem_range.mp hk
  by_cases h0 : k = 0
  · subst h0; exact TT_in (i := 333) (by decide +kernel) (by decide +kernel)
  by_cases h1 : k = 1
  · subst h1; exact TT_in (i := 335) (by decide +kernel) (by decide +kernel)
  by_cases h2 : k = 2
  · subst h2; exact TT_in (i := 337) (by decide +kernel) (by decide +kernel)
  omega
theorem uw_1 : ∀ w ∈ u_ws "KiteLogger$Kite" T1 13, w ∈ TT := by
  intro w hw
  obtain ⟨k, hk, rfl⟩ := List.mem_map.mp hw
  have hk := List.mem_range.mp hk
  by_cases h0 : k = 0
  · subst h0; exact TT_in (i := 204) (by decide +kernel) (by decide +kernel)
  by_cases h1 : k = 1
  · subst h1; exact TT_in (i := 206) (by decide +kernel) (by decide +kernel)
  by_cases h2 : k = 2
  · subst h2; exact TT_in (i := 208) (by decide +kernel) (by decide +kernel)
  by_cases h3 : k = 3
  · subst h3; exact TT_in (i := 210) (by decide +kernel) (by decide +kernel)
  by_cases h4 : k = 4
  · subst h4; exact TT_in (i := 212) (by decide +kernel) (by decide +kernel)
  by_cases h5 : k = 5
  · subst h5; exact TT_in (i := 214) (by decide +kernel) (by decide +kernel)
  by_cases h6 : k = 6
  · subst h6; exact TT_in (i := 216) (by decide +kernel) (by decide +kernel)
  by_cases h7 : k = 7
  · subst h7; exact TT_in (i := 218) (by decide +kernel) (by decide +kernel)
  by_cases h8 : k = 8
  · subst h8; exact TT_in (i := 220) (by decide +kernel) (by decide +kernel)
  by_cases h9 : k = 9
  · subst h9; exact TT_in (i := 222) (by decide +kernel) (by decide +kernel)
  by_cases h10 : k = 10
  · subst h10; exact TT_in (i := 224) (by decide +kernel) (by decide +kernel)
  by_cases h11 : k = 11
  · subst h11; exact TT_in (i := 226) (by decide +kernel) (by decide +kernel)
  by_cases h12 : k = 12
  · subst h12; exact TT_in (i := 228) (by decide +kernel) (by decide +kernel)
  omega
theorem uw_2 : ∀ w ∈ u_ws "KiteLogger$Output" T2 2, w ∈ TT := by
  intro w hw
  obtain ⟨k, hk, rfl⟩ := List.mem_map.mp hw
  have hk := List.mem_range.mp hk
  by_cases h0 : k = 0
  · subst h0; exact TT_in (i := 348) (by decide +kernel) (by decide +kernel)
  by_cases h1 : k = 1
  · subst h1; exact TT_in (i := 350) (by decide +kernel) (by decide +kernel)
  omega
theorem uw_3 : ∀ w ∈ u_ws "KiteLogger$Samples" T3 7, w ∈ TT := by
  intro w hw
  obtain ⟨k, hk, rfl⟩ := List.mem_map.mp hw
  have hk := List.mem_range.mp hk
  by_cases h0 : k = 0
  · subst h0; exact TT_in (i := 267) (by decide +kernel) (by decide +kernel)
  by_cases h1 : k = 1
  · subst h1; exact TT_in (i := 269) (by decide +kernel) (by decide +kernel)
  by_cases h2 : k = 2
  · subst h2; exact TT_in (i := 271) (by decide +kernel) (by decide +kernel)
  by_cases h3 : k = 3
  · subst h3; exact TT_in (i := 273) (by decide +kernel) (by decide +kernel)
  by_cases h4 : k = 4
  · subst h4; exact TT_in (i := 275) (by decide +kernel) (by decide +kernel)
  by_cases h5 : k = 5
  · subst h5; exact TT_in (i := 277) (by decide +kernel) (by decide +kernel)
  by_cases h6 : k = 6
  · subst h6; exact TT_in (i := 279) (by decide +kernel) (by decide +kernel)
  omega
theorem uw_4 : ∀ w ∈ u_ws "KiteLogger$Script" T4 6, w ∈ TT := by
  intro w hw
  obtain ⟨k, hk, rfl⟩ := List.mem_map.mp hw
  have hk := List.mem_range.mp hk
  by_cases h0 : k = 0
  · subst h0; exact TT_in (i := 150) (by decide +kernel) (by decide +kernel)
  by_cases h1 : k = 1
  · subst h1; exact TT_in (i := 152) (by decide +kernel) (by decide +kernel)
  by_cases h2 : k = 2
  · subst h2; exact TT_in (i := 154) (by decide +kernel) (by decide +kernel)
  by_cases h3 : k = 3
  · subst h3; exact TT_in (i := 156) (by decide +kernel) (by decide +kernel)
  by_cases h4 : k = 4
  · subst h4; exact TT_in (i := 158) (by decide +kernel) (by decide +kernel)
  by_cases h5 : k = 5
  · subst h5; exact TT_in (i := 160) (by decide +kernel) (by decide +kernel)
  omega
theorem uw_5 : ∀ w ∈ u_ws "KiteLogger$Station" T5 9, w ∈ TT := by
  intro w hw
  obtain ⟨k, hk, rfl⟩ := List.mem_map.mp hw
  have hk := List.mem_range.mp hk
  by_cases h0 : k = 0
  · subst h0; exact TT_in (i := 299) (by decide +kernel) (by decide +kernel)
  by_cases h1 : k = 1
  · subst h1; exact TT_in (i := 301) (by decide +kernel) (by decide +kernel)
  by_cases h2 : k = 2
  · subst h2; exact TT_in (i := 303) (by decide +kernel) (by decide +kernel)
  by_cases h3 : k = 3
  · subst h3; exact TT_in (i := 305) (by decide +kernel) (by decide +kernel)
  by_cases h4 : k = 4
  · subst h4; exact TT_in (i := 307) (by decide +kernel) (by decide +kernel)
  by_cases h5 : k = 5
  · subst h5; exact TT_in (i := 309) (by decide +kernel) (by decide +kernel)
  by_cases h6 : k = 6
  · subst h6; exact TT_in (i := 311) (by decide +kernel) (by decide +kernel)
  by_cases h7 : k = 7
  · subst h7; exact TT_in (i := 313) (by decide +kernel) (by decide +kernel)
  by_cases h8 : k = 8
  · subst h8; exact TT_in (i := 315) (by decide +kernel) (by decide +kernel)
  omega
theorem uw_6 : ∀ w ∈ u_ws "KiteLogger$StationPlan" T6 6, w ∈ TT := by
  intro w hw
  obtain ⟨k, hk, rfl⟩ := List.mem_map.mp hw
  have hk := List.mem_range.mp hk
  by_cases h0 : k = 0
  · subst h0; exact TT_in (i := 124) (by decide +kernel) (by decide +kernel)
  by_cases h1 : k = 1
  · subst h1; exact TT_in (i := 126) (by decide +kernel) (by decide +kernel)
  by_cases h2 : k = 2
  · subst h2; exact TT_in (i := 128) (by decide +kernel) (by decide +kernel)
  by_cases h3 : k = 3
  · subst h3; exact TT_in (i := 130) (by decide +kernel) (by decide +kernel)
  by_cases h4 : k = 4
  · subst h4; exact TT_in (i := 132) (by decide +kernel) (by decide +kernel)
  by_cases h5 : k = 5
  · subst h5; exact TT_in (i := 134) (by decide +kernel) (by decide +kernel)
  omega
theorem uw_7 : ∀ w ∈ u_ws "KiteLogger$TextReader" T7 10, w ∈ TT := by
  intro w hw
  obtain ⟨k, hk, rfl⟩ := List.mem_map.mp hw
  have hk := List.mem_range.mp hk
  by_cases h0 : k = 0
  · subst h0; exact TT_in (i := 73) (by decide +kernel) (by decide +kernel)
  by_cases h1 : k = 1
  · subst h1; exact TT_in (i := 75) (by decide +kernel) (by decide +kernel)
  by_cases h2 : k = 2
  · subst h2; exact TT_in (i := 77) (by decide +kernel) (by decide +kernel)
  by_cases h3 : k = 3
  · subst h3; exact TT_in (i := 79) (by decide +kernel) (by decide +kernel)
  by_cases h4 : k = 4
  · subst h4; exact TT_in (i := 81) (by decide +kernel) (by decide +kernel)
  by_cases h5 : k = 5
  · subst h5; exact TT_in (i := 83) (by decide +kernel) (by decide +kernel)
  by_cases h6 : k = 6
  · subst h6; exact TT_in (i := 85) (by decide +kernel) (by decide +kernel)
  by_cases h7 : k = 7
  · subst h7; exact TT_in (i := 87) (by decide +kernel) (by decide +kernel)
  by_cases h8 : k = 8
  · subst h8; exact TT_in (i := 89) (by decide +kernel) (by decide +kernel)
  by_cases h9 : k = 9
  · subst h9; exact TT_in (i := 91) (by decide +kernel) (by decide +kernel)
  omega
theorem uw_8 : ∀ w ∈ u_ws "KiteLogger$WindBuffer" T8 3, w ∈ TT := by
  intro w hw
  obtain ⟨k, hk, rfl⟩ := List.mem_map.mp hw
  have hk := List.mem_range.mp hk
  by_cases h0 : k = 0
  · subst h0; exact TT_in (i := 241) (by decide +kernel) (by decide +kernel)
  by_cases h1 : k = 1
  · subst h1; exact TT_in (i := 243) (by decide +kernel) (by decide +kernel)
  by_cases h2 : k = 2
  · subst h2; exact TT_in (i := 245) (by decide +kernel) (by decide +kernel)
  omega
theorem uw_9 : ∀ w ∈ u_ws "KiteLogger" T9 9, w ∈ TT := by
  intro w hw
  obtain ⟨k, hk, rfl⟩ := List.mem_map.mp hw
  have hk := List.mem_range.mp hk
  by_cases h0 : k = 0
  · subst h0; exact TT_in (i := 383) (by decide +kernel) (by decide +kernel)
  by_cases h1 : k = 1
  · subst h1; exact TT_in (i := 385) (by decide +kernel) (by decide +kernel)
  by_cases h2 : k = 2
  · subst h2; exact TT_in (i := 387) (by decide +kernel) (by decide +kernel)
  by_cases h3 : k = 3
  · subst h3; exact TT_in (i := 389) (by decide +kernel) (by decide +kernel)
  by_cases h4 : k = 4
  · subst h4; exact TT_in (i := 391) (by decide +kernel) (by decide +kernel)
  by_cases h5 : k = 5
  · subst h5; exact TT_in (i := 393) (by decide +kernel) (by decide +kernel)
  by_cases h6 : k = 6
  · subst h6; exact TT_in (i := 395) (by decide +kernel) (by decide +kernel)
  by_cases h7 : k = 7
  · subst h7; exact TT_in (i := 397) (by decide +kernel) (by decide +kernel)
  by_cases h8 : k = 8
  · subst h8; exact TT_in (i := 399) (by decide +kernel) (by decide +kernel)
  omega
theorem uw_10 : ∀ w ∈ u_ws "java/lang/StringBuilder" T10 4, w ∈ TT := by
  intro w hw
  obtain ⟨k, hk, rfl⟩ := List.mem_map.mp hw
  have hk := List.mem_range.mp hk
  by_cases h0 : k = 0
  · subst h0; exact TT_in (i := 1254) (by decide +kernel) (by decide +kernel)
  by_cases h1 : k = 1
  · subst h1; exact TT_in (i := 1256) (by decide +kernel) (by decide +kernel)
  by_cases h2 : k = 2
  · subst h2; exact TT_in (i := 1258) (by decide +kernel) (by decide +kernel)
  by_cases h3 : k = 3
  · subst h3; exact TT_in (i := 1260) (by decide +kernel) (by decide +kernel)
  omega
theorem uw_11 : ∀ w ∈ u_ws "java/lang/String" T11 4, w ∈ TT := by
  intro w hw
  obtain ⟨k, hk, rfl⟩ := List.mem_map.mp hw
  have hk := List.mem_range.mp hk
  by_cases h0 : k = 0
  · subst h0; exact TT_in (i := 1349) (by decide +kernel) (by decide +kernel)
  by_cases h1 : k = 1
  · subst h1; exact TT_in (i := 1351) (by decide +kernel) (by decide +kernel)
  by_cases h2 : k = 2
  · subst h2; exact TT_in (i := 1353) (by decide +kernel) (by decide +kernel)
  by_cases h3 : k = 3
  · subst h3; exact TT_in (i := 1355) (by decide +kernel) (by decide +kernel)
  omega
theorem fa_G_12 : FA "KiteLogger" 12 9 0 ((ftag 9).getD 0 0) := ⟨"KiteLogger", "KiteLogger", T9, 9, TT_in (i := 374) (by decide +kernel) (by decide +kernel), rfl, rfl, by decide, uw_9, by decide, by decide +kernel, rfl⟩
theorem fa_G_19 : FA "KiteLogger" 19 9 1 ((ftag 9).getD 1 0) := ⟨"KiteLogger", "KiteLogger", T9, 9, TT_in (i := 375) (by decide +kernel) (by decide +kernel), rfl, rfl, by decide, uw_9, by decide, by decide +kernel, rfl⟩
theorem fa_G_26 : FA "KiteLogger" 26 9 2 ((ftag 9).getD 2 0) := ⟨"KiteLogger", "KiteLogger", T9, 9, TT_in (i := 376) (by decide +kernel) (by decide +kernel), rfl, rfl, by decide, uw_9, by decide, by decide +kernel, rfl⟩
theorem fa_G_33 : FA "KiteLogger" 33 9 3 ((ftag 9).getD 3 0) := ⟨"KiteLogger", "KiteLogger", T9, 9, TT_in (i := 377) (by decide +kernel) (by decide +kernel), rfl, rfl, by decide, uw_9, by decide, by decide +kernel, rfl⟩
theorem fa_G_40 : FA "KiteLogger" 40 9 4 ((ftag 9).getD 4 0) := ⟨"KiteLogger", "KiteLogger", T9, 9, TT_in (i := 378) (by decide +kernel) (by decide +kernel), rfl, rfl, by decide, uw_9, by decide, by decide +kernel, rfl⟩
theorem fa_G_47 : FA "KiteLogger" 47 9 5 ((ftag 9).getD 5 0) := ⟨"KiteLogger", "KiteLogger", T9, 9, TT_in (i := 379) (by decide +kernel) (by decide +kernel), rfl, rfl, by decide, uw_9, by decide, by decide +kernel, rfl⟩
theorem fa_G_51 : FA "KiteLogger" 51 9 6 ((ftag 9).getD 6 0) := ⟨"KiteLogger", "KiteLogger", T9, 9, TT_in (i := 380) (by decide +kernel) (by decide +kernel), rfl, rfl, by decide, uw_9, by decide, by decide +kernel, rfl⟩
theorem fa_G_54 : FA "KiteLogger" 54 9 7 ((ftag 9).getD 7 0) := ⟨"KiteLogger", "KiteLogger", T9, 9, TT_in (i := 381) (by decide +kernel) (by decide +kernel), rfl, rfl, by decide, uw_9, by decide, by decide +kernel, rfl⟩
theorem fa_G_61 : FA "KiteLogger" 61 9 8 ((ftag 9).getD 8 0) := ⟨"KiteLogger", "KiteLogger", T9, 9, TT_in (i := 382) (by decide +kernel) (by decide +kernel), rfl, rfl, by decide, uw_9, by decide, by decide +kernel, rfl⟩
theorem fa_G_77 : FN "KiteLogger" 77 7 1 ((ftag 7).getD 1 0) := ⟨"KiteLogger$TextReader", "KiteLogger", "KiteLogger$TextReader", T7, 10, NW_in (i := 61) (by decide +kernel) (by decide +kernel), rfl, rfl, by decide, uw_7, by decide, by decide +kernel, rfl⟩
theorem fa_G_91 : FN "KiteLogger" 91 5 2 ((ftag 5).getD 2 0) := ⟨"KiteLogger$Station", "KiteLogger", "KiteLogger$Station", T5, 9, NW_in (i := 286) (by decide +kernel) (by decide +kernel), rfl, rfl, by decide, uw_5, by decide, by decide +kernel, rfl⟩
theorem fa_G_100 : FN "KiteLogger" 100 5 7 ((ftag 5).getD 7 0) := ⟨"KiteLogger$Station", "KiteLogger", "KiteLogger$Station", T5, 9, NW_in (i := 296) (by decide +kernel) (by decide +kernel), rfl, rfl, by decide, uw_5, by decide, by decide +kernel, rfl⟩
theorem fa_G_111 : FN "KiteLogger" 111 5 3 ((ftag 5).getD 3 0) := ⟨"KiteLogger$Station", "KiteLogger", "KiteLogger$Station", T5, 9, NW_in (i := 288) (by decide +kernel) (by decide +kernel), rfl, rfl, by decide, uw_5, by decide, by decide +kernel, rfl⟩
theorem fa_G_115 : FN "KiteLogger" 115 8 2 ((ftag 8).getD 2 0) := ⟨"KiteLogger$WindBuffer", "KiteLogger", "KiteLogger$WindBuffer", T8, 3, NW_in (i := 240) (by decide +kernel) (by decide +kernel), rfl, rfl, by decide, uw_8, by decide, by decide +kernel, rfl⟩
theorem fa_G_137 : FN "KiteLogger" 137 5 0 ((ftag 5).getD 0 0) := ⟨"KiteLogger$Station", "KiteLogger", "KiteLogger$Station", T5, 9, NW_in (i := 283) (by decide +kernel) (by decide +kernel), rfl, rfl, by decide, uw_5, by decide, by decide +kernel, rfl⟩
theorem fa_G_140 : FN "KiteLogger" 140 1 0 ((ftag 1).getD 0 0) := ⟨"KiteLogger$Kite", "KiteLogger", "KiteLogger$Kite", T1, 13, NW_in (i := 177) (by decide +kernel) (by decide +kernel), rfl, rfl, by decide, uw_1, by decide, by decide +kernel, rfl⟩
theorem fa_G_143 : FN "KiteLogger" 143 1 1 ((ftag 1).getD 1 0) := ⟨"KiteLogger$Kite", "KiteLogger", "KiteLogger$Kite", T1, 13, NW_in (i := 180) (by decide +kernel) (by decide +kernel), rfl, rfl, by decide, uw_1, by decide, by decide +kernel, rfl⟩
theorem fa_G_146 : FN "KiteLogger" 146 1 2 ((ftag 1).getD 2 0) := ⟨"KiteLogger$Kite", "KiteLogger", "KiteLogger$Kite", T1, 13, NW_in (i := 183) (by decide +kernel) (by decide +kernel), rfl, rfl, by decide, uw_1, by decide, by decide +kernel, rfl⟩
theorem fa_G_149 : FN "KiteLogger" 149 1 3 ((ftag 1).getD 3 0) := ⟨"KiteLogger$Kite", "KiteLogger", "KiteLogger$Kite", T1, 13, NW_in (i := 185) (by decide +kernel) (by decide +kernel), rfl, rfl, by decide, uw_1, by decide, by decide +kernel, rfl⟩
theorem fa_G_152 : FN "KiteLogger" 152 1 4 ((ftag 1).getD 4 0) := ⟨"KiteLogger$Kite", "KiteLogger", "KiteLogger$Kite", T1, 13, NW_in (i := 187) (by decide +kernel) (by decide +kernel), rfl, rfl, by decide, uw_1, by decide, by decide +kernel, rfl⟩
theorem fa_G_155 : FN "KiteLogger" 155 1 5 ((ftag 1).getD 5 0) := ⟨"KiteLogger$Kite", "KiteLogger", "KiteLogger$Kite", T1, 13, NW_in (i := 189) (by decide +kernel) (by decide +kernel), rfl, rfl, by decide, uw_1, by decide, by decide +kernel, rfl⟩
theorem fa_G_158 : FN "KiteLogger" 158 1 6 ((ftag 1).getD 6 0) := ⟨"KiteLogger$Kite", "KiteLogger", "KiteLogger$Kite", T1, 13, NW_in (i := 191) (by decide +kernel) (by decide +kernel), rfl, rfl, by decide, uw_1, by decide, by decide +kernel, rfl⟩
theorem fa_G_164 : FN "KiteLogger" 164 1 9 ((ftag 1).getD 9 0) := ⟨"KiteLogger$Kite", "KiteLogger", "KiteLogger$Kite", T1, 13, NW_in (i := 197) (by decide +kernel) (by decide +kernel), rfl, rfl, by decide, uw_1, by decide, by decide +kernel, rfl⟩
theorem fa_G_167 : FN "KiteLogger" 167 1 8 ((ftag 1).getD 8 0) := ⟨"KiteLogger$Kite", "KiteLogger", "KiteLogger$Kite", T1, 13, NW_in (i := 194) (by decide +kernel) (by decide +kernel), rfl, rfl, by decide, uw_1, by decide, by decide +kernel, rfl⟩
theorem fa_G_170 : FN "KiteLogger" 170 1 10 ((ftag 1).getD 10 0) := ⟨"KiteLogger$Kite", "KiteLogger", "KiteLogger$Kite", T1, 13, NW_in (i := 199) (by decide +kernel) (by decide +kernel), rfl, rfl, by decide, uw_1, by decide, by decide +kernel, rfl⟩
theorem fa_G_173 : FN "KiteLogger" 173 1 11 ((ftag 1).getD 11 0) := ⟨"KiteLogger$Kite", "KiteLogger", "KiteLogger$Kite", T1, 13, NW_in (i := 201) (by decide +kernel) (by decide +kernel), rfl, rfl, by decide, uw_1, by decide, by decide +kernel, rfl⟩
theorem fa_G_176 : FN "KiteLogger" 176 1 12 ((ftag 1).getD 12 0) := ⟨"KiteLogger$Kite", "KiteLogger", "KiteLogger$Kite", T1, 13, NW_in (i := 203) (by decide +kernel) (by decide +kernel), rfl, rfl, by decide, uw_1, by decide, by decide +kernel, rfl⟩
theorem fa_G_179 : FN "KiteLogger" 179 5 6 ((ftag 5).getD 6 0) := ⟨"KiteLogger$Station", "KiteLogger", "KiteLogger$Station", T5, 9, NW_in (i := 294) (by decide +kernel) (by decide +kernel), rfl, rfl, by decide, uw_5, by decide, by decide +kernel, rfl⟩
theorem fa_G_182 : FN "KiteLogger" 182 5 4 ((ftag 5).getD 4 0) := ⟨"KiteLogger$Station", "KiteLogger", "KiteLogger$Station", T5, 9, NW_in (i := 290) (by decide +kernel) (by decide +kernel), rfl, rfl, by decide, uw_5, by decide, by decide +kernel, rfl⟩
theorem fa_G_186 : FN "KiteLogger" 186 3 5 ((ftag 3).getD 5 0) := ⟨"KiteLogger$Samples", "KiteLogger", "KiteLogger$Samples", T3, 7, NW_in (i := 264) (by decide +kernel) (by decide +kernel), rfl, rfl, by decide, uw_3, by decide, by decide +kernel, rfl⟩
theorem fa_G_202 : FN "KiteLogger" 202 3 6 ((ftag 3).getD 6 0) := ⟨"KiteLogger$Samples", "KiteLogger", "KiteLogger$Samples", T3, 7, NW_in (i := 266) (by decide +kernel) (by decide +kernel), rfl, rfl, by decide, uw_3, by decide, by decide +kernel, rfl⟩
theorem fa_G_205 : FN "KiteLogger" 205 5 5 ((ftag 5).getD 5 0) := ⟨"KiteLogger$Station", "KiteLogger", "KiteLogger$Station", T5, 9, NW_in (i := 292) (by decide +kernel) (by decide +kernel), rfl, rfl, by decide, uw_5, by decide, by decide +kernel, rfl⟩
theorem fa_G_221 : FN "KiteLogger" 221 5 8 ((ftag 5).getD 8 0) := ⟨"KiteLogger$Station", "KiteLogger", "KiteLogger$Station", T5, 9, NW_in (i := 298) (by decide +kernel) (by decide +kernel), rfl, rfl, by decide, uw_5, by decide, by decide +kernel, rfl⟩
theorem fa_G_280 : FN "KiteLogger" 280 0 2 ((ftag 0).getD 2 0) := ⟨"KiteLogger$History", "KiteLogger", "KiteLogger$History", T0, 3, NW_in (i := 332) (by decide +kernel) (by decide +kernel), rfl, rfl, by decide, uw_0, by decide, by decide +kernel, rfl⟩
theorem fa_H_11 : FA "KiteLogger$History" 11 0 0 ((ftag 0).getD 0 0) := ⟨"KiteLogger$History", "KiteLogger$History", T0, 3, TT_in (i := 329) (by decide +kernel) (by decide +kernel), rfl, rfl, by decide, uw_0, by decide, by decide +kernel, rfl⟩
theorem fa_H_17 : FA "KiteLogger$History" 17 0 1 ((ftag 0).getD 1 0) := ⟨"KiteLogger$History", "KiteLogger$History", T0, 3, TT_in (i := 330) (by decide +kernel) (by decide +kernel), rfl, rfl, by decide, uw_0, by decide, by decide +kernel, rfl⟩
theorem fa_H_21 : FA "KiteLogger$History" 21 0 2 ((ftag 0).getD 2 0) := ⟨"KiteLogger$History", "KiteLogger$History", T0, 3, TT_in (i := 331) (by decide +kernel) (by decide +kernel), rfl, rfl, by decide, uw_0, by decide, by decide +kernel, rfl⟩
theorem fa_K_9 : FA "KiteLogger$Kite" 9 1 0 ((ftag 1).getD 0 0) := ⟨"KiteLogger$Kite", "KiteLogger$Kite", T1, 13, TT_in (i := 175) (by decide +kernel) (by decide +kernel), rfl, rfl, by decide, uw_1, by decide, by decide +kernel, rfl⟩
theorem fa_K_15 : FA "KiteLogger$Kite" 15 1 1 ((ftag 1).getD 1 0) := ⟨"KiteLogger$Kite", "KiteLogger$Kite", T1, 13, TT_in (i := 178) (by decide +kernel) (by decide +kernel), rfl, rfl, by decide, uw_1, by decide, by decide +kernel, rfl⟩
theorem fa_K_18 : FA "KiteLogger$Kite" 18 1 2 ((ftag 1).getD 2 0) := ⟨"KiteLogger$Kite", "KiteLogger$Kite", T1, 13, TT_in (i := 181) (by decide +kernel) (by decide +kernel), rfl, rfl, by decide, uw_1, by decide, by decide +kernel, rfl⟩
theorem fa_K_21 : FA "KiteLogger$Kite" 21 1 3 ((ftag 1).getD 3 0) := ⟨"KiteLogger$Kite", "KiteLogger$Kite", T1, 13, TT_in (i := 184) (by decide +kernel) (by decide +kernel), rfl, rfl, by decide, uw_1, by decide, by decide +kernel, rfl⟩
theorem fa_K_24 : FA "KiteLogger$Kite" 24 1 4 ((ftag 1).getD 4 0) := ⟨"KiteLogger$Kite", "KiteLogger$Kite", T1, 13, TT_in (i := 186) (by decide +kernel) (by decide +kernel), rfl, rfl, by decide, uw_1, by decide, by decide +kernel, rfl⟩
theorem fa_K_27 : FA "KiteLogger$Kite" 27 1 5 ((ftag 1).getD 5 0) := ⟨"KiteLogger$Kite", "KiteLogger$Kite", T1, 13, TT_in (i := 188) (by decide +kernel) (by decide +kernel), rfl, rfl, by decide, uw_1, by decide, by decide +kernel, rfl⟩
theorem fa_K_30 : FA "KiteLogger$Kite" 30 1 6 ((ftag 1).getD 6 0) := ⟨"KiteLogger$Kite", "KiteLogger$Kite", T1, 13, TT_in (i := 190) (by decide +kernel) (by decide +kernel), rfl, rfl, by decide, uw_1, by decide, by decide +kernel, rfl⟩
theorem fa_K_33 : FA "KiteLogger$Kite" 33 1 7 ((ftag 1).getD 7 0) := ⟨"KiteLogger$Kite", "KiteLogger$Kite", T1, 13, TT_in (i := 192) (by decide +kernel) (by decide +kernel), rfl, rfl, by decide, uw_1, by decide, by decide +kernel, rfl⟩
theorem fa_K_36 : FA "KiteLogger$Kite" 36 1 8 ((ftag 1).getD 8 0) := ⟨"KiteLogger$Kite", "KiteLogger$Kite", T1, 13, TT_in (i := 193) (by decide +kernel) (by decide +kernel), rfl, rfl, by decide, uw_1, by decide, by decide +kernel, rfl⟩
theorem fa_K_39 : FA "KiteLogger$Kite" 39 1 9 ((ftag 1).getD 9 0) := ⟨"KiteLogger$Kite", "KiteLogger$Kite", T1, 13, TT_in (i := 195) (by decide +kernel) (by decide +kernel), rfl, rfl, by decide, uw_1, by decide, by decide +kernel, rfl⟩
theorem fa_K_42 : FA "KiteLogger$Kite" 42 1 10 ((ftag 1).getD 10 0) := ⟨"KiteLogger$Kite", "KiteLogger$Kite", T1, 13, TT_in (i := 198) (by decide +kernel) (by decide +kernel), rfl, rfl, by decide, uw_1, by decide, by decide +kernel, rfl⟩
theorem fa_K_45 : FA "KiteLogger$Kite" 45 1 11 ((ftag 1).getD 11 0) := ⟨"KiteLogger$Kite", "KiteLogger$Kite", T1, 13, TT_in (i := 200) (by decide +kernel) (by decide +kernel), rfl, rfl, by decide, uw_1, by decide, by decide +kernel, rfl⟩
theorem fa_K_48 : FA "KiteLogger$Kite" 48 1 12 ((ftag 1).getD 12 0) := ⟨"KiteLogger$Kite", "KiteLogger$Kite", T1, 13, TT_in (i := 202) (by decide +kernel) (by decide +kernel), rfl, rfl, by decide, uw_1, by decide, by decide +kernel, rfl⟩
theorem fa_O_9 : FA "KiteLogger$Output" 9 2 0 ((ftag 2).getD 0 0) := ⟨"KiteLogger$Output", "KiteLogger$Output", T2, 2, TT_in (i := 346) (by decide +kernel) (by decide +kernel), rfl, rfl, by decide, uw_2, by decide, by decide +kernel, rfl⟩
theorem fa_O_15 : FA "KiteLogger$Output" 15 2 1 ((ftag 2).getD 1 0) := ⟨"KiteLogger$Output", "KiteLogger$Output", T2, 2, TT_in (i := 347) (by decide +kernel) (by decide +kernel), rfl, rfl, by decide, uw_2, by decide, by decide +kernel, rfl⟩
theorem fa_S_7 : FA "KiteLogger$Samples" 7 3 4 ((ftag 3).getD 4 0) := ⟨"KiteLogger$Samples", "KiteLogger$Samples", T3, 7, TT_in (i := 261) (by decide +kernel) (by decide +kernel), rfl, rfl, by decide, uw_3, by decide, by decide +kernel, rfl⟩
theorem fa_S_13 : FA "KiteLogger$Samples" 13 3 5 ((ftag 3).getD 5 0) := ⟨"KiteLogger$Samples", "KiteLogger$Samples", T3, 7, TT_in (i := 262) (by decide +kernel) (by decide +kernel), rfl, rfl, by decide, uw_3, by decide, by decide +kernel, rfl⟩
theorem fa_S_16 : FA "KiteLogger$Samples" 16 3 6 ((ftag 3).getD 6 0) := ⟨"KiteLogger$Samples", "KiteLogger$Samples", T3, 7, TT_in (i := 265) (by decide +kernel) (by decide +kernel), rfl, rfl, by decide, uw_3, by decide, by decide +kernel, rfl⟩
theorem fa_S_25 : FA "KiteLogger$Samples" 25 3 0 ((ftag 3).getD 0 0) := ⟨"KiteLogger$Samples", "KiteLogger$Samples", T3, 7, TT_in (i := 257) (by decide +kernel) (by decide +kernel), rfl, rfl, by decide, uw_3, by decide, by decide +kernel, rfl⟩
theorem fa_S_28 : FA "KiteLogger$Samples" 28 3 1 ((ftag 3).getD 1 0) := ⟨"KiteLogger$Samples", "KiteLogger$Samples", T3, 7, TT_in (i := 258) (by decide +kernel) (by decide +kernel), rfl, rfl, by decide, uw_3, by decide, by decide +kernel, rfl⟩
theorem fa_S_32 : FA "KiteLogger$Samples" 32 3 2 ((ftag 3).getD 2 0) := ⟨"KiteLogger$Samples", "KiteLogger$Samples", T3, 7, TT_in (i := 259) (by decide +kernel) (by decide +kernel), rfl, rfl, by decide, uw_3, by decide, by decide +kernel, rfl⟩
theorem fa_S_35 : FA "KiteLogger$Samples" 35 3 3 ((ftag 3).getD 3 0) := ⟨"KiteLogger$Samples", "KiteLogger$Samples", T3, 7, TT_in (i := 260) (by decide +kernel) (by decide +kernel), rfl, rfl, by decide, uw_3, by decide, by decide +kernel, rfl⟩
theorem fa_C_9 : FA "KiteLogger$Script" 9 4 0 ((ftag 4).getD 0 0) := ⟨"KiteLogger$Script", "KiteLogger$Script", T4, 6, TT_in (i := 144) (by decide +kernel) (by decide +kernel), rfl, rfl, by decide, uw_4, by decide, by decide +kernel, rfl⟩
theorem fa_C_15 : FA "KiteLogger$Script" 15 4 1 ((ftag 4).getD 1 0) := ⟨"KiteLogger$Script", "KiteLogger$Script", T4, 6, TT_in (i := 145) (by decide +kernel) (by decide +kernel), rfl, rfl, by decide, uw_4, by decide, by decide +kernel, rfl⟩
theorem fa_C_18 : FA "KiteLogger$Script" 18 4 2 ((ftag 4).getD 2 0) := ⟨"KiteLogger$Script", "KiteLogger$Script", T4, 6, TT_in (i := 146) (by decide +kernel) (by decide +kernel), rfl, rfl, by decide, uw_4, by decide, by decide +kernel, rfl⟩
theorem fa_C_21 : FA "KiteLogger$Script" 21 4 3 ((ftag 4).getD 3 0) := ⟨"KiteLogger$Script", "KiteLogger$Script", T4, 6, TT_in (i := 147) (by decide +kernel) (by decide +kernel), rfl, rfl, by decide, uw_4, by decide, by decide +kernel, rfl⟩
theorem fa_C_24 : FA "KiteLogger$Script" 24 4 4 ((ftag 4).getD 4 0) := ⟨"KiteLogger$Script", "KiteLogger$Script", T4, 6, TT_in (i := 148) (by decide +kernel) (by decide +kernel), rfl, rfl, by decide, uw_4, by decide, by decide +kernel, rfl⟩
theorem fa_C_28 : FA "KiteLogger$Script" 28 4 5 ((ftag 4).getD 5 0) := ⟨"KiteLogger$Script", "KiteLogger$Script", T4, 6, TT_in (i := 149) (by decide +kernel) (by decide +kernel), rfl, rfl, by decide, uw_4, by decide, by decide +kernel, rfl⟩
theorem fa_T_12 : FA "KiteLogger$Station" 12 5 0 ((ftag 5).getD 0 0) := ⟨"KiteLogger$Station", "KiteLogger$Station", T5, 9, TT_in (i := 282) (by decide +kernel) (by decide +kernel), rfl, rfl, by decide, uw_5, by decide, by decide +kernel, rfl⟩
theorem fa_T_18 : FA "KiteLogger$Station" 18 5 1 ((ftag 5).getD 1 0) := ⟨"KiteLogger$Station", "KiteLogger$Station", T5, 9, TT_in (i := 284) (by decide +kernel) (by decide +kernel), rfl, rfl, by decide, uw_5, by decide, by decide +kernel, rfl⟩
theorem fa_T_22 : FA "KiteLogger$Station" 22 5 2 ((ftag 5).getD 2 0) := ⟨"KiteLogger$Station", "KiteLogger$Station", T5, 9, TT_in (i := 285) (by decide +kernel) (by decide +kernel), rfl, rfl, by decide, uw_5, by decide, by decide +kernel, rfl⟩
theorem fa_T_29 : FA "KiteLogger$Station" 29 5 3 ((ftag 5).getD 3 0) := ⟨"KiteLogger$Station", "KiteLogger$Station", T5, 9, TT_in (i := 287) (by decide +kernel) (by decide +kernel), rfl, rfl, by decide, uw_5, by decide, by decide +kernel, rfl⟩
theorem fa_T_38 : FA "KiteLogger$Station" 38 5 4 ((ftag 5).getD 4 0) := ⟨"KiteLogger$Station", "KiteLogger$Station", T5, 9, TT_in (i := 289) (by decide +kernel) (by decide +kernel), rfl, rfl, by decide, uw_5, by decide, by decide +kernel, rfl⟩
theorem fa_T_42 : FA "KiteLogger$Station" 42 5 5 ((ftag 5).getD 5 0) := ⟨"KiteLogger$Station", "KiteLogger$Station", T5, 9, TT_in (i := 291) (by decide +kernel) (by decide +kernel), rfl, rfl, by decide, uw_5, by decide, by decide +kernel, rfl⟩
theorem fa_T_45 : FA "KiteLogger$Station" 45 5 6 ((ftag 5).getD 6 0) := ⟨"KiteLogger$Station", "KiteLogger$Station", T5, 9, TT_in (i := 293) (by decide +kernel) (by decide +kernel), rfl, rfl, by decide, uw_5, by decide, by decide +kernel, rfl⟩
theorem fa_T_48 : FA "KiteLogger$Station" 48 5 7 ((ftag 5).getD 7 0) := ⟨"KiteLogger$Station", "KiteLogger$Station", T5, 9, TT_in (i := 295) (by decide +kernel) (by decide +kernel), rfl, rfl, by decide, uw_5, by decide, by decide +kernel, rfl⟩
theorem fa_T_51 : FA "KiteLogger$Station" 51 5 8 ((ftag 5).getD 8 0) := ⟨"KiteLogger$Station", "KiteLogger$Station", T5, 9, TT_in (i := 297) (by decide +kernel) (by decide +kernel), rfl, rfl, by decide, uw_5, by decide, by decide +kernel, rfl⟩
theorem fa_T_54 : FN "KiteLogger$Station" 54 6 0 ((ftag 6).getD 0 0) := ⟨"KiteLogger$StationPlan", "KiteLogger", "KiteLogger$StationPlan", T6, 6, NW_in (i := 113) (by decide +kernel) (by decide +kernel), rfl, rfl, by decide, uw_6, by decide, by decide +kernel, rfl⟩
theorem fa_T_59 : FN "KiteLogger$Station" 59 6 1 ((ftag 6).getD 1 0) := ⟨"KiteLogger$StationPlan", "KiteLogger", "KiteLogger$StationPlan", T6, 6, NW_in (i := 115) (by decide +kernel) (by decide +kernel), rfl, rfl, by decide, uw_6, by decide, by decide +kernel, rfl⟩
theorem fa_T_62 : FN "KiteLogger$Station" 62 6 2 ((ftag 6).getD 2 0) := ⟨"KiteLogger$StationPlan", "KiteLogger", "KiteLogger$StationPlan", T6, 6, NW_in (i := 117) (by decide +kernel) (by decide +kernel), rfl, rfl, by decide, uw_6, by decide, by decide +kernel, rfl⟩
theorem fa_T_69 : FN "KiteLogger$Station" 69 6 4 ((ftag 6).getD 4 0) := ⟨"KiteLogger$StationPlan", "KiteLogger", "KiteLogger$StationPlan", T6, 6, NW_in (i := 121) (by decide +kernel) (by decide +kernel), rfl, rfl, by decide, uw_6, by decide, by decide +kernel, rfl⟩
theorem fa_T_74 : FN "KiteLogger$Station" 74 6 5 ((ftag 6).getD 5 0) := ⟨"KiteLogger$StationPlan", "KiteLogger", "KiteLogger$StationPlan", T6, 6, NW_in (i := 123) (by decide +kernel) (by decide +kernel), rfl, rfl, by decide, uw_6, by decide, by decide +kernel, rfl⟩
theorem fa_T_80 : FN "KiteLogger$Station" 80 6 3 ((ftag 6).getD 3 0) := ⟨"KiteLogger$StationPlan", "KiteLogger", "KiteLogger$StationPlan", T6, 6, NW_in (i := 119) (by decide +kernel) (by decide +kernel), rfl, rfl, by decide, uw_6, by decide, by decide +kernel, rfl⟩
theorem fa_T_101 : FN "KiteLogger$Station" 101 1 0 ((ftag 1).getD 0 0) := ⟨"KiteLogger$Kite", "KiteLogger", "KiteLogger$Kite", T1, 13, NW_in (i := 176) (by decide +kernel) (by decide +kernel), rfl, rfl, by decide, uw_1, by decide, by decide +kernel, rfl⟩
theorem fa_T_104 : FN "KiteLogger$Station" 104 1 2 ((ftag 1).getD 2 0) := ⟨"KiteLogger$Kite", "KiteLogger", "KiteLogger$Kite", T1, 13, NW_in (i := 182) (by decide +kernel) (by decide +kernel), rfl, rfl, by decide, uw_1, by decide, by decide +kernel, rfl⟩
theorem fa_T_126 : FN "KiteLogger$Station" 126 3 5 ((ftag 3).getD 5 0) := ⟨"KiteLogger$Samples", "KiteLogger", "KiteLogger$Samples", T3, 7, NW_in (i := 263) (by decide +kernel) (by decide +kernel), rfl, rfl, by decide, uw_3, by decide, by decide +kernel, rfl⟩
theorem fa_T_177 : FN "KiteLogger$Station" 177 1 9 ((ftag 1).getD 9 0) := ⟨"KiteLogger$Kite", "KiteLogger", "KiteLogger$Kite", T1, 13, NW_in (i := 196) (by decide +kernel) (by decide +kernel), rfl, rfl, by decide, uw_1, by decide, by decide +kernel, rfl⟩
theorem fa_T_180 : FN "KiteLogger$Station" 180 1 1 ((ftag 1).getD 1 0) := ⟨"KiteLogger$Kite", "KiteLogger", "KiteLogger$Kite", T1, 13, NW_in (i := 179) (by decide +kernel) (by decide +kernel), rfl, rfl, by decide, uw_1, by decide, by decide +kernel, rfl⟩
theorem fa_P_9 : FA "KiteLogger$StationPlan" 9 6 0 ((ftag 6).getD 0 0) := ⟨"KiteLogger$StationPlan", "KiteLogger$StationPlan", T6, 6, TT_in (i := 112) (by decide +kernel) (by decide +kernel), rfl, rfl, by decide, uw_6, by decide, by decide +kernel, rfl⟩
theorem fa_P_15 : FA "KiteLogger$StationPlan" 15 6 1 ((ftag 6).getD 1 0) := ⟨"KiteLogger$StationPlan", "KiteLogger$StationPlan", T6, 6, TT_in (i := 114) (by decide +kernel) (by decide +kernel), rfl, rfl, by decide, uw_6, by decide, by decide +kernel, rfl⟩
theorem fa_P_18 : FA "KiteLogger$StationPlan" 18 6 2 ((ftag 6).getD 2 0) := ⟨"KiteLogger$StationPlan", "KiteLogger$StationPlan", T6, 6, TT_in (i := 116) (by decide +kernel) (by decide +kernel), rfl, rfl, by decide, uw_6, by decide, by decide +kernel, rfl⟩
theorem fa_P_21 : FA "KiteLogger$StationPlan" 21 6 3 ((ftag 6).getD 3 0) := ⟨"KiteLogger$StationPlan", "KiteLogger$StationPlan", T6, 6, TT_in (i := 118) (by decide +kernel) (by decide +kernel), rfl, rfl, by decide, uw_6, by decide, by decide +kernel, rfl⟩
theorem fa_P_24 : FA "KiteLogger$StationPlan" 24 6 4 ((ftag 6).getD 4 0) := ⟨"KiteLogger$StationPlan", "KiteLogger$StationPlan", T6, 6, TT_in (i := 120) (by decide +kernel) (by decide +kernel), rfl, rfl, by decide, uw_6, by decide, by decide +kernel, rfl⟩
theorem fa_P_31 : FA "KiteLogger$StationPlan" 31 6 5 ((ftag 6).getD 5 0) := ⟨"KiteLogger$StationPlan", "KiteLogger$StationPlan", T6, 6, TT_in (i := 122) (by decide +kernel) (by decide +kernel), rfl, rfl, by decide, uw_6, by decide, by decide +kernel, rfl⟩
theorem fa_P_68 : FN "KiteLogger$StationPlan" 68 7 7 ((ftag 7).getD 7 0) := ⟨"KiteLogger$TextReader", "KiteLogger", "KiteLogger$TextReader", T7, 10, NW_in (i := 70) (by decide +kernel) (by decide +kernel), rfl, rfl, by decide, uw_7, by decide, by decide +kernel, rfl⟩
theorem fa_P_72 : FN "KiteLogger$StationPlan" 72 7 3 ((ftag 7).getD 3 0) := ⟨"KiteLogger$TextReader", "KiteLogger", "KiteLogger$TextReader", T7, 10, NW_in (i := 64) (by decide +kernel) (by decide +kernel), rfl, rfl, by decide, uw_7, by decide, by decide +kernel, rfl⟩
theorem fa_P_81 : FN "KiteLogger$StationPlan" 81 7 6 ((ftag 7).getD 6 0) := ⟨"KiteLogger$TextReader", "KiteLogger", "KiteLogger$TextReader", T7, 10, NW_in (i := 68) (by decide +kernel) (by decide +kernel), rfl, rfl, by decide, uw_7, by decide, by decide +kernel, rfl⟩
theorem fa_X_9 : FA "KiteLogger$TextReader" 9 7 0 ((ftag 7).getD 0 0) := ⟨"KiteLogger$TextReader", "KiteLogger$TextReader", T7, 10, TT_in (i := 59) (by decide +kernel) (by decide +kernel), rfl, rfl, by decide, uw_7, by decide, by decide +kernel, rfl⟩
theorem fa_X_15 : FA "KiteLogger$TextReader" 15 7 1 ((ftag 7).getD 1 0) := ⟨"KiteLogger$TextReader", "KiteLogger$TextReader", T7, 10, TT_in (i := 60) (by decide +kernel) (by decide +kernel), rfl, rfl, by decide, uw_7, by decide, by decide +kernel, rfl⟩
theorem fa_X_19 : FA "KiteLogger$TextReader" 19 7 2 ((ftag 7).getD 2 0) := ⟨"KiteLogger$TextReader", "KiteLogger$TextReader", T7, 10, TT_in (i := 62) (by decide +kernel) (by decide +kernel), rfl, rfl, by decide, uw_7, by decide, by decide +kernel, rfl⟩
theorem fa_X_22 : FA "KiteLogger$TextReader" 22 7 3 ((ftag 7).getD 3 0) := ⟨"KiteLogger$TextReader", "KiteLogger$TextReader", T7, 10, TT_in (i := 63) (by decide +kernel) (by decide +kernel), rfl, rfl, by decide, uw_7, by decide, by decide +kernel, rfl⟩
theorem fa_X_25 : FA "KiteLogger$TextReader" 25 7 4 ((ftag 7).getD 4 0) := ⟨"KiteLogger$TextReader", "KiteLogger$TextReader", T7, 10, TT_in (i := 65) (by decide +kernel) (by decide +kernel), rfl, rfl, by decide, uw_7, by decide, by decide +kernel, rfl⟩
theorem fa_X_28 : FA "KiteLogger$TextReader" 28 7 5 ((ftag 7).getD 5 0) := ⟨"KiteLogger$TextReader", "KiteLogger$TextReader", T7, 10, TT_in (i := 66) (by decide +kernel) (by decide +kernel), rfl, rfl, by decide, uw_7, by decide, by decide +kernel, rfl⟩
theorem fa_X_31 : FA "KiteLogger$TextReader" 31 7 6 ((ftag 7).getD 6 0) := ⟨"KiteLogger$TextReader", "KiteLogger$TextReader", T7, 10, TT_in (i := 67) (by decide +kernel) (by decide +kernel), rfl, rfl, by decide, uw_7, by decide, by decide +kernel, rfl⟩
theorem fa_X_34 : FA "KiteLogger$TextReader" 34 7 7 ((ftag 7).getD 7 0) := ⟨"KiteLogger$TextReader", "KiteLogger$TextReader", T7, 10, TT_in (i := 69) (by decide +kernel) (by decide +kernel), rfl, rfl, by decide, uw_7, by decide, by decide +kernel, rfl⟩
theorem fa_X_37 : FA "KiteLogger$TextReader" 37 7 8 ((ftag 7).getD 8 0) := ⟨"KiteLogger$TextReader", "KiteLogger$TextReader", T7, 10, TT_in (i := 71) (by decide +kernel) (by decide +kernel), rfl, rfl, by decide, uw_7, by decide, by decide +kernel, rfl⟩
theorem fa_X_40 : FA "KiteLogger$TextReader" 40 7 9 ((ftag 7).getD 9 0) := ⟨"KiteLogger$TextReader", "KiteLogger$TextReader", T7, 10, TT_in (i := 72) (by decide +kernel) (by decide +kernel), rfl, rfl, by decide, uw_7, by decide, by decide +kernel, rfl⟩
theorem fa_B_9 : FA "KiteLogger$WindBuffer" 9 8 0 ((ftag 8).getD 0 0) := ⟨"KiteLogger$WindBuffer", "KiteLogger$WindBuffer", T8, 3, TT_in (i := 237) (by decide +kernel) (by decide +kernel), rfl, rfl, by decide, uw_8, by decide, by decide +kernel, rfl⟩
theorem fa_B_15 : FA "KiteLogger$WindBuffer" 15 8 1 ((ftag 8).getD 1 0) := ⟨"KiteLogger$WindBuffer", "KiteLogger$WindBuffer", T8, 3, TT_in (i := 238) (by decide +kernel) (by decide +kernel), rfl, rfl, by decide, uw_8, by decide, by decide +kernel, rfl⟩
theorem fa_B_19 : FA "KiteLogger$WindBuffer" 19 8 2 ((ftag 8).getD 2 0) := ⟨"KiteLogger$WindBuffer", "KiteLogger$WindBuffer", T8, 3, TT_in (i := 239) (by decide +kernel) (by decide +kernel), rfl, rfl, by decide, uw_8, by decide, by decide +kernel, rfl⟩
theorem fa_A_15 : FA "java/lang/AbstractStringBuilder" 15 10 0 ((ftag 10).getD 0 0) := ⟨"java/lang/AbstractStringBuilder", "java/lang/StringBuilder", T10, 4, TT_in (i := 1250) (by decide +kernel) (by decide +kernel), rfl, rfl, by decide, uw_10, by decide, by decide +kernel, rfl⟩
theorem fa_A_22 : FA "java/lang/AbstractStringBuilder" 22 10 1 ((ftag 10).getD 1 0) := ⟨"java/lang/AbstractStringBuilder", "java/lang/StringBuilder", T10, 4, TT_in (i := 1251) (by decide +kernel) (by decide +kernel), rfl, rfl, by decide, uw_10, by decide, by decide +kernel, rfl⟩
theorem fa_A_79 : FA "java/lang/AbstractStringBuilder" 79 10 3 ((ftag 10).getD 3 0) := ⟨"java/lang/AbstractStringBuilder", "java/lang/StringBuilder", T10, 4, TT_in (i := 1253) (by decide +kernel) (by decide +kernel), rfl, rfl, by decide, uw_10, by decide, by decide +kernel, rfl⟩
theorem fa_V_9 : FA "java/lang/String" 9 11 0 ((ftag 11).getD 0 0) := ⟨"java/lang/String", "java/lang/String", T11, 4, TT_in (i := 1347) (by decide +kernel) (by decide +kernel), rfl, rfl, by decide, uw_11, by decide, by decide +kernel, rfl⟩
theorem fa_V_15 : FA "java/lang/String" 15 11 1 ((ftag 11).getD 1 0) := ⟨"java/lang/String", "java/lang/String", T11, 4, TT_in (i := 1348) (by decide +kernel) (by decide +kernel), rfl, rfl, by decide, uw_11, by decide, by decide +kernel, rfl⟩
theorem fa_V_1048 : FA "java/lang/String" 1048 10 2 ((ftag 10).getD 2 0) := ⟨"java/lang/AbstractStringBuilder", "java/lang/StringBuilder", T10, 4, TT_in (i := 1252) (by decide +kernel) (by decide +kernel), rfl, rfl, by decide, uw_10, by decide, by decide +kernel, rfl⟩
theorem fw_0_1 : FW 0 1 .int := ⟨"KiteLogger$History", T0, 3, ty0, rfl, tyk0, nm0, rfl, by decide +kernel⟩
theorem fw_0_2 : FW 0 2 .int := ⟨"KiteLogger$History", T0, 3, ty0, rfl, tyk0, nm0, rfl, by decide +kernel⟩
theorem fw_1_0 : FW 1 0 .int := ⟨"KiteLogger$Kite", T1, 13, ty1, rfl, tyk1, nm1, rfl, by decide +kernel⟩
theorem fw_1_1 : FW 1 1 .int := ⟨"KiteLogger$Kite", T1, 13, ty1, rfl, tyk1, nm1, rfl, by decide +kernel⟩
theorem fw_1_2 : FW 1 2 .int := ⟨"KiteLogger$Kite", T1, 13, ty1, rfl, tyk1, nm1, rfl, by decide +kernel⟩
theorem fw_1_3 : FW 1 3 .int := ⟨"KiteLogger$Kite", T1, 13, ty1, rfl, tyk1, nm1, rfl, by decide +kernel⟩
theorem fw_1_4 : FW 1 4 .int := ⟨"KiteLogger$Kite", T1, 13, ty1, rfl, tyk1, nm1, rfl, by decide +kernel⟩
theorem fw_1_5 : FW 1 5 .int := ⟨"KiteLogger$Kite", T1, 13, ty1, rfl, tyk1, nm1, rfl, by decide +kernel⟩
theorem fw_1_6 : FW 1 6 .int := ⟨"KiteLogger$Kite", T1, 13, ty1, rfl, tyk1, nm1, rfl, by decide +kernel⟩
theorem fw_1_7 : FW 1 7 .int := ⟨"KiteLogger$Kite", T1, 13, ty1, rfl, tyk1, nm1, rfl, by decide +kernel⟩
theorem fw_1_8 : FW 1 8 .int := ⟨"KiteLogger$Kite", T1, 13, ty1, rfl, tyk1, nm1, rfl, by decide +kernel⟩
theorem fw_1_9 : FW 1 9 .int := ⟨"KiteLogger$Kite", T1, 13, ty1, rfl, tyk1, nm1, rfl, by decide +kernel⟩
theorem fw_1_10 : FW 1 10 .int := ⟨"KiteLogger$Kite", T1, 13, ty1, rfl, tyk1, nm1, rfl, by decide +kernel⟩
theorem fw_1_11 : FW 1 11 .int := ⟨"KiteLogger$Kite", T1, 13, ty1, rfl, tyk1, nm1, rfl, by decide +kernel⟩
theorem fw_1_12 : FW 1 12 .int := ⟨"KiteLogger$Kite", T1, 13, ty1, rfl, tyk1, nm1, rfl, by decide +kernel⟩
theorem fw_2_1 : FW 2 1 .int := ⟨"KiteLogger$Output", T2, 2, ty2, rfl, tyk2, nm2, rfl, by decide +kernel⟩
theorem fw_3_4 : FW 3 4 .int := ⟨"KiteLogger$Samples", T3, 7, ty3, rfl, tyk3, nm3, rfl, by decide +kernel⟩
theorem fw_3_5 : FW 3 5 .int := ⟨"KiteLogger$Samples", T3, 7, ty3, rfl, tyk3, nm3, rfl, by decide +kernel⟩
theorem fw_3_6 : FW 3 6 .int := ⟨"KiteLogger$Samples", T3, 7, ty3, rfl, tyk3, nm3, rfl, by decide +kernel⟩
theorem fw_4_4 : FW 4 4 .int := ⟨"KiteLogger$Script", T4, 6, ty4, rfl, tyk4, nm4, rfl, by decide +kernel⟩
theorem fw_4_5 : FW 4 5 .int := ⟨"KiteLogger$Script", T4, 6, ty4, rfl, tyk4, nm4, rfl, by decide +kernel⟩
theorem fw_5_2 : FW 5 2 .int := ⟨"KiteLogger$Station", T5, 9, ty5, rfl, tyk5, nm5, rfl, by decide +kernel⟩
theorem fw_5_6 : FW 5 6 .int := ⟨"KiteLogger$Station", T5, 9, ty5, rfl, tyk5, nm5, rfl, by decide +kernel⟩
theorem fw_5_7 : FW 5 7 .int := ⟨"KiteLogger$Station", T5, 9, ty5, rfl, tyk5, nm5, rfl, by decide +kernel⟩
theorem fw_5_8 : FW 5 8 .int := ⟨"KiteLogger$Station", T5, 9, ty5, rfl, tyk5, nm5, rfl, by decide +kernel⟩
theorem fw_6_0 : FW 6 0 .int := ⟨"KiteLogger$StationPlan", T6, 6, ty6, rfl, tyk6, nm6, rfl, by decide +kernel⟩
theorem fw_6_1 : FW 6 1 .int := ⟨"KiteLogger$StationPlan", T6, 6, ty6, rfl, tyk6, nm6, rfl, by decide +kernel⟩
theorem fw_6_2 : FW 6 2 .int := ⟨"KiteLogger$StationPlan", T6, 6, ty6, rfl, tyk6, nm6, rfl, by decide +kernel⟩
theorem fw_6_3 : FW 6 3 .int := ⟨"KiteLogger$StationPlan", T6, 6, ty6, rfl, tyk6, nm6, rfl, by decide +kernel⟩
theorem fw_6_5 : FW 6 5 .int := ⟨"KiteLogger$StationPlan", T6, 6, ty6, rfl, tyk6, nm6, rfl, by decide +kernel⟩
theorem fw_7_1 : FW 7 1 .int := ⟨"KiteLogger$TextReader", T7, 10, ty7, rfl, tyk7, nm7, rfl, by decide +kernel⟩
theorem fw_7_2 : FW 7 2 .int := ⟨"KiteLogger$TextReader", T7, 10, ty7, rfl, tyk7, nm7, rfl, by decide +kernel⟩
theorem fw_7_3 : FW 7 3 .int := ⟨"KiteLogger$TextReader", T7, 10, ty7, rfl, tyk7, nm7, rfl, by decide +kernel⟩
theorem fw_7_4 : FW 7 4 .int := ⟨"KiteLogger$TextReader", T7, 10, ty7, rfl, tyk7, nm7, rfl, by decide +kernel⟩
theorem fw_7_5 : FW 7 5 .int := ⟨"KiteLogger$TextReader", T7, 10, ty7, rfl, tyk7, nm7, rfl, by decide +kernel⟩
theorem fw_7_6 : FW 7 6 .int := ⟨"KiteLogger$TextReader", T7, 10, ty7, rfl, tyk7, nm7, rfl, by decide +kernel⟩
theorem fw_7_7 : FW 7 7 .int := ⟨"KiteLogger$TextReader", T7, 10, ty7, rfl, tyk7, nm7, rfl, by decide +kernel⟩
theorem fw_7_8 : FW 7 8 .int := ⟨"KiteLogger$TextReader", T7, 10, ty7, rfl, tyk7, nm7, rfl, by decide +kernel⟩
theorem fw_7_9 : FW 7 9 .int := ⟨"KiteLogger$TextReader", T7, 10, ty7, rfl, tyk7, nm7, rfl, by decide +kernel⟩
theorem fw_8_1 : FW 8 1 .int := ⟨"KiteLogger$WindBuffer", T8, 3, ty8, rfl, tyk8, nm8, rfl, by decide +kernel⟩
theorem fw_8_2 : FW 8 2 .int := ⟨"KiteLogger$WindBuffer", T8, 3, ty8, rfl, tyk8, nm8, rfl, by decide +kernel⟩
theorem fw_9_7 : FW 9 7 .boolean := ⟨"KiteLogger", T9, 9, ty9, rfl, tyk9, nm9, rfl, by decide +kernel⟩
theorem fw_10_1 : FW 10 1 .byte := ⟨"java/lang/StringBuilder", T10, 4, ty10, rfl, tyk10, nm10, rfl, by decide +kernel⟩
theorem fw_10_2 : FW 10 2 .boolean := ⟨"java/lang/StringBuilder", T10, 4, ty10, rfl, tyk10, nm10, rfl, by decide +kernel⟩
theorem fw_10_3 : FW 10 3 .int := ⟨"java/lang/StringBuilder", T10, 4, ty10, rfl, tyk10, nm10, rfl, by decide +kernel⟩
theorem fw_11_2 : FW 11 2 .int := ⟨"java/lang/String", T11, 4, ty11, rfl, tyk11, nm11, rfl, by decide +kernel⟩
theorem fw_11_3 : FW 11 3 .boolean := ⟨"java/lang/String", T11, 4, ty11, rfl, tyk11, nm11, rfl, by decide +kernel⟩
