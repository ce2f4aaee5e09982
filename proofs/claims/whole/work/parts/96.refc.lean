/-! the reference's constructor -/
theorem d_M_init_0 : decode b_M_init 0 = .ok (.aload_n 0, 1) := by decide +kernel
theorem d_M_init_1 : decode b_M_init 1 = .ok (.invokespecial 1, 3) := by decide +kernel
theorem d_M_init_4 : decode b_M_init 4 = .ok (.aload_n 0, 1) := by decide +kernel
theorem d_M_init_5 : decode b_M_init 5 = .ok (.sipush 405, 3) := by decide +kernel
theorem d_M_init_8 : decode b_M_init 8 = .ok (.newarray .int, 2) := by decide +kernel
theorem d_M_init_10 : decode b_M_init 10 = .ok (.putfield 9, 3) := by decide +kernel
theorem d_M_init_13 : decode b_M_init 13 = .ok (.aload_n 0, 1) := by decide +kernel
theorem d_M_init_14 : decode b_M_init 14 = .ok (.sipush 405, 3) := by decide +kernel
theorem d_M_init_17 : decode b_M_init 17 = .ok (.newarray .int, 2) := by decide +kernel
theorem d_M_init_19 : decode b_M_init 19 = .ok (.putfield 13, 3) := by decide +kernel
theorem d_M_init_22 : decode b_M_init 22 = .ok (.aload_n 0, 1) := by decide +kernel
theorem d_M_init_23 : decode b_M_init 23 = .ok (.sipush 405, 3) := by decide +kernel
theorem d_M_init_26 : decode b_M_init 26 = .ok (.newarray .int, 2) := by decide +kernel
theorem d_M_init_28 : decode b_M_init 28 = .ok (.putfield 16, 3) := by decide +kernel
theorem d_M_init_31 : decode b_M_init 31 = .ok (.aload_n 0, 1) := by decide +kernel
theorem d_M_init_32 : decode b_M_init 32 = .ok (.sipush 405, 3) := by decide +kernel
theorem d_M_init_35 : decode b_M_init 35 = .ok (.newarray .int, 2) := by decide +kernel
theorem d_M_init_37 : decode b_M_init 37 = .ok (.putfield 19, 3) := by decide +kernel
theorem d_M_init_40 : decode b_M_init 40 = .ok (.aload_n 0, 1) := by decide +kernel
theorem d_M_init_41 : decode b_M_init 41 = .ok (.sipush 405, 3) := by decide +kernel
theorem d_M_init_44 : decode b_M_init 44 = .ok (.newarray .int, 2) := by decide +kernel
theorem d_M_init_46 : decode b_M_init 46 = .ok (.putfield 22, 3) := by decide +kernel
theorem d_M_init_49 : decode b_M_init 49 = .ok (.aload_n 0, 1) := by decide +kernel
theorem d_M_init_50 : decode b_M_init 50 = .ok (.sipush 3240, 3) := by decide +kernel
theorem d_M_init_53 : decode b_M_init 53 = .ok (.newarray .int, 2) := by decide +kernel
theorem d_M_init_55 : decode b_M_init 55 = .ok (.putfield 25, 3) := by decide +kernel
theorem d_M_init_58 : decode b_M_init 58 = .ok (.aload_n 0, 1) := by decide +kernel
theorem d_M_init_59 : decode b_M_init 59 = .ok (.aload_n 0, 1) := by decide +kernel
theorem d_M_init_60 : decode b_M_init 60 = .ok (.getfield 9, 3) := by decide +kernel
theorem d_M_init_63 : decode b_M_init 63 = .ok (.putfield 28, 3) := by decide +kernel
theorem d_M_init_66 : decode b_M_init 66 = .ok (.aload_n 0, 1) := by decide +kernel
theorem d_M_init_67 : decode b_M_init 67 = .ok (.sipush 400, 3) := by decide +kernel
theorem d_M_init_70 : decode b_M_init 70 = .ok (.newarray .int, 2) := by decide +kernel
theorem d_M_init_72 : decode b_M_init 72 = .ok (.putfield 31, 3) := by decide +kernel
theorem d_M_init_75 : decode b_M_init 75 = .ok (.aload_n 0, 1) := by decide +kernel
theorem d_M_init_76 : decode b_M_init 76 = .ok (.sipush 500, 3) := by decide +kernel
theorem d_M_init_79 : decode b_M_init 79 = .ok (.newarray .int, 2) := by decide +kernel
theorem d_M_init_81 : decode b_M_init 81 = .ok (.putfield 34, 3) := by decide +kernel
theorem d_M_init_84 : decode b_M_init 84 = .ok (.aload_n 0, 1) := by decide +kernel
theorem d_M_init_85 : decode b_M_init 85 = .ok (.iconst (-1), 1) := by decide +kernel
theorem d_M_init_86 : decode b_M_init 86 = .ok (.putfield 37, 3) := by decide +kernel
theorem d_M_init_89 : decode b_M_init 89 = .ok (.aload_n 0, 1) := by decide +kernel
theorem d_M_init_90 : decode b_M_init 90 = .ok (.bipush 60, 2) := by decide +kernel
theorem d_M_init_92 : decode b_M_init 92 = .ok (.newarray .int, 2) := by decide +kernel
theorem d_M_init_94 : decode b_M_init 94 = .ok (.putfield 41, 3) := by decide +kernel
theorem d_M_init_97 : decode b_M_init 97 = .ok (.aload_n 0, 1) := by decide +kernel
theorem d_M_init_98 : decode b_M_init 98 = .ok (.bipush 9, 2) := by decide +kernel
theorem d_M_init_100 : decode b_M_init 100 = .ok (.anewarray 44, 3) := by decide +kernel
theorem d_M_init_103 : decode b_M_init 103 = .ok (.dup, 1) := by decide +kernel
theorem d_M_init_104 : decode b_M_init 104 = .ok (.iconst 0, 1) := by decide +kernel
theorem d_M_init_105 : decode b_M_init 105 = .ok (.ldc 46, 2) := by decide +kernel
theorem d_M_init_107 : decode b_M_init 107 = .ok (.aastore, 1) := by decide +kernel
theorem d_M_init_108 : decode b_M_init 108 = .ok (.dup, 1) := by decide +kernel
theorem d_M_init_109 : decode b_M_init 109 = .ok (.iconst 1, 1) := by decide +kernel
theorem d_M_init_110 : decode b_M_init 110 = .ok (.ldc 48, 2) := by decide +kernel
theorem d_M_init_112 : decode b_M_init 112 = .ok (.aastore, 1) := by decide +kernel
theorem d_M_init_113 : decode b_M_init 113 = .ok (.dup, 1) := by decide +kernel
theorem d_M_init_114 : decode b_M_init 114 = .ok (.iconst 2, 1) := by decide +kernel
theorem d_M_init_115 : decode b_M_init 115 = .ok (.ldc 50, 2) := by decide +kernel
theorem d_M_init_117 : decode b_M_init 117 = .ok (.aastore, 1) := by decide +kernel
theorem d_M_init_118 : decode b_M_init 118 = .ok (.dup, 1) := by decide +kernel
theorem d_M_init_119 : decode b_M_init 119 = .ok (.iconst 3, 1) := by decide +kernel
theorem d_M_init_120 : decode b_M_init 120 = .ok (.ldc 52, 2) := by decide +kernel
theorem d_M_init_122 : decode b_M_init 122 = .ok (.aastore, 1) := by decide +kernel
theorem d_M_init_123 : decode b_M_init 123 = .ok (.dup, 1) := by decide +kernel
theorem d_M_init_124 : decode b_M_init 124 = .ok (.iconst 4, 1) := by decide +kernel
theorem d_M_init_125 : decode b_M_init 125 = .ok (.ldc 54, 2) := by decide +kernel
theorem d_M_init_127 : decode b_M_init 127 = .ok (.aastore, 1) := by decide +kernel
theorem d_M_init_128 : decode b_M_init 128 = .ok (.dup, 1) := by decide +kernel
theorem d_M_init_129 : decode b_M_init 129 = .ok (.iconst 5, 1) := by decide +kernel
theorem d_M_init_130 : decode b_M_init 130 = .ok (.ldc 56, 2) := by decide +kernel
theorem d_M_init_132 : decode b_M_init 132 = .ok (.aastore, 1) := by decide +kernel
theorem d_M_init_133 : decode b_M_init 133 = .ok (.dup, 1) := by decide +kernel
theorem d_M_init_134 : decode b_M_init 134 = .ok (.bipush 6, 2) := by decide +kernel
theorem d_M_init_136 : decode b_M_init 136 = .ok (.ldc 58, 2) := by decide +kernel
theorem d_M_init_138 : decode b_M_init 138 = .ok (.aastore, 1) := by decide +kernel
theorem d_M_init_139 : decode b_M_init 139 = .ok (.dup, 1) := by decide +kernel
theorem d_M_init_140 : decode b_M_init 140 = .ok (.bipush 7, 2) := by decide +kernel
theorem d_M_init_142 : decode b_M_init 142 = .ok (.ldc 60, 2) := by decide +kernel
theorem d_M_init_144 : decode b_M_init 144 = .ok (.aastore, 1) := by decide +kernel
theorem d_M_init_145 : decode b_M_init 145 = .ok (.dup, 1) := by decide +kernel
theorem d_M_init_146 : decode b_M_init 146 = .ok (.bipush 8, 2) := by decide +kernel
theorem d_M_init_148 : decode b_M_init 148 = .ok (.ldc 62, 2) := by decide +kernel
theorem d_M_init_150 : decode b_M_init 150 = .ok (.aastore, 1) := by decide +kernel
theorem d_M_init_151 : decode b_M_init 151 = .ok (.putfield 64, 3) := by decide +kernel
theorem d_M_init_154 : decode b_M_init 154 = .ok (.aload_n 0, 1) := by decide +kernel
theorem d_M_init_155 : decode b_M_init 155 = .ok (.iconst 2, 1) := by decide +kernel
theorem d_M_init_156 : decode b_M_init 156 = .ok (.bipush 40, 2) := by decide +kernel
theorem d_M_init_158 : decode b_M_init 158 = .ok (.bipush 100, 2) := by decide +kernel
theorem d_M_init_160 : decode b_M_init 160 = .ok (.invokevirtual 68, 3) := by decide +kernel
theorem d_M_init_163 : decode b_M_init 163 = .ok (.aload_n 0, 1) := by decide +kernel
theorem d_M_init_164 : decode b_M_init 164 = .ok (.bipush 6, 2) := by decide +kernel
theorem d_M_init_166 : decode b_M_init 166 = .ok (.invokevirtual 72, 3) := by decide +kernel
theorem d_M_init_169 : decode b_M_init 169 = .ok (.aload_n 0, 1) := by decide +kernel
theorem d_M_init_170 : decode b_M_init 170 = .ok (.bipush 9, 2) := by decide +kernel
theorem d_M_init_172 : decode b_M_init 172 = .ok (.invokevirtual 72, 3) := by decide +kernel
theorem d_M_init_175 : decode b_M_init 175 = .ok (.aload_n 0, 1) := by decide +kernel
theorem d_M_init_176 : decode b_M_init 176 = .ok (.bipush 12, 2) := by decide +kernel
theorem d_M_init_178 : decode b_M_init 178 = .ok (.invokevirtual 72, 3) := by decide +kernel
theorem d_M_init_181 : decode b_M_init 181 = .ok (.aload_n 0, 1) := by decide +kernel
theorem d_M_init_182 : decode b_M_init 182 = .ok (.iconst 4, 1) := by decide +kernel
theorem d_M_init_183 : decode b_M_init 183 = .ok (.invokevirtual 72, 3) := by decide +kernel
theorem d_M_init_186 : decode b_M_init 186 = .ok (.aload_n 0, 1) := by decide +kernel
theorem d_M_init_187 : decode b_M_init 187 = .ok (.iconst 0, 1) := by decide +kernel
theorem d_M_init_188 : decode b_M_init 188 = .ok (.invokevirtual 72, 3) := by decide +kernel
theorem d_M_init_191 : decode b_M_init 191 = .ok (.aload_n 0, 1) := by decide +kernel
theorem d_M_init_192 : decode b_M_init 192 = .ok (.bipush 8, 2) := by decide +kernel
theorem d_M_init_194 : decode b_M_init 194 = .ok (.invokevirtual 72, 3) := by decide +kernel
theorem d_M_init_197 : decode b_M_init 197 = .ok (.aload_n 0, 1) := by decide +kernel
theorem d_M_init_198 : decode b_M_init 198 = .ok (.getfield 28, 3) := by decide +kernel
theorem d_M_init_201 : decode b_M_init 201 = .ok (.iconst 4, 1) := by decide +kernel
theorem d_M_init_202 : decode b_M_init 202 = .ok (.iconst 3, 1) := by decide +kernel
theorem d_M_init_203 : decode b_M_init 203 = .ok (.iastore, 1) := by decide +kernel
theorem d_M_init_204 : decode b_M_init 204 = .ok (.return_, 1) := by decide +kernel
theorem fwf_M_0 : FWF "KiteLoggerModel" 10 0 (.array .int) := ⟨"KiteLoggerModel", T10, 28, ty10, rfl, tyk10, nm10, rfl, rfl, by decide +kernel⟩
theorem fwf_M_1 : FWF "KiteLoggerModel" 10 1 (.array .int) := ⟨"KiteLoggerModel", T10, 28, ty10, rfl, tyk10, nm10, rfl, rfl, by decide +kernel⟩
theorem fwf_M_2 : FWF "KiteLoggerModel" 10 2 (.array .int) := ⟨"KiteLoggerModel", T10, 28, ty10, rfl, tyk10, nm10, rfl, rfl, by decide +kernel⟩
theorem fwf_M_3 : FWF "KiteLoggerModel" 10 3 (.array .int) := ⟨"KiteLoggerModel", T10, 28, ty10, rfl, tyk10, nm10, rfl, rfl, by decide +kernel⟩
theorem fwf_M_4 : FWF "KiteLoggerModel" 10 4 (.array .int) := ⟨"KiteLoggerModel", T10, 28, ty10, rfl, tyk10, nm10, rfl, rfl, by decide +kernel⟩
theorem fwf_M_5 : FWF "KiteLoggerModel" 10 5 (.array .int) := ⟨"KiteLoggerModel", T10, 28, ty10, rfl, tyk10, nm10, rfl, rfl, by decide +kernel⟩
theorem fwf_M_12 : FWF "KiteLoggerModel" 10 12 (.array .int) := ⟨"KiteLoggerModel", T10, 28, ty10, rfl, tyk10, nm10, rfl, rfl, by decide +kernel⟩
theorem fwf_M_14 : FWF "KiteLoggerModel" 10 14 (.array .int) := ⟨"KiteLoggerModel", T10, 28, ty10, rfl, tyk10, nm10, rfl, rfl, by decide +kernel⟩
theorem fwf_M_24 : FWF "KiteLoggerModel" 10 24 (.array .int) := ⟨"KiteLoggerModel", T10, 28, ty10, rfl, tyk10, nm10, rfl, rfl, by decide +kernel⟩
theorem fwf_M_25 : FWF "KiteLoggerModel" 10 25 (.array (.object "java/lang/String")) := ⟨"KiteLoggerModel", T10, 28, ty10, rfl, tyk10, nm10, rfl, rfl, by decide +kernel⟩
set_option maxHeartbeats 4000000 in
set_option maxRecDepth 100000 in
theorem c_M_init (l : Launch) {w : Wc} (had : Ad w) (M : Mem) : ∃ gg : Row, REq gR gg ∧ CtC l y_M_init b_M_init 1 (rmC 1 10 6234) w 146 156 zM_0 (Z0 146) [.ref (wad w 145)] M (setR (mM_0 M) 146 gg) := by
  obtain ⟨r, e0, r1, r2, r3, r0⟩ := R_begin6 (N := 1000) (a := 2) (l := 40) (e := 100) (M := (mM_0 M)) (by decide)
  obtain ⟨s0, hs0⟩ : ∃ x : Row, x = upd (upd r (21 + 0) (nI 6)) 5 (nI (0 + 1)) := ⟨_, rfl⟩
  have v0 : r 5 = nI 0 := by exact r0 5 (by decide) (by decide) (by decide) (by decide)
  have e1 := R_gu (X := (mM_0 M)) (v := nI 6) v0 (by decide)
  rw [← hs0] at e1
  obtain ⟨s1, hs1⟩ : ∃ x : Row, x = upd (upd s0 (21 + 1) (nI 9)) 5 (nI (1 + 1)) := ⟨_, rfl⟩
  have v1 : s0 5 = nI 1 := by rw [hs0, upd_at, if_pos rfl]
  have e2 := R_gu (X := (mM_0 M)) (v := nI 9) v1 (by decide)
  rw [← hs1] at e2
  obtain ⟨s2, hs2⟩ : ∃ x : Row, x = upd (upd s1 (21 + 2) (nI 12)) 5 (nI (2 + 1)) := ⟨_, rfl⟩
  have v2 : s1 5 = nI 2 := by rw [hs1, upd_at, if_pos rfl]
  have e3 := R_gu (X := (mM_0 M)) (v := nI 12) v2 (by decide)
  rw [← hs2] at e3
  obtain ⟨s3, hs3⟩ : ∃ x : Row, x = upd (upd s2 (21 + 3) (nI 4)) 5 (nI (3 + 1)) := ⟨_, rfl⟩
  have v3 : s2 5 = nI 3 := by rw [hs2, upd_at, if_pos rfl]
  have e4 := R_gu (X := (mM_0 M)) (v := nI 4) v3 (by decide)
  rw [← hs3] at e4
  obtain ⟨s4, hs4⟩ : ∃ x : Row, x = upd (upd s3 (21 + 4) (nI 0)) 5 (nI (4 + 1)) := ⟨_, rfl⟩
  have v4 : s3 5 = nI 4 := by rw [hs3, upd_at, if_pos rfl]
  have e5 := R_gu (X := (mM_0 M)) (v := nI 0) v4 (by decide)
  rw [← hs4] at e5
  obtain ⟨s5, hs5⟩ : ∃ x : Row, x = upd (upd s4 (21 + 5) (nI 8)) 5 (nI (5 + 1)) := ⟨_, rfl⟩
  have v5 : s4 5 = nI 5 := by rw [hs4, upd_at, if_pos rfl]
  have e6 := R_gu (X := (mM_0 M)) (v := nI 8) v5 (by decide)
  rw [← hs5] at e6
  refine ⟨upd s5 4 (nI 3), fun j hj => ?_, ?_⟩
  · rw [hs5, hs4, hs3, hs2, hs1, hs0]
    have hc : j = 1 ∨ j = 2 ∨ j = 3 ∨ j = 4 ∨ j = 5 ∨ j = 21 ∨ j = 22 ∨ j = 23 ∨ j = 24 ∨ j = 25 ∨ j = 26 ∨ (j ≠ 1 ∧ j ≠ 2 ∧ j ≠ 3 ∧ j ≠ 4 ∧ j ≠ 5 ∧ j ≠ 21 ∧ j ≠ 22 ∧ j ≠ 23 ∧ j ≠ 24 ∧ j ≠ 25 ∧ j ≠ 26) := by omega
    simp only [upd_at, Nat.reduceAdd]
    rcases hc with rfl | rfl | rfl | rfl | rfl | rfl | rfl | rfl | rfl | rfl | rfl | ⟨h1, h2, h3, h4, h5, h21, h22, h23, h24, h25, h26⟩
    · simp only [if_neg (show ¬ (1 = 4) by decide), if_neg (show ¬ (1 = 5) by decide), Nat.reduceEqDiff, if_false, if_true, r1]; rfl
    · simp only [if_neg (show ¬ (2 = 4) by decide), if_neg (show ¬ (2 = 5) by decide), Nat.reduceEqDiff, if_false, if_true, r2]; rfl
    · simp only [if_neg (show ¬ (3 = 4) by decide), if_neg (show ¬ (3 = 5) by decide), Nat.reduceEqDiff, if_false, if_true, r3]; rfl
    · rfl
    · rfl
    · rfl
    · rfl
    · rfl
    · rfl
    · rfl
    · rfl
    · simp only [if_neg h4, if_neg h5, if_neg h21, if_neg h22, if_neg h23, if_neg h24, if_neg h25, if_neg h26]; rw [r0 j hj h1 h2 h3]; unfold gR; simp only [if_neg h1, if_neg h2, if_neg h3, if_neg h4, if_neg h5, if_neg h21, if_neg h22, if_neg h23, if_neg h24, if_neg h25, if_neg h26]
  have hz : (zM_0 145).1 = 10 := by decide +kernel
  refine CtC.go (by decide) (L := [(0, .ref (wad w 145))]) rfl (Nat.le_of_ble_eq_true rfl) (fun p0 e s m args below meth c hnm hsz hao g hret => ?_)
  refine G_aload_n g (pc := 0) 0 d_M_init_0 rfl rfl ?_
  refine G_objI g (pc := 1) (q := 145) (TT_in (i := 1342) (by decide +kernel) (by decide +kernel)) oI1 oI2 ⟨(Nat.le_of_ble_eq_true rfl), (Nat.le_of_ble_eq_true rfl)⟩ d_M_init_1 ?_
  refine G_aload_n g (pc := 4) 0 d_M_init_4 rfl rfl ?_
  refine G_sipush g (pc := 5) (nI 405) d_M_init_5 rfl ?_
  refine G_newI g (pc := 8) (N := 405) had (by decide) (by show s.heap.size + 0 = _; omega) (TT_in (i := 207) (by decide +kernel) (by decide +kernel)) (Nat.le_of_ble_eq_true rfl) ⟨(Nat.le_of_ble_eq_true rfl), (Nat.le_of_ble_eq_true rfl)⟩ d_M_init_8 ?_
  have w1 := Gd.wg (z2 := zM_1) (j2 := 147) had (by decide) g
  have h1 : (zM_1 145).1 = 10 := by decide +kernel
  refine G_putFR w1 hnm (pc := 10) (q := 145) (q2 := 146) fa_M_9 fwf_M_0 rfl rfl (List.mem_range.mpr (by decide)) h1 d_M_init_10 ?_
  have w2 := Gd.wg (z2 := zM_2) (j2 := 147) had (by decide) g
  have h2 : (zM_2 145).1 = 10 := by decide +kernel
  refine G_aload_n w2 (pc := 13) 0 d_M_init_13 rfl rfl ?_
  refine G_sipush w2 (pc := 14) (nI 405) d_M_init_14 rfl ?_
  refine G_newI w2 (pc := 17) (N := 405) had (by decide) (by show s.heap.size + 1 = _; omega) (TT_in (i := 207) (by decide +kernel) (by decide +kernel)) (Nat.le_of_ble_eq_true rfl) ⟨(Nat.le_of_ble_eq_true rfl), (Nat.le_of_ble_eq_true rfl)⟩ d_M_init_17 ?_
  have w3 := Gd.wg (z2 := zM_3) (j2 := 148) had (by decide) g
  have h3 : (zM_3 145).1 = 10 := by decide +kernel
  refine G_putFR w3 hnm (pc := 19) (q := 145) (q2 := 147) fa_M_13 fwf_M_1 rfl rfl (List.mem_range.mpr (by decide)) h3 d_M_init_19 ?_
  have w4 := Gd.wg (z2 := zM_4) (j2 := 148) had (by decide) g
  have h4 : (zM_4 145).1 = 10 := by decide +kernel
  refine G_aload_n w4 (pc := 22) 0 d_M_init_22 rfl rfl ?_
  refine G_sipush w4 (pc := 23) (nI 405) d_M_init_23 rfl ?_
  refine G_newI w4 (pc := 26) (N := 405) had (by decide) (by show s.heap.size + 2 = _; omega) (TT_in (i := 207) (by decide +kernel) (by decide +kernel)) (Nat.le_of_ble_eq_true rfl) ⟨(Nat.le_of_ble_eq_true rfl), (Nat.le_of_ble_eq_true rfl)⟩ d_M_init_26 ?_
  have w5 := Gd.wg (z2 := zM_5) (j2 := 149) had (by decide) g
  have h5 : (zM_5 145).1 = 10 := by decide +kernel
  refine G_putFR w5 hnm (pc := 28) (q := 145) (q2 := 148) fa_M_16 fwf_M_2 rfl rfl (List.mem_range.mpr (by decide)) h5 d_M_init_28 ?_
  have w6 := Gd.wg (z2 := zM_6) (j2 := 149) had (by decide) g
  have h6 : (zM_6 145).1 = 10 := by decide +kernel
  refine G_aload_n w6 (pc := 31) 0 d_M_init_31 rfl rfl ?_
  refine G_sipush w6 (pc := 32) (nI 405) d_M_init_32 rfl ?_
  refine G_newI w6 (pc := 35) (N := 405) had (by decide) (by show s.heap.size + 3 = _; omega) (TT_in (i := 207) (by decide +kernel) (by decide +kernel)) (Nat.le_of_ble_eq_true rfl) ⟨(Nat.le_of_ble_eq_true rfl), (Nat.le_of_ble_eq_true rfl)⟩ d_M_init_35 ?_
  have w7 := Gd.wg (z2 := zM_7) (j2 := 150) had (by decide) g
  have h7 : (zM_7 145).1 = 10 := by decide +kernel
  refine G_putFR w7 hnm (pc := 37) (q := 145) (q2 := 149) fa_M_19 fwf_M_3 rfl rfl (List.mem_range.mpr (by decide)) h7 d_M_init_37 ?_
  have w8 := Gd.wg (z2 := zM_8) (j2 := 150) had (by decide) g
  have h8 : (zM_8 145).1 = 10 := by decide +kernel
  refine G_aload_n w8 (pc := 40) 0 d_M_init_40 rfl rfl ?_
  refine G_sipush w8 (pc := 41) (nI 405) d_M_init_41 rfl ?_
  refine G_newI w8 (pc := 44) (N := 405) had (by decide) (by show s.heap.size + 4 = _; omega) (TT_in (i := 207) (by decide +kernel) (by decide +kernel)) (Nat.le_of_ble_eq_true rfl) ⟨(Nat.le_of_ble_eq_true rfl), (Nat.le_of_ble_eq_true rfl)⟩ d_M_init_44 ?_
  have w9 := Gd.wg (z2 := zM_9) (j2 := 151) had (by decide) g
  have h9 : (zM_9 145).1 = 10 := by decide +kernel
  refine G_putFR w9 hnm (pc := 46) (q := 145) (q2 := 150) fa_M_22 fwf_M_4 rfl rfl (List.mem_range.mpr (by decide)) h9 d_M_init_46 ?_
  have w10 := Gd.wg (z2 := zM_10) (j2 := 151) had (by decide) g
  have h10 : (zM_10 145).1 = 10 := by decide +kernel
  refine G_aload_n w10 (pc := 49) 0 d_M_init_49 rfl rfl ?_
  refine G_sipush w10 (pc := 50) (nI 3240) d_M_init_50 rfl ?_
  refine G_newI w10 (pc := 53) (N := 3240) had (by decide) (by show s.heap.size + 5 = _; omega) (TT_in (i := 207) (by decide +kernel) (by decide +kernel)) (Nat.le_of_ble_eq_true rfl) ⟨(Nat.le_of_ble_eq_true rfl), (Nat.le_of_ble_eq_true rfl)⟩ d_M_init_53 ?_
  have w11 := Gd.wg (z2 := zM_11) (j2 := 152) had (by decide) g
  have h11 : (zM_11 145).1 = 10 := by decide +kernel
  refine G_putFR w11 hnm (pc := 55) (q := 145) (q2 := 151) fa_M_25 fwf_M_5 rfl rfl (List.mem_range.mpr (by decide)) h11 d_M_init_55 ?_
  have w12 := Gd.wg (z2 := zM_12) (j2 := 152) had (by decide) g
  have h12 : (zM_12 145).1 = 10 := by decide +kernel
  refine G_aload_n w12 (pc := 58) 0 d_M_init_58 rfl rfl ?_
  refine G_aload_n w12 (pc := 59) 0 d_M_init_59 rfl rfl ?_
  refine G_getR w12 (pc := 60) (q := 145) (q2 := 146) fa_M_9 (List.mem_range.mpr (by decide)) h12 (by decide +kernel : (zM_12 145).2.2 0 = some 146) d_M_init_60 ?_
  refine G_putRef w12 (pc := 63) (q := 145) (q2 := 146) fa_M_28 fw_10_6 rfl rfl (List.mem_range.mpr (by decide)) h12 d_M_init_63 ?_
  have w13 := Gd.wg (z2 := zM_13) (j2 := 152) had (by decide) g
  have h13 : (zM_13 145).1 = 10 := by decide +kernel
  refine G_aload_n w13 (pc := 66) 0 d_M_init_66 rfl rfl ?_
  refine G_sipush w13 (pc := 67) (nI 400) d_M_init_67 rfl ?_
  refine G_newI w13 (pc := 70) (N := 400) had (by decide) (by show s.heap.size + 6 = _; omega) (TT_in (i := 207) (by decide +kernel) (by decide +kernel)) (Nat.le_of_ble_eq_true rfl) ⟨(Nat.le_of_ble_eq_true rfl), (Nat.le_of_ble_eq_true rfl)⟩ d_M_init_70 ?_
  have w14 := Gd.wg (z2 := zM_14) (j2 := 153) had (by decide) g
  have h14 : (zM_14 145).1 = 10 := by decide +kernel
  refine G_putFR w14 hnm (pc := 72) (q := 145) (q2 := 152) fa_M_31 fwf_M_12 rfl rfl (List.mem_range.mpr (by decide)) h14 d_M_init_72 ?_
  have w15 := Gd.wg (z2 := zM_15) (j2 := 153) had (by decide) g
  have h15 : (zM_15 145).1 = 10 := by decide +kernel
  refine G_aload_n w15 (pc := 75) 0 d_M_init_75 rfl rfl ?_
  refine G_sipush w15 (pc := 76) (nI 500) d_M_init_76 rfl ?_
  refine G_newI w15 (pc := 79) (N := 500) had (by decide) (by show s.heap.size + 7 = _; omega) (TT_in (i := 207) (by decide +kernel) (by decide +kernel)) (Nat.le_of_ble_eq_true rfl) ⟨(Nat.le_of_ble_eq_true rfl), (Nat.le_of_ble_eq_true rfl)⟩ d_M_init_79 ?_
  have w16 := Gd.wg (z2 := zM_16) (j2 := 154) had (by decide) g
  have h16 : (zM_16 145).1 = 10 := by decide +kernel
  refine G_putFR w16 hnm (pc := 81) (q := 145) (q2 := 153) fa_M_34 fwf_M_14 rfl rfl (List.mem_range.mpr (by decide)) h16 d_M_init_81 ?_
  have w17 := Gd.wg (z2 := zM_17) (j2 := 154) had (by decide) g
  have h17 : (zM_17 145).1 = 10 := by decide +kernel
  refine G_aload_n w17 (pc := 84) 0 d_M_init_84 rfl rfl ?_
  refine G_iconst w17 (pc := 85) (-1 : Int32) d_M_init_85 rfl ?_
  refine G_put w17 (pc := 86) (q := 145) fa_M_37 fw_10_22 rfl rfl (List.mem_range.mpr (by decide)) h17 d_M_init_86 ?_
  refine G_aload_n w17 (pc := 89) 0 d_M_init_89 rfl rfl ?_
  refine G_bipush w17 (pc := 90) (nI 60) d_M_init_90 rfl ?_
  refine G_newI w17 (pc := 92) (N := 60) had (by decide) (by show s.heap.size + 8 = _; omega) (TT_in (i := 207) (by decide +kernel) (by decide +kernel)) (Nat.le_of_ble_eq_true rfl) ⟨(Nat.le_of_ble_eq_true rfl), (Nat.le_of_ble_eq_true rfl)⟩ d_M_init_92 ?_
  have w18 := Gd.wg (z2 := zM_18) (j2 := 155) had (by decide) g
  have h18 : (zM_18 145).1 = 10 := by decide +kernel
  refine G_putFR w18 hnm (pc := 94) (q := 145) (q2 := 154) fa_M_41 fwf_M_24 rfl rfl (List.mem_range.mpr (by decide)) h18 d_M_init_94 ?_
  have w19 := Gd.wg (z2 := zM_19) (j2 := 155) had (by decide) g
  have h19 : (zM_19 145).1 = 10 := by decide +kernel
  refine G_aload_n w19 (pc := 97) 0 d_M_init_97 rfl rfl ?_
  refine G_bipush w19 (pc := 98) (nI 9) d_M_init_98 rfl ?_
  refine G_newQ w19 (pc := 100) (C := "java/lang/String") (kd := 25) (t0 := 5) (N := 9) had (by decide) (by show s.heap.size + 9 = _; omega) hao.2 (TT_in (i := 1343) (by decide +kernel) (by decide +kernel)) (Or.inr ⟨rfl, rfl, rfl⟩) (Nat.le_of_ble_eq_true rfl) ⟨(Nat.le_of_ble_eq_true rfl), (Nat.le_of_ble_eq_true rfl)⟩ d_M_init_100 ?_
  have w20 := Gd.wg (z2 := zM_20) (j2 := 156) had (by decide) g
  have h20 : (zM_20 145).1 = 10 := by decide +kernel
  refine G_dup w20 (pc := 103) d_M_init_103 rfl ?_
  refine G_iconst w20 (pc := 104) (nI 0) d_M_init_104 rfl ?_
  refine G_ldcS w20 (pc := 105) 7 (by decide +kernel) d_M_init_105 ?_
  refine G_aastT w20 (pc := 107) (a := 155) (t := 7) (i := 0) (N := 9) (List.mem_range.mpr (by decide)) (by decide +kernel : (zM_20 155).1 = 25) (by decide +kernel : (zM_20 155).2.1 = 9) (by decide) (by decide) (by decide) d_M_init_107 ?_
  have w21 := Gd.wg (z2 := zM_21) (j2 := 156) had (by decide) g
  have h21 : (zM_21 145).1 = 10 := by decide +kernel
  refine G_dup w21 (pc := 108) d_M_init_108 rfl ?_
  refine G_iconst w21 (pc := 109) (nI 1) d_M_init_109 rfl ?_
  refine G_ldcS w21 (pc := 110) 8 (by decide +kernel) d_M_init_110 ?_
  refine G_aastT w21 (pc := 112) (a := 155) (t := 8) (i := 1) (N := 9) (List.mem_range.mpr (by decide)) (by decide +kernel : (zM_21 155).1 = 25) (by decide +kernel : (zM_21 155).2.1 = 9) (by decide) (by decide) (by decide) d_M_init_112 ?_
  have w22 := Gd.wg (z2 := zM_22) (j2 := 156) had (by decide) g
  have h22 : (zM_22 145).1 = 10 := by decide +kernel
  refine G_dup w22 (pc := 113) d_M_init_113 rfl ?_
  refine G_iconst w22 (pc := 114) (nI 2) d_M_init_114 rfl ?_
  refine G_ldcS w22 (pc := 115) 9 (by decide +kernel) d_M_init_115 ?_
  refine G_aastT w22 (pc := 117) (a := 155) (t := 9) (i := 2) (N := 9) (List.mem_range.mpr (by decide)) (by decide +kernel : (zM_22 155).1 = 25) (by decide +kernel : (zM_22 155).2.1 = 9) (by decide) (by decide) (by decide) d_M_init_117 ?_
  have w23 := Gd.wg (z2 := zM_23) (j2 := 156) had (by decide) g
  have h23 : (zM_23 145).1 = 10 := by decide +kernel
  refine G_dup w23 (pc := 118) d_M_init_118 rfl ?_
  refine G_iconst w23 (pc := 119) (nI 3) d_M_init_119 rfl ?_
  refine G_ldcS w23 (pc := 120) 10 (by decide +kernel) d_M_init_120 ?_
  refine G_aastT w23 (pc := 122) (a := 155) (t := 10) (i := 3) (N := 9) (List.mem_range.mpr (by decide)) (by decide +kernel : (zM_23 155).1 = 25) (by decide +kernel : (zM_23 155).2.1 = 9) (by decide) (by decide) (by decide) d_M_init_122 ?_
  have w24 := Gd.wg (z2 := zM_24) (j2 := 156) had (by decide) g
  have h24 : (zM_24 145).1 = 10 := by decide +kernel
  refine G_dup w24 (pc := 123) d_M_init_123 rfl ?_
  refine G_iconst w24 (pc := 124) (nI 4) d_M_init_124 rfl ?_
  refine G_ldcS w24 (pc := 125) 11 (by decide +kernel) d_M_init_125 ?_
  refine G_aastT w24 (pc := 127) (a := 155) (t := 11) (i := 4) (N := 9) (List.mem_range.mpr (by decide)) (by decide +kernel : (zM_24 155).1 = 25) (by decide +kernel : (zM_24 155).2.1 = 9) (by decide) (by decide) (by decide) d_M_init_127 ?_
  have w25 := Gd.wg (z2 := zM_25) (j2 := 156) had (by decide) g
  have h25 : (zM_25 145).1 = 10 := by decide +kernel
  refine G_dup w25 (pc := 128) d_M_init_128 rfl ?_
  refine G_iconst w25 (pc := 129) (nI 5) d_M_init_129 rfl ?_
  refine G_ldcS w25 (pc := 130) 12 (by decide +kernel) d_M_init_130 ?_
  refine G_aastT w25 (pc := 132) (a := 155) (t := 12) (i := 5) (N := 9) (List.mem_range.mpr (by decide)) (by decide +kernel : (zM_25 155).1 = 25) (by decide +kernel : (zM_25 155).2.1 = 9) (by decide) (by decide) (by decide) d_M_init_132 ?_
  have w26 := Gd.wg (z2 := zM_26) (j2 := 156) had (by decide) g
  have h26 : (zM_26 145).1 = 10 := by decide +kernel
  refine G_dup w26 (pc := 133) d_M_init_133 rfl ?_
  refine G_bipush w26 (pc := 134) (nI 6) d_M_init_134 rfl ?_
  refine G_ldcS w26 (pc := 136) 13 (by decide +kernel) d_M_init_136 ?_
  refine G_aastT w26 (pc := 138) (a := 155) (t := 13) (i := 6) (N := 9) (List.mem_range.mpr (by decide)) (by decide +kernel : (zM_26 155).1 = 25) (by decide +kernel : (zM_26 155).2.1 = 9) (by decide) (by decide) (by decide) d_M_init_138 ?_
  have w27 := Gd.wg (z2 := zM_27) (j2 := 156) had (by decide) g
  have h27 : (zM_27 145).1 = 10 := by decide +kernel
  refine G_dup w27 (pc := 139) d_M_init_139 rfl ?_
  refine G_bipush w27 (pc := 140) (nI 7) d_M_init_140 rfl ?_
  refine G_ldcS w27 (pc := 142) 14 (by decide +kernel) d_M_init_142 ?_
  refine G_aastT w27 (pc := 144) (a := 155) (t := 14) (i := 7) (N := 9) (List.mem_range.mpr (by decide)) (by decide +kernel : (zM_27 155).1 = 25) (by decide +kernel : (zM_27 155).2.1 = 9) (by decide) (by decide) (by decide) d_M_init_144 ?_
  have w28 := Gd.wg (z2 := zM_28) (j2 := 156) had (by decide) g
  have h28 : (zM_28 145).1 = 10 := by decide +kernel
  refine G_dup w28 (pc := 145) d_M_init_145 rfl ?_
  refine G_bipush w28 (pc := 146) (nI 8) d_M_init_146 rfl ?_
  refine G_ldcS w28 (pc := 148) 15 (by decide +kernel) d_M_init_148 ?_
  refine G_aastT w28 (pc := 150) (a := 155) (t := 15) (i := 8) (N := 9) (List.mem_range.mpr (by decide)) (by decide +kernel : (zM_28 155).1 = 25) (by decide +kernel : (zM_28 155).2.1 = 9) (by decide) (by decide) (by decide) d_M_init_150 ?_
  have w29 := Gd.wg (z2 := zM_29) (j2 := 156) had (by decide) g
  have h29 : (zM_29 145).1 = 10 := by decide +kernel
  refine G_putFR w29 hnm (pc := 151) (q := 145) (q2 := 155) fa_M_64 fwf_M_25 rfl rfl (List.mem_range.mpr (by decide)) h29 d_M_init_151 ?_
  have w30 := Gd.wg (z2 := zM_30) (j2 := 156) had (by decide) g
  have h30 : (zM_30 145).1 = 10 := by decide +kernel
  have hw : WM (wg w 156 zM_30) 146 := ⟨zM_eq, fun p h1 h2 => List.mem_range.mpr h2, Or.inl rfl⟩
  refine G_aload_n w30 (pc := 154) 0 d_M_init_154 rfl rfl ?_
  refine G_iconst w30 (pc := 155) (nI 2) d_M_init_155 rfl ?_
  refine G_bipush w30 (pc := 156) (nI 40) d_M_init_156 rfl ?_
  refine G_bipush w30 (pc := 158) (nI 100) d_M_init_158 rfl ?_
  refine Go.known (f := f_M_begin 1000 146 (nI 2) (nI 40) (nI 100) (mM_0 M)) (M1 := setR (mM_0 M) 146 r) e0 (fun K0 hK0 => ?_)
  refine G_cVV w30 (pc := 160) (As := [.int (nI 2), .int (nI 40), .int (nI 100)]) (st := []) cc_M_68 (c_M_begin l 1000 hw (nI 2) (nI 40) (nI 100) _) (hw.mm 145 (Nat.le_of_ble_eq_true rfl) (Nat.le_of_ble_eq_true rfl)) (hw.k (zk145 146)) rfl (by decide) rfl ⟨(Nat.le_of_ble_eq_true rfl), (Nat.le_of_ble_eq_true rfl)⟩ ⟨(Nat.le_of_ble_eq_true rfl), (Nat.le_of_ble_eq_true rfl)⟩ (Nat.le_of_ble_eq_true rfl) d_M_init_160 (fun M20 => ?_)
  refine Go.of hK0 ?_
  refine G_aload_n w30 (pc := 163) 0 d_M_init_163 rfl rfl ?_
  refine G_bipush w30 (pc := 164) (nI 6) d_M_init_164 rfl ?_
  refine Go.known (f := f_M_addGust 146 (nI 6) (setR (mM_0 M) 146 r)) (M1 := setR (mM_0 M) 146 s0) e1 (fun K1 hK1 => ?_)
  refine G_cVV w30 (pc := 166) (As := [.int (nI 6)]) (st := []) cc_M_72 (c_M_addGust l hw (nI 6) _) (hw.mm 145 (Nat.le_of_ble_eq_true rfl) (Nat.le_of_ble_eq_true rfl)) (hw.k (zk145 146)) rfl (by decide) rfl ⟨(Nat.le_of_ble_eq_true rfl), (Nat.le_of_ble_eq_true rfl)⟩ ⟨(Nat.le_of_ble_eq_true rfl), (Nat.le_of_ble_eq_true rfl)⟩ (Nat.le_of_ble_eq_true rfl) d_M_init_166 (fun M21 => ?_)
  refine Go.of hK1 ?_
  refine G_aload_n w30 (pc := 169) 0 d_M_init_169 rfl rfl ?_
  refine G_bipush w30 (pc := 170) (nI 9) d_M_init_170 rfl ?_
  refine Go.known (f := f_M_addGust 146 (nI 9) (setR (mM_0 M) 146 s0)) (M1 := setR (mM_0 M) 146 s1) e2 (fun K2 hK2 => ?_)
  refine G_cVV w30 (pc := 172) (As := [.int (nI 9)]) (st := []) cc_M_72 (c_M_addGust l hw (nI 9) _) (hw.mm 145 (Nat.le_of_ble_eq_true rfl) (Nat.le_of_ble_eq_true rfl)) (hw.k (zk145 146)) rfl (by decide) rfl ⟨(Nat.le_of_ble_eq_true rfl), (Nat.le_of_ble_eq_true rfl)⟩ ⟨(Nat.le_of_ble_eq_true rfl), (Nat.le_of_ble_eq_true rfl)⟩ (Nat.le_of_ble_eq_true rfl) d_M_init_172 (fun M22 => ?_)
  refine Go.of hK2 ?_
  refine G_aload_n w30 (pc := 175) 0 d_M_init_175 rfl rfl ?_
  refine G_bipush w30 (pc := 176) (nI 12) d_M_init_176 rfl ?_
  refine Go.known (f := f_M_addGust 146 (nI 12) (setR (mM_0 M) 146 s1)) (M1 := setR (mM_0 M) 146 s2) e3 (fun K3 hK3 => ?_)
  refine G_cVV w30 (pc := 178) (As := [.int (nI 12)]) (st := []) cc_M_72 (c_M_addGust l hw (nI 12) _) (hw.mm 145 (Nat.le_of_ble_eq_true rfl) (Nat.le_of_ble_eq_true rfl)) (hw.k (zk145 146)) rfl (by decide) rfl ⟨(Nat.le_of_ble_eq_true rfl), (Nat.le_of_ble_eq_true rfl)⟩ ⟨(Nat.le_of_ble_eq_true rfl), (Nat.le_of_ble_eq_true rfl)⟩ (Nat.le_of_ble_eq_true rfl) d_M_init_178 (fun M23 => ?_)
  refine Go.of hK3 ?_
  refine G_aload_n w30 (pc := 181) 0 d_M_init_181 rfl rfl ?_
  refine G_iconst w30 (pc := 182) (nI 4) d_M_init_182 rfl ?_
  refine Go.known (f := f_M_addGust 146 (nI 4) (setR (mM_0 M) 146 s2)) (M1 := setR (mM_0 M) 146 s3) e4 (fun K4 hK4 => ?_)
  refine G_cVV w30 (pc := 183) (As := [.int (nI 4)]) (st := []) cc_M_72 (c_M_addGust l hw (nI 4) _) (hw.mm 145 (Nat.le_of_ble_eq_true rfl) (Nat.le_of_ble_eq_true rfl)) (hw.k (zk145 146)) rfl (by decide) rfl ⟨(Nat.le_of_ble_eq_true rfl), (Nat.le_of_ble_eq_true rfl)⟩ ⟨(Nat.le_of_ble_eq_true rfl), (Nat.le_of_ble_eq_true rfl)⟩ (Nat.le_of_ble_eq_true rfl) d_M_init_183 (fun M24 => ?_)
  refine Go.of hK4 ?_
  refine G_aload_n w30 (pc := 186) 0 d_M_init_186 rfl rfl ?_
  refine G_iconst w30 (pc := 187) (nI 0) d_M_init_187 rfl ?_
  refine Go.known (f := f_M_addGust 146 (nI 0) (setR (mM_0 M) 146 s3)) (M1 := setR (mM_0 M) 146 s4) e5 (fun K5 hK5 => ?_)
  refine G_cVV w30 (pc := 188) (As := [.int (nI 0)]) (st := []) cc_M_72 (c_M_addGust l hw (nI 0) _) (hw.mm 145 (Nat.le_of_ble_eq_true rfl) (Nat.le_of_ble_eq_true rfl)) (hw.k (zk145 146)) rfl (by decide) rfl ⟨(Nat.le_of_ble_eq_true rfl), (Nat.le_of_ble_eq_true rfl)⟩ ⟨(Nat.le_of_ble_eq_true rfl), (Nat.le_of_ble_eq_true rfl)⟩ (Nat.le_of_ble_eq_true rfl) d_M_init_188 (fun M25 => ?_)
  refine Go.of hK5 ?_
  refine G_aload_n w30 (pc := 191) 0 d_M_init_191 rfl rfl ?_
  refine G_bipush w30 (pc := 192) (nI 8) d_M_init_192 rfl ?_
  refine Go.known (f := f_M_addGust 146 (nI 8) (setR (mM_0 M) 146 s4)) (M1 := setR (mM_0 M) 146 s5) e6 (fun K6 hK6 => ?_)
  refine G_cVV w30 (pc := 194) (As := [.int (nI 8)]) (st := []) cc_M_72 (c_M_addGust l hw (nI 8) _) (hw.mm 145 (Nat.le_of_ble_eq_true rfl) (Nat.le_of_ble_eq_true rfl)) (hw.k (zk145 146)) rfl (by decide) rfl ⟨(Nat.le_of_ble_eq_true rfl), (Nat.le_of_ble_eq_true rfl)⟩ ⟨(Nat.le_of_ble_eq_true rfl), (Nat.le_of_ble_eq_true rfl)⟩ (Nat.le_of_ble_eq_true rfl) d_M_init_194 (fun M26 => ?_)
  refine Go.of hK6 ?_
  refine G_aload_n w30 (pc := 197) 0 d_M_init_197 rfl rfl ?_
  refine G_getR w30 (pc := 198) (q := 145) (q2 := 146) fa_M_28 (List.mem_range.mpr (by decide)) h30 (by decide +kernel : (zM_30 145).2.2 6 = some 146) d_M_init_198 ?_
  refine G_iconst w30 (pc := 201) (4 : Int32) d_M_init_201 rfl ?_
  refine G_iconst w30 (pc := 202) (nI 3) d_M_init_202 rfl ?_
  refine G_iastK w30 (pc := 203) (q := 146) (nn := 405) 4 rfl rfl (List.mem_range.mpr (by decide)) (by decide +kernel : (zM_30 146).1 = 20) (by decide +kernel : (zM_30 146).2.1 = 405) d_M_init_203 ?_
  have ef : put (setR (mM_0 M) 146 s5) 146 4 (nI 3) = setR (mM_0 M) 146 (upd s5 4 (nI 3)) := by rw [put_setR, setR_setR, setR_self]
  rw [ef]
  have gz := Gd.wg (z2 := Z0 146) (j2 := 156) had (by decide) g
  rw [zM_eq]
  exact G_creturn gz (pc := 204) hret (Nat.le_of_ble_eq_true rfl) (Nat.le_of_ble_eq_true rfl) d_M_init_204
