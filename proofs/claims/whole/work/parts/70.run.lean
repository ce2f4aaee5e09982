/-! a script is run, both sides -/
def XR (Mc Mr : Mem) : Prop := SR Mc 10 (Mr 146) ∧ WF (Mr 146) ∧ Mc 5 5 = Mr 145 27
def XF (Mc Mc' : Mem) : Prop := (∀ q, q ≠ 5 → (q < 10 ∨ 23 ≤ q) → Mc' q = Mc q) ∧ ∀ k, k ≠ 5 → Mc' 5 k = Mc 5 k
def YF (Mr Mr' : Mem) : Prop := (∀ q, q ≠ 145 → q ≠ 146 → Mr' q = Mr q) ∧ ∀ k, k ≠ 10 → k ≠ 27 → Mr' 145 k = Mr 145 k
theorem R_does {N c s : Nat} {M : Mem} (hc : 1 ≤ c ∧ c ≤ 8) (hs : s < 20) (h : M 154 (3 * s) = nI (c - 1)) : f_M_does N 146 (nI (3 * s)) M = R_do N 146 c (M 154 (3 * s + 1)) (M 154 (3 * s + 2)) M := by
  unfold f_M_does
  rw [show nI (3 * s) + (1 : Int32) = nI (3 * s + 1) from nI_add _ 1, show nI (3 * s) + (2 : Int32) = nI (3 * s + 2) from nI_add _ 2, grd_of (inB_nI (by omega) (by omega)), nI_clamp (by omega), nm_eq, grd_of (inB_nI (by omega) (by omega)), nI_clamp (by omega), nI_clamp (by omega), h]
  have hh : c = 1 ∨ c = 2 ∨ c = 3 ∨ c = 4 ∨ c = 5 ∨ c = 6 ∨ c = 7 ∨ c = 8 := by omega
  rcases hh with rfl | rfl | rfl | rfl | rfl | rfl | rfl | rfl
  · rw [if_pos (show nI (1 - 1) = (0 : Int32) from rfl), bnd_ret]; rfl
  · rw [if_neg (by decide), if_pos (show nI (2 - 1) = (1 : Int32) from rfl), bnd_ret]; rfl
  · rw [if_neg (by decide), if_neg (by decide), if_pos (show nI (3 - 1) = (2 : Int32) from rfl), bnd_ret]; rfl
  · rw [if_neg (by decide), if_neg (by decide), if_neg (by decide), if_pos (show nI (4 - 1) = (3 : Int32) from rfl), grd_of (inB_nI (by omega) (by omega)), bnd_ret]; rfl
  · rw [if_neg (by decide), if_neg (by decide), if_neg (by decide), if_neg (by decide), if_pos (show nI (5 - 1) = (4 : Int32) from rfl), bnd_ret]; rfl
  · rw [if_neg (by decide), if_neg (by decide), if_neg (by decide), if_neg (by decide), if_neg (by decide), if_pos (show nI (6 - 1) = (5 : Int32) from rfl), bnd_ret]; rfl
  · rw [if_neg (by decide), if_neg (by decide), if_neg (by decide), if_neg (by decide), if_neg (by decide), if_neg (by decide), if_pos (show nI (7 - 1) = (6 : Int32) from rfl), bnd_ret]; rfl
  · rw [if_neg (by decide), if_neg (by decide), if_neg (by decide), if_neg (by decide), if_neg (by decide), if_neg (by decide), if_neg (by decide), bnd_ret]; rfl
theorem R_do_same {N c : Nat} {a b a' b' : Int32} {M : Mem} (hc : 1 ≤ c ∧ c ≤ 8) (h : OKN c a b a' b') : R_do N 146 c a' b' M = R_do N 146 c a b M := by
  obtain ⟨-, h1, h2⟩ := h
  have hh : c = 1 ∨ c = 2 ∨ c = 3 ∨ c = 4 ∨ c = 5 ∨ c = 6 ∨ c = 7 ∨ c = 8 := by omega
  rcases hh with rfl | rfl | rfl | rfl | rfl | rfl | rfl | rfl
  · simp only [R_do]
  · rw [h1 (by decide) (by decide)]; simp only [R_do]
  · rw [h1 (by decide) (by decide)]; simp only [R_do]
  · rw [h1 (by decide) (by decide), h2 rfl]
  · rw [h1 (by decide) (by decide)]; simp only [R_do]
  · rw [h1 (by decide) (by decide)]; simp only [R_do]
  · simp only [R_do]
  · rw [h1 (by decide) (by decide)]; simp only [R_do]
theorem XF.pt {Mc Mc' : Mem} {v : Int32} (h : XF Mc Mc') : XF Mc (put Mc' 5 5 v) := ⟨fun q a b => by rw [put_ne a]; exact h.1 q a b, fun k hk => by rw [put_row, upd_at, if_neg hk]; exact h.2 k hk⟩
theorem XF.fr {Mc Mc' Mc'' : Mem} (h : XF Mc Mc') (f : Fr 10 23 Mc' Mc'') : XF Mc Mc'' := ⟨fun q a b => (f q b).trans (h.1 q a b), fun k hk => by rw [f 5 (by omega)]; exact h.2 k hk⟩
theorem YF.rs {Mr Mr' : Mem} {g : Row} {v : Int32} (h : YF Mr Mr') : YF Mr (res Mr' 146 g v) := ⟨fun q a b => by unfold res; rw [put_ne a, setR_at, if_neg b]; exact h.1 q a b, fun k a b => by unfold res; rw [put_row, upd_at, if_neg a, setR_at, if_neg (by decide)]; exact h.2 k a b⟩
theorem YF.p27 {Mr Mr' : Mem} {v : Int32} (h : YF Mr Mr') : YF Mr (put Mr' 145 27 v) := ⟨fun q a b => by rw [put_ne a]; exact h.1 q a b, fun k a b => by rw [put_row, upd_at, if_neg b]; exact h.2 k a b⟩
