/-! the memory: places, each a row of ints; what the world's cells hold is read off it -/
abbrev Mem : Type := Nat → Nat → Int32
def setR (M : Mem) (p : Nat) (f : Nat → Int32) : Mem := fun q => if q = p then f else M q
def put (M : Mem) (p k : Nat) (v : Int32) : Mem := setR M p (upd (M p) k v)
/-- what lies at a place: kind (0..11: an object of that class; 20: ints, 21: bytes, 24: stations), length, references -/
abbrev Shp : Type := Nat → Nat × Nat × (Nat → Option Nat)
/-- the shape of the object that the law makes: place, kind, length, references -/
def zl : List (Nat × Nat × List (Option Nat)) := [(9, 0, [some 1, some 3, some 5, some 10, some 23, some 24, some 130, none, some 143]), (7, 0, [some 2, none, none, none, none, none, none, none, none, none]), (21, 500, []), (6, 0, [none, none, none, none, some 4, none]), (20, 16, []), (4, 0, [some 6, some 7, some 8, some 9, none, none]), (20, 20, []), (20, 20, []), (20, 20, []), (20, 20, []), (5, 0, [some 11, some 12, none, some 13, some 15, some 19, none, none, none]), (1, 0, []), (20, 16, []), (8, 0, [some 14, none, none]), (20, 8, []), (3, 0, [none, some 16, some 17, some 18, none, none, none]), (20, 30, []), (20, 30, []), (20, 30, []), (3, 0, [none, some 20, some 21, some 22, none, none, none]), (20, 90, []), (20, 90, []), (20, 90, []), (1, 0, []), (0, 0, [some 25, none, none]), (24, 8, [some 26, some 39, some 52, some 65, some 78, some 91, some 104, some 117]), (5, 0, [some 27, some 28, none, some 29, some 31, some 35, none, none, none]), (1, 0, []), (20, 16, []), (8, 0, [some 30, none, none]), (20, 8, []), (3, 0, [none, some 32, some 33, some 34, none, none, none]), (20, 30, []), (20, 30, []), (20, 30, []), (3, 0, [none, some 36, some 37, some 38, none, none, none]), (20, 90, []), (20, 90, []), (20, 90, []), (5, 0, [some 40, some 41, none, some 42, some 44, some 48, none, none, none]), (1, 0, []), (20, 16, []), (8, 0, [some 43, none, none]), (20, 8, []), (3, 0, [none, some 45, some 46, some 47, none, none, none]), (20, 30, []), (20, 30, []), (20, 30, []), (3, 0, [none, some 49, some 50, some 51, none, none, none]), (20, 90, []), (20, 90, []), (20, 90, []), (5, 0, [some 53, some 54, none, some 55, some 57, some 61, none, none, none]), (1, 0, []), (20, 16, []), (8, 0, [some 56, none, none]), (20, 8, []), (3, 0, [none, some 58, some 59, some 60, none, none, none]), (20, 30, []), (20, 30, []), (20, 30, []), (3, 0, [none, some 62, some 63, some 64, none, none, none]), (20, 90, []), (20, 90, []), (20, 90, []), (5, 0, [some 66, some 67, none, some 68, some 70, some 74, none, none, none]), (1, 0, []), (20, 16, []), (8, 0, [some 69, none, none]), (20, 8, []), (3, 0, [none, some 71, some 72, some 73, none, none, none]), (20, 30, []), (20, 30, []), (20, 30, []), (3, 0, [none, some 75, some 76, some 77, none, none, none]), (20, 90, []), (20, 90, []), (20, 90, []), (5, 0, [some 79, some 80, none, some 81, some 83, some 87, none, none, none]), (1, 0, []), (20, 16, []), (8, 0, [some 82, none, none]), (20, 8, []), (3, 0, [none, some 84, some 85, some 86, none, none, none]), (20, 30, []), (20, 30, []), (20, 30, []), (3, 0, [none, some 88, some 89, some 90, none, none, none]), (20, 90, []), (20, 90, []), (20, 90, []), (5, 0, [some 92, some 93, none, some 94, some 96, some 100, none, none, none]), (1, 0, []), (20, 16, []), (8, 0, [some 95, none, none]), (20, 8, []), (3, 0, [none, some 97, some 98, some 99, none, none, none]), (20, 30, []), (20, 30, []), (20, 30, []), (3, 0, [none, some 101, some 102, some 103, none, none, none]), (20, 90, []), (20, 90, []), (20, 90, []), (5, 0, [some 105, some 106, none, some 107, some 109, some 113, none, none, none]), (1, 0, []), (20, 16, []), (8, 0, [some 108, none, none]), (20, 8, []), (3, 0, [none, some 110, some 111, some 112, none, none, none]), (20, 30, []), (20, 30, []), (20, 30, []), (3, 0, [none, some 114, some 115, some 116, none, none, none]), (20, 90, []), (20, 90, []), (20, 90, []), (5, 0, [some 118, some 119, none, some 120, some 122, some 126, none, none, none]), (1, 0, []), (20, 16, []), (8, 0, [some 121, none, none]), (20, 8, []), (3, 0, [none, some 123, some 124, some 125, none, none, none]), (20, 30, []), (20, 30, []), (20, 30, []), (3, 0, [none, some 127, some 128, some 129, none, none, none]), (20, 90, []), (20, 90, []), (20, 90, []), (5, 0, [some 131, some 132, none, some 133, some 135, some 139, none, none, none]), (1, 0, []), (20, 16, []), (8, 0, [some 134, none, none]), (20, 8, []), (3, 0, [none, some 136, some 137, some 138, none, none, none]), (20, 30, []), (20, 30, []), (20, 30, []), (3, 0, [none, some 140, some 141, some 142, none, none, none]), (20, 90, []), (20, 90, []), (20, 90, []), (2, 0, [some 144, none]), (21, 360, [])]
def Z0 (_ : Nat) : Shp := fun p => ((zl.getD p (99, 0, [])).1, (zl.getD p (99, 0, [])).2.1, fun k => (zl.getD p (99, 0, [])).2.2.getD k none)
/-- lengths -/
def zn (p : Nat) : Nat := (zl.getD p (99, 0, [])).2.1
def stL : List Nat := [10, 26, 39, 52, 65, 78, 91, 104, 117, 130]
def kiL : List Nat := 23 :: stL.map (· + 1)
def wbL : List Nat := stL.map (· + 3)
def saL : List Nat := stL.map (· + 5) ++ stL.map (· + 9)
/-- the configuration: class numbers, array classes, addresses, live places, shape, the start of what may be written -/
abbrev Wc : Type := va_G × (Nat → ClassId) × (Nat → Nat) × List Nat × Shp × Nat
abbrev wD (w : Wc) : va_G := w.1
abbrev wca (w : Wc) : Nat → ClassId := w.2.1
abbrev wad (w : Wc) : Nat → Nat := w.2.2.1
abbrev wL (w : Wc) : List Nat := w.2.2.2.1
abbrev wZ (w : Wc) : Shp := w.2.2.2.2.1
abbrev wlo (w : Wc) : Nat := w.2.2.2.2.2
abbrev wA (w : Wc) : Nat → Prop := fun q => wlo w ≤ q
/-- field kinds of each class: 0 an int, 1 a reference -/
def ftab : List (List Nat) := [[1,0,0], [0,0,0,0,0,0,0,0,0,0,0,0,0], [1,0], [0,1,1,1,0,0,0], [1,1,1,1,0,0], [1,1,0,1,1,1,0,0,0], [0,0,0,0,1,0], [1,0,0,0,0,0,0,0,0,0], [1,0,0], [1,1,1,1,1,1,1,0,1], [1,0,0,0], [1,0,0,0]]
def ftag (ci : Nat) : List Nat := ftab.getD ci []
def fval (w : Wc) (z : Nat → Option Nat) (m : Nat → Int32) (tag k : Nat) : Value :=
  if tag = 0 then .int (m k) else va_rf ((z k).map (wad w))
def flds (w : Wc) (ci : Nat) (z : Nat → Option Nat) (m : Nat → Int32) : List Value := (List.range (ftag ci).length).map (fun k => fval w z m ((ftag ci).getD k 0) k)
def cellE (w : Wc) (M : Mem) (p : Nat) : va_E :=
  if (wZ w p).1 < 20 then .inr ((wZ w p).1, flds w (wZ w p).1 (wZ w p).2.2 (M p))
  else if (wZ w p).1 = 20 then .inl (wca w 0, (wZ w p).2.1, .inl (M p))
  else if (wZ w p).1 = 21 then .inl (wca w 1, (wZ w p).2.1, .inl (M p))
  else .inl (wca w 2, (wZ w p).2.1, .inr (.inr (.inr (.inr (fun j => ((wZ w p).2.2 j).map (wad w))))))
def wtys (w : Wc) : List (ClassId × FieldType) := [(wca w 0, .int), (wca w 1, .byte), (wca w 2, .object "KiteLogger$Station")]
def wW (w : Wc) (M : Mem) : va_W := (wL w).map (fun p => (wad w p, cellE w M p))
def Rp (w : Wc) (M : Mem) (H : Heap) : Prop := va_P (wD w) vwCl (wW w M) H
/-- the live places are apart, and may be written -/
def Wok (w : Wc) : Prop := (wL w).Nodup ∧ (∀ p ∈ wL w, ∀ q ∈ wL w, wad w p = wad w q → p = q) ∧ ∀ p ∈ wL w, wA w (wad w p)
theorem wW_get {w : Wc} {M : Mem} {p : Nat} (h : p ∈ wL w) : ∃ k : Nat, (wL w)[k]? = some p ∧ (wW w M)[k]? = some (wad w p, cellE w M p) := by
  obtain ⟨k, hk⟩ := List.getElem?_of_mem h
  exact ⟨k, hk, by unfold wW; rw [List.getElem?_map, hk, Option.map_some]⟩
theorem wD_of {w : Wc} (h : Wok w) (M : Mem) : va_D (wA w) (wW w M) := by
  have key : ∀ (i : Nat) (q : Nat × va_E), (wW w M)[i]? = some q → ∃ p, (wL w)[i]? = some p ∧ wad w p = q.1 := by
    intro i q hq
    unfold wW at hq
    rw [List.getElem?_map] at hq
    cases hi : (wL w)[i]? with
    | none => rw [hi] at hq; cases hq
    | some p => rw [hi] at hq; cases hq; exact ⟨p, rfl, rfl⟩
  refine ⟨fun i j x y hi hj hxy => ?_, fun k q hk => ?_⟩
  · obtain ⟨p, h1, h2⟩ := key i x hi
    obtain ⟨q, h3, h4⟩ := key j y hj
    have hpq : p = q := h.2.1 p (List.mem_of_getElem? h1) q (List.mem_of_getElem? h3) (by rw [h2, h4]; exact hxy)
    subst hpq
    have hil : i < (wL w).length := (List.getElem?_eq_some_iff.mp h1).1
    exact (List.getElem?_inj hil h.1).mp (h1.trans h3.symm)
  · obtain ⟨p, h1, h2⟩ := key k q hk
    rw [← h2]
    exact h.2.2 p (List.mem_of_getElem? h1)
theorem setR_self {M : Mem} {p : Nat} {f : Nat → Int32} : setR M p f p = f := if_pos rfl
theorem setR_ne {M : Mem} {p q : Nat} {f : Nat → Int32} (h : q ≠ p) : setR M p f q = M q := if_neg h
theorem cellE_ne {w : Wc} {M : Mem} {p q : Nat} {f : Nat → Int32} (h : q ≠ p) : cellE w (setR M p f) q = cellE w M q := by unfold cellE; rw [setR_ne h]
/-- the world behind a store at a place -/
theorem wW_set {w : Wc} {M : Mem} (hw : Wok w) {p k : Nat} {f : Nat → Int32} {e : va_E} (hk : (wL w)[k]? = some p) (he : e = cellE w (setR M p f) p) : (wW w M).set k (wad w p, e) = wW w (setR M p f) := by
  subst he
  apply List.ext_getElem?
  intro j
  have hkl : k < (wL w).length := (List.getElem?_eq_some_iff.mp hk).1
  by_cases hj : j = k
  · subst hj
    rw [List.getElem?_set_self (by unfold wW; rw [List.length_map]; exact hkl)]
    unfold wW
    rw [List.getElem?_map, hk, Option.map_some]
  · rw [List.getElem?_set_ne (Ne.symm hj)]
    unfold wW
    rw [List.getElem?_map, List.getElem?_map]
    cases hq : (wL w)[j]? with
    | none => rw [Option.map_none, Option.map_none]
    | some q =>
      have hne : q ≠ p := by
        intro e
        subst e
        have hjl : j < (wL w).length := (List.getElem?_eq_some_iff.mp hq).1
        exact hj ((List.getElem?_inj hjl hw.1).mp (hq.trans hk.symm))
      rw [Option.map_some, Option.map_some, cellE_ne hne]
theorem cellE_obj {w : Wc} {M : Mem} {p ci : Nat} (h : (wZ w p).1 = ci) (hc : ci < 20) : cellE w M p = .inr (ci, flds w ci (wZ w p).2.2 (M p)) := by
  unfold cellE
  rw [h, if_pos hc]
theorem cellE_arr {w : Wc} {M : Mem} {p : Nat} (h : (wZ w p).1 = 20) : cellE w M p = .inl (wca w 0, (wZ w p).2.1, .inl (M p)) := by
  unfold cellE
  rw [h, if_neg (by decide), if_pos rfl]
theorem cellE_byt {w : Wc} {M : Mem} {p : Nat} (h : (wZ w p).1 = 21) : cellE w M p = .inl (wca w 1, (wZ w p).2.1, .inl (M p)) := by
  unfold cellE
  rw [h, if_neg (by decide), if_neg (by decide), if_pos rfl]
theorem cellE_sta {w : Wc} {M : Mem} {p : Nat} (h : (wZ w p).1 = 24) : cellE w M p = .inl (wca w 2, (wZ w p).2.1, .inr (.inr (.inr (.inr (fun j => ((wZ w p).2.2 j).map (wad w)))))) := by
  unfold cellE
  rw [h, if_neg (by decide), if_neg (by decide), if_neg (by decide)]
theorem flds_len {w : Wc} {ci : Nat} {z : Nat → Option Nat} {m : Nat → Int32} : (flds w ci z m).length = (ftag ci).length := by simp [flds]
theorem flds_get {w : Wc} {ci k : Nat} {z : Nat → Option Nat} {m : Nat → Int32} (hk : k < (ftag ci).length) : (flds w ci z m)[k]? = some (fval w z m ((ftag ci).getD k 0) k) := by
  unfold flds
  rw [List.getElem?_map, List.getElem?_range hk]
  rfl
theorem flds_int {w : Wc} {ci k : Nat} {z : Nat → Option Nat} {m : Nat → Int32} (hk : k < (ftag ci).length) (ht : (ftag ci).getD k 0 = 0) : (flds w ci z m)[k]? = some (.int (m k)) := by rw [flds_get hk, ht]; rfl
theorem flds_ref {w : Wc} {ci k q : Nat} {z : Nat → Option Nat} {m : Nat → Int32} (hk : k < (ftag ci).length) (ht : (ftag ci).getD k 0 = 1) (hz : z k = some q) : (flds w ci z m)[k]? = some (.ref (wad w q)) := by rw [flds_get hk, ht]; unfold fval; rw [if_neg (by decide), hz]; rfl
theorem flds_put {w : Wc} {ci k : Nat} {z : Nat → Option Nat} {m : Nat → Int32} {v : Int32} (hk : k < (ftag ci).length) (ht : (ftag ci).getD k 0 = 0) : (flds w ci z m).set k (.int v) = flds w ci z (upd m k v) := by
  apply List.ext_getElem?
  intro j
  by_cases hj : j = k
  · subst hj
    rw [List.getElem?_set_self (by rw [flds_len]; exact hk), flds_int hk ht]
    simp [upd]
  · rw [List.getElem?_set_ne (Ne.symm hj)]
    by_cases hl : j < (ftag ci).length
    · rw [flds_get hl, flds_get hl]
      have e : upd m k v j = m j := by simp [upd, hj]
      unfold fval
      rw [e]
    · rw [List.getElem?_eq_none (by rw [flds_len]; omega), List.getElem?_eq_none (by rw [flds_len]; omega)]
/-- a field of a class, by the entry of a class's pool -/
def FA (own : String) (idx ci k tag : Nat) : Prop := ∃ (ref : String) (C : String) (T : u_T) (N : Nat), Cond.fieldLink own idx ref (T k).2.1 (T k).2.2.1 ∈ TT ∧ ref = (T k).1 ∧ vwCl[ci]? = some (C, T, N) ∧ k < N ∧ (∀ w ∈ u_ws C T N, w ∈ TT) ∧ ci < 20 ∧ k < (ftag ci).length ∧ (ftag ci).getD k 0 = tag
def FN (own : String) (idx ci k tag : Nat) : Prop := ∃ (ref host : String) (C : String) (T : u_T) (N : Nat), Cond.fieldLinkNest own idx ref (T k).2.1 (T k).2.2.1 host ∈ NW ∧ ref = (T k).1 ∧ vwCl[ci]? = some (C, T, N) ∧ k < N ∧ (∀ w ∈ u_ws C T N, w ∈ TT) ∧ ci < 20 ∧ k < (ftag ci).length ∧ (ftag ci).getD k 0 = tag
/-- .. and that an int may be put there -/
def FW (ci k : Nat) (ty : FieldType) : Prop := ∃ (C : String) (T : u_T) (N : Nat) (ty0 : Nat → FieldType), vwCl[ci]? = some (C, T, N) ∧ (∀ k, k < N → parseFieldDescriptor (T k).2.2.1 = some (ty0 k)) ∧ (∀ a, a < N → ∀ b, b < N → a ≠ b → (T a).2.1 ≠ (T b).2.1) ∧ (T k).2.2.2 = false ∧ parseFieldDescriptor (T k).2.2.1 = some ty
