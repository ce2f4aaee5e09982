/-! places: what lies where, by the shape of all that the law makes -/
abbrev rmL (n : Nat) : Room := { frames := n, cells := 0, slots := 0, locals := 64 * n }
theorem room_le {a b maxL : Nat} (h : a + 1 ≤ b) (hm : maxL ≤ 20) : (rmL a).frames + 1 ≤ (rmL b).frames ∧ 8 + (maxL + 11) + (rmL a).locals ≤ (rmL b).locals := ⟨h, by show 8 + (maxL + 11) + 64 * a ≤ 64 * b; omega⟩
/-- the class's own places are live -/
def WK (w : Wc) (rr : Nat) : Prop := (∀ p, p < 145 → wZ w p = Z0 rr p) ∧ ∀ p, p < 145 → p ∈ wL w
/-- the law's own array of six ints at place 145 -/
def WV (w : Wc) : Prop := 145 ∈ wL w ∧ (wZ w 145).1 = 20 ∧ (wZ w 145).2.1 = 6
theorem WV.m {w : Wc} (h : WV w) : 145 ∈ wL w := h.1
theorem WV.k {w : Wc} (h : WV w) : (wZ w 145).1 = 20 := h.2.1
theorem WV.n {w : Wc} (h : WV w) : (wZ w 145).2.1 = 6 := h.2.2
theorem WK.k {w : Wc} {rr : Nat} (hw : WK w rr) {q k : Nat} (hq : q < 145) (h : (Z0 rr q).1 = k) : (wZ w q).1 = k := by rw [hw.1 q hq]; exact h
theorem WK.n {w : Wc} {rr : Nat} (hw : WK w rr) {q n : Nat} (hq : q < 145) (h : (Z0 rr q).2.1 = n) : (wZ w q).2.1 = n := by rw [hw.1 q hq]; exact h
theorem WK.r {w : Wc} {rr : Nat} (hw : WK w rr) {q k q2 : Nat} (hq : q < 145) (h : (Z0 rr q).2.2 k = some q2) : (wZ w q).2.2 k = some q2 := by rw [hw.1 q hq]; exact h
theorem WK.m {w : Wc} {rr : Nat} (hw : WK w rr) (p : Nat) (h : p < 145) : p ∈ wL w := hw.2 p h
theorem zk0 (rr : Nat) : (Z0 rr 0).1 = 9 := rfl
theorem zr0_0 (rr : Nat) : (Z0 rr 0).2.2 0 = some 1 := rfl
theorem zr0_1 (rr : Nat) : (Z0 rr 0).2.2 1 = some 3 := rfl
theorem zr0_2 (rr : Nat) : (Z0 rr 0).2.2 2 = some 5 := rfl
theorem zr0_3 (rr : Nat) : (Z0 rr 0).2.2 3 = some 10 := rfl
theorem zr0_4 (rr : Nat) : (Z0 rr 0).2.2 4 = some 23 := rfl
theorem zr0_5 (rr : Nat) : (Z0 rr 0).2.2 5 = some 24 := rfl
theorem zr0_6 (rr : Nat) : (Z0 rr 0).2.2 6 = some 130 := rfl
theorem zr0_8 (rr : Nat) : (Z0 rr 0).2.2 8 = some 143 := rfl
theorem zk1 (rr : Nat) : (Z0 rr 1).1 = 7 := rfl
theorem zr1_0 (rr : Nat) : (Z0 rr 1).2.2 0 = some 2 := rfl
theorem zk2 (rr : Nat) : (Z0 rr 2).1 = 21 := rfl
theorem zn2 (rr : Nat) : (Z0 rr 2).2.1 = 500 := rfl
theorem zk3 (rr : Nat) : (Z0 rr 3).1 = 6 := rfl
theorem zr3_4 (rr : Nat) : (Z0 rr 3).2.2 4 = some 4 := rfl
theorem zk4 (rr : Nat) : (Z0 rr 4).1 = 20 := rfl
theorem zn4 (rr : Nat) : (Z0 rr 4).2.1 = 16 := rfl
theorem zk5 (rr : Nat) : (Z0 rr 5).1 = 4 := rfl
theorem zr5_0 (rr : Nat) : (Z0 rr 5).2.2 0 = some 6 := rfl
theorem zr5_1 (rr : Nat) : (Z0 rr 5).2.2 1 = some 7 := rfl
theorem zr5_2 (rr : Nat) : (Z0 rr 5).2.2 2 = some 8 := rfl
theorem zr5_3 (rr : Nat) : (Z0 rr 5).2.2 3 = some 9 := rfl
theorem zk6 (rr : Nat) : (Z0 rr 6).1 = 20 := rfl
theorem zn6 (rr : Nat) : (Z0 rr 6).2.1 = 20 := rfl
theorem zk7 (rr : Nat) : (Z0 rr 7).1 = 20 := rfl
theorem zn7 (rr : Nat) : (Z0 rr 7).2.1 = 20 := rfl
theorem zk8 (rr : Nat) : (Z0 rr 8).1 = 20 := rfl
theorem zn8 (rr : Nat) : (Z0 rr 8).2.1 = 20 := rfl
theorem zk9 (rr : Nat) : (Z0 rr 9).1 = 20 := rfl
theorem zn9 (rr : Nat) : (Z0 rr 9).2.1 = 20 := rfl
theorem zk10 (rr : Nat) : (Z0 rr 10).1 = 5 := rfl
theorem zr10_0 (rr : Nat) : (Z0 rr 10).2.2 0 = some 11 := rfl
theorem zr10_1 (rr : Nat) : (Z0 rr 10).2.2 1 = some 12 := rfl
theorem zr10_3 (rr : Nat) : (Z0 rr 10).2.2 3 = some 13 := rfl
theorem zr10_4 (rr : Nat) : (Z0 rr 10).2.2 4 = some 15 := rfl
theorem zr10_5 (rr : Nat) : (Z0 rr 10).2.2 5 = some 19 := rfl
theorem zk11 (rr : Nat) : (Z0 rr 11).1 = 1 := rfl
theorem zk12 (rr : Nat) : (Z0 rr 12).1 = 20 := rfl
theorem zn12 (rr : Nat) : (Z0 rr 12).2.1 = 16 := rfl
theorem zk13 (rr : Nat) : (Z0 rr 13).1 = 8 := rfl
theorem zr13_0 (rr : Nat) : (Z0 rr 13).2.2 0 = some 14 := rfl
theorem zk14 (rr : Nat) : (Z0 rr 14).1 = 20 := rfl
theorem zn14 (rr : Nat) : (Z0 rr 14).2.1 = 8 := rfl
theorem zk15 (rr : Nat) : (Z0 rr 15).1 = 3 := rfl
theorem zr15_1 (rr : Nat) : (Z0 rr 15).2.2 1 = some 16 := rfl
theorem zr15_2 (rr : Nat) : (Z0 rr 15).2.2 2 = some 17 := rfl
theorem zr15_3 (rr : Nat) : (Z0 rr 15).2.2 3 = some 18 := rfl
theorem zk16 (rr : Nat) : (Z0 rr 16).1 = 20 := rfl
theorem zn16 (rr : Nat) : (Z0 rr 16).2.1 = 30 := rfl
theorem zk17 (rr : Nat) : (Z0 rr 17).1 = 20 := rfl
theorem zn17 (rr : Nat) : (Z0 rr 17).2.1 = 30 := rfl
theorem zk18 (rr : Nat) : (Z0 rr 18).1 = 20 := rfl
theorem zn18 (rr : Nat) : (Z0 rr 18).2.1 = 30 := rfl
theorem zk19 (rr : Nat) : (Z0 rr 19).1 = 3 := rfl
theorem zr19_1 (rr : Nat) : (Z0 rr 19).2.2 1 = some 20 := rfl
theorem zr19_2 (rr : Nat) : (Z0 rr 19).2.2 2 = some 21 := rfl
theorem zr19_3 (rr : Nat) : (Z0 rr 19).2.2 3 = some 22 := rfl
theorem zk20 (rr : Nat) : (Z0 rr 20).1 = 20 := rfl
theorem zn20 (rr : Nat) : (Z0 rr 20).2.1 = 90 := rfl
theorem zk21 (rr : Nat) : (Z0 rr 21).1 = 20 := rfl
theorem zn21 (rr : Nat) : (Z0 rr 21).2.1 = 90 := rfl
theorem zk22 (rr : Nat) : (Z0 rr 22).1 = 20 := rfl
theorem zn22 (rr : Nat) : (Z0 rr 22).2.1 = 90 := rfl
theorem zk23 (rr : Nat) : (Z0 rr 23).1 = 1 := rfl
theorem zk24 (rr : Nat) : (Z0 rr 24).1 = 0 := rfl
theorem zr24_0 (rr : Nat) : (Z0 rr 24).2.2 0 = some 25 := rfl
theorem zk25 (rr : Nat) : (Z0 rr 25).1 = 24 := rfl
theorem zn25 (rr : Nat) : (Z0 rr 25).2.1 = 8 := rfl
theorem zk26 (rr : Nat) : (Z0 rr 26).1 = 5 := rfl
theorem zr26_0 (rr : Nat) : (Z0 rr 26).2.2 0 = some 27 := rfl
theorem zr26_1 (rr : Nat) : (Z0 rr 26).2.2 1 = some 28 := rfl
theorem zr26_3 (rr : Nat) : (Z0 rr 26).2.2 3 = some 29 := rfl
theorem zr26_4 (rr : Nat) : (Z0 rr 26).2.2 4 = some 31 := rfl
theorem zr26_5 (rr : Nat) : (Z0 rr 26).2.2 5 = some 35 := rfl
theorem zk27 (rr : Nat) : (Z0 rr 27).1 = 1 := rfl
theorem zk28 (rr : Nat) : (Z0 rr 28).1 = 20 := rfl
theorem zn28 (rr : Nat) : (Z0 rr 28).2.1 = 16 := rfl
theorem zk29 (rr : Nat) : (Z0 rr 29).1 = 8 := rfl
theorem zr29_0 (rr : Nat) : (Z0 rr 29).2.2 0 = some 30 := rfl
theorem zk30 (rr : Nat) : (Z0 rr 30).1 = 20 := rfl
theorem zn30 (rr : Nat) : (Z0 rr 30).2.1 = 8 := rfl
theorem zk31 (rr : Nat) : (Z0 rr 31).1 = 3 := rfl
theorem zr31_1 (rr : Nat) : (Z0 rr 31).2.2 1 = some 32 := rfl
theorem zr31_2 (rr : Nat) : (Z0 rr 31).2.2 2 = some 33 := rfl
theorem zr31_3 (rr : Nat) : (Z0 rr 31).2.2 3 = some 34 := rfl
theorem zk32 (rr : Nat) : (Z0 rr 32).1 = 20 := rfl
theorem zn32 (rr : Nat) : (Z0 rr 32).2.1 = 30 := rfl
theorem zk33 (rr : Nat) : (Z0 rr 33).1 = 20 := rfl
theorem zn33 (rr : Nat) : (Z0 rr 33).2.1 = 30 := rfl
theorem zk34 (rr : Nat) : (Z0 rr 34).1 = 20 := rfl
theorem zn34 (rr : Nat) : (Z0 rr 34).2.1 = 30 := rfl
theorem zk35 (rr : Nat) : (Z0 rr 35).1 = 3 := rfl
theorem zr35_1 (rr : Nat) : (Z0 rr 35).2.2 1 = some 36 := rfl
theorem zr35_2 (rr : Nat) : (Z0 rr 35).2.2 2 = some 37 := rfl
theorem zr35_3 (rr : Nat) : (Z0 rr 35).2.2 3 = some 38 := rfl
theorem zk36 (rr : Nat) : (Z0 rr 36).1 = 20 := rfl
theorem zn36 (rr : Nat) : (Z0 rr 36).2.1 = 90 := rfl
theorem zk37 (rr : Nat) : (Z0 rr 37).1 = 20 := rfl
theorem zn37 (rr : Nat) : (Z0 rr 37).2.1 = 90 := rfl
theorem zk38 (rr : Nat) : (Z0 rr 38).1 = 20 := rfl
theorem zn38 (rr : Nat) : (Z0 rr 38).2.1 = 90 := rfl
theorem zk39 (rr : Nat) : (Z0 rr 39).1 = 5 := rfl
theorem zr39_0 (rr : Nat) : (Z0 rr 39).2.2 0 = some 40 := rfl
theorem zr39_1 (rr : Nat) : (Z0 rr 39).2.2 1 = some 41 := rfl
theorem zr39_3 (rr : Nat) : (Z0 rr 39).2.2 3 = some 42 := rfl
theorem zr39_4 (rr : Nat) : (Z0 rr 39).2.2 4 = some 44 := rfl
theorem zr39_5 (rr : Nat) : (Z0 rr 39).2.2 5 = some 48 := rfl
theorem zk40 (rr : Nat) : (Z0 rr 40).1 = 1 := rfl
theorem zk41 (rr : Nat) : (Z0 rr 41).1 = 20 := rfl
theorem zn41 (rr : Nat) : (Z0 rr 41).2.1 = 16 := rfl
theorem zk42 (rr : Nat) : (Z0 rr 42).1 = 8 := rfl
theorem zr42_0 (rr : Nat) : (Z0 rr 42).2.2 0 = some 43 := rfl
theorem zk43 (rr : Nat) : (Z0 rr 43).1 = 20 := rfl
theorem zn43 (rr : Nat) : (Z0 rr 43).2.1 = 8 := rfl
theorem zk44 (rr : Nat) : (Z0 rr 44).1 = 3 := rfl
theorem zr44_1 (rr : Nat) : (Z0 rr 44).2.2 1 = some 45 := rfl
theorem zr44_2 (rr : Nat) : (Z0 rr 44).2.2 2 = some 46 := rfl
theorem zr44_3 (rr : Nat) : (Z0 rr 44).2.2 3 = some 47 := rfl
theorem zk45 (rr : Nat) : (Z0 rr 45).1 = 20 := rfl
theorem zn45 (rr : Nat) : (Z0 rr 45).2.1 = 30 := rfl
theorem zk46 (rr : Nat) : (Z0 rr 46).1 = 20 := rfl
theorem zn46 (rr : Nat) : (Z0 rr 46).2.1 = 30 := rfl
theorem zk47 (rr : Nat) : (Z0 rr 47).1 = 20 := rfl
theorem zn47 (rr : Nat) : (Z0 rr 47).2.1 = 30 := rfl
theorem zk48 (rr : Nat) : (Z0 rr 48).1 = 3 := rfl
theorem zr48_1 (rr : Nat) : (Z0 rr 48).2.2 1 = some 49 := rfl
theorem zr48_2 (rr : Nat) : (Z0 rr 48).2.2 2 = some 50 := rfl
theorem zr48_3 (rr : Nat) : (Z0 rr 48).2.2 3 = some 51 := rfl
theorem zk49 (rr : Nat) : (Z0 rr 49).1 = 20 := rfl
theorem zn49 (rr : Nat) : (Z0 rr 49).2.1 = 90 := rfl
theorem zk50 (rr : Nat) : (Z0 rr 50).1 = 20 := rfl
theorem zn50 (rr : Nat) : (Z0 rr 50).2.1 = 90 := rfl
theorem zk51 (rr : Nat) : (Z0 rr 51).1 = 20 := rfl
theorem zn51 (rr : Nat) : (Z0 rr 51).2.1 = 90 := rfl
theorem zk52 (rr : Nat) : (Z0 rr 52).1 = 5 := rfl
theorem zr52_0 (rr : Nat) : (Z0 rr 52).2.2 0 = some 53 := rfl
theorem zr52_1 (rr : Nat) : (Z0 rr 52).2.2 1 = some 54 := rfl
theorem zr52_3 (rr : Nat) : (Z0 rr 52).2.2 3 = some 55 := rfl
theorem zr52_4 (rr : Nat) : (Z0 rr 52).2.2 4 = some 57 := rfl
theorem zr52_5 (rr : Nat) : (Z0 rr 52).2.2 5 = some 61 := rfl
theorem zk53 (rr : Nat) : (Z0 rr 53).1 = 1 := rfl
theorem zk54 (rr : Nat) : (Z0 rr 54).1 = 20 := rfl
theorem zn54 (rr : Nat) : (Z0 rr 54).2.1 = 16 := rfl
theorem zk55 (rr : Nat) : (Z0 rr 55).1 = 8 := rfl
theorem zr55_0 (rr : Nat) : (Z0 rr 55).2.2 0 = some 56 := rfl
theorem zk56 (rr : Nat) : (Z0 rr 56).1 = 20 := rfl
theorem zn56 (rr : Nat) : (Z0 rr 56).2.1 = 8 := rfl
theorem zk57 (rr : Nat) : (Z0 rr 57).1 = 3 := rfl
theorem zr57_1 (rr : Nat) : (Z0 rr 57).2.2 1 = some 58 := rfl
theorem zr57_2 (rr : Nat) : (Z0 rr 57).2.2 2 = some 59 := rfl
theorem zr57_3 (rr : Nat) : (Z0 rr 57).2.2 3 = some 60 := rfl
theorem zk58 (rr : Nat) : (Z0 rr 58).1 = 20 := rfl
theorem zn58 (rr : Nat) : (Z0 rr 58).2.1 = 30 := rfl
theorem zk59 (rr : Nat) : (Z0 rr 59).1 = 20 := rfl
theorem zn59 (rr : Nat) : (Z0 rr 59).2.1 = 30 := rfl
theorem zk60 (rr : Nat) : (Z0 rr 60).1 = 20 := rfl
theorem zn60 (rr : Nat) : (Z0 rr 60).2.1 = 30 := rfl
theorem zk61 (rr : Nat) : (Z0 rr 61).1 = 3 := rfl
theorem zr61_1 (rr : Nat) : (Z0 rr 61).2.2 1 = some 62 := rfl
theorem zr61_2 (rr : Nat) : (Z0 rr 61).2.2 2 = some 63 := rfl
theorem zr61_3 (rr : Nat) : (Z0 rr 61).2.2 3 = some 64 := rfl
theorem zk62 (rr : Nat) : (Z0 rr 62).1 = 20 := rfl
theorem zn62 (rr : Nat) : (Z0 rr 62).2.1 = 90 := rfl
theorem zk63 (rr : Nat) : (Z0 rr 63).1 = 20 := rfl
theorem zn63 (rr : Nat) : (Z0 rr 63).2.1 = 90 := rfl
theorem zk64 (rr : Nat) : (Z0 rr 64).1 = 20 := rfl
theorem zn64 (rr : Nat) : (Z0 rr 64).2.1 = 90 := rfl
theorem zk65 (rr : Nat) : (Z0 rr 65).1 = 5 := rfl
theorem zr65_0 (rr : Nat) : (Z0 rr 65).2.2 0 = some 66 := rfl
theorem zr65_1 (rr : Nat) : (Z0 rr 65).2.2 1 = some 67 := rfl
theorem zr65_3 (rr : Nat) : (Z0 rr 65).2.2 3 = some 68 := rfl
theorem zr65_4 (rr : Nat) : (Z0 rr 65).2.2 4 = some 70 := rfl
theorem zr65_5 (rr : Nat) : (Z0 rr 65).2.2 5 = some 74 := rfl
theorem zk66 (rr : Nat) : (Z0 rr 66).1 = 1 := rfl
theorem zk67 (rr : Nat) : (Z0 rr 67).1 = 20 := rfl
theorem zn67 (rr : Nat) : (Z0 rr 67).2.1 = 16 := rfl
theorem zk68 (rr : Nat) : (Z0 rr 68).1 = 8 := rfl
theorem zr68_0 (rr : Nat) : (Z0 rr 68).2.2 0 = some 69 := rfl
theorem zk69 (rr : Nat) : (Z0 rr 69).1 = 20 := rfl
theorem zn69 (rr : Nat) : (Z0 rr 69).2.1 = 8 := rfl
theorem zk70 (rr : Nat) : (Z0 rr 70).1 = 3 := rfl
theorem zr70_1 (rr : Nat) : (Z0 rr 70).2.2 1 = some 71 := rfl
theorem zr70_2 (rr : Nat) : (Z0 rr 70).2.2 2 = some 72 := rfl
theorem zr70_3 (rr : Nat) : (Z0 rr 70).2.2 3 = some 73 := rfl
theorem zk71 (rr : Nat) : (Z0 rr 71).1 = 20 := rfl
theorem zn71 (rr : Nat) : (Z0 rr 71).2.1 = 30 := rfl
theorem zk72 (rr : Nat) : (Z0 rr 72).1 = 20 := rfl
theorem zn72 (rr : Nat) : (Z0 rr 72).2.1 = 30 := rfl
theorem zk73 (rr : Nat) : (Z0 rr 73).1 = 20 := rfl
theorem zn73 (rr : Nat) : (Z0 rr 73).2.1 = 30 := rfl
theorem zk74 (rr : Nat) : (Z0 rr 74).1 = 3 := rfl
theorem zr74_1 (rr : Nat) : (Z0 rr 74).2.2 1 = some 75 := rfl
theorem zr74_2 (rr : Nat) : (Z0 rr 74).2.2 2 = some 76 := rfl
theorem zr74_3 (rr : Nat) : (Z0 rr 74).2.2 3 = some 77 := rfl
theorem zk75 (rr : Nat) : (Z0 rr 75).1 = 20 := rfl
theorem zn75 (rr : Nat) : (Z0 rr 75).2.1 = 90 := rfl
theorem zk76 (rr : Nat) : (Z0 rr 76).1 = 20 := rfl
theorem zn76 (rr : Nat) : (Z0 rr 76).2.1 = 90 := rfl
theorem zk77 (rr : Nat) : (Z0 rr 77).1 = 20 := rfl
theorem zn77 (rr : Nat) : (Z0 rr 77).2.1 = 90 := rfl
theorem zk78 (rr : Nat) : (Z0 rr 78).1 = 5 := rfl
theorem zr78_0 (rr : Nat) : (Z0 rr 78).2.2 0 = some 79 := rfl
theorem zr78_1 (rr : Nat) : (Z0 rr 78).2.2 1 = some 80 := rfl
theorem zr78_3 (rr : Nat) : (Z0 rr 78).2.2 3 = some 81 := rfl
theorem zr78_4 (rr : Nat) : (Z0 rr 78).2.2 4 = some 83 := rfl
theorem zr78_5 (rr : Nat) : (Z0 rr 78).2.2 5 = some 87 := rfl
theorem zk79 (rr : Nat) : (Z0 rr 79).1 = 1 := rfl
theorem zk80 (rr : Nat) : (Z0 rr 80).1 = 20 := rfl
theorem zn80 (rr : Nat) : (Z0 rr 80).2.1 = 16 := rfl
theorem zk81 (rr : Nat) : (Z0 rr 81).1 = 8 := rfl
theorem zr81_0 (rr : Nat) : (Z0 rr 81).2.2 0 = some 82 := rfl
theorem zk82 (rr : Nat) : (Z0 rr 82).1 = 20 := rfl
theorem zn82 (rr : Nat) : (Z0 rr 82).2.1 = 8 := rfl
theorem zk83 (rr : Nat) : (Z0 rr 83).1 = 3 := rfl
theorem zr83_1 (rr : Nat) : (Z0 rr 83).2.2 1 = some 84 := rfl
theorem zr83_2 (rr : Nat) : (Z0 rr 83).2.2 2 = some 85 := rfl
theorem zr83_3 (rr : Nat) : (Z0 rr 83).2.2 3 = some 86 := rfl
theorem zk84 (rr : Nat) : (Z0 rr 84).1 = 20 := rfl
theorem zn84 (rr : Nat) : (Z0 rr 84).2.1 = 30 := rfl
theorem zk85 (rr : Nat) : (Z0 rr 85).1 = 20 := rfl
theorem zn85 (rr : Nat) : (Z0 rr 85).2.1 = 30 := rfl
theorem zk86 (rr : Nat) : (Z0 rr 86).1 = 20 := rfl
theorem zn86 (rr : Nat) : (Z0 rr 86).2.1 = 30 := rfl
theorem zk87 (rr : Nat) : (Z0 rr 87).1 = 3 := rfl
theorem zr87_1 (rr : Nat) : (Z0 rr 87).2.2 1 = some 88 := rfl
theorem zr87_2 (rr : Nat) : (Z0 rr 87).2.2 2 = some 89 := rfl
theorem zr87_3 (rr : Nat) : (Z0 rr 87).2.2 3 = some 90 := rfl
theorem zk88 (rr : Nat) : (Z0 rr 88).1 = 20 := rfl
theorem zn88 (rr : Nat) : (Z0 rr 88).2.1 = 90 := rfl
theorem zk89 (rr : Nat) : (Z0 rr 89).1 = 20 := rfl
theorem zn89 (rr : Nat) : (Z0 rr 89).2.1 = 90 := rfl
theorem zk90 (rr : Nat) : (Z0 rr 90).1 = 20 := rfl
theorem zn90 (rr : Nat) : (Z0 rr 90).2.1 = 90 := rfl
theorem zk91 (rr : Nat) : (Z0 rr 91).1 = 5 := rfl
theorem zr91_0 (rr : Nat) : (Z0 rr 91).2.2 0 = some 92 := rfl
theorem zr91_1 (rr : Nat) : (Z0 rr 91).2.2 1 = some 93 := rfl
theorem zr91_3 (rr : Nat) : (Z0 rr 91).2.2 3 = some 94 := rfl
theorem zr91_4 (rr : Nat) : (Z0 rr 91).2.2 4 = some 96 := rfl
theorem zr91_5 (rr : Nat) : (Z0 rr 91).2.2 5 = some 100 := rfl
theorem zk92 (rr : Nat) : (Z0 rr 92).1 = 1 := rfl
theorem zk93 (rr : Nat) : (Z0 rr 93).1 = 20 := rfl
theorem zn93 (rr : Nat) : (Z0 rr 93).2.1 = 16 := rfl
theorem zk94 (rr : Nat) : (Z0 rr 94).1 = 8 := rfl
theorem zr94_0 (rr : Nat) : (Z0 rr 94).2.2 0 = some 95 := rfl
theorem zk95 (rr : Nat) : (Z0 rr 95).1 = 20 := rfl
theorem zn95 (rr : Nat) : (Z0 rr 95).2.1 = 8 := rfl
theorem zk96 (rr : Nat) : (Z0 rr 96).1 = 3 := rfl
theorem zr96_1 (rr : Nat) : (Z0 rr 96).2.2 1 = some 97 := rfl
theorem zr96_2 (rr : Nat) : (Z0 rr 96).2.2 2 = some 98 := rfl
theorem zr96_3 (rr : Nat) : (Z0 rr 96).2.2 3 = some 99 := rfl
theorem zk97 (rr : Nat) : (Z0 rr 97).1 = 20 := rfl
theorem zn97 (rr : Nat) : (Z0 rr 97).2.1 = 30 := rfl
theorem zk98 (rr : Nat) : (Z0 rr 98).1 = 20 := rfl
theorem zn98 (rr : Nat) : (Z0 rr 98).2.1 = 30 := rfl
theorem zk99 (rr : Nat) : (Z0 rr 99).1 = 20 := rfl
theorem zn99 (rr : Nat) : (Z0 rr 99).2.1 = 30 := rfl
theorem zk100 (rr : Nat) : (Z0 rr 100).1 = 3 := rfl
theorem zr100_1 (rr : Nat) : (Z0 rr 100).2.2 1 = some 101 := rfl
theorem zr100_2 (rr : Nat) : (Z0 rr 100).2.2 2 = some 102 := rfl
theorem zr100_3 (rr : Nat) : (Z0 rr 100).2.2 3 = some 103 := rfl
theorem zk101 (rr : Nat) : (Z0 rr 101).1 = 20 := rfl
theorem zn101 (rr : Nat) : (Z0 rr 101).2.1 = 90 := rfl
theorem zk102 (rr : Nat) : (Z0 rr 102).1 = 20 := rfl
theorem zn102 (rr : Nat) : (Z0 rr 102).2.1 = 90 := rfl
theorem zk103 (rr : Nat) : (Z0 rr 103).1 = 20 := rfl
theorem zn103 (rr : Nat) : (Z0 rr 103).2.1 = 90 := rfl
theorem zk104 (rr : Nat) : (Z0 rr 104).1 = 5 := rfl
theorem zr104_0 (rr : Nat) : (Z0 rr 104).2.2 0 = some 105 := rfl
theorem zr104_1 (rr : Nat) : (Z0 rr 104).2.2 1 = some 106 := rfl
theorem zr104_3 (rr : Nat) : (Z0 rr 104).2.2 3 = some 107 := rfl
theorem zr104_4 (rr : Nat) : (Z0 rr 104).2.2 4 = some 109 := rfl
theorem zr104_5 (rr : Nat) : (Z0 rr 104).2.2 5 = some 113 := rfl
theorem zk105 (rr : Nat) : (Z0 rr 105).1 = 1 := rfl
theorem zk106 (rr : Nat) : (Z0 rr 106).1 = 20 := rfl
theorem zn106 (rr : Nat) : (Z0 rr 106).2.1 = 16 := rfl
theorem zk107 (rr : Nat) : (Z0 rr 107).1 = 8 := rfl
theorem zr107_0 (rr : Nat) : (Z0 rr 107).2.2 0 = some 108 := rfl
theorem zk108 (rr : Nat) : (Z0 rr 108).1 = 20 := rfl
theorem zn108 (rr : Nat) : (Z0 rr 108).2.1 = 8 := rfl
theorem zk109 (rr : Nat) : (Z0 rr 109).1 = 3 := rfl
theorem zr109_1 (rr : Nat) : (Z0 rr 109).2.2 1 = some 110 := rfl
theorem zr109_2 (rr : Nat) : (Z0 rr 109).2.2 2 = some 111 := rfl
theorem zr109_3 (rr : Nat) : (Z0 rr 109).2.2 3 = some 112 := rfl
theorem zk110 (rr : Nat) : (Z0 rr 110).1 = 20 := rfl
theorem zn110 (rr : Nat) : (Z0 rr 110).2.1 = 30 := rfl
theorem zk111 (rr : Nat) : (Z0 rr 111).1 = 20 := rfl
theorem zn111 (rr : Nat) : (Z0 rr 111).2.1 = 30 := rfl
theorem zk112 (rr : Nat) : (Z0 rr 112).1 = 20 := rfl
theorem zn112 (rr : Nat) : (Z0 rr 112).2.1 = 30 := rfl
theorem zk113 (rr : Nat) : (Z0 rr 113).1 = 3 := rfl
theorem zr113_1 (rr : Nat) : (Z0 rr 113).2.2 1 = some 114 := rfl
theorem zr113_2 (rr : Nat) : (Z0 rr 113).2.2 2 = some 115 := rfl
theorem zr113_3 (rr : Nat) : (Z0 rr 113).2.2 3 = some 116 := rfl
theorem zk114 (rr : Nat) : (Z0 rr 114).1 = 20 := rfl
theorem zn114 (rr : Nat) : (Z0 rr 114).2.1 = 90 := rfl
theorem zk115 (rr : Nat) : (Z0 rr 115).1 = 20 := rfl
theorem zn115 (rr : Nat) : (Z0 rr 115).2.1 = 90 := rfl
theorem zk116 (rr : Nat) : (Z0 rr 116).1 = 20 := rfl
theorem zn116 (rr : Nat) : (Z0 rr 116).2.1 = 90 := rfl
theorem zk117 (rr : Nat) : (Z0 rr 117).1 = 5 := rfl
theorem zr117_0 (rr : Nat) : (Z0 rr 117).2.2 0 = some 118 := rfl
theorem zr117_1 (rr : Nat) : (Z0 rr 117).2.2 1 = some 119 := rfl
theorem zr117_3 (rr : Nat) : (Z0 rr 117).2.2 3 = some 120 := rfl
theorem zr117_4 (rr : Nat) : (Z0 rr 117).2.2 4 = some 122 := rfl
theorem zr117_5 (rr : Nat) : (Z0 rr 117).2.2 5 = some 126 := rfl
theorem zk118 (rr : Nat) : (Z0 rr 118).1 = 1 := rfl
theorem zk119 (rr : Nat) : (Z0 rr 119).1 = 20 := rfl
theorem zn119 (rr : Nat) : (Z0 rr 119).2.1 = 16 := rfl
theorem zk120 (rr : Nat) : (Z0 rr 120).1 = 8 := rfl
theorem zr120_0 (rr : Nat) : (Z0 rr 120).2.2 0 = some 121 := rfl
theorem zk121 (rr : Nat) : (Z0 rr 121).1 = 20 := rfl
theorem zn121 (rr : Nat) : (Z0 rr 121).2.1 = 8 := rfl
theorem zk122 (rr : Nat) : (Z0 rr 122).1 = 3 := rfl
theorem zr122_1 (rr : Nat) : (Z0 rr 122).2.2 1 = some 123 := rfl
theorem zr122_2 (rr : Nat) : (Z0 rr 122).2.2 2 = some 124 := rfl
theorem zr122_3 (rr : Nat) : (Z0 rr 122).2.2 3 = some 125 := rfl
theorem zk123 (rr : Nat) : (Z0 rr 123).1 = 20 := rfl
theorem zn123 (rr : Nat) : (Z0 rr 123).2.1 = 30 := rfl
theorem zk124 (rr : Nat) : (Z0 rr 124).1 = 20 := rfl
theorem zn124 (rr : Nat) : (Z0 rr 124).2.1 = 30 := rfl
theorem zk125 (rr : Nat) : (Z0 rr 125).1 = 20 := rfl
theorem zn125 (rr : Nat) : (Z0 rr 125).2.1 = 30 := rfl
theorem zk126 (rr : Nat) : (Z0 rr 126).1 = 3 := rfl
theorem zr126_1 (rr : Nat) : (Z0 rr 126).2.2 1 = some 127 := rfl
theorem zr126_2 (rr : Nat) : (Z0 rr 126).2.2 2 = some 128 := rfl
theorem zr126_3 (rr : Nat) : (Z0 rr 126).2.2 3 = some 129 := rfl
theorem zk127 (rr : Nat) : (Z0 rr 127).1 = 20 := rfl
theorem zn127 (rr : Nat) : (Z0 rr 127).2.1 = 90 := rfl
theorem zk128 (rr : Nat) : (Z0 rr 128).1 = 20 := rfl
theorem zn128 (rr : Nat) : (Z0 rr 128).2.1 = 90 := rfl
theorem zk129 (rr : Nat) : (Z0 rr 129).1 = 20 := rfl
theorem zn129 (rr : Nat) : (Z0 rr 129).2.1 = 90 := rfl
theorem zk130 (rr : Nat) : (Z0 rr 130).1 = 5 := rfl
theorem zr130_0 (rr : Nat) : (Z0 rr 130).2.2 0 = some 131 := rfl
theorem zr130_1 (rr : Nat) : (Z0 rr 130).2.2 1 = some 132 := rfl
theorem zr130_3 (rr : Nat) : (Z0 rr 130).2.2 3 = some 133 := rfl
theorem zr130_4 (rr : Nat) : (Z0 rr 130).2.2 4 = some 135 := rfl
theorem zr130_5 (rr : Nat) : (Z0 rr 130).2.2 5 = some 139 := rfl
theorem zk131 (rr : Nat) : (Z0 rr 131).1 = 1 := rfl
theorem zk132 (rr : Nat) : (Z0 rr 132).1 = 20 := rfl
theorem zn132 (rr : Nat) : (Z0 rr 132).2.1 = 16 := rfl
theorem zk133 (rr : Nat) : (Z0 rr 133).1 = 8 := rfl
theorem zr133_0 (rr : Nat) : (Z0 rr 133).2.2 0 = some 134 := rfl
theorem zk134 (rr : Nat) : (Z0 rr 134).1 = 20 := rfl
theorem zn134 (rr : Nat) : (Z0 rr 134).2.1 = 8 := rfl
theorem zk135 (rr : Nat) : (Z0 rr 135).1 = 3 := rfl
theorem zr135_1 (rr : Nat) : (Z0 rr 135).2.2 1 = some 136 := rfl
theorem zr135_2 (rr : Nat) : (Z0 rr 135).2.2 2 = some 137 := rfl
theorem zr135_3 (rr : Nat) : (Z0 rr 135).2.2 3 = some 138 := rfl
theorem zk136 (rr : Nat) : (Z0 rr 136).1 = 20 := rfl
theorem zn136 (rr : Nat) : (Z0 rr 136).2.1 = 30 := rfl
theorem zk137 (rr : Nat) : (Z0 rr 137).1 = 20 := rfl
theorem zn137 (rr : Nat) : (Z0 rr 137).2.1 = 30 := rfl
theorem zk138 (rr : Nat) : (Z0 rr 138).1 = 20 := rfl
theorem zn138 (rr : Nat) : (Z0 rr 138).2.1 = 30 := rfl
theorem zk139 (rr : Nat) : (Z0 rr 139).1 = 3 := rfl
theorem zr139_1 (rr : Nat) : (Z0 rr 139).2.2 1 = some 140 := rfl
theorem zr139_2 (rr : Nat) : (Z0 rr 139).2.2 2 = some 141 := rfl
theorem zr139_3 (rr : Nat) : (Z0 rr 139).2.2 3 = some 142 := rfl
theorem zk140 (rr : Nat) : (Z0 rr 140).1 = 20 := rfl
theorem zn140 (rr : Nat) : (Z0 rr 140).2.1 = 90 := rfl
theorem zk141 (rr : Nat) : (Z0 rr 141).1 = 20 := rfl
theorem zn141 (rr : Nat) : (Z0 rr 141).2.1 = 90 := rfl
theorem zk142 (rr : Nat) : (Z0 rr 142).1 = 20 := rfl
theorem zn142 (rr : Nat) : (Z0 rr 142).2.1 = 90 := rfl
theorem zk143 (rr : Nat) : (Z0 rr 143).1 = 2 := rfl
theorem zr143_0 (rr : Nat) : (Z0 rr 143).2.2 0 = some 144 := rfl
theorem zk144 (rr : Nat) : (Z0 rr 144).1 = 21 := rfl
theorem zn144 (rr : Nat) : (Z0 rr 144).2.1 = 360 := rfl
theorem st_lt0 {b : Nat} (h : b ∈ stL) : b < 145 := (show ∀ b ∈ stL, b < 145 by decide +kernel) b h
theorem st_k0 {b rr : Nat} (h : b ∈ stL) : (Z0 rr (b)).1 = 5 := (show ∀ b ∈ stL, (zl.getD (b) (99, 0, [])).1 = 5 by decide +kernel) b h
theorem st_r0_0 {b : Nat} (h : b ∈ stL) (rr : Nat) : (Z0 rr (b)).2.2 0 = some (b + 1) := (show ∀ b ∈ stL, (zl.getD (b) (99, 0, [])).2.2.getD 0 none = some (b + 1) by decide +kernel) b h
theorem st_r0_1 {b : Nat} (h : b ∈ stL) (rr : Nat) : (Z0 rr (b)).2.2 1 = some (b + 2) := (show ∀ b ∈ stL, (zl.getD (b) (99, 0, [])).2.2.getD 1 none = some (b + 2) by decide +kernel) b h
theorem st_r0_3 {b : Nat} (h : b ∈ stL) (rr : Nat) : (Z0 rr (b)).2.2 3 = some (b + 3) := (show ∀ b ∈ stL, (zl.getD (b) (99, 0, [])).2.2.getD 3 none = some (b + 3) by decide +kernel) b h
theorem st_r0_4 {b : Nat} (h : b ∈ stL) (rr : Nat) : (Z0 rr (b)).2.2 4 = some (b + 5) := (show ∀ b ∈ stL, (zl.getD (b) (99, 0, [])).2.2.getD 4 none = some (b + 5) by decide +kernel) b h
theorem st_r0_5 {b : Nat} (h : b ∈ stL) (rr : Nat) : (Z0 rr (b)).2.2 5 = some (b + 9) := (show ∀ b ∈ stL, (zl.getD (b) (99, 0, [])).2.2.getD 5 none = some (b + 9) by decide +kernel) b h
theorem st_lt1 {b : Nat} (h : b ∈ stL) : b + 1 < 145 := (show ∀ b ∈ stL, b + 1 < 145 by decide +kernel) b h
theorem st_k1 {b rr : Nat} (h : b ∈ stL) : (Z0 rr (b + 1)).1 = 1 := (show ∀ b ∈ stL, (zl.getD (b + 1) (99, 0, [])).1 = 1 by decide +kernel) b h
theorem st_in1 {b : Nat} (h : b ∈ stL) : b + 1 ∈ kiL := (show ∀ b ∈ stL, b + 1 ∈ kiL by decide +kernel) b h
theorem st_lt2 {b : Nat} (h : b ∈ stL) : b + 2 < 145 := (show ∀ b ∈ stL, b + 2 < 145 by decide +kernel) b h
theorem st_k2 {b rr : Nat} (h : b ∈ stL) : (Z0 rr (b + 2)).1 = 20 := (show ∀ b ∈ stL, (zl.getD (b + 2) (99, 0, [])).1 = 20 by decide +kernel) b h
theorem st_lt3 {b : Nat} (h : b ∈ stL) : b + 3 < 145 := (show ∀ b ∈ stL, b + 3 < 145 by decide +kernel) b h
theorem st_k3 {b rr : Nat} (h : b ∈ stL) : (Z0 rr (b + 3)).1 = 8 := (show ∀ b ∈ stL, (zl.getD (b + 3) (99, 0, [])).1 = 8 by decide +kernel) b h
theorem st_r3_0 {b : Nat} (h : b ∈ stL) (rr : Nat) : (Z0 rr (b + 3)).2.2 0 = some (b + 4) := (show ∀ b ∈ stL, (zl.getD (b + 3) (99, 0, [])).2.2.getD 0 none = some (b + 4) by decide +kernel) b h
theorem st_in3 {b : Nat} (h : b ∈ stL) : b + 3 ∈ wbL := (show ∀ b ∈ stL, b + 3 ∈ wbL by decide +kernel) b h
theorem st_lt4 {b : Nat} (h : b ∈ stL) : b + 4 < 145 := (show ∀ b ∈ stL, b + 4 < 145 by decide +kernel) b h
theorem st_k4 {b rr : Nat} (h : b ∈ stL) : (Z0 rr (b + 4)).1 = 20 := (show ∀ b ∈ stL, (zl.getD (b + 4) (99, 0, [])).1 = 20 by decide +kernel) b h
theorem st_lt5 {b : Nat} (h : b ∈ stL) : b + 5 < 145 := (show ∀ b ∈ stL, b + 5 < 145 by decide +kernel) b h
theorem st_k5 {b rr : Nat} (h : b ∈ stL) : (Z0 rr (b + 5)).1 = 3 := (show ∀ b ∈ stL, (zl.getD (b + 5) (99, 0, [])).1 = 3 by decide +kernel) b h
theorem st_r5_1 {b : Nat} (h : b ∈ stL) (rr : Nat) : (Z0 rr (b + 5)).2.2 1 = some (b + 6) := (show ∀ b ∈ stL, (zl.getD (b + 5) (99, 0, [])).2.2.getD 1 none = some (b + 6) by decide +kernel) b h
theorem st_r5_2 {b : Nat} (h : b ∈ stL) (rr : Nat) : (Z0 rr (b + 5)).2.2 2 = some (b + 7) := (show ∀ b ∈ stL, (zl.getD (b + 5) (99, 0, [])).2.2.getD 2 none = some (b + 7) by decide +kernel) b h
theorem st_r5_3 {b : Nat} (h : b ∈ stL) (rr : Nat) : (Z0 rr (b + 5)).2.2 3 = some (b + 8) := (show ∀ b ∈ stL, (zl.getD (b + 5) (99, 0, [])).2.2.getD 3 none = some (b + 8) by decide +kernel) b h
theorem st_in5 {b : Nat} (h : b ∈ stL) : b + 5 ∈ saL := (show ∀ b ∈ stL, b + 5 ∈ saL by decide +kernel) b h
theorem st_lt6 {b : Nat} (h : b ∈ stL) : b + 6 < 145 := (show ∀ b ∈ stL, b + 6 < 145 by decide +kernel) b h
theorem st_k6 {b rr : Nat} (h : b ∈ stL) : (Z0 rr (b + 6)).1 = 20 := (show ∀ b ∈ stL, (zl.getD (b + 6) (99, 0, [])).1 = 20 by decide +kernel) b h
theorem st_lt7 {b : Nat} (h : b ∈ stL) : b + 7 < 145 := (show ∀ b ∈ stL, b + 7 < 145 by decide +kernel) b h
theorem st_k7 {b rr : Nat} (h : b ∈ stL) : (Z0 rr (b + 7)).1 = 20 := (show ∀ b ∈ stL, (zl.getD (b + 7) (99, 0, [])).1 = 20 by decide +kernel) b h
theorem st_lt8 {b : Nat} (h : b ∈ stL) : b + 8 < 145 := (show ∀ b ∈ stL, b + 8 < 145 by decide +kernel) b h
theorem st_k8 {b rr : Nat} (h : b ∈ stL) : (Z0 rr (b + 8)).1 = 20 := (show ∀ b ∈ stL, (zl.getD (b + 8) (99, 0, [])).1 = 20 by decide +kernel) b h
theorem st_lt9 {b : Nat} (h : b ∈ stL) : b + 9 < 145 := (show ∀ b ∈ stL, b + 9 < 145 by decide +kernel) b h
theorem st_k9 {b rr : Nat} (h : b ∈ stL) : (Z0 rr (b + 9)).1 = 3 := (show ∀ b ∈ stL, (zl.getD (b + 9) (99, 0, [])).1 = 3 by decide +kernel) b h
theorem st_r9_1 {b : Nat} (h : b ∈ stL) (rr : Nat) : (Z0 rr (b + 9)).2.2 1 = some (b + 10) := (show ∀ b ∈ stL, (zl.getD (b + 9) (99, 0, [])).2.2.getD 1 none = some (b + 10) by decide +kernel) b h
theorem st_r9_2 {b : Nat} (h : b ∈ stL) (rr : Nat) : (Z0 rr (b + 9)).2.2 2 = some (b + 11) := (show ∀ b ∈ stL, (zl.getD (b + 9) (99, 0, [])).2.2.getD 2 none = some (b + 11) by decide +kernel) b h
theorem st_r9_3 {b : Nat} (h : b ∈ stL) (rr : Nat) : (Z0 rr (b + 9)).2.2 3 = some (b + 12) := (show ∀ b ∈ stL, (zl.getD (b + 9) (99, 0, [])).2.2.getD 3 none = some (b + 12) by decide +kernel) b h
theorem st_in9 {b : Nat} (h : b ∈ stL) : b + 9 ∈ saL := (show ∀ b ∈ stL, b + 9 ∈ saL by decide +kernel) b h
theorem st_lt10 {b : Nat} (h : b ∈ stL) : b + 10 < 145 := (show ∀ b ∈ stL, b + 10 < 145 by decide +kernel) b h
theorem st_k10 {b rr : Nat} (h : b ∈ stL) : (Z0 rr (b + 10)).1 = 20 := (show ∀ b ∈ stL, (zl.getD (b + 10) (99, 0, [])).1 = 20 by decide +kernel) b h
theorem st_lt11 {b : Nat} (h : b ∈ stL) : b + 11 < 145 := (show ∀ b ∈ stL, b + 11 < 145 by decide +kernel) b h
theorem st_k11 {b rr : Nat} (h : b ∈ stL) : (Z0 rr (b + 11)).1 = 20 := (show ∀ b ∈ stL, (zl.getD (b + 11) (99, 0, [])).1 = 20 by decide +kernel) b h
theorem st_lt12 {b : Nat} (h : b ∈ stL) : b + 12 < 145 := (show ∀ b ∈ stL, b + 12 < 145 by decide +kernel) b h
theorem st_k12 {b rr : Nat} (h : b ∈ stL) : (Z0 rr (b + 12)).1 = 20 := (show ∀ b ∈ stL, (zl.getD (b + 12) (99, 0, [])).1 = 20 by decide +kernel) b h
theorem ki_lt0 {b : Nat} (h : b ∈ kiL) : b < 145 := (show ∀ b ∈ kiL, b < 145 by decide +kernel) b h
theorem ki_k0 {b rr : Nat} (h : b ∈ kiL) : (Z0 rr (b)).1 = 1 := (show ∀ b ∈ kiL, (zl.getD (b) (99, 0, [])).1 = 1 by decide +kernel) b h
theorem wb_lt0 {b : Nat} (h : b ∈ wbL) : b < 145 := (show ∀ b ∈ wbL, b < 145 by decide +kernel) b h
theorem wb_k0 {b rr : Nat} (h : b ∈ wbL) : (Z0 rr (b)).1 = 8 := (show ∀ b ∈ wbL, (zl.getD (b) (99, 0, [])).1 = 8 by decide +kernel) b h
theorem wb_r0_0 {b : Nat} (h : b ∈ wbL) (rr : Nat) : (Z0 rr (b)).2.2 0 = some (b + 1) := (show ∀ b ∈ wbL, (zl.getD (b) (99, 0, [])).2.2.getD 0 none = some (b + 1) by decide +kernel) b h
theorem wb_lt1 {b : Nat} (h : b ∈ wbL) : b + 1 < 145 := (show ∀ b ∈ wbL, b + 1 < 145 by decide +kernel) b h
theorem wb_k1 {b rr : Nat} (h : b ∈ wbL) : (Z0 rr (b + 1)).1 = 20 := (show ∀ b ∈ wbL, (zl.getD (b + 1) (99, 0, [])).1 = 20 by decide +kernel) b h
theorem sa_lt0 {b : Nat} (h : b ∈ saL) : b < 145 := (show ∀ b ∈ saL, b < 145 by decide +kernel) b h
theorem sa_k0 {b rr : Nat} (h : b ∈ saL) : (Z0 rr (b)).1 = 3 := (show ∀ b ∈ saL, (zl.getD (b) (99, 0, [])).1 = 3 by decide +kernel) b h
theorem sa_r0_1 {b : Nat} (h : b ∈ saL) (rr : Nat) : (Z0 rr (b)).2.2 1 = some (b + 1) := (show ∀ b ∈ saL, (zl.getD (b) (99, 0, [])).2.2.getD 1 none = some (b + 1) by decide +kernel) b h
theorem sa_r0_2 {b : Nat} (h : b ∈ saL) (rr : Nat) : (Z0 rr (b)).2.2 2 = some (b + 2) := (show ∀ b ∈ saL, (zl.getD (b) (99, 0, [])).2.2.getD 2 none = some (b + 2) by decide +kernel) b h
theorem sa_r0_3 {b : Nat} (h : b ∈ saL) (rr : Nat) : (Z0 rr (b)).2.2 3 = some (b + 3) := (show ∀ b ∈ saL, (zl.getD (b) (99, 0, [])).2.2.getD 3 none = some (b + 3) by decide +kernel) b h
theorem sa_lt1 {b : Nat} (h : b ∈ saL) : b + 1 < 145 := (show ∀ b ∈ saL, b + 1 < 145 by decide +kernel) b h
theorem sa_k1 {b rr : Nat} (h : b ∈ saL) : (Z0 rr (b + 1)).1 = 20 := (show ∀ b ∈ saL, (zl.getD (b + 1) (99, 0, [])).1 = 20 by decide +kernel) b h
theorem sa_lt2 {b : Nat} (h : b ∈ saL) : b + 2 < 145 := (show ∀ b ∈ saL, b + 2 < 145 by decide +kernel) b h
theorem sa_k2 {b rr : Nat} (h : b ∈ saL) : (Z0 rr (b + 2)).1 = 20 := (show ∀ b ∈ saL, (zl.getD (b + 2) (99, 0, [])).1 = 20 by decide +kernel) b h
theorem sa_lt3 {b : Nat} (h : b ∈ saL) : b + 3 < 145 := (show ∀ b ∈ saL, b + 3 < 145 by decide +kernel) b h
theorem sa_k3 {b rr : Nat} (h : b ∈ saL) : (Z0 rr (b + 3)).1 = 20 := (show ∀ b ∈ saL, (zl.getD (b + 3) (99, 0, [])).1 = 20 by decide +kernel) b h
theorem b2i_fit (b : Bool) : fits .boolean (.int (b2i b)) = true := by cases b <;> rfl
