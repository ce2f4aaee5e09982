/-! the room that the law is given -/
theorem room_ok : 600000 ≤ room_1.cells ∧ 7000000 ≤ room_1.slots := ⟨by decide, by decide⟩
