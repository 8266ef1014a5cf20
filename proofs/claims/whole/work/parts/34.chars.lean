/-! a text's characters: the class's reads and the model's -/
theorem ch_h {tx tm : Nat → Int32} {n i : Nat} (hn : n ≤ 60) (hi : i < 1000) (he : ∀ j, j < n → tx j = tm j) : chF tx (nI n) (nI i) = hM tm n i := by
  rw [chF, hM, if_neg (nI_pos (by omega))]
  have e : nI n ≤ nI i ↔ n ≤ i := cI_le (a := n) (b := i) rfl rfl (by omega) (by omega)
  by_cases z : n ≤ i
  · rw [if_pos (e.mpr z), if_neg (by omega)]
  · have e60 : ¬ (60 : Int32) ≤ nI i := fun y => absurd ((cI_le (a := 60) (b := i) rfl rfl (by omega) (by omega)).mp y) (by omega)
    rw [if_neg (fun y => z (e.mp y)), if_neg e60, if_pos (by omega), nI_clamp (by omega)]
    exact he i (by omega)
theorem nm_1 (a : Int32) : 0 + (a - 48) = 0 + a - 48 := by grind
theorem nm_2 (a b : Int32) : (0 + (a - 48)) * 10 + (b - 48) = 10 * (0 + a - 48) + b - 48 := by grind
