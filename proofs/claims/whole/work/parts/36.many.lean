/-! how many stones, behind a change -/
def ng01 (v : Int32) : Int32 := if v < 0 then 0 else 1
theorem many_o {f : Nat → Int32} {d : Nat} {v : Int32} : ∀ j, j + 1 < d → manyF (upd f d v) j = manyF f j
  | 0, _ => rfl
  | j + 1, h => by
    have e : upd f d v (j + 2) = f (j + 2) := by
      have : ¬ j + 2 = d := by omega
      simp [upd, this]
    rw [manyF, manyF, many_o j (by omega), e]
theorem many_u {f : Nat → Int32} {d : Nat} {v : Int32} (h2 : 2 ≤ d) : ∀ j, d ≤ j + 1 → manyF (upd f d v) j + ng01 (f d) = manyF f j + ng01 v
  | 0, h => by omega
  | j + 1, h => by
    by_cases e : d = j + 2
    · subst e
      have e1 : upd f (j + 2) v (j + 2) = v := by simp [upd]
      rw [manyF, manyF, many_o j (by omega), e1]
      show manyF f j + ng01 v + ng01 (f (j + 2)) = manyF f j + ng01 (f (j + 2)) + ng01 v
      grind
    · have e1 : upd f d v (j + 2) = f (j + 2) := by
        have : ¬ j + 2 = d := by omega
        simp [upd, this]
      have ih := many_u (f := f) (v := v) h2 j (by omega)
      rw [manyF, manyF, e1]
      show manyF (upd f d v) j + ng01 (f (j + 2)) + ng01 (f d) = manyF f j + ng01 (f (j + 2)) + ng01 v
      grind
