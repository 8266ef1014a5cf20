/-! sequences of numbers that both sides walk through -/
def sqd (d : Nat) : Prop := perL.getD d 0 = 0
/-- m, q and the term, i steps behind the start -/
def tsq (d : Nat) : Nat → Int32 × Int32 × Int32
  | 0 => (0, 1, nI (wr d))
  | i + 1 => tnF (nI d) (nI (wr d)) (tsq d i).1 (tsq d i).2.1 (tsq d i).2.2
/-- x and y before, x and y, i terms behind the term 0 -/
def uSeq (d : Nat) : Nat → Int32 × Int32 × Int32 × Int32
  | 0 => (1, 0, nI (wr d), 1)
  | i + 1 => ((uSeq d i).2.2.1, (uSeq d i).2.2.2, (tsq d (i + 1)).2.2 * (uSeq d i).2.2.1 + (uSeq d i).1, (tsq d (i + 1)).2.2 * (uSeq d i).2.2.2 + (uSeq d i).2.1)
/-- the power k of the unit of d -/
def pwr (d : Nat) : Nat → Int64 × Int64
  | 0 => (1, 0)
  | k + 1 => (climbF (tUx d) (tUy d) (nI d) (pwr d k).1 (pwr d k).2).2
def gpn (d : Nat) : Nat := gpL.getD d 0
def pern (d : Nat) : Nat := perL.getD d 0
theorem per_end : ∀ d, d < 61 → ∀ i, i < 12 → i < pern d → ((tsq d (i + 1)).2.2 = 2 * nI (wr d) ↔ i + 1 = pern d) := by decide +kernel
theorem unit_ok : ∀ d, d < 61 → pern d ≠ 0 → (uSeq d (pern d - 1)).2.2.1 = tUx d ∧ (uSeq d (pern d - 1)).2.2.2 = tUy d := by decide +kernel
theorem sq_ok : ∀ d, d < 61 → 2 ≤ d → (nI (wr d) * nI (wr d) = nI d ↔ pern d = 0) := by decide +kernel
theorem per_lt : ∀ d, d < 61 → pern d ≤ 12 := by decide +kernel
theorem gp_lt : ∀ d, d < 61 → gpn d ≤ 39 := by decide +kernel
theorem tab_d (t : Nat → Int32) {d : Nat} (hd : d < 61) : tabF t (nI d) = t d := by
  unfold tabF
  rw [if_neg (nI_pos (by omega)), if_neg (show ¬ (61 : Int32) ≤ nI d from nI_ge hd (by decide)), nI_clamp (by omega)]
theorem climb_keep {ux uy n : Int32} {x y : Int64} (h : (climbF ux uy n x y).1 = 0) : (climbF ux uy n x y).2 = (x, y) := by
  by_cases h1 : ux ≤ 0
  · rw [climbF, if_pos h1]
  · by_cases h2 : x ≤ 1000000000000000 / ux.toInt64
    · by_cases h3 : x * ux.toInt64 + n.toInt64 * y * uy.toInt64 ≤ 1000000000000000
      · rw [climbF, if_neg h1, if_pos h2, if_pos h3] at h
        exact absurd h (show ¬ (1 : Int32) = 0 by decide)
      · rw [climbF, if_neg h1, if_pos h2, if_neg h3]
    · rw [climbF, if_neg h1, if_neg h2]
theorem climb_ok : ∀ d, d < 61 → pern d ≠ 0 → ∀ k, k < 40 → k ≤ gpn d → (climbF (tUx d) (tUy d) (nI d) (pwr d k).1 (pwr d k).2).1 = if k < gpn d then 1 else 0 := by decide +kernel
