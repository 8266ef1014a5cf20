/-! sequences of the class's loops over powers -/
def cntL (d : Nat) (b : Int64) : Nat → Nat → Nat
  | 0, i => i
  | n + 1, i => if i < gpn d ∧ (pwr d (i + 1)).1 ≤ b then cntL d b n (i + 1) else i
theorem cntL_stop {d n i : Nat} {b : Int64} (h : ¬ (i < gpn d ∧ (pwr d (i + 1)).1 ≤ b)) : cntL d b n i = i := by
  cases n with
  | zero => rfl
  | succ n => rw [cntL, if_neg h]
theorem cntL_step {d n i : Nat} {b : Int64} (h : i < gpn d) (h2 : (pwr d (i + 1)).1 ≤ b) : cntL d b (n + 1) i = cntL d b n (i + 1) := by rw [cntL, if_pos ⟨h, h2⟩]
/-- how many up to b, the numbers below j looked at -/
def csF (f : Nat → Int32) (b : Int64) : Nat → Int32
  | 0 => 0
  | j + 1 => if hasF f (nI j) = 0 then csF f b j else csF f b j + nI (cntL j b 40 0)
def lyL : List Nat := [0, 0, 2, 1, 0, 4, 2, 3, 1, 0, 6, 3, 2, 180, 4, 1, 0, 8, 4, 39, 2, 12, 42, 5, 1, 0, 10, 5, 24, 1820, 2, 273, 3, 4, 6, 1, 0, 12, 6, 4, 3, 320, 2, 531, 30, 24, 3588, 7, 1, 0, 14, 7, 90, 9100, 66, 12, 2, 20, 2574, 69, 4]
def lyn (d : Nat) : Nat := lyL.getD d 0
/-- the search: x behind the step at y, and the y that is found, with n looks left -/
def slX (d y : Nat) (x : Int64) : Int64 := if (nI d).toInt64 * (nI y).toInt64 * (nI y).toInt64 + 1 ≤ (x + 1) * (x + 1) then x else x + 1
def slF (d : Nat) : Nat → Nat → Int64 → Nat
  | 0, _, _ => 0
  | n + 1, y, x => if (slX d y x + 1) * (slX d y x + 1) = (nI d).toInt64 * (nI y).toInt64 * (nI y).toInt64 + 1 then y else slF d n (y + 1) (slX d y x + (nI (wr d)).toInt64)
theorem ly_pos : ∀ d, d < 61 → pern d ≠ 0 → lyn d ≠ 0 := by decide +kernel
theorem ly_sgn : ∀ d, d < 61 → pern d ≠ 0 → (if sgF (nI d) = 1 then tUy d else 2 * tUx d * tUy d) = nI (lyn d) := by decide +kernel
set_option maxRecDepth 100000 in
theorem sl_ok : ∀ d, d < 61 → pern d ≠ 0 → slF d 9200 1 (nI (wr d)).toInt64 = lyn d := by decide +kernel
def fmF (x y : Int64) : Int64 := if 0 ≤ x ^^^ y then x - x / y * y else if x - x / y * y = 0 then x - x / y * y else x - x / y * y + y
/-- stones stand on numbers that are no squares -/
def okS (f : Nat → Int32) : Prop := ∀ d, 2 ≤ d → d ≤ 60 → ¬ hasF f (nI d) = 0 → pern d ≠ 0
