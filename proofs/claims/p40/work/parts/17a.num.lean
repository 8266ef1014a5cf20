/-- what s holds: the powers by number, one more each, and the millings -/
def sv (f : Nat → Int32) (ml : Int32) : Nat → Int32 := fun j => if j = 59 then ml else f (j + 2) + 1
/-- how many stones: the numbers 2 to j + 1 are looked at -/
def manyF (f : Nat → Int32) : Nat → Int32
  | 0 => 0
  | j + 1 => manyF f j + (if f (j + 2) < 0 then 0 else 1)
def rsF (f : Nat → Int32) (d : Nat) : Int32 := if pern d = 0 then 1 else if f d < 0 then (if manyF f 59 = 8 then 3 else 0) else 2
theorem many_nat (f : Nat → Int32) : ∀ j, ∃ c, c ≤ j ∧ manyF f j = nI c
  | 0 => ⟨0, Nat.le_refl _, rfl⟩
  | j + 1 => by
    obtain ⟨c, hc, e⟩ := many_nat f j
    by_cases z : f (j + 2) < 0
    · exact ⟨c, by omega, by rw [manyF, if_pos z, e]; exact nI_add c 0⟩
    · exact ⟨c + 1, by omega, by rw [manyF, if_neg z, e]; exact nI_add c 1⟩
theorem neg_1 : (-1 : Int32) < 0 := by decide
theorem has_lt {f : Nat → Int32} {j : Nat} (hk : okH f) (h2 : 2 ≤ j) (h60 : j ≤ 60) : hasF f (nI j) = 0 ↔ f j < 0 := by
  have e : hasF f (nI j) = if f j = -1 then 0 else 1 := by rw [hasF, hOf_d f (by omega)]
  rw [e]
  rcases hk j h2 h60 with z | ⟨-, h, hg, z⟩
  · rw [z]; exact ⟨fun _ => neg_1, fun _ => if_pos rfl⟩
  · have h39 := gp_lt j (by omega)
    rw [z, if_neg (nI_neg (by omega))]
    exact ⟨fun y => absurd y (by decide), fun y => absurd y (nI_pos (by omega))⟩
/-- the model's sign of a stone -/
def sgM (f : Nat → Int32) (d : Nat) : Int32 := if f d - f d / 2 * 2 = 0 then 1 else sgF (nI d)
def msF (f : Nat → Int32) : Nat → Int32
  | 0 => 0
  | j + 1 => msF f j + (if f (j + 2) < 0 then 0 else if 0 ≤ sgM f (j + 2) then 0 else 1)
def nrB (d h : Nat) : Bool := !((pwr d h).2 == 0) && decide (FP.fdiv (FP.l2f (pwr d h).1) (FP.l2f (pwr d h).2) &&& 0x7fffffff ≤ 0x7f800000)
theorem nr_all : ∀ d, d < 61 → pern d ≠ 0 → ∀ h, h < 40 → h ≤ gpn d → 1 ≤ h → nrB d h = true := by decide +kernel
theorem nr_ok {d h : Nat} (hd : d < 61) (hp : pern d ≠ 0) (hg : h ≤ gpn d) (h1 : 1 ≤ h) : ¬ (pwr d h).2 = 0 ∧ FP.fdiv (FP.l2f (pwr d h).1) (FP.l2f (pwr d h).2) &&& 0x7fffffff ≤ 0x7f800000 := by
  have h39 := gp_lt d hd
  have h2 := nr_all d hd hp h (by omega) hg h1
  rw [nrB, Bool.and_eq_true] at h2
  exact ⟨fun z => by have h3 := h2.1; rw [z] at h3; exact absurd h3 (by decide), of_decide_eq_true h2.2⟩
/-- the character that the model sees at p -/
def hM (tm : Nat → Int32) (n p : Nat) : Int32 := if p < n then tm p else 0
