theorem cause_m {f : Nat → Int32} {l : Int32} {d h : Nat} (hk : okH f) (h2 : 2 ≤ d) (h60 : d ≤ 60) (hg : h ≤ gpn d) (hf : f d = nI h) : causeF f l 109 (nI d) = 0 ↔ h < gpn d := by
  have h39 := gp_lt d (by omega)
  rw [causeF, if_neg (by rw [num_d h2 h60]; decide), if_neg (by decide), if_pos rfl, hOf_d f (by omega), hf, if_neg (nI_neg (by omega)), tab_d _ (by omega)]
  have e : tGp d ≤ nI h ↔ gpn d ≤ h := cI_le (a := gpn d) (b := h) rfl rfl (by omega) (by omega)
  by_cases z : gpn d ≤ h
  · rw [if_pos (e.mpr z)]; exact ⟨fun y => absurd y (by decide), fun y => by omega⟩
  · rw [if_neg (fun y => z (e.mp y))]; exact ⟨fun _ => by omega, fun _ => rfl⟩
theorem cause_m0 {f : Nat → Int32} {l : Int32} {d : Nat} (h2 : 2 ≤ d) (h60 : d ≤ 60) (hf : f d = -1) : causeF f l 109 (nI d) = 2 := by
  rw [causeF, if_neg (by rw [num_d h2 h60]; decide), if_neg (by decide), if_pos rfl, hOf_d f (by omega), hf, if_pos rfl]
theorem cause_b {f : Nat → Int32} {l : Int32} {d : Nat} (h2 : 2 ≤ d) (h60 : d ≤ 60) : causeF f l 98 (nI d) = 0 ↔ ¬ f d ≤ 0 := by
  rw [causeF, if_neg (by rw [num_d h2 h60]; decide), if_neg (by decide), if_neg (by decide), if_pos rfl, hOf_d f (by omega)]
  by_cases z : f d ≤ 0
  · rw [if_pos z]; exact ⟨fun y => absurd y (by decide), fun y => absurd z y⟩
  · rw [if_neg z]; exact ⟨fun _ => z, fun _ => rfl⟩
/-- an order's state, done if it is possible -/
def dcF (f : Nat → Int32) (l ml ch n : Int32) : (Nat → Int32) × Int32 × Int32 := if causeF f l ch n = 0 then coF f l ml ch n else (f, l, ml)
theorem dc_y {f : Nat → Int32} {l ml ch n : Int32} (h : causeF f l ch n = 0) : dcF f l ml ch n = coF f l ml ch n := if_pos h
theorem dc_n {f : Nat → Int32} {l ml ch n : Int32} (h : ¬ causeF f l ch n = 0) : dcF f l ml ch n = (f, l, ml) := if_neg h
theorem io_4 {c : Int32} (h : ¬ ioF c = 0) : c = 108 ∨ c = 116 ∨ c = 109 ∨ c = 98 := by
  by_cases h1 : c = 108
  · exact Or.inl h1
  · by_cases h2 : c = 116
    · exact Or.inr (Or.inl h2)
    · by_cases h3 : c = 109
      · exact Or.inr (Or.inr (Or.inl h3))
      · by_cases h4 : c = 98
        · exact Or.inr (Or.inr (Or.inr h4))
        · exact absurd (by rw [ioF, if_neg h1, if_neg h2, if_neg h3, if_neg h4]) h
/-- what an order tells -/
def tol (f : Nat → Int32) (l ch n t : Int32) : Prop := (causeF f l ch n = 1 → t = -11) ∧ (causeF f l ch n = 2 → t = -12) ∧ (causeF f l ch n = 0 → 0 ≤ t)
theorem tol_1 {f : Nat → Int32} {l ch n : Int32} (h : numF n = 0) : tol f l ch n (-11) := by
  have e : causeF f l ch n = 1 := cause_1.mpr h
  exact ⟨fun _ => rfl, fun z => absurd (e.symm.trans z) (by decide), fun z => absurd (e.symm.trans z) (by decide)⟩
theorem tol_2 {f : Nat → Int32} {l ch n : Int32} (h : ¬ numF n = 0) (h2 : ¬ causeF f l ch n = 0) : tol f l ch n (-12) :=
  ⟨fun z => absurd (cause_1.mp z) h, fun _ => rfl, fun z => absurd z h2⟩
theorem tol_0 {f : Nat → Int32} {l ch n t : Int32} (h : causeF f l ch n = 0) (ht : 0 ≤ t) : tol f l ch n t :=
  ⟨fun z => absurd (h.symm.trans z) (by decide), fun z => absurd (h.symm.trans z) (by decide), fun _ => ht⟩
