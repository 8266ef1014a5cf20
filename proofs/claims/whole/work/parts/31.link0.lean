/-! the model's words and the class's words for the same -/
theorem neg_iff {f : Nat → Int32} {d : Nat} (hk : okH f) (h2 : 2 ≤ d) (h60 : d ≤ 60) : f d < 0 ↔ f d = -1 := by
  rcases hk d h2 h60 with z | ⟨-, h, hg, z⟩
  · rw [z]; exact ⟨fun _ => rfl, fun _ => neg_1⟩
  · have h39 := gp_lt d (by omega)
    rw [z]
    exact ⟨fun y => absurd y (nI_pos (by omega)), fun y => absurd y (nI_neg (by omega))⟩
theorem rs_eq {f : Nat → Int32} {l : Int32} {d c : Nat} (hk : okH f) (h2 : 2 ≤ d) (h60 : d ≤ 60) (hl : l = manyF f 59) (hc : l = nI c) (h8 : c ≤ 8) : rsnF f l (nI d) = rsF f d := by
  rw [rsnF, rsF, ← hl]
  by_cases hp : pern d = 0
  · rw [if_pos hp, if_neg (fun z => absurd hp ((sq_d (by omega)).mp z))]
  · rw [if_neg hp, if_pos ((sq_d (by omega)).mpr hp), hOf_d f (by omega)]
    by_cases hn : f d = -1
    · rw [if_pos hn, if_pos ((neg_iff hk h2 h60).mpr hn), hc]
      by_cases h : c = 8
      · subst h; rfl
      · have e1 : nI c < (8 : Int32) := (cI_lt (a := c) (b := 8) rfl rfl (by omega) (by omega)).mpr (by omega)
        have e2 : ¬ nI c = (8 : Int32) := fun z => h ((cI_eq (a := c) (b := 8) rfl rfl (by omega) (by omega)).mp z)
        rw [if_pos e1, if_neg e2]
    · rw [if_neg hn, if_neg (fun z => hn ((neg_iff hk h2 h60).mp z))]
theorem cause_012 (f : Nat → Int32) (l ch n : Int32) : causeF f l ch n = 0 ∨ causeF f l ch n = 1 ∨ causeF f l ch n = 2 := by
  unfold causeF
  repeat' split
  all_goals first | exact Or.inl rfl | exact Or.inr (Or.inl rfl) | exact Or.inr (Or.inr rfl)
theorem cause_1 {f : Nat → Int32} {l ch n : Int32} : causeF f l ch n = 1 ↔ numF n = 0 := by
  constructor
  · intro h
    refine Classical.byContradiction fun z => ?_
    unfold causeF at h
    rw [if_neg z] at h
    revert h
    repeat' split
    all_goals exact fun h => absurd h (by decide)
  · intro h; rw [causeF, if_pos h]
theorem cause_l {f : Nat → Int32} {l : Int32} {d c : Nat} (hk : okH f) (h2 : 2 ≤ d) (h60 : d ≤ 60) (hl : l = manyF f 59) (hc : l = nI c) (h8 : c ≤ 8) : causeF f l 108 (nI d) = 0 ↔ rsF f d ≤ 0 := by
  rw [causeF, if_neg (by rw [num_d h2 h60]; decide), if_pos rfl, rs_eq hk h2 h60 hl hc h8]
  have e : rsF f d = 0 ∨ ¬ rsF f d ≤ 0 := by
    rw [rsF]; repeat' split
    all_goals first | exact Or.inl rfl | exact Or.inr (by decide)
  rcases e with z | z
  · rw [z]; exact ⟨fun _ => by decide, fun _ => rfl⟩
  · have z0 : ¬ rsF f d = 0 := fun y => z (by rw [y]; decide)
    rw [if_neg z0]; exact ⟨fun y => absurd y (by decide), fun y => absurd y z⟩
theorem cause_t {f : Nat → Int32} {l : Int32} {d : Nat} (hk : okH f) (h2 : 2 ≤ d) (h60 : d ≤ 60) : causeF f l 116 (nI d) = 0 ↔ 0 ≤ f d := by
  rw [causeF, if_neg (by rw [num_d h2 h60]; decide), if_neg (by decide), if_neg (by decide), if_neg (by decide), hOf_d f (by omega)]
  by_cases z : f d = -1
  · rw [if_pos z, z]; exact ⟨fun y => absurd y (by decide), fun y => absurd y (by decide)⟩
  · rw [if_neg z]; exact ⟨fun _ => Int32.not_lt.mp (fun y => z ((neg_iff hk h2 h60).mp y)), fun _ => rfl⟩
