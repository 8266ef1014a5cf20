/-! what stands on the numbers: nothing, or a power that the document lets stand -/
theorem num_nat {n : Int32} (h : ¬ numF n = 0) : ∃ d, 2 ≤ d ∧ d ≤ 60 ∧ n = nI d := by
  by_cases h1 : n < 2
  · exact absurd (by rw [numF, if_pos h1]) h
  · by_cases h2 : 60 < n
    · exact absurd (by rw [numF, if_neg h1, if_pos h2]) h
    · rcases pk_ix n (show 61 < 2147483648 by decide) with h3 | h3 | ⟨j, hj, rfl⟩
      · exact absurd (Int32.lt_trans h3 (by decide)) h1
      · exact absurd (Int32.lt_of_lt_of_le (show (60 : Int32) < nI 61 by decide) h3) h2
      · exact ⟨j, Nat.le_of_not_lt fun z => h1 ((cI_lt (a := j) (b := 2) rfl rfl (by omega) (by omega)).mpr z), by omega, rfl⟩
theorem num_dd : ∀ d, d < 61 → 2 ≤ d → numF (nI d) = 1 := by decide +kernel
theorem num_d {d : Nat} (h2 : 2 ≤ d) (h60 : d ≤ 60) : numF (nI d) = 1 := num_dd d (by omega) h2
theorem it0 {p : Prop} [Decidable p] (h : (if p then (0 : Int32) else 1) = 0) : p := Classical.byContradiction fun z => absurd (Eq.trans (Eq.symm (if_neg z)) h) (by decide)
theorem it1 {p : Prop} [Decidable p] (h : ¬ (if p then (0 : Int32) else 1) = 0) : ¬ p := fun z => h (if_pos z)
theorem hOf_d (f : Nat → Int32) {d : Nat} (hd : d < 61) : hOf f (nI d) = f d := by
  unfold hOf
  rw [if_neg (nI_pos (by omega)), if_neg (show ¬ (61 : Int32) ≤ nI d from nI_ge hd (by decide)), nI_clamp (by omega)]
theorem setH_d (f : Nat → Int32) (v : Int32) {d : Nat} (hd : d < 61) : setH f (nI d) v = upd f d v := by
  unfold setH
  rw [if_neg (nI_pos (by omega)), if_neg (show ¬ (61 : Int32) ≤ nI d from nI_ge hd (by decide)), nI_clamp (by omega)]
theorem sq_d {d : Nat} (hd : d < 61) : sqF (nI d) = 0 ↔ pern d ≠ 0 := by
  unfold sqF
  rw [if_neg (nI_pos (by omega)), if_neg (show ¬ (61 : Int32) ≤ nI d from nI_ge hd (by decide)), nI_clamp (by omega)]
  have h12 := per_lt d hd
  have e : tPer d = 0 ↔ pern d = 0 := cI_eq (a := pern d) (b := 0) rfl rfl (by omega) (by omega)
  by_cases h : pern d = 0
  · rw [if_pos (e.mpr h)]; exact ⟨fun z => absurd z (by decide), fun z => absurd h z⟩
  · rw [if_neg (fun z => h (e.mp z))]; exact ⟨fun _ => h, fun _ => rfl⟩
def okH (f : Nat → Int32) : Prop := ∀ d, 2 ≤ d → d ≤ 60 → f d = -1 ∨ (pern d ≠ 0 ∧ ∃ h, h ≤ gpn d ∧ f d = nI h)
theorem nI_neg {h : Nat} (hh : h < 1000) : ¬ nI h = -1 := by
  intro z
  have := congrArg Int32.toInt z
  rw [nI_toInt (by omega)] at this
  have e : (-1 : Int32).toInt = -1 := rfl
  rw [e] at this
  omega
theorem okH_u {f : Nat → Int32} {d h : Nat} (hk : okH f) (hp : pern d ≠ 0) (hh : h ≤ gpn d) : okH (upd f d (nI h)) := by
  intro k h2 h60
  by_cases e : k = d
  · subst e; exact Or.inr ⟨hp, h, hh, by simp [upd]⟩
  · have : upd f d (nI h) k = f k := by simp [upd, e]
    rw [this]; exact hk k h2 h60
theorem okH_t {f : Nat → Int32} {d : Nat} (hk : okH f) : okH (upd f d (-1)) := by
  intro k h2 h60
  by_cases e : k = d
  · subst e; exact Or.inl (by simp [upd])
  · have : upd f d (-1) k = f k := by simp [upd, e]
    rw [this]; exact hk k h2 h60
theorem has_d {f : Nat → Int32} {d : Nat} (hk : okH f) (h2 : 2 ≤ d) (h60 : d ≤ 60) (h : ¬ f d = -1) : pern d ≠ 0 ∧ ∃ h, h ≤ gpn d ∧ f d = nI h := (hk d h2 h60).resolve_left h
theorem okH.laid {f : Nat → Int32} {n : Int32} (hk : okH f) (h1 : ¬ numF n = 0) (hh : ¬ hasF f n = 0) : ∃ d h, n = nI d ∧ 2 ≤ d ∧ d ≤ 60 ∧ pern d ≠ 0 ∧ h ≤ gpn d ∧ hOf f (nI d) = nI h := by
  obtain ⟨d, h2, h60, rfl⟩ := num_nat h1
  have h3 : ¬ f d = -1 := fun z => hh (by rw [hasF, hOf_d f (by omega), if_pos z])
  obtain ⟨a, h, b, c⟩ := has_d hk h2 h60 h3
  exact ⟨d, h, rfl, h2, h60, a, b, (hOf_d f (by omega)).trans c⟩
theorem okH.S {f : Nat → Int32} (hk : okH f) : okS f := by
  intro d h2 h60 hh
  have h3 : ¬ f d = -1 := fun z => hh (by rw [hasF, hOf_d f (by omega), if_pos z])
  exact (has_d hk h2 h60 h3).1
theorem cz_num {f : Nat → Int32} {l ch n : Int32} (hc : causeF f l ch n = 0) : ¬ numF n = 0 := fun z => by rw [causeF, if_pos z] at hc; exact absurd hc (by decide)
theorem lay_v {f : Nat → Int32} {l ml n : Int32} (hc : causeF f l 108 n = 0) : ∃ d, n = nI d ∧ 2 ≤ d ∧ d ≤ 60 ∧ pern d ≠ 0 ∧ f d = -1 ∧ l < 8 ∧ coF f l ml 108 n = (upd f d (nI 0), l + 1, ml) := by
  have h0 := cz_num hc
  obtain ⟨d, h2, h60, rfl⟩ := num_nat h0
  rw [causeF, if_neg h0, if_pos rfl] at hc
  have h1 : rsnF f l (nI d) = 0 := Classical.byContradiction fun z => by rw [if_neg z] at hc; exact absurd hc (by decide)
  rw [rsnF] at h1
  have h3 : sqF (nI d) = 0 := Classical.byContradiction fun z => by rw [if_neg z] at h1; exact absurd h1 (by decide)
  rw [if_pos h3] at h1
  have h4 : hOf f (nI d) = -1 := Classical.byContradiction fun z => by rw [if_neg z] at h1; exact absurd h1 (by decide)
  rw [if_pos h4] at h1
  have h5 : l < 8 := Classical.byContradiction fun z => by rw [if_neg z] at h1; exact absurd h1 (by decide)
  exact ⟨d, rfl, h2, h60, (sq_d (by omega)).mp h3, (hOf_d f (by omega)).symm.trans h4, h5, by rw [coF, if_pos rfl, setH_d f _ (by omega)]; rfl⟩
theorem take_v {f : Nat → Int32} {l ml n : Int32} (hk : okH f) (hc : causeF f l 116 n = 0) : ∃ d h, n = nI d ∧ 2 ≤ d ∧ d ≤ 60 ∧ pern d ≠ 0 ∧ h ≤ gpn d ∧ f d = nI h ∧ coF f l ml 116 n = (upd f d (-1), l - 1, ml) := by
  have h0 := cz_num hc
  obtain ⟨d, h2, h60, rfl⟩ := num_nat h0
  rw [causeF, if_neg h0, if_neg (by decide), if_neg (by decide), if_neg (by decide)] at hc
  have h4 : ¬ hOf f (nI d) = -1 := fun z => by rw [if_pos z] at hc; exact absurd hc (by decide)
  rw [hOf_d f (by omega)] at h4
  obtain ⟨a, h, b, c⟩ := has_d hk h2 h60 h4
  exact ⟨d, h, rfl, h2, h60, a, b, c, by rw [coF, if_neg (by decide), if_pos rfl, setH_d f _ (by omega)]⟩
theorem mill_v {f : Nat → Int32} {l ml n : Int32} (hk : okH f) (hc : causeF f l 109 n = 0) : ∃ d h, n = nI d ∧ 2 ≤ d ∧ d ≤ 60 ∧ pern d ≠ 0 ∧ h < gpn d ∧ f d = nI h ∧ coF f l ml 109 n = (upd f d (nI (h + 1)), l, ml + 1) := by
  have h0 := cz_num hc
  obtain ⟨d, h2, h60, rfl⟩ := num_nat h0
  rw [causeF, if_neg h0, if_neg (by decide), if_pos rfl] at hc
  have h4 : ¬ hOf f (nI d) = -1 := fun z => by rw [if_pos z] at hc; exact absurd hc (by decide)
  rw [if_neg h4] at hc
  have h5 : ¬ tabF tGp (nI d) ≤ hOf f (nI d) := fun z => by rw [if_pos z] at hc; exact absurd hc (by decide)
  rw [hOf_d f (by omega)] at h4
  obtain ⟨a, h, b, c⟩ := has_d hk h2 h60 h4
  rw [hOf_d f (by omega), tab_d _ (by omega), c] at h5
  have h39 := gp_lt d (by omega)
  have h6 : ¬ gpn d ≤ h := fun z => h5 ((cI_le (a := gpn d) (b := h) rfl rfl (by omega) (by omega)).mpr z)
  exact ⟨d, h, rfl, h2, h60, a, by omega, c, by rw [coF, if_neg (by decide), if_neg (by decide), if_pos rfl, setH_d f _ (by omega), hOf_d f (by omega), c]; rw [show nI h + 1 = nI (h + 1) from nI_add h 1]⟩
theorem back_v {f : Nat → Int32} {l ml n : Int32} (hk : okH f) (hc : causeF f l 98 n = 0) : ∃ d h, n = nI d ∧ 2 ≤ d ∧ d ≤ 60 ∧ pern d ≠ 0 ∧ h + 1 ≤ gpn d ∧ f d = nI (h + 1) ∧ coF f l ml 98 n = (upd f d (nI h), l, ml) := by
  have h0 := cz_num hc
  obtain ⟨d, h2, h60, rfl⟩ := num_nat h0
  rw [causeF, if_neg h0, if_neg (by decide), if_neg (by decide), if_pos rfl] at hc
  have h5 : ¬ hOf f (nI d) ≤ 0 := fun z => by rw [if_pos z] at hc; exact absurd hc (by decide)
  rw [hOf_d f (by omega)] at h5
  have h4 : ¬ f d = -1 := fun z => h5 (by rw [z]; decide)
  obtain ⟨a, h, b, c⟩ := has_d hk h2 h60 h4
  rw [c] at h5
  have h39 := gp_lt d (by omega)
  have h6 : ¬ h ≤ 0 := fun z => h5 ((cI_le (a := h) (b := 0) rfl rfl (by omega) (by omega)).mpr z)
  obtain ⟨k, rfl⟩ : ∃ k, h = k + 1 := ⟨h - 1, by omega⟩
  refine ⟨d, k, rfl, h2, h60, a, b, c, ?_⟩
  rw [coF, if_neg (by decide), if_neg (by decide), if_neg (by decide), if_pos rfl, setH_d f _ (by omega), hOf_d f (by omega), c]
  rw [show nI (k + 1) - 1 = nI k from by rw [show nI (k + 1) = nI k + 1 from (nI_add k 1).symm]; exact Int32.add_sub_cancel _ _]
theorem okH_co {f : Nat → Int32} {l ml ch n : Int32} (hk : okH f) (hc : causeF f l ch n = 0) : okH (coF f l ml ch n).1 := by
  by_cases h1 : ch = 108
  · subst h1; obtain ⟨d, -, -, -, hp, -, -, e⟩ := lay_v (ml := ml) hc; rw [e]; exact okH_u hk hp (Nat.zero_le _)
  · by_cases h2 : ch = 116
    · subst h2; obtain ⟨d, h, -, -, -, -, -, -, e⟩ := take_v (ml := ml) hk hc; rw [e]; exact okH_t hk
    · by_cases h3 : ch = 109
      · subst h3; obtain ⟨d, h, -, -, -, hp, hh, -, e⟩ := mill_v (ml := ml) hk hc; rw [e]; exact okH_u hk hp (by omega)
      · by_cases h4 : ch = 98
        · subst h4; obtain ⟨d, h, -, -, -, hp, hh, -, e⟩ := back_v (ml := ml) hk hc; rw [e]; exact okH_u hk hp (by omega)
        · rw [coF, if_neg h1, if_neg h2, if_neg h3, if_neg h4]; exact hk
