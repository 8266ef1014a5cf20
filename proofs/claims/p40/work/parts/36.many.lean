/-! how many stones, behind a change -/
def ng01 (v : Int32) : Int32 := if v < 0 then 0 else 1
theorem many_o {f : Nat → Int32} {d : Nat} {v : Int32} : ∀ j, j + 1 < d → manyF (upd f d v) j = manyF f j
  | 0, _ => rfl
  | j + 1, h => by
    have e : upd f d v (j + 2) = f (j + 2) := by
      have : ¬ j + 2 = d := by omega
      simp [upd, this]
    rw [manyF, manyF, many_o j (by omega), e]
theorem many_u {f : Nat → Int32} {d : Nat} {v : Int32} (h2 : 2 ≤ d) : ∀ j, d ≤ j + 1 → manyF (upd f d v) j + ng01 (f d) = manyF f j + ng01 v
  | 0, h => by omega
  | j + 1, h => by
    by_cases e : d = j + 2
    · subst e
      have e1 : upd f (j + 2) v (j + 2) = v := by simp [upd]
      rw [manyF, manyF, many_o j (by omega), e1]
      show manyF f j + ng01 v + ng01 (f (j + 2)) = manyF f j + ng01 (f (j + 2)) + ng01 v
      grind
    · have e1 : upd f d v (j + 2) = f (j + 2) := by
        have : ¬ j + 2 = d := by omega
        simp [upd, this]
      have ih := many_u (f := f) (v := v) h2 j (by omega)
      rw [manyF, manyF, e1]
      show manyF (upd f d v) j + ng01 (f (j + 2)) + ng01 (f d) = manyF f j + ng01 (f (j + 2)) + ng01 v
      grind
theorem ng_n {h : Nat} (hh : h < 1000) : ng01 (nI h) = 1 := if_neg (nI_pos (by omega))
theorem ng_m : ng01 (-1) = 0 := rfl
/-- l is how many, and not above 8 -/
def okL (f : Nat → Int32) (l : Int32) : Prop := l = manyF f 59 ∧ ∃ c, c ≤ 8 ∧ l = nI c
theorem okL_co {f : Nat → Int32} {l ml ch n : Int32} (hk : okH f) (hL : okL f l) (hc : causeF f l ch n = 0) : okL (coF f l ml ch n).1 (coF f l ml ch n).2.1 := by
  obtain ⟨hl, c, h8, hlc⟩ := hL
  by_cases h1 : ch = 108
  · subst h1
    obtain ⟨d, -, h2, h60, hp, hf, h8', e⟩ := lay_v (ml := ml) hc
    rw [e]
    have hm := many_u (f := f) (v := nI 0) h2 59 (by omega)
    rw [hf, ng_m, ng_n (by omega), ← hl] at hm
    have hc8 : c < 8 := (cI_lt (a := c) (b := 8) rfl rfl (by omega) (by omega)).mp (hlc ▸ h8')
    exact ⟨by grind, c + 1, by omega, by rw [hlc]; exact nI_add c 1⟩
  · by_cases h2 : ch = 116
    · subst h2
      obtain ⟨d, h, -, h2, h60, hp, hg, hf, e⟩ := take_v (ml := ml) hk hc
      have h39 := gp_lt d (by omega)
      rw [e]
      have hm := many_u (f := f) (v := -1) h2 59 (by omega)
      rw [hf, ng_m, ng_n (by omega), ← hl] at hm
      obtain ⟨c2, hc2, e2⟩ := many_nat (upd f d (-1)) 59
      have e3 : nI (c2 + 1) = nI c := by rw [← hlc, show nI (c2 + 1) = nI c2 + 1 from (nI_add c2 1).symm, ← e2]; grind
      have e4 := (cI_eq (a := c2 + 1) (b := c) rfl rfl (by omega) (by omega)).mp e3
      have e5 : l - 1 = manyF (upd f d (-1)) 59 := by grind
      exact ⟨e5, c2, by omega, e5.trans e2⟩
    · by_cases h3 : ch = 109
      · subst h3
        obtain ⟨d, h, -, h2, h60, hp, hg, hf, e⟩ := mill_v (ml := ml) hk hc
        have h39 := gp_lt d (by omega)
        rw [e]
        have hm := many_u (f := f) (v := nI (h + 1)) h2 59 (by omega)
        rw [hf, ng_n (by omega), ng_n (by omega), ← hl] at hm
        exact ⟨by grind, c, h8, hlc⟩
      · by_cases h4 : ch = 98
        · subst h4
          obtain ⟨d, h, -, h2, h60, hp, hg, hf, e⟩ := back_v (ml := ml) hk hc
          have h39 := gp_lt d (by omega)
          rw [e]
          have hm := many_u (f := f) (v := nI h) h2 59 (by omega)
          rw [hf, ng_n (by omega), ng_n (by omega), ← hl] at hm
          exact ⟨by grind, c, h8, hlc⟩
        · rw [coF, if_neg h1, if_neg h2, if_neg h3, if_neg h4]; exact ⟨hl, c, h8, hlc⟩
