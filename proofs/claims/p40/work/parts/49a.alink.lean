/-! links -/
theorem co_l {f : Nat → Int32} {l ml : Int32} {d : Nat} (h60 : d ≤ 60) : coF f l ml 108 (nI d) = (upd f d 0, l + 1, ml) := by rw [coF, if_pos rfl, setH_d f _ (by omega)]
theorem co_t {f : Nat → Int32} {l ml : Int32} {d : Nat} (h60 : d ≤ 60) : coF f l ml 116 (nI d) = (upd f d (-1), l - 1, ml) := by rw [coF, if_neg (by decide), if_pos rfl, setH_d f _ (by omega)]
theorem co_m {f : Nat → Int32} {l ml : Int32} {d h : Nat} (h60 : d ≤ 60) (hf : f d = nI h) : coF f l ml 109 (nI d) = (upd f d (nI (h + 1)), l, ml + 1) := by
  rw [coF, if_neg (by decide), if_neg (by decide), if_pos rfl, setH_d f _ (by omega), hOf_d f (by omega), hf, show nI h + 1 = nI (h + 1) from nI_add h 1]
theorem co_b {f : Nat → Int32} {l ml : Int32} {d k : Nat} (h60 : d ≤ 60) (hf : f d = nI (k + 1)) : coF f l ml 98 (nI d) = (upd f d (nI k), l, ml) := by
  rw [coF, if_neg (by decide), if_neg (by decide), if_neg (by decide), if_pos rfl, setH_d f _ (by omega), hOf_d f (by omega), hf, nI_pred k]
theorem upd_d {f : Nat → Int32} {d : Nat} {v : Int32} : upd f d v d = v := if_pos rfl
theorem tab_1 {d : Nat} (h60 : d ≤ 60) : tabF tPer (nI d) = nI (pern d) ∧ tabF tUx (nI d) = tUx d ∧ tabF tUy (nI d) = tUy d := ⟨tab_d _ (by omega), tab_d _ (by omega), tab_d _ (by omega)⟩
theorem sq_y {d : Nat} (h2 : 2 ≤ d) (h60 : d ≤ 60) : sqF (nI d) = 0 ↔ pern d ≠ 0 := sq_d (by omega)
theorem has_i {f : Nat → Int32} {d : Nat} (hk : okH f) (h2 : 2 ≤ d) (h60 : d ≤ 60) : hasF f (nI d) = if f d < 0 then 0 else 1 := by
  have h := has_lt hk h2 h60
  by_cases z : f d < 0
  · rw [if_pos z, h.mpr z]
  · rw [if_neg z]
    have e : ¬ hasF f (nI d) = 0 := fun y => z (h.mp y)
    rw [hasF] at e ⊢
    split
    · rename_i y; rw [if_pos y] at e; exact absurd rfl e
    · rfl
theorem has_h {f : Nat → Int32} {d : Nat} (hk : okH f) (h2 : 2 ≤ d) (h60 : d ≤ 60) (z : ¬ f d < 0) : pern d ≠ 0 ∧ ∃ h, h ≤ gpn d ∧ f d = nI h := has_d hk h2 h60 (fun e => z (by rw [e]; decide))
theorem f_nn {f : Nat → Int32} {d h : Nat} (hf : f d = nI h) (hh : h < 1000) : ¬ f d < 0 := by rw [hf]; exact nI_pos (by omega)
theorem nI_inj {a b : Nat} (ha : a < 1000) (hb : b < 1000) (h : nI a = nI b) : a = b := (nI_eq (by omega) (by omega)).mp h

