theorem sg_t : ∀ d, d < 61 → ∀ h, h < 40 → (if sgF (nI d) = -1 then (if nI h - nI h / 2 * 2 = 1 then (-1 : Int32) else 1) else 1) = (if nI h - nI h / 2 * 2 = 0 then 1 else sgF (nI d)) := by decide +kernel
theorem sr_t : ∀ d, d < 61 → pern d ≠ 0 → ∀ h, h < 40 → h ≤ gpn d → srF (nI d) (pwr d h).1 (pwr d h).2 = (if nI h - nI h / 2 * 2 = 0 then 1 else sgF (nI d)) := by decide +kernel
theorem sg_1 : ∀ d, d < 61 → sgF (nI d) = 1 ∨ sgF (nI d) = -1 := fun d _ => by
  unfold sgF
  split
  · exact Or.inl rfl
  · exact Or.inr rfl
theorem sg_eq {f : Nat → Int32} {d h : Nat} (h60 : d ≤ 60) (hg : h ≤ gpn d) (hf : f d = nI h) : signF f (nI d) = sgM f d := by
  have h39 := gp_lt d (by omega)
  rw [signF, hOf_d f (by omega), sgM, hf]
  exact sg_t d (by omega) h (by omega)
theorem sr_eq {f : Nat → Int32} {d h : Nat} (h60 : d ≤ 60) (hp : pern d ≠ 0) (hg : h ≤ gpn d) (hf : f d = nI h) : srF (nI d) (pwr d h).1 (pwr d h).2 = sgM f d := by
  have h39 := gp_lt d (by omega)
  rw [sgM, hf]
  exact sr_t d (by omega) hp h (by omega) hg
theorem mn_eq {f : Nat → Int32} (hk : okH f) : ∀ j, j ≤ 59 → mnF f j = msF f j
  | 0, _ => rfl
  | j + 1, hj => by
    have ih := mn_eq hk j (by omega)
    have hh := has_lt hk (j := j + 2) (by omega) (by omega)
    rw [mnF, msF, ih]
    by_cases z : f (j + 2) < 0
    · rw [if_pos (hh.mpr z), if_pos z]; exact (Int32.add_zero _).symm
    · obtain ⟨hp, h, hg, hf⟩ := has_h hk (d := j + 2) (by omega) (by omega) z
      rw [if_neg (fun y => z (hh.mp y)), if_neg z, sg_eq (by omega) hg hf]
      have e : sgM f (j + 2) = 1 ∨ sgM f (j + 2) = -1 := by
        rw [sgM]
        split
        · exact Or.inl rfl
        · exact sg_1 _ (by omega)
      rcases e with e | e
      · rw [e, if_neg (by decide), if_pos (by decide)]; exact (Int32.add_zero _).symm
      · rw [e, if_pos rfl, if_neg (by decide)]
def nrV (d h : Nat) : UInt64 := FP.f2d (FP.fdiv (FP.l2f (pwr d h).1) (FP.l2f (pwr d h).2))
def nrD (d h : Nat) : Bool := decide (nrV d h &&& 0x7fffffffffffffff ≤ 0x7ff0000000000000) && (Op.cmpValue (FP.dcmp (nrV d h) (nrV d h)) .l == 0)
theorem nr_a : ∀ d, d < 61 → pern d ≠ 0 → ∀ h, h < 40 → h ≤ gpn d → 1 ≤ h → nrD d h = true := by decide +kernel
theorem nr_t {d h : Nat} (hd : d < 61) (hp : pern d ≠ 0) (hg : h ≤ gpn d) (h1 : 1 ≤ h) : vf_n64 (FP.f2d (FP.fdiv (FP.l2f (pwr d h).1) (FP.l2f (pwr d h).2))) ∧ Op.cmpValue (FP.dcmp (FP.f2d (FP.fdiv (FP.l2f (pwr d h).1) (FP.l2f (pwr d h).2))) (FP.f2d (FP.fdiv (FP.l2f (pwr d h).1) (FP.l2f (pwr d h).2)))) .l = 0 := by
  have h39 := gp_lt d hd
  have h2 := nr_a d hd hp h (by omega) hg h1
  rw [nrD, Bool.and_eq_true] at h2
  exact ⟨show nrV d h &&& 0x7fffffffffffffff ≤ 0x7ff0000000000000 from of_decide_eq_true h2.1, eq_of_beq h2.2⟩
theorem ne_AI : ¬ eIAE = eISE := by decide
theorem ne_AN : ¬ eIAE = eNSE := by decide
theorem ne_IA : ¬ eISE = eIAE := by decide
theorem ne_NA : ¬ eNSE = eIAE := by decide
