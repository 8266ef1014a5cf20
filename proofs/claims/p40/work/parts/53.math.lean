/-! the solutions in order, once more; numbers that the law's checks want -/
theorem cns_le (f : Nat → Int32) (b : Int64) : cnS b (k0 f) ≤ 2301 :=
  sum_39 (g := fun d => cnR b d (k0 f d)) (fun d _ h60 => cn_39 h60 (by rw [k0]; split <;> omega)) 59 (Nat.le_refl _)
/-- how many solutions there are -/
abbrev tA (f : Nat → Int32) : Nat := cnS 1000000000000000 (k0 f)
theorem cu_e {f : Nat → Int32} {b : Int64} (hk : okH f) : cuF f b 59 = nI (cnS b (k0 f)) := (cs_0 hk 59 (Nat.le_refl _)).symm
theorem tA_z {f : Nat → Int32} (hk : okH f) : lst (kp f (tA f)) = 0 := Classical.byContradiction fun z => Nat.lt_irrefl _ ((ord_4 hk _).mp z)
theorem tA_n {f : Nat → Int32} (hk : okH f) {i : Nat} (h : i < tA f) : lst (kp f i) ≠ 0 := (ord_4 hk i).mpr h
theorem kp_laid {f : Nat → Int32} (hk : okH f) : ∀ i d, 2 ≤ d → d ≤ 60 → kp f i d ≠ 0 → ¬ f d < 0
  | 0, d, _, _, h => fun z => h (if_pos z)
  | i + 1, d, a, b, h => by
    rw [kp] at h
    by_cases z : lst (kp f i) = 0
    · rw [if_pos z] at h; exact kp_laid hk i d a b h
    · rw [if_neg z] at h
      by_cases e : d = lst (kp f i)
      · rw [e]; exact kp_laid hk i _ (e ▸ a) (e ▸ b) (lst_s (okK_p hk i) z).2.2.1
      · rw [stp, kpU_n e] at h; exact kp_laid hk i d a b h
theorem pw_us : ∀ d, d < 61 → pern d ≠ 0 → ∀ k, k < 40 → k < gpn d → 1 ≤ k → (pwr d k).1 < (pwr d (k + 1)).1 := by decide +kernel
theorem ord_nx {f : Nat → Int32} (hk : okH f) {i : Nat} (h : lst (kp f i) ≠ 0) (h2 : lst (kp f (i + 1)) ≠ 0) : xa (kp f i) (lst (kp f i)) ≤ xa (kp f (i + 1)) (lst (kp f (i + 1))) ∧ (xa (kp f i) (lst (kp f i)) = xa (kp f (i + 1)) (lst (kp f (i + 1))) → lst (kp f i) < lst (kp f (i + 1))) := by
  have hK := okK_p hk i
  have e : kp f (i + 1) = stp (kp f i) (lst (kp f i)) := by rw [kp, if_neg h]
  rw [e] at h2 ⊢
  refine ⟨ord_up hK h h2, fun q => ?_⟩
  have s := lst_s hK h
  have s2 := lst_s (okK_s hK s.2.2.1) h2
  have hp := hK _ s.1 (by have := s.2.1; omega) s.2.2.1
  have g39 := gp_lt (lst (kp f i)) (by have := s.2.1; omega)
  generalize hr : lst (stp (kp f i) (lst (kp f i))) = r at s2 q ⊢
  by_cases m : r = lst (kp f i)
  · subst m
    have z := s2.2.2.1
    rw [xa, xa, stp, kpU_y] at q
    rw [stp, kpU_y] at z
    rw [xk, if_neg s.2.2.1, xk, if_neg z] at q
    rw [nxk] at z q
    by_cases w : kp f i (lst (kp f i)) < gpn (lst (kp f i))
    · rw [if_pos w] at q
      exact absurd (q ▸ pw_us _ (by have := s.2.1; omega) hp.1 _ (by omega) w (Nat.pos_of_ne_zero s.2.2.1)) (Int64.lt_irrefl)
    · rw [if_neg w] at z; exact absurd rfl z
  · have z := s2.2.2.1
    have e2 : stp (kp f i) (lst (kp f i)) r = kp f i r := by rw [stp, kpU_n m]
    rw [e2] at z
    have e3 : xa (stp (kp f i) (lst (kp f i))) r = xa (kp f i) r := by rw [xa, xa, e2]
    rw [e3] at q
    rcases s.2.2.2 r s2.1 s2.2.1 z with l | ⟨_, l⟩
    · rw [q] at l; exact absurd l (Int64.lt_irrefl)
    · exact Nat.lt_of_le_of_ne l (fun y => m y.symm)
theorem xa_b {f : Nat → Int32} (hk : okH f) {i : Nat} (h : lst (kp f i) ≠ 0) : ¬ xa (kp f i) (lst (kp f i)) ≤ 0 ∧ xa (kp f i) (lst (kp f i)) ≤ 1000000000000000 := by
  have hK := okK_p hk i
  have s := lst_s hK h
  have hp := hK _ s.1 (by have := s.2.1; omega) s.2.2.1
  have g39 := gp_lt (lst (kp f i)) (by have := s.2.1; omega)
  rw [xa, xk, if_neg s.2.2.1]
  exact ⟨pw_pos _ (by have := s.2.1; omega) hp.1 _ (by omega) hp.2, pw_le _ (by have := s.2.1; omega) hp.1 _ (by omega) hp.2⟩
theorem x_m1 {x : Int64} (h : ¬ x ≤ 0) (h2 : x ≤ 1000000000000000) : ¬ x < 0 ∧ ¬ x - 1 < 0 ∧ x - 1 ≤ 1000000000000000 ∧ ¬ x ≤ x - 1 := by
  have e0 : (0 : Int64).toInt = 0 := by decide
  have e1 : (1000000000000000 : Int64).toInt = 1000000000000000 := by decide
  have e2 : (1 : Int64).toInt = 1 := by decide
  rw [Int64.le_iff_toInt_le, e0] at h
  rw [Int64.le_iff_toInt_le, e1] at h2
  have e : (x - 1).toInt = x.toInt - 1 := by
    rw [Int64.toInt_sub, e2]
    exact Int.bmod_eq_of_le (by omega) (by omega)
  rw [Int64.lt_iff_toInt_lt, Int64.lt_iff_toInt_lt, Int64.le_iff_toInt_le, Int64.le_iff_toInt_le, e, e0, e1]
  omega
theorem lo_b {j : Nat} (hj : j < 2000000000) : ¬ (nI j).toInt64 < 0 ∧ (nI j).toInt64 ≤ 1000000000000000 := by
  have e0 : (0 : Int64).toInt = 0 := by decide
  have e1 : (1000000000000000 : Int64).toInt = 1000000000000000 := by decide
  rw [Int64.lt_iff_toInt_lt, Int64.le_iff_toInt_le, Int32.toInt_toInt64, nI_toInt (by omega), e0, e1]
  omega
theorem sb_v {a b c m v : Int32} (h : m = a - c) (e : c = b + v) : m + v = a - b := by rw [h, e]; grind
theorem sb_0 {a b c m : Int32} (h : m = a - c) (e : c = b) : m = a - b := by rw [h, e]
theorem sb_s {a : Int32} : (0 : Int32) = a - a := by grind
theorem sb_z {a m : Int32} (h : m = a - 0) : m = a := by rw [h]; grind
theorem ut_s {u w : Int32} {a : Nat} {p : Prop} [Decidable p] (h : u = w + nI a) : u + (if p then 1 else 0) = w + nI (a + if p then 1 else 0) := by
  by_cases z : p
  · rw [if_pos z, if_pos z, h, Int32.add_assoc, nI_1]
  · rw [if_neg z, if_neg z, h]; exact Int32.add_zero _
theorem du_s {u w : Int32} {a : Nat} (h : u = w + nI a) : u + 1 = w + nI (a + 1) := by rw [h, Int32.add_assoc, nI_1]
theorem du_0 {w : Int32} : w = w + nI 0 := (Int32.add_zero w).symm
def nrE (d h : Nat) : Bool := Op.cmpValue (FP.fcmp (FP.fdiv (FP.l2f (pwr d h).1) (FP.l2f (pwr d h).2)) (FP.fdiv (FP.l2f (pwr d h).1) (FP.l2f (pwr d h).2))) .l == 0
theorem nr_e : ∀ d, d < 61 → pern d ≠ 0 → ∀ h, h < 40 → h ≤ gpn d → 1 ≤ h → nrE d h = true := by decide +kernel
theorem nr_f {d h : Nat} (hd : d ≤ 60) (hp : pern d ≠ 0) (hg : h ≤ gpn d) (h0 : ¬ h = 0) : Op.cmpValue (FP.fcmp (FP.fdiv (FP.l2f (pwr d h).1) (FP.l2f (pwr d h).2)) (FP.fdiv (FP.l2f (pwr d h).1) (FP.l2f (pwr d h).2))) .l = 0 := by
  have h39 := gp_lt d (by omega)
  have h2 := nr_e d (by omega) hp h (by omega) hg (by omega)
  exact eq_of_beq h2
theorem nr_104 : Op.cmpValue (FP.fcmp 3268411392 3268411392) .l = 0 := by decide +kernel
theorem pw_0 {d k : Nat} (h60 : d ≤ 60) (hp : pern d ≠ 0) (hg : k ≤ gpn d) : 0 ≤ (pwr d k).1 := by
  have h39 := gp_lt d (by omega)
  exact Int64.le_of_lt (Int64.not_le.mp (pw_pos d (by omega) hp k (by omega) hg))
/-- the next stone, as the law tells it -/
def nxS (f : Nat → Int32) (d : Nat) : Int32 := if sfF f (61 - d) d ≤ 60 then nI (sfF f (61 - d) d) else -104
theorem nx_61 (f : Nat → Int32) : (-104 : Int32) = nxS f 61 := by rw [nxS, sf_61 (Nat.le_refl _), if_neg (by omega)]
theorem nx_n {f : Nat → Int32} {d : Nat} (hk : okH f) (h2 : 2 ≤ d) (h60 : d ≤ 60) (hf : f d < 0) : nxS f d = nxS f (d + 1) := by rw [nxS, nxS, sf_n h60 (has_0 hk h2 h60 hf)]
theorem nx_y {f : Nat → Int32} {d h : Nat} (hk : okH f) (h2 : 2 ≤ d) (h60 : d ≤ 60) (hf : f d = nI h) (hg : h ≤ gpn d) : nxS f d = nI d := by rw [nxS, sf_y h60 (has_1 hk h2 h60 hf hg), if_pos h60]
theorem sg_a {f : Nat → Int32} {d h : Nat} (hf : f d = nI h) (c : nI h - nI h / 2 * 2 = 0) : 1 = sgM f d := by rw [sgM, hf, if_pos c]
theorem sg_b {f : Nat → Int32} {d h : Nat} (h60 : d ≤ 60) (hf : f d = nI h) (c : ¬ nI h - nI h / 2 * 2 = 0) (c2 : nI (pern d) - nI (pern d) / 2 * 2 = 0) : 1 = sgM f d := by rw [sgM, hf, if_neg c, sgF, (tab_1 h60).1, if_pos c2]
theorem sg_c {f : Nat → Int32} {d h : Nat} (h60 : d ≤ 60) (hf : f d = nI h) (c : ¬ nI h - nI h / 2 * 2 = 0) (c2 : ¬ nI (pern d) - nI (pern d) / 2 * 2 = 0) : -1 = sgM f d := by rw [sgM, hf, if_neg c, sgF, (tab_1 h60).1, if_neg c2]
theorem i10 {p : Prop} [Decidable p] (h : (if p then (1 : Int32) else 0) = 0) : ¬ p := fun z => absurd ((if_pos z).symm.trans h) (by decide)
theorem i11 {p : Prop} [Decidable p] (h : ¬ (if p then (1 : Int32) else 0) = 0) : p := Classical.byContradiction fun z => h (if_neg z)
theorem rs_all {s : HE} {d : Nat} (hk : okH s.1) (hL : okL s.1 s.2.1) (h2 : 2 ≤ d) (h60 : d ≤ 60) : rsnF s.1 s.2.1 (nI d) = rsF s.1 d := by
  obtain ⟨h1, c, h8, hc⟩ := hL
  exact rs_eq hk h2 h60 h1 hc h8
theorem cs_1of {f : Nat → Int32} (hk : okH f) {d : Nat} (h2 : 2 ≤ d) (h60 : d ≤ 60) (z : ¬ f d < 0) : ∃ h, pern d ≠ 0 ∧ h ≤ gpn d ∧ f d = nI h := by
  obtain ⟨a, h, b, c⟩ := has_h hk h2 h60 z
  exact ⟨h, a, b, c⟩
theorem cu_n {f : Nat → Int32} {b : Int64} {i : Nat} (hk : okH f) (hi : i < 59) (hf : f (i + 2) < 0) : cuF f b (i + 1) = cuF f b i := cuF_n (has_0 hk (by omega) (by omega) hf)
theorem cu_y {f : Nat → Int32} {b : Int64} {i h : Nat} (hk : okH f) (hi : i < 59) (hf : f (i + 2) = nI h) (hg : h ≤ gpn (i + 2)) (hp : pern (i + 2) ≠ 0) : cuF f b (i + 1) = cuF f b i + nI (cSm (i + 2) b (gpn (i + 2))) := by
  rw [cuF_y (has_1 hk (by omega) (by omega) hf hg), cS_1 (by omega) hp]
theorem cu_a {f : Nat → Int32} {i h : Nat} (hk : okH f) (hi : i < 59) (hf : f (i + 2) = nI h) (hg : h ≤ gpn (i + 2)) (hp : pern (i + 2) ≠ 0) : cuF f 1000000000000000 (i + 1) = cuF f 1000000000000000 i + nI (gpn (i + 2)) := by
  rw [cuF_y (has_1 hk (by omega) (by omega) hf hg), cS_all _ (by omega) hp]
theorem lN_8 {l : Int32} {c : Nat} (hc : l = nI c) (h8 : c ≤ 8) : ¬ 8 < l := by
  rw [hc]; intro z
  have := (cI_lt (a := 8) (b := c) rfl rfl (by omega) (by omega)).mp z
  omega
theorem nI_nlt2 {a b : Nat} (hb : b < 100000) (ha : a < 100000) (h : a ≤ b) : ¬ nI b < nI a := fun z => by
  have := (cI_lt (a := b) (b := a) rfl rfl (by omega) (by omega)).mp z
  omega
theorem nI_nle2 {a b : Nat} (hb : b < 100000) (ha : a < 100000) (h : a < b) : ¬ nI b ≤ nI a := fun z => by
  have := (cI_le (a := b) (b := a) rfl rfl (by omega) (by omega)).mp z
  omega
theorem nI_ltp {a b : Nat} (hb : b < 100000) (ha : a < 100000) (h : nI b < nI a) : b < a := (cI_lt (a := b) (b := a) rfl rfl (by omega) (by omega)).mp h
theorem nI_lep {a b : Nat} (hb : b < 100000) (ha : a < 100000) (h : nI b ≤ nI a) : b ≤ a := (cI_le (a := b) (b := a) rfl rfl (by omega) (by omega)).mp h
theorem nI_eqp {a b : Nat} (hb : b < 100000) (ha : a < 100000) (h : nI b = nI a) : b = a := (cI_eq (a := b) (b := a) rfl rfl (by omega) (by omega)).mp h
