theorem lc_ok {c : Int32} (h : c = 108 ∨ c = 116 ∨ c = 109 ∨ c = 98) : ¬ c < 32 ∧ c ≤ 126 ∧ ¬ ioF c = 0 := by
  rcases h with rfl | rfl | rfl | rfl <;> decide
theorem ec_ok {c : Int32} (h : c = 46 ∨ c = 59) : ¬ c < 32 ∧ c ≤ 126 ∧ dgF c = 0 := by
  rcases h with rfl | rfl <;> decide
theorem dg_ok : ∀ q, q < 10 → ¬ nI (48 + q) < 32 ∧ nI (48 + q) ≤ 126 ∧ ¬ dgF (nI (48 + q)) = 0 := by decide +kernel
theorem updn {f : Nat → Int32} {k j : Nat} {x : Int32} (h : ¬ j = k) : upd f k x j = f j := if_neg h
theorem txN_1 {tx : Nat → Int32} {n m : Nat} {a b c : Int32} (h : txN tx n m) (ha : ¬ ioF a = 0) (hb : ¬ dgF b = 0) (hc : dgF c = 0) : txN (upd (upd (upd tx m a) (m + 1) b) (m + 1 + 1) c) (n + 1) (m + 1 + 1 + 1) := by
  refine ⟨m, txN_c n m h (fun j hj => ?_), Or.inl ⟨rfl, ?_, ?_, ?_⟩⟩
  · rw [updn (by omega), updn (by omega), updn (by omega)]
  · rw [updn (by omega), updn (by omega), upd_d]; exact ha
  · rw [updn (by omega), upd_d]; exact hb
  · rw [show m + 2 = m + 1 + 1 from rfl, upd_d]; exact hc
theorem txN_2 {tx : Nat → Int32} {n m : Nat} {a b c e : Int32} (h : txN tx n m) (ha : ¬ ioF a = 0) (hb : ¬ dgF b = 0) (hc : ¬ dgF c = 0) : txN (upd (upd (upd (upd tx m a) (m + 1) b) (m + 1 + 1) c) (m + 1 + 1 + 1) e) (n + 1) (m + 1 + 1 + 1 + 1) := by
  refine ⟨m, txN_c n m h (fun j hj => ?_), Or.inr ⟨rfl, ?_, ?_, ?_⟩⟩
  · rw [updn (by omega), updn (by omega), updn (by omega), updn (by omega)]
  · rw [updn (by omega), updn (by omega), updn (by omega), upd_d]; exact ha
  · rw [updn (by omega), updn (by omega), upd_d]; exact hb
  · rw [show m + 2 = m + 1 + 1 from rfl, updn (by omega), upd_d]; exact hc
theorem nI_m104 {a : Nat} (h : a < 100000) : ¬ nI a = -104 := by
  intro z
  have := congrArg Int32.toInt z
  rw [nI_toInt (by omega)] at this
  have e : (-104 : Int32).toInt = -104 := rfl
  rw [e] at this
  omega
theorem nI_m103 {a : Nat} (h : a < 100000) : ¬ nI a = -103 := by
  intro z
  have := congrArg Int32.toInt z
  rw [nI_toInt (by omega)] at this
  have e : (-103 : Int32).toInt = -103 := rfl
  rw [e] at this
  omega
theorem hp_1 {hs : List HE} {e : HE} (h : hs.length < 4) : hpush hs e = hs ++ [e] := if_pos h
theorem hp_l1 {hs : List HE} {e : HE} (h : hs.length < 4) : (hpush hs e).length = hs.length + 1 := by rw [hp_1 h, List.length_append]; rfl
theorem hp_l4 {hs : List HE} {e : HE} (h4 : hs.length ≤ 4) (h : ¬ hs.length < 4) : (hpush hs e).length = 4 := by
  rw [hpush, if_neg h, List.length_append, List.length_drop]
  show hs.length - 1 + 1 = 4
  omega
theorem sf_64 {f : Nat → Int32} {d : Nat} (h : sfF f (61 - d) d ≤ 60) : sfF f (61 - d) d < 64 := by omega
/-- what a number adds to the solutions -/
def cnv (f : Nat → Int32) (d : Nat) : Nat := cnR 1000000000000000 d (k0 f d)
theorem cnv_n {f : Nat → Int32} {d : Nat} (h : f d < 0) : cnv f d = 0 := by rw [cnv, k0, if_pos h, cnR, if_pos rfl]
theorem cnv_y {f : Nat → Int32} {d : Nat} (h60 : d ≤ 60) (hp : pern d ≠ 0) (h : ¬ f d < 0) : cnv f d = gpn d := by
  rw [cnv, k0, if_neg h, cnR, if_neg Nat.one_ne_zero]
  show cntL d 1000000000000000 40 0 - 0 = gpn d
  rw [cS_all d (by omega) hp, Nat.sub_zero]
theorem tA_u {f : Nat → Int32} {d : Nat} {v : Int32} (h2 : 2 ≤ d) (h60 : d ≤ 60) : tA (upd f d v) + cnv f d = tA f + cnv (upd f d v) d :=
  sum_1 (g := fun x => cnR 1000000000000000 x (k0 (upd f d v) x)) (g2 := fun x => cnR 1000000000000000 x (k0 f x)) h2 59 (by omega) (fun x _ _ e => by
    show cnR _ x (k0 (upd f d v) x) = cnR _ x (k0 f x)
    rw [k0, k0, updn e])
theorem tA_lay {f : Nat → Int32} {d : Nat} (h2 : 2 ≤ d) (h60 : d ≤ 60) (hp : pern d ≠ 0) (hf : f d < 0) : tA f < tA (upd f d 0) := by
  have a := tA_u (f := f) (v := 0) h2 h60
  rw [cnv_n hf, cnv_y h60 hp (by rw [upd_d]; decide)] at a
  have := gp_1 d (by omega) hp
  omega
theorem tA_take {f : Nat → Int32} {d : Nat} (h2 : 2 ≤ d) (h60 : d ≤ 60) (hp : pern d ≠ 0) (hf : ¬ f d < 0) : tA (upd f d (-1)) < tA f := by
  have a := tA_u (f := f) (v := -1) h2 h60
  rw [cnv_y h60 hp hf, cnv_n (by rw [upd_d]; decide)] at a
  have := gp_1 d (by omega) hp
  omega
theorem tA_same {f : Nat → Int32} {d h : Nat} (h2 : 2 ≤ d) (h60 : d ≤ 60) (hp : pern d ≠ 0) (hf : ¬ f d < 0) (hh : h < 1000) : tA (upd f d (nI h)) = tA f := by
  have a := tA_u (f := f) (v := nI h) h2 h60
  rw [cnv_y h60 hp hf, cnv_y h60 hp (by rw [upd_d]; exact nI_pos (by omega))] at a
  omega
theorem rs_0 {s : HE} {d : Nat} (hk : okH s.1) (hL : okL s.1 s.2.1) (h2 : 2 ≤ d) (h60 : d ≤ 60) (h : rsnF s.1 s.2.1 (nI d) = 0) : pern d ≠ 0 ∧ s.1 d < 0 := by
  rw [rs_all hk hL h2 h60, rsF] at h
  by_cases hp : pern d = 0
  · rw [if_pos hp] at h; exact absurd h (by decide)
  · rw [if_neg hp] at h
    by_cases hf : s.1 d < 0
    · exact ⟨hp, hf⟩
    · rw [if_neg hf] at h; exact absurd h (by decide)
theorem hc_tN {s : HE} {d : Nat} (hk : okH s.1) (h2 : 2 ≤ d) (h60 : d ≤ 60) (hf : s.1 d < 0) : ¬ causeF s.1 s.2.1 116 (nI d) = 0 := by rw [cs_t h2 h60, if_pos ((neg_iff hk h2 h60).mp hf)]; decide
theorem hc_mN {s : HE} {d : Nat} (hk : okH s.1) (h2 : 2 ≤ d) (h60 : d ≤ 60) (hf : s.1 d < 0) : ¬ causeF s.1 s.2.1 109 (nI d) = 0 := by rw [cs_m h2 h60, if_pos ((neg_iff hk h2 h60).mp hf)]; decide
theorem hc_bN {s : HE} {d : Nat} (hk : okH s.1) (h2 : 2 ≤ d) (h60 : d ≤ 60) (hf : s.1 d < 0) : ¬ causeF s.1 s.2.1 98 (nI d) = 0 := by rw [cs_b h2 h60, if_pos (Int32.le_of_lt hf)]; decide
theorem nI_nm1 {h : Nat} (hh : h < 1000) : ¬ nI h = -1 := nI_neg hh
theorem hc_tY {s : HE} {d h : Nat} (h2 : 2 ≤ d) (h60 : d ≤ 60) (hf : s.1 d = nI h) (hg : h ≤ gpn d) : causeF s.1 s.2.1 116 (nI d) = 0 := by have := gp_lt d (by omega); rw [cs_t h2 h60, hf, if_neg (nI_neg (by omega))]
theorem hc_mY {s : HE} {d h : Nat} (h2 : 2 ≤ d) (h60 : d ≤ 60) (hf : s.1 d = nI h) (hg : h < gpn d) : causeF s.1 s.2.1 109 (nI d) = 0 := by
  have := gp_lt d (by omega)
  rw [cs_m h2 h60, hf, if_neg (nI_neg (by omega)), if_neg (show ¬ tGp d ≤ nI h from nI_nle2 (a := h) (b := gpn d) (by omega) (by omega) hg)]
theorem hc_mZ {s : HE} {d h : Nat} (h2 : 2 ≤ d) (h60 : d ≤ 60) (hf : s.1 d = nI h) (hg : h ≤ gpn d) (hn : ¬ h < gpn d) : ¬ causeF s.1 s.2.1 109 (nI d) = 0 := by
  have := gp_lt d (by omega)
  rw [cs_m h2 h60, hf, if_neg (nI_neg (by omega)), if_pos (show tGp d ≤ nI h from (cI_le (a := gpn d) (b := h) rfl rfl (by omega) (by omega)).mpr (by omega))]; decide
theorem hc_bY {s : HE} {d h : Nat} (h2 : 2 ≤ d) (h60 : d ≤ 60) (hf : s.1 d = nI (h + 1)) (hg : h + 1 ≤ gpn d) : causeF s.1 s.2.1 98 (nI d) = 0 := by
  have := gp_lt d (by omega)
  rw [cs_b h2 h60, hf, if_neg (show ¬ nI (h + 1) ≤ 0 from nI_nle2 (a := 0) (b := h + 1) (by omega) (by omega) (by omega))]
theorem hc_bZ {s : HE} {d : Nat} (h2 : 2 ≤ d) (h60 : d ≤ 60) (hf : s.1 d = nI 0) : ¬ causeF s.1 s.2.1 98 (nI d) = 0 := by
  rw [cs_b h2 h60, hf, if_pos (show nI 0 ≤ 0 by decide)]; decide
