/-! the solutions in order: the index of the next power of each number, 0 if there is none -/
theorem gp_1 : ∀ d, d < 61 → pern d ≠ 0 → 1 ≤ gpn d := by decide +kernel
theorem pw_pos : ∀ d, d < 61 → pern d ≠ 0 → ∀ k, k < 40 → k ≤ gpn d → ¬ (pwr d k).1 ≤ 0 := by decide +kernel
theorem pw_up : ∀ d, d < 61 → pern d ≠ 0 → ∀ k, k < 40 → k < gpn d → (pwr d k).1 ≤ (pwr d (k + 1)).1 := by decide +kernel
theorem pw_le : ∀ d, d < 61 → pern d ≠ 0 → ∀ k, k < 40 → k ≤ gpn d → (pwr d k).1 ≤ 1000000000000000 := by decide +kernel
def nxk (d k : Nat) : Nat := if k < gpn d then k + 1 else 0
def xk (d k : Nat) : Int64 := if k = 0 then 0 else (pwr d k).1
def yk (d k : Nat) : Int64 := if k = 0 then 0 else (pwr d k).2
def kpU (g : Nat → Nat) (d v : Nat) : Nat → Nat := fun i => if i = d then v else g i
theorem kpU_y {g : Nat → Nat} {d v : Nat} : kpU g d v d = v := if_pos rfl
theorem kpU_n {g : Nat → Nat} {d v i : Nat} (h : i ≠ d) : kpU g d v i = g i := if_neg h
def stp (kap : Nat → Nat) (d : Nat) : Nat → Nat := kpU kap d (nxk d (kap d))
def lnF (nx : Nat → Int64) : Nat → Nat
  | 0 => 0
  | j + 1 => if nx (j + 2) ≤ 0 then lnF nx j else if lnF nx j = 0 then j + 2 else if nx (lnF nx j) ≤ nx (j + 2) then lnF nx j else j + 2
theorem ln_le (nx : Nat → Int64) : ∀ j, lnF nx j ≤ j + 1 ∧ (lnF nx j = 0 ∨ 2 ≤ lnF nx j)
  | 0 => ⟨Nat.zero_le _, Or.inl rfl⟩
  | j + 1 => by
    have h := ln_le nx j
    rw [lnF]
    split
    · exact ⟨by omega, h.2⟩
    · split
      · exact ⟨by omega, Or.inr (by omega)⟩
      · split
        · exact ⟨by omega, h.2⟩
        · exact ⟨by omega, Or.inr (by omega)⟩
theorem ln_congr {nx my : Nat → Int64} : ∀ j, (∀ d, 2 ≤ d → d < j + 2 → nx d = my d) → lnF nx j = lnF my j
  | 0, _ => rfl
  | j + 1, h => by
    have ih := ln_congr j (fun d h2 h3 => h d h2 (by omega))
    have hl := ln_le my j
    rw [lnF, lnF, ih, h (j + 2) (by omega) (by omega)]
    by_cases z : lnF my j = 0
    · rw [if_pos z, if_pos z]
    · rw [if_neg z, if_neg z, h (lnF my j) (by omega) (by omega)]
def k0 (f : Nat → Int32) : Nat → Nat := fun d => if f d < 0 then 0 else 1
def okK (kap : Nat → Nat) : Prop := ∀ d, 2 ≤ d → d ≤ 60 → kap d ≠ 0 → pern d ≠ 0 ∧ kap d ≤ gpn d
def xa (kap : Nat → Nat) : Nat → Int64 := fun d => xk d (kap d)
def lst (kap : Nat → Nat) : Nat := lnF (xa kap) 59
def kp (f : Nat → Int32) : Nat → Nat → Nat
  | 0 => k0 f
  | n + 1 => if lst (kp f n) = 0 then kp f n else stp (kp f n) (lst (kp f n))
theorem okK_0 {f : Nat → Int32} (hk : okH f) : okK (k0 f) := by
  intro d h2 h60 h
  have hf : ¬ f d < 0 := fun z => h (if_pos z)
  rcases hk d h2 h60 with e | ⟨hp, _⟩
  · exact absurd (by rw [e]; decide) hf
  · refine ⟨hp, ?_⟩
    rw [k0, if_neg hf]
    exact gp_1 d (by omega) hp
theorem okK_s {kap : Nat → Nat} (h : okK kap) {r : Nat} (hr : kap r ≠ 0) : okK (stp kap r) := by
  intro d h2 h60 hd
  by_cases e : d = r
  · subst e
    have a := h d h2 h60 hr
    rw [stp, kpU_y] at hd ⊢
    refine ⟨a.1, ?_⟩
    rw [nxk] at hd ⊢
    split
    · omega
    · omega
  · rw [stp, kpU_n e] at hd ⊢
    exact h d h2 h60 hd
/-- before or the same, by x, then by number -/
def LEx (x : Int64) (n : Nat) (x2 : Int64) (n2 : Nat) : Prop := x < x2 ∨ (x = x2 ∧ n ≤ n2)
theorem LEx.le {x x2 : Int64} {n n2 : Nat} (h : LEx x n x2 n2) : x ≤ x2 := by
  rcases h with h | ⟨h, _⟩
  · exact Int64.le_of_lt h
  · exact Int64.le_of_eq h
theorem LEx.rf {x : Int64} {n : Nat} : LEx x n x n := Or.inr ⟨rfl, Nat.le_refl _⟩
theorem LEx.tr {x y z : Int64} {a b c : Nat} (h : LEx x a y b) (k : LEx y b z c) : LEx x a z c := by
  rcases h with h | ⟨h, h2⟩
  · exact Or.inl (Int64.lt_of_lt_of_le h k.le)
  · rcases k with k | ⟨k, k2⟩
    · exact Or.inl (h ▸ k)
    · exact Or.inr ⟨h.trans k, Nat.le_trans h2 k2⟩
theorem LEx.an {x y : Int64} {a b : Nat} (h : LEx x a y b) (k : LEx y b x a) : a = b := by
  rcases h with h | ⟨h, h2⟩
  · exact absurd (Int64.lt_of_lt_of_le h k.le) (Int64.lt_irrefl)
  · rcases k with k | ⟨k, k2⟩
    · exact absurd (h ▸ k) (Int64.lt_irrefl)
    · exact Nat.le_antisymm h2 k2
theorem xa_pos {kap : Nat → Nat} (h : okK kap) {d : Nat} (h2 : 2 ≤ d) (h60 : d ≤ 60) : xa kap d ≤ 0 ↔ kap d = 0 := by
  rw [xa, xk]
  by_cases z : kap d = 0
  · rw [if_pos z]; exact ⟨fun _ => z, fun _ => by decide⟩
  · rw [if_neg z]
    have a := h d h2 h60 z
    have g := gp_lt d (by omega)
    exact ⟨fun y => absurd y (pw_pos d (by omega) a.1 (kap d) (by omega) a.2), fun y => absurd y z⟩
/-- what the least one is -/
def isL (kap : Nat → Nat) (j r : Nat) : Prop := 2 ≤ r ∧ r < j + 2 ∧ kap r ≠ 0 ∧ ∀ d, 2 ≤ d → d < j + 2 → kap d ≠ 0 → LEx (xa kap r) r (xa kap d) d
theorem ln_ok {kap : Nat → Nat} (h : okK kap) : ∀ j, j ≤ 59 → (lnF (xa kap) j = 0 ∧ ∀ d, 2 ≤ d → d < j + 2 → kap d = 0) ∨ (lnF (xa kap) j ≠ 0 ∧ isL kap j (lnF (xa kap) j))
  | 0, _ => Or.inl ⟨rfl, fun d h2 h3 => by omega⟩
  | j + 1, hj => by
    have ih := ln_ok h j (by omega)
    have hx := xa_pos h (d := j + 2) (by omega) (by omega)
    rw [lnF]
    by_cases z : xa kap (j + 2) ≤ 0
    · rw [if_pos z]
      have e := hx.mp z
      rcases ih with ⟨a, b⟩ | ⟨a, b1, b2, b3, b4⟩
      · refine Or.inl ⟨a, fun d h2 h3 => ?_⟩
        by_cases y : d = j + 2
        · rw [y]; exact e
        · exact b d h2 (by omega)
      · refine Or.inr ⟨a, b1, by omega, b3, fun d h2 h3 h4 => ?_⟩
        by_cases y : d = j + 2
        · rw [y] at h4; exact absurd e h4
        · exact b4 d h2 (by omega) h4
    · rw [if_neg z]
      have e : kap (j + 2) ≠ 0 := fun y => z (hx.mpr y)
      rcases ih with ⟨a, b⟩ | ⟨a, b1, b2, b3, b4⟩
      · rw [if_pos a]
        refine Or.inr ⟨by omega, by omega, by omega, e, fun d h2 h3 h4 => ?_⟩
        by_cases y : d = j + 2
        · rw [y]; exact LEx.rf
        · exact absurd (b d h2 (by omega)) h4
      · rw [if_neg a]
        by_cases w : xa kap (lnF (xa kap) j) ≤ xa kap (j + 2)
        · rw [if_pos w]
          refine Or.inr ⟨a, b1, by omega, b3, fun d h2 h3 h4 => ?_⟩
          by_cases y : d = j + 2
          · rw [y]
            rcases Int64.lt_or_eq_of_le w with q | q
            · exact Or.inl q
            · exact Or.inr ⟨q, by omega⟩
          · exact b4 d h2 (by omega) h4
        · rw [if_neg w]
          refine Or.inr ⟨by omega, by omega, by omega, e, fun d h2 h3 h4 => ?_⟩
          by_cases y : d = j + 2
          · rw [y]; exact LEx.rf
          · exact Or.inl (Int64.lt_of_lt_of_le (Int64.not_le.mp w) (b4 d h2 (by omega) h4).le)
theorem lst_z {kap : Nat → Nat} (h : okK kap) (e : lst kap = 0) : ∀ d, 2 ≤ d → d ≤ 60 → kap d = 0 := by
  rcases ln_ok h 59 (by omega) with ⟨_, b⟩ | ⟨a, _⟩
  · exact fun d h2 h60 => b d h2 (by omega)
  · exact absurd e a
theorem lst_s {kap : Nat → Nat} (h : okK kap) (e : lst kap ≠ 0) : isL kap 59 (lst kap) := by
  rcases ln_ok h 59 (by omega) with ⟨b, _⟩ | ⟨_, b⟩
  · exact absurd b e
  · exact b
theorem isL_un {kap : Nat → Nat} {j r r2 : Nat} (h : isL kap j r) (h2 : isL kap j r2) : r = r2 :=
  LEx.an (h.2.2.2 r2 h2.1 h2.2.1 h2.2.2.1) (h2.2.2.2 r h.1 h.2.1 h.2.2.1)
theorem okK_p {f : Nat → Int32} (hk : okH f) : ∀ n, okK (kp f n)
  | 0 => okK_0 hk
  | n + 1 => by
    have ih := okK_p hk n
    rw [kp]
    split
    · exact ih
    · rename_i h; exact okK_s ih (lst_s ih h).2.2.1
theorem kp_stop {f : Nat → Int32} {n : Nat} (h : lst (kp f n) = 0) : ∀ m, n ≤ m → kp f m = kp f n := by
  intro m hm
  induction m with
  | zero => rw [show n = 0 by omega]
  | succ m ih =>
    by_cases z : n = m + 1
    · rw [z]
    · have e := ih (by omega)
      rw [kp, e, if_pos h]
/-- sums over the numbers -/
def sumN (g : Nat → Nat) : Nat → Nat
  | 0 => 0
  | n + 1 => sumN g n + g (n + 2)
theorem sum_c {g g2 : Nat → Nat} : ∀ n, (∀ d, 2 ≤ d → d < n + 2 → g d = g2 d) → sumN g n = sumN g2 n
  | 0, _ => rfl
  | n + 1, h => by rw [sumN, sumN, sum_c n (fun d a b => h d a (by omega)), h (n + 2) (by omega) (by omega)]
theorem sum_1 {g g2 : Nat → Nat} {r : Nat} (h2 : 2 ≤ r) : ∀ n, r < n + 2 → (∀ d, 2 ≤ d → d < n + 2 → d ≠ r → g d = g2 d) → sumN g n + g2 r = sumN g2 n + g r
  | 0, h, _ => by omega
  | n + 1, h, k => by
    by_cases e : r = n + 2
    · rw [sumN, sumN, sum_c n (g := g) (g2 := g2) (fun d a b => k d a (by omega) (by omega)), e]; omega
    · rw [sumN, sumN, k (n + 2) (by omega) (by omega) (fun z => e z.symm)]
      have := sum_1 h2 n (by omega) (fun d a b c => k d a (by omega) c)
      omega
theorem sum_0 {g : Nat → Nat} : ∀ n, (∀ d, 2 ≤ d → d < n + 2 → g d = 0) → sumN g n = 0
  | 0, _ => rfl
  | n + 1, h => by rw [sumN, sum_0 n (fun d a b => h d a (by omega)), h (n + 2) (by omega) (by omega)]
/-- how many are left at all -/
def rmK (kap : Nat → Nat) : Nat := sumN (fun d => if kap d = 0 then 0 else gpn d + 1 - kap d) 59
theorem rm_s {kap : Nat → Nat} {r : Nat} (h2 : 2 ≤ r) (h60 : r ≤ 60) (h : kap r ≠ 0) (hg : kap r ≤ gpn r) : rmK (stp kap r) + 1 = rmK kap := by
  have a := sum_1 (g := fun d => if stp kap r d = 0 then 0 else gpn d + 1 - stp kap r d) (g2 := fun d => if kap d = 0 then 0 else gpn d + 1 - kap d) h2 59 (by omega) (fun d _ _ e => by
    show (if stp kap r d = 0 then _ else _) = _
    rw [stp, kpU_n e])
  have e1 : (if kap r = 0 then 0 else gpn r + 1 - kap r) = gpn r + 1 - kap r := if_neg h
  have e2 : (if stp kap r r = 0 then 0 else gpn r + 1 - stp kap r r) = gpn r - kap r := by
    rw [stp, kpU_y, nxk]
    by_cases z : kap r < gpn r
    · rw [if_pos z, if_neg (by omega)]; omega
    · rw [if_neg z, if_pos rfl]; omega
  change rmK (stp kap r) + (if kap r = 0 then 0 else gpn r + 1 - kap r) = rmK kap + (if stp kap r r = 0 then 0 else gpn r + 1 - stp kap r r) at a
  rw [e1, e2] at a
  omega
/-- how many of a number's powers are left up to b -/
def cnR (b : Int64) (d k : Nat) : Nat := if k = 0 then 0 else cntL d b 40 (k - 1) - (k - 1)
theorem cnt_fuel {d : Nat} {b : Int64} : ∀ n i, gpn d - i ≤ n → cntL d b (n + 1) i = cntL d b n i
  | 0, i, h => cntL_stop (fun z => by omega)
  | n + 1, i, h => by
    by_cases z : i < gpn d ∧ (pwr d (i + 1)).1 ≤ b
    · rw [cntL_step z.1 z.2, cntL_step z.1 z.2]; exact cnt_fuel n (i + 1) (by omega)
    · rw [cntL_stop z, cntL_stop z]
theorem cnt_ge {d : Nat} {b : Int64} : ∀ n i, i ≤ cntL d b n i
  | 0, i => Nat.le_refl _
  | n + 1, i => by
    rw [cntL]
    split
    · exact Nat.le_trans (Nat.le_succ _) (cnt_ge n (i + 1))
    · exact Nat.le_refl _
theorem cnt_le {d : Nat} {b : Int64} : ∀ n i, i ≤ gpn d → cntL d b n i ≤ gpn d
  | 0, i, h => h
  | n + 1, i, h => by
    rw [cntL]
    split
    · rename_i z; exact cnt_le n (i + 1) z.1
    · exact h
theorem cn_y {d k : Nat} {b : Int64} (hd : d ≤ 60) (h1 : k ≠ 0) (hg : k ≤ gpn d) (h : (pwr d k).1 ≤ b) : cnR b d k = cnR b d (nxk d k) + 1 := by
  have h39 := gp_lt d (by omega)
  obtain ⟨i, rfl⟩ : ∃ i, k = i + 1 := ⟨k - 1, by omega⟩
  have e : cntL d b 40 i = cntL d b 40 (i + 1) := by rw [show (40 : Nat) = 39 + 1 from rfl, cntL_step (n := 39) (by omega) h, cnt_fuel 39 (i + 1) (by omega)]
  rw [cnR, if_neg h1, Nat.add_sub_cancel, e, cnR, nxk]
  have g1 := cnt_ge (d := d) (b := b) 40 (i + 1)
  by_cases z : i + 1 < gpn d
  · rw [if_pos z, if_neg (by omega), Nat.add_sub_cancel]; omega
  · rw [if_neg z, if_pos rfl, cntL_stop (fun y => z y.1)]; omega
theorem cn_n {d k : Nat} {b : Int64} (h : ¬ (pwr d k).1 ≤ b) : cnR b d k = 0 := by
  rw [cnR]
  split
  · rfl
  · rename_i z
    obtain ⟨i, rfl⟩ : ∃ i, k = i + 1 := ⟨k - 1, by omega⟩
    rw [Nat.add_sub_cancel, cntL_stop (fun y => h y.2)]; omega
def cnS (b : Int64) (kap : Nat → Nat) : Nat := sumN (fun d => cnR b d (kap d)) 59
theorem cs_y {kap : Nat → Nat} {r : Nat} {b : Int64} (hk : okK kap) (h2 : 2 ≤ r) (h60 : r ≤ 60) (h : kap r ≠ 0) (hx : xa kap r ≤ b) : cnS b kap = cnS b (stp kap r) + 1 := by
  have hp := hk r h2 h60 h
  rw [xa, xk, if_neg h] at hx
  have a := sum_1 (g := fun d => cnR b d (stp kap r d)) (g2 := fun d => cnR b d (kap d)) h2 59 (by omega) (fun d _ _ e => by
    show cnR b d (stp kap r d) = _
    rw [stp, kpU_n e])
  have e := cn_y h60 h hp.2 hx
  have e2 : cnR b r (stp kap r r) = cnR b r (nxk r (kap r)) := by rw [stp, kpU_y]
  change cnS b (stp kap r) + cnR b r (kap r) = cnS b kap + cnR b r (stp kap r r) at a
  omega
theorem cs_n {kap : Nat → Nat} {r : Nat} {b : Int64} (hk : okK kap) (h : isL kap 59 r) (hx : ¬ xa kap r ≤ b) : cnS b kap = 0 := by
  refine sum_0 59 (fun d h2 h3 => ?_)
  by_cases z : kap d = 0
  · show cnR b d (kap d) = 0
    rw [cnR, if_pos z]
  · have l := (h.2.2.2 d h2 h3 z).le
    refine cn_n (fun y => hx (Int64.le_trans l ?_))
    rw [xa, xk, if_neg z]; exact y
theorem cs_z {kap : Nat → Nat} {b : Int64} (hk : okK kap) (h : lst kap = 0) : cnS b kap = 0 := by
  refine sum_0 59 (fun d h2 h3 => ?_)
  show cnR b d (kap d) = 0
  rw [cnR, if_pos (lst_z hk h d h2 (by omega))]
theorem cs_0 {f : Nat → Int32} {b : Int64} (hk : okH f) : ∀ j, j ≤ 59 → nI (sumN (fun d => cnR b d (k0 f d)) j) = cuF f b j
  | 0, _ => rfl
  | j + 1, hj => by
    have ih := cs_0 (b := b) hk j (by omega)
    have hh := has_lt hk (j := j + 2) (by omega) (by omega)
    rw [sumN, show nI (sumN (fun d => cnR b d (k0 f d)) j + cnR b (j + 2) (k0 f (j + 2))) = nI (sumN (fun d => cnR b d (k0 f d)) j) + nI (cnR b (j + 2) (k0 f (j + 2))) from (cI_add rfl rfl).symm, ih]
    by_cases z : f (j + 2) < 0
    · rw [cuF_n (hh.mpr z), k0, if_pos z, cnR, if_pos rfl]; exact Int32.add_zero _
    · rw [cuF_y (fun y => z (hh.mp y)), k0, if_neg z, cnR, if_neg (by omega)]; rfl
/-- the solution at i is not above b just if i is below the number of those up to b -/
theorem ord_1 {f : Nat → Int32} (hk : okH f) (b : Int64) : ∀ i, cnS b (k0 f) ≤ i + cnS b (kp f i)
  | 0 => by rw [kp]; omega
  | i + 1 => by
    have ih := ord_1 hk b i
    have hK := okK_p hk i
    rw [kp]
    by_cases z : lst (kp f i) = 0
    · rw [if_pos z]; omega
    · rw [if_neg z]
      have s := lst_s hK z
      by_cases y : xa (kp f i) (lst (kp f i)) ≤ b
      · have := cs_y (b := b) hK s.1 (by have := s.2.1; omega) s.2.2.1 y; omega
      · have := cs_n hK s y; omega
theorem ord_up {kap : Nat → Nat} (hK : okK kap) (h : lst kap ≠ 0) (h2 : lst (stp kap (lst kap)) ≠ 0) : xa kap (lst kap) ≤ xa (stp kap (lst kap)) (lst (stp kap (lst kap))) := by
  have s := lst_s hK h
  have hp := hK _ s.1 (by have := s.2.1; omega) s.2.2.1
  have s2 := lst_s (okK_s hK s.2.2.1) h2
  have g39 := gp_lt (lst kap) (by have := s.2.1; omega)
  generalize hq : lst (stp kap (lst kap)) = q at s2 ⊢
  by_cases e : q = lst kap
  · subst e
    have z := s2.2.2.1
    rw [xa, xa, stp, kpU_y]
    rw [stp, kpU_y] at z
    rw [xk, if_neg s.2.2.1, xk, if_neg z]
    rw [nxk] at z ⊢
    by_cases w : kap (lst kap) < gpn (lst kap)
    · rw [if_pos w]; exact pw_up _ (by have := s.2.1; omega) hp.1 _ (by omega) w
    · rw [if_neg w] at z; exact absurd rfl z
  · have z := s2.2.2.1
    have e2 : stp kap (lst kap) q = kap q := by rw [stp, kpU_n e]
    rw [e2] at z
    have l := (s.2.2.2 q s2.1 s2.2.1 z).le
    have e3 : xa (stp kap (lst kap)) q = xa kap q := by rw [xa, xa, e2]
    rw [e3]; exact l
theorem ord_2 {f : Nat → Int32} (hk : okH f) (b : Int64) : ∀ i, lst (kp f i) ≠ 0 → xa (kp f i) (lst (kp f i)) ≤ b → i + cnS b (kp f i) = cnS b (k0 f)
  | 0, _, _ => by rw [kp]; omega
  | i + 1, h, hx => by
    have hK := okK_p hk i
    have z : lst (kp f i) ≠ 0 := fun z => h (by rw [kp, if_pos z]; exact z)
    have e : kp f (i + 1) = stp (kp f i) (lst (kp f i)) := by rw [kp, if_neg z]
    rw [e] at h hx ⊢
    have s := lst_s hK z
    have l := Int64.le_trans (ord_up hK z h) hx
    have ih := ord_2 hk b i z l
    have := cs_y (b := b) hK s.1 (by have := s.2.1; omega) s.2.2.1 l
    omega
theorem ord_3 {f : Nat → Int32} (hk : okH f) {i : Nat} (h : lst (kp f i) ≠ 0) (b : Int64) : xa (kp f i) (lst (kp f i)) ≤ b ↔ i < cnS b (k0 f) := by
  have hK := okK_p hk i
  have s := lst_s hK h
  constructor
  · intro hx
    have a := ord_2 hk b i h hx
    have := cs_y (b := b) hK s.1 (by have := s.2.1; omega) s.2.2.1 hx
    omega
  · intro hi
    refine Classical.byContradiction fun z => ?_
    have a := ord_1 hk b i
    have := cs_n hK s z
    omega
theorem ord_4 {f : Nat → Int32} (hk : okH f) (i : Nat) : lst (kp f i) ≠ 0 ↔ i < cnS 1000000000000000 (k0 f) := by
  have hK := okK_p hk i
  constructor
  · intro h
    have s := lst_s hK h
    have hp := hK _ s.1 (by have := s.2.1; omega) s.2.2.1
    have g39 := gp_lt (lst (kp f i)) (by have := s.2.1; omega)
    refine (ord_3 hk h _).mp ?_
    rw [xa, xk, if_neg s.2.2.1]
    exact pw_le _ (by have := s.2.1; omega) hp.1 _ (by omega) hp.2
  · intro h z
    have a := ord_1 hk 1000000000000000 i
    have := cs_z (b := 1000000000000000) hK z
    omega
