/-! the model's words and the class's words for the same -/
theorem neg_iff {f : Nat → Int32} {d : Nat} (hk : okH f) (h2 : 2 ≤ d) (h60 : d ≤ 60) : f d < 0 ↔ f d = -1 := by
  rcases hk d h2 h60 with z | ⟨-, h, hg, z⟩
  · rw [z]; exact ⟨fun _ => rfl, fun _ => neg_1⟩
  · have h39 := gp_lt d (by omega)
    rw [z]
    exact ⟨fun y => absurd y (nI_pos (by omega)), fun y => absurd y (nI_neg (by omega))⟩
theorem rs_eq {f : Nat → Int32} {l : Int32} {d c : Nat} (hk : okH f) (h2 : 2 ≤ d) (h60 : d ≤ 60) (hl : l = manyF f 59) (hc : l = nI c) (h8 : c ≤ 8) : rsnF f l (nI d) = rsF f d := by
  rw [rsnF, rsF, ← hl]
  by_cases hp : pern d = 0
  · rw [if_pos hp, if_neg (fun z => absurd hp ((sq_d (by omega)).mp z))]
  · rw [if_neg hp, if_pos ((sq_d (by omega)).mpr hp), hOf_d f (by omega)]
    by_cases hn : f d = -1
    · rw [if_pos hn, if_pos ((neg_iff hk h2 h60).mpr hn), hc]
      by_cases h : c = 8
      · subst h; rfl
      · have e1 : nI c < (8 : Int32) := (cI_lt (a := c) (b := 8) rfl rfl (by omega) (by omega)).mpr (by omega)
        have e2 : ¬ nI c = (8 : Int32) := fun z => h ((cI_eq (a := c) (b := 8) rfl rfl (by omega) (by omega)).mp z)
        rw [if_pos e1, if_neg e2]
    · rw [if_neg hn, if_neg (fun z => hn ((neg_iff hk h2 h60).mp z))]
theorem cause_012 (f : Nat → Int32) (l ch n : Int32) : causeF f l ch n = 0 ∨ causeF f l ch n = 1 ∨ causeF f l ch n = 2 := by
  unfold causeF
  repeat' split
  all_goals first | exact Or.inl rfl | exact Or.inr (Or.inl rfl) | exact Or.inr (Or.inr rfl)
theorem cause_1 {f : Nat → Int32} {l ch n : Int32} : causeF f l ch n = 1 ↔ numF n = 0 := by
  constructor
  · intro h
    refine Classical.byContradiction fun z => ?_
    unfold causeF at h
    rw [if_neg z] at h
    revert h
    repeat' split
    all_goals exact fun h => absurd h (by decide)
  · intro h; rw [causeF, if_pos h]
theorem cause_l {f : Nat → Int32} {l : Int32} {d c : Nat} (hk : okH f) (h2 : 2 ≤ d) (h60 : d ≤ 60) (hl : l = manyF f 59) (hc : l = nI c) (h8 : c ≤ 8) : causeF f l 108 (nI d) = 0 ↔ rsF f d ≤ 0 := by
  rw [causeF, if_neg (by rw [num_d h2 h60]; decide), if_pos rfl, rs_eq hk h2 h60 hl hc h8]
  have e : rsF f d = 0 ∨ ¬ rsF f d ≤ 0 := by
    rw [rsF]; repeat' split
    all_goals first | exact Or.inl rfl | exact Or.inr (by decide)
  rcases e with z | z
  · rw [z]; exact ⟨fun _ => by decide, fun _ => rfl⟩
  · have z0 : ¬ rsF f d = 0 := fun y => z (by rw [y]; decide)
    rw [if_neg z0]; exact ⟨fun y => absurd y (by decide), fun y => absurd y z⟩
theorem cause_t {f : Nat → Int32} {l : Int32} {d : Nat} (hk : okH f) (h2 : 2 ≤ d) (h60 : d ≤ 60) : causeF f l 116 (nI d) = 0 ↔ 0 ≤ f d := by
  rw [causeF, if_neg (by rw [num_d h2 h60]; decide), if_neg (by decide), if_neg (by decide), if_neg (by decide), hOf_d f (by omega)]
  by_cases z : f d = -1
  · rw [if_pos z, z]; exact ⟨fun y => absurd y (by decide), fun y => absurd y (by decide)⟩
  · rw [if_neg z]; exact ⟨fun _ => Int32.not_lt.mp (fun y => z ((neg_iff hk h2 h60).mp y)), fun _ => rfl⟩

/-! a text's characters: the class's reads and the model's -/
theorem ch_h {tx tm : Nat → Int32} {n i : Nat} (hn : n ≤ 60) (hi : i < 1000) (he : ∀ j, j < n → tx j = tm j) : chF tx (nI n) (nI i) = hM tm n i := by
  rw [chF, hM, if_neg (nI_pos (by omega))]
  have e : nI n ≤ nI i ↔ n ≤ i := cI_le (a := n) (b := i) rfl rfl (by omega) (by omega)
  by_cases z : n ≤ i
  · rw [if_pos (e.mpr z), if_neg (by omega)]
  · have e60 : ¬ (60 : Int32) ≤ nI i := fun y => absurd ((cI_le (a := 60) (b := i) rfl rfl (by omega) (by omega)).mp y) (by omega)
    rw [if_neg (fun y => z (e.mp y)), if_neg e60, if_pos (by omega), nI_clamp (by omega)]
    exact he i (by omega)
theorem nm_1 (a : Int32) : 0 + (a - 48) = 0 + a - 48 := by grind
theorem nm_2 (a b : Int32) : (0 + (a - 48)) * 10 + (b - 48) = 10 * (0 + a - 48) + b - 48 := by grind

/-! one order read, case by case, in the model's characters -/
section RD
variable {tx tm : Nat → Int32} {len : Nat} {s : FS}
theorem bk_0 {p : Nat} {dg : Int32} (hn : len ≤ 60) (hp : p ≤ 60) (he : ∀ j, j < len → tx j = tm j) (h : ioF (hM tm len p) = 0) : bkF tx (nI len) p dg = 0 := by
  rw [bkF, ch_h hn (by omega) he, if_pos h]
theorem bk_1 {p : Nat} {dg : Int32} (hn : len ≤ 60) (hp : p ≤ 60) (he : ∀ j, j < len → tx j = tm j) (h : ¬ ioF (hM tm len p) = 0) (h1 : dgF (hM tm len (p + 1)) = 0) : bkF tx (nI len) p dg = 1 := by
  rw [bkF, ch_h hn (by omega) he, if_neg h, ch_h hn (by omega) he, if_pos h1]
theorem rd_0 (hn : len ≤ 60) (hp : s.2.1 ≤ 60) (he : ∀ j, j < len → tx j = tm j) (h : ioF (hM tm len s.2.1) = 0) : rdF tx (nI len) s = (s.1, s.2.1, 1, 0, s.2.2.2.2) := by
  rw [rdF, bk_0 hn hp he h, bk_0 hn hp he h, if_neg (show ¬ (0 : Int32) = -1 by decide), if_neg (show ¬ (0 : Int32) = -1 by decide), ite_self]
theorem rd_10 (hn : len ≤ 60) (hp : s.2.1 ≤ 60) (he : ∀ j, j < len → tx j = tm j) (h : ¬ ioF (hM tm len s.2.1) = 0) (h1 : dgF (hM tm len (s.2.1 + 1)) = 0) : rdF tx (nI len) s = (s.1, s.2.1, 1, 1, s.2.2.2.2) := by
  rw [rdF, bk_1 hn hp he h h1, bk_1 hn hp he h h1, if_neg (show ¬ (1 : Int32) = -1 by decide), if_neg (show ¬ (1 : Int32) = -1 by decide), ite_self]
theorem bk_2 {p : Nat} {dg : Int32} {k : Nat} (hn : len ≤ 60) (hp : p ≤ 60) (he : ∀ j, j < len → tx j = tm j) (h : ¬ ioF (hM tm len p) = 0) (h1 : ¬ dgF (hM tm len (p + 1)) = 0) (hk : dg = nI k) (hk2 : k ≤ 2) : bkF tx (nI len) p dg = if hM tm len (p + 1 + k) = 59 then -1 else 1 + dg := by
  rw [bkF, ch_h hn (by omega) he, if_neg h, ch_h hn (by omega) he, if_neg h1, hk, nI_add, ch_h hn (by omega) he]
theorem rd_11N (hn : len ≤ 60) (hp : s.2.1 ≤ 60) (he : ∀ j, j < len → tx j = tm j) (h : ¬ ioF (hM tm len s.2.1) = 0) (h1 : ¬ dgF (hM tm len (s.2.1 + 1)) = 0) (h2 : dgF (hM tm len (s.2.1 + 1 + 1)) = 0) (h3 : ¬ hM tm len (s.2.1 + 1 + 1) = 59) : rdF tx (nI len) s = (s.1, s.2.1, 1, 1 + 1, s.2.2.2.2) := by
  rw [rdF, ch_h (i := s.2.1 + 2) hn (by omega) he, if_pos h2, bk_2 (dg := 1) (k := 1) hn hp he h h1 rfl (by decide), if_neg h3, if_neg (show ¬ (1 + 1 : Int32) = -1 by decide)]
theorem rd_12N (hn : len ≤ 60) (hp : s.2.1 ≤ 60) (he : ∀ j, j < len → tx j = tm j) (h : ¬ ioF (hM tm len s.2.1) = 0) (h1 : ¬ dgF (hM tm len (s.2.1 + 1)) = 0) (h2 : ¬ dgF (hM tm len (s.2.1 + 1 + 1)) = 0) (h3 : ¬ hM tm len (s.2.1 + 1 + 1 + 1) = 59) : rdF tx (nI len) s = (s.1, s.2.1, 1, 1 + 2, s.2.2.2.2) := by
  rw [rdF, ch_h (i := s.2.1 + 2) hn (by omega) he, if_neg h2, bk_2 (dg := 2) (k := 2) hn hp he h h1 rfl (by decide), if_neg h3, if_neg (show ¬ (1 + 2 : Int32) = -1 by decide)]
theorem rd_11Y (hn : len ≤ 60) (hp : s.2.1 ≤ 60) (he : ∀ j, j < len → tx j = tm j) (h : ¬ ioF (hM tm len s.2.1) = 0) (h1 : ¬ dgF (hM tm len (s.2.1 + 1)) = 0) (h2 : dgF (hM tm len (s.2.1 + 1 + 1)) = 0) (h3 : hM tm len (s.2.1 + 1 + 1) = 59) : rdF tx (nI len) s = orF tx (nI len) s (0 + hM tm len (s.2.1 + 1) - 48) 3 := by
  rw [rdF, ch_h (i := s.2.1 + 2) hn (by omega) he, if_pos h2, bk_2 (dg := 1) (k := 1) hn hp he h h1 rfl (by decide), if_pos h3, if_pos rfl, nm1F, ch_h hn (by omega) he, nm_1]
theorem rd_12Y (hn : len ≤ 60) (hp : s.2.1 ≤ 60) (he : ∀ j, j < len → tx j = tm j) (h : ¬ ioF (hM tm len s.2.1) = 0) (h1 : ¬ dgF (hM tm len (s.2.1 + 1)) = 0) (h2 : ¬ dgF (hM tm len (s.2.1 + 1 + 1)) = 0) (h3 : hM tm len (s.2.1 + 1 + 1 + 1) = 59) : rdF tx (nI len) s = orF tx (nI len) s (10 * (0 + hM tm len (s.2.1 + 1) - 48) + hM tm len (s.2.1 + 1 + 1) - 48) 4 := by
  rw [rdF, ch_h (i := s.2.1 + 2) hn (by omega) he, if_neg h2, bk_2 (dg := 2) (k := 2) hn hp he h h1 rfl (by decide), if_pos h3, if_pos rfl, nm2F, ch_h hn (by omega) he, ch_h hn (by omega) he, nm_2]
end RD

theorem rd_inv {tx : Nat → Int32} {ln : Int32} {s : FS} (hr : s.2.2.1 = 0) (hk : okH s.2.2.2.2.1) (hL : okL s.2.2.2.2.1 s.2.2.2.2.2.1) :
    ((rdF tx ln s).2.2.1 = 0 ∨ (rdF tx ln s).2.2.1 = 1 ∨ (rdF tx ln s).2.2.1 = 2) ∧ okH (rdF tx ln s).2.2.2.2.1 ∧ okL (rdF tx ln s).2.2.2.2.1 (rdF tx ln s).2.2.2.2.2.1 := by
  have h : ∀ n w, ((orF tx ln s n w).2.2.1 = 0 ∨ (orF tx ln s n w).2.2.1 = 1 ∨ (orF tx ln s n w).2.2.1 = 2) ∧ okH (orF tx ln s n w).2.2.2.2.1 ∧ okL (orF tx ln s n w).2.2.2.2.1 (orF tx ln s n w).2.2.2.2.2.1 := fun n w => by
    unfold orF
    split
    · rename_i hc
      exact ⟨Or.inl hr, okH_co hk hc, okL_co hk hL hc⟩
    · exact ⟨Or.inr (Or.inr rfl), hk, hL⟩
  unfold rdF
  split
  · split
    · exact h _ _
    · exact ⟨Or.inr (Or.inl rfl), hk, hL⟩
  · split
    · exact h _ _
    · exact ⟨Or.inr (Or.inl rfl), hk, hL⟩
theorem fr_inv {tx : Nat → Int32} {len : Nat} : ∀ (n : Nat) (s : FS), (s.2.2.1 = 0 ∨ s.2.2.1 = 1 ∨ s.2.2.1 = 2) → okH s.2.2.2.2.1 → okL s.2.2.2.2.1 s.2.2.2.2.2.1 →
    ((fRun tx len n s).2.2.1 = 0 ∨ (fRun tx len n s).2.2.1 = 1 ∨ (fRun tx len n s).2.2.1 = 2) ∧ okH (fRun tx len n s).2.2.2.2.1 ∧ okL (fRun tx len n s).2.2.2.2.1 (fRun tx len n s).2.2.2.2.2.1
  | 0, s, hr, hk, hL => ⟨hr, hk, hL⟩
  | n + 1, s, hr, hk, hL => by
    rw [fRun]
    split
    · rename_i h
      have := rd_inv (tx := tx) (ln := nI len) h.2 hk hL
      exact fr_inv n _ this.1 this.2.1 this.2.2
    · exact ⟨hr, hk, hL⟩
theorem fr_all {tx : Nat → Int32} {len : Nat} {f : Nat → Int32} {l ml : Int32} (hk : okH f) (hL : okL f l) :
    ((fRun tx len 60 (0, 0, 0, 0, f, l, ml)).2.2.1 = 0 ∨ (fRun tx len 60 (0, 0, 0, 0, f, l, ml)).2.2.1 = 1 ∨ (fRun tx len 60 (0, 0, 0, 0, f, l, ml)).2.2.1 = 2) ∧ okH (fRun tx len 60 (0, 0, 0, 0, f, l, ml)).2.2.2.2.1 ∧ okL (fRun tx len 60 (0, 0, 0, 0, f, l, ml)).2.2.2.2.1 (fRun tx len 60 (0, 0, 0, 0, f, l, ml)).2.2.2.2.2.1 := fr_inv 60 _ (Or.inl rfl) hk hL
theorem fr_pos {tx : Nat → Int32} {len : Nat} {f : Nat → Int32} {l ml : Int32} (hk : okH f) (hL : okL f l) (h : ¬ (fRun tx len 60 (0, 0, 0, 0, f, l, ml)).2.2.1 = 0) : ¬ (fRun tx len 60 (0, 0, 0, 0, f, l, ml)).2.2.1 ≤ 0 := by
  rcases (fr_all (tx := tx) (len := len) (ml := ml) hk hL).1 with e | e | e
  · exact absurd e h
  · rw [e]; decide
  · rw [e]; decide
