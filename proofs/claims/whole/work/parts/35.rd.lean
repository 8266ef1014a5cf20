/-! one order read, case by case, in the model's characters -/
section RD
variable {tx tm : Nat → Int32} {len : Nat} {s : FS}
theorem bk_0 {p : Nat} {dg : Int32} (hn : len ≤ 60) (hp : p ≤ 60) (he : ∀ j, j < len → tx j = tm j) (h : ioF (hM tm len p) = 0) : bkF tx (nI len) p dg = 0 := by
  rw [bkF, ch_h hn (by omega) he, if_pos h]
theorem bk_1 {p : Nat} {dg : Int32} (hn : len ≤ 60) (hp : p ≤ 60) (he : ∀ j, j < len → tx j = tm j) (h : ¬ ioF (hM tm len p) = 0) (h1 : dgF (hM tm len (p + 1)) = 0) : bkF tx (nI len) p dg = 1 := by
  rw [bkF, ch_h hn (by omega) he, if_neg h, ch_h hn (by omega) he, if_pos h1]
theorem rd_0 (hn : len ≤ 60) (hp : s.2.1 ≤ 60) (he : ∀ j, j < len → tx j = tm j) (h : ioF (hM tm len s.2.1) = 0) : rdF tx (nI len) s = (s.1, s.2.1, 1, 0, s.2.2.2.2) := by
  rw [rdF, bk_0 hn hp he h, bk_0 hn hp he h, if_neg (show ¬ (0 : Int32) = -1 by decide), if_neg (show ¬ (0 : Int32) = -1 by decide), ite_self]
theorem rd_10 (hn : len ≤ 60) (hp : s.2.1 ≤ 60) (he : ∀ j, j < len → tx j = tm j) (h : ¬ ioF (hM tm len s.2.1) = 0) (h1 : dgF (hM tm len (s.2.1 + 1)) = 0) : rdF tx (nI len) s = (s.1, s.2.1, 1, 1, s.2.2.2.2) := by
  rw [rdF, bk_1 hn hp he h h1, bk_1 hn hp he h h1, if_neg (show ¬ (1 : Int32) = -1 by decide), if_neg (show ¬ (1 : Int32) = -1 by decide), ite_self]
theorem bk_2 {p : Nat} {dg : Int32} {k : Nat} (hn : len ≤ 60) (hp : p ≤ 60) (he : ∀ j, j < len → tx j = tm j) (h : ¬ ioF (hM tm len p) = 0) (h1 : ¬ dgF (hM tm len (p + 1)) = 0) (hk : dg = nI k) (hk2 : k ≤ 2) : bkF tx (nI len) p dg = if hM tm len (p + 1 + k) = 59 then -1 else 1 + dg := by
  rw [bkF, ch_h hn (by omega) he, if_neg h, ch_h hn (by omega) he, if_neg h1, hk, nI_add, ch_h hn (by omega) he]
theorem rd_11N (hn : len ≤ 60) (hp : s.2.1 ≤ 60) (he : ∀ j, j < len → tx j = tm j) (h : ¬ ioF (hM tm len s.2.1) = 0) (h1 : ¬ dgF (hM tm len (s.2.1 + 1)) = 0) (h2 : dgF (hM tm len (s.2.1 + 1 + 1)) = 0) (h3 : ¬ hM tm len (s.2.1 + 1 + 1) = 59) : rdF tx (nI len) s = (s.1, s.2.1, 1, 1 + 1, s.2.2.2.2) := by
  rw [rdF, ch_h (i := s.2.1 + 2) hn (by omega) he, if_pos h2, bk_2 (dg := 1) (k := 1) hn hp he h h1 rfl (by decide), if_neg h3, if_neg (show ¬ (1 + 1 : Int32) = -1 by decide)]
theorem rd_12N (hn : len ≤ 60) (hp : s.2.1 ≤ 60) (he : ∀ j, j < len → tx j = tm j) (h : ¬ ioF (hM tm len s.2.1) = 0) (h1 : ¬ dgF (hM tm len (s.2.1 + 1)) = 0) (h2 : ¬ dgF (hM tm len (s.2.1 + 1 + 1)) = 0) (h3 : ¬ hM tm len (s.2.1 + 1 + 1 + 1) = 59) : rdF tx (nI len) s = (s.1, s.2.1, 1, 1 + 2, s.2.2.2.2) := by
  rw [rdF, ch_h (i := s.2.1 + 2) hn (by omega) he, if_neg h2, bk_2 (dg := 2) (k := 2) hn hp he h h1 rfl (by decide), if_neg h3, if_neg (show ¬ (1 + 2 : Int32) = -1 by decide)]
theorem rd_11Y (hn : len ≤ 60) (hp : s.2.1 ≤ 60) (he : ∀ j, j < len → tx j = tm j) (h : ¬ ioF (hM tm len s.2.1) = 0) (h1 : ¬ dgF (hM tm len (s.2.1 + 1)) = 0) (h2 : dgF (hM tm len (s.2.1 + 1 + 1)) = 0) (h3 : hM tm len (s.2.1 + 1 + 1) = 59) : rdF tx (nI len) s = orF tx (nI len) s (0 + hM tm len (s.2.1 + 1) - 48) 3 := by
  rw [rdF, ch_h (i := s.2.1 + 2) hn (by omega) he, if_pos h2, bk_2 (dg := 1) (k := 1) hn hp he h h1 rfl (by decide), if_pos h3, if_pos rfl, nm1F, ch_h hn (by omega) he, nm_1]
theorem rd_12Y (hn : len ≤ 60) (hp : s.2.1 ≤ 60) (he : ∀ j, j < len → tx j = tm j) (h : ¬ ioF (hM tm len s.2.1) = 0) (h1 : ¬ dgF (hM tm len (s.2.1 + 1)) = 0) (h2 : ¬ dgF (hM tm len (s.2.1 + 1 + 1)) = 0) (h3 : hM tm len (s.2.1 + 1 + 1 + 1) = 59) : rdF tx (nI len) s = orF tx (nI len) s (10 * (0 + hM tm len (s.2.1 + 1) - 48) + hM tm len (s.2.1 + 1 + 1) - 48) 4 := by
  rw [rdF, ch_h (i := s.2.1 + 2) hn (by omega) he, if_neg h2, bk_2 (dg := 2) (k := 2) hn hp he h h1 rfl (by decide), if_pos h3, if_pos rfl, nm2F, ch_h hn (by omega) he, ch_h hn (by omega) he, nm_2]
end RD
