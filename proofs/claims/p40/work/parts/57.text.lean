/-! the text that the law writes -/
/-- one order at p, up to e: a letter, one or two digits, a sign that is no digit -/
def chK (tx : Nat → Int32) (p e : Nat) : Prop := (e = p + 3 ∧ ¬ ioF (tx p) = 0 ∧ ¬ dgF (tx (p + 1)) = 0 ∧ dgF (tx (p + 2)) = 0) ∨ (e = p + 4 ∧ ¬ ioF (tx p) = 0 ∧ ¬ dgF (tx (p + 1)) = 0 ∧ ¬ dgF (tx (p + 2)) = 0)
/-- n orders in len characters -/
def txN (tx : Nat → Int32) : Nat → Nat → Prop
  | 0, len => len = 0
  | n + 1, len => ∃ p, txN tx n p ∧ chK tx p len
theorem chK_c {tx ty : Nat → Int32} {p e : Nat} (h : chK tx p e) (a : ∀ j, j < e → ty j = tx j) : chK ty p e := by
  rcases h with ⟨h1, h2, h3, h4⟩ | ⟨h1, h2, h3, h4⟩
  · refine Or.inl ⟨h1, ?_, ?_, ?_⟩
    · rw [a p (by omega)]; exact h2
    · rw [a (p + 1) (by omega)]; exact h3
    · rw [a (p + 2) (by omega)]; exact h4
  · refine Or.inr ⟨h1, ?_, ?_, ?_⟩
    · rw [a p (by omega)]; exact h2
    · rw [a (p + 1) (by omega)]; exact h3
    · rw [a (p + 2) (by omega)]; exact h4
theorem chK_le {tx : Nat → Int32} {p e : Nat} (h : chK tx p e) : p + 3 ≤ e ∧ e ≤ p + 4 := by
  rcases h with ⟨h1, _⟩ | ⟨h1, _⟩ <;> omega
theorem txN_c {tx ty : Nat → Int32} : ∀ n len, txN tx n len → (∀ j, j < len → ty j = tx j) → txN ty n len
  | 0, _, h, _ => h
  | n + 1, len, ⟨p, h, hc⟩, a => ⟨p, txN_c n p h (fun j hj => a j (by have := chK_le hc; omega)), chK_c hc a⟩
theorem txN_le {tx : Nat → Int32} : ∀ n len, txN tx n len → 3 * n ≤ len ∧ len ≤ 4 * n
  | 0, len, h => by have h : len = 0 := h; omega
  | n + 1, len, ⟨p, h, hc⟩ => by have := txN_le n p h; have := chK_le hc; omega
/-- the start of each order -/
theorem txN_at {tx : Nat → Int32} : ∀ n len, txN tx n len → ∃ c : Nat → Nat, c 0 = 0 ∧ c n = len ∧ ∀ i, i < n → chK tx (c i) (c (i + 1))
  | 0, len, h => ⟨fun _ => 0, rfl, h.symm, fun i hi => absurd hi (Nat.not_lt_zero _)⟩
  | n + 1, len, ⟨p, h, hc⟩ => by
    obtain ⟨c, c0, cn, cc⟩ := txN_at n p h
    refine ⟨fun i => if i = n + 1 then len else c i, ?_, if_pos rfl, fun i hi => ?_⟩
    · show (if 0 = n + 1 then len else c 0) = 0
      rw [if_neg (by omega), c0]
    · show chK tx (if i = n + 1 then len else c i) (if i + 1 = n + 1 then len else c (i + 1))
      rw [if_neg (by omega)]
      by_cases e : i = n
      · subst e; rw [if_pos rfl, cn]; exact hc
      · rw [if_neg (by omega)]; exact cc i (by omega)
/-- one order read: done and behind it, or a fault at its place -/
theorem rd_ch {tx : Nat → Int32} {len : Nat} (hn : len ≤ 60) {s : FS} (hr : s.2.2.1 = 0) {e : Nat} (he : e ≤ len) (hc : chK tx s.2.1 e) :
    ((rdF tx (nI len) s).1 = s.1 + 1 ∧ (rdF tx (nI len) s).2.1 = e ∧ (rdF tx (nI len) s).2.2.1 = 0) ∨
    ((rdF tx (nI len) s).2.1 = s.2.1 ∧ ((rdF tx (nI len) s).2.2.1 = 1 ∨ (rdF tx (nI len) s).2.2.1 = 2)) := by
  have ho : ∀ n w, s.2.1 + w = e → ((orF tx (nI len) s n w).1 = s.1 + 1 ∧ (orF tx (nI len) s n w).2.1 = e ∧ (orF tx (nI len) s n w).2.2.1 = 0) ∨ ((orF tx (nI len) s n w).2.1 = s.2.1 ∧ ((orF tx (nI len) s n w).2.2.1 = 1 ∨ (orF tx (nI len) s n w).2.2.1 = 2)) := fun n w hw => by
    unfold orF
    split
    · exact Or.inl ⟨rfl, hw, hr⟩
    · exact Or.inr ⟨rfl, Or.inr rfl⟩
  have hx : ∀ j, j < len → chF tx (nI len) (nI j) = tx j := fun j hj => by
    rw [ch_h (tm := tx) hn (by omega) (fun _ _ => rfl), hM, if_pos hj]
  unfold rdF
  rcases hc with ⟨h1, h2, h3, h4⟩ | ⟨h1, h2, h3, h4⟩
  · rw [hx (s.2.1 + 2) (by omega), if_pos h4]
    split
    · exact ho _ 3 h1.symm
    · exact Or.inr ⟨rfl, Or.inl rfl⟩
  · rw [hx (s.2.1 + 2) (by omega), if_neg h4]
    split
    · exact ho _ 4 h1.symm
    · exact Or.inr ⟨rfl, Or.inl rfl⟩
theorem fr_n {tx : Nat → Int32} {len : Nat} (hn : len ≤ 60) {c : Nat → Nat} {n : Nat} (cn : c n = len) (cc : ∀ i, i < n → chK tx (c i) (c (i + 1))) (cm : ∀ i, i ≤ n → c i ≤ len) : ∀ (m i : Nat) (s : FS), n - i ≤ m → i ≤ n → s.1 = nI i → s.2.1 = c i → s.2.2.1 = 0 → (fRun tx len m s).2.2.1 = 0 → (fRun tx len m s).1 = nI n
  | 0, i, s, h, hi, h1, _, _, _ => by rw [show i = n by omega] at h1; exact h1
  | m + 1, i, s, h, hi, h1, h2, h3, h4 => by
    by_cases e : i = n
    · have : ¬ (s.2.1 < len ∧ s.2.2.1 = 0) := fun z => by rw [h2, e, cn] at z; exact absurd z.1 (Nat.lt_irrefl _)
      rw [fRun_stop this, h1, e]
    · have hc := cc i (by omega)
      have hl := cm (i + 1) (by omega)
      have hk := chK_le hc
      have hlt : s.2.1 < len := by rw [h2]; omega
      rw [fRun_step hlt h3] at h4 ⊢
      rcases rd_ch hn h3 hl (h2 ▸ hc) with ⟨a1, a2, a3⟩ | ⟨_, a3⟩
      · exact fr_n hn cn cc cm m (i + 1) _ (by omega) (by omega) (by rw [a1, h1, nI_1]) a2 a3 h4
      · have : ¬ ((rdF tx (nI len) s).2.1 < len ∧ (rdF tx (nI len) s).2.2.1 = 0) := fun z => by
          rcases a3 with a3 | a3 <;> rw [a3] at z <;> exact absurd z.2 (by decide)
        rw [fRun_stop this] at h4
        rcases a3 with a3 | a3 <;> rw [a3] at h4 <;> exact absurd h4 (by decide)
/-- a text of n orders that has no fault: n orders are done -/
theorem rd_n {tx : Nat → Int32} {n len : Nat} {s : HE} (h12 : n ≤ 12) (ht : txN tx n len) (h0 : (rdR s len tx).2.2.1 = 0) : (rdR s len tx).1 = nI n := by
  have hl := txN_le n len ht
  obtain ⟨c, c0, cn, cc⟩ := txN_at n len ht
  have cm : ∀ k i, i + k = n → c i ≤ len := by
    intro k
    induction k with
    | zero => intro i hi; rw [show i = n by omega, cn]; exact Nat.le_refl _
    | succ k ih => intro i hi; have := chK_le (cc i (by omega)); have := ih (i + 1) (by omega); omega
  exact fr_n (by omega) cn cc (fun i hi => cm (n - i) i (by omega)) 60 0 _ (by omega) (Nat.zero_le _) rfl c0.symm rfl h0
/-! faults of any text -/
def fOK (len : Nat) (s : FS) : Prop := s.2.1 < len ∧ ((s.2.2.1 = 1 ∧ ∃ q, s.2.2.2.1 = nI q ∧ s.2.1 + q ≤ len) ∨ (s.2.2.1 = 2 ∧ (s.2.2.2.1 = 1 ∨ s.2.2.2.1 = 2)))
theorem ch_out {tx : Nat → Int32} {len j : Nat} (hn : len ≤ 60) (hj : j < 1000) (h : ¬ dgF (chF tx (nI len) (nI j)) = 0) : j < len := by
  refine Classical.byContradiction fun z => h ?_
  rw [ch_h (tm := tx) hn hj (fun _ _ => rfl), hM, if_neg z]
  decide
theorem rd_ok {tx : Nat → Int32} {len : Nat} (hn : len ≤ 60) {s : FS} (hp : s.2.1 < len) (hr : s.2.2.1 = 0) (h : ¬ (rdF tx (nI len) s).2.2.1 = 0) : fOK len (rdF tx (nI len) s) := by
  have ho : ∀ n w, ¬ (orF tx (nI len) s n w).2.2.1 = 0 → fOK len (orF tx (nI len) s n w) := fun n w h => by
    unfold orF at h ⊢
    split
    · rename_i hc; rw [if_pos hc] at h; exact absurd hr h
    · rename_i hc
      refine ⟨hp, Or.inr ⟨rfl, ?_⟩⟩
      rcases cause_012 s.2.2.2.2.1 s.2.2.2.2.2.1 (chF tx (nI len) (nI s.2.1)) n with z | z | z
      · exact absurd z hc
      · exact Or.inl z
      · exact Or.inr z
  have hb : ∀ (dg : Int32) (k : Nat), dg = nI k → k = 1 ∨ k = 2 → (k = 2 → s.2.1 + 2 < len) → ¬ bkF tx (nI len) s.2.1 dg = -1 → fOK len (s.1, s.2.1, 1, bkF tx (nI len) s.2.1 dg, s.2.2.2.2) := fun dg k hk hk2 hk3 h => by
    refine ⟨hp, Or.inl ⟨rfl, ?_⟩⟩
    show ∃ q, bkF tx (nI len) s.2.1 dg = nI q ∧ s.2.1 + q ≤ len
    unfold bkF at h ⊢
    split
    · exact ⟨0, rfl, by omega⟩
    · rename_i h1
      rw [if_neg h1] at h
      split
      · exact ⟨1, rfl, by omega⟩
      · rename_i h2
        rw [if_neg h2] at h
        have hl := ch_out hn (show s.2.1 + 1 < 1000 by omega) h2
        split
        · rename_i h3; rw [if_pos h3] at h; exact absurd rfl h
        · refine ⟨1 + k, by rw [hk]; exact nI_add 1 k, ?_⟩
          rcases hk2 with z | z
          · omega
          · have := hk3 z; omega
  unfold rdF at h ⊢
  split
  · rename_i h1
    rw [if_pos h1] at h
    split
    · rename_i h2; rw [if_pos h2] at h; exact ho _ _ h
    · rename_i h2; exact hb 1 1 rfl (Or.inl rfl) (fun z => by omega) h2
  · rename_i h1
    rw [if_neg h1] at h
    split
    · rename_i h2; rw [if_pos h2] at h; exact ho _ _ h
    · rename_i h2; exact hb 2 2 rfl (Or.inr rfl) (fun _ => ch_out hn (by omega) h1) h2
theorem fr_ok {tx : Nat → Int32} {len : Nat} (hn : len ≤ 60) : ∀ (m : Nat) (s : FS), s.2.2.1 = 0 → ¬ (fRun tx len m s).2.2.1 = 0 → fOK len (fRun tx len m s)
  | 0, s, hr, h => absurd hr h
  | m + 1, s, hr, h => by
    by_cases hp : s.2.1 < len
    · rw [fRun_step hp hr] at h ⊢
      by_cases z : (rdF tx (nI len) s).2.2.1 = 0
      · exact fr_ok hn m _ z h
      · have : ¬ ((rdF tx (nI len) s).2.1 < len ∧ (rdF tx (nI len) s).2.2.1 = 0) := fun y => z y.2
        rw [fRun_stop this]
        exact rd_ok hn hp hr z
    · have : ¬ (s.2.1 < len ∧ s.2.2.1 = 0) := fun y => hp y.1
      rw [fRun_stop this] at h
      exact absurd hr h
theorem rd_f {tx : Nat → Int32} {len : Nat} {s : HE} (hn : len ≤ 60) (h : ¬ (rdR s len tx).2.2.1 = 0) : fOK len (rdR s len tx) := fr_ok hn 60 _ rfl h
