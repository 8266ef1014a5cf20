/-! the reading of a text, as the class does it -/
def chF (tx : Nat → Int32) (ln i : Int32) : Int32 := if i < 0 then 0 else if ln ≤ i then 0 else if 60 ≤ i then 0 else tx i.toNatClampNeg
def dgF (c : Int32) : Int32 := if c < 48 then 0 else if 57 < c then 0 else 1
def ioF (c : Int32) : Int32 := if c = 108 then 1 else if c = 116 then 1 else if c = 109 then 1 else if c = 98 then 1 else 0
def bkF (tx : Nat → Int32) (ln : Int32) (p : Nat) (dg : Int32) : Int32 :=
  if ioF (chF tx ln (nI p)) = 0 then 0 else if dgF (chF tx ln (nI (p + 1))) = 0 then 1 else if chF tx ln (nI (p + 1) + dg) = 59 then -1 else 1 + dg
def nm1F (tx : Nat → Int32) (ln : Int32) (a : Nat) : Int32 := 0 + (chF tx ln (nI a) - 48)
def nm2F (tx : Nat → Int32) (ln : Int32) (a : Nat) : Int32 := (0 + (chF tx ln (nI a) - 48)) * 10 + (chF tx ln (nI (a + 1)) - 48)
/-- orders, position, reason, cause; heights, laid, millings of the trial -/
abbrev FS : Type := Int32 × Nat × Int32 × Int32 × (Nat → Int32) × Int32 × Int32
/-- an order with its number n behind the letter, w characters in all -/
def orF (tx : Nat → Int32) (ln : Int32) (s : FS) (n : Int32) (w : Nat) : FS :=
  if causeF s.2.2.2.2.1 s.2.2.2.2.2.1 (chF tx ln (nI s.2.1)) n = 0 then
    (s.1 + 1, s.2.1 + w, s.2.2.1, causeF s.2.2.2.2.1 s.2.2.2.2.2.1 (chF tx ln (nI s.2.1)) n, coF s.2.2.2.2.1 s.2.2.2.2.2.1 s.2.2.2.2.2.2 (chF tx ln (nI s.2.1)) n)
  else (s.1, s.2.1, 2, causeF s.2.2.2.2.1 s.2.2.2.2.2.1 (chF tx ln (nI s.2.1)) n, s.2.2.2.2)
def rdF (tx : Nat → Int32) (ln : Int32) (s : FS) : FS :=
  if dgF (chF tx ln (nI (s.2.1 + 2))) = 0 then
    (if bkF tx ln s.2.1 1 = -1 then orF tx ln s (nm1F tx ln (s.2.1 + 1)) 3 else (s.1, s.2.1, 1, bkF tx ln s.2.1 1, s.2.2.2.2))
  else
    (if bkF tx ln s.2.1 2 = -1 then orF tx ln s (nm2F tx ln (s.2.1 + 1)) 4 else (s.1, s.2.1, 1, bkF tx ln s.2.1 2, s.2.2.2.2))
def fRun (tx : Nat → Int32) (len : Nat) : Nat → FS → FS
  | 0, s => s
  | n + 1, s => if s.2.1 < len ∧ s.2.2.1 = 0 then fRun tx len n (rdF tx (nI len) s) else s
theorem rd_pos (tx : Nat → Int32) (ln : Int32) (s : FS) : (rdF tx ln s).2.1 ≤ s.2.1 + 4 := by
  have h : ∀ n w, w ≤ 4 → (orF tx ln s n w).2.1 ≤ s.2.1 + 4 := fun n w hw => by
    unfold orF
    split
    · show s.2.1 + w ≤ _
      omega
    · show s.2.1 ≤ _
      omega
  unfold rdF
  split
  · split
    · exact h _ _ (by omega)
    · show s.2.1 ≤ _
      omega
  · split
    · exact h _ _ (by omega)
    · show s.2.1 ≤ _
      omega
theorem fRun_stop {tx : Nat → Int32} {len n : Nat} {s : FS} (h : ¬ (s.2.1 < len ∧ s.2.2.1 = 0)) : fRun tx len n s = s := by
  cases n with
  | zero => rfl
  | succ n => rw [fRun, if_neg h]
theorem fRun_step {tx : Nat → Int32} {len n : Nat} {s : FS} (h : s.2.1 < len) (h2 : s.2.2.1 = 0) : fRun tx len (n + 1) s = fRun tx len n (rdF tx (nI len) s) := by rw [fRun, if_pos ⟨h, h2⟩]
