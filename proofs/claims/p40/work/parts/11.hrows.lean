/-! rows of four references -/
def r4 (a b c d : Nat) : Nat → Option Nat := fun j => if j = 0 then some a else if j = 1 then some b else if j = 2 then some c else if j = 3 then some d else none
theorem r4_all {P : Nat → Prop} (h0 : P 0) (h1 : P 1) (h2 : P 2) (h3 : P 3) : ∀ j, j < 4 → P j := fun j hj => by
  rcases (show j = 0 ∨ j = 1 ∨ j = 2 ∨ j = 3 by omega) with rfl | rfl | rfl | rfl <;> assumption
section GR5
variable {L : GL} {E : GE} {N cs ss pc : Nat} {ad : Nat → Nat} {G : Nat → va_E} {lo : List (Nat × Value)} {st : List Value}
theorem GW.renq (k : Nat) (hk : k < N) {n t0 : Nat} {f : Nat → Option Nat} (f' : Nat → Option Nat) (hG : G k = .inl (L.ac t0, n, .inr (.inr (.inr (.inr f))))) (h : ∀ j, j < n → f j = f' j) (kk : ∀ G', G' k = .inl (L.ac t0, n, .inr (.inr (.inr (.inr f')))) → Agr [k] G G' → GW L E N ad G' cs ss pc lo st) : GW L E N ad G cs ss pc lo st :=
  fun hD H locs ls hl hP hS => kk _ up_same Agr.up hD H locs ls hl (va_P_ren hk hG (by rw [vp_cell_q, vp_cell_q]; exact arrV_agr fun j hj => by rw [h j hj]) hP) hS
end GR5
