/-! an array's content told by another function that agrees with it below the length -/
theorem arrV_agr {cA : ClassId} {n : Nat} {f g : Nat → Value} (h : ∀ j, j < n → f j = g j) : arrV cA n f = arrV cA n g := by
  unfold arrV
  have : (Array.ofFn (n := n) fun j => f j.val) = Array.ofFn (n := n) fun j => g j.val := by
    congr 1
    funext j
    exact h j.val j.isLt
  rw [this]
theorem va_P_ren {D : va_G} {ad : Nat → Nat} {N k : Nat} {G : Nat → va_E} {H : Heap} {cA : ClassId} {a b : vp_A} (hk : k < N) (hG : G k = .inl (cA, a)) (he : vp_cell cA a = vp_cell cA b) (hP : va_P D vwCl (gw ad N G) H) : va_P D vwCl (gw ad N (va_up G k (.inl (cA, b)))) H := by
  intro i q hq
  obtain ⟨hi, rfl⟩ := gw_some hq
  have h := hP i _ (gw_get hi)
  by_cases hik : i = k
  · subst hik
    rw [hG] at h
    show va_at D vwCl (ad i, va_up G i (.inl (cA, b)) i) H
    rw [up_same]
    exact Eq.trans h (congrArg some he)
  · rw [up_ne hik]
    exact h
section GR3
variable {L : GL} {E : GE} {N cs ss pc : Nat} {ad : Nat → Nat} {G : Nat → va_E} {lo : List (Nat × Value)} {st : List Value}
theorem GW.ren (k : Nat) (hk : k < N) {n t0 : Nat} {f : Nat → Int32} (f' : Nat → Int32) (hG : G k = .inl (L.ac t0, n, .inl f)) (h : ∀ j, j < n → f j = f' j) (kk : ∀ G', G' k = .inl (L.ac t0, n, .inl f') → Agr [k] G G' → GW L E N ad G' cs ss pc lo st) : GW L E N ad G cs ss pc lo st :=
  fun hD H locs ls hl hP hS => kk _ up_same Agr.up hD H locs ls hl (va_P_ren hk hG (by rw [vp_cell_i, vp_cell_i]; exact arrV_agr fun j hj => by rw [h j hj]) hP) hS
theorem GW.renl (k : Nat) (hk : k < N) {n t0 : Nat} {f : Nat → Int64} (f' : Nat → Int64) (hG : G k = .inl (L.ac t0, n, .inr (.inl f))) (h : ∀ j, j < n → f j = f' j) (kk : ∀ G', G' k = .inl (L.ac t0, n, .inr (.inl f')) → Agr [k] G G' → GW L E N ad G' cs ss pc lo st) : GW L E N ad G cs ss pc lo st :=
  fun hD H locs ls hl hP hS => kk _ up_same Agr.up hD H locs ls hl (va_P_ren hk hG (by rw [vp_cell_l, vp_cell_l]; exact arrV_agr fun j hj => by rw [h j hj]) hP) hS
end GR3
/-- an index that was looked at -/
theorem vin {x M : Int32} {n : Nat} (hM : M = nI n) (hn : n < 2147483648) (h1 : ¬ x < 0) (h2 : ¬ M ≤ x) : vp_in x n := by
  rcases pk_ix x hn with h | h | ⟨j, hj, rfl⟩
  · exact absurd h h1
  · exact absurd (hM ▸ h) h2
  · exact vp_in_nI hj hn
theorem cI_lt {x y : Int32} {a b : Nat} (hx : x = nI a) (hy : y = nI b) (ha : a < 2147483648) (hb : b < 2147483648) : x < y ↔ a < b := by rw [hx, hy]; exact nI_ltI ha hb
theorem cI_le {x y : Int32} {a b : Nat} (hx : x = nI a) (hy : y = nI b) (ha : a < 2147483648) (hb : b < 2147483648) : x ≤ y ↔ a ≤ b := by rw [hx, hy]; exact nI_leI ha hb
theorem cI_eq {x y : Int32} {a b : Nat} (hx : x = nI a) (hy : y = nI b) (ha : a < 2147483648) (hb : b < 2147483648) : x = y ↔ a = b := by rw [hx, hy]; exact nI_eq ha hb
theorem cI_add {x y : Int32} {a b : Nat} (hx : x = nI a) (hy : y = nI b) : x + y = nI (a + b) := by rw [hx, hy]; exact nI_add a b
theorem cI_mul {x y : Int32} {a b : Nat} (hx : x = nI a) (hy : y = nI b) : x * y = nI (a * b) := by rw [hx, hy]; exact pk_mul a b
section GR4
variable {L : GL} {E : GE} {N cs ss pc : Nat} {ad : Nat → Nat} {G : Nat → va_E} {lo : List (Nat × Value)} {st : List Value}
theorem GW.topr {x y : Int32} (h : x = y) (k : GW L E N ad G cs ss pc lo (.int y :: st)) : GW L E N ad G cs ss pc lo (.int x :: st) := h ▸ k
theorem GW.toprl {x y : Int64} (h : x = y) (k : GW L E N ad G cs ss pc lo (.long y :: st)) : GW L E N ad G cs ss pc lo (.long x :: st) := h ▸ k
theorem GW.pick (ks : List Nat) (lo' : List (Nat × Value)) (h : ks.filterMap (fun k => lo[k]?) = lo') (k : GW L E N ad G cs ss pc lo' st) : GW L E N ad G cs ss pc lo st := by
  refine GW.sub lo' (fun q hq => ?_) k
  rw [← h] at hq
  obtain ⟨i, -, hi⟩ := List.mem_filterMap.mp hq
  exact List.mem_of_getElem? hi
end GR4
