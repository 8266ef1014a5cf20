/-! rows that allocate, the new addresses told by a new function -/
theorem hz_rf {ad : Nat → Nat} {N0 : Nat} : ∀ i, i < N0 → ad i = ad i := fun _ _ => rfl
theorem hz_tr {N0 N : Nat} {a b c : Nat → Nat} (hz : ∀ i, i < N0 → b i = a i) (he : ∀ i, i < N → c i = b i) (h : N0 ≤ N) : ∀ i, i < N0 → c i = a i := fun i hi => (he i (Nat.lt_of_lt_of_le hi h)).trans (hz i hi)
theorem ha_i {n : Nat} (cA : ClassId) : vp_cell cA (n, .inl (fun _ => 0)) = arrV cA n (fun _ => defaultValue .int) := by rw [vp_cell_i]; rfl
theorem ha_c {n : Nat} (cA : ClassId) : vp_cell cA (n, .inl (fun _ => 0)) = arrV cA n (fun _ => defaultValue .char) := by rw [vp_cell_i]; rfl
theorem ha_l {n : Nat} (cA : ClassId) : vp_cell cA (n, .inr (.inl (fun _ => 0))) = arrV cA n (fun _ => defaultValue .long) := by rw [vp_cell_l]; rfl
theorem dfX0 : ∀ j, j < 2 → defaultValue (tyX0 j) = vp_V [.null, .int 0] j := by decide +kernel
theorem dfX1 : ∀ j, j < 5 → defaultValue (tyX1 j) = vp_V [.int 0, .int 0, .int 0, .long 0, .long 0] j := by decide +kernel
theorem dfX2 : ∀ j, j < 4 → defaultValue (tyX2 j) = vp_V [.null, .null, .null, .int 0] j := by decide +kernel
theorem dfX3 : ∀ j, j < 3 → defaultValue (tyX3 j) = vp_V [.null, .null, .int 0] j := by decide +kernel
theorem dfX4 : ∀ j, j < 5 → defaultValue (tyX4 j) = vp_V [.null, .null, .null, .null, .null] j := by decide +kernel
theorem dfX5 : ∀ j, j < 4 → defaultValue (tyX5 j) = vp_V [.null, .null, .int 0, .int 0] j := by decide +kernel
theorem dfX6 : ∀ j, j < 5 → defaultValue (tyX6 j) = vp_V [.int 0, .int 0, .int 0, .int 0, .int 0] j := by decide +kernel
theorem dfX7 : ∀ j, j < 6 → defaultValue (tyX7 j) = vp_V [.null, .int 0, .int 0, .int 0, .int 0, .int 0] j := by decide +kernel
theorem dfX8 : ∀ j, j < 10 → defaultValue (tyX8 j) = vp_V [.null, .null, .null, .null, .null, .null, .null, .null, .null, .int 0] j := by decide +kernel
section AL
variable {L : GL} {E : GE} {cc : ByteArray} {own : String} {nL N cs ss pc : Nat} {R : Room} {ad : Nat → Nat} {G : Nat → va_E} {lo : List (Nat × Value)} {st : List Value}
theorem al_e {L : GL} {E : GE} {N cs ss pc q : Nat} {ad : Nat → Nat} {G : Nat → va_E} {lo : List (Nat × Value)} {st : List Value} {e : va_E} (kk : ∀ (ad' : Nat → Nat) (G' : Nat → va_E), (∀ i, i < N → ad' i = ad i) → G' N = e → Agr [N] G G' → GW L E (N + 1) ad' G' cs ss pc lo (.ref (ad' N) :: st)) : GW L E (N + 1) (va_up ad N q) (va_up G N e) cs ss pc lo (.ref q :: st) := by
  have h := kk (va_up ad N q) (va_up G N e) (fun i hi => up_ne (Nat.ne_of_lt hi)) up_same Agr.up
  rw [up_same] at h
  exact h
theorem G_newaE (C : gC L E cc own nL R) (t0 : Nat) {atype : ArrayType} {ty : FieldType} (hw : Cond.arrayClass (newarray.typeOf atype) ∈ AW) (hty : newarray.typeOf atype = ty) (ht : (gTy L)[t0]? = some (L.ac t0, ty)) {n : Int32} {N1 : Nat} {a0 : vp_A} (ha : ∀ cA : ClassId, vp_cell cA a0 = arrV cA N1 (fun _ => defaultValue ty)) (hn : ¬ n < 0) (hN : n.toNatClampNeg = N1) (hby : N1 * componentBytes ty ≤ 536870912) (hc1 : cs + 1 ≤ R.cells) (hs1 : ss + N1 ≤ R.slots) (hdg : decode cc pc = .ok (.newarray atype, 2)) (kk : ∀ (ad' : Nat → Nat) (G' : Nat → va_E), (∀ i, i < N → ad' i = ad i) → G' N = .inl (L.ac t0, a0) → Agr [N] G G' → GW L E (N + 1) ad' G' (cs + 1) (ss + N1) (pc + 2) lo (.ref (ad' N) :: st)) : GW L E N ad G cs ss pc lo (.int n :: st) :=
  G_newa C t0 hw hty ht ha hn hN hby hc1 hs1 hdg (fun _ => al_e kk)
theorem G_newqE (C : gC L E cc own nL R) (t0 : Nat) {Cn : String} {index : Nat} (hw : Cond.classLink own index Cn ∈ AW) (hao : va_AO Cn E.s) (ht : (gTy L)[t0]? = some (L.ac t0, .object Cn)) {n : Int32} {N1 : Nat} (hn : ¬ n < 0) (hN : n.toNatClampNeg = N1) (hby : N1 * 4 ≤ 536870912) (hc1 : cs + 1 ≤ R.cells) (hs1 : ss + N1 ≤ R.slots) (hdg : decode cc pc = .ok (.anewarray index, 3)) (kk : ∀ (ad' : Nat → Nat) (G' : Nat → va_E), (∀ i, i < N → ad' i = ad i) → G' N = .inl (L.ac t0, N1, .inr (.inr (.inr (.inr (fun _ => none))))) → Agr [N] G G' → GW L E (N + 1) ad' G' (cs + 1) (ss + N1) (pc + 3) lo (.ref (ad' N) :: st)) : GW L E N ad G cs ss pc lo (.int n :: st) :=
  G_newq C t0 hw hao ht hn hN hby hc1 hs1 hdg (fun _ => al_e kk)
theorem G_newE (C : gC L E cc own nL R) {ci Nf index : Nat} {C' : String} {T : u_T} {ty0 : Nat → FieldType} {fs : List Value} (hc : vwCl[ci]? = some (C', T, Nf)) (hin : ∀ w ∈ u_ws C' T Nf, w ∈ AW) (hty : ∀ k, k < Nf → parseFieldDescriptor (T k).2.2.1 = some (ty0 k)) (hw1 : Cond.classLink own index C' ∈ AW) (hw2 : Cond.instantiable C' Nf ∈ AW) (hw3 : Cond.initialized C' ∈ AW) (hfs : ∀ j, j < Nf → defaultValue (ty0 j) = vp_V fs j) (hc1 : cs + 1 ≤ R.cells) (hs1 : ss + Nf ≤ R.slots) (hdg : decode cc pc = .ok (.new index, 3)) (kk : ∀ (ad' : Nat → Nat) (G' : Nat → va_E), (∀ i, i < N → ad' i = ad i) → G' N = .inr (ci, fs) → Agr [N] G G' → GW L E (N + 1) ad' G' (cs + 1) (ss + Nf) (pc + 3) lo (.ref (ad' N) :: st)) : GW L E N ad G cs ss pc lo st :=
  G_new C hc hin hty hw1 hw2 hw3 hfs hc1 hs1 hdg (fun _ => al_e kk)
end AL
