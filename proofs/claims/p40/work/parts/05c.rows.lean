/-! the same rows, the heap behind a write told by what it holds; long compares and their branch in one; objects of many fields by a function -/
theorem lg_le {x y : Int64} : lg_cmp x y ≤ 0 ↔ x ≤ y := by
  unfold lg_cmp
  by_cases h : x > y
  · simp only [h, if_true]
    exact ⟨fun z => absurd z (by decide), fun z => absurd h (Int64.not_lt.mpr z)⟩
  · simp only [h, if_false]
    refine ⟨fun _ => Int64.not_lt.mp h, fun _ => ?_⟩
    split <;> decide
theorem lg_lt {x y : Int64} : lg_cmp x y < 0 ↔ x < y := by
  unfold lg_cmp
  by_cases h : x > y
  · simp only [h, if_true]
    exact ⟨fun z => absurd z (by decide), fun z => (Int64.lt_irrefl (Int64.lt_trans z h)).elim⟩
  · by_cases e : x = y
    · subst e
      simp
    · simp only [h, e, if_false]
      exact ⟨fun _ => Int64.lt_of_le_of_ne (Int64.not_lt.mp h) e, fun _ => by decide⟩
theorem lg_eq {x y : Int64} : lg_cmp x y = 0 ↔ x = y := by
  unfold lg_cmp
  by_cases h : x > y
  · simp only [h, if_true]
    exact ⟨fun z => absurd z (by decide), fun z => (Int64.lt_irrefl (z ▸ h)).elim⟩
  · by_cases e : x = y
    · simp [e]
    · simp only [h, e, if_false]
      exact ⟨fun z => absurd z (by decide), fun z => z.elim⟩
theorem lg_ge {x y : Int64} : 0 ≤ lg_cmp x y ↔ y ≤ x := by
  rw [← Int32.not_lt, lg_lt, Int64.not_lt]
theorem lg_gt {x y : Int64} : 0 < lg_cmp x y ↔ y < x := by
  rw [← Int32.not_le, lg_le, Int64.not_le]
def ofn (n : Nat) (o : Nat → Value) : List Value := (List.range n).map o
theorem ofn_get {n j : Nat} {o : Nat → Value} (h : j < n) : (ofn n o)[j]? = some (o j) := by
  simp [ofn, List.getElem?_map, List.getElem?_range h]
theorem ofn_len {n : Nat} {o : Nat → Value} : (ofn n o).length = n := by simp [ofn]
theorem ofn_set {n j : Nat} {o : Nat → Value} {v : Value} (hj : j < n) : (ofn n o).set j v = ofn n (va_up o j v) := by
  apply List.ext_getElem?
  intro i
  by_cases hi : i < n
  · by_cases hij : i = j
    · subst hij
      rw [List.getElem?_set_self (by rw [ofn_len]; exact hi), ofn_get hi]
      simp [va_up]
    · rw [List.getElem?_set_ne (Ne.symm hij), ofn_get hi, ofn_get hi]
      simp [va_up, hij]
  · rw [List.getElem?_eq_none (by rw [List.length_set, ofn_len]; omega), List.getElem?_eq_none (by rw [ofn_len]; omega)]
section GR2
variable {L : GL} {E : GE} {cc : ByteArray} {own : String} {nL N cs ss pc : Nat} {R : Room} {ad : Nat → Nat} {G : Nat → va_E} {lo : List (Nat × Value)} {st : List Value}
theorem G_lc_le (C : gC L E cc own nL R) {x y : Int64} {off : Int} (tgt : Nat) (d1 : decode cc pc = .ok (.lcmp, 1)) (d2 : decode cc (pc + 1) = .ok (.ifCond .le off, 3)) (ht : ((pc + 1 : Nat) : Int) + off = (tgt : Int)) (kt : x ≤ y → GW L E N ad G cs ss tgt lo st) (kf : ¬ x ≤ y → GW L E N ad G cs ss (pc + 4) lo st) : GW L E N ad G cs ss pc lo (.long y :: .long x :: st) :=
  G_lcmp C d1 (G_if_le C tgt d2 ht (fun h => kt (lg_le.mp h)) (fun h => kf (fun z => h (lg_le.mpr z))))
theorem G_lc_lt (C : gC L E cc own nL R) {x y : Int64} {off : Int} (tgt : Nat) (d1 : decode cc pc = .ok (.lcmp, 1)) (d2 : decode cc (pc + 1) = .ok (.ifCond .lt off, 3)) (ht : ((pc + 1 : Nat) : Int) + off = (tgt : Int)) (kt : x < y → GW L E N ad G cs ss tgt lo st) (kf : ¬ x < y → GW L E N ad G cs ss (pc + 4) lo st) : GW L E N ad G cs ss pc lo (.long y :: .long x :: st) :=
  G_lcmp C d1 (G_if_lt C tgt d2 ht (fun h => kt (lg_lt.mp h)) (fun h => kf (fun z => h (lg_lt.mpr z))))
theorem G_lc_ge (C : gC L E cc own nL R) {x y : Int64} {off : Int} (tgt : Nat) (d1 : decode cc pc = .ok (.lcmp, 1)) (d2 : decode cc (pc + 1) = .ok (.ifCond .ge off, 3)) (ht : ((pc + 1 : Nat) : Int) + off = (tgt : Int)) (kt : y ≤ x → GW L E N ad G cs ss tgt lo st) (kf : ¬ y ≤ x → GW L E N ad G cs ss (pc + 4) lo st) : GW L E N ad G cs ss pc lo (.long y :: .long x :: st) :=
  G_lcmp C d1 (G_if_ge C tgt d2 ht (fun h => kt (lg_ge.mp h)) (fun h => kf (fun z => h (lg_ge.mpr z))))
theorem G_lc_gt (C : gC L E cc own nL R) {x y : Int64} {off : Int} (tgt : Nat) (d1 : decode cc pc = .ok (.lcmp, 1)) (d2 : decode cc (pc + 1) = .ok (.ifCond .gt off, 3)) (ht : ((pc + 1 : Nat) : Int) + off = (tgt : Int)) (kt : y < x → GW L E N ad G cs ss tgt lo st) (kf : ¬ y < x → GW L E N ad G cs ss (pc + 4) lo st) : GW L E N ad G cs ss pc lo (.long y :: .long x :: st) :=
  G_lcmp C d1 (G_if_gt C tgt d2 ht (fun h => kt (lg_gt.mp h)) (fun h => kf (fun z => h (lg_gt.mpr z))))
theorem G_lc_eq (C : gC L E cc own nL R) {x y : Int64} {off : Int} (tgt : Nat) (d1 : decode cc pc = .ok (.lcmp, 1)) (d2 : decode cc (pc + 1) = .ok (.ifCond .eq off, 3)) (ht : ((pc + 1 : Nat) : Int) + off = (tgt : Int)) (kt : x = y → GW L E N ad G cs ss tgt lo st) (kf : ¬ x = y → GW L E N ad G cs ss (pc + 4) lo st) : GW L E N ad G cs ss pc lo (.long y :: .long x :: st) :=
  G_lcmp C d1 (G_if_eq C tgt d2 ht (fun h => kt (lg_eq.mp h)) (fun h => kf (fun z => h (lg_eq.mpr z))))
theorem G_lc_ne (C : gC L E cc own nL R) {x y : Int64} {off : Int} (tgt : Nat) (d1 : decode cc pc = .ok (.lcmp, 1)) (d2 : decode cc (pc + 1) = .ok (.ifCond .ne off, 3)) (ht : ((pc + 1 : Nat) : Int) + off = (tgt : Int)) (kt : ¬ x = y → GW L E N ad G cs ss tgt lo st) (kf : x = y → GW L E N ad G cs ss (pc + 4) lo st) : GW L E N ad G cs ss pc lo (.long y :: .long x :: st) :=
  G_lcmp C d1 (G_if_ne C tgt d2 ht (fun h => kt (fun z => h (lg_eq.mpr z))) (fun h => kf (lg_eq.mp h)))
theorem G_putp (C : gC L E cc own nL R) (k : Nat) (hk : k < N) {ci Nf index : Nat} {C' : String} {T : u_T} {ty0 : Nat → FieldType} {fs fs' : List Value} {v : Value} (hG : G k = .inr (ci, fs)) (hc : vwCl[ci]? = some (C', T, Nf)) (hin : ∀ w ∈ u_ws C' T Nf, w ∈ AW) (hty : ∀ k, k < Nf → parseFieldDescriptor (T k).2.2.1 = some (ty0 k)) (hnm : ∀ a, a < Nf → ∀ b, b < Nf → a ≠ b → (T a).2.1 ≠ (T b).2.1) (j : Nat) (hj : j < Nf) (hT : (T j).1 = C') (hw : Cond.fieldLink own index C' (T j).2.1 (T j).2.2.1 ∈ AW) (hfin : (T j).2.2.2 = false) (hn : narrow (ty0 j) v = v) (hfit : fits (ty0 j) v = true) (hl0 : j < fs.length) (hfs : fs.set j v = fs') (hdg : decode cc pc = .ok (.putfield index, 3)) (kk : ∀ G', G' k = .inr (ci, fs') → Agr [k] G G' → GW L E N ad G' cs ss (pc + 3) lo st) : GW L E N ad G cs ss pc lo (v :: .ref (ad k) :: st) :=
  G_put C k hk hG hc hin hty hnm j hj hT hw hfin hn hfit hl0 hfs hdg (kk _ up_same Agr.up)
theorem G_putFp (C : gC L E cc own nL R) (hin2 : E.meth.name = "<init>") (k : Nat) (hk : k < N) {ci Nf index : Nat} {C' : String} {T : u_T} {ty0 : Nat → FieldType} {fs fs' : List Value} {v : Value} (hG : G k = .inr (ci, fs)) (hc : vwCl[ci]? = some (C', T, Nf)) (hin : ∀ w ∈ u_ws C' T Nf, w ∈ AW) (hty : ∀ k, k < Nf → parseFieldDescriptor (T k).2.2.1 = some (ty0 k)) (hnm : ∀ a, a < Nf → ∀ b, b < Nf → a ≠ b → (T a).2.1 ≠ (T b).2.1) (j : Nat) (hj : j < Nf) (hT : (T j).1 = C') (hT2 : (T j).1 = own) (hw : Cond.fieldLink own index C' (T j).2.1 (T j).2.2.1 ∈ AW) (hfin : (T j).2.2.2 = true) (hn : narrow (ty0 j) v = v) (hfit : fits (ty0 j) v = true) (hl0 : j < fs.length) (hfs : fs.set j v = fs') (hdg : decode cc pc = .ok (.putfield index, 3)) (kk : ∀ G', G' k = .inr (ci, fs') → Agr [k] G G' → GW L E N ad G' cs ss (pc + 3) lo st) : GW L E N ad G cs ss pc lo (v :: .ref (ad k) :: st) :=
  G_putF C hin2 k hk hG hc hin hty hnm j hj hT hT2 hw hfin hn hfit hl0 hfs hdg (kk _ up_same Agr.up)
theorem G_puto (C : gC L E cc own nL R) (k : Nat) (hk : k < N) {ci Nf index : Nat} {C' : String} {T : u_T} {ty0 : Nat → FieldType} {o : Nat → Value} {v : Value} (hG : G k = .inr (ci, ofn Nf o)) (hc : vwCl[ci]? = some (C', T, Nf)) (hin : ∀ w ∈ u_ws C' T Nf, w ∈ AW) (hty : ∀ k, k < Nf → parseFieldDescriptor (T k).2.2.1 = some (ty0 k)) (hnm : ∀ a, a < Nf → ∀ b, b < Nf → a ≠ b → (T a).2.1 ≠ (T b).2.1) (j : Nat) (hj : j < Nf) (hT : (T j).1 = C') (hw : Cond.fieldLink own index C' (T j).2.1 (T j).2.2.1 ∈ AW) (hfin : (T j).2.2.2 = false) (hn : narrow (ty0 j) v = v) (hfit : fits (ty0 j) v = true) (hdg : decode cc pc = .ok (.putfield index, 3)) (kk : ∀ (G' : Nat → va_E) (o' : Nat → Value), G' k = .inr (ci, ofn Nf o') → o' j = v → Agr [j] o o' → Agr [k] G G' → GW L E N ad G' cs ss (pc + 3) lo st) : GW L E N ad G cs ss pc lo (v :: .ref (ad k) :: st) :=
  G_put C k hk hG hc hin hty hnm j hj hT hw hfin hn hfit (by rw [ofn_len]; exact hj) (ofn_set hj) hdg (kk _ (va_up o j v) up_same up_same Agr.up Agr.up)
theorem G_putFo (C : gC L E cc own nL R) (hin2 : E.meth.name = "<init>") (k : Nat) (hk : k < N) {ci Nf index : Nat} {C' : String} {T : u_T} {ty0 : Nat → FieldType} {o : Nat → Value} {v : Value} (hG : G k = .inr (ci, ofn Nf o)) (hc : vwCl[ci]? = some (C', T, Nf)) (hin : ∀ w ∈ u_ws C' T Nf, w ∈ AW) (hty : ∀ k, k < Nf → parseFieldDescriptor (T k).2.2.1 = some (ty0 k)) (hnm : ∀ a, a < Nf → ∀ b, b < Nf → a ≠ b → (T a).2.1 ≠ (T b).2.1) (j : Nat) (hj : j < Nf) (hT : (T j).1 = C') (hT2 : (T j).1 = own) (hw : Cond.fieldLink own index C' (T j).2.1 (T j).2.2.1 ∈ AW) (hfin : (T j).2.2.2 = true) (hn : narrow (ty0 j) v = v) (hfit : fits (ty0 j) v = true) (hdg : decode cc pc = .ok (.putfield index, 3)) (kk : ∀ (G' : Nat → va_E) (o' : Nat → Value), G' k = .inr (ci, ofn Nf o') → o' j = v → Agr [j] o o' → Agr [k] G G' → GW L E N ad G' cs ss (pc + 3) lo st) : GW L E N ad G cs ss pc lo (v :: .ref (ad k) :: st) :=
  G_putF C hin2 k hk hG hc hin hty hnm j hj hT hT2 hw hfin hn hfit (by rw [ofn_len]; exact hj) (ofn_set hj) hdg (kk _ (va_up o j v) up_same up_same Agr.up Agr.up)
theorem ix_in {i : Int32} {j n : Nat} (hi : i = nI j) (hj : j < n) (hn : n < 2147483648) : vp_in i n := by rw [hi]; exact vp_in_nI hj hn
theorem ix_cl {i : Int32} {j n : Nat} (hi : i = nI j) (hj : j < n) (hn : n < 2147483648) : i.toNatClampNeg = j := by rw [hi]; exact nI_clamp (by omega)
theorem G_ialdN (C : gC L E cc own nL R) (k : Nat) (hk : k < N) {n : Nat} {f : Nat → Int32} {i : Int32} (j : Nat) (hG : G k = .inl (L.ac 0, n, .inl f)) (hi : i = nI j) (hj : j < n) (hn : n < 2147483648) (hdg : decode cc pc = .ok (.iaload, 1)) (kk : GW L E N ad G cs ss (pc + 1) lo (.int (f j) :: st)) : GW L E N ad G cs ss pc lo (.int i :: .ref (ad k) :: st) :=
  G_iald C k hk hG (ix_in hi hj hn) hdg (by rw [ix_cl hi hj hn]; exact kk)
theorem G_caldN (C : gC L E cc own nL R) (k : Nat) (hk : k < N) {n : Nat} {f : Nat → Int32} {i : Int32} (j : Nat) (hG : G k = .inl (L.ac 2, n, .inl f)) (hi : i = nI j) (hj : j < n) (hn : n < 2147483648) (hdg : decode cc pc = .ok (.caload, 1)) (kk : GW L E N ad G cs ss (pc + 1) lo (.int (f j) :: st)) : GW L E N ad G cs ss pc lo (.int i :: .ref (ad k) :: st) :=
  G_cald C k hk hG (ix_in hi hj hn) hdg (by rw [ix_cl hi hj hn]; exact kk)
theorem G_laldN (C : gC L E cc own nL R) (k : Nat) (hk : k < N) {n : Nat} {f : Nat → Int64} {i : Int32} (j : Nat) (hG : G k = .inl (L.ac 1, n, .inr (.inl f))) (hi : i = nI j) (hj : j < n) (hn : n < 2147483648) (hdg : decode cc pc = .ok (.laload, 1)) (kk : GW L E N ad G cs ss (pc + 1) lo (.long (f j) :: st)) : GW L E N ad G cs ss pc lo (.int i :: .ref (ad k) :: st) :=
  G_lald C k hk hG (ix_in hi hj hn) hdg (by rw [ix_cl hi hj hn]; exact kk)
theorem G_iastp (C : gC L E cc own nL R) (k : Nat) (hk : k < N) {n : Nat} {f : Nat → Int32} {i : Int32} {x : Int32} (hG : G k = .inl (L.ac 0, n, .inl f)) (hin : vp_in i n) (hdg : decode cc pc = .ok (.iastore, 1)) (kk : ∀ G', G' k = .inl (L.ac 0, n, .inl (upd f i.toNatClampNeg x)) → Agr [k] G G' → GW L E N ad G' cs ss (pc + 1) lo st) : GW L E N ad G cs ss pc lo (.int x :: .int i :: .ref (ad k) :: st) :=
  G_iast C k hk hG hin hdg (kk _ up_same Agr.up)
theorem G_iastN (C : gC L E cc own nL R) (k : Nat) (hk : k < N) {n : Nat} {f : Nat → Int32} {i : Int32} {x : Int32} (j : Nat) (hG : G k = .inl (L.ac 0, n, .inl f)) (hi : i = nI j) (hj : j < n) (hn : n < 2147483648) (hdg : decode cc pc = .ok (.iastore, 1)) (kk : ∀ G', G' k = .inl (L.ac 0, n, .inl (upd f j x)) → Agr [k] G G' → GW L E N ad G' cs ss (pc + 1) lo st) : GW L E N ad G cs ss pc lo (.int x :: .int i :: .ref (ad k) :: st) :=
  G_iastp C k hk hG (ix_in hi hj hn) hdg (fun G' h a => kk G' (by rw [ix_cl hi hj hn] at h; exact h) a)
theorem G_castp (C : gC L E cc own nL R) (k : Nat) (hk : k < N) {n : Nat} {f : Nat → Int32} {i : Int32} {x : Int32} (hG : G k = .inl (L.ac 2, n, .inl f)) (hin : vp_in i n) (hdg : decode cc pc = .ok (.castore, 1)) (kk : ∀ G', G' k = .inl (L.ac 2, n, .inl (upd f i.toNatClampNeg (vp_nar .char x))) → Agr [k] G G' → GW L E N ad G' cs ss (pc + 1) lo st) : GW L E N ad G cs ss pc lo (.int x :: .int i :: .ref (ad k) :: st) :=
  G_cast C k hk hG hin hdg (kk _ up_same Agr.up)
theorem G_castN (C : gC L E cc own nL R) (k : Nat) (hk : k < N) {n : Nat} {f : Nat → Int32} {i : Int32} {x : Int32} (j : Nat) (hG : G k = .inl (L.ac 2, n, .inl f)) (hi : i = nI j) (hj : j < n) (hn : n < 2147483648) (hdg : decode cc pc = .ok (.castore, 1)) (kk : ∀ G', G' k = .inl (L.ac 2, n, .inl (upd f j (vp_nar .char x))) → Agr [k] G G' → GW L E N ad G' cs ss (pc + 1) lo st) : GW L E N ad G cs ss pc lo (.int x :: .int i :: .ref (ad k) :: st) :=
  G_castp C k hk hG (ix_in hi hj hn) hdg (fun G' h a => kk G' (by rw [ix_cl hi hj hn] at h; exact h) a)
theorem G_lastp (C : gC L E cc own nL R) (k : Nat) (hk : k < N) {n : Nat} {f : Nat → Int64} {i : Int32} {x : Int64} (hG : G k = .inl (L.ac 1, n, .inr (.inl f))) (hin : vp_in i n) (hdg : decode cc pc = .ok (.lastore, 1)) (kk : ∀ G', G' k = .inl (L.ac 1, n, .inr (.inl (vp_updL f i.toNatClampNeg x))) → Agr [k] G G' → GW L E N ad G' cs ss (pc + 1) lo st) : GW L E N ad G cs ss pc lo (.long x :: .int i :: .ref (ad k) :: st) :=
  G_last C k hk hG hin hdg (kk _ up_same Agr.up)
theorem G_lastN (C : gC L E cc own nL R) (k : Nat) (hk : k < N) {n : Nat} {f : Nat → Int64} {i : Int32} {x : Int64} (j : Nat) (hG : G k = .inl (L.ac 1, n, .inr (.inl f))) (hi : i = nI j) (hj : j < n) (hn : n < 2147483648) (hdg : decode cc pc = .ok (.lastore, 1)) (kk : ∀ G', G' k = .inl (L.ac 1, n, .inr (.inl (vp_updL f j x))) → Agr [k] G G' → GW L E N ad G' cs ss (pc + 1) lo st) : GW L E N ad G cs ss pc lo (.long x :: .int i :: .ref (ad k) :: st) :=
  G_lastp C k hk hG (ix_in hi hj hn) hdg (fun G' h a => kk G' (by rw [ix_cl hi hj hn] at h; exact h) a)
theorem G_astqp (C : gC L E cc own nL R) (k : Nat) (hk : k < N) {n : Nat} {f : Nat → Option Nat} {i : Int32} (t0 : Nat) {r : vw_C} (ht : (gTy L)[t0]? = some (L.ac t0, .object r.1)) (hG : G k = .inl (L.ac t0, n, .inr (.inr (.inr (.inr f))))) (j : Nat) (hj : j < N) {ci : Nat} {vs : List Value} (hv : G j = .inr (ci, vs)) (hc : vwCl[ci]? = some r) (hin : vp_in i n) (hdg : decode cc pc = .ok (.aastore, 1)) (kk : ∀ G', G' k = .inl (L.ac t0, n, .inr (.inr (.inr (.inr (va_up f i.toNatClampNeg (some (ad j))))))) → Agr [k] G G' → GW L E N ad G' cs ss (pc + 1) lo st) : GW L E N ad G cs ss pc lo (.ref (ad j) :: .int i :: .ref (ad k) :: st) :=
  G_astq C k hk t0 ht hG j hj hv hc hin hdg (kk _ up_same Agr.up)
theorem G_copyip (C : gC L E cc own nL R) {index : Nat} (hw1 : Cond.methodLink own index arraycopyName ∈ AW) (hw2 : Cond.native arraycopyName ∈ AW) (hw3 : Cond.static arraycopyName ∈ AW) (hw4 : Cond.initialized "java/lang/System" ∈ AW) (k0 k1 : Nat) (hk0 : k0 < N) (hk : k1 < N) {n0 n1 : Nat} {f g : Nat → Int32} (hG0 : G k0 = .inl (L.ac 0, n0, .inl f)) (hG1 : G k1 = .inl (L.ac 0, n1, .inl g)) {sp dp n : Int32} (h1 : ¬ sp < 0) (h2 : ¬ dp < 0) (h3 : ¬ n < 0) (h4 : sp.toNatClampNeg + n.toNatClampNeg ≤ n0) (h5 : dp.toNatClampNeg + n.toNatClampNeg ≤ n1) (hfr : 1 ≤ R.frames) (hlo : (st.map fun v => v.category).sum + (nativeFrameWords "java/lang/System" "arraycopy" 5 + 11) ≤ R.locals) (hdg : decode cc pc = .ok (.invokestatic index, 3)) (kk : ∀ G', G' k1 = .inl (L.ac 0, n1, .inl (va_cpy f g sp.toNatClampNeg dp.toNatClampNeg n.toNatClampNeg)) → Agr [k1] G G' → GW L E N ad G' cs ss (pc + 3) lo st) : GW L E N ad G cs ss pc lo (.int n :: .int dp :: .ref (ad k1) :: .int sp :: .ref (ad k0) :: st) :=
  G_copyi C hw1 hw2 hw3 hw4 k0 k1 hk0 hk hG0 hG1 h1 h2 h3 h4 h5 hfr hlo hdg (kk _ up_same Agr.up)
end GR2
