/-- the class and the model stand alike -/
def LI (L : GL) (ad : Nat → Nat) (G : Nat → va_E) : Prop := ∃ (sn : Int32) (t1 : Int32) (t2 : Int32) (t3 : Int32) (t4 : Int32) (t5 : Int32) (b1 : Int32) (b2 : Int32) (b3 : Int32) (b4 : Int64) (b5 : Int64) (s0 : Int32) (q1 : Int32) (q2 : Int32) (q3 : Int32) (q4 : Int64) (q5 : Int64) (xz : Nat → Int64) (l : Int32) (ml : Int32) (f : Nat → Int32) (l2 : Int32) (ml2 : Int32) (f2 : Nat → Int32) (l3 : Int32) (ml3 : Int32) (f3 : Nat → Int32) (hs : List HE) (len : Nat) (od : Int32) (ps : Int32) (rs : Int32) (cu : Int32) (tx : Nat → Int32) (ik : Int32) (th : Int32) (m : Int32) (q : Int32) (te : Int32) (fx : Int64) (fy : Int64) (nx : Int64) (ny : Int64) (ux : Int64) (uy : Int64) (us : Int32) (px : Int64) (py : Int64) (sp : Int32) (bg : Int32) (fo : Int32) (le : Int32) (fi : Int32) (re : Int32) (ca : Int32) (f42 : Nat → Int32) (f43 : Nat → Int32) (pf : Nat → Int32) (tm : Nat → Int32) (xx : Nat → Int64) (yy : Nat → Int64) (ov : Nat → Int64) (ow : Nat → UInt64), G 0 = .inr (8, [.ref (ad 1), .ref (ad 8), .ref (ad 9), .ref (ad 19), .ref (ad 22), .ref (ad 24), .ref (ad 26), .ref (ad 28), .ref (ad 38), .int sn]) ∧ G 1 = .inr (4, [.ref (ad 2), .ref (ad 3), .ref (ad 4), .ref (ad 5), .ref (ad 6)]) ∧ G 2 = .inr (6, [.int t1, .int t2, .int t3, .int t4, .int t5]) ∧ G 3 = .inl (L.ac 0, 61, .inl tPer) ∧ G 4 = .inl (L.ac 0, 61, .inl tUx) ∧ G 5 = .inl (L.ac 0, 61, .inl tUy) ∧ G 6 = .inl (L.ac 0, 61, .inl tGp) ∧ G 8 = .inr (1, [.int b1, .int b2, .int b3, .long b4, .long b5]) ∧ G 19 = .inr (2, [.ref (ad 1), .ref (ad 20), .ref (ad 21), .int s0]) ∧ G 20 = .inr (1, [.int q1, .int q2, .int q3, .long q4, .long q5]) ∧ G 21 = .inl (L.ac 1, 312, .inr (.inl xz)) ∧ G 22 = .inr (5, [.ref (ad 1), .ref (ad 23), .int l, .int ml]) ∧ G 23 = .inl (L.ac 0, 61, .inl f) ∧ G 24 = .inr (5, [.ref (ad 1), .ref (ad 25), .int l2, .int ml2]) ∧ G 25 = .inl (L.ac 0, 61, .inl f2) ∧ G 26 = .inr (5, [.ref (ad 1), .ref (ad 27), .int l3, .int ml3]) ∧ G 27 = .inl (L.ac 0, 61, .inl f3) ∧ G 38 = .inr (7, [.ref (ad 39), .int (nI len), .int od, .int ps, .int rs, .int cu]) ∧ G 39 = .inl (L.ac 2, 60, .inl tx) ∧ G 40 = .inr (9, [.ref (ad 41), .ref (ad 42), .ref (ad 43), .int ik, .ref (ad 44), .int (nI hs.length), .ref (ad 45), .int (nI len), .int th, .int m, .int q, .int te, .long fx, .long fy, .long nx, .long ny, .long ux, .long uy, .int us, .long px, .long py, .ref (ad 46), .ref (ad 47), .int sp, .int bg, .int fo, .int le, .int fi, .int re, .int ca]) ∧ G 41 = .inl (L.ac 0, 60, .inl (sv f ml)) ∧ G 42 = .inl (L.ac 0, 60, .inl f42) ∧ G 43 = .inl (L.ac 0, 60, .inl f43) ∧ G 44 = .inl (L.ac 0, 240, .inl pf) ∧ G 45 = .inl (L.ac 0, 60, .inl tm) ∧ G 46 = .inl (L.ac 1, 61, .inr (.inl xx)) ∧ G 47 = .inl (L.ac 1, 61, .inr (.inl yy)) ∧ G 48 = .inl (L.ac 1, 1, .inr (.inl ov)) ∧ G 49 = .inl (L.ac 3, 1, .inr (.inr (.inr (.inl ow)))) ∧ (HistP L ad G hs) ∧ (qQP L ad G) ∧ (okH f) ∧ (okL f l) ∧ (∀ e ∈ hs, okH e.1 ∧ okL e.1 e.2.1) ∧ (PastR pf hs) ∧ (hs.length ≤ 4) ∧ (len ≤ 60) ∧ (∀ j : Nat, narrow .char (.int (tx j)) = .int (tx j)) ∧ (∀ j, j < len → tx j = tm j) ∧ ((ik = 0 ∧ sn = 0) ∨ (ik = 1 ∧ sn = 1 ∧ f43 = sv f3 ml3 ∧ okH f3 ∧ okL f3 l3))
def LWx (L : GL) (E : GE) (b Ls : Nat) (xs : Nat → Int32) : Prop := va_X b Ls xs E.s E.s.heap ∧ b < E.s.heap.size ∧ L.b0 = E.s.heap.size
section SX
variable {L : GL} {E : GE} {cc : ByteArray} {own : String} {nL N cs ss pc b Ls : Nat} {R : Room} {ad : Nat → Nat} {G : Nat → va_E} {lo : List (Nat × Value)} {st : List Value} {xs : Nat → Int32}
theorem G_sld (C : gC L E cc own nL R) (hX : LWx L E b Ls xs) {j : Nat} (hj : j < Ls) (h31 : Ls < 2 ^ 31) (hdg : decode cc pc = .ok (.iaload, 1)) (kk : GW L E N ad G cs ss (pc + 1) lo (.int (xs j) :: st)) : GW L E N ad G cs ss pc lo (.int (nI j) :: .ref b :: st) :=
  fun hD H locs ls hl hP hS => va_sld C.1 C.2.1 hX.1 hX.2.1 (fun h => by have := hX.2.1; have e := hX.2.2; unfold gA at h; omega) hS (vp_in_nI hj h31) hdg (by rw [nI_clamp (by omega)]; exact kk hD H locs ls hl hP hS)
theorem G_slen (C : gC L E cc own nL R) (hX : LWx L E b Ls xs) (hdg : decode cc pc = .ok (.arraylength, 1)) (kk : GW L E N ad G cs ss (pc + 1) lo (.int (nI Ls) :: st)) : GW L E N ad G cs ss pc lo (.ref b :: st) :=
  fun hD H locs ls hl hP hS => va_slen C.1 C.2.1 hX.1 hX.2.1 (fun h => by have := hX.2.1; have e := hX.2.2; unfold gA at h; omega) hS hdg (kk hD H locs ls hl hP hS)
end SX
theorem sint_inj {a b : Int32} (h : some (Value.int a) = some (Value.int b)) : a = b := by injection h with h; injection h
theorem slong_inj {a b : Int64} (h : some (Value.long a) = some (Value.long b)) : a = b := by injection h with h; injection h
theorem sflo_inj {a b : UInt32} (h : some (Value.float a) = some (Value.float b)) : a = b := by injection h with h; injection h
theorem hp_good {hs : List HE} {f : Nat → Int32} {l ml : Int32} (h : ∀ e ∈ hs, okH e.1 ∧ okL e.1 e.2.1) (hk : okH f) (hL : okL f l) : ∀ e ∈ hpush hs (f, l, ml), okH e.1 ∧ okL e.1 e.2.1 := by
  intro e he
  unfold hpush at he
  split at he
  · rcases List.mem_append.mp he with z | z
    · exact h e z
    · rw [List.mem_singleton] at z; subst z; exact ⟨hk, hL⟩
  · rcases List.mem_append.mp he with z | z
    · exact h e (List.mem_of_mem_drop z)
    · rw [List.mem_singleton] at z; subst z; exact ⟨hk, hL⟩
theorem hp_len {hs : List HE} {e : HE} (h : hs.length ≤ 4) : (hpush hs e).length ≤ 4 := by
  unfold hpush
  split
  · rw [List.length_append]; show hs.length + 1 ≤ 4; omega
  · rw [List.length_append, List.length_drop]; show hs.length - 1 + 1 ≤ 4; omega
/-! links -/
theorem co_l {f : Nat → Int32} {l ml : Int32} {d : Nat} (h60 : d ≤ 60) : coF f l ml 108 (nI d) = (upd f d 0, l + 1, ml) := by rw [coF, if_pos rfl, setH_d f _ (by omega)]
theorem co_t {f : Nat → Int32} {l ml : Int32} {d : Nat} (h60 : d ≤ 60) : coF f l ml 116 (nI d) = (upd f d (-1), l - 1, ml) := by rw [coF, if_neg (by decide), if_pos rfl, setH_d f _ (by omega)]
theorem co_m {f : Nat → Int32} {l ml : Int32} {d h : Nat} (h60 : d ≤ 60) (hf : f d = nI h) : coF f l ml 109 (nI d) = (upd f d (nI (h + 1)), l, ml + 1) := by
  rw [coF, if_neg (by decide), if_neg (by decide), if_pos rfl, setH_d f _ (by omega), hOf_d f (by omega), hf, show nI h + 1 = nI (h + 1) from nI_add h 1]
theorem co_b {f : Nat → Int32} {l ml : Int32} {d k : Nat} (h60 : d ≤ 60) (hf : f d = nI (k + 1)) : coF f l ml 98 (nI d) = (upd f d (nI k), l, ml) := by
  rw [coF, if_neg (by decide), if_neg (by decide), if_neg (by decide), if_pos rfl, setH_d f _ (by omega), hOf_d f (by omega), hf, nI_pred k]
theorem upd_d {f : Nat → Int32} {d : Nat} {v : Int32} : upd f d v d = v := if_pos rfl
theorem tab_1 {d : Nat} (h60 : d ≤ 60) : tabF tPer (nI d) = nI (pern d) ∧ tabF tUx (nI d) = tUx d ∧ tabF tUy (nI d) = tUy d := ⟨tab_d _ (by omega), tab_d _ (by omega), tab_d _ (by omega)⟩
theorem sq_y {d : Nat} (h2 : 2 ≤ d) (h60 : d ≤ 60) : sqF (nI d) = 0 ↔ pern d ≠ 0 := sq_d (by omega)
theorem has_i {f : Nat → Int32} {d : Nat} (hk : okH f) (h2 : 2 ≤ d) (h60 : d ≤ 60) : hasF f (nI d) = if f d < 0 then 0 else 1 := by
  have h := has_lt hk h2 h60
  by_cases z : f d < 0
  · rw [if_pos z, h.mpr z]
  · rw [if_neg z]
    have e : ¬ hasF f (nI d) = 0 := fun y => z (h.mp y)
    rw [hasF] at e ⊢
    split
    · rename_i y; rw [if_pos y] at e; exact absurd rfl e
    · rfl
theorem has_h {f : Nat → Int32} {d : Nat} (hk : okH f) (h2 : 2 ≤ d) (h60 : d ≤ 60) (z : ¬ f d < 0) : pern d ≠ 0 ∧ ∃ h, h ≤ gpn d ∧ f d = nI h := has_d hk h2 h60 (fun e => z (by rw [e]; decide))
theorem f_nn {f : Nat → Int32} {d h : Nat} (hf : f d = nI h) (hh : h < 1000) : ¬ f d < 0 := by rw [hf]; exact nI_pos (by omega)
theorem nI_inj {a b : Nat} (ha : a < 1000) (hb : b < 1000) (h : nI a = nI b) : a = b := (nI_eq (by omega) (by omega)).mp h
