/-- what s holds: the powers by number, one more each, and the millings -/
def sv (f : Nat → Int32) (ml : Int32) : Nat → Int32 := fun j => if j = 59 then ml else f (j + 2) + 1
theorem nI_m2 {d : Nat} (h : 2 ≤ d) : nI (0 + d) - 2 = nI (d - 2) := by
  obtain ⟨k, rfl⟩ : ∃ k, d = k + 2 := ⟨d - 2, by omega⟩
  rw [Nat.zero_add, show nI (k + 2) = nI k + nI 2 from (nI_add k 2).symm, Nat.add_sub_cancel]
  exact Int32.add_sub_cancel _ _
theorem sv_d (f : Nat → Int32) (ml : Int32) {d : Nat} (h2 : 2 ≤ d) (h60 : d ≤ 60) : sv f ml (d - 2) - 1 = f d := by
  unfold sv
  rw [if_neg (by omega), show d - 2 + 2 = d by omega]
  exact Int32.add_sub_cancel _ _
theorem sv_u {f : Nat → Int32} {ml v : Int32} {d : Nat} (h2 : 2 ≤ d) (h60 : d ≤ 60) : ∀ j, j < 60 → upd (sv f ml) (d - 2) (v + 1) j = sv (upd f d v) ml j := by
  intro j hj
  by_cases e : j = d - 2
  · subst e
    have : ¬ d - 2 = 59 := by omega
    simp [upd, sv, this, show d - 2 + 2 = d by omega]
  · by_cases e2 : j = 59
    · subst e2; simp [upd, sv, e]
    · have : ¬ j + 2 = d := by omega
      simp [upd, sv, e, e2, this]
theorem sv_m {f : Nat → Int32} {ml : Int32} : ∀ j, j < 60 → upd (sv f ml) 59 (sv f ml 59 + 1) j = sv f (ml + 1) j := by
  intro j hj
  by_cases e : j = 59
  · subst e; simp [upd, sv]
  · simp [upd, sv, e]
/-- how many stones: the numbers 2 to j + 1 are looked at -/
def manyF (f : Nat → Int32) : Nat → Int32
  | 0 => 0
  | j + 1 => manyF f j + (if f (j + 2) < 0 then 0 else 1)
def rsF (f : Nat → Int32) (d : Nat) : Int32 := if pern d = 0 then 1 else if f d < 0 then (if manyF f 59 = 8 then 3 else 0) else 2
/-- k cells copied -/
def cpK (f1 : Nat → Int32) (a : Nat) (f2 : Nat → Int32) (b k : Nat) : Nat → Int32 := fun j => if b ≤ j ∧ j < b + k then f1 (a + (j - b)) else f2 j
theorem cpK_s {f1 f2 : Nat → Int32} {a b k : Nat} : ∀ j, upd (cpK f1 a f2 b k) (b + k) (f1 (a + k)) j = cpK f1 a f2 b (k + 1) j := by
  intro j
  by_cases e : j = b + k
  · subst e; simp [upd, cpK]
  · by_cases h : b ≤ j ∧ j < b + k
    · have h2 : b ≤ j ∧ j < b + (k + 1) := ⟨h.1, by omega⟩
      simp only [upd, cpK, if_neg e, if_pos h, if_pos h2]
    · have h2 : ¬ (b ≤ j ∧ j < b + (k + 1)) := fun z => h ⟨z.1, by omega⟩
      simp only [upd, cpK, if_neg e, if_neg h, if_neg h2]
theorem cpK_0 {f1 f2 : Nat → Int32} {a b : Nat} : ∀ j, f2 j = cpK f1 a f2 b 0 j := by
  intro j
  have h : ¬ (b ≤ j ∧ j < b + 0) := fun z => by omega
  simp only [cpK, if_neg h]
theorem cpK_all {f1 f2 : Nat → Int32} : ∀ j, j < 60 → cpK f1 0 f2 0 60 j = f1 j := by
  intro j hj
  have h : 0 ≤ j ∧ j < 0 + 60 := ⟨Nat.zero_le _, by omega⟩
  simp only [cpK, if_pos h, Nat.sub_zero, Nat.zero_add]
abbrev rm_X9_stand : Room := ({ frames := 0, cells := 0, slots := 0, locals := 0 } : Room)
set_option maxRecDepth 100000 in
set_option maxHeartbeats 4000000 in
theorem c_X9_stand {L : GL} {ad : Nat → Nat} {G : Nat → va_E} {d : Nat} {ik kn ln th m q te us sp bg fo le fi re ca : Int32} {fx fy nx ny ux uy px py : Int64} {ml : Int32} {f : Nat → Int32}  (g40 : G 40 = .inr (9, [.ref (ad 41), .ref (ad 42), .ref (ad 43), .int ik, .ref (ad 44), .int kn, .ref (ad 45), .int ln, .int th, .int m, .int q, .int te, .long fx, .long fy, .long nx, .long ny, .long ux, .long uy, .int us, .long px, .long py, .ref (ad 46), .ref (ad 47), .int sp, .int bg, .int fo, .int le, .int fi, .int re, .int ca])) (g41 : G 41 = .inl (L.ac 0, 60, .inl (sv f ml))) (h2 : 2 ≤ d) (h60 : d ≤ 60) : GM L yX9_stand cX9_stand 2 ((some .int)) rm_X9_stand 50 ad G [.ref (ad 40), .int (nI d)] (fun vo G' => vo = some (.int (f d)) ∧ G = G') := by
  refine GM.of (own := RX9) (lo := [(0, .ref (ad 40)), (1, .int (nI d))]) (by decide +kernel) rfl rfl (Nat.le_of_ble_eq_true rfl) (fun E C hr => ?_)
  refine G_aload_n C 0 dX9_stand_0 rfl rfl ?_
  refine G_get C 40 (by decide) g40 rfl inA9 0 (by decide) rfl kf_X9_7 rfl dX9_stand_1 ?_
  refine G_iconst C (v := 0) dX9_stand_4 (by decide) ?_
  refine G_iload_n C 1 dX9_stand_5 rfl rfl ?_
  refine G_iadd C dX9_stand_6 ?_
  refine GW.topr (cI_add (a := 0) (b := d) rfl rfl) ?_
  refine G_iconst C (v := 2) dX9_stand_7 (by decide) ?_
  refine G_isub C dX9_stand_8 ?_
  refine GW.topr (y := nI (d - 2)) (nI_m2 h2) ?_
  refine G_ialdN C 41 (by decide) (d - 2) g41 rfl (by omega) (by omega) dX9_stand_9 ?_
  refine G_iconst C (v := 1) dX9_stand_10 (by decide) ?_
  refine G_isub C dX9_stand_11 ?_
  exact G_zret C hr rfl dX9_stand_12 ⟨(by rw [sv_d f ml h2 h60]), rfl⟩

abbrev rm_X9_puts : Room := ({ frames := 0, cells := 0, slots := 0, locals := 0 } : Room)
set_option maxRecDepth 100000 in
set_option maxHeartbeats 4000000 in
theorem c_X9_puts {L : GL} {ad : Nat → Nat} {G : Nat → va_E} {d : Nat} {v : Int32} {ik kn ln th m q te us sp bg fo le fi re ca : Int32} {fx fy nx ny ux uy px py : Int64} {ml : Int32} {f : Nat → Int32}  (g40 : G 40 = .inr (9, [.ref (ad 41), .ref (ad 42), .ref (ad 43), .int ik, .ref (ad 44), .int kn, .ref (ad 45), .int ln, .int th, .int m, .int q, .int te, .long fx, .long fy, .long nx, .long ny, .long ux, .long uy, .int us, .long px, .long py, .ref (ad 46), .ref (ad 47), .int sp, .int bg, .int fo, .int le, .int fi, .int re, .int ca])) (g41 : G 41 = .inl (L.ac 0, 60, .inl (sv f ml))) (h2 : 2 ≤ d) (h60 : d ≤ 60) : GM L yX9_puts cX9_puts 3 (none) rm_X9_puts 50 ad G [.ref (ad 40), .int (nI d), .int v] (fun vo G' => vo = none ∧ G' 41 = .inl (L.ac 0, 60, .inl (sv (upd f d v) ml)) ∧ Agr [41] G G') := by
  refine GM.of (own := RX9) (lo := [(0, .ref (ad 40)), (1, .int (nI d)), (2, .int v)]) (by decide +kernel) rfl rfl (Nat.le_of_ble_eq_true rfl) (fun E C hr => ?_)
  refine G_aload_n C 0 dX9_puts_0 rfl rfl ?_
  refine G_get C 40 (by decide) g40 rfl inA9 0 (by decide) rfl kf_X9_7 rfl dX9_puts_1 ?_
  refine G_iconst C (v := 0) dX9_puts_4 (by decide) ?_
  refine G_iload_n C 1 dX9_puts_5 rfl rfl ?_
  refine G_iadd C dX9_puts_6 ?_
  refine GW.topr (cI_add (a := 0) (b := d) rfl rfl) ?_
  refine G_iconst C (v := 2) dX9_puts_7 (by decide) ?_
  refine G_isub C dX9_puts_8 ?_
  refine GW.topr (y := nI (d - 2)) (nI_m2 h2) ?_
  refine G_iload_n C 2 dX9_puts_9 rfl rfl ?_
  refine G_iconst C (v := 1) dX9_puts_10 (by decide) ?_
  refine G_iadd C dX9_puts_11 ?_
  refine G_iastN C 41 (by decide) (d - 2) g41 rfl (by omega) (by omega) dX9_puts_12 (fun gg1 hh2 aa3 => ?_)
  have AA4 : Agr [41] G gg1 := aa3.wk (by simp)
  refine GW.ren 41 (by decide) (t0 := 0) (sv (upd f d v) ml) hh2 (sv_u h2 h60) (fun gg5 hh6 aa7 => ?_)
  have AA8 : Agr [41] G gg5 := AA4.tr aa7 (by simp) (by simp)
  exact G_vret C hr dX9_puts_13 ⟨rfl, hh6, AA8⟩

abbrev rm_X9_many : Room := ({ frames := 1, cells := 0, slots := 0, locals := 21 } : Room)
set_option maxRecDepth 100000 in
set_option maxHeartbeats 4000000 in
theorem c_X9_many {L : GL} {ad : Nat → Nat} {G : Nat → va_E} {ik kn ln th m q te us sp bg fo le fi re ca : Int32} {fx fy nx ny ux uy px py : Int64} {ml : Int32} {f : Nat → Int32}  (g40 : G 40 = .inr (9, [.ref (ad 41), .ref (ad 42), .ref (ad 43), .int ik, .ref (ad 44), .int kn, .ref (ad 45), .int ln, .int th, .int m, .int q, .int te, .long fx, .long fy, .long nx, .long ny, .long ux, .long uy, .int us, .long px, .long py, .ref (ad 46), .ref (ad 47), .int sp, .int bg, .int fo, .int le, .int fi, .int re, .int ca])) (g41 : G 41 = .inl (L.ac 0, 60, .inl (sv f ml)))  : GM L yX9_many cX9_many 3 ((some .int)) rm_X9_many 50 ad G [.ref (ad 40)] (fun vo G' => vo = some (.int (manyF f 59)) ∧ G = G') := by
  refine GM.of (own := RX9) (lo := [(0, .ref (ad 40))]) (by decide +kernel) rfl rfl (Nat.le_of_ble_eq_true rfl) (fun E C hr => ?_)
  refine G_iconst C (v := 0) dX9_many_0 (by decide) ?_
  refine G_istore_n C 1 (lo' := [(1, .int 0), (0, .ref (ad 40))]) dX9_many_1 rfl (by decide) rfl ?_
  refine G_iconst C (v := 2) dX9_many_2 (by decide) ?_
  refine G_istore_n C 2 (lo' := [(2, .int 2), (1, .int 0), (0, .ref (ad 40))]) dX9_many_3 rfl (by decide) rfl ?_
  have key4 : ∀ (n : Nat) (j : Nat)  (hn : 59 - j < n) (hj : j ≤ 59), GW L E 50 ad G 0 0 4 [(2, .int (nI (j + 2))), (1, .int (manyF f j)), (0, .ref (ad 40))] [] := by
    intro n
    induction n with
    | zero =>
      intro j  hn hj
      exact absurd hn (Nat.not_lt_zero _)
    | succ n ih =>
      intro j  hn hj
      refine G_iload_n C 2 dX9_many_4 rfl rfl ?_
      refine G_bipush C (v := 60) dX9_many_5 (by decide) ?_
      refine G_icmp_gt C 32 dX9_many_7 (by decide) (fun c7 => ?_) (fun c7 => ?_)
      · have c7n : 60 < (j + 2) := (cI_lt (a := 60) (b := (j + 2)) rfl rfl (by omega) (by omega)).mp c7
        refine G_iload_n C 1 dX9_many_32 rfl rfl ?_
        exact G_zret C hr rfl dX9_many_33 ⟨(by rw [show 59 = j by omega]), rfl⟩
      · have c7n : ¬ 60 < (j + 2) := fun z => c7 ((cI_lt (a := 60) (b := (j + 2)) rfl rfl (by omega) (by omega)).mpr z)
        refine G_iload_n C 1 dX9_many_10 rfl rfl ?_
        refine G_aload_n C 0 dX9_many_11 rfl rfl ?_
        refine G_iload_n C 2 dX9_many_12 rfl rfl ?_
        refine G_callV C (As := [.int (nI (j + 2))]) (rest := [.int (manyF f j)]) (c_X9_stand g40 g41 (by omega) (by omega)) ca_X9_stand km_X9_89 (by decide) g40 rfl rfl rfl rfl (by decide) (Nat.le_of_ble_eq_true rfl) (by decide) dX9_many_13 (fun vv1 gg2 qq3 => ?_)
        obtain ⟨rfl, rfl⟩ := qq3
        refine G_if_lt C 23 dX9_many_16 (by decide) (fun c16 => ?_) (fun c16 => ?_)
        · refine G_iconst C (v := 0) dX9_many_23 (by decide) ?_
          refine G_iadd C dX9_many_24 ?_
          refine G_istore_n C 1 (lo' := [(1, .int ((manyF f j) + 0)), (2, .int (nI (j + 2))), (0, .ref (ad 40))]) dX9_many_25 rfl (by decide) rfl ?_
          refine GW.loe (lo' := [(1, .int (manyF f (j + 1))), (2, .int (nI (j + 2))), (0, .ref (ad 40))]) (by rw [manyF, if_pos c16]) ?_
          refine G_iinc C (v := nI ((j + 2) + 1)) (lo' := [(2, .int (nI ((j + 2) + 1))), (1, .int (manyF f (j + 1))), (0, .ref (ad 40))]) dX9_many_26 rfl (nI_add _ _) (by decide) rfl ?_
          refine G_goto C 4 dX9_many_29 (by decide) ?_
          exact ih (j + 1) (by omega) (by omega)
        · refine G_iconst C (v := 1) dX9_many_19 (by decide) ?_
          refine G_goto C 24 dX9_many_20 (by decide) ?_
          refine G_iadd C dX9_many_24 ?_
          refine G_istore_n C 1 (lo' := [(1, .int ((manyF f j) + 1)), (2, .int (nI (j + 2))), (0, .ref (ad 40))]) dX9_many_25 rfl (by decide) rfl ?_
          refine GW.loe (lo' := [(1, .int (manyF f (j + 1))), (2, .int (nI (j + 2))), (0, .ref (ad 40))]) (by rw [manyF, if_neg c16]) ?_
          refine G_iinc C (v := nI ((j + 2) + 1)) (lo' := [(2, .int (nI ((j + 2) + 1))), (1, .int (manyF f (j + 1))), (0, .ref (ad 40))]) dX9_many_26 rfl (nI_add _ _) (by decide) rfl ?_
          refine G_goto C 4 dX9_many_29 (by decide) ?_
          exact ih (j + 1) (by omega) (by omega)
  exact key4 60 0 (by omega) (by omega)

theorem it2 {p : Prop} [Decidable p] (h : (if p then (1 : Int32) else 0) = 0) : ¬ p := fun z => absurd ((if_pos z).symm.trans h) (by decide)
theorem it3 {p : Prop} [Decidable p] (h : ¬ (if p then (1 : Int32) else 0) = 0) : p := Classical.byContradiction fun z => h (if_neg z)
abbrev rm_X9_reason : Room := ({ frames := 2, cells := 0, slots := 0, locals := 43 } : Room)
set_option maxRecDepth 100000 in
set_option maxHeartbeats 4000000 in
theorem c_X9_reason {L : GL} {ad : Nat → Nat} {G : Nat → va_E} {d : Nat} {ik kn ln th m q te us sp bg fo le fi re ca : Int32} {fx fy nx ny ux uy px py : Int64} {ml : Int32} {f : Nat → Int32}  (g40 : G 40 = .inr (9, [.ref (ad 41), .ref (ad 42), .ref (ad 43), .int ik, .ref (ad 44), .int kn, .ref (ad 45), .int ln, .int th, .int m, .int q, .int te, .long fx, .long fy, .long nx, .long ny, .long ux, .long uy, .int us, .long px, .long py, .ref (ad 46), .ref (ad 47), .int sp, .int bg, .int fo, .int le, .int fi, .int re, .int ca])) (g41 : G 41 = .inl (L.ac 0, 60, .inl (sv f ml))) (h2 : 2 ≤ d) (h60 : d ≤ 60) : GM L yX9_reason cX9_reason 2 ((some .int)) rm_X9_reason 50 ad G [.ref (ad 40), .int (nI d)] (fun vo G' => vo = some (.int (rsF f d)) ∧ G = G') := by
  refine GM.of (own := RX9) (lo := [(0, .ref (ad 40)), (1, .int (nI d))]) (by decide +kernel) rfl rfl (Nat.le_of_ble_eq_true rfl) (fun E C hr => ?_)
  refine G_iload_n C 1 dX9_reason_0 rfl rfl ?_
  refine G_callS C (As := [.int (nI d)]) (rest := []) (c_X9_isSquare h2 h60) ca_X9_isSquare km_X9_119 rfl rfl (by decide) (Nat.le_of_ble_eq_true rfl) (by decide) dX9_reason_1 (fun vv1 gg2 qq3 => ?_)
  obtain ⟨rfl, rfl⟩ := qq3
  refine G_if_eq C 11 dX9_reason_4 (by decide) (fun c4 => ?_) (fun c4 => ?_)
  · refine G_aload_n C 0 dX9_reason_11 rfl rfl ?_
    refine G_iload_n C 1 dX9_reason_12 rfl rfl ?_
    refine G_callV C (As := [.int (nI d)]) (rest := []) (c_X9_stand g40 g41 h2 h60) ca_X9_stand km_X9_89 (by decide) g40 rfl rfl rfl rfl (by decide) (Nat.le_of_ble_eq_true rfl) (by decide) dX9_reason_13 (fun vv4 gg5 qq6 => ?_)
    obtain ⟨rfl, rfl⟩ := qq6
    refine G_if_lt C 23 dX9_reason_16 (by decide) (fun c16 => ?_) (fun c16 => ?_)
    · refine G_aload_n C 0 dX9_reason_23 rfl rfl ?_
      refine G_callV C (As := []) (rest := []) (c_X9_many g40 g41) ca_X9_many km_X9_122 (by decide) g40 rfl rfl rfl rfl (by decide) (Nat.le_of_ble_eq_true rfl) (by decide) dX9_reason_24 (fun vv7 gg8 qq9 => ?_)
      obtain ⟨rfl, rfl⟩ := qq9
      refine G_bipush C (v := 8) dX9_reason_27 (by decide) ?_
      refine G_icmp_ne C 36 dX9_reason_29 (by decide) (fun c29 => ?_) (fun c29 => ?_)
      · refine G_iconst C (v := 0) dX9_reason_36 (by decide) ?_
        exact G_zret C hr rfl dX9_reason_37 ⟨(by rw [rsF, if_neg (it2 c4), if_pos c16, if_neg c29]), rfl⟩
      · refine G_iconst C (v := 3) dX9_reason_32 (by decide) ?_
        refine G_goto C 37 dX9_reason_33 (by decide) ?_
        exact G_zret C hr rfl dX9_reason_37 ⟨(by rw [rsF, if_neg (it2 c4), if_pos c16, if_pos c29]), rfl⟩
    · refine G_iconst C (v := 2) dX9_reason_19 (by decide) ?_
      refine G_goto C 37 dX9_reason_20 (by decide) ?_
      exact G_zret C hr rfl dX9_reason_37 ⟨(by rw [rsF, if_neg (it2 c4), if_neg c16]), rfl⟩
  · refine G_iconst C (v := 1) dX9_reason_7 (by decide) ?_
    refine G_goto C 37 dX9_reason_8 (by decide) ?_
    exact G_zret C hr rfl dX9_reason_37 ⟨(by rw [rsF, if_pos (it3 c4)]), rfl⟩

abbrev rm_X9_copies : Room := ({ frames := 0, cells := 0, slots := 0, locals := 0 } : Room)
set_option maxRecDepth 100000 in
set_option maxHeartbeats 4000000 in
theorem c_X9_copies {L : GL} {ad : Nat → Nat} {G : Nat → va_E} {a b na nb at1 by1 : Nat} {f1 f2 : Nat → Int32} (lt_a : a < 50) (lt_b : b < 50) (ga : G a = .inl (L.ac 0, na, .inl f1)) (gb : G b = .inl (L.ac 0, nb, .inl f2)) (hab : a ≠ b) (h1 : at1 + 60 ≤ na) (h2 : by1 + 60 ≤ nb) (h3 : na ≤ 300) (h4 : nb ≤ 300) : GM L yX9_copies cX9_copies 5 (none) rm_X9_copies 50 ad G [.ref (ad a), .int (nI at1), .ref (ad b), .int (nI by1)] (fun vo G' => vo = none ∧ G' b = .inl (L.ac 0, nb, .inl (cpK f1 at1 f2 by1 60)) ∧ Agr [b] G G') := by
  refine GM.of (own := RX9) (lo := [(0, .ref (ad a)), (1, .int (nI at1)), (2, .ref (ad b)), (3, .int (nI by1))]) (by decide +kernel) rfl rfl (Nat.le_of_ble_eq_true rfl) (fun E C hr => ?_)
  refine G_iconst C (v := 0) dX9_copies_0 (by decide) ?_
  refine GW.ren b lt_b (t0 := 0) (cpK f1 at1 f2 by1 0) gb (fun j _ => cpK_0 j) (fun gg1 hh2 aa3 => ?_)
  have AA4 : Agr [b] G gg1 := aa3.wk (by simp)
  refine G_istore C (lo' := [(4, .int 0), (0, .ref (ad a)), (1, .int (nI at1)), (2, .ref (ad b)), (3, .int (nI by1))]) dX9_copies_1 (by decide) rfl ?_
  have key3 : ∀ (n : Nat) (i : Nat) (G1 : Nat → va_E) (hf3_b : G1 b = .inl (L.ac 0, nb, .inl (cpK f1 at1 f2 by1 i))) (ha3 : Agr [b] G G1) (hn : 60 - i < n) (hi : i ≤ 60), GW L E 50 ad G1 0 0 3 [(4, .int (nI i)), (0, .ref (ad a)), (1, .int (nI at1)), (2, .ref (ad b)), (3, .int (nI by1))] [] := by
    intro n
    induction n with
    | zero =>
      intro i G1 hf3_b ha3 hn hi
      exact absurd hn (Nat.not_lt_zero _)
    | succ n ih =>
      intro i G1 hf3_b ha3 hn hi
      refine G_iload C dX9_copies_3 rfl ?_
      refine G_bipush C (v := 60) dX9_copies_5 (by decide) ?_
      refine G_icmp_ge C 28 dX9_copies_7 (by decide) (fun c7 => ?_) (fun c7 => ?_)
      · have c7n : 60 ≤ i := (cI_le (a := 60) (b := i) rfl rfl (by omega) (by omega)).mp c7
        exact G_vret C hr dX9_copies_28 ⟨rfl, (by rw [hf3_b, show i = 60 by omega]), ha3⟩
      · have c7n : ¬ 60 ≤ i := fun z => c7 ((cI_le (a := 60) (b := i) rfl rfl (by omega) (by omega)).mpr z)
        refine G_aload_n C 2 dX9_copies_10 rfl rfl ?_
        refine G_iload_n C 3 dX9_copies_11 rfl rfl ?_
        refine G_iload C dX9_copies_12 rfl ?_
        refine G_iadd C dX9_copies_14 ?_
        refine GW.topr (cI_add (a := by1) (b := i) rfl rfl) ?_
        refine G_aload_n C 0 dX9_copies_15 rfl rfl ?_
        refine G_iload_n C 1 dX9_copies_16 rfl rfl ?_
        refine G_iload C dX9_copies_17 rfl ?_
        refine G_iadd C dX9_copies_19 ?_
        refine GW.topr (cI_add (a := at1) (b := i) rfl rfl) ?_
        refine G_ialdN C a lt_a (at1 + i) ((ha3 a (by simp [hab])).trans ga) rfl (by omega) (by omega) dX9_copies_20 ?_
        refine G_iastN C b lt_b (by1 + i) hf3_b rfl (by omega) (by omega) dX9_copies_21 (fun gg5 hh6 aa7 => ?_)
        have AA8 : Agr [b] G gg5 := ha3.tr aa7 (by simp) (by simp)
        refine GW.ren b lt_b (t0 := 0) (cpK f1 at1 f2 by1 (i + 1)) hh6 (fun j _ => cpK_s j) (fun gg9 hh10 aa11 => ?_)
        have AA12 : Agr [b] G gg9 := AA8.tr aa11 (by simp) (by simp)
        refine G_iinc C (v := nI (i + 1)) (lo' := [(4, .int (nI (i + 1))), (0, .ref (ad a)), (1, .int (nI at1)), (2, .ref (ad b)), (3, .int (nI by1))]) dX9_copies_22 rfl (nI_add _ _) (by decide) rfl ?_
        refine G_goto C 3 dX9_copies_25 (by decide) ?_
        exact ih (i + 1) gg9 hh10 AA12 (by omega) (by omega)
  exact key3 61 0 gg1 hh2 AA4 (by omega) (Nat.zero_le _)

abbrev rm_X9_begins : Room := ({ frames := 1, cells := 0, slots := 0, locals := 24 } : Room)
set_option maxRecDepth 100000 in
set_option maxHeartbeats 4000000 in
theorem c_X9_begins {L : GL} {ad : Nat → Nat} {G : Nat → va_E} {ik kn ln th m q te us sp bg fo le fi re ca : Int32} {fx fy nx ny ux uy px py : Int64} {ml : Int32} {f : Nat → Int32} {f2 : Nat → Int32}  (g40 : G 40 = .inr (9, [.ref (ad 41), .ref (ad 42), .ref (ad 43), .int ik, .ref (ad 44), .int kn, .ref (ad 45), .int ln, .int th, .int m, .int q, .int te, .long fx, .long fy, .long nx, .long ny, .long ux, .long uy, .int us, .long px, .long py, .ref (ad 46), .ref (ad 47), .int sp, .int bg, .int fo, .int le, .int fi, .int re, .int ca])) (g41 : G 41 = .inl (L.ac 0, 60, .inl (sv f ml))) (g42 : G 42 = .inl (L.ac 0, 60, .inl f2))  : GM L yX9_begins cX9_begins 1 (none) rm_X9_begins 50 ad G [.ref (ad 40)] (fun vo G' => vo = none ∧ G' 40 = .inr (9, [.ref (ad 41), .ref (ad 42), .ref (ad 43), .int ik, .ref (ad 44), .int kn, .ref (ad 45), .int ln, .int 0, .int m, .int q, .int te, .long fx, .long fy, .long nx, .long ny, .long ux, .long uy, .int us, .long px, .long py, .ref (ad 46), .ref (ad 47), .int sp, .int bg, .int fo, .int le, .int fi, .int re, .int ca]) ∧ G' 42 = .inl (L.ac 0, 60, .inl (sv f ml)) ∧ Agr [40, 42] G G') := by
  refine GM.of (own := RX9) (lo := [(0, .ref (ad 40))]) (by decide +kernel) rfl rfl (Nat.le_of_ble_eq_true rfl) (fun E C hr => ?_)
  refine G_aload_n C 0 dX9_begins_0 rfl rfl ?_
  refine G_iconst C (v := 0) dX9_begins_1 (by decide) ?_
  refine G_putp C 40 (by decide) g40 rfl inA9 tyX9_ok nmX9 8 (by decide) rfl kf_X9_32 rfl rfl rfl (fs' := [.ref (ad 41), .ref (ad 42), .ref (ad 43), .int ik, .ref (ad 44), .int kn, .ref (ad 45), .int ln, .int 0, .int m, .int q, .int te, .long fx, .long fy, .long nx, .long ny, .long ux, .long uy, .int us, .long px, .long py, .ref (ad 46), .ref (ad 47), .int sp, .int bg, .int fo, .int le, .int fi, .int re, .int ca]) (Nat.le_of_ble_eq_true rfl) rfl dX9_begins_2 (fun gg1 hh2 aa3 => ?_)
  have AA4 : Agr [40] G gg1 := aa3.wk (by simp)
  refine G_aload_n C 0 dX9_begins_5 rfl rfl ?_
  refine G_get C 40 (by decide) hh2 rfl inA9 0 (by decide) rfl kf_X9_7 rfl dX9_begins_6 ?_
  refine G_iconst C (v := 0) dX9_begins_9 (by decide) ?_
  refine G_aload_n C 0 dX9_begins_10 rfl rfl ?_
  refine G_get C 40 (by decide) hh2 rfl inA9 1 (by decide) rfl kf_X9_13 rfl dX9_begins_11 ?_
  refine G_iconst C (v := 0) dX9_begins_14 (by decide) ?_
  refine G_callS C (As := [.ref (ad 41), .int 0, .ref (ad 42), .int 0]) (rest := []) (c_X9_copies (at1 := 0) (by1 := 0) (by decide) (by decide) ((aa3 41 (by decide)).trans g41) ((aa3 42 (by decide)).trans g42) (by decide) (by omega) (by omega) (by omega) (by omega)) ca_X9_copies km_X9_36 rfl rfl (by decide) (Nat.le_of_ble_eq_true rfl) (by decide) dX9_begins_15 (fun vv5 gg6 qq7 => ?_)
  obtain ⟨rfl, hh8, aa9⟩ := qq7
  have AA10 : Agr [40, 42] G gg6 := AA4.tr aa9 (by simp) (by simp)
  refine GW.ren 42 (by decide) (t0 := 0) (sv f ml) hh8 (cpK_all) (fun gg11 hh12 aa13 => ?_)
  have AA14 : Agr [40, 42] G gg11 := AA10.tr aa13 (by simp) (by simp)
  exact G_vret C hr dX9_begins_18 ⟨rfl, ((aa13 40 (by decide)).trans ((aa9 40 (by decide)).trans hh2)), hh12, AA14⟩

abbrev rm_X9_fails : Room := ({ frames := 0, cells := 0, slots := 0, locals := 0 } : Room)
set_option maxRecDepth 100000 in
set_option maxHeartbeats 4000000 in
theorem c_X9_fails {L : GL} {ad : Nat → Nat} {G : Nat → va_E} {n : Int32} {ik kn ln th m q te us sp bg fo le fi re ca : Int32} {fx fy nx ny ux uy px py : Int64}  (g40 : G 40 = .inr (9, [.ref (ad 41), .ref (ad 42), .ref (ad 43), .int ik, .ref (ad 44), .int kn, .ref (ad 45), .int ln, .int th, .int m, .int q, .int te, .long fx, .long fy, .long nx, .long ny, .long ux, .long uy, .int us, .long px, .long py, .ref (ad 46), .ref (ad 47), .int sp, .int bg, .int fo, .int le, .int fi, .int re, .int ca]))  : GM L yX9_fails cX9_fails 2 ((some .int)) rm_X9_fails 50 ad G [.ref (ad 40), .int n] (fun vo G' => vo = some (.int 0) ∧ G' 40 = .inr (9, [.ref (ad 41), .ref (ad 42), .ref (ad 43), .int ik, .ref (ad 44), .int kn, .ref (ad 45), .int ln, .int n, .int m, .int q, .int te, .long fx, .long fy, .long nx, .long ny, .long ux, .long uy, .int us, .long px, .long py, .ref (ad 46), .ref (ad 47), .int sp, .int bg, .int fo, .int le, .int fi, .int re, .int ca]) ∧ Agr [40] G G') := by
  refine GM.of (own := RX9) (lo := [(0, .ref (ad 40)), (1, .int n)]) (by decide +kernel) rfl rfl (Nat.le_of_ble_eq_true rfl) (fun E C hr => ?_)
  refine G_aload_n C 0 dX9_fails_0 rfl rfl ?_
  refine G_iload_n C 1 dX9_fails_1 rfl rfl ?_
  refine G_putp C 40 (by decide) g40 rfl inA9 tyX9_ok nmX9 8 (by decide) rfl kf_X9_32 rfl rfl rfl (fs' := [.ref (ad 41), .ref (ad 42), .ref (ad 43), .int ik, .ref (ad 44), .int kn, .ref (ad 45), .int ln, .int n, .int m, .int q, .int te, .long fx, .long fy, .long nx, .long ny, .long ux, .long uy, .int us, .long px, .long py, .ref (ad 46), .ref (ad 47), .int sp, .int bg, .int fo, .int le, .int fi, .int re, .int ca]) (Nat.le_of_ble_eq_true rfl) rfl dX9_fails_2 (fun gg1 hh2 aa3 => ?_)
  have AA4 : Agr [40] G gg1 := aa3.wk (by simp)
  refine G_iconst C (v := 0) dX9_fails_5 (by decide) ?_
  exact G_zret C hr rfl dX9_fails_6 ⟨rfl, hh2, AA4⟩

abbrev rm_X9_thrown : Room := ({ frames := 0, cells := 0, slots := 0, locals := 0 } : Room)
set_option maxRecDepth 100000 in
set_option maxHeartbeats 4000000 in
theorem c_X9_thrown {L : GL} {ad : Nat → Nat} {G : Nat → va_E} {ik kn ln th m q te us sp bg fo le fi re ca : Int32} {fx fy nx ny ux uy px py : Int64}  (g40 : G 40 = .inr (9, [.ref (ad 41), .ref (ad 42), .ref (ad 43), .int ik, .ref (ad 44), .int kn, .ref (ad 45), .int ln, .int th, .int m, .int q, .int te, .long fx, .long fy, .long nx, .long ny, .long ux, .long uy, .int us, .long px, .long py, .ref (ad 46), .ref (ad 47), .int sp, .int bg, .int fo, .int le, .int fi, .int re, .int ca]))  : GM L yX9_thrown cX9_thrown 1 ((some .int)) rm_X9_thrown 50 ad G [.ref (ad 40)] (fun vo G' => vo = some (.int th) ∧ G = G') := by
  refine GM.of (own := RX9) (lo := [(0, .ref (ad 40))]) (by decide +kernel) rfl rfl (Nat.le_of_ble_eq_true rfl) (fun E C hr => ?_)
  refine G_aload_n C 0 dX9_thrown_0 rfl rfl ?_
  refine G_get C 40 (by decide) g40 rfl inA9 8 (by decide) rfl kf_X9_32 rfl dX9_thrown_1 ?_
  exact G_zret C hr rfl dX9_thrown_4 ⟨rfl, rfl⟩

abbrev rm_X9_goLayA : Room := ({ frames := 2, cells := 0, slots := 0, locals := 42 } : Room)
set_option maxRecDepth 100000 in
set_option maxHeartbeats 4000000 in
theorem c_X9_goLayA {L : GL} {ad : Nat → Nat} {G : Nat → va_E} {n : Int32} {ik kn ln th m q te us sp bg fo le fi re ca : Int32} {fx fy nx ny ux uy px py : Int64} {ml : Int32} {f : Nat → Int32}  (g40 : G 40 = .inr (9, [.ref (ad 41), .ref (ad 42), .ref (ad 43), .int ik, .ref (ad 44), .int kn, .ref (ad 45), .int ln, .int th, .int m, .int q, .int te, .long fx, .long fy, .long nx, .long ny, .long ux, .long uy, .int us, .long px, .long py, .ref (ad 46), .ref (ad 47), .int sp, .int bg, .int fo, .int le, .int fi, .int re, .int ca])) (g41 : G 41 = .inl (L.ac 0, 60, .inl (sv f ml))) (hn0 : numF n = 0) : GM L yX9_goLay cX9_goLay 2 ((some .int)) rm_X9_goLayA 50 ad G [.ref (ad 40), .int n] (fun vo G' => vo = some (.int (-11)) ∧ G = G') := by
  refine GM.of (own := RX9) (lo := [(0, .ref (ad 40)), (1, .int n)]) (by decide +kernel) rfl rfl (Nat.le_of_ble_eq_true rfl) (fun E C hr => ?_)
  refine G_iload_n C 1 dX9_goLay_0 rfl rfl ?_
  refine G_callS C (As := [.int n]) (rest := []) c_X9_isNumber ca_X9_isNumber km_X9_126 rfl rfl (by decide) (Nat.le_of_ble_eq_true rfl) (by decide) dX9_goLay_1 (fun vv1 gg2 qq3 => ?_)
  obtain ⟨rfl, rfl⟩ := qq3
  refine G_if_ne C 10 dX9_goLay_4 (by decide) (fun c4 => False.elim (c4 hn0)) (fun c4 => ?_)
  refine G_bipush C (v := (-11)) dX9_goLay_7 (by decide) ?_
  exact G_zret C hr rfl dX9_goLay_9 ⟨rfl, rfl⟩

abbrev rm_X9_goTakeA : Room := ({ frames := 2, cells := 0, slots := 0, locals := 42 } : Room)
set_option maxRecDepth 100000 in
set_option maxHeartbeats 4000000 in
theorem c_X9_goTakeA {L : GL} {ad : Nat → Nat} {G : Nat → va_E} {n : Int32} {ik kn ln th m q te us sp bg fo le fi re ca : Int32} {fx fy nx ny ux uy px py : Int64} {ml : Int32} {f : Nat → Int32}  (g40 : G 40 = .inr (9, [.ref (ad 41), .ref (ad 42), .ref (ad 43), .int ik, .ref (ad 44), .int kn, .ref (ad 45), .int ln, .int th, .int m, .int q, .int te, .long fx, .long fy, .long nx, .long ny, .long ux, .long uy, .int us, .long px, .long py, .ref (ad 46), .ref (ad 47), .int sp, .int bg, .int fo, .int le, .int fi, .int re, .int ca])) (g41 : G 41 = .inl (L.ac 0, 60, .inl (sv f ml))) (hn0 : numF n = 0) : GM L yX9_goTake cX9_goTake 3 ((some .int)) rm_X9_goTakeA 50 ad G [.ref (ad 40), .int n] (fun vo G' => vo = some (.int (-11)) ∧ G = G') := by
  refine GM.of (own := RX9) (lo := [(0, .ref (ad 40)), (1, .int n)]) (by decide +kernel) rfl rfl (Nat.le_of_ble_eq_true rfl) (fun E C hr => ?_)
  refine G_iload_n C 1 dX9_goTake_0 rfl rfl ?_
  refine G_callS C (As := [.int n]) (rest := []) c_X9_isNumber ca_X9_isNumber km_X9_126 rfl rfl (by decide) (Nat.le_of_ble_eq_true rfl) (by decide) dX9_goTake_1 (fun vv1 gg2 qq3 => ?_)
  obtain ⟨rfl, rfl⟩ := qq3
  refine G_if_ne C 10 dX9_goTake_4 (by decide) (fun c4 => False.elim (c4 hn0)) (fun c4 => ?_)
  refine G_bipush C (v := (-11)) dX9_goTake_7 (by decide) ?_
  exact G_zret C hr rfl dX9_goTake_9 ⟨rfl, rfl⟩

abbrev rm_X9_goMillA : Room := ({ frames := 2, cells := 0, slots := 0, locals := 42 } : Room)
set_option maxRecDepth 100000 in
set_option maxHeartbeats 4000000 in
theorem c_X9_goMillA {L : GL} {ad : Nat → Nat} {G : Nat → va_E} {n : Int32} {ik kn ln th m q te us sp bg fo le fi re ca : Int32} {fx fy nx ny ux uy px py : Int64} {ml : Int32} {f : Nat → Int32}  (g40 : G 40 = .inr (9, [.ref (ad 41), .ref (ad 42), .ref (ad 43), .int ik, .ref (ad 44), .int kn, .ref (ad 45), .int ln, .int th, .int m, .int q, .int te, .long fx, .long fy, .long nx, .long ny, .long ux, .long uy, .int us, .long px, .long py, .ref (ad 46), .ref (ad 47), .int sp, .int bg, .int fo, .int le, .int fi, .int re, .int ca])) (g41 : G 41 = .inl (L.ac 0, 60, .inl (sv f ml))) (hn0 : numF n = 0) : GM L yX9_goMill cX9_goMill 3 ((some .int)) rm_X9_goMillA 50 ad G [.ref (ad 40), .int n] (fun vo G' => vo = some (.int (-11)) ∧ G = G') := by
  refine GM.of (own := RX9) (lo := [(0, .ref (ad 40)), (1, .int n)]) (by decide +kernel) rfl rfl (Nat.le_of_ble_eq_true rfl) (fun E C hr => ?_)
  refine G_iload_n C 1 dX9_goMill_0 rfl rfl ?_
  refine G_callS C (As := [.int n]) (rest := []) c_X9_isNumber ca_X9_isNumber km_X9_126 rfl rfl (by decide) (Nat.le_of_ble_eq_true rfl) (by decide) dX9_goMill_1 (fun vv1 gg2 qq3 => ?_)
  obtain ⟨rfl, rfl⟩ := qq3
  refine G_if_ne C 10 dX9_goMill_4 (by decide) (fun c4 => False.elim (c4 hn0)) (fun c4 => ?_)
  refine G_bipush C (v := (-11)) dX9_goMill_7 (by decide) ?_
  exact G_zret C hr rfl dX9_goMill_9 ⟨rfl, rfl⟩

abbrev rm_X9_goBackwardA : Room := ({ frames := 2, cells := 0, slots := 0, locals := 42 } : Room)
set_option maxRecDepth 100000 in
set_option maxHeartbeats 4000000 in
theorem c_X9_goBackwardA {L : GL} {ad : Nat → Nat} {G : Nat → va_E} {n : Int32} {ik kn ln th m q te us sp bg fo le fi re ca : Int32} {fx fy nx ny ux uy px py : Int64} {ml : Int32} {f : Nat → Int32}  (g40 : G 40 = .inr (9, [.ref (ad 41), .ref (ad 42), .ref (ad 43), .int ik, .ref (ad 44), .int kn, .ref (ad 45), .int ln, .int th, .int m, .int q, .int te, .long fx, .long fy, .long nx, .long ny, .long ux, .long uy, .int us, .long px, .long py, .ref (ad 46), .ref (ad 47), .int sp, .int bg, .int fo, .int le, .int fi, .int re, .int ca])) (g41 : G 41 = .inl (L.ac 0, 60, .inl (sv f ml))) (hn0 : numF n = 0) : GM L yX9_goBackward cX9_goBackward 3 ((some .int)) rm_X9_goBackwardA 50 ad G [.ref (ad 40), .int n] (fun vo G' => vo = some (.int (-11)) ∧ G = G') := by
  refine GM.of (own := RX9) (lo := [(0, .ref (ad 40)), (1, .int n)]) (by decide +kernel) rfl rfl (Nat.le_of_ble_eq_true rfl) (fun E C hr => ?_)
  refine G_iload_n C 1 dX9_goBackward_0 rfl rfl ?_
  refine G_callS C (As := [.int n]) (rest := []) c_X9_isNumber ca_X9_isNumber km_X9_126 rfl rfl (by decide) (Nat.le_of_ble_eq_true rfl) (by decide) dX9_goBackward_1 (fun vv1 gg2 qq3 => ?_)
  obtain ⟨rfl, rfl⟩ := qq3
  refine G_if_ne C 10 dX9_goBackward_4 (by decide) (fun c4 => False.elim (c4 hn0)) (fun c4 => ?_)
  refine G_bipush C (v := (-11)) dX9_goBackward_7 (by decide) ?_
  exact G_zret C hr rfl dX9_goBackward_9 ⟨rfl, rfl⟩

abbrev rm_X9_goLayS : Room := ({ frames := 3, cells := 0, slots := 0, locals := 64 } : Room)
set_option maxRecDepth 100000 in
set_option maxHeartbeats 4000000 in
theorem c_X9_goLayS {L : GL} {ad : Nat → Nat} {G : Nat → va_E} {d : Nat} {ik kn ln th m q te us sp bg fo le fi re ca : Int32} {fx fy nx ny ux uy px py : Int64} {ml : Int32} {f : Nat → Int32}  (g40 : G 40 = .inr (9, [.ref (ad 41), .ref (ad 42), .ref (ad 43), .int ik, .ref (ad 44), .int kn, .ref (ad 45), .int ln, .int th, .int m, .int q, .int te, .long fx, .long fy, .long nx, .long ny, .long ux, .long uy, .int us, .long px, .long py, .ref (ad 46), .ref (ad 47), .int sp, .int bg, .int fo, .int le, .int fi, .int re, .int ca])) (g41 : G 41 = .inl (L.ac 0, 60, .inl (sv f ml))) (h2 : 2 ≤ d) (h60 : d ≤ 60) (hro : ¬ rsF f d ≤ 0) : GM L yX9_goLay cX9_goLay 2 ((some .int)) rm_X9_goLayS 50 ad G [.ref (ad 40), .int (nI d)] (fun vo G' => vo = some (.int (-12)) ∧ G = G') := by
  refine GM.of (own := RX9) (lo := [(0, .ref (ad 40)), (1, .int (nI d))]) (by decide +kernel) rfl rfl (Nat.le_of_ble_eq_true rfl) (fun E C hr => ?_)
  refine G_iload_n C 1 dX9_goLay_0 rfl rfl ?_
  refine G_callS C (As := [.int (nI d)]) (rest := []) c_X9_isNumber ca_X9_isNumber km_X9_126 rfl rfl (by decide) (Nat.le_of_ble_eq_true rfl) (by decide) dX9_goLay_1 (fun vv1 gg2 qq3 => ?_)
  obtain ⟨rfl, rfl⟩ := qq3
  refine G_if_ne C 10 dX9_goLay_4 (by decide) (fun c4 => ?_) (fun c4 => False.elim (absurd ((num_d h2 h60).symm.trans c4) (by decide)))
  refine G_aload_n C 0 dX9_goLay_10 rfl rfl ?_
  refine G_iload_n C 1 dX9_goLay_11 rfl rfl ?_
  refine G_callV C (As := [.int (nI d)]) (rest := []) (c_X9_reason g40 g41 h2 h60) ca_X9_reason km_X9_129 (by decide) g40 rfl rfl rfl rfl (by decide) (Nat.le_of_ble_eq_true rfl) (by decide) dX9_goLay_12 (fun vv4 gg5 qq6 => ?_)
  obtain ⟨rfl, rfl⟩ := qq6
  refine G_if_le C 21 dX9_goLay_15 (by decide) (fun c15 => False.elim (hro c15)) (fun c15 => ?_)
  refine G_bipush C (v := (-12)) dX9_goLay_18 (by decide) ?_
  exact G_zret C hr rfl dX9_goLay_20 ⟨rfl, rfl⟩

abbrev rm_X9_goLayR : Room := ({ frames := 3, cells := 0, slots := 0, locals := 64 } : Room)
set_option maxRecDepth 100000 in
set_option maxHeartbeats 4000000 in
theorem c_X9_goLayR {L : GL} {ad : Nat → Nat} {G : Nat → va_E} {d : Nat} {ik kn ln th m q te us sp bg fo le fi re ca : Int32} {fx fy nx ny ux uy px py : Int64} {ml : Int32} {f : Nat → Int32}  (g40 : G 40 = .inr (9, [.ref (ad 41), .ref (ad 42), .ref (ad 43), .int ik, .ref (ad 44), .int kn, .ref (ad 45), .int ln, .int th, .int m, .int q, .int te, .long fx, .long fy, .long nx, .long ny, .long ux, .long uy, .int us, .long px, .long py, .ref (ad 46), .ref (ad 47), .int sp, .int bg, .int fo, .int le, .int fi, .int re, .int ca])) (g41 : G 41 = .inl (L.ac 0, 60, .inl (sv f ml))) (h2 : 2 ≤ d) (h60 : d ≤ 60) (hro : rsF f d ≤ 0) : GM L yX9_goLay cX9_goLay 2 ((some .int)) rm_X9_goLayR 50 ad G [.ref (ad 40), .int (nI d)] (fun vo G' => vo = some (.int (manyF (upd f d 0) 59)) ∧ G' 41 = .inl (L.ac 0, 60, .inl (sv (upd f d 0) ml)) ∧ Agr [41] G G') := by
  refine GM.of (own := RX9) (lo := [(0, .ref (ad 40)), (1, .int (nI d))]) (by decide +kernel) rfl rfl (Nat.le_of_ble_eq_true rfl) (fun E C hr => ?_)
  refine G_iload_n C 1 dX9_goLay_0 rfl rfl ?_
  refine G_callS C (As := [.int (nI d)]) (rest := []) c_X9_isNumber ca_X9_isNumber km_X9_126 rfl rfl (by decide) (Nat.le_of_ble_eq_true rfl) (by decide) dX9_goLay_1 (fun vv1 gg2 qq3 => ?_)
  obtain ⟨rfl, rfl⟩ := qq3
  refine G_if_ne C 10 dX9_goLay_4 (by decide) (fun c4 => ?_) (fun c4 => False.elim (absurd ((num_d h2 h60).symm.trans c4) (by decide)))
  refine G_aload_n C 0 dX9_goLay_10 rfl rfl ?_
  refine G_iload_n C 1 dX9_goLay_11 rfl rfl ?_
  refine G_callV C (As := [.int (nI d)]) (rest := []) (c_X9_reason g40 g41 h2 h60) ca_X9_reason km_X9_129 (by decide) g40 rfl rfl rfl rfl (by decide) (Nat.le_of_ble_eq_true rfl) (by decide) dX9_goLay_12 (fun vv4 gg5 qq6 => ?_)
  obtain ⟨rfl, rfl⟩ := qq6
  refine G_if_le C 21 dX9_goLay_15 (by decide) (fun c15 => ?_) (fun c15 => False.elim (c15 hro))
  refine G_aload_n C 0 dX9_goLay_21 rfl rfl ?_
  refine G_iload_n C 1 dX9_goLay_22 rfl rfl ?_
  refine G_iconst C (v := 0) dX9_goLay_23 (by decide) ?_
  refine G_callV C (As := [.int (nI d), .int 0]) (rest := []) (c_X9_puts g40 g41 h2 h60) ca_X9_puts km_X9_132 (by decide) g40 rfl rfl rfl rfl (by decide) (Nat.le_of_ble_eq_true rfl) (by decide) dX9_goLay_24 (fun vv7 gg8 qq9 => ?_)
  obtain ⟨rfl, hh10, aa11⟩ := qq9
  have AA12 : Agr [41] G gg8 := aa11.wk (by simp)
  refine G_aload_n C 0 dX9_goLay_27 rfl rfl ?_
  refine G_callV C (As := []) (rest := []) (c_X9_many ((aa11 40 (by decide)).trans g40) hh10) ca_X9_many km_X9_122 (by decide) ((aa11 40 (by decide)).trans g40) rfl rfl rfl rfl (by decide) (Nat.le_of_ble_eq_true rfl) (by decide) dX9_goLay_28 (fun vv13 gg14 qq15 => ?_)
  obtain ⟨rfl, rfl⟩ := qq15
  exact G_zret C hr rfl dX9_goLay_31 ⟨rfl, hh10, AA12⟩

abbrev rm_X9_goTakeS : Room := ({ frames := 2, cells := 0, slots := 0, locals := 42 } : Room)
set_option maxRecDepth 100000 in
set_option maxHeartbeats 4000000 in
theorem c_X9_goTakeS {L : GL} {ad : Nat → Nat} {G : Nat → va_E} {d : Nat} {ik kn ln th m q te us sp bg fo le fi re ca : Int32} {fx fy nx ny ux uy px py : Int64} {ml : Int32} {f : Nat → Int32}  (g40 : G 40 = .inr (9, [.ref (ad 41), .ref (ad 42), .ref (ad 43), .int ik, .ref (ad 44), .int kn, .ref (ad 45), .int ln, .int th, .int m, .int q, .int te, .long fx, .long fy, .long nx, .long ny, .long ux, .long uy, .int us, .long px, .long py, .ref (ad 46), .ref (ad 47), .int sp, .int bg, .int fo, .int le, .int fi, .int re, .int ca])) (g41 : G 41 = .inl (L.ac 0, 60, .inl (sv f ml))) (h2 : 2 ≤ d) (h60 : d ≤ 60) (hro : f d < 0) : GM L yX9_goTake cX9_goTake 3 ((some .int)) rm_X9_goTakeS 50 ad G [.ref (ad 40), .int (nI d)] (fun vo G' => vo = some (.int (-12)) ∧ G = G') := by
  refine GM.of (own := RX9) (lo := [(0, .ref (ad 40)), (1, .int (nI d))]) (by decide +kernel) rfl rfl (Nat.le_of_ble_eq_true rfl) (fun E C hr => ?_)
  refine G_iload_n C 1 dX9_goTake_0 rfl rfl ?_
  refine G_callS C (As := [.int (nI d)]) (rest := []) c_X9_isNumber ca_X9_isNumber km_X9_126 rfl rfl (by decide) (Nat.le_of_ble_eq_true rfl) (by decide) dX9_goTake_1 (fun vv1 gg2 qq3 => ?_)
  obtain ⟨rfl, rfl⟩ := qq3
  refine G_if_ne C 10 dX9_goTake_4 (by decide) (fun c4 => ?_) (fun c4 => False.elim (absurd ((num_d h2 h60).symm.trans c4) (by decide)))
  refine G_aload_n C 0 dX9_goTake_10 rfl rfl ?_
  refine G_iload_n C 1 dX9_goTake_11 rfl rfl ?_
  refine G_callV C (As := [.int (nI d)]) (rest := []) (c_X9_stand g40 g41 h2 h60) ca_X9_stand km_X9_89 (by decide) g40 rfl rfl rfl rfl (by decide) (Nat.le_of_ble_eq_true rfl) (by decide) dX9_goTake_12 (fun vv4 gg5 qq6 => ?_)
  obtain ⟨rfl, rfl⟩ := qq6
  refine G_istore_n C 2 (lo' := [(2, .int (f d)), (0, .ref (ad 40)), (1, .int (nI d))]) dX9_goTake_15 rfl (by decide) rfl ?_
  refine G_iload_n C 2 dX9_goTake_16 rfl rfl ?_
  refine G_if_ge C 23 dX9_goTake_17 (by decide) (fun c17 => False.elim (Int32.not_le.mpr hro c17)) (fun c17 => ?_)
  refine G_bipush C (v := (-12)) dX9_goTake_20 (by decide) ?_
  exact G_zret C hr rfl dX9_goTake_22 ⟨rfl, rfl⟩

abbrev rm_X9_goTakeR : Room := ({ frames := 2, cells := 0, slots := 0, locals := 42 } : Room)
set_option maxRecDepth 100000 in
set_option maxHeartbeats 4000000 in
theorem c_X9_goTakeR {L : GL} {ad : Nat → Nat} {G : Nat → va_E} {d : Nat} {ik kn ln th m q te us sp bg fo le fi re ca : Int32} {fx fy nx ny ux uy px py : Int64} {ml : Int32} {f : Nat → Int32}  (g40 : G 40 = .inr (9, [.ref (ad 41), .ref (ad 42), .ref (ad 43), .int ik, .ref (ad 44), .int kn, .ref (ad 45), .int ln, .int th, .int m, .int q, .int te, .long fx, .long fy, .long nx, .long ny, .long ux, .long uy, .int us, .long px, .long py, .ref (ad 46), .ref (ad 47), .int sp, .int bg, .int fo, .int le, .int fi, .int re, .int ca])) (g41 : G 41 = .inl (L.ac 0, 60, .inl (sv f ml))) (h2 : 2 ≤ d) (h60 : d ≤ 60) (hro : 0 ≤ f d) : GM L yX9_goTake cX9_goTake 3 ((some .int)) rm_X9_goTakeR 50 ad G [.ref (ad 40), .int (nI d)] (fun vo G' => vo = some (.int (f d)) ∧ G' 41 = .inl (L.ac 0, 60, .inl (sv (upd f d (-1)) ml)) ∧ Agr [41] G G') := by
  refine GM.of (own := RX9) (lo := [(0, .ref (ad 40)), (1, .int (nI d))]) (by decide +kernel) rfl rfl (Nat.le_of_ble_eq_true rfl) (fun E C hr => ?_)
  refine G_iload_n C 1 dX9_goTake_0 rfl rfl ?_
  refine G_callS C (As := [.int (nI d)]) (rest := []) c_X9_isNumber ca_X9_isNumber km_X9_126 rfl rfl (by decide) (Nat.le_of_ble_eq_true rfl) (by decide) dX9_goTake_1 (fun vv1 gg2 qq3 => ?_)
  obtain ⟨rfl, rfl⟩ := qq3
  refine G_if_ne C 10 dX9_goTake_4 (by decide) (fun c4 => ?_) (fun c4 => False.elim (absurd ((num_d h2 h60).symm.trans c4) (by decide)))
  refine G_aload_n C 0 dX9_goTake_10 rfl rfl ?_
  refine G_iload_n C 1 dX9_goTake_11 rfl rfl ?_
  refine G_callV C (As := [.int (nI d)]) (rest := []) (c_X9_stand g40 g41 h2 h60) ca_X9_stand km_X9_89 (by decide) g40 rfl rfl rfl rfl (by decide) (Nat.le_of_ble_eq_true rfl) (by decide) dX9_goTake_12 (fun vv4 gg5 qq6 => ?_)
  obtain ⟨rfl, rfl⟩ := qq6
  refine G_istore_n C 2 (lo' := [(2, .int (f d)), (0, .ref (ad 40)), (1, .int (nI d))]) dX9_goTake_15 rfl (by decide) rfl ?_
  refine G_iload_n C 2 dX9_goTake_16 rfl rfl ?_
  refine G_if_ge C 23 dX9_goTake_17 (by decide) (fun c17 => ?_) (fun c17 => False.elim (c17 hro))
  refine G_aload_n C 0 dX9_goTake_23 rfl rfl ?_
  refine G_iload_n C 1 dX9_goTake_24 rfl rfl ?_
  refine G_iconst C (v := (-1)) dX9_goTake_25 (by decide) ?_
  refine G_callV C (As := [.int (nI d), .int (-1)]) (rest := []) (c_X9_puts g40 g41 h2 h60) ca_X9_puts km_X9_132 (by decide) g40 rfl rfl rfl rfl (by decide) (Nat.le_of_ble_eq_true rfl) (by decide) dX9_goTake_26 (fun vv7 gg8 qq9 => ?_)
  obtain ⟨rfl, hh10, aa11⟩ := qq9
  have AA12 : Agr [41] G gg8 := aa11.wk (by simp)
  refine G_iload_n C 2 dX9_goTake_29 rfl rfl ?_
  exact G_zret C hr rfl dX9_goTake_30 ⟨rfl, hh10, AA12⟩

abbrev rm_X9_goMillS1 : Room := ({ frames := 2, cells := 0, slots := 0, locals := 42 } : Room)
set_option maxRecDepth 100000 in
set_option maxHeartbeats 4000000 in
theorem c_X9_goMillS1 {L : GL} {ad : Nat → Nat} {G : Nat → va_E} {d : Nat} {ik kn ln th m q te us sp bg fo le fi re ca : Int32} {fx fy nx ny ux uy px py : Int64} {ml : Int32} {f : Nat → Int32}  (g40 : G 40 = .inr (9, [.ref (ad 41), .ref (ad 42), .ref (ad 43), .int ik, .ref (ad 44), .int kn, .ref (ad 45), .int ln, .int th, .int m, .int q, .int te, .long fx, .long fy, .long nx, .long ny, .long ux, .long uy, .int us, .long px, .long py, .ref (ad 46), .ref (ad 47), .int sp, .int bg, .int fo, .int le, .int fi, .int re, .int ca])) (g41 : G 41 = .inl (L.ac 0, 60, .inl (sv f ml))) (h2 : 2 ≤ d) (h60 : d ≤ 60) (hro : f d < 0) : GM L yX9_goMill cX9_goMill 3 ((some .int)) rm_X9_goMillS1 50 ad G [.ref (ad 40), .int (nI d)] (fun vo G' => ∃ (j1 : Int32) (j2 : Int32) (j3 : Int32) (j4 : Int64) (j5 : Int64) (j6 : Int64) (j7 : Int64) (u1 : Int64) (u2 : Int64) (u3 : Int32) (p1 : Int64) (p2 : Int64), vo = some (.int (-12)) ∧ G' 40 = .inr (9, [.ref (ad 41), .ref (ad 42), .ref (ad 43), .int ik, .ref (ad 44), .int kn, .ref (ad 45), .int ln, .int th, .int j1, .int j2, .int j3, .long j4, .long j5, .long j6, .long j7, .long u1, .long u2, .int u3, .long p1, .long p2, .ref (ad 46), .ref (ad 47), .int sp, .int bg, .int fo, .int le, .int fi, .int re, .int ca]) ∧ Agr [40] G G') := by
  refine GM.of (own := RX9) (lo := [(0, .ref (ad 40)), (1, .int (nI d))]) (by decide +kernel) rfl rfl (Nat.le_of_ble_eq_true rfl) (fun E C hr => ?_)
  refine G_iload_n C 1 dX9_goMill_0 rfl rfl ?_
  refine G_callS C (As := [.int (nI d)]) (rest := []) c_X9_isNumber ca_X9_isNumber km_X9_126 rfl rfl (by decide) (Nat.le_of_ble_eq_true rfl) (by decide) dX9_goMill_1 (fun vv1 gg2 qq3 => ?_)
  obtain ⟨rfl, rfl⟩ := qq3
  refine G_if_ne C 10 dX9_goMill_4 (by decide) (fun c4 => ?_) (fun c4 => False.elim (absurd ((num_d h2 h60).symm.trans c4) (by decide)))
  refine G_aload_n C 0 dX9_goMill_10 rfl rfl ?_
  refine G_iload_n C 1 dX9_goMill_11 rfl rfl ?_
  refine G_callV C (As := [.int (nI d)]) (rest := []) (c_X9_stand g40 g41 h2 h60) ca_X9_stand km_X9_89 (by decide) g40 rfl rfl rfl rfl (by decide) (Nat.le_of_ble_eq_true rfl) (by decide) dX9_goMill_12 (fun vv4 gg5 qq6 => ?_)
  obtain ⟨rfl, rfl⟩ := qq6
  refine G_istore_n C 2 (lo' := [(2, .int (f d)), (0, .ref (ad 40)), (1, .int (nI d))]) dX9_goMill_15 rfl (by decide) rfl ?_
  refine G_iload_n C 2 dX9_goMill_16 rfl rfl ?_
  refine G_if_ge C 23 dX9_goMill_17 (by decide) (fun c17 => False.elim (Int32.not_le.mpr hro c17)) (fun c17 => ?_)
  refine G_bipush C (v := (-12)) dX9_goMill_20 (by decide) ?_
  exact G_zret C hr rfl dX9_goMill_22 ⟨_, _, _, _, _, _, _, _, _, _, _, _, rfl, g40, Agr.rf⟩

abbrev rm_X9_goMillS2 : Room := ({ frames := 5, cells := 0, slots := 0, locals := 108 } : Room)
set_option maxRecDepth 100000 in
set_option maxHeartbeats 4000000 in
theorem c_X9_goMillS2 {L : GL} {ad : Nat → Nat} {G : Nat → va_E} {d h : Nat} {ik kn ln th m q te us sp bg fo le fi re ca : Int32} {fx fy nx ny ux uy px py : Int64} {ml : Int32} {f : Nat → Int32}  (g40 : G 40 = .inr (9, [.ref (ad 41), .ref (ad 42), .ref (ad 43), .int ik, .ref (ad 44), .int kn, .ref (ad 45), .int ln, .int th, .int m, .int q, .int te, .long fx, .long fy, .long nx, .long ny, .long ux, .long uy, .int us, .long px, .long py, .ref (ad 46), .ref (ad 47), .int sp, .int bg, .int fo, .int le, .int fi, .int re, .int ca])) (g41 : G 41 = .inl (L.ac 0, 60, .inl (sv f ml))) (h2 : 2 ≤ d) (h60 : d ≤ 60) (hp : pern d ≠ 0) (hg : h ≤ gpn d) (hf : f d = nI h) (hro : ¬ h < gpn d) : GM L yX9_goMill cX9_goMill 3 ((some .int)) rm_X9_goMillS2 50 ad G [.ref (ad 40), .int (nI d)] (fun vo G' => ∃ (j1 : Int32) (j2 : Int32) (j3 : Int32) (j4 : Int64) (j5 : Int64) (j6 : Int64) (j7 : Int64) (u1 : Int64) (u2 : Int64) (u3 : Int32) (p1 : Int64) (p2 : Int64), vo = some (.int (-12)) ∧ G' 40 = .inr (9, [.ref (ad 41), .ref (ad 42), .ref (ad 43), .int ik, .ref (ad 44), .int kn, .ref (ad 45), .int ln, .int th, .int j1, .int j2, .int j3, .long j4, .long j5, .long j6, .long j7, .long u1, .long u2, .int u3, .long p1, .long p2, .ref (ad 46), .ref (ad 47), .int sp, .int bg, .int fo, .int le, .int fi, .int re, .int ca]) ∧ Agr [40] G G') := by
  refine GM.of (own := RX9) (lo := [(0, .ref (ad 40)), (1, .int (nI d))]) (by decide +kernel) rfl rfl (Nat.le_of_ble_eq_true rfl) (fun E C hr => ?_)
  have h39 := gp_lt d (by omega)
  refine G_iload_n C 1 dX9_goMill_0 rfl rfl ?_
  refine G_callS C (As := [.int (nI d)]) (rest := []) c_X9_isNumber ca_X9_isNumber km_X9_126 rfl rfl (by decide) (Nat.le_of_ble_eq_true rfl) (by decide) dX9_goMill_1 (fun vv1 gg2 qq3 => ?_)
  obtain ⟨rfl, rfl⟩ := qq3
  refine G_if_ne C 10 dX9_goMill_4 (by decide) (fun c4 => ?_) (fun c4 => False.elim (absurd ((num_d h2 h60).symm.trans c4) (by decide)))
  refine G_aload_n C 0 dX9_goMill_10 rfl rfl ?_
  refine G_iload_n C 1 dX9_goMill_11 rfl rfl ?_
  refine G_callV C (As := [.int (nI d)]) (rest := []) (c_X9_stand g40 g41 h2 h60) ca_X9_stand km_X9_89 (by decide) g40 rfl rfl rfl rfl (by decide) (Nat.le_of_ble_eq_true rfl) (by decide) dX9_goMill_12 (fun vv4 gg5 qq6 => ?_)
  obtain ⟨rfl, rfl⟩ := qq6
  refine GW.topr (y := nI h) hf ?_
  refine G_istore_n C 2 (lo' := [(2, .int (nI h)), (0, .ref (ad 40)), (1, .int (nI d))]) dX9_goMill_15 rfl (by decide) rfl ?_
  refine G_iload_n C 2 dX9_goMill_16 rfl rfl ?_
  refine G_if_ge C 23 dX9_goMill_17 (by decide) (fun c17 => ?_) (fun c17 => ?_)
  · have c17n : 0 ≤ h := (cI_le (a := 0) (b := h) rfl rfl (by omega) (by omega)).mp c17
    refine G_aload_n C 0 dX9_goMill_23 rfl rfl ?_
    refine G_iload_n C 1 dX9_goMill_24 rfl rfl ?_
    refine G_iload_n C 2 dX9_goMill_25 rfl rfl ?_
    refine G_callV C (As := [.int (nI d), .int (nI h)]) (rest := []) (c_X9_reaches g40 h2 h60 hp hg) ca_X9_reaches km_X9_136 (by decide) g40 rfl rfl rfl rfl (by decide) (Nat.le_of_ble_eq_true rfl) (by decide) dX9_goMill_26 (fun vv7 gg8 qq9 => ?_)
    obtain ⟨j_10, j_11, j_12, j_13, j_14, j_15, j_16, rfl, hh17, aa18⟩ := qq9
    have AA19 : Agr [40] G gg8 := aa18.wk (by simp)
    refine G_aload_n C 0 dX9_goMill_29 rfl rfl ?_
    refine G_iload_n C 1 dX9_goMill_30 rfl rfl ?_
    refine G_callV C (As := [.int (nI d)]) (rest := []) (c_growK hh17 h60 hp hg) ca_X9_grows km_X9_115 (by decide) hh17 rfl rfl rfl rfl (by decide) (Nat.le_of_ble_eq_true rfl) (by decide) dX9_goMill_31 (fun vv20 gg21 qq22 => ?_)
    obtain ⟨rfl, hh23, aa24⟩ := qq22
    have AA25 : Agr [40] G gg21 := AA19.tr aa24 (by simp) (by simp)
    refine G_if_ne C 40 dX9_goMill_34 (by decide) (fun c34 => False.elim (c34 (if_neg hro))) (fun c34 => ?_)
    refine G_bipush C (v := (-12)) dX9_goMill_37 (by decide) ?_
    exact G_zret C hr rfl dX9_goMill_39 ⟨_, _, _, _, _, _, _, _, _, _, _, _, rfl, hh23, AA25⟩
  · have c17n : ¬ 0 ≤ h := fun z => c17 ((cI_le (a := 0) (b := h) rfl rfl (by omega) (by omega)).mpr z)
    refine G_bipush C (v := (-12)) dX9_goMill_20 (by decide) ?_
    exact G_zret C hr rfl dX9_goMill_22 ⟨_, _, _, _, _, _, _, _, _, _, _, _, rfl, g40, Agr.rf⟩

abbrev rm_X9_goMillR : Room := ({ frames := 5, cells := 0, slots := 0, locals := 108 } : Room)
set_option maxRecDepth 100000 in
set_option maxHeartbeats 4000000 in
theorem c_X9_goMillR {L : GL} {ad : Nat → Nat} {G : Nat → va_E} {d h : Nat} {ik kn ln th m q te us sp bg fo le fi re ca : Int32} {fx fy nx ny ux uy px py : Int64} {ml : Int32} {f : Nat → Int32}  (g40 : G 40 = .inr (9, [.ref (ad 41), .ref (ad 42), .ref (ad 43), .int ik, .ref (ad 44), .int kn, .ref (ad 45), .int ln, .int th, .int m, .int q, .int te, .long fx, .long fy, .long nx, .long ny, .long ux, .long uy, .int us, .long px, .long py, .ref (ad 46), .ref (ad 47), .int sp, .int bg, .int fo, .int le, .int fi, .int re, .int ca])) (g41 : G 41 = .inl (L.ac 0, 60, .inl (sv f ml))) (h2 : 2 ≤ d) (h60 : d ≤ 60) (hp : pern d ≠ 0) (hg : h ≤ gpn d) (hf : f d = nI h) (hro : h < gpn d) : GM L yX9_goMill cX9_goMill 3 ((some .int)) rm_X9_goMillR 50 ad G [.ref (ad 40), .int (nI d)] (fun vo G' => ∃ (j1 : Int32) (j2 : Int32) (j3 : Int32) (j4 : Int64) (j5 : Int64) (j6 : Int64) (j7 : Int64) (u1 : Int64) (u2 : Int64) (u3 : Int32) (p1 : Int64) (p2 : Int64), vo = some (.int 0) ∧ (p1 = (pwr d (h + 1)).1) ∧ G' 40 = .inr (9, [.ref (ad 41), .ref (ad 42), .ref (ad 43), .int ik, .ref (ad 44), .int kn, .ref (ad 45), .int ln, .int th, .int j1, .int j2, .int j3, .long j4, .long j5, .long j6, .long j7, .long u1, .long u2, .int u3, .long p1, .long p2, .ref (ad 46), .ref (ad 47), .int sp, .int bg, .int fo, .int le, .int fi, .int re, .int ca]) ∧ G' 41 = .inl (L.ac 0, 60, .inl (sv (upd f d (nI (h + 1))) (ml + 1))) ∧ Agr [40, 41] G G') := by
  refine GM.of (own := RX9) (lo := [(0, .ref (ad 40)), (1, .int (nI d))]) (by decide +kernel) rfl rfl (Nat.le_of_ble_eq_true rfl) (fun E C hr => ?_)
  have h39 := gp_lt d (by omega)
  refine G_iload_n C 1 dX9_goMill_0 rfl rfl ?_
  refine G_callS C (As := [.int (nI d)]) (rest := []) c_X9_isNumber ca_X9_isNumber km_X9_126 rfl rfl (by decide) (Nat.le_of_ble_eq_true rfl) (by decide) dX9_goMill_1 (fun vv1 gg2 qq3 => ?_)
  obtain ⟨rfl, rfl⟩ := qq3
  refine G_if_ne C 10 dX9_goMill_4 (by decide) (fun c4 => ?_) (fun c4 => False.elim (absurd ((num_d h2 h60).symm.trans c4) (by decide)))
  refine G_aload_n C 0 dX9_goMill_10 rfl rfl ?_
  refine G_iload_n C 1 dX9_goMill_11 rfl rfl ?_
  refine G_callV C (As := [.int (nI d)]) (rest := []) (c_X9_stand g40 g41 h2 h60) ca_X9_stand km_X9_89 (by decide) g40 rfl rfl rfl rfl (by decide) (Nat.le_of_ble_eq_true rfl) (by decide) dX9_goMill_12 (fun vv4 gg5 qq6 => ?_)
  obtain ⟨rfl, rfl⟩ := qq6
  refine GW.topr (y := nI h) hf ?_
  refine G_istore_n C 2 (lo' := [(2, .int (nI h)), (0, .ref (ad 40)), (1, .int (nI d))]) dX9_goMill_15 rfl (by decide) rfl ?_
  refine G_iload_n C 2 dX9_goMill_16 rfl rfl ?_
  refine G_if_ge C 23 dX9_goMill_17 (by decide) (fun c17 => ?_) (fun c17 => False.elim (c17 (nI_pos' (by omega))))
  have c17n : 0 ≤ h := (cI_le (a := 0) (b := h) rfl rfl (by omega) (by omega)).mp c17
  refine G_aload_n C 0 dX9_goMill_23 rfl rfl ?_
  refine G_iload_n C 1 dX9_goMill_24 rfl rfl ?_
  refine G_iload_n C 2 dX9_goMill_25 rfl rfl ?_
  refine G_callV C (As := [.int (nI d), .int (nI h)]) (rest := []) (c_X9_reaches g40 h2 h60 hp hg) ca_X9_reaches km_X9_136 (by decide) g40 rfl rfl rfl rfl (by decide) (Nat.le_of_ble_eq_true rfl) (by decide) dX9_goMill_26 (fun vv7 gg8 qq9 => ?_)
  obtain ⟨j_10, j_11, j_12, j_13, j_14, j_15, j_16, rfl, hh17, aa18⟩ := qq9
  have AA19 : Agr [40] G gg8 := aa18.wk (by simp)
  refine G_aload_n C 0 dX9_goMill_29 rfl rfl ?_
  refine G_iload_n C 1 dX9_goMill_30 rfl rfl ?_
  refine G_callV C (As := [.int (nI d)]) (rest := []) (c_growK hh17 h60 hp hg) ca_X9_grows km_X9_115 (by decide) hh17 rfl rfl rfl rfl (by decide) (Nat.le_of_ble_eq_true rfl) (by decide) dX9_goMill_31 (fun vv20 gg21 qq22 => ?_)
  obtain ⟨rfl, hh23, aa24⟩ := qq22
  have AA25 : Agr [40] G gg21 := AA19.tr aa24 (by simp) (by simp)
  refine G_if_ne C 40 dX9_goMill_34 (by decide) (fun c34 => ?_) (fun c34 => False.elim (absurd ((if_pos hro).symm.trans c34) (by decide)))
  refine G_aload_n C 0 dX9_goMill_40 rfl rfl ?_
  refine G_iload_n C 1 dX9_goMill_41 rfl rfl ?_
  refine G_iload_n C 2 dX9_goMill_42 rfl rfl ?_
  refine G_iconst C (v := 1) dX9_goMill_43 (by decide) ?_
  refine G_iadd C dX9_goMill_44 ?_
  refine GW.topr (cI_add (a := h) (b := 1) rfl rfl) ?_
  refine G_callV C (As := [.int (nI d), .int (nI (h + 1))]) (rest := []) (c_X9_puts hh23 ((aa24 41 (by decide)).trans ((aa18 41 (by decide)).trans g41)) h2 h60) ca_X9_puts km_X9_132 (by decide) hh23 rfl rfl rfl rfl (by decide) (Nat.le_of_ble_eq_true rfl) (by decide) dX9_goMill_45 (fun vv26 gg27 qq28 => ?_)
  obtain ⟨rfl, hh29, aa30⟩ := qq28
  have AA31 : Agr [40, 41] G gg27 := AA25.tr aa30 (by simp) (by simp)
  refine G_aload_n C 0 dX9_goMill_48 rfl rfl ?_
  refine G_get C 40 (by decide) ((aa30 40 (by decide)).trans hh23) rfl inA9 0 (by decide) rfl kf_X9_7 rfl dX9_goMill_49 ?_
  refine G_bipush C (v := 59) dX9_goMill_52 (by decide) ?_
  refine G_dup2 C dX9_goMill_54 rfl rfl ?_
  refine G_ialdN C 41 (by decide) 59 hh29 rfl (by decide) (by omega) dX9_goMill_55 ?_
  refine G_iconst C (v := 1) dX9_goMill_56 (by decide) ?_
  refine G_iadd C dX9_goMill_57 ?_
  refine G_iastN C 41 (by decide) 59 hh29 rfl (by decide) (by omega) dX9_goMill_58 (fun gg32 hh33 aa34 => ?_)
  have AA35 : Agr [40, 41] G gg32 := AA31.tr aa34 (by simp) (by simp)
  refine GW.ren 41 (by decide) (t0 := 0) (sv (upd f d (nI (h + 1))) (ml + 1)) hh33 (sv_m) (fun gg36 hh37 aa38 => ?_)
  have AA39 : Agr [40, 41] G gg36 := AA35.tr aa38 (by simp) (by simp)
  refine G_iconst C (v := 0) dX9_goMill_59 (by decide) ?_
  exact G_zret C hr rfl dX9_goMill_60 ⟨_, _, _, _, _, _, _, _, _, _, _, _, rfl, by rw [if_pos hro], ((aa38 40 (by decide)).trans ((aa34 40 (by decide)).trans ((aa30 40 (by decide)).trans hh23))), hh37, AA39⟩

abbrev rm_X9_goBackwardS : Room := ({ frames := 2, cells := 0, slots := 0, locals := 42 } : Room)
set_option maxRecDepth 100000 in
set_option maxHeartbeats 4000000 in
theorem c_X9_goBackwardS {L : GL} {ad : Nat → Nat} {G : Nat → va_E} {d : Nat} {ik kn ln th m q te us sp bg fo le fi re ca : Int32} {fx fy nx ny ux uy px py : Int64} {ml : Int32} {f : Nat → Int32}  (g40 : G 40 = .inr (9, [.ref (ad 41), .ref (ad 42), .ref (ad 43), .int ik, .ref (ad 44), .int kn, .ref (ad 45), .int ln, .int th, .int m, .int q, .int te, .long fx, .long fy, .long nx, .long ny, .long ux, .long uy, .int us, .long px, .long py, .ref (ad 46), .ref (ad 47), .int sp, .int bg, .int fo, .int le, .int fi, .int re, .int ca])) (g41 : G 41 = .inl (L.ac 0, 60, .inl (sv f ml))) (h2 : 2 ≤ d) (h60 : d ≤ 60) (hro : f d < 1) : GM L yX9_goBackward cX9_goBackward 3 ((some .int)) rm_X9_goBackwardS 50 ad G [.ref (ad 40), .int (nI d)] (fun vo G' => ∃ (j1 : Int32) (j2 : Int32) (j3 : Int32) (j4 : Int64) (j5 : Int64) (j6 : Int64) (j7 : Int64) (u1 : Int64) (u2 : Int64) (u3 : Int32) (p1 : Int64) (p2 : Int64), vo = some (.int (-12)) ∧ G' 40 = .inr (9, [.ref (ad 41), .ref (ad 42), .ref (ad 43), .int ik, .ref (ad 44), .int kn, .ref (ad 45), .int ln, .int th, .int j1, .int j2, .int j3, .long j4, .long j5, .long j6, .long j7, .long u1, .long u2, .int u3, .long p1, .long p2, .ref (ad 46), .ref (ad 47), .int sp, .int bg, .int fo, .int le, .int fi, .int re, .int ca]) ∧ Agr [40] G G') := by
  refine GM.of (own := RX9) (lo := [(0, .ref (ad 40)), (1, .int (nI d))]) (by decide +kernel) rfl rfl (Nat.le_of_ble_eq_true rfl) (fun E C hr => ?_)
  refine G_iload_n C 1 dX9_goBackward_0 rfl rfl ?_
  refine G_callS C (As := [.int (nI d)]) (rest := []) c_X9_isNumber ca_X9_isNumber km_X9_126 rfl rfl (by decide) (Nat.le_of_ble_eq_true rfl) (by decide) dX9_goBackward_1 (fun vv1 gg2 qq3 => ?_)
  obtain ⟨rfl, rfl⟩ := qq3
  refine G_if_ne C 10 dX9_goBackward_4 (by decide) (fun c4 => ?_) (fun c4 => False.elim (absurd ((num_d h2 h60).symm.trans c4) (by decide)))
  refine G_aload_n C 0 dX9_goBackward_10 rfl rfl ?_
  refine G_iload_n C 1 dX9_goBackward_11 rfl rfl ?_
  refine G_callV C (As := [.int (nI d)]) (rest := []) (c_X9_stand g40 g41 h2 h60) ca_X9_stand km_X9_89 (by decide) g40 rfl rfl rfl rfl (by decide) (Nat.le_of_ble_eq_true rfl) (by decide) dX9_goBackward_12 (fun vv4 gg5 qq6 => ?_)
  obtain ⟨rfl, rfl⟩ := qq6
  refine G_istore_n C 2 (lo' := [(2, .int (f d)), (0, .ref (ad 40)), (1, .int (nI d))]) dX9_goBackward_15 rfl (by decide) rfl ?_
  refine G_iload_n C 2 dX9_goBackward_16 rfl rfl ?_
  refine G_iconst C (v := 1) dX9_goBackward_17 (by decide) ?_
  refine G_icmp_ge C 24 dX9_goBackward_18 (by decide) (fun c18 => False.elim (Int32.not_le.mpr hro c18)) (fun c18 => ?_)
  refine G_bipush C (v := (-12)) dX9_goBackward_21 (by decide) ?_
  exact G_zret C hr rfl dX9_goBackward_23 ⟨_, _, _, _, _, _, _, _, _, _, _, _, rfl, g40, Agr.rf⟩

abbrev rm_X9_goBackwardR : Room := ({ frames := 5, cells := 0, slots := 0, locals := 108 } : Room)
set_option maxRecDepth 100000 in
set_option maxHeartbeats 4000000 in
theorem c_X9_goBackwardR {L : GL} {ad : Nat → Nat} {G : Nat → va_E} {d k : Nat} {ik kn ln th m q te us sp bg fo le fi re ca : Int32} {fx fy nx ny ux uy px py : Int64} {ml : Int32} {f : Nat → Int32}  (g40 : G 40 = .inr (9, [.ref (ad 41), .ref (ad 42), .ref (ad 43), .int ik, .ref (ad 44), .int kn, .ref (ad 45), .int ln, .int th, .int m, .int q, .int te, .long fx, .long fy, .long nx, .long ny, .long ux, .long uy, .int us, .long px, .long py, .ref (ad 46), .ref (ad 47), .int sp, .int bg, .int fo, .int le, .int fi, .int re, .int ca])) (g41 : G 41 = .inl (L.ac 0, 60, .inl (sv f ml))) (h2 : 2 ≤ d) (h60 : d ≤ 60) (hp : pern d ≠ 0) (hg : k + 1 ≤ gpn d) (hf : f d = nI (k + 1)) : GM L yX9_goBackward cX9_goBackward 3 ((some .int)) rm_X9_goBackwardR 50 ad G [.ref (ad 40), .int (nI d)] (fun vo G' => ∃ (j1 : Int32) (j2 : Int32) (j3 : Int32) (j4 : Int64) (j5 : Int64) (j6 : Int64) (j7 : Int64) (u1 : Int64) (u2 : Int64) (u3 : Int32) (p1 : Int64) (p2 : Int64), vo = some (.int 0) ∧ (p1 = (pwr d k).1) ∧ G' 40 = .inr (9, [.ref (ad 41), .ref (ad 42), .ref (ad 43), .int ik, .ref (ad 44), .int kn, .ref (ad 45), .int ln, .int th, .int j1, .int j2, .int j3, .long j4, .long j5, .long j6, .long j7, .long u1, .long u2, .int u3, .long p1, .long p2, .ref (ad 46), .ref (ad 47), .int sp, .int bg, .int fo, .int le, .int fi, .int re, .int ca]) ∧ G' 41 = .inl (L.ac 0, 60, .inl (sv (upd f d (nI k)) ml)) ∧ Agr [40, 41] G G') := by
  refine GM.of (own := RX9) (lo := [(0, .ref (ad 40)), (1, .int (nI d))]) (by decide +kernel) rfl rfl (Nat.le_of_ble_eq_true rfl) (fun E C hr => ?_)
  have h39 := gp_lt d (by omega)
  refine G_iload_n C 1 dX9_goBackward_0 rfl rfl ?_
  refine G_callS C (As := [.int (nI d)]) (rest := []) c_X9_isNumber ca_X9_isNumber km_X9_126 rfl rfl (by decide) (Nat.le_of_ble_eq_true rfl) (by decide) dX9_goBackward_1 (fun vv1 gg2 qq3 => ?_)
  obtain ⟨rfl, rfl⟩ := qq3
  refine G_if_ne C 10 dX9_goBackward_4 (by decide) (fun c4 => ?_) (fun c4 => False.elim (absurd ((num_d h2 h60).symm.trans c4) (by decide)))
  refine G_aload_n C 0 dX9_goBackward_10 rfl rfl ?_
  refine G_iload_n C 1 dX9_goBackward_11 rfl rfl ?_
  refine G_callV C (As := [.int (nI d)]) (rest := []) (c_X9_stand g40 g41 h2 h60) ca_X9_stand km_X9_89 (by decide) g40 rfl rfl rfl rfl (by decide) (Nat.le_of_ble_eq_true rfl) (by decide) dX9_goBackward_12 (fun vv4 gg5 qq6 => ?_)
  obtain ⟨rfl, rfl⟩ := qq6
  refine GW.topr (y := nI (k + 1)) hf ?_
  refine G_istore_n C 2 (lo' := [(2, .int (nI (k + 1))), (0, .ref (ad 40)), (1, .int (nI d))]) dX9_goBackward_15 rfl (by decide) rfl ?_
  refine G_iload_n C 2 dX9_goBackward_16 rfl rfl ?_
  refine G_iconst C (v := 1) dX9_goBackward_17 (by decide) ?_
  refine G_icmp_ge C 24 dX9_goBackward_18 (by decide) (fun c18 => ?_) (fun c18 => False.elim (c18 ((cI_le (a := 1) (b := k + 1) rfl rfl (by omega) (by omega)).mpr (by omega))))
  have c18n : 1 ≤ (k + 1) := (cI_le (a := 1) (b := (k + 1)) rfl rfl (by omega) (by omega)).mp c18
  refine G_aload_n C 0 dX9_goBackward_24 rfl rfl ?_
  refine G_iload_n C 1 dX9_goBackward_25 rfl rfl ?_
  refine G_iload_n C 2 dX9_goBackward_26 rfl rfl ?_
  refine G_iconst C (v := 1) dX9_goBackward_27 (by decide) ?_
  refine G_isub C dX9_goBackward_28 ?_
  refine GW.topr (y := nI k) (nI_pred k) ?_
  refine G_callV C (As := [.int (nI d), .int (nI k)]) (rest := []) (c_X9_puts g40 g41 h2 h60) ca_X9_puts km_X9_132 (by decide) g40 rfl rfl rfl rfl (by decide) (Nat.le_of_ble_eq_true rfl) (by decide) dX9_goBackward_29 (fun vv7 gg8 qq9 => ?_)
  obtain ⟨rfl, hh10, aa11⟩ := qq9
  have AA12 : Agr [41] G gg8 := aa11.wk (by simp)
  refine G_aload_n C 0 dX9_goBackward_32 rfl rfl ?_
  refine G_iload_n C 1 dX9_goBackward_33 rfl rfl ?_
  refine G_iload_n C 2 dX9_goBackward_34 rfl rfl ?_
  refine G_iconst C (v := 1) dX9_goBackward_35 (by decide) ?_
  refine G_isub C dX9_goBackward_36 ?_
  refine GW.topr (y := nI k) (nI_pred k) ?_
  refine G_callV C (As := [.int (nI d), .int (nI k)]) (rest := []) (c_X9_reaches ((aa11 40 (by decide)).trans g40) h2 h60 hp (show k ≤ gpn d by omega)) ca_X9_reaches km_X9_136 (by decide) ((aa11 40 (by decide)).trans g40) rfl rfl rfl rfl (by decide) (Nat.le_of_ble_eq_true rfl) (by decide) dX9_goBackward_37 (fun vv13 gg14 qq15 => ?_)
  obtain ⟨j_16, j_17, j_18, j_19, j_20, j_21, j_22, rfl, hh23, aa24⟩ := qq15
  have AA25 : Agr [41, 40] G gg14 := AA12.tr aa24 (by simp) (by simp)
  refine G_iconst C (v := 0) dX9_goBackward_40 (by decide) ?_
  exact G_zret C hr rfl dX9_goBackward_41 ⟨_, _, _, _, _, _, _, _, _, _, _, _, rfl, rfl, hh23, ((aa24 41 (by decide)).trans hh10), (AA25.wk (by simp))⟩

