theorem GM.mono {L : GL} {y : MethodName} {cc : ByteArray} {mL : Nat} {rt : Option FieldType} {rm : Room} {N : Nat} {ad : Nat → Nat} {G : Nat → va_E} {av : List Value} {Q Q' : Option Value → (Nat → va_E) → Prop} (h : GM L y cc mL rt rm N ad G av Q) (k : ∀ v G', Q v G' → Q' v G') : GM L y cc mL rt rm N ad G av Q' := by
  intro p e ha hc hk s m args below hf happ hP hK
  obtain ⟨n, o, h1, h2, h3, ⟨⟨v, G', e1, e2, e3⟩, e4⟩, h5⟩ := h p e ha hc hk s m args below hf happ hP hK
  exact ⟨n, o, h1, h2, h3, ⟨⟨v, G', e1, k v G' e2, e3⟩, e4⟩, h5⟩
/-- a state: heights, laid, millings -/
abbrev HE : Type := (Nat → Int32) × Int32 × Int32
def SC (L : GL) (ad : Nat → Nat) (G : Nat → va_E) (k : Nat) (e : HE) : Prop := G k = .inr (5, [.ref (ad 1), .ref (ad (k + 1)), .int e.2.1, .int e.2.2]) ∧ G (k + 1) = .inl (L.ac 0, 61, .inl e.1)
def HistP (L : GL) (ad : Nat → Nat) (G : Nat → va_E) (hs : List HE) : Prop :=
  ∃ p : Nat → Nat, (∀ i, i < 4 → (p i = 30 ∨ p i = 32 ∨ p i = 34 ∨ p i = 36)) ∧ (∀ i j, i < 4 → j < 4 → p i = p j → i = j) ∧ G 28 = .inr (0, [.ref (ad 29), .int (nI hs.length)]) ∧
    G 29 = .inl (L.ac 5, 4, .inr (.inr (.inr (.inr (r4 (ad (p 0)) (ad (p 1)) (ad (p 2)) (ad (p 3))))))) ∧ hs.length ≤ 4 ∧ ∀ i, i < 4 → ∃ e : HE, SC L ad G (p i) e ∧ (i < hs.length → hs[i]? = some e)
def hpush (hs : List HE) (e : HE) : List HE := if hs.length < 4 then hs ++ [e] else hs.drop 1 ++ [e]
abbrev hisI : List Nat := [28, 29, 30, 31, 32, 33, 34, 35, 36, 37]
theorem SC.keep {L : GL} {ad : Nat → Nat} {G G' : Nat → va_E} {k : Nat} {e : HE} (h : SC L ad G k e) (h1 : G' k = G k) (h2 : G' (k + 1) = G (k + 1)) : SC L ad G' k e := ⟨h1.trans h.1, h2.trans h.2⟩
theorem HistP.keep {L : GL} {ad : Nat → Nat} {G G' : Nat → va_E} {hs : List HE} {S : List Nat} (h : HistP L ad G hs) (a : Agr S G G') (d : ∀ j ∈ hisI, j ∉ S) : HistP L ad G' hs := by
  obtain ⟨p, h1, h2, h3, h4, h5, h6⟩ := h
  refine ⟨p, h1, h2, (a 28 (d 28 (by simp))).trans h3, (a 29 (d 29 (by simp))).trans h4, h5, fun i hi => ?_⟩
  obtain ⟨e, hs1, hs2⟩ := h6 i hi
  refine ⟨e, hs1.keep (a _ (d _ ?_)) (a _ (d _ ?_)), hs2⟩
  · rcases h1 i hi with z | z | z | z <;> simp [z]
  · rcases h1 i hi with z | z | z | z <;> simp [z]
abbrev PR (p : Nat) : Prop := p = 30 ∨ p = 32 ∨ p = 34 ∨ p = 36
theorem pr1 {a b : Nat} (ha : PR a) (hb : PR b) (n : a ≠ b) : a ∉ [28, b, b + 1] := by rcases ha with rfl | rfl | rfl | rfl <;> rcases hb with rfl | rfl | rfl | rfl <;> first | decide | exact absurd rfl n
theorem pr2 {a b : Nat} (ha : PR a) (hb : PR b) (n : a ≠ b) : a + 1 ∉ [28, b, b + 1] := by rcases ha with rfl | rfl | rfl | rfl <;> rcases hb with rfl | rfl | rfl | rfl <;> first | decide | exact absurd rfl n
theorem pr3 {a b : Nat} (ha : PR a) (hb : PR b) (n : a ≠ b) : a ∉ [28, 29, b, b + 1] := by rcases ha with rfl | rfl | rfl | rfl <;> rcases hb with rfl | rfl | rfl | rfl <;> first | decide | exact absurd rfl n
theorem pr4 {a b : Nat} (ha : PR a) (hb : PR b) (n : a ≠ b) : a + 1 ∉ [28, 29, b, b + 1] := by rcases ha with rfl | rfl | rfl | rfl <;> rcases hb with rfl | rfl | rfl | rfl <;> first | decide | exact absurd rfl n
theorem pr5 {b : Nat} (hb : PR b) : 29 ∉ [28, b, b + 1] := by rcases hb with rfl | rfl | rfl | rfl <;> decide
theorem pr6 {b : Nat} (hb : PR b) : ∀ j ∈ [28, b, b + 1], j ∈ hisI := by rcases hb with rfl | rfl | rfl | rfl <;> decide
theorem pr7 {b : Nat} (hb : PR b) : ∀ j ∈ [28, 29, b, b + 1], j ∈ hisI := by rcases hb with rfl | rfl | rfl | rfl <;> decide
theorem pr8 {b : Nat} (hb : PR b) : b ≠ 22 ∧ b + 1 ≠ 23 ∧ 22 ≠ b ∧ 23 ≠ b + 1 := by rcases hb with rfl | rfl | rfl | rfl <;> decide
theorem pr9 {b : Nat} (hb : PR b) : b ∉ [28, 22, 23] ∧ b + 1 ∉ [28, 22, 23] := by rcases hb with rfl | rfl | rfl | rfl <;> decide
theorem p_lt {p : Nat} (h : p = 30 ∨ p = 32 ∨ p = 34 ∨ p = 36) : p < 40 := by omega
theorem p_lt1 {p : Nat} (h : p = 30 ∨ p = 32 ∨ p = 34 ∨ p = 36) : p + 1 < 40 := by omega
theorem i4 {P : Nat → Prop} (h0 : P 0) (h1 : P 1) (h2 : P 2) (h3 : P 3) : ∀ i, i < 4 → P i := r4_all h0 h1 h2 h3
set_option maxRecDepth 100000 in
set_option maxHeartbeats 4000000 in
theorem h_record {L : GL} {ad : Nat → Nat} {G : Nat → va_E} {hs : List HE} {vrk : Value} {lk mk : Int32} {fk : Nat → Int32} (hH : HistP L ad G hs) (gk : G 22 = .inr (5, [vrk, .ref (ad 23), .int lk, .int mk])) (gha : G 23 = .inl (L.ac 0, 61, .inl fk)) : GM L yX0_record cX0_record 2 none rm_X0_record0 40 ad G [.ref (ad 28), .ref (ad 22)] (fun vo G' => vo = none ∧ HistP L ad G' (hpush hs (fk, lk, mk)) ∧ Agr hisI G G') := by
  obtain ⟨p, h1, h2, h3, h4, h5, h6⟩ := hH
  have q0 := h1 0 (by decide)
  have q1 := h1 1 (by decide)
  have q2 := h1 2 (by decide)
  have q3 := h1 3 (by decide)
  have n01 : p 0 ≠ p 1 := fun z => absurd (h2 0 1 (by decide) (by decide) z) (by decide)
  have n02 : p 0 ≠ p 2 := fun z => absurd (h2 0 2 (by decide) (by decide) z) (by decide)
  have n03 : p 0 ≠ p 3 := fun z => absurd (h2 0 3 (by decide) (by decide) z) (by decide)
  have n12 : p 1 ≠ p 2 := fun z => absurd (h2 1 2 (by decide) (by decide) z) (by decide)
  have n13 : p 1 ≠ p 3 := fun z => absurd (h2 1 3 (by decide) (by decide) z) (by decide)
  have n23 : p 2 ≠ p 3 := fun z => absurd (h2 2 3 (by decide) (by decide) z) (by decide)
  obtain ⟨e0, s0, t0⟩ := h6 0 (by decide)
  obtain ⟨e1, s1, t1⟩ := h6 1 (by decide)
  obtain ⟨e2, s2, t2⟩ := h6 2 (by decide)
  obtain ⟨e3, s3, t3⟩ := h6 3 (by decide)
  rcases hs with _ | ⟨a, hs⟩
  · refine GM.mono (c_X0_record0 (by decide) (by decide) (p_lt q0) (p_lt1 q0) (by decide) (by decide) h3 h4 s0.1 s0.2 gk gha (pr8 q0).1 (pr8 q0).2.1) (fun v G' hq => ?_)
    obtain ⟨rfl, w1, w2, w3, ag⟩ := hq
    have k29 : G' 29 = _ := (ag 29 (pr5 q0)).trans h4
    refine ⟨rfl, ⟨p, h1, h2, w1, k29, by simp [hpush], i4 ⟨(fk, lk, mk), ⟨w2, w3⟩, fun _ => rfl⟩ ⟨e1, s1.keep (ag _ (pr1 q1 q0 n01.symm)) (ag _ (pr2 q1 q0 n01.symm)), fun z => absurd z (by simp [hpush])⟩ ⟨e2, s2.keep (ag _ (pr1 q2 q0 n02.symm)) (ag _ (pr2 q2 q0 n02.symm)), fun z => absurd z (by simp [hpush])⟩ ⟨e3, s3.keep (ag _ (pr1 q3 q0 n03.symm)) (ag _ (pr2 q3 q0 n03.symm)), fun z => absurd z (by simp [hpush])⟩⟩, ag.wk (pr6 q0)⟩
  · rcases hs with _ | ⟨b, hs⟩
    · refine GM.mono (c_X0_record1 (by decide) (by decide) (p_lt q1) (p_lt1 q1) (by decide) (by decide) h3 h4 s1.1 s1.2 gk gha (pr8 q1).1 (pr8 q1).2.1) (fun v G' hq => ?_)
      obtain ⟨rfl, w1, w2, w3, ag⟩ := hq
      have k29 : G' 29 = _ := (ag 29 (pr5 q1)).trans h4
      refine ⟨rfl, ⟨p, h1, h2, w1, k29, by simp [hpush], i4 ⟨e0, s0.keep (ag _ (pr1 q0 q1 n01)) (ag _ (pr2 q0 q1 n01)), fun z => t0 (by simp)⟩ ⟨(fk, lk, mk), ⟨w2, w3⟩, fun _ => rfl⟩ ⟨e2, s2.keep (ag _ (pr1 q2 q1 n12.symm)) (ag _ (pr2 q2 q1 n12.symm)), fun z => absurd z (by simp [hpush])⟩ ⟨e3, s3.keep (ag _ (pr1 q3 q1 n13.symm)) (ag _ (pr2 q3 q1 n13.symm)), fun z => absurd z (by simp [hpush])⟩⟩, ag.wk (pr6 q1)⟩
    · rcases hs with _ | ⟨c, hs⟩
      · refine GM.mono (c_X0_record2 (by decide) (by decide) (p_lt q2) (p_lt1 q2) (by decide) (by decide) h3 h4 s2.1 s2.2 gk gha (pr8 q2).1 (pr8 q2).2.1) (fun v G' hq => ?_)
        obtain ⟨rfl, w1, w2, w3, ag⟩ := hq
        have k29 : G' 29 = _ := (ag 29 (pr5 q2)).trans h4
        refine ⟨rfl, ⟨p, h1, h2, w1, k29, by simp [hpush], i4 ⟨e0, s0.keep (ag _ (pr1 q0 q2 n02)) (ag _ (pr2 q0 q2 n02)), fun z => t0 (by simp)⟩ ⟨e1, s1.keep (ag _ (pr1 q1 q2 n12)) (ag _ (pr2 q1 q2 n12)), fun z => t1 (by simp)⟩ ⟨(fk, lk, mk), ⟨w2, w3⟩, fun _ => rfl⟩ ⟨e3, s3.keep (ag _ (pr1 q3 q2 n23.symm)) (ag _ (pr2 q3 q2 n23.symm)), fun z => absurd z (by simp [hpush])⟩⟩, ag.wk (pr6 q2)⟩
      · rcases hs with _ | ⟨d, hs⟩
        · refine GM.mono (c_X0_record3 (by decide) (by decide) (p_lt q3) (p_lt1 q3) (by decide) (by decide) h3 h4 s3.1 s3.2 gk gha (pr8 q3).1 (pr8 q3).2.1) (fun v G' hq => ?_)
          obtain ⟨rfl, w1, w2, w3, ag⟩ := hq
          have k29 : G' 29 = _ := (ag 29 (pr5 q3)).trans h4
          refine ⟨rfl, ⟨p, h1, h2, w1, k29, by simp [hpush], i4 ⟨e0, s0.keep (ag _ (pr1 q0 q3 n03)) (ag _ (pr2 q0 q3 n03)), fun z => t0 (by simp)⟩ ⟨e1, s1.keep (ag _ (pr1 q1 q3 n13)) (ag _ (pr2 q1 q3 n13)), fun z => t1 (by simp)⟩ ⟨e2, s2.keep (ag _ (pr1 q2 q3 n23)) (ag _ (pr2 q2 q3 n23)), fun z => t2 (by simp)⟩ ⟨(fk, lk, mk), ⟨w2, w3⟩, fun _ => rfl⟩⟩, ag.wk (pr6 q3)⟩
        · rcases hs with _ | ⟨x9, hs⟩
          · refine GM.mono (c_X0_record4 (by decide) (by decide) (p_lt q0) (p_lt1 q0) (p_lt q1) (p_lt q2) (p_lt q3) (by decide) (by decide) h3 h4 s0.1 s0.2 s1.1 s2.1 s3.1 gk gha (pr8 q0).1 (pr8 q0).2.1 n01 n02 n03) (fun v G' hq => ?_)
            obtain ⟨rfl, w1, wr, w2, w3, ag⟩ := hq
            refine ⟨rfl, ⟨fun i => if i = 3 then p 0 else p (i + 1), i4 q1 q2 q3 q0, ?_, w1, wr, by simp [hpush], i4 ⟨e1, s1.keep (ag _ (pr3 q1 q0 n01.symm)) (ag _ (pr4 q1 q0 n01.symm)), fun _ => t1 (by simp)⟩ ⟨e2, s2.keep (ag _ (pr3 q2 q0 n02.symm)) (ag _ (pr4 q2 q0 n02.symm)), fun _ => t2 (by simp)⟩ ⟨e3, s3.keep (ag _ (pr3 q3 q0 n03.symm)) (ag _ (pr4 q3 q0 n03.symm)), fun _ => t3 (by simp)⟩ ⟨(fk, lk, mk), ⟨w2, w3⟩, fun _ => rfl⟩⟩, ag.wk (pr7 q0)⟩
            intro i j hi hj
            rcases (show i = 0 ∨ i = 1 ∨ i = 2 ∨ i = 3 by omega) with rfl | rfl | rfl | rfl <;> rcases (show j = 0 ∨ j = 1 ∨ j = 2 ∨ j = 3 by omega) with rfl | rfl | rfl | rfl <;> intro z <;> first | rfl | exact absurd z n12 | exact absurd z n13 | exact absurd z n23 | exact absurd z n01 | exact absurd z n02 | exact absurd z n03 | exact absurd z.symm n12 | exact absurd z.symm n13 | exact absurd z.symm n23 | exact absurd z.symm n01 | exact absurd z.symm n02 | exact absurd z.symm n03
          · exact absurd h5 (by simp)
set_option maxRecDepth 100000 in
set_option maxHeartbeats 4000000 in
theorem h_restore0 {L : GL} {ad : Nat → Nat} {G : Nat → va_E} (hH : HistP L ad G []) : GM L yX0_restoreLatest cX0_restoreLatest 2 (some .boolean) rm_X0_restore0 40 ad G [.ref (ad 28), .ref (ad 22)] (fun vo G' => vo = some (.int 0) ∧ G = G') := by
  obtain ⟨p, h1, h2, h3, h4, h5, h6⟩ := hH
  exact c_X0_restore0 (by decide) h3
set_option maxRecDepth 100000 in
set_option maxHeartbeats 4000000 in
theorem h_restore {L : GL} {ad : Nat → Nat} {G : Nat → va_E} {hs : List HE} {e : HE} {vrk : Value} {lk mk : Int32} {fk : Nat → Int32} (hH : HistP L ad G (hs ++ [e])) (gk : G 22 = .inr (5, [vrk, .ref (ad 23), .int lk, .int mk])) (gha : G 23 = .inl (L.ac 0, 61, .inl fk)) : GM L yX0_restoreLatest cX0_restoreLatest 2 (some .boolean) rm_X0_restore0 40 ad G [.ref (ad 28), .ref (ad 22)] (fun vo G' => vo = some (.int 1) ∧ HistP L ad G' hs ∧ G' 22 = .inr (5, [vrk, .ref (ad 23), .int e.2.1, .int e.2.2]) ∧ G' 23 = .inl (L.ac 0, 61, .inl e.1) ∧ Agr [28, 22, 23] G G') := by
  obtain ⟨p, h1, h2, h3, h4, h5, h6⟩ := hH
  have q0 := h1 0 (by decide)
  have q1 := h1 1 (by decide)
  have q2 := h1 2 (by decide)
  have q3 := h1 3 (by decide)
  obtain ⟨e0, s0, t0⟩ := h6 0 (by decide)
  obtain ⟨e1, s1, t1⟩ := h6 1 (by decide)
  obtain ⟨e2, s2, t2⟩ := h6 2 (by decide)
  obtain ⟨e3, s3, t3⟩ := h6 3 (by decide)
  rcases hs with _ | ⟨a, hs⟩
  · obtain rfl : e = e0 := Option.some.inj (t0 (by simp))
    refine GM.mono (c_X0_restore1 (by decide) (by decide) (p_lt q0) (p_lt1 q0) (by decide) (by decide) h3 h4 s0.1 s0.2 gk gha (pr8 q0).2.2.1 (pr8 q0).2.2.2) (fun v G' hq => ?_)
    obtain ⟨rfl, w1, w2, w3, ag⟩ := hq
    have k29 : G' 29 = _ := (ag 29 (by simp)).trans h4
    exact ⟨rfl, ⟨p, h1, h2, w1, k29, by simp, i4 ⟨e, s0.keep (ag _ (pr9 q0).1) (ag _ (pr9 q0).2), fun z => absurd z (by simp)⟩ ⟨e1, s1.keep (ag _ (pr9 q1).1) (ag _ (pr9 q1).2), fun z => absurd z (by simp)⟩ ⟨e2, s2.keep (ag _ (pr9 q2).1) (ag _ (pr9 q2).2), fun z => absurd z (by simp)⟩ ⟨e3, s3.keep (ag _ (pr9 q3).1) (ag _ (pr9 q3).2), fun z => absurd z (by simp)⟩⟩, w2, w3, ag⟩
  · rcases hs with _ | ⟨b, hs⟩
    · obtain rfl : e = e1 := Option.some.inj (t1 (by simp))
      refine GM.mono (c_X0_restore2 (by decide) (by decide) (p_lt q1) (p_lt1 q1) (by decide) (by decide) h3 h4 s1.1 s1.2 gk gha (pr8 q1).2.2.1 (pr8 q1).2.2.2) (fun v G' hq => ?_)
      obtain ⟨rfl, w1, w2, w3, ag⟩ := hq
      have k29 : G' 29 = _ := (ag 29 (by simp)).trans h4
      exact ⟨rfl, ⟨p, h1, h2, w1, k29, by simp, i4 ⟨e0, s0.keep (ag _ (pr9 q0).1) (ag _ (pr9 q0).2), fun z => t0 (by simp)⟩ ⟨e, s1.keep (ag _ (pr9 q1).1) (ag _ (pr9 q1).2), fun z => absurd z (by simp)⟩ ⟨e2, s2.keep (ag _ (pr9 q2).1) (ag _ (pr9 q2).2), fun z => absurd z (by simp)⟩ ⟨e3, s3.keep (ag _ (pr9 q3).1) (ag _ (pr9 q3).2), fun z => absurd z (by simp)⟩⟩, w2, w3, ag⟩
    · rcases hs with _ | ⟨c, hs⟩
      · obtain rfl : e = e2 := Option.some.inj (t2 (by simp))
        refine GM.mono (c_X0_restore3 (by decide) (by decide) (p_lt q2) (p_lt1 q2) (by decide) (by decide) h3 h4 s2.1 s2.2 gk gha (pr8 q2).2.2.1 (pr8 q2).2.2.2) (fun v G' hq => ?_)
        obtain ⟨rfl, w1, w2, w3, ag⟩ := hq
        have k29 : G' 29 = _ := (ag 29 (by simp)).trans h4
        exact ⟨rfl, ⟨p, h1, h2, w1, k29, by simp, i4 ⟨e0, s0.keep (ag _ (pr9 q0).1) (ag _ (pr9 q0).2), fun z => t0 (by simp)⟩ ⟨e1, s1.keep (ag _ (pr9 q1).1) (ag _ (pr9 q1).2), fun z => t1 (by simp)⟩ ⟨e, s2.keep (ag _ (pr9 q2).1) (ag _ (pr9 q2).2), fun z => absurd z (by simp)⟩ ⟨e3, s3.keep (ag _ (pr9 q3).1) (ag _ (pr9 q3).2), fun z => absurd z (by simp)⟩⟩, w2, w3, ag⟩
      · rcases hs with _ | ⟨d, hs⟩
        · obtain rfl : e = e3 := Option.some.inj (t3 (by simp))
          refine GM.mono (c_X0_restore4 (by decide) (by decide) (p_lt q3) (p_lt1 q3) (by decide) (by decide) h3 h4 s3.1 s3.2 gk gha (pr8 q3).2.2.1 (pr8 q3).2.2.2) (fun v G' hq => ?_)
          obtain ⟨rfl, w1, w2, w3, ag⟩ := hq
          have k29 : G' 29 = _ := (ag 29 (by simp)).trans h4
          exact ⟨rfl, ⟨p, h1, h2, w1, k29, by simp, i4 ⟨e0, s0.keep (ag _ (pr9 q0).1) (ag _ (pr9 q0).2), fun z => t0 (by simp)⟩ ⟨e1, s1.keep (ag _ (pr9 q1).1) (ag _ (pr9 q1).2), fun z => t1 (by simp)⟩ ⟨e2, s2.keep (ag _ (pr9 q2).1) (ag _ (pr9 q2).2), fun z => t2 (by simp)⟩ ⟨e, s3.keep (ag _ (pr9 q3).1) (ag _ (pr9 q3).2), fun z => absurd z (by simp)⟩⟩, w2, w3, ag⟩
        · exact absurd h5 (by simp)
