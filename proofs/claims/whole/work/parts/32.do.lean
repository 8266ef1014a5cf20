theorem cause_m {f : Nat → Int32} {l : Int32} {d h : Nat} (hk : okH f) (h2 : 2 ≤ d) (h60 : d ≤ 60) (hg : h ≤ gpn d) (hf : f d = nI h) : causeF f l 109 (nI d) = 0 ↔ h < gpn d := by
  have h39 := gp_lt d (by omega)
  rw [causeF, if_neg (by rw [num_d h2 h60]; decide), if_neg (by decide), if_pos rfl, hOf_d f (by omega), hf, if_neg (nI_neg (by omega)), tab_d _ (by omega)]
  have e : tGp d ≤ nI h ↔ gpn d ≤ h := cI_le (a := gpn d) (b := h) rfl rfl (by omega) (by omega)
  by_cases z : gpn d ≤ h
  · rw [if_pos (e.mpr z)]; exact ⟨fun y => absurd y (by decide), fun y => by omega⟩
  · rw [if_neg (fun y => z (e.mp y))]; exact ⟨fun _ => by omega, fun _ => rfl⟩
theorem cause_m0 {f : Nat → Int32} {l : Int32} {d : Nat} (h2 : 2 ≤ d) (h60 : d ≤ 60) (hf : f d = -1) : causeF f l 109 (nI d) = 2 := by
  rw [causeF, if_neg (by rw [num_d h2 h60]; decide), if_neg (by decide), if_pos rfl, hOf_d f (by omega), hf, if_pos rfl]
theorem cause_b {f : Nat → Int32} {l : Int32} {d : Nat} (h2 : 2 ≤ d) (h60 : d ≤ 60) : causeF f l 98 (nI d) = 0 ↔ ¬ f d ≤ 0 := by
  rw [causeF, if_neg (by rw [num_d h2 h60]; decide), if_neg (by decide), if_neg (by decide), if_pos rfl, hOf_d f (by omega)]
  by_cases z : f d ≤ 0
  · rw [if_pos z]; exact ⟨fun y => absurd y (by decide), fun y => absurd z y⟩
  · rw [if_neg z]; exact ⟨fun _ => z, fun _ => rfl⟩
/-- an order's state, done if it is possible -/
def dcF (f : Nat → Int32) (l ml ch n : Int32) : (Nat → Int32) × Int32 × Int32 := if causeF f l ch n = 0 then coF f l ml ch n else (f, l, ml)
theorem dc_y {f : Nat → Int32} {l ml ch n : Int32} (h : causeF f l ch n = 0) : dcF f l ml ch n = coF f l ml ch n := if_pos h
theorem dc_n {f : Nat → Int32} {l ml ch n : Int32} (h : ¬ causeF f l ch n = 0) : dcF f l ml ch n = (f, l, ml) := if_neg h
theorem io_4 {c : Int32} (h : ¬ ioF c = 0) : c = 108 ∨ c = 116 ∨ c = 109 ∨ c = 98 := by
  by_cases h1 : c = 108
  · exact Or.inl h1
  · by_cases h2 : c = 116
    · exact Or.inr (Or.inl h2)
    · by_cases h3 : c = 109
      · exact Or.inr (Or.inr (Or.inl h3))
      · by_cases h4 : c = 98
        · exact Or.inr (Or.inr (Or.inr h4))
        · exact absurd (by rw [ioF, if_neg h1, if_neg h2, if_neg h3, if_neg h4]) h
/-- what an order tells -/
def tol (f : Nat → Int32) (l ch n t : Int32) : Prop := (causeF f l ch n = 1 → t = -11) ∧ (causeF f l ch n = 2 → t = -12) ∧ (causeF f l ch n = 0 → 0 ≤ t)
theorem tol_1 {f : Nat → Int32} {l ch n : Int32} (h : numF n = 0) : tol f l ch n (-11) := by
  have e : causeF f l ch n = 1 := cause_1.mpr h
  exact ⟨fun _ => rfl, fun z => absurd (e.symm.trans z) (by decide), fun z => absurd (e.symm.trans z) (by decide)⟩
theorem tol_2 {f : Nat → Int32} {l ch n : Int32} (h : ¬ numF n = 0) (h2 : ¬ causeF f l ch n = 0) : tol f l ch n (-12) :=
  ⟨fun z => absurd (cause_1.mp z) h, fun _ => rfl, fun z => absurd z h2⟩
theorem tol_0 {f : Nat → Int32} {l ch n t : Int32} (h : causeF f l ch n = 0) (ht : 0 ≤ t) : tol f l ch n t :=
  ⟨fun z => absurd (h.symm.trans z) (by decide), fun z => absurd (h.symm.trans z) (by decide), fun _ => ht⟩
set_option maxRecDepth 100000 in
set_option maxHeartbeats 4000000 in
theorem c_X9_do {L : GL} {ad : Nat → Nat} {G : Nat → va_E} {ik kn ln th m q te us sp bg fo le re ca : Int32} {fx fy nx ny ux uy px py : Int64} {ml : Int32} {f : Nat → Int32}  {l ch n : Int32} {c : Nat} (g40 : G 40 = .inr (9, [.ref (ad 41), .ref (ad 42), .ref (ad 43), .int ik, .ref (ad 44), .int kn, .ref (ad 45), .int ln, .int th, .int m, .int q, .int te, .long fx, .long fy, .long nx, .long ny, .long ux, .long uy, .int us, .long px, .long py, .ref (ad 46), .ref (ad 47), .int sp, .int bg, .int fo, .int le, .int n, .int re, .int ca])) (g41 : G 41 = .inl (L.ac 0, 60, .inl (sv f ml))) (hle : le = ch) (hio : ¬ ioF ch = 0) (hk : okH f) (hl : l = manyF f 59) (hc : l = nI c) (h8 : c ≤ 8) : GM L yX9_doesOrder cX9_doesOrder 1 ((some .int)) rm_X9_do_mR 50 ad G [.ref (ad 40)] (fun vo G' => ∃ (t : Int32) (j1 : Int32) (j2 : Int32) (j3 : Int32) (j4 : Int64) (j5 : Int64) (j6 : Int64) (j7 : Int64) (u1 : Int64) (u2 : Int64) (u3 : Int32) (p1 : Int64) (p2 : Int64), vo = some (.int t) ∧ tol f l ch n t ∧ G' 40 = .inr (9, [.ref (ad 41), .ref (ad 42), .ref (ad 43), .int ik, .ref (ad 44), .int kn, .ref (ad 45), .int ln, .int th, .int j1, .int j2, .int j3, .long j4, .long j5, .long j6, .long j7, .long u1, .long u2, .int u3, .long p1, .long p2, .ref (ad 46), .ref (ad 47), .int sp, .int bg, .int fo, .int le, .int n, .int re, .int ca]) ∧ G' 41 = .inl (L.ac 0, 60, .inl (sv (dcF f l ml ch n).1 (dcF f l ml ch n).2.2)) ∧ Agr [40, 41] G G') := by
  by_cases hN : numF n = 0
  · rw [dc_n (by rw [cause_1.mpr hN]; decide)]
    rcases io_4 hio with rfl | rfl | rfl | rfl
    · exact GM.mono (c_X9_do_lA g40 g41 hle hN) (fun v G' hq => by obtain ⟨rfl, rfl⟩ := hq; exact ⟨_, _, _, _, _, _, _, _, _, _, _, _, _, rfl, tol_1 hN, g40, g41, Agr.rf⟩)
    · exact GM.mono (c_X9_do_tA g40 g41 hle hN) (fun v G' hq => by obtain ⟨rfl, rfl⟩ := hq; exact ⟨_, _, _, _, _, _, _, _, _, _, _, _, _, rfl, tol_1 hN, g40, g41, Agr.rf⟩)
    · exact GM.mono (c_X9_do_mA g40 g41 hle hN) (fun v G' hq => by obtain ⟨rfl, rfl⟩ := hq; exact ⟨_, _, _, _, _, _, _, _, _, _, _, _, _, rfl, tol_1 hN, g40, g41, Agr.rf⟩)
    · exact GM.mono (c_X9_do_bA g40 g41 hle hN) (fun v G' hq => by obtain ⟨rfl, rfl⟩ := hq; exact ⟨_, _, _, _, _, _, _, _, _, _, _, _, _, rfl, tol_1 hN, g40, g41, Agr.rf⟩)
  · obtain ⟨d, h2, h60, rfl⟩ := num_nat hN
    have h39 := gp_lt d (by omega)
    rcases io_4 hio with rfl | rfl | rfl | rfl
    · by_cases z : rsF f d ≤ 0
      · have e := (cause_l hk h2 h60 hl hc h8).mpr z
        rw [dc_y e, show coF f l ml 108 (nI d) = (upd f d 0, l + 1, ml) by rw [coF, if_pos rfl, setH_d f _ (by omega)]]
        refine GM.mono (c_X9_do_lR g40 g41 hle h2 h60 z) (fun v G' hq => ?_)
        obtain ⟨rfl, w1, w2⟩ := hq
        obtain ⟨c2, hc2, e2⟩ := many_nat (upd f d 0) 59
        exact ⟨_, _, _, _, _, _, _, _, _, _, _, _, _, rfl, tol_0 e (by rw [e2]; exact nI_pos' (by omega)), (w2 40 (by decide)).trans g40, w1, w2.wk (by simp)⟩
      · have e := fun y => z ((cause_l hk h2 h60 hl hc h8).mp y)
        rw [dc_n e]
        exact GM.mono (c_X9_do_lS g40 g41 hle h2 h60 z) (fun v G' hq => by obtain ⟨rfl, rfl⟩ := hq; exact ⟨_, _, _, _, _, _, _, _, _, _, _, _, _, rfl, tol_2 hN e, g40, g41, Agr.rf⟩)
    · by_cases z : 0 ≤ f d
      · have e := (cause_t (l := l) hk h2 h60).mpr z
        rw [dc_y e, show coF f l ml 116 (nI d) = (upd f d (-1), l - 1, ml) by rw [coF, if_neg (by decide), if_pos rfl, setH_d f _ (by omega)]]
        refine GM.mono (c_X9_do_tR g40 g41 hle h2 h60 z) (fun v G' hq => ?_)
        obtain ⟨rfl, w1, w2⟩ := hq
        exact ⟨_, _, _, _, _, _, _, _, _, _, _, _, _, rfl, tol_0 e z, (w2 40 (by decide)).trans g40, w1, w2.wk (by simp)⟩
      · have e := fun y => z ((cause_t (l := l) hk h2 h60).mp y)
        rw [dc_n e]
        exact GM.mono (c_X9_do_tS g40 g41 hle h2 h60 (Int32.not_le.mp z)) (fun v G' hq => by obtain ⟨rfl, rfl⟩ := hq; exact ⟨_, _, _, _, _, _, _, _, _, _, _, _, _, rfl, tol_2 hN e, g40, g41, Agr.rf⟩)
    · rcases hk d h2 h60 with hf | ⟨hp, h, hg, hf⟩
      · have e : ¬ causeF f l 109 (nI d) = 0 := by rw [cause_m0 h2 h60 hf]; decide
        rw [dc_n e]
        exact GM.mono (c_X9_do_mS1 g40 g41 hle h2 h60 (by rw [hf]; decide)) (fun v G' hq => by obtain ⟨a0, a1, a2, a3, a4, a5, a6, a7, a8, a9, a10, a11, rfl, w1, w2⟩ := hq; exact ⟨_, _, _, _, _, _, _, _, _, _, _, _, _, rfl, tol_2 hN e, w1, (w2 41 (by decide)).trans g41, w2.wk (by simp)⟩)
      · by_cases z : h < gpn d
        · have e := (cause_m (l := l) hk h2 h60 hg hf).mpr z
          rw [dc_y e, show coF f l ml 109 (nI d) = (upd f d (nI (h + 1)), l, ml + 1) by rw [coF, if_neg (by decide), if_neg (by decide), if_pos rfl, setH_d f _ (by omega), hOf_d f (by omega), hf]; rw [show nI h + 1 = nI (h + 1) from nI_add h 1]]
          refine GM.mono (c_X9_do_mR g40 g41 hle h2 h60 hp hg hf z) (fun v G' hq => ?_)
          obtain ⟨a0, a1, a2, a3, a4, a5, a6, a7, a8, a9, a10, a11, rfl, w1, w2, w3⟩ := hq
          exact ⟨_, _, _, _, _, _, _, _, _, _, _, _, _, rfl, tol_0 e (by decide), w1, w2, w3⟩
        · have e := fun y => z ((cause_m (l := l) hk h2 h60 hg hf).mp y)
          rw [dc_n e]
          exact GM.mono (c_X9_do_mS2 g40 g41 hle h2 h60 hp hg hf z) (fun v G' hq => by obtain ⟨a0, a1, a2, a3, a4, a5, a6, a7, a8, a9, a10, a11, rfl, w1, w2⟩ := hq; exact ⟨_, _, _, _, _, _, _, _, _, _, _, _, _, rfl, tol_2 hN e, w1, (w2 41 (by decide)).trans g41, w2.wk (by simp)⟩)
    · by_cases z : f d ≤ 0
      · have e := fun y => ((cause_b (f := f) (l := l) h2 h60).mp y) z
        have z1 : f d < 1 := Int32.lt_of_le_of_lt z (by decide)
        rw [dc_n e]
        exact GM.mono (c_X9_do_bS g40 g41 hle h2 h60 z1) (fun v G' hq => by obtain ⟨a0, a1, a2, a3, a4, a5, a6, a7, a8, a9, a10, a11, rfl, w1, w2⟩ := hq; exact ⟨_, _, _, _, _, _, _, _, _, _, _, _, _, rfl, tol_2 hN e, w1, (w2 41 (by decide)).trans g41, w2.wk (by simp)⟩)
      · have e := (cause_b (f := f) (l := l) h2 h60).mpr z
        rcases hk d h2 h60 with hf | ⟨hp, h, hg, hf⟩
        · exact absurd (by rw [hf]; decide) z
        · have h0 : h ≠ 0 := fun y => z (by rw [hf, y]; decide)
          obtain ⟨k, rfl⟩ : ∃ k, h = k + 1 := ⟨h - 1, by omega⟩
          rw [dc_y e, show coF f l ml 98 (nI d) = (upd f d (nI k), l, ml) by rw [coF, if_neg (by decide), if_neg (by decide), if_neg (by decide), if_pos rfl, setH_d f _ (by omega), hOf_d f (by omega), hf, nI_pred k]]
          refine GM.mono (c_X9_do_bR g40 g41 hle h2 h60 hp hg hf) (fun v G' hq => ?_)
          obtain ⟨a0, a1, a2, a3, a4, a5, a6, a7, a8, a9, a10, a11, rfl, w1, w2, w3⟩ := hq
          exact ⟨_, _, _, _, _, _, _, _, _, _, _, _, _, rfl, tol_0 e (by decide), w1, w2, w3⟩
