def PWn (d k : Nat) : va_E := .inr (1, [.int (tUx d), .int (tUy d), .int (nI d), .long (pwr d k).1, .long (pwr d k).2])
def qwq (ad : Nat → Nat) (p : Nat → Nat) : Nat → Option Nat := fun i => some (ad (p i))
def qsw (p : Nat → Nat) (b s : Nat) : Nat → Nat := fun i => if i = b then p s else if i = s then p b else p i
/-- the queue: slot i is the Power in the cell p i, of the number nm i if i < sz -/
def qQS (G : Nat → va_E) (p nm kap : Nat → Nat) (sz : Nat) : Prop :=
  (∀ i, i < 8 → 11 ≤ p i ∧ p i ≤ 18) ∧ (∀ i j, i < 8 → j < 8 → p i = p j → i = j) ∧ sz ≤ 8 ∧
  (∀ i, i < 8 → ∃ (a b c : Int32) (x y : Int64), G (p i) = .inr (1, [.int a, .int b, .int c, .long x, .long y])) ∧
  (∀ i, i < sz → 2 ≤ nm i ∧ nm i ≤ 60 ∧ pern (nm i) ≠ 0 ∧ kap (nm i) ≠ 0 ∧ kap (nm i) ≤ gpn (nm i) ∧ G (p i) = PWn (nm i) (kap (nm i))) ∧ (∀ i j, i < sz → j < sz → nm i = nm j → i = j)
def qCQ (nm kap : Nat → Nat) (sz : Nat) : Prop := ∀ d, 2 ≤ d → d ≤ 60 → kap d ≠ 0 → ∃ i, i < sz ∧ nm i = d
abbrev quI : List Nat := [9, 10, 11, 12, 13, 14, 15, 16, 17, 18]
theorem q_in {x : Nat} (h1 : 11 ≤ x) (h2 : x ≤ 18) : x ∈ quI := by
  rcases (show x = 11 ∨ x = 12 ∨ x = 13 ∨ x = 14 ∨ x = 15 ∨ x = 16 ∨ x = 17 ∨ x = 18 by omega) with rfl | rfl | rfl | rfl | rfl | rfl | rfl | rfl <;> decide
abbrev quP : List Nat := [11, 12, 13, 14, 15, 16, 17, 18]
theorem q_inP {x : Nat} (h1 : 11 ≤ x) (h2 : x ≤ 18) : x ∈ quP := by
  rcases (show x = 11 ∨ x = 12 ∨ x = 13 ∨ x = 14 ∨ x = 15 ∨ x = 16 ∨ x = 17 ∨ x = 18 by omega) with rfl | rfl | rfl | rfl | rfl | rfl | rfl | rfl <;> decide
theorem q_nin {x : Nat} (h1 : 11 ≤ x) (h2 : x ≤ 18) : x ∉ ([9, 10] : List Nat) := by
  intro h
  rcases List.mem_cons.mp h with h | h
  · omega
  · rcases List.mem_cons.mp h with h | h
    · omega
    · exact absurd h (List.not_mem_nil)
theorem qwq_at {ad p : Nat → Nat} {i : Nat} (h : i < 8) : qwq ad p (nI i).toNatClampNeg = some (ad (p i)) := by rw [nI_clamp (by omega)]; rfl
theorem qwq_sw {ad p : Nat → Nat} {b s : Nat} (hb : b < 8) (hs : s < 8) (j : Nat) : va_up (va_up (qwq ad p) (nI b).toNatClampNeg (some (ad (p s)))) (nI s).toNatClampNeg (some (ad (p b))) j = qwq ad (qsw p b s) j := by
  rw [nI_clamp (by omega), nI_clamp (by omega)]
  by_cases e1 : j = s
  · rw [e1, up_same, qwq, qsw]
    by_cases e2 : s = b
    · rw [if_pos e2, e2]
    · rw [if_neg e2, if_pos rfl]
  · rw [up_ne e1, qwq, qsw]
    by_cases e2 : j = b
    · rw [e2, up_same, if_pos rfl]
    · rw [up_ne e2, if_neg e2, if_neg e1]; rfl
theorem qs_0 {G : Nat → va_E} {p nm kap : Nat → Nat} {sz : Nat} (h : qQS G p nm kap sz) (nm2 kap2 : Nat → Nat) : qQS G p nm2 kap2 0 :=
  ⟨h.1, h.2.1, Nat.zero_le _, h.2.2.2.1, fun i hi => absurd hi (Nat.not_lt_zero _), fun i j hi => absurd hi (Nat.not_lt_zero _)⟩
theorem qs_keep {G G2 : Nat → va_E} {p nm kap : Nat → Nat} {sz : Nat} {S : List Nat} (h : qQS G p nm kap sz) (a : Agr S G G2) (d : ∀ j ∈ quP, j ∉ S) : qQS G2 p nm kap sz := by
  obtain ⟨h1, h2, h3, h4, h5, h6⟩ := h
  have e : ∀ i, i < 8 → G2 (p i) = G (p i) := fun i hi => a _ (d _ (q_inP (h1 i hi).1 (h1 i hi).2))
  refine ⟨h1, h2, h3, fun i hi => ?_, fun i hi => ?_, h6⟩
  · obtain ⟨x1, x2, x3, x4, x5, z⟩ := h4 i hi
    exact ⟨x1, x2, x3, x4, x5, (e i hi).trans z⟩
  · have z := h5 i hi
    exact ⟨z.1, z.2.1, z.2.2.1, z.2.2.2.1, z.2.2.2.2.1, (e i (by omega)).trans z.2.2.2.2.2⟩
theorem qs_any {G G2 : Nat → va_E} {p nm kap : Nat → Nat} {sz b : Nat} {x1 x2 x3 : Int32} {x4 x5 : Int64} (h : qQS G p nm kap sz) (hb : b < 8) (g : G2 (p b) = .inr (1, [.int x1, .int x2, .int x3, .long x4, .long x5])) (a : Agr [p b] G G2) (i : Nat) (hi : i < 8) : ∃ (a b c : Int32) (x y : Int64), G2 (p i) = .inr (1, [.int a, .int b, .int c, .long x, .long y]) := by
  obtain ⟨h1, h2, h3, h4, h5, h6⟩ := h
  by_cases e : i = b
  · exact ⟨x1, x2, x3, x4, x5, e ▸ g⟩
  · obtain ⟨y1, y2, y3, y4, y5, z⟩ := h4 i hi
    exact ⟨y1, y2, y3, y4, y5, (a _ (by simp only [List.mem_singleton]; exact fun z => e (h2 i b hi hb z))).trans z⟩
/-- the power in slot b climbs -/
theorem qs_ok {G G2 : Nat → va_E} {p nm kap : Nat → Nat} {sz b : Nat} (h : qQS G p nm kap sz) (hb : b < sz) (hk : kap (nm b) < gpn (nm b)) (g : G2 (p b) = PWn (nm b) (kap (nm b) + 1)) (a : Agr [p b] G G2) : qQS G2 p nm (stp kap (nm b)) sz := by
  have g0 : G2 (p b) = .inr (1, [.int (tUx (nm b)), .int (tUy (nm b)), .int (nI (nm b)), .long (pwr (nm b) (kap (nm b) + 1)).1, .long (pwr (nm b) (kap (nm b) + 1)).2]) := g
  refine ⟨h.1, h.2.1, h.2.2.1, qs_any h (by have := h.2.2.1; omega) g0 a, fun i hi => ?_, h.2.2.2.2.2⟩
  have z := h.2.2.2.2.1 i hi
  have h8 := h.2.2.1
  by_cases e : i = b
  · subst e
    have n : stp kap (nm i) (nm i) = kap (nm i) + 1 := by rw [stp, kpU_y, nxk, if_pos hk]
    rw [n]
    exact ⟨z.1, z.2.1, z.2.2.1, Nat.succ_ne_zero _, hk, g⟩
  · have e2 : nm i ≠ nm b := fun y => e (h.2.2.2.2.2 i b hi hb y)
    have n : stp kap (nm b) (nm i) = kap (nm i) := by rw [stp, kpU_n e2]
    rw [n]
    exact ⟨z.1, z.2.1, z.2.2.1, z.2.2.2.1, z.2.2.2.2.1, (a _ (by simp only [List.mem_singleton]; exact fun y => e (h.2.1 i b (by omega) (by omega) y))).trans z.2.2.2.2.2⟩
theorem cq_ok {nm kap : Nat → Nat} {sz b : Nat} (h : qCQ nm kap sz) (hb : b < sz) : qCQ nm (stp kap (nm b)) sz := by
  intro d h2 h60 hd
  by_cases e : d = nm b
  · exact ⟨b, hb, e.symm⟩
  · rw [stp, kpU_n e] at hd
    exact h d h2 h60 hd
/-- the power in slot b is at its end: the last one takes its place -/
theorem qsw_all {P : Nat → Prop} {p : Nat → Nat} {b s : Nat} (hb : b < 8) (hs : s < 8) (h : ∀ i, i < 8 → P (p i)) (i : Nat) (hi : i < 8) : P (qsw p b s i) := by
  unfold qsw
  split
  · exact h s hs
  · split
    · exact h b hb
    · exact h i hi
theorem qsw_in {p : Nat → Nat} {b s : Nat} (hb : b < 8) (hs : s < 8) (h : ∀ i j, i < 8 → j < 8 → p i = p j → i = j) (i j : Nat) (hi : i < 8) (hj : j < 8) : qsw p b s i = qsw p b s j → i = j := by
  unfold qsw
  have k1 := h b s hb hs
  have k2 := h i s hi hs
  have k3 := h i b hi hb
  have k4 := h s j hs hj
  have k5 := h b j hb hj
  have k6 := h i j hi hj
  have k7 := h s b hs hb
  split <;> split <;> (try split) <;> (try split) <;> intro z <;> first | omega | (have := k1 z; omega) | (have := k2 z; omega) | (have := k3 z; omega) | (have := k4 z; omega) | (have := k5 z; omega) | exact k6 z | (have := k7 z; omega)
theorem qs_sw {G G2 : Nat → va_E} {p nm kap : Nat → Nat} {s b : Nat} {x1 x2 x3 : Int32} {x4 x5 : Int64} (h : qQS G p nm kap (s + 1)) (hb : b < s + 1) (hk : ¬ kap (nm b) < gpn (nm b)) (g : G2 (p b) = .inr (1, [.int x1, .int x2, .int x3, .long x4, .long x5])) (a : Agr [p b, 9, 10] G G2) : qQS G2 (qsw p b s) (qsw nm b s) (stp kap (nm b)) s := by
  obtain ⟨h1, h2, h3, h4, h5, h6⟩ := h
  have hn : ∀ i, i < 8 → i ≠ b → G2 (p i) = G (p i) := fun i hi e => a _ (fun z => by
    rcases List.mem_cons.mp z with z | z
    · exact e (h2 i b hi (by omega) z)
    · exact q_nin (h1 i hi).1 (h1 i hi).2 z)
  refine ⟨qsw_all (P := fun x => 11 ≤ x ∧ x ≤ 18) (by omega) (by omega) h1, qsw_in (by omega) (by omega) h2, by omega, qsw_all (P := fun x => ∃ (a b c : Int32) (x2 y : Int64), G2 x = .inr (1, [.int a, .int b, .int c, .long x2, .long y])) (by omega) (by omega) (fun i hi => ?_), fun i hi => ?_, fun i j hi hj => ?_⟩
  · by_cases e : i = b
    · exact ⟨x1, x2, x3, x4, x5, e ▸ g⟩
    · obtain ⟨y1, y2, y3, y4, y5, z⟩ := h4 i hi
      exact ⟨y1, y2, y3, y4, y5, (hn i hi e).trans z⟩
  · have key : ∀ q, q < s + 1 → q ≠ b → 2 ≤ nm q ∧ nm q ≤ 60 ∧ pern (nm q) ≠ 0 ∧ stp kap (nm b) (nm q) ≠ 0 ∧ stp kap (nm b) (nm q) ≤ gpn (nm q) ∧ G2 (p q) = PWn (nm q) (stp kap (nm b) (nm q)) := fun q hq e => by
      have z := h5 q hq
      have e2 : nm q ≠ nm b := fun y => e (h6 q b hq hb y)
      have n : stp kap (nm b) (nm q) = kap (nm q) := by rw [stp, kpU_n e2]
      rw [n]
      exact ⟨z.1, z.2.1, z.2.2.1, z.2.2.2.1, z.2.2.2.2.1, (hn q (by omega) e).trans z.2.2.2.2.2⟩
    by_cases e : i = b
    · have e1 : qsw nm b s i = nm s := by rw [qsw, if_pos e]
      have e2 : qsw p b s i = p s := by rw [qsw, if_pos e]
      rw [e1, e2]
      exact key s (by omega) (by omega)
    · have e1 : qsw nm b s i = nm i := by rw [qsw, if_neg e, if_neg (by omega)]
      have e2 : qsw p b s i = p i := by rw [qsw, if_neg e, if_neg (by omega)]
      rw [e1, e2]
      exact key i (by omega) e
  · unfold qsw
    by_cases ei : i = b
    · rw [if_pos ei]
      by_cases ej : j = b
      · intro _; omega
      · rw [if_neg ej, if_neg (by omega)]; intro z; have := h6 s j (by omega) (by omega) z; omega
    · rw [if_neg ei, if_neg (by omega)]
      by_cases ej : j = b
      · rw [if_pos ej]; intro z; have := h6 i s (by omega) (by omega) z; omega
      · rw [if_neg ej, if_neg (by omega)]; exact h6 i j (by omega) (by omega)
theorem cq_sw {nm kap : Nat → Nat} {s b : Nat} (h : qCQ nm kap (s + 1)) (hb : b < s + 1) (hk : ¬ kap (nm b) < gpn (nm b)) : qCQ (qsw nm b s) (stp kap (nm b)) s := by
  intro d h2 h60 hd
  by_cases e : d = nm b
  · rw [e, stp, kpU_y, nxk, if_neg hk] at hd; exact absurd rfl hd
  · rw [stp, kpU_n e] at hd
    obtain ⟨i, hi, hd2⟩ := h d h2 h60 hd
    have ib : i ≠ b := fun z => e (by rw [← hd2, z])
    by_cases e3 : i = s
    · refine ⟨b, by omega, ?_⟩
      rw [qsw, if_pos rfl, ← e3]; exact hd2
    · refine ⟨i, by omega, ?_⟩
      rw [qsw, if_neg ib, if_neg e3]; exact hd2
theorem cq_L {G : Nat → va_E} {p nm kap : Nat → Nat} {sz b : Nat} (h : qQS G p nm kap sz) (hc : qCQ nm kap sz) (hb : b < sz) (hm : ∀ j, j < sz → LEx (pwr (nm b) (kap (nm b))).1 (nm b) (pwr (nm j) (kap (nm j))).1 (nm j)) : isL kap 59 (nm b) := by
  have z := h.2.2.2.2.1 b hb
  refine ⟨z.1, by omega, z.2.2.2.1, fun d h2 h60 hd => ?_⟩
  obtain ⟨i, hi, e⟩ := hc d h2 (by omega) hd
  subst e
  rw [xa, xa, xk, if_neg z.2.2.2.1, xk, if_neg hd]
  exact hm i hi
theorem cq_z {nm kap : Nat → Nat} (hk : okK kap) (hc : qCQ nm kap 0) : lst kap = 0 := by
  refine Classical.byContradiction fun z => ?_
  have s := lst_s hk z
  obtain ⟨i, hi, _⟩ := hc _ s.1 (by have := s.2.1; omega) s.2.2.1
  omega
theorem kp_r {f : Nat → Int32} {i r : Nat} (hk : okH f) (h : isL (kp f i) 59 r) : lst (kp f i) = r ∧ kp f (i + 1) = stp (kp f i) r := by
  have z : lst (kp f i) ≠ 0 := fun z => h.2.2.1 (lst_z (okK_p hk i) z r h.1 (by have := h.2.1; omega))
  have e := isL_un (lst_s (okK_p hk i) z) h
  exact ⟨e, by rw [kp, if_neg z, e]⟩
theorem ah_y {x x2 : Int64} {n n2 : Nat} (h60 : n ≤ 60) (h : ¬ (if x = x2 then (if nI n2 ≤ nI n then (0 : Int32) else 1) else (if x2 ≤ x then 0 else 1)) = 0) (k60 : n2 ≤ 60) : LEx x n x2 n2 := by
  by_cases e : x = x2
  · rw [if_pos e] at h
    refine Or.inr ⟨e, ?_⟩
    refine Classical.byContradiction fun z => h (if_pos ?_)
    exact (cI_le (a := n2) (b := n) rfl rfl (by omega) (by omega)).mpr (by omega)
  · rw [if_neg e] at h
    exact Or.inl (Classical.byContradiction fun z => h (if_pos (Int64.not_lt.mp z)))
theorem ah_n {x x2 : Int64} {n n2 : Nat} (h60 : n ≤ 60) (h : (if x = x2 then (if nI n2 ≤ nI n then (0 : Int32) else 1) else (if x2 ≤ x then 0 else 1)) = 0) (k60 : n2 ≤ 60) : LEx x2 n2 x n := by
  by_cases e : x = x2
  · rw [if_pos e] at h
    refine Or.inr ⟨e.symm, ?_⟩
    refine Classical.byContradiction fun z => ?_
    rw [if_neg (fun y => z ((cI_le (a := n2) (b := n) rfl rfl (by omega) (by omega)).mp y))] at h
    exact absurd h (by decide)
  · rw [if_neg e] at h
    refine Or.inl (Classical.byContradiction fun z => ?_)
    rw [if_neg (fun y => z (Int64.lt_of_le_of_ne y (fun w => e w.symm)))] at h
    exact absurd h (by decide)
abbrev rm_X3_firstIndex : Room := ({ frames := 1, cells := 0, slots := 0, locals := 21 } : Room)
set_option maxRecDepth 100000 in
set_option maxHeartbeats 4000000 in
theorem c_X3_firstIndex {L : GL} {ad : Nat → Nat} {G : Nat → va_E} {sz : Nat} {p nm kap : Nat → Nat}  (g9 : G 9 = .inr (3, [.ref (ad 1), .ref (ad 10), .int (nI sz)])) (g10 : G 10 = .inl (L.ac 4, 8, .inr (.inr (.inr (.inr (qwq ad p)))))) (hq : qQS G p nm kap sz) (h1 : 1 ≤ sz) : GM L yX3_firstIndex cX3_firstIndex 3 ((some .int)) rm_X3_firstIndex 50 ad G [.ref (ad 9)] (fun vo G' => ∃ (b : Nat), vo = some (.int (nI b)) ∧ (b < sz) ∧ (∀ j, j < sz → LEx (pwr (nm b) (kap (nm b))).1 (nm b) (pwr (nm j) (kap (nm j))).1 (nm j)) ∧ G = G') := by
  refine GM.of (own := RX3) (lo := [(0, .ref (ad 9))]) (by decide +kernel) rfl rfl (Nat.le_of_ble_eq_true rfl) (fun E C hr => ?_)
  have h8 := hq.2.2.1
  refine G_iconst C (v := 0) dX3_firstIndex_0 (by decide) ?_
  refine G_istore_n C 1 (lo' := [(1, .int 0), (0, .ref (ad 9))]) dX3_firstIndex_1 rfl (by decide) rfl ?_
  refine G_iconst C (v := 1) dX3_firstIndex_2 (by decide) ?_
  refine G_istore_n C 2 (lo' := [(2, .int 1), (1, .int 0), (0, .ref (ad 9))]) dX3_firstIndex_3 rfl (by decide) rfl ?_
  have key4 : ∀ (n : Nat) (b i : Nat)  (hn : sz - i < n) (hb : b < i) (hi : i ≤ sz) (h1i : 1 ≤ i) (hm : ∀ j, j < i → LEx (pwr (nm b) (kap (nm b))).1 (nm b) (pwr (nm j) (kap (nm j))).1 (nm j)), GW L E 50 ad G 0 0 4 [(2, .int (nI i)), (1, .int (nI b)), (0, .ref (ad 9))] [] := by
    intro n
    induction n with
    | zero =>
      intro b i  hn hb hi h1i hm
      exact absurd hn (Nat.not_lt_zero _)
    | succ n ih =>
      intro b i  hn hb hi h1i hm
      refine G_iload_n C 2 dX3_firstIndex_4 rfl rfl ?_
      refine G_aload_n C 0 dX3_firstIndex_5 rfl rfl ?_
      refine G_get C 9 (by decide) g9 rfl inA3 2 (by decide) rfl kf_X3_22 rfl dX3_firstIndex_6 ?_
      refine G_icmp_ge C 38 dX3_firstIndex_9 (by decide) (fun c9 => ?_) (fun c9 => ?_)
      · have c9n : sz ≤ i := (cI_le (a := sz) (b := i) rfl rfl (by omega) (by omega)).mp c9
        refine G_iload_n C 1 dX3_firstIndex_38 rfl rfl ?_
        exact G_zret C hr rfl dX3_firstIndex_39 ⟨_, rfl, (by omega), fun j hj => hm j (by omega), rfl⟩
      · have c9n : ¬ sz ≤ i := fun z => c9 ((cI_le (a := sz) (b := i) rfl rfl (by omega) (by omega)).mpr z)
        refine G_aload_n C 0 dX3_firstIndex_12 rfl rfl ?_
        refine G_get C 9 (by decide) g9 rfl inA3 1 (by decide) rfl kf_X3_11 rfl dX3_firstIndex_13 ?_
        refine G_iload_n C 2 dX3_firstIndex_16 rfl rfl ?_
        refine G_aldq C 10 (by decide) 4 rfl g10 (vp_in_nI (by omega) (by omega)) (qwq_at (by omega)) dX3_firstIndex_17 ?_
        refine G_aload_n C 0 dX3_firstIndex_18 rfl rfl ?_
        refine G_get C 9 (by decide) g9 rfl inA3 1 (by decide) rfl kf_X3_11 rfl dX3_firstIndex_19 ?_
        refine G_iload_n C 1 dX3_firstIndex_22 rfl rfl ?_
        refine G_aldq C 10 (by decide) 4 rfl g10 (vp_in_nI (by omega) (by omega)) (qwq_at (by omega)) dX3_firstIndex_23 ?_
        refine G_callV C (As := [.ref (ad (p b))]) (rest := []) (c_X1_isAheadOf (show p i < 50 by have := hq.1 i (by omega); omega) (show p b < 50 by have := hq.1 b (by omega); omega) (hq.2.2.2.2.1 i (by omega)).2.2.2.2.2 (hq.2.2.2.2.1 b (by omega)).2.2.2.2.2) ca_X1_isAheadOf km_X3_50 (show p i < 50 by have := hq.1 i (by omega); omega) (hq.2.2.2.2.1 i (by omega)).2.2.2.2.2 rfl rfl rfl rfl (by decide) (Nat.le_of_ble_eq_true rfl) (by decide) dX3_firstIndex_24 (fun vv1 gg2 qq3 => ?_)
        obtain ⟨rfl, rfl⟩ := qq3
        refine G_if_eq C 32 dX3_firstIndex_27 (by decide) (fun c27 => ?_) (fun c27 => ?_)
        · refine G_iinc C (v := nI (i + 1)) (lo' := [(2, .int (nI (i + 1))), (1, .int (nI b)), (0, .ref (ad 9))]) dX3_firstIndex_32 rfl (nI_add _ _) (by decide) rfl ?_
          refine G_goto C 4 dX3_firstIndex_35 (by decide) ?_
          exact ih b (i + 1) (by omega) (by omega) (by omega) (by omega) (fun j hj => (Nat.lt_succ_iff_lt_or_eq.mp hj).elim (fun z => hm j z) (fun z => z ▸ ah_n (hq.2.2.2.2.1 i (by omega)).2.1 c27 (hq.2.2.2.2.1 b (by omega)).2.1))
        · refine G_iload_n C 2 dX3_firstIndex_30 rfl rfl ?_
          refine G_istore_n C 1 (lo' := [(1, .int (nI i)), (2, .int (nI i)), (0, .ref (ad 9))]) dX3_firstIndex_31 rfl (by decide) rfl ?_
          refine G_iinc C (v := nI (i + 1)) (lo' := [(2, .int (nI (i + 1))), (1, .int (nI i)), (0, .ref (ad 9))]) dX3_firstIndex_32 rfl (nI_add _ _) (by decide) rfl ?_
          refine G_goto C 4 dX3_firstIndex_35 (by decide) ?_
          exact ih i (i + 1) (by omega) (by omega) (by omega) (by omega) (fun j hj => (Nat.lt_succ_iff_lt_or_eq.mp hj).elim (fun z => (ah_y (hq.2.2.2.2.1 i (by omega)).2.1 c27 (hq.2.2.2.2.1 b (by omega)).2.1).tr (hm j z)) (fun z => z ▸ LEx.rf))
  exact key4 (sz + 1) 0 1 (by omega) (by omega) (by omega) (by omega) (fun j hj => by rw [show j = 0 by omega]; exact LEx.rf)

abbrev rm_X3_passFirst : Room := ({ frames := 2, cells := 0, slots := 0, locals := 43 } : Room)
set_option maxRecDepth 100000 in
set_option maxHeartbeats 4000000 in
theorem c_X3_passFirst {L : GL} {ad : Nat → Nat} {G : Nat → va_E} {s : Nat} {p nm kap : Nat → Nat}  (g9 : G 9 = .inr (3, [.ref (ad 1), .ref (ad 10), .int (nI (s + 1))])) (g10 : G 10 = .inl (L.ac 4, 8, .inr (.inr (.inr (.inr (qwq ad p)))))) (hq : qQS G p nm kap (s + 1)) (hc : qCQ nm kap (s + 1)) : GM L yX3_passFirst cX3_passFirst 3 (none) rm_X3_passFirst 50 ad G [.ref (ad 9)] (fun vo G' => ∃ (r : Nat) (p2 : Nat → Nat) (nm2 : Nat → Nat) (s2 : Nat), vo = none ∧ (isL kap 59 r) ∧ (qQS G' p2 nm2 (stp kap r) s2) ∧ (qCQ nm2 (stp kap r) s2) ∧ G' 9 = .inr (3, [.ref (ad 1), .ref (ad 10), .int (nI s2)]) ∧ G' 10 = .inl (L.ac 4, 8, .inr (.inr (.inr (.inr (qwq ad p2))))) ∧ Agr [9, 10, 11, 12, 13, 14, 15, 16, 17, 18] G G') := by
  refine GM.of (own := RX3) (lo := [(0, .ref (ad 9))]) (by decide +kernel) rfl rfl (Nat.le_of_ble_eq_true rfl) (fun E C hr => ?_)
  refine G_aload_n C 0 dX3_passFirst_0 rfl rfl ?_
  refine G_callV C (As := []) (rest := []) (c_X3_firstIndex g9 g10 hq (Nat.succ_pos s)) ca_X3_firstIndex km_X3_46 (by decide) g9 rfl rfl rfl rfl (by decide) (Nat.le_of_ble_eq_true rfl) (by decide) dX3_passFirst_1 (fun vv1 gg2 qq3 => ?_)
  obtain ⟨b_4, rfl, pp5, pp6, rfl⟩ := qq3
  have h8 := hq.2.2.1
  have hzb := hq.2.2.2.2.1 b_4 pp5
  have hpb := hq.1 b_4 (by omega)
  have hn9 : p b_4 ≠ 9 ∧ p b_4 ≠ 10 ∧ 9 ≠ p b_4 ∧ 10 ≠ p b_4 := ⟨by omega, by omega, by omega, by omega⟩
  refine G_istore_n C 1 (lo' := [(1, .int (nI b_4)), (0, .ref (ad 9))]) dX3_passFirst_4 rfl (by decide) rfl ?_
  refine G_aload_n C 0 dX3_passFirst_5 rfl rfl ?_
  refine G_get C 9 (by decide) g9 rfl inA3 1 (by decide) rfl kf_X3_11 rfl dX3_passFirst_6 ?_
  refine G_iload_n C 1 dX3_passFirst_9 rfl rfl ?_
  refine G_aldq C 10 (by decide) 4 rfl g10 (vp_in_nI (by omega) (by omega)) (qwq_at (by omega)) dX3_passFirst_10 ?_
  refine G_astore_n C 2 (lo' := [(2, .ref (ad (p b_4))), (1, .int (nI b_4)), (0, .ref (ad 9))]) dX3_passFirst_11 rfl (by decide) rfl ?_
  refine G_aload_n C 2 dX3_passFirst_12 rfl rfl ?_
  refine G_callV C (As := []) (rest := []) (c_X1_climb (show p b_4 < 50 by omega) hzb.2.2.2.2.2) ca_X1_climb km_X3_38 (show p b_4 < 50 by omega) hzb.2.2.2.2.2 rfl rfl rfl rfl (by decide) (Nat.le_of_ble_eq_true rfl) (by decide) dX3_passFirst_13 (fun vv7 gg8 qq9 => ?_)
  obtain ⟨rfl, hh10, aa11⟩ := qq9
  have AA12 : Agr [(p b_4)] G gg8 := aa11.wk (by simp)
  have hck := climb_ok (nm b_4) (by omega) hzb.2.2.1 (kap (nm b_4)) (by have := gp_lt (nm b_4) (by omega); omega) hzb.2.2.2.2.1
  by_cases hkg : kap (nm b_4) < gpn (nm b_4)
  · refine GW.topr (y := 1) (hck.trans (if_pos hkg)) ?_
    refine G_if_ne C 54 dX3_passFirst_16 (by decide) (fun _ => ?_) (fun h => absurd h (by decide))
    exact G_vret C hr dX3_passFirst_54 ⟨nm b_4, p, nm, s + 1, rfl, cq_L hq hc pp5 pp6, qs_ok hq pp5 hkg hh10 AA12, cq_ok hc pp5, ((aa11 9 (by simp [hn9.2.2.1])).trans g9), ((aa11 10 (by simp [hn9.2.2.2])).trans g10), AA12.wk (fun j hj => by rw [List.mem_singleton] at hj; subst hj; exact q_in hpb.1 hpb.2)⟩
  · refine GW.topr (y := 0) (hck.trans (if_neg hkg)) ?_
    refine G_if_ne C 54 dX3_passFirst_16 (by decide) (fun h => absurd h (by decide)) (fun _ => ?_)
    have hps := hq.1 s (by omega)
    obtain ⟨z1, z2, z3, z4, z5, hzs⟩ := qs_any hq (b := b_4) (by omega) hh10 AA12 s (by omega)
    have hs9 : p s ≠ 9 ∧ p s ≠ 10 ∧ 9 ≠ p s ∧ 10 ≠ p s := ⟨by omega, by omega, by omega, by omega⟩
    refine G_aload_n C 0 dX3_passFirst_19 rfl rfl ?_
    refine G_dup C dX3_passFirst_20 rfl ?_
    refine G_get C 9 (by decide) ((aa11 9 (by simp [hn9.2.2.1])).trans g9) rfl inA3 2 (by decide) rfl kf_X3_22 rfl dX3_passFirst_21 ?_
    refine G_iconst C (v := 1) dX3_passFirst_24 (by decide) ?_
    refine G_isub C dX3_passFirst_25 ?_
    refine GW.topr (y := nI s) (nI_pred s) ?_
    refine G_putp C 9 (by decide) ((aa11 9 (by simp [hn9.2.2.1])).trans g9) rfl inA3 tyX3_ok nmX3 2 (by decide) rfl kf_X3_22 rfl rfl rfl (fs' := [.ref (ad 1), .ref (ad 10), .int (nI s)]) (Nat.le_of_ble_eq_true rfl) rfl dX3_passFirst_26 (fun gg13 hh14 aa15 => ?_)
    have AA16 : Agr [(p b_4), 9] G gg13 := AA12.tr aa15 (by simp) (by simp)
    refine G_aload_n C 0 dX3_passFirst_29 rfl rfl ?_
    refine G_get C 9 (by decide) hh14 rfl inA3 1 (by decide) rfl kf_X3_11 rfl dX3_passFirst_30 ?_
    refine G_iload_n C 1 dX3_passFirst_33 rfl rfl ?_
    refine G_aload_n C 0 dX3_passFirst_34 rfl rfl ?_
    refine G_get C 9 (by decide) hh14 rfl inA3 1 (by decide) rfl kf_X3_11 rfl dX3_passFirst_35 ?_
    refine G_aload_n C 0 dX3_passFirst_38 rfl rfl ?_
    refine G_get C 9 (by decide) hh14 rfl inA3 2 (by decide) rfl kf_X3_22 rfl dX3_passFirst_39 ?_
    refine G_aldq C 10 (by decide) 4 rfl ((aa15 10 (by decide)).trans ((aa11 10 (by simp [hn9.2.2.2])).trans g10)) (vp_in_nI (by omega) (by omega)) (qwq_at (by omega)) dX3_passFirst_42 ?_
    refine G_astqp C 10 (by decide) 4 rfl ((aa15 10 (by decide)).trans ((aa11 10 (by simp [hn9.2.2.2])).trans g10)) (p s) (show p s < 50 by omega) ((aa15 (p s) (by simp [hs9.1])).trans hzs) rfl (vp_in_nI (by omega) (by omega)) dX3_passFirst_43 (fun gg17 hh18 aa19 => ?_)
    have AA20 : Agr [(p b_4), 9, 10] G gg17 := AA16.tr aa19 (by simp) (by simp)
    refine G_aload_n C 0 dX3_passFirst_44 rfl rfl ?_
    refine G_get C 9 (by decide) ((aa19 9 (by decide)).trans hh14) rfl inA3 1 (by decide) rfl kf_X3_11 rfl dX3_passFirst_45 ?_
    refine G_aload_n C 0 dX3_passFirst_48 rfl rfl ?_
    refine G_get C 9 (by decide) ((aa19 9 (by decide)).trans hh14) rfl inA3 2 (by decide) rfl kf_X3_22 rfl dX3_passFirst_49 ?_
    refine G_aload_n C 2 dX3_passFirst_52 rfl rfl ?_
    refine G_astqp C 10 (by decide) 4 rfl hh18 (p b_4) (show p b_4 < 50 by omega) ((aa19 (p b_4) (by simp [hn9.2.1])).trans ((aa15 (p b_4) (by simp [hn9.1])).trans hh10)) rfl (vp_in_nI (by omega) (by omega)) dX3_passFirst_53 (fun gg21 hh22 aa23 => ?_)
    have AA24 : Agr [(p b_4), 9, 10] G gg21 := AA20.tr aa23 (by simp) (by simp)
    refine GW.renq 10 (by decide) (t0 := 4) (qwq ad (qsw p b_4 s)) hh22 (fun j _ => qwq_sw (by omega) (by omega) j) (fun gg25 hh26 aa27 => ?_)
    have AA28 : Agr [(p b_4), 9, 10] G gg25 := AA24.tr aa27 (by simp) (by simp)
    exact G_vret C hr dX3_passFirst_54 ⟨nm b_4, qsw p b_4 s, qsw nm b_4 s, s, rfl, cq_L hq hc pp5 pp6, qs_sw hq pp5 hkg ((aa27 (p b_4) (by simp [hn9.2.1])).trans ((aa23 (p b_4) (by simp [hn9.2.1])).trans ((aa19 (p b_4) (by simp [hn9.2.1])).trans ((aa15 (p b_4) (by simp [hn9.1])).trans hh10)))) (AA28.wk (by simp)), cq_sw hc pp5 hkg, ((aa27 9 (by decide)).trans ((aa23 9 (by decide)).trans ((aa19 9 (by decide)).trans hh14))), hh26, AA28.wk (fun j hj => by simp only [List.mem_cons, List.not_mem_nil, or_false] at hj; rcases hj with hj | hj | hj <;> subst hj <;> first | exact q_in hpb.1 hpb.2 | decide)⟩

theorem cn_39 {b : Int64} {d k : Nat} (hd : d ≤ 60) (h : k ≤ 1) : cnR b d k ≤ 39 := by
  rw [cnR]
  split
  · omega
  · have h1 := cnt_le (d := d) (b := b) 40 (k - 1) (by omega)
    have h2 := gp_lt d (by omega)
    omega
theorem sum_39 {g : Nat → Nat} (h : ∀ d, 2 ≤ d → d ≤ 60 → g d ≤ 39) : ∀ n, n ≤ 59 → sumN g n ≤ 39 * n
  | 0, _ => Nat.le_refl _
  | n + 1, hn => by
    have h1 := sum_39 h n (by omega)
    have h2 := h (n + 2) (by omega) (by omega)
    rw [sumN]; omega
theorem kp_far {f : Nat → Int32} (hk : okH f) {i : Nat} (h : 2400 ≤ i) : lst (kp f i) = 0 := Classical.byContradiction fun z => by
  have a := (ord_4 hk i).mp z
  have b : cnS 1000000000000000 (k0 f) ≤ 39 * 59 := sum_39 (fun d _ h60 => cn_39 h60 (by rw [k0]; split <;> omega)) 59 (Nat.le_refl _)
  omega
abbrev rm_X3_pass : Room := ({ frames := 3, cells := 0, slots := 0, locals := 65 } : Room)
set_option maxRecDepth 100000 in
set_option maxHeartbeats 4000000 in
theorem c_X3_pass {L : GL} {ad : Nat → Nat} {G : Nat → va_E} {c : Nat} {sz : Nat} {f : Nat → Int32} {p nm : Nat → Nat}  (g9 : G 9 = .inr (3, [.ref (ad 1), .ref (ad 10), .int (nI sz)])) (g10 : G 10 = .inl (L.ac 4, 8, .inr (.inr (.inr (.inr (qwq ad p)))))) (hk : okH f) (hc31 : c < 2147483648) (hq : qQS G p nm (kp f 0) sz) (hc : qCQ nm (kp f 0) sz) : GM L yX3_pass cX3_pass 3 (none) rm_X3_pass 50 ad G [.ref (ad 9), .int (nI c)] (fun vo G' => ∃ (p2 : Nat → Nat) (nm2 : Nat → Nat) (s2 : Nat), vo = none ∧ (qQS G' p2 nm2 (kp f c) s2) ∧ (qCQ nm2 (kp f c) s2) ∧ G' 9 = .inr (3, [.ref (ad 1), .ref (ad 10), .int (nI s2)]) ∧ G' 10 = .inl (L.ac 4, 8, .inr (.inr (.inr (.inr (qwq ad p2))))) ∧ Agr [9, 10, 11, 12, 13, 14, 15, 16, 17, 18] G G') := by
  refine GM.of (own := RX3) (lo := [(0, .ref (ad 9)), (1, .int (nI c))]) (by decide +kernel) rfl rfl (Nat.le_of_ble_eq_true rfl) (fun E C hr => ?_)
  refine G_iconst C (v := 0) dX3_pass_0 (by decide) ?_
  refine G_istore_n C 2 (lo' := [(2, .int 0), (0, .ref (ad 9)), (1, .int (nI c))]) dX3_pass_1 rfl (by decide) rfl ?_
  have key2 : ∀ (n : Nat) (i : Nat) (p1 nm1 : Nat → Nat) (sz1 : Nat) (G1 : Nat → va_E) (hf2_9 : G1 9 = .inr (3, [.ref (ad 1), .ref (ad 10), .int (nI sz1)])) (hf2_10 : G1 10 = .inl (L.ac 4, 8, .inr (.inr (.inr (.inr (qwq ad p1)))))) (ha2 : Agr [9, 10, 11, 12, 13, 14, 15, 16, 17, 18] G G1) (hn : c - i < n) (hi : i ≤ c) (hqi : qQS G1 p1 nm1 (kp f i) sz1) (hci : qCQ nm1 (kp f i) sz1), GW L E 50 ad G1 0 0 2 [(2, .int (nI i)), (0, .ref (ad 9)), (1, .int (nI c))] [] := by
    intro n
    induction n with
    | zero =>
      intro i p1 nm1 sz1 G1 hf2_9 hf2_10 ha2 hn hi hqi hci
      exact absurd hn (Nat.not_lt_zero _)
    | succ n ih =>
      intro i p1 nm1 sz1 G1 hf2_9 hf2_10 ha2 hn hi hqi hci
      have h8 := hqi.2.2.1
      refine G_iload_n C 2 dX3_pass_2 rfl rfl ?_
      refine G_iload_n C 1 dX3_pass_3 rfl rfl ?_
      refine G_icmp_ge C 30 dX3_pass_4 (by decide) (fun c4 => ?_) (fun c4 => ?_)
      · have c4n : c ≤ i := (cI_le (a := c) (b := i) rfl rfl (by omega) (by omega)).mp c4
        exact G_vret C hr dX3_pass_30 ⟨_, _, _, rfl, ((show i = c by omega) ▸ hqi), ((show i = c by omega) ▸ hci), hf2_9, hf2_10, ha2⟩
      · have c4n : ¬ c ≤ i := fun z => c4 ((cI_le (a := c) (b := i) rfl rfl (by omega) (by omega)).mpr z)
        refine G_iload_n C 2 dX3_pass_7 rfl rfl ?_
        refine G_ldc C dX3_pass_8 ki_X3_42 ?_
        refine G_icmp_ge C 30 dX3_pass_10 (by decide) (fun c10 => ?_) (fun c10 => ?_)
        · have c10n : 1000000 ≤ i := (cI_le (a := 1000000) (b := i) rfl rfl (by omega) (by omega)).mp c10
          exact G_vret C hr dX3_pass_30 ⟨_, _, _, rfl, ((kp_stop (kp_far hk (show 2400 ≤ i by omega)) c hi).symm ▸ hqi), ((kp_stop (kp_far hk (show 2400 ≤ i by omega)) c hi).symm ▸ hci), hf2_9, hf2_10, ha2⟩
        · have c10n : ¬ 1000000 ≤ i := fun z => c10 ((cI_le (a := 1000000) (b := i) rfl rfl (by omega) (by omega)).mpr z)
          refine G_aload_n C 0 dX3_pass_13 rfl rfl ?_
          refine G_get C 9 (by decide) hf2_9 rfl inA3 2 (by decide) rfl kf_X3_22 rfl dX3_pass_14 ?_
          refine G_if_le C 30 dX3_pass_17 (by decide) (fun c17 => ?_) (fun c17 => ?_)
          · have c17n : sz1 ≤ 0 := (cI_le (a := sz1) (b := 0) rfl rfl (by omega) (by omega)).mp c17
            exact G_vret C hr dX3_pass_30 ⟨_, _, _, rfl, ((kp_stop (cq_z (okK_p hk i) ((show sz1 = 0 by omega) ▸ hci)) c hi).symm ▸ hqi), ((kp_stop (cq_z (okK_p hk i) ((show sz1 = 0 by omega) ▸ hci)) c hi).symm ▸ hci), hf2_9, hf2_10, ha2⟩
          · have c17n : ¬ sz1 ≤ 0 := fun z => c17 ((cI_le (a := sz1) (b := 0) rfl rfl (by omega) (by omega)).mpr z)
            obtain ⟨s3, hs3⟩ : ∃ s3, sz1 = s3 + 1 := ⟨sz1 - 1, by omega⟩
            subst hs3
            refine G_aload_n C 0 dX3_pass_20 rfl rfl ?_
            refine G_callV C (As := []) (rest := []) (c_X3_passFirst hf2_9 hf2_10 hqi hci) ca_X3_passFirst km_X3_43 (by decide) hf2_9 rfl rfl rfl rfl (by decide) (Nat.le_of_ble_eq_true rfl) (by decide) dX3_pass_21 (fun vv1 gg2 qq3 => ?_)
            obtain ⟨r_4, p_5, nm_6, s_7, rfl, pp8, pp9, pp10, hh11, hh12, aa13⟩ := qq3
            have AA14 : Agr [9, 10, 11, 12, 13, 14, 15, 16, 17, 18] G gg2 := ha2.tr aa13 (by simp) (by simp)
            have hkr := kp_r hk pp8
            refine G_iinc C (v := nI (i + 1)) (lo' := [(2, .int (nI (i + 1))), (0, .ref (ad 9)), (1, .int (nI c))]) dX3_pass_24 rfl (nI_add _ _) (by decide) rfl ?_
            refine G_goto C 2 dX3_pass_27 (by decide) ?_
            exact ih (i + 1) p_5 nm_6 s_7 gg2 hh11 hh12 AA14 (by omega) (by omega) ((hkr.2 ▸ pp9)) ((hkr.2 ▸ pp10))
  exact key2 (c + 1) 0 p nm sz G g9 g10 Agr.rf (by omega) (Nat.zero_le _) (hq) (hc)

