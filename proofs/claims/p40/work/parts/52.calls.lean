theorem num_0 {d : Nat} (h2 : 2 ≤ d) (h60 : d ≤ 60) : ¬ numF (nI d) = 0 := by rw [num_d h2 h60]; decide
theorem num_off : ∀ d, d < 64 → (d < 2 ∨ 60 < d) → numF (nI d) = 0 := by decide +kernel
theorem sq_0 {d : Nat} (h60 : d ≤ 60) (hp : pern d ≠ 0) : sqF (nI d) = 0 := (sq_d (by omega)).mpr hp
theorem sq_1 {d : Nat} (h60 : d ≤ 60) (hp : pern d = 0) : ¬ sqF (nI d) = 0 := fun z => (sq_d (by omega)).mp z hp
theorem has_0 {f : Nat → Int32} {d : Nat} (hk : okH f) (h2 : 2 ≤ d) (h60 : d ≤ 60) (hn : f d < 0) : hasF f (nI d) = 0 := (has_lt hk h2 h60).mpr hn
theorem has_1 {f : Nat → Int32} {d h : Nat} (hk : okH f) (h2 : 2 ≤ d) (h60 : d ≤ 60) (hf : f d = nI h) (hg : h ≤ gpn d) : ¬ hasF f (nI d) = 0 := fun z => by
  have := gp_lt d (by omega)
  exact f_nn hf (by omega) ((has_lt hk h2 h60).mp z)
theorem nn_j {a b : Nat} (ha : a < 1000) (hb : b < 1000) (h : nI a = nI b) : b = a := (nI_inj ha hb h).symm
theorem hp_j {f : Nat → Int32} {d d2 h h2 : Nat} (hd : d ≤ 60) (hf : f d = nI h) (hg : h ≤ gpn d) (e : d2 = d) (hg2 : h2 ≤ gpn d2) (hf2 : hOf f (nI d) = nI h2) : h2 = h := by
  subst e
  have := gp_lt d2 (by omega)
  rw [hOf_d f (by omega), hf] at hf2
  exact nn_j (by omega) (by omega) hf2
set_option maxRecDepth 100000 in
set_option maxHeartbeats 4000000 in
theorem q_whyNot {L : GL} {ad : Nat → Nat} {G : Nat → va_E} {s : HE} {sn : Int32} {k : HE} {hs : List HE} {len : Nat} {tx : Nat → Int32} {d : Nat} (hI : PI L ad G s sn k hs len tx) (h2 : 2 ≤ d) (h60 : d ≤ 60) : GX L yX8_whyNot cX8_whyNot 2 ((some .int)) rm_X8_whyNot 40 ad G [.ref (ad 0), .int (nI d)] (fun v G' => v = some (.int (rsnF s.1 s.2.1 (nI d))) ∧ PI L ad G' s sn k hs len tx) (fun _ _ => False) :=
  (p_whyNot hI).mono (fun v G' hq => ⟨hq.1, hq.2.2⟩) (fun e G' hx => num_0 h2 h60 hx.2.1)
set_option maxRecDepth 100000 in
set_option maxHeartbeats 4000000 in
theorem q_periodOf {L : GL} {ad : Nat → Nat} {G : Nat → va_E} {s : HE} {sn : Int32} {k : HE} {hs : List HE} {len : Nat} {tx : Nat → Int32} {d : Nat} (hI : PI L ad G s sn k hs len tx) (h2 : 2 ≤ d) (h60 : d ≤ 60) (hp : pern d ≠ 0) : GX L yX8_periodOf cX8_periodOf 2 ((some .int)) rm_X8_periodOf 40 ad G [.ref (ad 0), .int (nI d)] (fun v G' => v = some (.int (nI (pern d))) ∧ PI L ad G' s sn k hs len tx) (fun _ _ => False) :=
  (p_periodOf hI).mono (fun v G' hq => ⟨hq.1.trans (by rw [(tab_1 h60).1]), hq.2.2.2⟩) (fun e G' hx => hx.1.elim (fun z => num_0 h2 h60 z.2) (fun z => z.2.2 (sq_0 h60 hp)))
set_option maxRecDepth 100000 in
set_option maxHeartbeats 4000000 in
theorem q_unitX {L : GL} {ad : Nat → Nat} {G : Nat → va_E} {s : HE} {sn : Int32} {k : HE} {hs : List HE} {len : Nat} {tx : Nat → Int32} {d : Nat} (hI : PI L ad G s sn k hs len tx) (h2 : 2 ≤ d) (h60 : d ≤ 60) (hp : pern d ≠ 0) : GX L yX8_unitX cX8_unitX 2 ((some .int)) rm_X8_unitX 40 ad G [.ref (ad 0), .int (nI d)] (fun v G' => v = some (.int (tUx d)) ∧ PI L ad G' s sn k hs len tx) (fun _ _ => False) :=
  (p_unitX hI).mono (fun v G' hq => ⟨hq.1.trans (by rw [(tab_1 h60).2.1]), hq.2.2.2⟩) (fun e G' hx => hx.1.elim (fun z => num_0 h2 h60 z.2) (fun z => z.2.2 (sq_0 h60 hp)))
set_option maxRecDepth 100000 in
set_option maxHeartbeats 4000000 in
theorem q_unitY {L : GL} {ad : Nat → Nat} {G : Nat → va_E} {s : HE} {sn : Int32} {k : HE} {hs : List HE} {len : Nat} {tx : Nat → Int32} {d : Nat} (hI : PI L ad G s sn k hs len tx) (h2 : 2 ≤ d) (h60 : d ≤ 60) (hp : pern d ≠ 0) : GX L yX8_unitY cX8_unitY 2 ((some .int)) rm_X8_unitY 40 ad G [.ref (ad 0), .int (nI d)] (fun v G' => v = some (.int (tUy d)) ∧ PI L ad G' s sn k hs len tx) (fun _ _ => False) :=
  (p_unitY hI).mono (fun v G' hq => ⟨hq.1.trans (by rw [(tab_1 h60).2.2]), hq.2.2.2⟩) (fun e G' hx => hx.1.elim (fun z => num_0 h2 h60 z.2) (fun z => z.2.2 (sq_0 h60 hp)))
set_option maxRecDepth 100000 in
set_option maxHeartbeats 4000000 in
theorem q_leastY {L : GL} {ad : Nat → Nat} {G : Nat → va_E} {s : HE} {sn : Int32} {k : HE} {hs : List HE} {len : Nat} {tx : Nat → Int32} {d : Nat} (hI : PI L ad G s sn k hs len tx) (h2 : 2 ≤ d) (h60 : d ≤ 60) (hp : pern d ≠ 0) : GX L yX8_leastY cX8_leastY 4 ((some .int)) rm_X8_leastY 40 ad G [.ref (ad 0), .int (nI d)] (fun v G' => v = some (.int (nI (lyn d))) ∧ PI L ad G' s sn k hs len tx) (fun _ _ => False) :=
  (p_leastY hI).mono (fun v G' hq => ⟨hq.1.trans (by rw [(tab_1 h60).2.1, (tab_1 h60).2.2, ly_sgn d (by omega) hp]), hq.2.2.2⟩) (fun e G' hx => hx.1.elim (fun z => num_0 h2 h60 z.2) (fun z => z.2.2 (sq_0 h60 hp)))
set_option maxRecDepth 100000 in
set_option maxHeartbeats 4000000 in
theorem q_leastYBySearch {L : GL} {ad : Nat → Nat} {G : Nat → va_E} {s : HE} {sn : Int32} {k : HE} {hs : List HE} {len : Nat} {tx : Nat → Int32} {d : Nat} (hI : PI L ad G s sn k hs len tx) (h2 : 2 ≤ d) (h60 : d ≤ 60) (hp : pern d ≠ 0) : GX L yX8_leastYBySearch cX8_leastYBySearch 2 ((some .int)) rm_X8_leastYBySearch 40 ad G [.ref (ad 0), .int (nI d)] (fun v G' => v = some (.int (nI (lyn d))) ∧ PI L ad G' s sn k hs len tx) (fun _ _ => False) :=
  (p_leastYBySearch hI).mono (fun v G' hq => by obtain ⟨d2, rfl, e, _, _, _, g⟩ := hq; rw [nn_j (by omega) (by omega) e]; exact ⟨rfl, g⟩) (fun e G' hx => hx.1.elim (fun z => num_0 h2 h60 z.2) (fun z => z.2.2 (sq_0 h60 hp)))
set_option maxRecDepth 100000 in
set_option maxHeartbeats 4000000 in
theorem q_termAt {L : GL} {ad : Nat → Nat} {G : Nat → va_E} {s : HE} {sn : Int32} {k : HE} {hs : List HE} {len : Nat} {tx : Nat → Int32} {d pl : Nat} (hI : PI L ad G s sn k hs len tx) (h2 : 2 ≤ d) (h60 : d ≤ 60) (hp : pern d ≠ 0) (hpl : pl ≤ 99) : GX L yX8_termAt cX8_termAt 3 ((some .int)) rm_X8_termAt2 40 ad G [.ref (ad 0), .int (nI d), .int (nI pl)] (fun v G' => v = some (.int (tsq d pl).2.2) ∧ PI L ad G' s sn k hs len tx) (fun _ _ => False) :=
  (p_termAt hI).mono (fun v G' hq => by obtain ⟨d2, p2, rfl, e, _, _, e2, _, _, g⟩ := hq; rw [nn_j (by omega) (by omega) e, nn_j (by omega) (by omega) e2]; exact ⟨rfl, g⟩) (fun e G' hx => hx.1.elim (fun z => z.2.elim (nI_pos (by omega)) (fun y => y ((cI_le (a := pl) (b := 99) rfl rfl (by omega) (by omega)).mpr hpl))) (fun z => z.2.2.elim (fun y => num_0 h2 h60 y.2) (fun y => y.2.2 (sq_0 h60 hp))))
set_option maxRecDepth 100000 in
set_option maxHeartbeats 4000000 in
theorem q_isLaid {L : GL} {ad : Nat → Nat} {G : Nat → va_E} {s : HE} {sn : Int32} {k : HE} {hs : List HE} {len : Nat} {tx : Nat → Int32} {d : Nat} (hI : PI L ad G s sn k hs len tx) (h2 : 2 ≤ d) (h60 : d ≤ 60) : GX L yX8_isLaid cX8_isLaid 2 ((some .boolean)) rm_X8_isLaid 40 ad G [.ref (ad 0), .int (nI d)] (fun v G' => v = some (.int (if s.1 d < 0 then 0 else 1)) ∧ PI L ad G' s sn k hs len tx) (fun _ _ => False) :=
  (p_isLaid hI).mono (fun v G' hq => ⟨hq.1.trans (by rw [has_i hI.g.1 h2 h60]), hq.2.2⟩) (fun e G' hx => num_0 h2 h60 hx.2.1)
set_option maxRecDepth 100000 in
set_option maxHeartbeats 4000000 in
theorem q_powerOf {L : GL} {ad : Nat → Nat} {G : Nat → va_E} {s : HE} {sn : Int32} {k : HE} {hs : List HE} {len : Nat} {tx : Nat → Int32} {d h : Nat} (hI : PI L ad G s sn k hs len tx) (h2 : 2 ≤ d) (h60 : d ≤ 60) (hf : s.1 d = nI h) (hg : h ≤ gpn d) : GX L yX8_powerOf cX8_powerOf 2 ((some .int)) rm_X8_powerOf 40 ad G [.ref (ad 0), .int (nI d)] (fun v G' => v = some (.int (nI h)) ∧ PI L ad G' s sn k hs len tx) (fun _ _ => False) :=
  (p_powerOf hI).mono (fun v G' hq => ⟨hq.1.trans (by rw [hOf_d s.1 (by omega), hf]), hq.2.2.2⟩) (fun e G' hx => hx.1.elim (fun z => num_0 h2 h60 z.2) (fun z => has_1 hI.g.1 h2 h60 hf hg z.2.2))
set_option maxRecDepth 100000 in
set_option maxHeartbeats 4000000 in
theorem q_xOf {L : GL} {ad : Nat → Nat} {G : Nat → va_E} {s : HE} {sn : Int32} {k : HE} {hs : List HE} {len : Nat} {tx : Nat → Int32} {d h : Nat} (hI : PI L ad G s sn k hs len tx) (h2 : 2 ≤ d) (h60 : d ≤ 60) (hf : s.1 d = nI h) (hg : h ≤ gpn d) : GX L yX8_xOf cX8_xOf 2 ((some .long)) rm_X8_xOf 40 ad G [.ref (ad 0), .int (nI d)] (fun v G' => v = some (.long (pwr d h).1) ∧ PI L ad G' s sn k hs len tx) (fun _ _ => False) :=
  (p_xOf hI).mono (fun v G' hq => by obtain ⟨d2, h3, rfl, e, _, _, _, g2, f2, g⟩ := hq; obtain rfl := hp_j h60 hf hg (nn_j (by omega) (by omega) e) g2 f2; obtain rfl := nn_j (by omega) (by omega) e; exact ⟨rfl, g⟩) (fun e G' hx => hx.1.elim (fun z => num_0 h2 h60 z.2) (fun z => has_1 hI.g.1 h2 h60 hf hg z.2.2))
set_option maxRecDepth 100000 in
set_option maxHeartbeats 4000000 in
theorem q_yOf {L : GL} {ad : Nat → Nat} {G : Nat → va_E} {s : HE} {sn : Int32} {k : HE} {hs : List HE} {len : Nat} {tx : Nat → Int32} {d h : Nat} (hI : PI L ad G s sn k hs len tx) (h2 : 2 ≤ d) (h60 : d ≤ 60) (hf : s.1 d = nI h) (hg : h ≤ gpn d) : GX L yX8_yOf cX8_yOf 2 ((some .long)) rm_X8_yOf 40 ad G [.ref (ad 0), .int (nI d)] (fun v G' => v = some (.long (pwr d h).2) ∧ PI L ad G' s sn k hs len tx) (fun _ _ => False) :=
  (p_yOf hI).mono (fun v G' hq => by obtain ⟨d2, h3, rfl, e, _, _, _, g2, f2, g⟩ := hq; obtain rfl := hp_j h60 hf hg (nn_j (by omega) (by omega) e) g2 f2; obtain rfl := nn_j (by omega) (by omega) e; exact ⟨rfl, g⟩) (fun e G' hx => hx.1.elim (fun z => num_0 h2 h60 z.2) (fun z => has_1 hI.g.1 h2 h60 hf hg z.2.2))
set_option maxRecDepth 100000 in
set_option maxHeartbeats 4000000 in
theorem q_signOf {L : GL} {ad : Nat → Nat} {G : Nat → va_E} {s : HE} {sn : Int32} {k : HE} {hs : List HE} {len : Nat} {tx : Nat → Int32} {d h : Nat} (hI : PI L ad G s sn k hs len tx) (h2 : 2 ≤ d) (h60 : d ≤ 60) (hf : s.1 d = nI h) (hg : h ≤ gpn d) : GX L yX8_signOf cX8_signOf 2 ((some .int)) rm_X8_signOf 40 ad G [.ref (ad 0), .int (nI d)] (fun v G' => v = some (.int (sgM s.1 d)) ∧ PI L ad G' s sn k hs len tx) (fun _ _ => False) :=
  (p_signOf hI).mono (fun v G' hq => ⟨hq.1.trans (by rw [sg_eq h60 hg hf]), hq.2.2.2⟩) (fun e G' hx => hx.1.elim (fun z => num_0 h2 h60 z.2) (fun z => has_1 hI.g.1 h2 h60 hf hg z.2.2))
set_option maxRecDepth 100000 in
set_option maxHeartbeats 4000000 in
theorem q_signByRemainders {L : GL} {ad : Nat → Nat} {G : Nat → va_E} {s : HE} {sn : Int32} {k : HE} {hs : List HE} {len : Nat} {tx : Nat → Int32} {d h : Nat} (hI : PI L ad G s sn k hs len tx) (h2 : 2 ≤ d) (h60 : d ≤ 60) (hp : pern d ≠ 0) (hf : s.1 d = nI h) (hg : h ≤ gpn d) : GX L yX8_signByRemainders cX8_signByRemainders 9 ((some .int)) rm_X8_signByRemainders 40 ad G [.ref (ad 0), .int (nI d)] (fun v G' => v = some (.int (sgM s.1 d)) ∧ PI L ad G' s sn k hs len tx) (fun _ _ => False) :=
  (p_signByRemainders hI).mono (fun v G' hq => by obtain ⟨d2, h3, rfl, e, _, _, _, g2, f2, g⟩ := hq; obtain rfl := hp_j h60 hf hg (nn_j (by omega) (by omega) e) g2 f2; obtain rfl := nn_j (by omega) (by omega) e; exact ⟨by rw [sr_eq h60 hp hg hf], g⟩) (fun e G' hx => hx.1.elim (fun z => num_0 h2 h60 z.2) (fun z => has_1 hI.g.1 h2 h60 hf hg z.2.2))
set_option maxRecDepth 100000 in
set_option maxHeartbeats 4000000 in
theorem q_solutionsUpTo {L : GL} {ad : Nat → Nat} {G : Nat → va_E} {s : HE} {sn : Int32} {k : HE} {hs : List HE} {len : Nat} {tx : Nat → Int32} {b : Int64} (hI : PI L ad G s sn k hs len tx) (hb0 : ¬ b < 0) (hb1 : b ≤ 1000000000000000) : GX L yX8_solutionsUpTo cX8_solutionsUpTo 3 ((some .int)) rm_X8_solutionsUpTo 40 ad G [.ref (ad 0), .long b] (fun v G' => v = some (.int (cuF s.1 b 59)) ∧ PI L ad G' s sn k hs len tx) (fun _ _ => False) :=
  (p_solutionsUpTo hI).mono (fun v G' hq => ⟨hq.1, hq.2.2.2⟩) (fun e G' hx => hx.2.1.elim hb0 (fun z => z hb1))
set_option maxRecDepth 100000 in
set_option maxHeartbeats 4000000 in
theorem q_xAt {L : GL} {ad : Nat → Nat} {G : Nat → va_E} {s : HE} {sn : Int32} {k : HE} {hs : List HE} {len : Nat} {tx : Nat → Int32} {c : Nat} (hI : PI L ad G s sn k hs len tx) (hc31 : c < 2147483648) (hc : lst (kp s.1 c) ≠ 0) : GX L yX8_xAt cX8_xAt 2 ((some .long)) rm_X8_xAt 40 ad G [.ref (ad 0), .int (nI c)] (fun v G' => v = some (.long (xa (kp s.1 c) (lst (kp s.1 c)))) ∧ PI L ad G' s sn k hs len tx) (fun _ _ => False) :=
  (p_xAt hI).mono (fun v G' hq => by obtain ⟨c2, rfl, e, h9, _, g⟩ := hq; rw [← (nI_eq (by omega) (by omega)).mp e]; exact ⟨rfl, g⟩) (fun e G' hx => hx.elim (fun z => nI_pos (by omega) z.2.1) (fun z => by obtain ⟨c2, _, e, h9, hz, _⟩ := z; rw [(nI_eq (by omega) (by omega)).mp e] at hc; exact hc hz))
set_option maxRecDepth 100000 in
set_option maxHeartbeats 4000000 in
theorem q_xAtBySet {L : GL} {ad : Nat → Nat} {G : Nat → va_E} {s : HE} {sn : Int32} {k : HE} {hs : List HE} {len : Nat} {tx : Nat → Int32} {c : Nat} (hI : PI L ad G s sn k hs len tx) (hc31 : c < 2147483648) (hc : lst (kp s.1 c) ≠ 0) : GX L yX8_xAtBySet cX8_xAtBySet 2 ((some .long)) rm_X8_xAtBySet 40 ad G [.ref (ad 0), .int (nI c)] (fun v G' => v = some (.long (xa (kp s.1 c) (lst (kp s.1 c)))) ∧ PI L ad G' s sn k hs len tx) (fun _ _ => False) :=
  (p_xAtBySet hI).mono (fun v G' hq => by obtain ⟨c2, rfl, e, h9, _, g⟩ := hq; rw [← (nI_eq (by omega) (by omega)).mp e]; exact ⟨rfl, g⟩) (fun e G' hx => hx.elim (fun z => nI_pos (by omega) z.2.1) (fun z => by obtain ⟨c2, _, e, h9, hz, _⟩ := z; rw [(nI_eq (by omega) (by omega)).mp e] at hc; exact hc hz))
set_option maxRecDepth 100000 in
set_option maxHeartbeats 4000000 in
theorem q_stoneAt {L : GL} {ad : Nat → Nat} {G : Nat → va_E} {s : HE} {sn : Int32} {k : HE} {hs : List HE} {len : Nat} {tx : Nat → Int32} {c : Nat} (hI : PI L ad G s sn k hs len tx) (hc31 : c < 2147483648) (hc : lst (kp s.1 c) ≠ 0) : GX L yX8_stoneAt cX8_stoneAt 2 ((some .int)) rm_X8_stoneAt 40 ad G [.ref (ad 0), .int (nI c)] (fun v G' => v = some (.int (nI (lst (kp s.1 c)))) ∧ PI L ad G' s sn k hs len tx) (fun _ _ => False) :=
  (p_stoneAt hI).mono (fun v G' hq => by obtain ⟨c2, rfl, e, h9, _, g⟩ := hq; rw [← (nI_eq (by omega) (by omega)).mp e]; exact ⟨rfl, g⟩) (fun e G' hx => hx.elim (fun z => nI_pos (by omega) z.2.1) (fun z => by obtain ⟨c2, _, e, h9, hz, _⟩ := z; rw [(nI_eq (by omega) (by omega)).mp e] at hc; exact hc hz))
set_option maxRecDepth 100000 in
set_option maxHeartbeats 4000000 in
theorem q_stoneFrom {L : GL} {ad : Nat → Nat} {G : Nat → va_E} {s : HE} {sn : Int32} {k : HE} {hs : List HE} {len : Nat} {tx : Nat → Int32} {d : Nat} (hI : PI L ad G s sn k hs len tx) (h2 : 2 ≤ d) (h60 : d ≤ 60) (hr : sfF s.1 (61 - d) d ≤ 60) : GX L yX8_stoneFrom cX8_stoneFrom 3 ((some .int)) rm_X8_stoneFrom 40 ad G [.ref (ad 0), .int (nI d)] (fun v G' => v = some (.int (nI (sfF s.1 (61 - d) d))) ∧ PI L ad G' s sn k hs len tx) (fun _ _ => False) :=
  (p_stoneFrom hI).mono (fun v G' hq => by obtain ⟨d2, rfl, e, _, _, _, g⟩ := hq; rw [nn_j (by omega) (by omega) e]; exact ⟨rfl, g⟩) (fun e G' hx => hx.1.elim (fun z => num_0 h2 h60 z.2) (fun z => by obtain ⟨_, d2, e, _, _, h61⟩ := z; rw [nn_j (by omega) (by omega) e] at h61; omega))
set_option maxRecDepth 100000 in
set_option maxHeartbeats 4000000 in
theorem v_periodOfS {L : GL} {ad : Nat → Nat} {G : Nat → va_E} {s : HE} {sn : Int32} {k : HE} {hs : List HE} {len : Nat} {tx : Nat → Int32} {d : Nat} (hI : PI L ad G s sn k hs len tx) (h2 : 2 ≤ d) (h60 : d ≤ 60) (hp : pern d = 0) : GH L yL_periodOf cL_periodOf 3 (some .int) [(0, 5, 6, 15), (0, 5, 10, 40)] rm_periodOf 40 ad G [.ref (ad 0), .int (nI d)] (fun v G' => v = some (.int (-104)) ∧ PI L ad G' s sn k hs len tx) :=
  (w_periodOf (p_periodOf hI) hI.h0 (fun v G' hq => ⟨_, hq.1⟩) (fun e G' h => h.1.elim (fun z => Or.inl z.1) (fun z => Or.inr z.1))).mono (fun v G' hq => hq.elim (fun hq => (sq_1 h60 hp hq.2.2.1).elim) (fun hq => hq.elim (fun hq => (hq.1.1.elim (fun z => (num_0 h2 h60 z.2).elim) (fun z => (ne_AN z.1).elim))) (fun hq => ⟨hq.2, hq.1.2⟩)))
set_option maxRecDepth 100000 in
set_option maxHeartbeats 4000000 in
theorem v_unitXS {L : GL} {ad : Nat → Nat} {G : Nat → va_E} {s : HE} {sn : Int32} {k : HE} {hs : List HE} {len : Nat} {tx : Nat → Int32} {d : Nat} (hI : PI L ad G s sn k hs len tx) (h2 : 2 ≤ d) (h60 : d ≤ 60) (hp : pern d = 0) : GH L yL_unitX cL_unitX 3 (some .int) [(0, 5, 6, 15), (0, 5, 10, 40)] rm_unitX 40 ad G [.ref (ad 0), .int (nI d)] (fun v G' => v = some (.int (-104)) ∧ PI L ad G' s sn k hs len tx) :=
  (w_unitX (p_unitX hI) hI.h0 (fun v G' hq => ⟨_, hq.1⟩) (fun e G' h => h.1.elim (fun z => Or.inl z.1) (fun z => Or.inr z.1))).mono (fun v G' hq => hq.elim (fun hq => (sq_1 h60 hp hq.2.2.1).elim) (fun hq => hq.elim (fun hq => (hq.1.1.elim (fun z => (num_0 h2 h60 z.2).elim) (fun z => (ne_AN z.1).elim))) (fun hq => ⟨hq.2, hq.1.2⟩)))
set_option maxRecDepth 100000 in
set_option maxHeartbeats 4000000 in
theorem v_unitYS {L : GL} {ad : Nat → Nat} {G : Nat → va_E} {s : HE} {sn : Int32} {k : HE} {hs : List HE} {len : Nat} {tx : Nat → Int32} {d : Nat} (hI : PI L ad G s sn k hs len tx) (h2 : 2 ≤ d) (h60 : d ≤ 60) (hp : pern d = 0) : GH L yL_unitY cL_unitY 3 (some .int) [(0, 5, 6, 15), (0, 5, 10, 40)] rm_unitY 40 ad G [.ref (ad 0), .int (nI d)] (fun v G' => v = some (.int (-104)) ∧ PI L ad G' s sn k hs len tx) :=
  (w_unitY (p_unitY hI) hI.h0 (fun v G' hq => ⟨_, hq.1⟩) (fun e G' h => h.1.elim (fun z => Or.inl z.1) (fun z => Or.inr z.1))).mono (fun v G' hq => hq.elim (fun hq => (sq_1 h60 hp hq.2.2.1).elim) (fun hq => hq.elim (fun hq => (hq.1.1.elim (fun z => (num_0 h2 h60 z.2).elim) (fun z => (ne_AN z.1).elim))) (fun hq => ⟨hq.2, hq.1.2⟩)))
set_option maxRecDepth 100000 in
set_option maxHeartbeats 4000000 in
theorem v_leastYS {L : GL} {ad : Nat → Nat} {G : Nat → va_E} {s : HE} {sn : Int32} {k : HE} {hs : List HE} {len : Nat} {tx : Nat → Int32} {d : Nat} (hI : PI L ad G s sn k hs len tx) (h2 : 2 ≤ d) (h60 : d ≤ 60) (hp : pern d = 0) : GH L yL_leastY cL_leastY 3 (some .int) [(0, 5, 6, 15), (0, 5, 10, 40)] rm_leastY 40 ad G [.ref (ad 0), .int (nI d)] (fun v G' => v = some (.int (-104)) ∧ PI L ad G' s sn k hs len tx) :=
  (w_leastY (p_leastY hI) hI.h0 (fun v G' hq => ⟨_, hq.1⟩) (fun e G' h => h.1.elim (fun z => Or.inl z.1) (fun z => Or.inr z.1))).mono (fun v G' hq => hq.elim (fun hq => (sq_1 h60 hp hq.2.2.1).elim) (fun hq => hq.elim (fun hq => (hq.1.1.elim (fun z => (num_0 h2 h60 z.2).elim) (fun z => (ne_AN z.1).elim))) (fun hq => ⟨hq.2, hq.1.2⟩)))
set_option maxRecDepth 100000 in
set_option maxHeartbeats 4000000 in
theorem v_leastYBySearchS {L : GL} {ad : Nat → Nat} {G : Nat → va_E} {s : HE} {sn : Int32} {k : HE} {hs : List HE} {len : Nat} {tx : Nat → Int32} {d : Nat} (hI : PI L ad G s sn k hs len tx) (h2 : 2 ≤ d) (h60 : d ≤ 60) (hp : pern d = 0) : GH L yL_leastYBySearch cL_leastYBySearch 3 (some .int) [(0, 5, 6, 15), (0, 5, 10, 40)] rm_leastYBySearch 40 ad G [.ref (ad 0), .int (nI d)] (fun v G' => v = some (.int (-104)) ∧ PI L ad G' s sn k hs len tx) :=
  (w_leastYBySearch (p_leastYBySearch hI) hI.h0 (fun v G' hq => ⟨_, hq.choose_spec.1⟩) (fun e G' h => h.1.elim (fun z => Or.inl z.1) (fun z => Or.inr z.1))).mono (fun v G' hq => hq.elim (fun hq => (by obtain ⟨d2, _, e, _, _, y, _⟩ := hq; rw [nn_j (by omega) (by omega) e] at y; exact absurd hp y)) (fun hq => hq.elim (fun hq => (hq.1.1.elim (fun z => (num_0 h2 h60 z.2).elim) (fun z => (ne_AN z.1).elim))) (fun hq => ⟨hq.2, hq.1.2⟩)))
set_option maxRecDepth 100000 in
set_option maxHeartbeats 4000000 in
theorem v_termAtS {L : GL} {ad : Nat → Nat} {G : Nat → va_E} {s : HE} {sn : Int32} {k : HE} {hs : List HE} {len : Nat} {tx : Nat → Int32} {d pl : Nat} (hI : PI L ad G s sn k hs len tx) (h2 : 2 ≤ d) (h60 : d ≤ 60) (hp : pern d = 0) (hpl : pl ≤ 99) : GH L yL_termAt cL_termAt 4 (some .int) [(0, 6, 7, 15), (0, 6, 11, 40)] rm_termAt 40 ad G [.ref (ad 0), .int (nI d), .int (nI pl)] (fun v G' => v = some (.int (-104)) ∧ PI L ad G' s sn k hs len tx) :=
  (w_termAt (p_termAt hI) hI.h0 (fun v G' hq => ⟨_, hq.choose_spec.choose_spec.1⟩) (fun e G' h => h.1.elim (fun z => Or.inl z.1) (fun z => z.2.2.elim (fun y => Or.inl y.1) (fun y => Or.inr y.1)))).mono (fun v G' hq => hq.elim (fun hq => by obtain ⟨d2, p2, _, e, _, _, e2, _, y, _⟩ := hq; exact (sq_1 h60 hp y).elim) (fun hq => hq.elim (fun hq => (hq.1.1.elim (fun z => (z.2.elim (nI_pos (by omega)) (fun y => y ((cI_le (a := pl) (b := 99) rfl rfl (by omega) (by omega)).mpr hpl))).elim) (fun z => (z.2.2.elim (fun y => (num_0 h2 h60 y.2).elim) (fun y => (ne_AN y.1).elim)))) ) (fun hq => ⟨hq.2, hq.1.2⟩)))
set_option maxRecDepth 100000 in
set_option maxHeartbeats 4000000 in
theorem v_termAt100 {L : GL} {ad : Nat → Nat} {G : Nat → va_E} {s : HE} {sn : Int32} {k : HE} {hs : List HE} {len : Nat} {tx : Nat → Int32} {n : Int32} (hI : PI L ad G s sn k hs len tx)  : GH L yL_termAt cL_termAt 4 (some .int) [(0, 6, 7, 15), (0, 6, 11, 40)] rm_termAt 40 ad G [.ref (ad 0), .int n, .int 100] (fun v G' => v = some (.int (-102)) ∧ PI L ad G' s sn k hs len tx) :=
  (w_termAt (p_termAt hI) hI.h0 (fun v G' hq => ⟨_, hq.choose_spec.choose_spec.1⟩) (fun e G' h => h.1.elim (fun z => Or.inl z.1) (fun z => z.2.2.elim (fun y => Or.inl y.1) (fun y => Or.inr y.1)))).mono (fun v G' hq => hq.elim (fun hq => by obtain ⟨d2, p2, _, e, _, _, e2, h9, y, _⟩ := hq; have := (nI_eq (a := 100) (b := p2) (by omega) (by omega)).mp e2; omega) (fun hq => hq.elim (fun hq => ⟨hq.2, hq.1.2⟩) (fun hq => (hq.1.1.elim (fun z => (ne_NA z.1).elim) (fun z => (absurd z.2.1 (by decide)))))))
set_option maxRecDepth 100000 in
set_option maxHeartbeats 4000000 in
theorem v_whyNotO {L : GL} {ad : Nat → Nat} {G : Nat → va_E} {s : HE} {sn : Int32} {k : HE} {hs : List HE} {len : Nat} {tx : Nat → Int32} {n : Int32} (hI : PI L ad G s sn k hs len tx) (hn : numF n = 0) : GH L yL_whyNot cL_whyNot 3 (some .int) [(0, 5, 6, 15)] rm_whyNot 40 ad G [.ref (ad 0), .int n] (fun v G' => v = some (.int (-102)) ∧ PI L ad G' s sn k hs len tx) :=
  (w_whyNot (p_whyNot hI) hI.h0 (fun v G' hq => ⟨_, hq.1⟩) (fun e G' h => h.1)).mono (fun v G' hq => hq.elim (fun hq => (hq.2.1 hn).elim) (fun hq => ⟨hq.2, hq.1.2.2⟩))
set_option maxRecDepth 100000 in
set_option maxHeartbeats 4000000 in
theorem v_stoneFromO {L : GL} {ad : Nat → Nat} {G : Nat → va_E} {s : HE} {sn : Int32} {k : HE} {hs : List HE} {len : Nat} {tx : Nat → Int32} {n : Int32} (hI : PI L ad G s sn k hs len tx) (hn : numF n = 0) : GH L yL_stoneFrom cL_stoneFrom 3 (some .int) [(0, 5, 6, 15), (0, 5, 10, 40)] rm_stoneFrom 40 ad G [.ref (ad 0), .int n] (fun v G' => v = some (.int (-102)) ∧ PI L ad G' s sn k hs len tx) :=
  (w_stoneFrom (p_stoneFrom hI) hI.h0 (fun v G' hq => ⟨_, hq.choose_spec.1⟩) (fun e G' h => h.1.elim (fun z => Or.inl z.1) (fun z => Or.inr z.1))).mono (fun v G' hq => hq.elim (fun hq => by obtain ⟨d2, _, rfl, a, b, _⟩ := hq; exact (num_0 a b hn).elim) (fun hq => hq.elim (fun hq => ⟨hq.2, hq.1.2⟩) (fun hq => (hq.1.1.elim (fun z => (ne_NA z.1).elim) (fun z => by obtain ⟨_, d2, rfl, a, b, _⟩ := z; exact (num_0 a b hn).elim)))))
set_option maxRecDepth 100000 in
set_option maxHeartbeats 4000000 in
theorem v_xOfO {L : GL} {ad : Nat → Nat} {G : Nat → va_E} {s : HE} {sn : Int32} {k : HE} {hs : List HE} {len : Nat} {tx : Nat → Int32} {n : Int32} (hI : PI L ad G s sn k hs len tx) (hn : numF n = 0) : GH L yL_xOf cL_xOf 3 (some .long) [(0, 5, 6, 15), (0, 5, 11, 40)] rm_xOf 40 ad G [.ref (ad 0), .int n] (fun v G' => v = some (.long (-102)) ∧ PI L ad G' s sn k hs len tx) :=
  (w_xOf (p_xOf hI) hI.h0 (fun v G' hq => ⟨_, hq.choose_spec.choose_spec.1⟩) (fun e G' h => h.1.elim (fun z => Or.inl z.1) (fun z => Or.inr z.1))).mono (fun v G' hq => hq.elim (fun hq => by obtain ⟨d2, h3, _, rfl, a, b, _⟩ := hq; exact (num_0 a b hn).elim) (fun hq => hq.elim (fun hq => ⟨hq.2, hq.1.2⟩) (fun hq => (hq.1.1.elim (fun z => (ne_NA z.1).elim) (fun z => (z.2.1 hn).elim)))))
set_option maxRecDepth 100000 in
set_option maxHeartbeats 4000000 in
theorem v_xAtO {L : GL} {ad : Nat → Nat} {G : Nat → va_E} {s : HE} {sn : Int32} {k : HE} {hs : List HE} {len : Nat} {tx : Nat → Int32} {n : Int32} (hI : PI L ad G s sn k hs len tx) (hn : n < 0) : GH L yL_xAt cL_xAt 3 (some .long) [(0, 5, 6, 15), (0, 5, 11, 40)] rm_xAt 40 ad G [.ref (ad 0), .int n] (fun v G' => v = some (.long (-102)) ∧ PI L ad G' s sn k hs len tx) :=
  (w_xAt (p_xAt hI) hI.h0 (fun v G' hq => ⟨_, hq.choose_spec.1⟩) (fun e G' h => h.elim (fun z => Or.inl z.1) (fun ⟨_, z, _⟩ => Or.inr z))).mono (fun v G' hq => hq.elim (fun hq => by obtain ⟨c, _, rfl, a, _⟩ := hq; exact (nI_pos (by omega) hn).elim) (fun hq => hq.elim (fun hq => ⟨hq.2, hq.1.elim (fun z => z.2.2) (fun ⟨_, z, _⟩ => (ne_AN z).elim)⟩) (fun hq => (hq.1.elim (fun z => (ne_NA z.1).elim) (fun ⟨c, _, e, a, _⟩ => (nI_pos (n := c) (by omega) (e ▸ hn)).elim)))))
set_option maxRecDepth 100000 in
set_option maxHeartbeats 4000000 in
theorem v_stoneAtO {L : GL} {ad : Nat → Nat} {G : Nat → va_E} {s : HE} {sn : Int32} {k : HE} {hs : List HE} {len : Nat} {tx : Nat → Int32} {c : Nat} (hI : PI L ad G s sn k hs len tx) (hc31 : c < 2147483648) (hc : lst (kp s.1 c) = 0) : GH L yL_stoneAt cL_stoneAt 3 (some .int) [(0, 5, 6, 15), (0, 5, 10, 40)] rm_stoneAt 40 ad G [.ref (ad 0), .int (nI c)] (fun v G' => v = some (.int (-104)) ∧ PI L ad G' s sn k hs len tx) :=
  (w_stoneAt (p_stoneAt hI) hI.h0 (fun v G' hq => ⟨_, hq.choose_spec.1⟩) (fun e G' h => h.elim (fun z => Or.inl z.1) (fun ⟨_, z, _⟩ => Or.inr z))).mono (fun v G' hq => hq.elim (fun hq => by obtain ⟨c2, _, e, h9, y, _⟩ := hq; rw [← (nI_eq (by omega) (by omega)).mp e] at y; exact (y hc).elim) (fun hq => hq.elim (fun hq => (hq.1.elim (fun z => (nI_pos (by omega) z.2.1).elim) (fun ⟨_, z, _⟩ => (ne_AN z).elim))) (fun hq => ⟨hq.2, hq.1.elim (fun z => (ne_NA z.1).elim) (fun ⟨_, _, _, _, _, z⟩ => z)⟩)))
set_option maxRecDepth 100000 in
set_option maxHeartbeats 4000000 in
theorem v_xAtBySetO {L : GL} {ad : Nat → Nat} {G : Nat → va_E} {s : HE} {sn : Int32} {k : HE} {hs : List HE} {len : Nat} {tx : Nat → Int32} {c : Nat} (hI : PI L ad G s sn k hs len tx) (hc31 : c < 2147483648) (hc : lst (kp s.1 c) = 0) : GH L yL_xAtBySet cL_xAtBySet 3 (some .long) [(0, 5, 6, 15), (0, 5, 11, 40)] rm_xAtBySet 40 ad G [.ref (ad 0), .int (nI c)] (fun v G' => v = some (.long (-104)) ∧ PI L ad G' s sn k hs len tx) :=
  (w_xAtBySet (p_xAtBySet hI) hI.h0 (fun v G' hq => ⟨_, hq.choose_spec.1⟩) (fun e G' h => h.elim (fun z => Or.inl z.1) (fun ⟨_, z, _⟩ => Or.inr z))).mono (fun v G' hq => hq.elim (fun hq => by obtain ⟨c2, _, e, h9, y, _⟩ := hq; rw [← (nI_eq (by omega) (by omega)).mp e] at y; exact (y hc).elim) (fun hq => hq.elim (fun hq => (hq.1.elim (fun z => (nI_pos (by omega) z.2.1).elim) (fun ⟨_, z, _⟩ => (ne_AN z).elim))) (fun hq => ⟨hq.2, hq.1.elim (fun z => (ne_NA z.1).elim) (fun ⟨_, _, _, _, _, z⟩ => z)⟩)))
set_option maxRecDepth 100000 in
set_option maxHeartbeats 4000000 in
theorem v_solutionsUpToO {L : GL} {ad : Nat → Nat} {G : Nat → va_E} {s : HE} {sn : Int32} {k : HE} {hs : List HE} {len : Nat} {tx : Nat → Int32} {b : Int64} (hI : PI L ad G s sn k hs len tx) (hb : b < 0) : GH L yL_solutionsUpTo cL_solutionsUpTo 4 (some .int) [(0, 5, 6, 15)] rm_solutionsUpTo 40 ad G [.ref (ad 0), .long b] (fun v G' => v = some (.int (-102)) ∧ PI L ad G' s sn k hs len tx) :=
  (w_solutionsUpTo (p_solutionsUpTo hI) hI.h0 (fun v G' hq => ⟨_, hq.1⟩) (fun e G' h => h.1)).mono (fun v G' hq => hq.elim (fun hq => (hq.2.1 hb).elim) (fun hq => ⟨hq.2, hq.1.2.2⟩))
set_option maxRecDepth 100000 in
set_option maxHeartbeats 4000000 in
theorem v_stoneFrom {L : GL} {ad : Nat → Nat} {G : Nat → va_E} {s : HE} {sn : Int32} {k : HE} {hs : List HE} {len : Nat} {tx : Nat → Int32} {d : Nat} (hI : PI L ad G s sn k hs len tx) (h2 : 2 ≤ d) (h60 : d ≤ 60) : GH L yL_stoneFrom cL_stoneFrom 3 (some .int) [(0, 5, 6, 15), (0, 5, 10, 40)] rm_stoneFrom 40 ad G [.ref (ad 0), .int (nI d)] (fun v G' => v = some (.int (if sfF s.1 (61 - d) d ≤ 60 then nI (sfF s.1 (61 - d) d) else -104)) ∧ PI L ad G' s sn k hs len tx) :=
  (w_stoneFrom (p_stoneFrom hI) hI.h0 (fun v G' hq => ⟨_, hq.choose_spec.1⟩) (fun e G' h => h.1.elim (fun z => Or.inl z.1) (fun z => Or.inr z.1))).mono (fun v G' hq => hq.elim (fun hq => by obtain ⟨d2, rfl, e, _, _, y, g⟩ := hq; rw [nn_j (by omega) (by omega) e] at y ⊢; exact ⟨by rw [if_pos y], g⟩) (fun hq => hq.elim (fun hq => (hq.1.1.elim (fun z => (num_0 h2 h60 z.2).elim) (fun z => (ne_AN z.1).elim))) (fun hq => ⟨hq.2.trans (by have z := hq.1.1.elim (fun z => (ne_NA z.1).elim) (fun z => z.2); obtain ⟨d2, e, _, _, y⟩ := z; rw [nn_j (by omega) (by omega) e] at y; rw [if_neg (by omega)]), hq.1.2⟩)))
set_option maxRecDepth 100000 in
set_option maxHeartbeats 4000000 in
theorem v_powerOf {L : GL} {ad : Nat → Nat} {G : Nat → va_E} {s : HE} {sn : Int32} {k : HE} {hs : List HE} {len : Nat} {tx : Nat → Int32} {d : Nat} (hI : PI L ad G s sn k hs len tx) (h2 : 2 ≤ d) (h60 : d ≤ 60) : GH L yL_powerOf cL_powerOf 3 (some .int) [(0, 5, 6, 15), (0, 5, 10, 40)] rm_powerOf 40 ad G [.ref (ad 0), .int (nI d)] (fun v G' => v = some (.int (if s.1 d < 0 then -104 else s.1 d)) ∧ PI L ad G' s sn k hs len tx) :=
  (w_powerOf (p_powerOf hI) hI.h0 (fun v G' hq => ⟨_, hq.1⟩) (fun e G' h => h.1.elim (fun z => Or.inl z.1) (fun z => Or.inr z.1))).mono (fun v G' hq => hq.elim (fun hq => ⟨hq.1.trans (by rw [hOf_d s.1 (by omega), if_neg (fun z => hq.2.2.1 (has_0 hI.g.1 h2 h60 z))]), hq.2.2.2⟩) (fun hq => hq.elim (fun hq => (hq.1.1.elim (fun z => (num_0 h2 h60 z.2).elim) (fun z => (ne_AN z.1).elim))) (fun hq => ⟨hq.2.trans (by rw [if_pos (hq.1.1.elim (fun z => (ne_NA z.1).elim) (fun z => (has_lt hI.g.1 h2 h60).mp z.2.2))]), hq.1.2⟩)))
set_option maxRecDepth 100000 in
set_option maxHeartbeats 4000000 in
theorem v_nearRoot {L : GL} {ad : Nat → Nat} {G : Nat → va_E} {s : HE} {sn : Int32} {k : HE} {hs : List HE} {len : Nat} {tx : Nat → Int32} {d h : Nat} (hI : PI L ad G s sn k hs len tx) (h2 : 2 ≤ d) (h60 : d ≤ 60) (hf : s.1 d = nI h) (hg : h ≤ gpn d) : GH L yL_nearRoot cL_nearRoot 3 (some .float) [(0, 5, 6, 15), (0, 5, 10, 40)] rm_nearRoot 40 ad G [.ref (ad 0), .int (nI d)] (fun v G' => v = some (.float (if h = 0 then 3268411392 else FP.fdiv (FP.l2f (pwr d h).1) (FP.l2f (pwr d h).2))) ∧ PI L ad G' s sn k hs len tx) :=
  (w_nearRoot (p_nearRoot hI) hI.h0 (fun v G' hq => ⟨_, hq.choose_spec.choose_spec.1⟩) (fun e G' h => h.1.elim (fun z => Or.inl z.1) (fun z => Or.inr (z.elim (fun y => y.1) (fun ⟨_, y, _⟩ => y))))).mono (fun v G' hq => hq.elim (fun hq => by obtain ⟨d2, h3, rfl, e, _, _, _, g2, f2, h1, g⟩ := hq; obtain rfl := hp_j h60 hf hg (nn_j (by omega) (by omega) e) g2 f2; obtain rfl := nn_j (by omega) (by omega) e; exact ⟨by rw [if_neg (by omega)], g⟩) (fun hq => hq.elim (fun hq => (hq.1.1.elim (fun z => (num_0 h2 h60 z.2).elim) (fun z => z.elim (fun y => (ne_AN y.1).elim) (fun ⟨_, y, _⟩ => (ne_AN y).elim)))) (fun hq => ⟨hq.2.trans (by rw [if_pos (hq.1.1.elim (fun z => (ne_NA z.1).elim) (fun z => z.elim (fun y => (has_1 hI.g.1 h2 h60 hf hg y.2.2).elim) (fun ⟨d2, _, e, _, _, y⟩ => (hp_j (h2 := 0) h60 hf hg rfl (Nat.zero_le _) y).symm)))]), hq.1.2⟩)))
theorem cs_1 {f : Nat → Int32} {l ch n : Int32} (hn : numF n = 0) : causeF f l ch n = 1 := cause_1.mpr hn
theorem cs_ne {f : Nat → Int32} {l ch n : Int32} (hn : ¬ numF n = 0) : ¬ causeF f l ch n = 1 := fun z => hn (cause_1.mp z)
theorem cs_10 {f : Nat → Int32} {l ch n : Int32} (hn : numF n = 0) : ¬ causeF f l ch n = 0 := fun z => absurd ((cs_1 (f := f) (l := l) (ch := ch) hn).symm.trans z) (by decide)
theorem cs_l {f : Nat → Int32} {l : Int32} {d : Nat} (h2 : 2 ≤ d) (h60 : d ≤ 60) : causeF f l 108 (nI d) = if rsnF f l (nI d) = 0 then 0 else 2 := by rw [causeF, if_neg (num_0 h2 h60), if_pos rfl]
theorem cs_t {f : Nat → Int32} {l : Int32} {d : Nat} (h2 : 2 ≤ d) (h60 : d ≤ 60) : causeF f l 116 (nI d) = if f d = -1 then 2 else 0 := by rw [causeF, if_neg (num_0 h2 h60), if_neg (by decide), if_neg (by decide), if_neg (by decide), hOf_d f (by omega)]
theorem cs_m {f : Nat → Int32} {l : Int32} {d : Nat} (h2 : 2 ≤ d) (h60 : d ≤ 60) : causeF f l 109 (nI d) = if f d = -1 then 2 else if tGp d ≤ f d then 2 else 0 := by rw [causeF, if_neg (num_0 h2 h60), if_neg (by decide), if_pos rfl, hOf_d f (by omega), tab_d _ (by omega)]
theorem cs_b {f : Nat → Int32} {l : Int32} {d : Nat} (h2 : 2 ≤ d) (h60 : d ≤ 60) : causeF f l 98 (nI d) = if f d ≤ 0 then 2 else 0 := by rw [causeF, if_neg (num_0 h2 h60), if_neg (by decide), if_neg (by decide), if_pos rfl, hOf_d f (by omega)]
set_option maxRecDepth 100000 in
set_option maxHeartbeats 4000000 in
theorem v_layO {L : GL} {ad : Nat → Nat} {G : Nat → va_E} {s : HE} {sn : Int32} {k : HE} {hs : List HE} {len : Nat} {tx : Nat → Int32} {n : Int32} (hI : PI L ad G s sn k hs len tx) (hn : numF n = 0) : GH L yL_lay cL_lay 3 (some .int) [(0, 5, 6, 15), (0, 5, 10, 17)] rm_lay 40 ad G [.ref (ad 0), .int n] (fun v G' => v = some (.int (-102)) ∧ PI L ad G' s sn k hs len tx) :=
  (w_lay (p_lay hI) hI.h0 (fun v G' hq => ⟨_, hq.1⟩) (fun e G' h => h.1.elim (fun z => Or.inl z.1) (fun z => Or.inr z.1))).mono (fun v G' hq => hq.elim (fun hq => (cs_10 hn hq.2.1).elim) (fun hq => hq.elim (fun hq => ⟨hq.2, hq.1.2⟩) (fun hq => (hq.1.1.elim (fun z => (ne_IA z.1).elim) (fun z => (z.2.1 (cs_1 hn)).elim)))))
set_option maxRecDepth 100000 in
set_option maxHeartbeats 4000000 in
theorem v_layN {L : GL} {ad : Nat → Nat} {G : Nat → va_E} {s : HE} {sn : Int32} {k : HE} {hs : List HE} {len : Nat} {tx : Nat → Int32} {d : Nat} (hI : PI L ad G s sn k hs len tx) (h2 : 2 ≤ d) (h60 : d ≤ 60) (hc : ¬ causeF s.1 s.2.1 108 (nI d) = 0) : GH L yL_lay cL_lay 3 (some .int) [(0, 5, 6, 15), (0, 5, 10, 17)] rm_lay 40 ad G [.ref (ad 0), .int (nI d)] (fun v G' => v = some (.int (-103)) ∧ PI L ad G' s sn k hs len tx) :=
  (w_lay (p_lay hI) hI.h0 (fun v G' hq => ⟨_, hq.1⟩) (fun e G' h => h.1.elim (fun z => Or.inl z.1) (fun z => Or.inr z.1))).mono (fun v G' hq => hq.elim (fun hq => (hc hq.2.1).elim) (fun hq => hq.elim (fun hq => (hq.1.1.elim (fun z => (cs_ne (num_0 h2 h60) z.2).elim) (fun z => (ne_AI z.1).elim))) (fun hq => ⟨hq.2, hq.1.2⟩)))
set_option maxRecDepth 100000 in
set_option maxHeartbeats 4000000 in
theorem v_takeO {L : GL} {ad : Nat → Nat} {G : Nat → va_E} {s : HE} {sn : Int32} {k : HE} {hs : List HE} {len : Nat} {tx : Nat → Int32} {n : Int32} (hI : PI L ad G s sn k hs len tx) (hn : numF n = 0) : GH L yL_take cL_take 3 (some .int) [(0, 5, 6, 15), (0, 5, 10, 17)] rm_take 40 ad G [.ref (ad 0), .int n] (fun v G' => v = some (.int (-102)) ∧ PI L ad G' s sn k hs len tx) :=
  (w_take (p_take hI) hI.h0 (fun v G' hq => ⟨_, hq.1⟩) (fun e G' h => h.1.elim (fun z => Or.inl z.1) (fun z => Or.inr z.1))).mono (fun v G' hq => hq.elim (fun hq => (cs_10 hn hq.2.1).elim) (fun hq => hq.elim (fun hq => ⟨hq.2, hq.1.2⟩) (fun hq => (hq.1.1.elim (fun z => (ne_IA z.1).elim) (fun z => (z.2.1 (cs_1 hn)).elim)))))
set_option maxRecDepth 100000 in
set_option maxHeartbeats 4000000 in
theorem v_takeN {L : GL} {ad : Nat → Nat} {G : Nat → va_E} {s : HE} {sn : Int32} {k : HE} {hs : List HE} {len : Nat} {tx : Nat → Int32} {d : Nat} (hI : PI L ad G s sn k hs len tx) (h2 : 2 ≤ d) (h60 : d ≤ 60) (hc : ¬ causeF s.1 s.2.1 116 (nI d) = 0) : GH L yL_take cL_take 3 (some .int) [(0, 5, 6, 15), (0, 5, 10, 17)] rm_take 40 ad G [.ref (ad 0), .int (nI d)] (fun v G' => v = some (.int (-103)) ∧ PI L ad G' s sn k hs len tx) :=
  (w_take (p_take hI) hI.h0 (fun v G' hq => ⟨_, hq.1⟩) (fun e G' h => h.1.elim (fun z => Or.inl z.1) (fun z => Or.inr z.1))).mono (fun v G' hq => hq.elim (fun hq => (hc hq.2.1).elim) (fun hq => hq.elim (fun hq => (hq.1.1.elim (fun z => (cs_ne (num_0 h2 h60) z.2).elim) (fun z => (ne_AI z.1).elim))) (fun hq => ⟨hq.2, hq.1.2⟩)))
set_option maxRecDepth 100000 in
set_option maxHeartbeats 4000000 in
theorem v_millO {L : GL} {ad : Nat → Nat} {G : Nat → va_E} {s : HE} {sn : Int32} {k : HE} {hs : List HE} {len : Nat} {tx : Nat → Int32} {n : Int32} (hI : PI L ad G s sn k hs len tx) (hn : numF n = 0) : GH L yL_mill cL_mill 3 (some .long) [(0, 5, 6, 15), (0, 5, 11, 17)] rm_mill 40 ad G [.ref (ad 0), .int n] (fun v G' => v = some (.long (-102)) ∧ PI L ad G' s sn k hs len tx) :=
  (w_mill (p_mill hI) hI.h0 (fun v G' hq => ⟨_, hq.choose_spec.choose_spec.1⟩) (fun e G' h => h.1.elim (fun z => Or.inl z.1) (fun z => Or.inr z.1))).mono (fun v G' hq => hq.elim (fun hq => by obtain ⟨d2, h3, _, y, _⟩ := hq; exact (cs_10 hn y).elim) (fun hq => hq.elim (fun hq => ⟨hq.2, hq.1.2⟩) (fun hq => (hq.1.1.elim (fun z => (ne_IA z.1).elim) (fun z => (z.2.1 (cs_1 hn)).elim)))))
set_option maxRecDepth 100000 in
set_option maxHeartbeats 4000000 in
theorem v_millN {L : GL} {ad : Nat → Nat} {G : Nat → va_E} {s : HE} {sn : Int32} {k : HE} {hs : List HE} {len : Nat} {tx : Nat → Int32} {d : Nat} (hI : PI L ad G s sn k hs len tx) (h2 : 2 ≤ d) (h60 : d ≤ 60) (hc : ¬ causeF s.1 s.2.1 109 (nI d) = 0) : GH L yL_mill cL_mill 3 (some .long) [(0, 5, 6, 15), (0, 5, 11, 17)] rm_mill 40 ad G [.ref (ad 0), .int (nI d)] (fun v G' => v = some (.long (-103)) ∧ PI L ad G' s sn k hs len tx) :=
  (w_mill (p_mill hI) hI.h0 (fun v G' hq => ⟨_, hq.choose_spec.choose_spec.1⟩) (fun e G' h => h.1.elim (fun z => Or.inl z.1) (fun z => Or.inr z.1))).mono (fun v G' hq => hq.elim (fun hq => by obtain ⟨d2, h3, _, y, _⟩ := hq; exact (hc y).elim) (fun hq => hq.elim (fun hq => (hq.1.1.elim (fun z => (cs_ne (num_0 h2 h60) z.2).elim) (fun z => (ne_AI z.1).elim))) (fun hq => ⟨hq.2, hq.1.2⟩)))
set_option maxRecDepth 100000 in
set_option maxHeartbeats 4000000 in
theorem v_millBackO {L : GL} {ad : Nat → Nat} {G : Nat → va_E} {s : HE} {sn : Int32} {k : HE} {hs : List HE} {len : Nat} {tx : Nat → Int32} {n : Int32} (hI : PI L ad G s sn k hs len tx) (hn : numF n = 0) : GH L yL_millBack cL_millBack 3 (some .long) [(0, 5, 6, 15), (0, 5, 11, 17)] rm_millBack 40 ad G [.ref (ad 0), .int n] (fun v G' => v = some (.long (-102)) ∧ PI L ad G' s sn k hs len tx) :=
  (w_millBack (p_millBack hI) hI.h0 (fun v G' hq => ⟨_, hq.choose_spec.choose_spec.1⟩) (fun e G' h => h.1.elim (fun z => Or.inl z.1) (fun z => Or.inr z.1))).mono (fun v G' hq => hq.elim (fun hq => by obtain ⟨d2, h3, _, y, _⟩ := hq; exact (cs_10 hn y).elim) (fun hq => hq.elim (fun hq => ⟨hq.2, hq.1.2⟩) (fun hq => (hq.1.1.elim (fun z => (ne_IA z.1).elim) (fun z => (z.2.1 (cs_1 hn)).elim)))))
set_option maxRecDepth 100000 in
set_option maxHeartbeats 4000000 in
theorem v_millBackN {L : GL} {ad : Nat → Nat} {G : Nat → va_E} {s : HE} {sn : Int32} {k : HE} {hs : List HE} {len : Nat} {tx : Nat → Int32} {d : Nat} (hI : PI L ad G s sn k hs len tx) (h2 : 2 ≤ d) (h60 : d ≤ 60) (hc : ¬ causeF s.1 s.2.1 98 (nI d) = 0) : GH L yL_millBack cL_millBack 3 (some .long) [(0, 5, 6, 15), (0, 5, 11, 17)] rm_millBack 40 ad G [.ref (ad 0), .int (nI d)] (fun v G' => v = some (.long (-103)) ∧ PI L ad G' s sn k hs len tx) :=
  (w_millBack (p_millBack hI) hI.h0 (fun v G' hq => ⟨_, hq.choose_spec.choose_spec.1⟩) (fun e G' h => h.1.elim (fun z => Or.inl z.1) (fun z => Or.inr z.1))).mono (fun v G' hq => hq.elim (fun hq => by obtain ⟨d2, h3, _, y, _⟩ := hq; exact (hc y).elim) (fun hq => hq.elim (fun hq => (hq.1.1.elim (fun z => (cs_ne (num_0 h2 h60) z.2).elim) (fun z => (ne_AI z.1).elim))) (fun hq => ⟨hq.2, hq.1.2⟩)))
set_option maxRecDepth 100000 in
set_option maxHeartbeats 4000000 in
theorem v_layY {L : GL} {ad : Nat → Nat} {G : Nat → va_E} {s : HE} {sn : Int32} {k : HE} {hs : List HE} {len : Nat} {tx : Nat → Int32} {d : Nat} (hI : PI L ad G s sn k hs len tx) (h2 : 2 ≤ d) (h60 : d ≤ 60) (hc : causeF s.1 s.2.1 108 (nI d) = 0) : GH L yL_lay cL_lay 3 (some .int) [(0, 5, 6, 15), (0, 5, 10, 17)] rm_lay 40 ad G [.ref (ad 0), .int (nI d)] (fun v G' => v = some (.int (s.2.1 + 1)) ∧ PI L ad G' (upd s.1 d 0, s.2.1 + 1, s.2.2) sn k (hpush hs s) len tx) :=
  (w_lay (p_lay hI) hI.h0 (fun v G' hq => ⟨_, hq.1⟩) (fun e G' h => h.1.elim (fun z => Or.inl z.1) (fun z => Or.inr z.1))).mono (fun v G' hq => hq.elim (fun hq => by have e := co_l (f := s.1) (l := s.2.1) (ml := s.2.2) h60; rw [e] at hq; exact ⟨hq.1, hq.2.2⟩) (fun hq => hq.elim (fun hq => (hq.1.1.elim (fun z => (cs_ne (num_0 h2 h60) z.2).elim) (fun z => (ne_AI z.1).elim))) (fun hq => (hq.1.1.elim (fun z => (ne_IA z.1).elim) (fun z => (z.2.2 hc).elim)))))
set_option maxRecDepth 100000 in
set_option maxHeartbeats 4000000 in
theorem v_takeY {L : GL} {ad : Nat → Nat} {G : Nat → va_E} {s : HE} {sn : Int32} {k : HE} {hs : List HE} {len : Nat} {tx : Nat → Int32} {d h : Nat} (hI : PI L ad G s sn k hs len tx) (h2 : 2 ≤ d) (h60 : d ≤ 60) (hf : s.1 d = nI h) (hg : h ≤ gpn d) (hc : causeF s.1 s.2.1 116 (nI d) = 0) : GH L yL_take cL_take 3 (some .int) [(0, 5, 6, 15), (0, 5, 10, 17)] rm_take 40 ad G [.ref (ad 0), .int (nI d)] (fun v G' => v = some (.int (nI h)) ∧ PI L ad G' (upd s.1 d (-1), s.2.1 - 1, s.2.2) sn k (hpush hs s) len tx) :=
  (w_take (p_take hI) hI.h0 (fun v G' hq => ⟨_, hq.1⟩) (fun e G' h => h.1.elim (fun z => Or.inl z.1) (fun z => Or.inr z.1))).mono (fun v G' hq => hq.elim (fun hq => by have e := co_t (f := s.1) (l := s.2.1) (ml := s.2.2) h60; rw [e, hOf_d s.1 (by omega), hf] at hq; exact ⟨hq.1, hq.2.2⟩) (fun hq => hq.elim (fun hq => (hq.1.1.elim (fun z => (cs_ne (num_0 h2 h60) z.2).elim) (fun z => (ne_AI z.1).elim))) (fun hq => (hq.1.1.elim (fun z => (ne_IA z.1).elim) (fun z => (z.2.2 hc).elim)))))
set_option maxRecDepth 100000 in
set_option maxHeartbeats 4000000 in
theorem v_millY {L : GL} {ad : Nat → Nat} {G : Nat → va_E} {s : HE} {sn : Int32} {k : HE} {hs : List HE} {len : Nat} {tx : Nat → Int32} {d h : Nat} (hI : PI L ad G s sn k hs len tx) (h2 : 2 ≤ d) (h60 : d ≤ 60) (hf : s.1 d = nI h) (hg : h < gpn d) (hc : causeF s.1 s.2.1 109 (nI d) = 0) : GH L yL_mill cL_mill 3 (some .long) [(0, 5, 6, 15), (0, 5, 11, 17)] rm_mill 40 ad G [.ref (ad 0), .int (nI d)] (fun v G' => v = some (.long (pwr d (h + 1)).1) ∧ PI L ad G' (upd s.1 d (nI (h + 1)), s.2.1, s.2.2 + 1) sn k (hpush hs s) len tx) :=
  (w_mill (p_mill hI) hI.h0 (fun v G' hq => ⟨_, hq.choose_spec.choose_spec.1⟩) (fun e G' h => h.1.elim (fun z => Or.inl z.1) (fun z => Or.inr z.1))).mono (fun v G' hq => hq.elim (fun hq => by obtain ⟨d2, h3, rfl, _, e, _, _, _, g2, f2, g⟩ := hq; obtain rfl := nn_j (by omega) (by omega) e; rw [co_m h60 hf] at f2 g; replace f2 : upd s.1 d2 (nI (h + 1)) d2 = nI h3 := f2; rw [upd_d] at f2; have := gp_lt d2 (by omega); obtain rfl := nn_j (by omega) (by omega) f2; exact ⟨rfl, g⟩) (fun hq => hq.elim (fun hq => (hq.1.1.elim (fun z => (cs_ne (num_0 h2 h60) z.2).elim) (fun z => (ne_AI z.1).elim))) (fun hq => (hq.1.1.elim (fun z => (ne_IA z.1).elim) (fun z => (z.2.2 hc).elim)))))
set_option maxRecDepth 100000 in
set_option maxHeartbeats 4000000 in
theorem v_millBackY {L : GL} {ad : Nat → Nat} {G : Nat → va_E} {s : HE} {sn : Int32} {k : HE} {hs : List HE} {len : Nat} {tx : Nat → Int32} {d h : Nat} (hI : PI L ad G s sn k hs len tx) (h2 : 2 ≤ d) (h60 : d ≤ 60) (hf : s.1 d = nI (h + 1)) (hg : h + 1 ≤ gpn d) (hc : causeF s.1 s.2.1 98 (nI d) = 0) : GH L yL_millBack cL_millBack 3 (some .long) [(0, 5, 6, 15), (0, 5, 11, 17)] rm_millBack 40 ad G [.ref (ad 0), .int (nI d)] (fun v G' => v = some (.long (pwr d h).1) ∧ PI L ad G' (upd s.1 d (nI h), s.2.1, s.2.2) sn k (hpush hs s) len tx) :=
  (w_millBack (p_millBack hI) hI.h0 (fun v G' hq => ⟨_, hq.choose_spec.choose_spec.1⟩) (fun e G' h => h.1.elim (fun z => Or.inl z.1) (fun z => Or.inr z.1))).mono (fun v G' hq => hq.elim (fun hq => by obtain ⟨d2, h3, rfl, _, e, _, _, _, g2, f2, g⟩ := hq; obtain rfl := nn_j (by omega) (by omega) e; rw [co_b h60 hf] at f2 g; replace f2 : upd s.1 d2 (nI h) d2 = nI h3 := f2; rw [upd_d] at f2; have := gp_lt d2 (by omega); obtain rfl := nn_j (by omega) (by omega) f2; exact ⟨rfl, g⟩) (fun hq => hq.elim (fun hq => (hq.1.1.elim (fun z => (cs_ne (num_0 h2 h60) z.2).elim) (fun z => (ne_AI z.1).elim))) (fun hq => (hq.1.1.elim (fun z => (ne_IA z.1).elim) (fun z => (z.2.2 hc).elim)))))
set_option maxRecDepth 100000 in
set_option maxHeartbeats 4000000 in
theorem v_goBackN {L : GL} {ad : Nat → Nat} {G : Nat → va_E} {s : HE} {sn : Int32} {k : HE} {hs : List HE} {len : Nat} {tx : Nat → Int32}  (hI : PI L ad G s sn k hs len tx) (h0 : sn = 0) : GH L yL_goBack cL_goBack 2 (some .int) [(0, 4, 5, 17)] rm_goBack 40 ad G [.ref (ad 0)] (fun v G' => v = some (.int (-103)) ∧ PI L ad G' s sn k hs len tx) :=
  (w_goBack (p_goBack hI) hI.h0 (fun v G' hq => ⟨_, hq.1⟩) (fun e G' h => h.1)).mono (fun v G' hq => hq.elim (fun hq => (hq.2.1 h0).elim) (fun hq => ⟨hq.2, hq.1.2.2⟩))
set_option maxRecDepth 100000 in
set_option maxHeartbeats 4000000 in
theorem v_goBackY {L : GL} {ad : Nat → Nat} {G : Nat → va_E} {s : HE} {sn : Int32} {k : HE} {hs : List HE} {len : Nat} {tx : Nat → Int32}  (hI : PI L ad G s sn k hs len tx) (h1 : ¬ sn = 0) : GH L yL_goBack cL_goBack 2 (some .int) [(0, 4, 5, 17)] rm_goBack 40 ad G [.ref (ad 0)] (fun v G' => v = some (.int k.2.1) ∧ PI L ad G' k sn k (hpush hs s) len tx) :=
  (w_goBack (p_goBack hI) hI.h0 (fun v G' hq => ⟨_, hq.1⟩) (fun e G' h => h.1)).mono (fun v G' hq => hq.elim (fun hq => ⟨hq.1, hq.2.2⟩) (fun hq => (h1 hq.1.2.1).elim))
set_option maxRecDepth 100000 in
set_option maxHeartbeats 4000000 in
theorem v_undo0 {L : GL} {ad : Nat → Nat} {G : Nat → va_E} {s : HE} {sn : Int32} {k : HE} {len : Nat} {tx : Nat → Int32}  (hI : PI L ad G s sn k [] len tx)  : GH L yL_undo cL_undo 2 (some .int) [(0, 4, 5, 17)] rm_undo0 40 ad G [.ref (ad 0)] (fun v G' => v = some (.int (-103)) ∧ PI L ad G' s sn k [] len tx) :=
  (w_undo0 (p_undo0 hI) hI.h0 (fun v G' hq => hq.elim) (fun e G' h => h.1)).mono (fun v G' hq => hq.elim (fun hq => hq.elim) (fun hq => ⟨hq.2, hq.1.2⟩))
set_option maxRecDepth 100000 in
set_option maxHeartbeats 4000000 in
theorem v_undoY {L : GL} {ad : Nat → Nat} {G : Nat → va_E} {s : HE} {sn : Int32} {k : HE} {hs : List HE} {len : Nat} {tx : Nat → Int32} {e : HE} (hI : PI L ad G s sn k (hs ++ [e]) len tx)  : GH L yL_undo cL_undo 2 (some .int) [(0, 4, 5, 17)] rm_undo 40 ad G [.ref (ad 0)] (fun v G' => v = some (.int (nI hs.length)) ∧ PI L ad G' e sn k hs len tx) :=
  (w_undo (p_undo hI) hI.h0 (fun v G' hq => ⟨_, hq.1⟩) (fun e G' h => h.elim)).mono (fun v G' hq => hq.elim (fun hq => hq) (fun hq => hq.1.elim))
set_option maxRecDepth 100000 in
set_option maxHeartbeats 4000000 in
theorem v_faultPositionN {L : GL} {ad : Nat → Nat} {G : Nat → va_E} {s : HE} {sn : Int32} {k : HE} {hs : List HE} {len : Nat} {tx : Nat → Int32}  (hI : PI L ad G s sn k hs len tx) (h0 : (rdR s len tx).2.2.1 = 0) : GH L yL_faultPosition cL_faultPosition 2 (some .int) [(0, 4, 5, 40)] rm_faultPosition 40 ad G [.ref (ad 0)] (fun v G' => v = some (.int (-104)) ∧ PI L ad G' s sn k hs len tx) :=
  (w_faultPosition (p_faultPosition hI) hI.h0 (fun v G' hq => ⟨_, hq.1⟩) (fun e G' h => h.1)).mono (fun v G' hq => hq.elim (fun hq => (hq.2.1 h0).elim) (fun hq => ⟨hq.2, hq.1.2.2⟩))
set_option maxRecDepth 100000 in
set_option maxHeartbeats 4000000 in
theorem v_faultPositionY {L : GL} {ad : Nat → Nat} {G : Nat → va_E} {s : HE} {sn : Int32} {k : HE} {hs : List HE} {len : Nat} {tx : Nat → Int32}  (hI : PI L ad G s sn k hs len tx) (h0 : ¬ (rdR s len tx).2.2.1 = 0) : GH L yL_faultPosition cL_faultPosition 2 (some .int) [(0, 4, 5, 40)] rm_faultPosition 40 ad G [.ref (ad 0)] (fun v G' => v = some (.int (nI (rdR s len tx).2.1)) ∧ PI L ad G' s sn k hs len tx) :=
  (w_faultPosition (p_faultPosition hI) hI.h0 (fun v G' hq => ⟨_, hq.1⟩) (fun e G' h => h.1)).mono (fun v G' hq => hq.elim (fun hq => ⟨hq.1, hq.2.2⟩) (fun hq => (h0 hq.1.2.1).elim))
set_option maxRecDepth 100000 in
set_option maxHeartbeats 4000000 in
theorem v_faultReasonN {L : GL} {ad : Nat → Nat} {G : Nat → va_E} {s : HE} {sn : Int32} {k : HE} {hs : List HE} {len : Nat} {tx : Nat → Int32}  (hI : PI L ad G s sn k hs len tx) (h0 : (rdR s len tx).2.2.1 = 0) : GH L yL_faultReason cL_faultReason 2 (some .int) [(0, 4, 5, 40)] rm_faultReason 40 ad G [.ref (ad 0)] (fun v G' => v = some (.int (-104)) ∧ PI L ad G' s sn k hs len tx) :=
  (w_faultReason (p_faultReason hI) hI.h0 (fun v G' hq => ⟨_, hq.1⟩) (fun e G' h => h.1)).mono (fun v G' hq => hq.elim (fun hq => (hq.2.1 h0).elim) (fun hq => ⟨hq.2, hq.1.2.2⟩))
set_option maxRecDepth 100000 in
set_option maxHeartbeats 4000000 in
theorem v_faultReasonY {L : GL} {ad : Nat → Nat} {G : Nat → va_E} {s : HE} {sn : Int32} {k : HE} {hs : List HE} {len : Nat} {tx : Nat → Int32}  (hI : PI L ad G s sn k hs len tx) (h0 : ¬ (rdR s len tx).2.2.1 = 0) : GH L yL_faultReason cL_faultReason 2 (some .int) [(0, 4, 5, 40)] rm_faultReason 40 ad G [.ref (ad 0)] (fun v G' => v = some (.int ((rdR s len tx).2.2.1)) ∧ PI L ad G' s sn k hs len tx) :=
  (w_faultReason (p_faultReason hI) hI.h0 (fun v G' hq => ⟨_, hq.1⟩) (fun e G' h => h.1)).mono (fun v G' hq => hq.elim (fun hq => ⟨hq.1, hq.2.2⟩) (fun hq => (h0 hq.1.2.1).elim))
set_option maxRecDepth 100000 in
set_option maxHeartbeats 4000000 in
theorem v_faultCauseN {L : GL} {ad : Nat → Nat} {G : Nat → va_E} {s : HE} {sn : Int32} {k : HE} {hs : List HE} {len : Nat} {tx : Nat → Int32}  (hI : PI L ad G s sn k hs len tx) (h0 : (rdR s len tx).2.2.1 = 0) : GH L yL_faultCause cL_faultCause 2 (some .int) [(0, 4, 5, 40)] rm_faultCause 40 ad G [.ref (ad 0)] (fun v G' => v = some (.int (-104)) ∧ PI L ad G' s sn k hs len tx) :=
  (w_faultCause (p_faultCause hI) hI.h0 (fun v G' hq => ⟨_, hq.1⟩) (fun e G' h => h.1)).mono (fun v G' hq => hq.elim (fun hq => (hq.2.1 h0).elim) (fun hq => ⟨hq.2, hq.1.2.2⟩))
set_option maxRecDepth 100000 in
set_option maxHeartbeats 4000000 in
theorem v_faultCauseY {L : GL} {ad : Nat → Nat} {G : Nat → va_E} {s : HE} {sn : Int32} {k : HE} {hs : List HE} {len : Nat} {tx : Nat → Int32}  (hI : PI L ad G s sn k hs len tx) (h0 : ¬ (rdR s len tx).2.2.1 = 0) : GH L yL_faultCause cL_faultCause 2 (some .int) [(0, 4, 5, 40)] rm_faultCause 40 ad G [.ref (ad 0)] (fun v G' => v = some (.int ((rdR s len tx).2.2.2.1)) ∧ PI L ad G' s sn k hs len tx) :=
  (w_faultCause (p_faultCause hI) hI.h0 (fun v G' hq => ⟨_, hq.1⟩) (fun e G' h => h.1)).mono (fun v G' hq => hq.elim (fun hq => ⟨hq.1, hq.2.2⟩) (fun hq => (h0 hq.1.2.1).elim))
set_option maxRecDepth 100000 in
set_option maxHeartbeats 4000000 in
theorem v_playN {L : GL} {ad : Nat → Nat} {G : Nat → va_E} {s : HE} {sn : Int32} {k : HE} {hs : List HE} {len : Nat} {tx : Nat → Int32}  (hI : PI L ad G s sn k hs len tx) (h0 : ¬ (rdR s len tx).2.2.1 = 0) : GH L yL_play cL_play 2 (some .int) [(0, 4, 5, 17)] rm_play 40 ad G [.ref (ad 0)] (fun v G' => v = some (.int (-103)) ∧ PI L ad G' s sn k hs len tx) :=
  (w_play (p_play hI) hI.h0 (fun v G' hq => ⟨_, hq.1⟩) (fun e G' h => h.1)).mono (fun v G' hq => hq.elim (fun hq => (h0 hq.2.1).elim) (fun hq => ⟨hq.2, hq.1.2.2⟩))
set_option maxRecDepth 100000 in
set_option maxHeartbeats 4000000 in
theorem v_playY {L : GL} {ad : Nat → Nat} {G : Nat → va_E} {s : HE} {sn : Int32} {k : HE} {hs : List HE} {len : Nat} {tx : Nat → Int32}  (hI : PI L ad G s sn k hs len tx) (h0 : (rdR s len tx).2.2.1 = 0) : GH L yL_play cL_play 2 (some .int) [(0, 4, 5, 17)] rm_play 40 ad G [.ref (ad 0)] (fun v G' => v = some (.int (rdR s len tx).1) ∧ PI L ad G' (rdR s len tx).2.2.2.2 sn k (hpush hs s) len tx) :=
  (w_play (p_play hI) hI.h0 (fun v G' hq => ⟨_, hq.1⟩) (fun e G' h => h.1)).mono (fun v G' hq => hq.elim (fun hq => ⟨hq.1, hq.2.2⟩) (fun hq => (hq.1.2.1 h0).elim))
