/-- how many stones stand below j + 2 -/
def mnN (f : Nat → Int32) : Nat → Nat
  | 0 => 0
  | j + 1 => mnN f j + (if f (j + 2) < 0 then 0 else 1)
theorem mn_I (f : Nat → Int32) : ∀ j, manyF f j = nI (mnN f j) ∧ mnN f j ≤ j
  | 0 => ⟨rfl, Nat.le_refl _⟩
  | j + 1 => by
    have ih := mn_I f j
    rw [manyF, mnN, ih.1]
    by_cases z : f (j + 2) < 0
    · rw [if_pos z, if_pos z]; exact ⟨Int32.add_zero _, by omega⟩
    · rw [if_neg z, if_neg z]; exact ⟨cI_add (a := mnN f j) (b := 1) rfl rfl, by omega⟩
theorem mn_up (f : Nat → Int32) (j : Nat) : ∀ k, mnN f j ≤ mnN f (j + k)
  | 0 => Nat.le_refl _
  | k + 1 => by
    have := mn_up f j k
    rw [← Nat.add_assoc, mnN]; omega
theorem mn_8 {f : Nat → Int32} {l : Int32} (h : okL f l) {j : Nat} (hj : j < 59) (z : ¬ f (j + 2) < 0) : mnN f j < 8 := by
  obtain ⟨h1, c, h8, hc⟩ := h
  have a := mn_I f 59
  have e : nI (mnN f 59) = nI c := by rw [← a.1, ← h1, hc]
  have e2 := (cI_eq (a := mnN f 59) (b := c) rfl rfl (by omega) (by omega)).mp e
  have u := mn_up f (j + 1) (58 - j)
  rw [show j + 1 + (58 - j) = 59 by omega, mnN, if_neg z] at u
  omega
def kj (f : Nat → Int32) (j : Nat) : Nat → Nat := fun d => if d < j + 2 then k0 f d else 0
theorem kj_n {f : Nat → Int32} {j : Nat} (h : f (j + 2) < 0) : kj f (j + 1) = kj f j := by
  funext d
  unfold kj
  by_cases e : d = j + 2
  · rw [e, if_pos (by omega), if_neg (by omega), k0, if_pos h]
  · by_cases z : d < j + 2
    · rw [if_pos z, if_pos (by omega)]
    · rw [if_neg z, if_neg (by omega)]
theorem kj_o {f : Nat → Int32} {j d : Nat} (h : d ≠ j + 2) : kj f (j + 1) d = kj f j d := by
  unfold kj
  by_cases z : d < j + 2
  · rw [if_pos z, if_pos (by omega)]
  · rw [if_neg z, if_neg (by omega)]
theorem kj_y {f : Nat → Int32} {j : Nat} (h : ¬ f (j + 2) < 0) : kj f (j + 1) (j + 2) = 1 := by rw [kj, if_pos (by omega), k0, if_neg h]
theorem kj_lt {f : Nat → Int32} {j d : Nat} (h : kj f j d ≠ 0) : d < j + 2 := Classical.byContradiction fun z => h (if_neg z)
theorem kj_59 {f : Nat → Int32} {p nm : Nat → Nat} {sz : Nat} {G : Nat → va_E} (h : qQS G p nm (kj f 59) sz) (hc : qCQ nm (kj f 59) sz) : qQS G p nm (kp f 0) sz ∧ qCQ nm (kp f 0) sz := by
  have e : ∀ d, d ≤ 60 → kj f 59 d = kp f 0 d := fun d hd => by rw [kj, if_pos (by omega), kp]
  refine ⟨⟨h.1, h.2.1, h.2.2.1, h.2.2.2.1, fun i hi => ?_, h.2.2.2.2.2⟩, fun d h2 h60 hd => hc d h2 h60 (by rw [e d h60]; exact hd)⟩
  have z := h.2.2.2.2.1 i hi
  rw [e _ z.2.1] at z
  exact z
theorem qs_add {f : Nat → Int32} {G G2 : Nat → va_E} {p nm : Nat → Nat} {s j : Nat} {S : List Nat} (h : qQS G p nm (kj f j) s) (hs : s < 8) (hj : j < 59) (hf : ¬ f (j + 2) < 0) (hp : pern (j + 2) ≠ 0) (g : G2 (p s) = PWn (j + 2) 1) (a : Agr S G G2) (hS : ∀ x ∈ S, x = p s ∨ x = 9) : qQS G2 p (kpU nm s (j + 2)) (kj f (j + 1)) (s + 1) := by
  obtain ⟨h1, h2, h3, h4, h5, h6⟩ := h
  have hn : ∀ i, i < 8 → i ≠ s → G2 (p i) = G (p i) := fun i hi e => a _ (fun z => by
    rcases hS _ z with z | z
    · exact e (h2 i s hi hs z)
    · have := h1 i hi; omega)
  have g0 : G2 (p s) = .inr (1, [.int (tUx (j + 2)), .int (tUy (j + 2)), .int (nI (j + 2)), .long (pwr (j + 2) 1).1, .long (pwr (j + 2) 1).2]) := g
  refine ⟨h1, h2, by omega, fun i hi => ?_, fun i hi => ?_, fun i k hi hk => ?_⟩
  · by_cases e : i = s
    · exact ⟨_, _, _, _, _, e ▸ g0⟩
    · obtain ⟨y1, y2, y3, y4, y5, z⟩ := h4 i hi
      exact ⟨y1, y2, y3, y4, y5, (hn i hi e).trans z⟩
  · by_cases e : i = s
    · subst e
      rw [kpU_y, kj_y hf]
      exact ⟨by omega, by omega, hp, Nat.one_ne_zero, gp_1 _ (by omega) hp, g⟩
    · have z := h5 i (by omega)
      have l := kj_lt z.2.2.2.1
      rw [kpU_n e, kj_o (by omega)]
      exact ⟨z.1, z.2.1, z.2.2.1, z.2.2.2.1, z.2.2.2.2.1, (hn i (by omega) e).trans z.2.2.2.2.2⟩
  · by_cases ei : i = s
    · by_cases ek : k = s
      · intro _; omega
      · have l := kj_lt (h5 k (by omega)).2.2.2.1
        rw [ei, kpU_y, kpU_n ek]; intro z; omega
    · have l := kj_lt (h5 i (by omega)).2.2.2.1
      by_cases ek : k = s
      · rw [ek, kpU_y, kpU_n ei]; intro z; omega
      · rw [kpU_n ek, kpU_n ei]; exact h6 i k (by omega) (by omega)
theorem cq_add {f : Nat → Int32} {nm : Nat → Nat} {s j : Nat} (h : qCQ nm (kj f j) s) : qCQ (kpU nm s (j + 2)) (kj f (j + 1)) (s + 1) := by
  intro d h2 h60 hd
  by_cases e : d = j + 2
  · exact ⟨s, by omega, by rw [kpU_y, e]⟩
  · rw [kj_o e] at hd
    obtain ⟨i, hi, z⟩ := h d h2 h60 hd
    exact ⟨i, by omega, by rw [kpU_n (by omega)]; exact z⟩
theorem cq_00 {f : Nat → Int32} {nm : Nat → Nat} : qCQ nm (kj f 0) 0 := fun d h2 _ hd => absurd (kj_lt hd) (by omega)
abbrev rm_X3_first0 : Room := ({ frames := 0, cells := 0, slots := 0, locals := 0 } : Room)
set_option maxRecDepth 100000 in
set_option maxHeartbeats 4000000 in
theorem c_X3_first0 {L : GL} {ad : Nat → Nat} {G : Nat → va_E} {sz : Nat} {p : Nat → Nat}  (g9 : G 9 = .inr (3, [.ref (ad 1), .ref (ad 10), .int (nI sz)])) (g10 : G 10 = .inl (L.ac 4, 8, .inr (.inr (.inr (.inr (qwq ad p)))))) (h0 : sz = 0) : GM L yX3_first cX3_first 1 ((some (.object "PellMills$Power"))) rm_X3_first0 40 ad G [.ref (ad 9)] (fun vo G' => vo = some (.null) ∧ G = G') := by
  refine GM.of (own := RX3) (lo := [(0, .ref (ad 9))]) (by decide +kernel) rfl rfl (Nat.le_of_ble_eq_true rfl) (fun E C hr => ?_)
  refine G_aload_n C 0 dX3_first_0 rfl rfl ?_
  refine G_get C 9 (by decide) g9 rfl inA3 2 (by decide) rfl kf_X3_22 rfl dX3_first_1 ?_
  refine G_if_le C 19 dX3_first_4 (by decide) (fun c4 => ?_) (fun c4 => False.elim (c4 ((cI_le (a := sz) (b := 0) rfl rfl (by omega) (by omega)).mpr (by omega))))
  have c4n : sz ≤ 0 := (cI_le (a := sz) (b := 0) rfl rfl (by omega) (by omega)).mp c4
  refine G_null C dX3_first_19 ?_
  exact G_aret C hr (Or.inl ⟨_, rfl⟩) (Or.inl rfl) dX3_first_20 ⟨rfl, rfl⟩

abbrev rm_X3_first1 : Room := ({ frames := 2, cells := 0, slots := 0, locals := 43 } : Room)
set_option maxRecDepth 100000 in
set_option maxHeartbeats 4000000 in
theorem c_X3_first1 {L : GL} {ad : Nat → Nat} {G : Nat → va_E} {sz : Nat} {p nm kap : Nat → Nat}  (g9 : G 9 = .inr (3, [.ref (ad 1), .ref (ad 10), .int (nI sz)])) (g10 : G 10 = .inl (L.ac 4, 8, .inr (.inr (.inr (.inr (qwq ad p)))))) (hq : qQS G p nm kap sz) (hc : qCQ nm kap sz) (h1 : 1 ≤ sz) : GM L yX3_first cX3_first 1 ((some (.object "PellMills$Power"))) rm_X3_first1 40 ad G [.ref (ad 9)] (fun vo G' => ∃ (b : Nat), vo = some (.ref (ad (p b))) ∧ (b < sz) ∧ (isL kap 59 (nm b)) ∧ G = G') := by
  refine GM.of (own := RX3) (lo := [(0, .ref (ad 9))]) (by decide +kernel) rfl rfl (Nat.le_of_ble_eq_true rfl) (fun E C hr => ?_)
  have h8 := hq.2.2.1
  refine G_aload_n C 0 dX3_first_0 rfl rfl ?_
  refine G_get C 9 (by decide) g9 rfl inA3 2 (by decide) rfl kf_X3_22 rfl dX3_first_1 ?_
  refine G_if_le C 19 dX3_first_4 (by decide) (fun c4 => False.elim (by have := (cI_le (a := sz) (b := 0) rfl rfl (by omega) (by omega)).mp c4; omega)) (fun c4 => ?_)
  have c4n : ¬ sz ≤ 0 := fun z => c4 ((cI_le (a := sz) (b := 0) rfl rfl (by omega) (by omega)).mpr z)
  refine G_aload_n C 0 dX3_first_7 rfl rfl ?_
  refine G_get C 9 (by decide) g9 rfl inA3 1 (by decide) rfl kf_X3_11 rfl dX3_first_8 ?_
  refine G_aload_n C 0 dX3_first_11 rfl rfl ?_
  refine G_callV C (As := []) (rest := [.ref (ad 10)]) (c_X3_firstIndex g9 g10 hq h1) ca_X3_firstIndex km_X3_46 (by decide) g9 rfl rfl rfl rfl (by decide) (Nat.le_of_ble_eq_true rfl) (by decide) dX3_first_12 (fun vv1 gg2 qq3 => ?_)
  obtain ⟨b_4, rfl, pp5, pp6, rfl⟩ := qq3
  have hpb := hq.1 b_4 (by omega)
  refine G_aldq C 10 (by decide) 4 rfl g10 (vp_in_nI (by omega) (by omega)) (qwq_at (by omega)) dX3_first_15 ?_
  refine G_goto C 20 dX3_first_16 (by decide) ?_
  exact G_aret C hr (Or.inl ⟨_, rfl⟩) (Or.inr ⟨_, rfl⟩) dX3_first_20 ⟨_, rfl, pp5, cq_L hq hc pp5 pp6, rfl⟩

abbrev rm_X3_fill : Room := ({ frames := 2, cells := 0, slots := 0, locals := 45 } : Room)
set_option maxRecDepth 100000 in
set_option maxHeartbeats 4000000 in
theorem c_X3_fill {L : GL} {ad : Nat → Nat} {G : Nat → va_E} {sz : Nat} {l ml : Int32} {f : Nat → Int32} {p nm kap : Nat → Nat}  (g9 : G 9 = .inr (3, [.ref (ad 1), .ref (ad 10), .int (nI sz)])) (g10 : G 10 = .inl (L.ac 4, 8, .inr (.inr (.inr (.inr (qwq ad p)))))) (g22 : G 22 = .inr (5, [.ref (ad 1), .ref (ad 23), .int l, .int ml])) (g23 : G 23 = .inl (L.ac 0, 61, .inl f)) (g1 : G 1 = .inr (4, [.ref (ad 2), .ref (ad 3), .ref (ad 4), .ref (ad 5), .ref (ad 6)])) (g4 : G 4 = .inl (L.ac 0, 61, .inl tUx)) (g5 : G 5 = .inl (L.ac 0, 61, .inl tUy)) (hk : okH f) (hL : okL f l) (hq : qQS G p nm kap sz) : GM L yX3_fill cX3_fill 3 (none) rm_X3_fill 40 ad G [.ref (ad 9), .ref (ad 22)] (fun vo G' => ∃ (nm2 : Nat → Nat) (s2 : Nat), vo = none ∧ (qQS G' p nm2 (kp f 0) s2) ∧ (qCQ nm2 (kp f 0) s2) ∧ G' 9 = .inr (3, [.ref (ad 1), .ref (ad 10), .int (nI s2)]) ∧ G' 10 = .inl (L.ac 4, 8, .inr (.inr (.inr (.inr (qwq ad p))))) ∧ Agr [9, 10, 11, 12, 13, 14, 15, 16, 17, 18] G G') := by
  refine GM.of (own := RX3) (lo := [(0, .ref (ad 9)), (1, .ref (ad 22))]) (by decide +kernel) rfl rfl (Nat.le_of_ble_eq_true rfl) (fun E C hr => ?_)
  refine G_aload_n C 0 dX3_fill_0 rfl rfl ?_
  refine G_iconst C (v := 0) dX3_fill_1 (by decide) ?_
  refine G_putp C 9 (by decide) g9 rfl inA3 tyX3_ok nmX3 2 (by decide) rfl kf_X3_22 rfl rfl rfl (fs' := [.ref (ad 1), .ref (ad 10), .int 0]) (Nat.le_of_ble_eq_true rfl) rfl dX3_fill_2 (fun gg1 hh2 aa3 => ?_)
  have AA4 : Agr [9] G gg1 := aa3.wk (by simp)
  refine G_iconst C (v := 2) dX3_fill_5 (by decide) ?_
  refine G_istore_n C 2 (lo' := [(2, .int 2), (0, .ref (ad 9)), (1, .ref (ad 22))]) dX3_fill_6 rfl (by decide) rfl ?_
  have key7 : ∀ (n : Nat) (j : Nat) (nm1 : Nat → Nat) (s1 : Nat) (G1 : Nat → va_E) (hf7_9 : G1 9 = .inr (3, [.ref (ad 1), .ref (ad 10), .int (nI s1)])) (hf7_10 : G1 10 = .inl (L.ac 4, 8, .inr (.inr (.inr (.inr (qwq ad p)))))) (ha7 : Agr [9, 10, 11, 12, 13, 14, 15, 16, 17, 18] G G1) (hn : 59 - j < n) (hj : j ≤ 59) (hsz : s1 = mnN f j) (hqi : qQS G1 p nm1 (kj f j) s1) (hci : qCQ nm1 (kj f j) s1), GW L E 40 ad G1 0 0 7 [(2, .int (nI (j + 2))), (0, .ref (ad 9)), (1, .ref (ad 22))] [] := by
    intro n
    induction n with
    | zero =>
      intro j nm1 s1 G1 hf7_9 hf7_10 ha7 hn hj hsz hqi hci
      exact absurd hn (Nat.not_lt_zero _)
    | succ n ih =>
      intro j nm1 s1 G1 hf7_9 hf7_10 ha7 hn hj hsz hqi hci
      have h8 := hqi.2.2.1
      refine G_iload_n C 2 dX3_fill_7 rfl rfl ?_
      refine G_bipush C (v := 60) dX3_fill_8 (by decide) ?_
      refine G_icmp_gt C 81 dX3_fill_10 (by decide) (fun c10 => ?_) (fun c10 => ?_)
      · have c10n : 60 < (j + 2) := (cI_lt (a := 60) (b := (j + 2)) rfl rfl (by omega) (by omega)).mp c10
        exact G_vret C hr dX3_fill_81 ⟨_, _, rfl, (kj_59 ((show j = 59 by omega) ▸ hqi) ((show j = 59 by omega) ▸ hci)).1, (kj_59 ((show j = 59 by omega) ▸ hqi) ((show j = 59 by omega) ▸ hci)).2, hf7_9, hf7_10, ha7⟩
      · have c10n : ¬ 60 < (j + 2) := fun z => c10 ((cI_lt (a := 60) (b := (j + 2)) rfl rfl (by omega) (by omega)).mpr z)
        refine G_aload_n C 1 dX3_fill_13 rfl rfl ?_
        refine G_iload_n C 2 dX3_fill_14 rfl rfl ?_
        refine G_callV C (As := [.int (nI (j + 2))]) (rest := []) (c_X5_has (by decide) (by decide) ((ha7 22 (by decide)).trans g22) ((ha7 23 (by decide)).trans g23)) ca_X5_has km_X3_26 (by decide) ((ha7 22 (by decide)).trans g22) rfl rfl rfl rfl (by decide) (Nat.le_of_ble_eq_true rfl) (by decide) dX3_fill_15 (fun vv5 gg6 qq7 => ?_)
        obtain ⟨rfl, rfl⟩ := qq7
        refine G_if_eq C 75 dX3_fill_18 (by decide) (fun c18 => ?_) (fun c18 => ?_)
        · refine G_iinc C (v := nI ((j + 2) + 1)) (lo' := [(2, .int (nI ((j + 2) + 1))), (0, .ref (ad 9)), (1, .ref (ad 22))]) dX3_fill_75 rfl (nI_add _ _) (by decide) rfl ?_
          refine G_goto C 7 dX3_fill_78 (by decide) ?_
          exact ih (j + 1) nm1 s1 G1 hf7_9 hf7_10 ha7 (by omega) (by omega) (by rw [mnN, if_pos ((has_lt hk (by omega) (by omega)).mp c18)]; exact hsz) (by rw [kj_n ((has_lt hk (by omega) (by omega)).mp c18)]; exact hqi) (by rw [kj_n ((has_lt hk (by omega) (by omega)).mp c18)]; exact hci)
        · refine G_aload_n C 0 dX3_fill_21 rfl rfl ?_
          refine G_get C 9 (by decide) hf7_9 rfl inA3 2 (by decide) rfl kf_X3_22 rfl dX3_fill_22 ?_
          refine G_aload_n C 0 dX3_fill_25 rfl rfl ?_
          refine G_get C 9 (by decide) hf7_9 rfl inA3 1 (by decide) rfl kf_X3_11 rfl dX3_fill_26 ?_
          refine G_alen C 10 (by decide) 4 hf7_10 rfl (v := 8) rfl dX3_fill_29 ?_
          refine G_icmp_ge C 75 dX3_fill_30 (by decide) (fun c30 => False.elim (by have h9 := mn_8 hL (j := j) (by omega) (fun z => c18 ((has_lt hk (by omega) (by omega)).mpr z)); have := (cI_le (a := 8) (b := s1) rfl rfl (by omega) (by omega)).mp c30; omega)) (fun c30 => ?_)
          have c30n : ¬ 8 ≤ s1 := fun z => c30 ((cI_le (a := 8) (b := s1) rfl rfl (by omega) (by omega)).mpr z)
          have hf : ¬ f (j + 2) < 0 := fun z => c18 ((has_lt hk (by omega) (by omega)).mpr z)
          have hpj := okK_0 hk (j + 2) (by omega) (by omega) (by rw [k0, if_neg hf]; exact Nat.one_ne_zero)
          have hps := hqi.1 s1 (by omega)
          obtain ⟨z1, z2, z3, z4, z5, hzs⟩ := hqi.2.2.2.1 s1 (by omega)
          refine G_aload_n C 0 dX3_fill_33 rfl rfl ?_
          refine G_get C 9 (by decide) hf7_9 rfl inA3 0 (by decide) rfl kf_X3_17 rfl dX3_fill_34 ?_
          refine G_aload_n C 0 dX3_fill_37 rfl rfl ?_
          refine G_get C 9 (by decide) hf7_9 rfl inA3 1 (by decide) rfl kf_X3_11 rfl dX3_fill_38 ?_
          refine G_aload_n C 0 dX3_fill_41 rfl rfl ?_
          refine G_get C 9 (by decide) hf7_9 rfl inA3 2 (by decide) rfl kf_X3_22 rfl dX3_fill_42 ?_
          refine G_aldq C 10 (by decide) 4 rfl hf7_10 (vp_in_nI (by omega) (by omega)) (qwq_at (by omega)) dX3_fill_45 ?_
          refine G_iload_n C 2 dX3_fill_46 rfl rfl ?_
          refine G_callV C (As := [.ref (ad (p s1)), .int (nI (j + 2))]) (rest := []) (c_X4_begin (by decide) (by decide) (by decide) (show p s1 < 40 by omega) ((ha7 1 (by decide)).trans g1) ((ha7 4 (by decide)).trans g4) ((ha7 5 (by decide)).trans g5) hzs) ca_X4_begin km_X3_32 (by decide) ((ha7 1 (by decide)).trans g1) rfl rfl rfl rfl (by decide) (Nat.le_of_ble_eq_true rfl) (by decide) dX3_fill_47 (fun vv8 gg9 qq10 => ?_)
          obtain ⟨rfl, hh11, aa12⟩ := qq10
          have AA13 : Agr [9, 10, 11, 12, 13, 14, 15, 16, 17, 18, (p s1)] G gg9 := ha7.tr aa12 (by simp) (by simp)
          have BB14 : Agr [(p s1)] G1 gg9 := aa12.wk (by simp)
          refine G_aload_n C 0 dX3_fill_50 rfl rfl ?_
          refine G_get C 9 (by decide) ((aa12 9 (by simp [(show 9 ≠ p s1 by omega)])).trans hf7_9) rfl inA3 1 (by decide) rfl kf_X3_11 rfl dX3_fill_51 ?_
          refine G_aload_n C 0 dX3_fill_54 rfl rfl ?_
          refine G_get C 9 (by decide) ((aa12 9 (by simp [(show 9 ≠ p s1 by omega)])).trans hf7_9) rfl inA3 2 (by decide) rfl kf_X3_22 rfl dX3_fill_55 ?_
          refine G_aldq C 10 (by decide) 4 rfl ((aa12 10 (by simp [(show 10 ≠ p s1 by omega)])).trans hf7_10) (vp_in_nI (by omega) (by omega)) (qwq_at (by omega)) dX3_fill_58 ?_
          refine G_callV C (As := []) (rest := []) (c_X1_climb (show p s1 < 40 by omega) (hh11.trans (by rw [tab_d _ (by omega), tab_d _ (by omega)]))) ca_X1_climb km_X3_38 (show p s1 < 40 by omega) (hh11.trans (by rw [tab_d _ (by omega), tab_d _ (by omega)])) rfl rfl rfl rfl (by decide) (Nat.le_of_ble_eq_true rfl) (by decide) dX3_fill_59 (fun vv15 gg16 qq17 => ?_)
          obtain ⟨rfl, hh18, aa19⟩ := qq17
          have AA20 : Agr [9, 10, 11, 12, 13, 14, 15, 16, 17, 18, (p s1)] G gg16 := AA13.tr aa19 (by simp) (by simp)
          have BB21 : Agr [(p s1)] G1 gg16 := BB14.tr aa19 (by simp) (by simp)
          refine GW.topr (y := 1) ((climb_ok (j + 2) (by omega) hpj.1 0 (by omega) (by omega)).trans (if_pos (gp_1 _ (by omega) hpj.1))) ?_
          refine G_if_eq C 75 dX3_fill_62 (by decide) (fun h => absurd h (by decide)) (fun _ => ?_)
          refine G_aload_n C 0 dX3_fill_65 rfl rfl ?_
          refine G_dup C dX3_fill_66 rfl ?_
          refine G_get C 9 (by decide) ((aa19 9 (by simp [(show 9 ≠ p s1 by omega)])).trans ((aa12 9 (by simp [(show 9 ≠ p s1 by omega)])).trans hf7_9)) rfl inA3 2 (by decide) rfl kf_X3_22 rfl dX3_fill_67 ?_
          refine G_iconst C (v := 1) dX3_fill_70 (by decide) ?_
          refine G_iadd C dX3_fill_71 ?_
          refine GW.topr (cI_add (a := s1) (b := 1) rfl rfl) ?_
          refine G_putp C 9 (by decide) ((aa19 9 (by simp [(show 9 ≠ p s1 by omega)])).trans ((aa12 9 (by simp [(show 9 ≠ p s1 by omega)])).trans hf7_9)) rfl inA3 tyX3_ok nmX3 2 (by decide) rfl kf_X3_22 rfl rfl rfl (fs' := [.ref (ad 1), .ref (ad 10), .int (nI (s1 + 1))]) (Nat.le_of_ble_eq_true rfl) rfl dX3_fill_72 (fun gg22 hh23 aa24 => ?_)
          have AA25 : Agr [9, 10, 11, 12, 13, 14, 15, 16, 17, 18, (p s1)] G gg22 := AA20.tr aa24 (by simp) (by simp)
          have BB26 : Agr [(p s1), 9] G1 gg22 := BB21.tr aa24 (by simp) (by simp)
          refine G_iinc C (v := nI ((j + 2) + 1)) (lo' := [(2, .int (nI ((j + 2) + 1))), (0, .ref (ad 9)), (1, .ref (ad 22))]) dX3_fill_75 rfl (nI_add _ _) (by decide) rfl ?_
          refine G_goto C 7 dX3_fill_78 (by decide) ?_
          exact ih (j + 1) (kpU nm1 s1 (j + 2)) (s1 + 1) gg22 hh23 ((aa24 10 (by decide)).trans ((aa19 10 (by simp [(show 10 ≠ p s1 by omega)])).trans ((aa12 10 (by simp [(show 10 ≠ p s1 by omega)])).trans hf7_10))) (AA25.wk (by simp <;> omega)) (by omega) (by omega) (by rw [mnN, if_neg hf, hsz]) (qs_add hqi (by omega) (by omega) hf hpj.1 ((aa24 (p s1) (by simp [(show p s1 ≠ 9 by omega)])).trans hh18) BB26 (fun x hx9 => by simp only [List.mem_cons, List.not_mem_nil, or_false] at hx9; omega)) (cq_add hci)
  exact key7 60 0 nm 0 gg1 hh2 ((aa3 10 (by decide)).trans g10) (AA4.wk (by simp)) (by omega) (Nat.zero_le _) (rfl) (qs_keep (qs_0 hq nm (kj f 0)) AA4 (by decide)) (cq_00)

