abbrev rm_X8_nearRoot : Room := ({ frames := 8, cells := 3, slots := 18, locals := 123 } : Room)
set_option maxRecDepth 100000 in
set_option maxHeartbeats 4000000 in
theorem c_X8_nearRoot {L : GL} {ad : Nat → Nat} {G : Nat → va_E} {sn : Int32} {b1 b2 b3 : Int32} {b4 b5 : Int64} {l ml : Int32} {f : Nat → Int32} {n : Int32}  (g0 : G 0 = .inr (8, [.ref (ad 1), .ref (ad 8), .ref (ad 9), .ref (ad 19), .ref (ad 22), .ref (ad 24), .ref (ad 26), .ref (ad 28), .ref (ad 38), .int sn])) (g1 : G 1 = .inr (4, [.ref (ad 2), .ref (ad 3), .ref (ad 4), .ref (ad 5), .ref (ad 6)])) (g4 : G 4 = .inl (L.ac 0, 61, .inl tUx)) (g5 : G 5 = .inl (L.ac 0, 61, .inl tUy)) (g8 : G 8 = .inr (1, [.int b1, .int b2, .int b3, .long b4, .long b5])) (g22 : G 22 = .inr (5, [.ref (ad 1), .ref (ad 23), .int l, .int ml])) (g23 : G 23 = .inl (L.ac 0, 61, .inl f)) (hk : okH f) : GX L yX8_nearRoot cX8_nearRoot 3 ((some .float)) rm_X8_nearRoot 40 ad G [.ref (ad 0), .int n] (fun vo G' => ∃ (d : Nat) (h : Nat), vo = some (.float (FP.fdiv (FP.l2f (pwr d h).1) (FP.l2f (pwr d h).2))) ∧ (n = nI d) ∧ (2 ≤ d) ∧ (d ≤ 60) ∧ (pern d ≠ 0) ∧ (h ≤ gpn d) ∧ (hOf f n = nI h) ∧ (1 ≤ h) ∧ G' 8 = .inr (1, [.int (tUx d), .int (tUy d), .int (nI d), .long ((pwr d h).1), .long ((pwr d h).2)]) ∧ Agr [8] G G') (fun e G2 => (((e = eIAE ∧ numF n = 0) ∨ (e = eNSE ∧ ¬ numF n = 0 ∧ hasF f n = 0)) ∧ G = G2) ∨ (∃ d h, n = nI d ∧ 2 ≤ d ∧ d ≤ 60 ∧ pern d ≠ 0 ∧ h = 0 ∧ hOf f n = nI h ∧ e = eNSE ∧ G2 8 = .inr (1, [.int (tUx d), .int (tUy d), .int (nI d), .long ((pwr d h).1), .long ((pwr d h).2)]) ∧ Agr [8] G G2)) := by
  refine GX.of (own := RX8) (lo := [(0, .ref (ad 0)), (1, .int n)]) (by decide +kernel) rfl rfl (Nat.le_of_ble_eq_true rfl) (fun E C hr hx => ?_)
  refine G_aload_n C 0 dX8_nearRoot_0 rfl rfl ?_
  refine G_iload_n C 1 dX8_nearRoot_1 rfl rfl ?_
  refine G_callVX C (As := [.int n]) (rest := []) (c_X8_requireLaid g0 g22 g23) ca_X8_requireLaid km_X8_131 (by decide) g0 rfl rfl rfl rfl (by decide) (Nat.le_of_ble_eq_true rfl) (by decide) dX8_nearRoot_2 hx (by decide) (fun e G2 h => Or.inl h) (fun vv1 gg2 qq3 => ?_)
  obtain ⟨rfl, pp4, pp5, rfl⟩ := qq3
  obtain ⟨d, h, hdn, hd2, hd60, hdp, hg, hh⟩ := hk.laid pp4 pp5
  refine G_aload_n C 0 dX8_nearRoot_5 rfl rfl ?_
  refine G_iload_n C 1 dX8_nearRoot_6 rfl rfl ?_
  refine GW.topr (y := nI d) hdn ?_
  refine G_callV C (As := [.int (nI d)]) (rest := []) (c_X8_powerOfLaid g0 g1 g4 g5 g8 g22 g23 hd60 hdp hg hh) ca_X8_powerOfLaid km_X8_78 (by decide) g0 rfl rfl rfl rfl (by decide) (Nat.le_of_ble_eq_true rfl) (by decide) dX8_nearRoot_7 (fun vv6 gg7 qq8 => ?_)
  obtain ⟨rfl, hh9, aa10⟩ := qq8
  have AA11 : Agr [8] G gg7 := aa10.wk (by simp)
  refine G_astore_n C 2 (lo' := [(2, .ref (ad 8)), (0, .ref (ad 0)), (1, .int n)]) dX8_nearRoot_10 rfl (by decide) rfl ?_
  refine G_aload_n C 2 dX8_nearRoot_11 rfl rfl ?_
  refine G_get C 8 (by decide) hh9 rfl inA1 4 (by decide) rfl kf_X8_134 rfl dX8_nearRoot_12 ?_
  refine G_lconst C (v := 0) dX8_nearRoot_15 (by decide) ?_
  refine G_lc_ne C 30 dX8_nearRoot_16 dX8_nearRoot_17 (by decide) (fun c16 => ?_) (fun c16 => ?_)
  · refine G_aload_n C 2 dX8_nearRoot_30 rfl rfl ?_
    refine G_get C 8 (by decide) hh9 rfl inA1 3 (by decide) rfl kf_X8_82 rfl dX8_nearRoot_31 ?_
    refine G_l2f C dX8_nearRoot_34 ?_
    refine G_aload_n C 2 dX8_nearRoot_35 rfl rfl ?_
    refine G_get C 8 (by decide) hh9 rfl inA1 4 (by decide) rfl kf_X8_134 rfl dX8_nearRoot_36 ?_
    refine G_l2f C dX8_nearRoot_39 ?_
    refine G_fdiv C dX8_nearRoot_40 (nr_ok (by omega) hdp hg (Nat.pos_of_ne_zero fun z => c16 (by rw [z]; rfl))).2 ?_
    refine GW.widen (c1 := 3) (s1 := 18) (by decide) (by decide) ?_
    exact G_fret C hr dX8_nearRoot_41 ⟨_, _, rfl, hdn, hd2, hd60, hdp, hg, hdn ▸ hh, (Nat.pos_of_ne_zero fun z => c16 (by rw [z]; rfl)), hh9, AA11⟩
  · exact G_throwX C hx th_NSE (text := "the stone stands at the power 0") (by decide) dX8_nearRoot_20 dX8_nearRoot_23 dX8_nearRoot_24 dX8_nearRoot_26 dX8_nearRoot_29 (by decide) (by decide) (by decide) (by decide) (Or.inr ⟨d, h, hdn, hd2, hd60, hdp, Classical.byContradiction fun z => (nr_ok (by omega) hdp hg (by omega)).1 c16, hdn ▸ hh, rfl, hh9, AA11⟩)

