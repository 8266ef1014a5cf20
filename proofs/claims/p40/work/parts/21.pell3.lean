abbrev rm_X8_signByRemainders : Room := ({ frames := 8, cells := 2, slots := 12, locals := 123 } : Room)
set_option maxRecDepth 100000 in
set_option maxHeartbeats 4000000 in
theorem c_X8_signByRemainders {L : GL} {ad : Nat → Nat} {G : Nat → va_E} {sn : Int32} {b1 b2 b3 : Int32} {b4 b5 : Int64} {l ml : Int32} {f : Nat → Int32} {n : Int32}  (g0 : G 0 = .inr (8, [.ref (ad 1), .ref (ad 8), .ref (ad 9), .ref (ad 19), .ref (ad 22), .ref (ad 24), .ref (ad 26), .ref (ad 28), .ref (ad 38), .int sn])) (g1 : G 1 = .inr (4, [.ref (ad 2), .ref (ad 3), .ref (ad 4), .ref (ad 5), .ref (ad 6)])) (g4 : G 4 = .inl (L.ac 0, 61, .inl tUx)) (g5 : G 5 = .inl (L.ac 0, 61, .inl tUy)) (g8 : G 8 = .inr (1, [.int b1, .int b2, .int b3, .long b4, .long b5])) (g22 : G 22 = .inr (5, [.ref (ad 1), .ref (ad 23), .int l, .int ml])) (g23 : G 23 = .inl (L.ac 0, 61, .inl f)) (hk : okH f) : GX L yX8_signByRemainders cX8_signByRemainders 9 ((some .int)) rm_X8_signByRemainders 40 ad G [.ref (ad 0), .int n] (fun vo G' => ∃ (d : Nat) (h : Nat), vo = some (.int (srF (nI d) (pwr d h).1 (pwr d h).2)) ∧ (n = nI d) ∧ (2 ≤ d) ∧ (d ≤ 60) ∧ (pern d ≠ 0) ∧ (h ≤ gpn d) ∧ (hOf f n = nI h) ∧ G' 8 = .inr (1, [.int (tUx d), .int (tUy d), .int (nI d), .long ((pwr d h).1), .long ((pwr d h).2)]) ∧ Agr [8] G G') (fun e G2 => ((e = eIAE ∧ numF n = 0) ∨ (e = eNSE ∧ ¬ numF n = 0 ∧ hasF f n = 0)) ∧ G = G2) := by
  refine GX.of (own := RX8) (lo := [(0, .ref (ad 0)), (1, .int n)]) (by decide +kernel) rfl rfl (Nat.le_of_ble_eq_true rfl) (fun E C hr hx => ?_)
  refine G_aload_n C 0 dX8_signByRemainders_0 rfl rfl ?_
  refine G_iload_n C 1 dX8_signByRemainders_1 rfl rfl ?_
  refine G_callVX C (As := [.int n]) (rest := []) (c_X8_requireLaid g0 g22 g23) ca_X8_requireLaid km_X8_131 (by decide) g0 rfl rfl rfl rfl (by decide) (Nat.le_of_ble_eq_true rfl) (by decide) dX8_signByRemainders_2 hx (by decide) (fun e G2 h => h) (fun vv1 gg2 qq3 => ?_)
  obtain ⟨rfl, pp4, pp5, rfl⟩ := qq3
  obtain ⟨d, h, hdn, hd2, hd60, hdp, hg, hh⟩ := hk.laid pp4 pp5
  refine G_aload_n C 0 dX8_signByRemainders_5 rfl rfl ?_
  refine G_iload_n C 1 dX8_signByRemainders_6 rfl rfl ?_
  refine GW.topr (y := nI d) hdn ?_
  refine G_callV C (As := [.int (nI d)]) (rest := []) (c_X8_powerOfLaid g0 g1 g4 g5 g8 g22 g23 hd60 hdp hg hh) ca_X8_powerOfLaid km_X8_78 (by decide) g0 rfl rfl rfl rfl (by decide) (Nat.le_of_ble_eq_true rfl) (by decide) dX8_signByRemainders_7 (fun vv6 gg7 qq8 => ?_)
  obtain ⟨rfl, hh9, aa10⟩ := qq8
  have AA11 : Agr [8] G gg7 := aa10.wk (by simp)
  refine GW.loe (lo' := [(0, .ref (ad 0)), (1, .int (nI d))]) (by rw [hdn]) ?_
  refine G_astore_n C 2 (lo' := [(2, .ref (ad 8)), (0, .ref (ad 0)), (1, .int (nI d))]) dX8_signByRemainders_10 rfl (by decide) rfl ?_
  refine G_aload_n C 2 dX8_signByRemainders_11 rfl rfl ?_
  refine G_get C 8 (by decide) hh9 rfl inA1 3 (by decide) rfl kf_X8_82 rfl dX8_signByRemainders_12 ?_
  refine G_ldc2 C dX8_signByRemainders_15 kl_X8_140 ?_
  refine G_lrem C dX8_signByRemainders_18 (by decide) ?_
  refine G_lstore_n C 3 (lo' := [(3, .long (((pwr d h).1) - ((pwr d h).1) / 1000003 * 1000003)), (2, .ref (ad 8)), (0, .ref (ad 0)), (1, .int (nI d))]) dX8_signByRemainders_19 rfl (by decide) rfl ?_
  refine G_aload_n C 2 dX8_signByRemainders_20 rfl rfl ?_
  refine G_get C 8 (by decide) hh9 rfl inA1 4 (by decide) rfl kf_X8_134 rfl dX8_signByRemainders_21 ?_
  refine G_ldc2 C dX8_signByRemainders_24 kl_X8_140 ?_
  refine G_lrem C dX8_signByRemainders_27 (by decide) ?_
  refine G_lstore C (lo' := [(5, .long (((pwr d h).2) - ((pwr d h).2) / 1000003 * 1000003)), (3, .long (((pwr d h).1) - ((pwr d h).1) / 1000003 * 1000003)), (2, .ref (ad 8)), (0, .ref (ad 0)), (1, .int (nI d))]) dX8_signByRemainders_28 (by decide) rfl ?_
  refine G_lload_n C 3 dX8_signByRemainders_30 rfl rfl ?_
  refine G_lload_n C 3 dX8_signByRemainders_31 rfl rfl ?_
  refine G_lmul C dX8_signByRemainders_32 ?_
  refine G_iload_n C 1 dX8_signByRemainders_33 rfl rfl ?_
  refine G_i2l C dX8_signByRemainders_34 rfl ?_
  refine G_lload C dX8_signByRemainders_35 rfl ?_
  refine G_lmul C dX8_signByRemainders_37 ?_
  refine G_lload C dX8_signByRemainders_38 rfl ?_
  refine G_lmul C dX8_signByRemainders_40 ?_
  refine G_lsub C dX8_signByRemainders_41 ?_
  refine G_ldc2 C dX8_signByRemainders_42 kl_X8_140 ?_
  refine G_callS C (As := [.long (((((pwr d h).1) - ((pwr d h).1) / 1000003 * 1000003) * (((pwr d h).1) - ((pwr d h).1) / 1000003 * 1000003)) - ((((nI d).toInt64) * (((pwr d h).2) - ((pwr d h).2) / 1000003 * 1000003)) * (((pwr d h).2) - ((pwr d h).2) / 1000003 * 1000003))), .long 1000003]) (rest := []) (c_J9_floorMod_f86c9 (by decide)) ca_J9_floorMod_f86c9 km_X8_142 rfl rfl (by decide) (Nat.le_of_ble_eq_true rfl) (by decide) dX8_signByRemainders_45 (fun vv12 gg13 qq14 => ?_)
  obtain ⟨rfl, rfl⟩ := qq14
  refine G_lstore C (lo' := [(7, .long (fmF (((((pwr d h).1) - ((pwr d h).1) / 1000003 * 1000003) * (((pwr d h).1) - ((pwr d h).1) / 1000003 * 1000003)) - ((((nI d).toInt64) * (((pwr d h).2) - ((pwr d h).2) / 1000003 * 1000003)) * (((pwr d h).2) - ((pwr d h).2) / 1000003 * 1000003))) 1000003)), (5, .long (((pwr d h).2) - ((pwr d h).2) / 1000003 * 1000003)), (3, .long (((pwr d h).1) - ((pwr d h).1) / 1000003 * 1000003)), (2, .ref (ad 8)), (0, .ref (ad 0)), (1, .int (nI d))]) dX8_signByRemainders_48 (by decide) rfl ?_
  refine G_lload C dX8_signByRemainders_50 rfl ?_
  refine G_lconst C (v := 1) dX8_signByRemainders_52 (by decide) ?_
  refine G_lc_ne C 61 dX8_signByRemainders_53 dX8_signByRemainders_54 (by decide) (fun c53 => ?_) (fun c53 => ?_)
  · refine G_iconst C (v := (-1)) dX8_signByRemainders_61 (by decide) ?_
    refine GW.widen (c1 := 2) (s1 := 12) (by decide) (by decide) ?_
    exact G_zret C hr rfl dX8_signByRemainders_62 ⟨_, _, (by simp only [srF, if_neg c53]), hdn, hd2, hd60, hdp, hg, hdn ▸ hh, hh9, AA11⟩
  · refine G_iconst C (v := 1) dX8_signByRemainders_57 (by decide) ?_
    refine G_goto C 62 dX8_signByRemainders_58 (by decide) ?_
    refine GW.widen (c1 := 2) (s1 := 12) (by decide) (by decide) ?_
    exact G_zret C hr rfl dX8_signByRemainders_62 ⟨_, _, (by simp only [srF, if_pos c53]), hdn, hd2, hd60, hdp, hg, hdn ▸ hh, hh9, AA11⟩

abbrev rm_X8_keep : Room := ({ frames := 2, cells := 0, slots := 0, locals := 81 } : Room)
set_option maxRecDepth 100000 in
set_option maxHeartbeats 4000000 in
theorem c_X8_keep {L : GL} {ad : Nat → Nat} {G : Nat → va_E} {sn : Int32} {l ml : Int32} {f : Nat → Int32} {l3 ml3 : Int32} {f3 : Nat → Int32}  (g0 : G 0 = .inr (8, [.ref (ad 1), .ref (ad 8), .ref (ad 9), .ref (ad 19), .ref (ad 22), .ref (ad 24), .ref (ad 26), .ref (ad 28), .ref (ad 38), .int sn])) (g22 : G 22 = .inr (5, [.ref (ad 1), .ref (ad 23), .int l, .int ml])) (g23 : G 23 = .inl (L.ac 0, 61, .inl f)) (g26 : G 26 = .inr (5, [.ref (ad 1), .ref (ad 27), .int l3, .int ml3])) (g27 : G 27 = .inl (L.ac 0, 61, .inl f3))  : GM L yX8_keep cX8_keep 1 ((some .int)) rm_X8_keep 40 ad G [.ref (ad 0)] (fun vo G' => vo = some (.int l) ∧ G' 0 = .inr (8, [.ref (ad 1), .ref (ad 8), .ref (ad 9), .ref (ad 19), .ref (ad 22), .ref (ad 24), .ref (ad 26), .ref (ad 28), .ref (ad 38), .int 1]) ∧ G' 26 = .inr (5, [.ref (ad 1), .ref (ad 27), .int l, .int ml]) ∧ G' 27 = .inl (L.ac 0, 61, .inl f) ∧ Agr [0, 26, 27] G G') := by
  refine GM.of (own := RX8) (lo := [(0, .ref (ad 0))]) (by decide +kernel) rfl rfl (Nat.le_of_ble_eq_true rfl) (fun E C hr => ?_)
  refine G_aload_n C 0 dX8_keep_0 rfl rfl ?_
  refine G_get C 0 (by decide) g0 rfl inA8 6 (by decide) rfl kf_X8_49 rfl dX8_keep_1 ?_
  refine G_aload_n C 0 dX8_keep_4 rfl rfl ?_
  refine G_get C 0 (by decide) g0 rfl inA8 4 (by decide) rfl kf_X8_42 rfl dX8_keep_5 ?_
  refine G_callV C (As := [.ref (ad 22)]) (rest := []) (c_X5_copyFrom (by decide) (by decide) (by decide) (by decide) g26 g27 g22 g23 (by decide) (by decide)) ca_X5_copyFrom km_X8_181 (by decide) g26 rfl rfl rfl rfl (by decide) (Nat.le_of_ble_eq_true rfl) (by decide) dX8_keep_8 (fun vv1 gg2 qq3 => ?_)
  obtain ⟨rfl, hh4, hh5, aa6⟩ := qq3
  have AA7 : Agr [26, 27] G gg2 := aa6.wk (by simp)
  refine G_aload_n C 0 dX8_keep_11 rfl rfl ?_
  refine G_iconst C (v := 1) dX8_keep_12 (by decide) ?_
  refine G_putp C 0 (by decide) ((aa6 0 (by decide)).trans g0) rfl inA8 tyX8_ok nmX8 9 (by decide) rfl kf_X8_184 rfl rfl rfl (fs' := [.ref (ad 1), .ref (ad 8), .ref (ad 9), .ref (ad 19), .ref (ad 22), .ref (ad 24), .ref (ad 26), .ref (ad 28), .ref (ad 38), .int 1]) (Nat.le_of_ble_eq_true rfl) rfl dX8_keep_13 (fun gg8 hh9 aa10 => ?_)
  have AA11 : Agr [26, 27, 0] G gg8 := AA7.tr aa10 (by simp) (by simp)
  refine G_aload_n C 0 dX8_keep_16 rfl rfl ?_
  refine G_get C 0 (by decide) hh9 rfl inA8 4 (by decide) rfl kf_X8_42 rfl dX8_keep_17 ?_
  refine G_get C 22 (by decide) ((aa10 22 (by decide)).trans ((aa6 22 (by decide)).trans g22)) rfl inA5 2 (by decide) rfl kf_X8_70 rfl dX8_keep_20 ?_
  exact G_zret C hr rfl dX8_keep_23 ⟨rfl, hh9, ((aa10 26 (by decide)).trans hh4), ((aa10 27 (by decide)).trans hh5), (AA11.wk (by simp))⟩

abbrev rm_X8_goBack : Room := ({ frames := 6, cells := 1, slots := 6, locals := 141 } : Room)
set_option maxRecDepth 100000 in
set_option maxHeartbeats 4000000 in
theorem c_X8_goBack {L : GL} {ad : Nat → Nat} {G : Nat → va_E} {sn : Int32} {l ml : Int32} {f : Nat → Int32} {l3 ml3 : Int32} {f3 : Nat → Int32} {hs : List HE}  (g0 : G 0 = .inr (8, [.ref (ad 1), .ref (ad 8), .ref (ad 9), .ref (ad 19), .ref (ad 22), .ref (ad 24), .ref (ad 26), .ref (ad 28), .ref (ad 38), .int sn])) (g22 : G 22 = .inr (5, [.ref (ad 1), .ref (ad 23), .int l, .int ml])) (g23 : G 23 = .inl (L.ac 0, 61, .inl f)) (g26 : G 26 = .inr (5, [.ref (ad 1), .ref (ad 27), .int l3, .int ml3])) (g27 : G 27 = .inl (L.ac 0, 61, .inl f3)) (hH : HistP L ad G hs) : GX L yX8_goBack cX8_goBack 1 ((some .int)) rm_X8_goBack 40 ad G [.ref (ad 0)] (fun vo G' => vo = some (.int l3) ∧ (¬ sn = 0) ∧ (HistP L ad G' (hpush hs (f, l, ml))) ∧ G' 22 = .inr (5, [.ref (ad 1), .ref (ad 23), .int l3, .int ml3]) ∧ G' 23 = .inl (L.ac 0, 61, .inl f3) ∧ Agr [22, 23, 28, 29, 30, 31, 32, 33, 34, 35, 36, 37] G G') (fun e G2 => e = eISE ∧ sn = 0 ∧ G = G2) := by
  refine GX.of (own := RX8) (lo := [(0, .ref (ad 0))]) (by decide +kernel) rfl rfl (Nat.le_of_ble_eq_true rfl) (fun E C hr hx => ?_)
  refine G_aload_n C 0 dX8_goBack_0 rfl rfl ?_
  refine G_get C 0 (by decide) g0 rfl inA8 9 (by decide) rfl kf_X8_184 rfl dX8_goBack_1 ?_
  refine G_if_ne C 17 dX8_goBack_4 (by decide) (fun c4 => ?_) (fun c4 => ?_)
  · refine G_aload_n C 0 dX8_goBack_17 rfl rfl ?_
    refine G_get C 0 (by decide) g0 rfl inA8 7 (by decide) rfl kf_X8_55 rfl dX8_goBack_18 ?_
    refine G_aload_n C 0 dX8_goBack_21 rfl rfl ?_
    refine G_get C 0 (by decide) g0 rfl inA8 4 (by decide) rfl kf_X8_42 rfl dX8_goBack_22 ?_
    refine G_callV C (As := [.ref (ad 22)]) (rest := []) (c_h_record g22 g23 hH) ca_X0_record km_X8_193 (by decide) (HistP.sz hH) rfl rfl rfl rfl (by decide) (Nat.le_of_ble_eq_true rfl) (by decide) dX8_goBack_25 (fun vv1 gg2 qq3 => ?_)
    obtain ⟨rfl, pp4, aa5⟩ := qq3
    have AA6 : Agr [28, 29, 30, 31, 32, 33, 34, 35, 36, 37] G gg2 := aa5.wk (by simp)
    refine G_aload_n C 0 dX8_goBack_28 rfl rfl ?_
    refine G_get C 0 (by decide) ((aa5 0 (by decide)).trans g0) rfl inA8 4 (by decide) rfl kf_X8_42 rfl dX8_goBack_29 ?_
    refine G_aload_n C 0 dX8_goBack_32 rfl rfl ?_
    refine G_get C 0 (by decide) ((aa5 0 (by decide)).trans g0) rfl inA8 6 (by decide) rfl kf_X8_49 rfl dX8_goBack_33 ?_
    refine G_callV C (As := [.ref (ad 26)]) (rest := []) (c_X5_copyFrom (by decide) (by decide) (by decide) (by decide) ((aa5 22 (by decide)).trans g22) ((aa5 23 (by decide)).trans g23) ((aa5 26 (by decide)).trans g26) ((aa5 27 (by decide)).trans g27) (by decide) (by decide)) ca_X5_copyFrom km_X8_181 (by decide) ((aa5 22 (by decide)).trans g22) rfl rfl rfl rfl (by decide) (Nat.le_of_ble_eq_true rfl) (by decide) dX8_goBack_36 (fun vv7 gg8 qq9 => ?_)
    obtain ⟨rfl, hh10, hh11, aa12⟩ := qq9
    have AA13 : Agr [28, 29, 30, 31, 32, 33, 34, 35, 36, 37, 22, 23] G gg8 := AA6.tr aa12 (by simp) (by simp)
    have hZ := HistP.keep pp4 (S := [22, 23]) aa12 (by decide)
    refine G_aload_n C 0 dX8_goBack_39 rfl rfl ?_
    refine G_get C 0 (by decide) ((aa12 0 (by decide)).trans ((aa5 0 (by decide)).trans g0)) rfl inA8 4 (by decide) rfl kf_X8_42 rfl dX8_goBack_40 ?_
    refine G_get C 22 (by decide) hh10 rfl inA5 2 (by decide) rfl kf_X8_70 rfl dX8_goBack_43 ?_
    refine GW.widen (c1 := 1) (s1 := 6) (by decide) (by decide) ?_
    exact G_zret C hr rfl dX8_goBack_46 ⟨rfl, c4, hZ, hh10, hh11, (AA13.wk (by simp))⟩
  · exact G_throw C hx th_ISE (text := "there is no snapshot") (by decide) dX8_goBack_7 dX8_goBack_10 dX8_goBack_11 dX8_goBack_13 dX8_goBack_16 (by decide) (by decide) (by decide) (by decide) (⟨rfl, c4, rfl⟩)

abbrev rm_X8_states : Room := ({ frames := 0, cells := 0, slots := 0, locals := 0 } : Room)
set_option maxRecDepth 100000 in
set_option maxHeartbeats 4000000 in
theorem c_X8_states {L : GL} {ad : Nat → Nat} {G : Nat → va_E} {sn : Int32} {hs : List HE}  (g0 : G 0 = .inr (8, [.ref (ad 1), .ref (ad 8), .ref (ad 9), .ref (ad 19), .ref (ad 22), .ref (ad 24), .ref (ad 26), .ref (ad 28), .ref (ad 38), .int sn])) (hH : HistP L ad G hs) : GM L yX8_states cX8_states 1 ((some .int)) rm_X8_states 40 ad G [.ref (ad 0)] (fun vo G' => vo = some (.int (nI hs.length)) ∧ G = G') := by
  refine GM.of (own := RX8) (lo := [(0, .ref (ad 0))]) (by decide +kernel) rfl rfl (Nat.le_of_ble_eq_true rfl) (fun E C hr => ?_)
  refine G_aload_n C 0 dX8_states_0 rfl rfl ?_
  refine G_get C 0 (by decide) g0 rfl inA8 7 (by decide) rfl kf_X8_55 rfl dX8_states_1 ?_
  refine G_get C 28 (by decide) (HistP.sz hH) rfl inA0 1 (by decide) rfl kf_X8_196 rfl dX8_states_4 ?_
  exact G_zret C hr rfl dX8_states_7 ⟨rfl, rfl⟩

abbrev rm_X8_undo0 : Room := ({ frames := 6, cells := 1, slots := 6, locals := 141 } : Room)
set_option maxRecDepth 100000 in
set_option maxHeartbeats 4000000 in
theorem c_X8_undo0 {L : GL} {ad : Nat → Nat} {G : Nat → va_E} {sn : Int32} {l ml : Int32} {f : Nat → Int32}  (g0 : G 0 = .inr (8, [.ref (ad 1), .ref (ad 8), .ref (ad 9), .ref (ad 19), .ref (ad 22), .ref (ad 24), .ref (ad 26), .ref (ad 28), .ref (ad 38), .int sn])) (g22 : G 22 = .inr (5, [.ref (ad 1), .ref (ad 23), .int l, .int ml])) (g23 : G 23 = .inl (L.ac 0, 61, .inl f)) (hH : HistP L ad G []) : GX L yX8_undo cX8_undo 1 ((some .int)) rm_X8_undo0 40 ad G [.ref (ad 0)] (fun vo G' => vo = none ∧ (False) ∧ G = G') (fun e G2 => e = eISE ∧ G = G2) := by
  refine GX.of (own := RX8) (lo := [(0, .ref (ad 0))]) (by decide +kernel) rfl rfl (Nat.le_of_ble_eq_true rfl) (fun E C hr hx => ?_)
  refine G_aload_n C 0 dX8_undo_0 rfl rfl ?_
  refine G_get C 0 (by decide) g0 rfl inA8 7 (by decide) rfl kf_X8_55 rfl dX8_undo_1 ?_
  refine G_aload_n C 0 dX8_undo_4 rfl rfl ?_
  refine G_get C 0 (by decide) g0 rfl inA8 4 (by decide) rfl kf_X8_42 rfl dX8_undo_5 ?_
  refine G_callV C (As := [.ref (ad 22)]) (rest := []) (h_restore0 hH) ca_X0_restoreLatest km_X8_197 (by decide) (HistP.sz hH) rfl rfl rfl rfl (by decide) (Nat.le_of_ble_eq_true rfl) (by decide) dX8_undo_8 (fun vv1 gg2 qq3 => ?_)
  obtain ⟨rfl, rfl⟩ := qq3
  refine G_if_ne C 24 dX8_undo_11 (by decide) (fun h => absurd h (by decide)) (fun _ => ?_)
  exact G_throw C hx th_ISE (text := "the history is empty") (by decide) dX8_undo_14 dX8_undo_17 dX8_undo_18 dX8_undo_20 dX8_undo_23 (by decide) (by decide) (by decide) (by decide) (⟨rfl, rfl⟩)

abbrev rm_X8_undo : Room := ({ frames := 3, cells := 1, slots := 6, locals := 141 } : Room)
set_option maxRecDepth 100000 in
set_option maxHeartbeats 4000000 in
theorem c_X8_undo {L : GL} {ad : Nat → Nat} {G : Nat → va_E} {e : HE} {sn : Int32} {l ml : Int32} {f : Nat → Int32} {hs : List HE}  (g0 : G 0 = .inr (8, [.ref (ad 1), .ref (ad 8), .ref (ad 9), .ref (ad 19), .ref (ad 22), .ref (ad 24), .ref (ad 26), .ref (ad 28), .ref (ad 38), .int sn])) (g22 : G 22 = .inr (5, [.ref (ad 1), .ref (ad 23), .int l, .int ml])) (g23 : G 23 = .inl (L.ac 0, 61, .inl f)) (hH : HistP L ad G (hs ++ [e])) : GX L yX8_undo cX8_undo 1 ((some .int)) rm_X8_undo 40 ad G [.ref (ad 0)] (fun vo G' => vo = some (.int (nI hs.length)) ∧ (HistP L ad G' hs) ∧ G' 22 = .inr (5, [.ref (ad 1), .ref (ad 23), .int e.2.1, .int e.2.2]) ∧ G' 23 = .inl (L.ac 0, 61, .inl e.1) ∧ Agr [28, 22, 23] G G') (fun _ _ => False) := by
  refine GX.of (own := RX8) (lo := [(0, .ref (ad 0))]) (by decide +kernel) rfl rfl (Nat.le_of_ble_eq_true rfl) (fun E C hr hx => ?_)
  refine G_aload_n C 0 dX8_undo_0 rfl rfl ?_
  refine G_get C 0 (by decide) g0 rfl inA8 7 (by decide) rfl kf_X8_55 rfl dX8_undo_1 ?_
  refine G_aload_n C 0 dX8_undo_4 rfl rfl ?_
  refine G_get C 0 (by decide) g0 rfl inA8 4 (by decide) rfl kf_X8_42 rfl dX8_undo_5 ?_
  refine G_callV C (As := [.ref (ad 22)]) (rest := []) (c_h_restore g22 g23 hH) ca_X0_restoreLatest km_X8_197 (by decide) (HistP.sz hH) rfl rfl rfl rfl (by decide) (Nat.le_of_ble_eq_true rfl) (by decide) dX8_undo_8 (fun vv1 gg2 qq3 => ?_)
  obtain ⟨rfl, pp4, hh5, hh6, aa7⟩ := qq3
  have AA8 : Agr [28, 22, 23] G gg2 := aa7.wk (by simp)
  refine G_if_ne C 24 dX8_undo_11 (by decide) (fun _ => ?_) (fun h => absurd h (by decide))
  refine G_aload_n C 0 dX8_undo_24 rfl rfl ?_
  refine G_get C 0 (by decide) ((aa7 0 (by decide)).trans g0) rfl inA8 7 (by decide) rfl kf_X8_55 rfl dX8_undo_25 ?_
  refine G_get C 28 (by decide) (HistP.sz pp4) rfl inA0 1 (by decide) rfl kf_X8_196 rfl dX8_undo_28 ?_
  refine GW.widen (c1 := 1) (s1 := 6) (by decide) (by decide) ?_
  exact G_zret C hr rfl dX8_undo_31 ⟨rfl, pp4, hh5, hh6, AA8⟩

abbrev rm_X8_type : Room := ({ frames := 6, cells := 1, slots := 6, locals := 82 } : Room)
set_option maxRecDepth 100000 in
set_option maxHeartbeats 4000000 in
theorem c_X8_type {L : GL} {ad : Nat → Nat} {G : Nat → va_E} {c : Int32} {m : Nat} {sn od ps rs cu : Int32} {tx : Nat → Int32}  (g0 : G 0 = .inr (8, [.ref (ad 1), .ref (ad 8), .ref (ad 9), .ref (ad 19), .ref (ad 22), .ref (ad 24), .ref (ad 26), .ref (ad 28), .ref (ad 38), .int sn])) (g38 : G 38 = .inr (7, [.ref (ad 39), .int (nI m), .int od, .int ps, .int rs, .int cu])) (g39 : G 39 = .inl (L.ac 2, 60, .inl tx)) (hm : m < 60) : GX L yX8_type cX8_type 2 ((some .int)) rm_X8_type 40 ad G [.ref (ad 0), .int c] (fun vo G' => vo = some (.int (nI (m + 1))) ∧ (¬ c < 32) ∧ (c ≤ 126) ∧ G' 38 = .inr (7, [.ref (ad 39), .int (nI (m + 1)), .int od, .int ps, .int rs, .int cu]) ∧ G' 39 = .inl (L.ac 2, 60, .inl (upd tx m (vp_nar .char (c.toUInt32 % 65536).toInt32))) ∧ Agr [38, 39] G G') (fun e G2 => e = eIAE ∧ (c < 32 ∨ ¬ c ≤ 126) ∧ G = G2) := by
  refine GX.of (own := RX8) (lo := [(0, .ref (ad 0)), (1, .int c)]) (by decide +kernel) rfl rfl (Nat.le_of_ble_eq_true rfl) (fun E C hr hx => ?_)
  refine G_iload_n C 1 dX8_type_0 rfl rfl ?_
  refine G_bipush C (v := 32) dX8_type_1 (by decide) ?_
  refine G_icmp_lt C 12 dX8_type_3 (by decide) (fun c3 => ?_) (fun c3 => ?_)
  · exact G_throw C hx th_IAE (text := "the character is not from 32 to 126") (by decide) dX8_type_12 dX8_type_15 dX8_type_16 dX8_type_18 dX8_type_21 (by decide) (by decide) (by decide) (by decide) (⟨rfl, Or.inl c3, rfl⟩)
  · refine G_iload_n C 1 dX8_type_6 rfl rfl ?_
    refine G_bipush C (v := 126) dX8_type_7 (by decide) ?_
    refine G_icmp_le C 22 dX8_type_9 (by decide) (fun c9 => ?_) (fun c9 => ?_)
    · refine G_aload_n C 0 dX8_type_22 rfl rfl ?_
      refine G_get C 0 (by decide) g0 rfl inA8 8 (by decide) rfl kf_X8_62 rfl dX8_type_23 ?_
      refine G_iload_n C 1 dX8_type_26 rfl rfl ?_
      refine G_i2c C dX8_type_27 rfl ?_
      refine G_callV C (As := [.int ((c.toUInt32 % 65536).toInt32)]) (rest := []) (c_X7_append (by decide) (by decide) g38 g39 hm) ca_X7_append km_X8_205 (by decide) g38 rfl rfl rfl rfl (by decide) (Nat.le_of_ble_eq_true rfl) (by decide) dX8_type_28 (fun vv1 gg2 qq3 => ?_)
      obtain ⟨rfl, hh4, hh5, aa6⟩ := qq3
      have AA7 : Agr [38, 39] G gg2 := aa6.wk (by simp)
      refine G_if_ne C 44 dX8_type_31 (by decide) (fun _ => ?_) (fun h => absurd h (by decide))
      refine G_aload_n C 0 dX8_type_44 rfl rfl ?_
      refine G_get C 0 (by decide) ((aa6 0 (by decide)).trans g0) rfl inA8 8 (by decide) rfl kf_X8_62 rfl dX8_type_45 ?_
      refine G_get C 38 (by decide) hh4 rfl inA7 1 (by decide) rfl kf_X8_211 rfl dX8_type_48 ?_
      refine GW.widen (c1 := 1) (s1 := 6) (by decide) (by decide) ?_
      exact G_zret C hr rfl dX8_type_51 ⟨rfl, c3, c9, hh4, hh5, AA7⟩
    · exact G_throw C hx th_IAE (text := "the character is not from 32 to 126") (by decide) dX8_type_12 dX8_type_15 dX8_type_16 dX8_type_18 dX8_type_21 (by decide) (by decide) (by decide) (by decide) (⟨rfl, Or.inr c9, rfl⟩)

abbrev rm_X8_typeFull : Room := ({ frames := 6, cells := 1, slots := 6, locals := 82 } : Room)
set_option maxRecDepth 100000 in
set_option maxHeartbeats 4000000 in
theorem c_X8_typeFull {L : GL} {ad : Nat → Nat} {G : Nat → va_E} {c : Int32} {sn od ps rs cu : Int32} {tx : Nat → Int32}  (g0 : G 0 = .inr (8, [.ref (ad 1), .ref (ad 8), .ref (ad 9), .ref (ad 19), .ref (ad 22), .ref (ad 24), .ref (ad 26), .ref (ad 28), .ref (ad 38), .int sn])) (g38 : G 38 = .inr (7, [.ref (ad 39), .int 60, .int od, .int ps, .int rs, .int cu])) (g39 : G 39 = .inl (L.ac 2, 60, .inl tx))  : GX L yX8_type cX8_type 2 ((some .int)) rm_X8_typeFull 40 ad G [.ref (ad 0), .int c] (fun vo G' => vo = none ∧ (False) ∧ G = G') (fun e G2 => ((e = eIAE ∧ (c < 32 ∨ ¬ c ≤ 126)) ∨ (e = eISE ∧ ¬ c < 32 ∧ c ≤ 126)) ∧ G = G2) := by
  refine GX.of (own := RX8) (lo := [(0, .ref (ad 0)), (1, .int c)]) (by decide +kernel) rfl rfl (Nat.le_of_ble_eq_true rfl) (fun E C hr hx => ?_)
  refine G_iload_n C 1 dX8_type_0 rfl rfl ?_
  refine G_bipush C (v := 32) dX8_type_1 (by decide) ?_
  refine G_icmp_lt C 12 dX8_type_3 (by decide) (fun c3 => ?_) (fun c3 => ?_)
  · exact G_throw C hx th_IAE (text := "the character is not from 32 to 126") (by decide) dX8_type_12 dX8_type_15 dX8_type_16 dX8_type_18 dX8_type_21 (by decide) (by decide) (by decide) (by decide) (⟨Or.inl ⟨rfl, Or.inl c3⟩, rfl⟩)
  · refine G_iload_n C 1 dX8_type_6 rfl rfl ?_
    refine G_bipush C (v := 126) dX8_type_7 (by decide) ?_
    refine G_icmp_le C 22 dX8_type_9 (by decide) (fun c9 => ?_) (fun c9 => ?_)
    · refine G_aload_n C 0 dX8_type_22 rfl rfl ?_
      refine G_get C 0 (by decide) g0 rfl inA8 8 (by decide) rfl kf_X8_62 rfl dX8_type_23 ?_
      refine G_iload_n C 1 dX8_type_26 rfl rfl ?_
      refine G_i2c C dX8_type_27 rfl ?_
      refine G_callV C (As := [.int ((c.toUInt32 % 65536).toInt32)]) (rest := []) (c_X7_appendFull (by decide) (by decide) g38 g39) ca_X7_append km_X8_205 (by decide) g38 rfl rfl rfl rfl (by decide) (Nat.le_of_ble_eq_true rfl) (by decide) dX8_type_28 (fun vv1 gg2 qq3 => ?_)
      obtain ⟨rfl, rfl⟩ := qq3
      refine G_if_ne C 44 dX8_type_31 (by decide) (fun h => absurd h (by decide)) (fun _ => ?_)
      exact G_throw C hx th_ISE (text := "the text has 60 characters") (by decide) dX8_type_34 dX8_type_37 dX8_type_38 dX8_type_40 dX8_type_43 (by decide) (by decide) (by decide) (by decide) (⟨Or.inr ⟨rfl, c3, c9⟩, rfl⟩)
    · exact G_throw C hx th_IAE (text := "the character is not from 32 to 126") (by decide) dX8_type_12 dX8_type_15 dX8_type_16 dX8_type_18 dX8_type_21 (by decide) (by decide) (by decide) (by decide) (⟨Or.inl ⟨rfl, Or.inr c9⟩, rfl⟩)

abbrev rm_X8_clearText : Room := ({ frames := 0, cells := 0, slots := 0, locals := 0 } : Room)
set_option maxRecDepth 100000 in
set_option maxHeartbeats 4000000 in
theorem c_X8_clearText {L : GL} {ad : Nat → Nat} {G : Nat → va_E} {sn ln od ps rs cu : Int32}  (g0 : G 0 = .inr (8, [.ref (ad 1), .ref (ad 8), .ref (ad 9), .ref (ad 19), .ref (ad 22), .ref (ad 24), .ref (ad 26), .ref (ad 28), .ref (ad 38), .int sn])) (g38 : G 38 = .inr (7, [.ref (ad 39), .int ln, .int od, .int ps, .int rs, .int cu]))  : GM L yX8_clearText cX8_clearText 2 ((some .int)) rm_X8_clearText 40 ad G [.ref (ad 0)] (fun vo G' => vo = some (.int ln) ∧ G' 38 = .inr (7, [.ref (ad 39), .int 0, .int od, .int ps, .int rs, .int cu]) ∧ Agr [38] G G') := by
  refine GM.of (own := RX8) (lo := [(0, .ref (ad 0))]) (by decide +kernel) rfl rfl (Nat.le_of_ble_eq_true rfl) (fun E C hr => ?_)
  refine G_aload_n C 0 dX8_clearText_0 rfl rfl ?_
  refine G_get C 0 (by decide) g0 rfl inA8 8 (by decide) rfl kf_X8_62 rfl dX8_clearText_1 ?_
  refine G_get C 38 (by decide) g38 rfl inA7 1 (by decide) rfl kf_X8_211 rfl dX8_clearText_4 ?_
  refine G_istore_n C 1 (lo' := [(1, .int ln), (0, .ref (ad 0))]) dX8_clearText_7 rfl (by decide) rfl ?_
  refine G_aload_n C 0 dX8_clearText_8 rfl rfl ?_
  refine G_get C 0 (by decide) g0 rfl inA8 8 (by decide) rfl kf_X8_62 rfl dX8_clearText_9 ?_
  refine G_iconst C (v := 0) dX8_clearText_12 (by decide) ?_
  refine G_putp C 38 (by decide) g38 rfl inA7 tyX7_ok nmX7 1 (by decide) rfl kf_X8_211 rfl rfl rfl (fs' := [.ref (ad 39), .int 0, .int od, .int ps, .int rs, .int cu]) (Nat.le_of_ble_eq_true rfl) rfl dX8_clearText_13 (fun gg1 hh2 aa3 => ?_)
  have AA4 : Agr [38] G gg1 := aa3.wk (by simp)
  refine G_iload_n C 1 dX8_clearText_16 rfl rfl ?_
  exact G_zret C hr rfl dX8_clearText_17 ⟨rfl, hh2, AA4⟩

abbrev rm_X8_requireFault : Room := ({ frames := 6, cells := 1, slots := 6, locals := 114 } : Room)
set_option maxRecDepth 100000 in
set_option maxHeartbeats 4000000 in
theorem c_X8_requireFault {L : GL} {ad : Nat → Nat} {G : Nat → va_E} {sn : Int32} {len : Nat} {od ps rs cu : Int32} {tx : Nat → Int32} {l2 ml2 : Int32} {f2 : Nat → Int32} {l ml : Int32} {f : Nat → Int32}  (g0 : G 0 = .inr (8, [.ref (ad 1), .ref (ad 8), .ref (ad 9), .ref (ad 19), .ref (ad 22), .ref (ad 24), .ref (ad 26), .ref (ad 28), .ref (ad 38), .int sn])) (g38 : G 38 = .inr (7, [.ref (ad 39), .int (nI len), .int od, .int ps, .int rs, .int cu])) (g39 : G 39 = .inl (L.ac 2, 60, .inl tx)) (g24 : G 24 = .inr (5, [.ref (ad 1), .ref (ad 25), .int l2, .int ml2])) (g25 : G 25 = .inl (L.ac 0, 61, .inl f2)) (g22 : G 22 = .inr (5, [.ref (ad 1), .ref (ad 23), .int l, .int ml])) (g23 : G 23 = .inl (L.ac 0, 61, .inl f)) (g1 : G 1 = .inr (4, [.ref (ad 2), .ref (ad 3), .ref (ad 4), .ref (ad 5), .ref (ad 6)])) (g3 : G 3 = .inl (L.ac 0, 61, .inl tPer)) (g6 : G 6 = .inl (L.ac 0, 61, .inl tGp)) (hlen : len ≤ 60) (htx : ∀ j : Nat, narrow .char (.int (tx j)) = .int (tx j)) : GX L yX8_requireFault cX8_requireFault 1 (none) rm_X8_requireFault 40 ad G [.ref (ad 0)] (fun vo G' => vo = none ∧ (¬ (fRun tx len 60 (0, 0, 0, 0, f, l, ml)).2.2.1 = 0) ∧ G' 38 = .inr (7, [.ref (ad 39), .int (nI len), .int ((fRun tx len 60 (0, 0, 0, 0, f, l, ml)).1), .int (nI (fRun tx len 60 (0, 0, 0, 0, f, l, ml)).2.1), .int ((fRun tx len 60 (0, 0, 0, 0, f, l, ml)).2.2.1), .int ((fRun tx len 60 (0, 0, 0, 0, f, l, ml)).2.2.2.1)]) ∧ G' 24 = .inr (5, [.ref (ad 1), .ref (ad 25), .int ((fRun tx len 60 (0, 0, 0, 0, f, l, ml)).2.2.2.2.2.1), .int ((fRun tx len 60 (0, 0, 0, 0, f, l, ml)).2.2.2.2.2.2)]) ∧ G' 25 = .inl (L.ac 0, 61, .inl ((fRun tx len 60 (0, 0, 0, 0, f, l, ml)).2.2.2.2.1)) ∧ Agr [38, 24, 25] G G') (fun e G2 => e = eNSE ∧ (fRun tx len 60 (0, 0, 0, 0, f, l, ml)).2.2.1 = 0 ∧ G2 38 = .inr (7, [.ref (ad 39), .int (nI len), .int ((fRun tx len 60 (0, 0, 0, 0, f, l, ml)).1), .int (nI (fRun tx len 60 (0, 0, 0, 0, f, l, ml)).2.1), .int ((fRun tx len 60 (0, 0, 0, 0, f, l, ml)).2.2.1), .int ((fRun tx len 60 (0, 0, 0, 0, f, l, ml)).2.2.2.1)]) ∧ G2 24 = .inr (5, [.ref (ad 1), .ref (ad 25), .int ((fRun tx len 60 (0, 0, 0, 0, f, l, ml)).2.2.2.2.2.1), .int ((fRun tx len 60 (0, 0, 0, 0, f, l, ml)).2.2.2.2.2.2)]) ∧ G2 25 = .inl (L.ac 0, 61, .inl ((fRun tx len 60 (0, 0, 0, 0, f, l, ml)).2.2.2.2.1)) ∧ Agr [38, 24, 25] G G2) := by
  refine GX.of (own := RX8) (lo := [(0, .ref (ad 0))]) (by decide +kernel) rfl rfl (Nat.le_of_ble_eq_true rfl) (fun E C hr hx => ?_)
  refine G_aload_n C 0 dX8_requireFault_0 rfl rfl ?_
  refine G_get C 0 (by decide) g0 rfl inA8 8 (by decide) rfl kf_X8_62 rfl dX8_requireFault_1 ?_
  refine G_aload_n C 0 dX8_requireFault_4 rfl rfl ?_
  refine G_get C 0 (by decide) g0 rfl inA8 4 (by decide) rfl kf_X8_42 rfl dX8_requireFault_5 ?_
  refine G_aload_n C 0 dX8_requireFault_8 rfl rfl ?_
  refine G_get C 0 (by decide) g0 rfl inA8 5 (by decide) rfl kf_X8_46 rfl dX8_requireFault_9 ?_
  refine G_callV C (As := [.ref (ad 22), .ref (ad 24)]) (rest := []) (c_X7_findsFault (by decide) (by decide) (by decide) (by decide) (by decide) (by decide) (by decide) (by decide) (by decide) g38 g39 g24 g25 g22 g23 g1 g3 g6 hlen (by decide) (by decide) (by decide) (by decide) htx) ca_X7_findsFault km_X8_226 (by decide) g38 rfl rfl rfl rfl (by decide) (Nat.le_of_ble_eq_true rfl) (by decide) dX8_requireFault_12 (fun vv1 gg2 qq3 => ?_)
  obtain ⟨rfl, hh4, hh5, hh6, aa7⟩ := qq3
  have AA8 : Agr [38, 24, 25] G gg2 := aa7.wk (by simp)
  refine G_if_ne C 28 dX8_requireFault_15 (by decide) (fun c15 => ?_) (fun c15 => ?_)
  · refine GW.widen (c1 := 1) (s1 := 6) (by decide) (by decide) ?_
    exact G_vret C hr dX8_requireFault_28 ⟨rfl, it1 c15, hh4, hh5, hh6, AA8⟩
  · exact G_throwX C hx th_NSE (text := "the text has no fault") (by decide) dX8_requireFault_18 dX8_requireFault_21 dX8_requireFault_22 dX8_requireFault_24 dX8_requireFault_27 (by decide) (by decide) (by decide) (by decide) (⟨rfl, it0 c15, hh4, hh5, hh6, AA8⟩)

abbrev rm_X8_faultPosition : Room := ({ frames := 7, cells := 1, slots := 6, locals := 134 } : Room)
set_option maxRecDepth 100000 in
set_option maxHeartbeats 4000000 in
theorem c_X8_faultPosition {L : GL} {ad : Nat → Nat} {G : Nat → va_E} {sn : Int32} {len : Nat} {od ps rs cu : Int32} {tx : Nat → Int32} {l2 ml2 : Int32} {f2 : Nat → Int32} {l ml : Int32} {f : Nat → Int32}  (g0 : G 0 = .inr (8, [.ref (ad 1), .ref (ad 8), .ref (ad 9), .ref (ad 19), .ref (ad 22), .ref (ad 24), .ref (ad 26), .ref (ad 28), .ref (ad 38), .int sn])) (g38 : G 38 = .inr (7, [.ref (ad 39), .int (nI len), .int od, .int ps, .int rs, .int cu])) (g39 : G 39 = .inl (L.ac 2, 60, .inl tx)) (g24 : G 24 = .inr (5, [.ref (ad 1), .ref (ad 25), .int l2, .int ml2])) (g25 : G 25 = .inl (L.ac 0, 61, .inl f2)) (g22 : G 22 = .inr (5, [.ref (ad 1), .ref (ad 23), .int l, .int ml])) (g23 : G 23 = .inl (L.ac 0, 61, .inl f)) (g1 : G 1 = .inr (4, [.ref (ad 2), .ref (ad 3), .ref (ad 4), .ref (ad 5), .ref (ad 6)])) (g3 : G 3 = .inl (L.ac 0, 61, .inl tPer)) (g6 : G 6 = .inl (L.ac 0, 61, .inl tGp)) (hlen : len ≤ 60) (htx : ∀ j : Nat, narrow .char (.int (tx j)) = .int (tx j)) : GX L yX8_faultPosition cX8_faultPosition 1 ((some .int)) rm_X8_faultPosition 40 ad G [.ref (ad 0)] (fun vo G' => vo = some (.int (nI (fRun tx len 60 (0, 0, 0, 0, f, l, ml)).2.1)) ∧ (¬ (fRun tx len 60 (0, 0, 0, 0, f, l, ml)).2.2.1 = 0) ∧ G' 38 = .inr (7, [.ref (ad 39), .int (nI len), .int ((fRun tx len 60 (0, 0, 0, 0, f, l, ml)).1), .int (nI (fRun tx len 60 (0, 0, 0, 0, f, l, ml)).2.1), .int ((fRun tx len 60 (0, 0, 0, 0, f, l, ml)).2.2.1), .int ((fRun tx len 60 (0, 0, 0, 0, f, l, ml)).2.2.2.1)]) ∧ G' 24 = .inr (5, [.ref (ad 1), .ref (ad 25), .int ((fRun tx len 60 (0, 0, 0, 0, f, l, ml)).2.2.2.2.2.1), .int ((fRun tx len 60 (0, 0, 0, 0, f, l, ml)).2.2.2.2.2.2)]) ∧ G' 25 = .inl (L.ac 0, 61, .inl ((fRun tx len 60 (0, 0, 0, 0, f, l, ml)).2.2.2.2.1)) ∧ Agr [38, 24, 25] G G') (fun e G2 => e = eNSE ∧ (fRun tx len 60 (0, 0, 0, 0, f, l, ml)).2.2.1 = 0 ∧ G2 38 = .inr (7, [.ref (ad 39), .int (nI len), .int ((fRun tx len 60 (0, 0, 0, 0, f, l, ml)).1), .int (nI (fRun tx len 60 (0, 0, 0, 0, f, l, ml)).2.1), .int ((fRun tx len 60 (0, 0, 0, 0, f, l, ml)).2.2.1), .int ((fRun tx len 60 (0, 0, 0, 0, f, l, ml)).2.2.2.1)]) ∧ G2 24 = .inr (5, [.ref (ad 1), .ref (ad 25), .int ((fRun tx len 60 (0, 0, 0, 0, f, l, ml)).2.2.2.2.2.1), .int ((fRun tx len 60 (0, 0, 0, 0, f, l, ml)).2.2.2.2.2.2)]) ∧ G2 25 = .inl (L.ac 0, 61, .inl ((fRun tx len 60 (0, 0, 0, 0, f, l, ml)).2.2.2.2.1)) ∧ Agr [38, 24, 25] G G2) := by
  refine GX.of (own := RX8) (lo := [(0, .ref (ad 0))]) (by decide +kernel) rfl rfl (Nat.le_of_ble_eq_true rfl) (fun E C hr hx => ?_)
  refine G_aload_n C 0 dX8_faultPosition_0 rfl rfl ?_
  refine G_callVX C (As := []) (rest := []) (c_X8_requireFault g0 g38 g39 g24 g25 g22 g23 g1 g3 g6 hlen htx) ca_X8_requireFault km_X8_214 (by decide) g0 rfl rfl rfl rfl (by decide) (Nat.le_of_ble_eq_true rfl) (by decide) dX8_faultPosition_1 hx (by decide) (fun e G2 h => h) (fun vv1 gg2 qq3 => ?_)
  obtain ⟨rfl, pp4, hh5, hh6, hh7, aa8⟩ := qq3
  have AA9 : Agr [38, 24, 25] G gg2 := aa8.wk (by simp)
  refine G_aload_n C 0 dX8_faultPosition_4 rfl rfl ?_
  refine G_get C 0 (by decide) ((aa8 0 (by decide)).trans g0) rfl inA8 8 (by decide) rfl kf_X8_62 rfl dX8_faultPosition_5 ?_
  refine G_get C 38 (by decide) hh5 rfl inA7 3 (by decide) rfl kf_X8_217 rfl dX8_faultPosition_8 ?_
  refine GW.widen (c1 := 1) (s1 := 6) (by decide) (by decide) ?_
  exact G_zret C hr rfl dX8_faultPosition_11 ⟨rfl, pp4, hh5, hh6, hh7, AA9⟩

abbrev rm_X8_faultReason : Room := ({ frames := 7, cells := 1, slots := 6, locals := 134 } : Room)
set_option maxRecDepth 100000 in
set_option maxHeartbeats 4000000 in
theorem c_X8_faultReason {L : GL} {ad : Nat → Nat} {G : Nat → va_E} {sn : Int32} {len : Nat} {od ps rs cu : Int32} {tx : Nat → Int32} {l2 ml2 : Int32} {f2 : Nat → Int32} {l ml : Int32} {f : Nat → Int32}  (g0 : G 0 = .inr (8, [.ref (ad 1), .ref (ad 8), .ref (ad 9), .ref (ad 19), .ref (ad 22), .ref (ad 24), .ref (ad 26), .ref (ad 28), .ref (ad 38), .int sn])) (g38 : G 38 = .inr (7, [.ref (ad 39), .int (nI len), .int od, .int ps, .int rs, .int cu])) (g39 : G 39 = .inl (L.ac 2, 60, .inl tx)) (g24 : G 24 = .inr (5, [.ref (ad 1), .ref (ad 25), .int l2, .int ml2])) (g25 : G 25 = .inl (L.ac 0, 61, .inl f2)) (g22 : G 22 = .inr (5, [.ref (ad 1), .ref (ad 23), .int l, .int ml])) (g23 : G 23 = .inl (L.ac 0, 61, .inl f)) (g1 : G 1 = .inr (4, [.ref (ad 2), .ref (ad 3), .ref (ad 4), .ref (ad 5), .ref (ad 6)])) (g3 : G 3 = .inl (L.ac 0, 61, .inl tPer)) (g6 : G 6 = .inl (L.ac 0, 61, .inl tGp)) (hlen : len ≤ 60) (htx : ∀ j : Nat, narrow .char (.int (tx j)) = .int (tx j)) : GX L yX8_faultReason cX8_faultReason 1 ((some .int)) rm_X8_faultReason 40 ad G [.ref (ad 0)] (fun vo G' => vo = some (.int ((fRun tx len 60 (0, 0, 0, 0, f, l, ml)).2.2.1)) ∧ (¬ (fRun tx len 60 (0, 0, 0, 0, f, l, ml)).2.2.1 = 0) ∧ G' 38 = .inr (7, [.ref (ad 39), .int (nI len), .int ((fRun tx len 60 (0, 0, 0, 0, f, l, ml)).1), .int (nI (fRun tx len 60 (0, 0, 0, 0, f, l, ml)).2.1), .int ((fRun tx len 60 (0, 0, 0, 0, f, l, ml)).2.2.1), .int ((fRun tx len 60 (0, 0, 0, 0, f, l, ml)).2.2.2.1)]) ∧ G' 24 = .inr (5, [.ref (ad 1), .ref (ad 25), .int ((fRun tx len 60 (0, 0, 0, 0, f, l, ml)).2.2.2.2.2.1), .int ((fRun tx len 60 (0, 0, 0, 0, f, l, ml)).2.2.2.2.2.2)]) ∧ G' 25 = .inl (L.ac 0, 61, .inl ((fRun tx len 60 (0, 0, 0, 0, f, l, ml)).2.2.2.2.1)) ∧ Agr [38, 24, 25] G G') (fun e G2 => e = eNSE ∧ (fRun tx len 60 (0, 0, 0, 0, f, l, ml)).2.2.1 = 0 ∧ G2 38 = .inr (7, [.ref (ad 39), .int (nI len), .int ((fRun tx len 60 (0, 0, 0, 0, f, l, ml)).1), .int (nI (fRun tx len 60 (0, 0, 0, 0, f, l, ml)).2.1), .int ((fRun tx len 60 (0, 0, 0, 0, f, l, ml)).2.2.1), .int ((fRun tx len 60 (0, 0, 0, 0, f, l, ml)).2.2.2.1)]) ∧ G2 24 = .inr (5, [.ref (ad 1), .ref (ad 25), .int ((fRun tx len 60 (0, 0, 0, 0, f, l, ml)).2.2.2.2.2.1), .int ((fRun tx len 60 (0, 0, 0, 0, f, l, ml)).2.2.2.2.2.2)]) ∧ G2 25 = .inl (L.ac 0, 61, .inl ((fRun tx len 60 (0, 0, 0, 0, f, l, ml)).2.2.2.2.1)) ∧ Agr [38, 24, 25] G G2) := by
  refine GX.of (own := RX8) (lo := [(0, .ref (ad 0))]) (by decide +kernel) rfl rfl (Nat.le_of_ble_eq_true rfl) (fun E C hr hx => ?_)
  refine G_aload_n C 0 dX8_faultReason_0 rfl rfl ?_
  refine G_callVX C (As := []) (rest := []) (c_X8_requireFault g0 g38 g39 g24 g25 g22 g23 g1 g3 g6 hlen htx) ca_X8_requireFault km_X8_214 (by decide) g0 rfl rfl rfl rfl (by decide) (Nat.le_of_ble_eq_true rfl) (by decide) dX8_faultReason_1 hx (by decide) (fun e G2 h => h) (fun vv1 gg2 qq3 => ?_)
  obtain ⟨rfl, pp4, hh5, hh6, hh7, aa8⟩ := qq3
  have AA9 : Agr [38, 24, 25] G gg2 := aa8.wk (by simp)
  refine G_aload_n C 0 dX8_faultReason_4 rfl rfl ?_
  refine G_get C 0 (by decide) ((aa8 0 (by decide)).trans g0) rfl inA8 8 (by decide) rfl kf_X8_62 rfl dX8_faultReason_5 ?_
  refine G_get C 38 (by decide) hh5 rfl inA7 4 (by decide) rfl kf_X8_220 rfl dX8_faultReason_8 ?_
  refine GW.widen (c1 := 1) (s1 := 6) (by decide) (by decide) ?_
  exact G_zret C hr rfl dX8_faultReason_11 ⟨rfl, pp4, hh5, hh6, hh7, AA9⟩

abbrev rm_X8_faultCause : Room := ({ frames := 7, cells := 1, slots := 6, locals := 134 } : Room)
set_option maxRecDepth 100000 in
set_option maxHeartbeats 4000000 in
theorem c_X8_faultCause {L : GL} {ad : Nat → Nat} {G : Nat → va_E} {sn : Int32} {len : Nat} {od ps rs cu : Int32} {tx : Nat → Int32} {l2 ml2 : Int32} {f2 : Nat → Int32} {l ml : Int32} {f : Nat → Int32}  (g0 : G 0 = .inr (8, [.ref (ad 1), .ref (ad 8), .ref (ad 9), .ref (ad 19), .ref (ad 22), .ref (ad 24), .ref (ad 26), .ref (ad 28), .ref (ad 38), .int sn])) (g38 : G 38 = .inr (7, [.ref (ad 39), .int (nI len), .int od, .int ps, .int rs, .int cu])) (g39 : G 39 = .inl (L.ac 2, 60, .inl tx)) (g24 : G 24 = .inr (5, [.ref (ad 1), .ref (ad 25), .int l2, .int ml2])) (g25 : G 25 = .inl (L.ac 0, 61, .inl f2)) (g22 : G 22 = .inr (5, [.ref (ad 1), .ref (ad 23), .int l, .int ml])) (g23 : G 23 = .inl (L.ac 0, 61, .inl f)) (g1 : G 1 = .inr (4, [.ref (ad 2), .ref (ad 3), .ref (ad 4), .ref (ad 5), .ref (ad 6)])) (g3 : G 3 = .inl (L.ac 0, 61, .inl tPer)) (g6 : G 6 = .inl (L.ac 0, 61, .inl tGp)) (hlen : len ≤ 60) (htx : ∀ j : Nat, narrow .char (.int (tx j)) = .int (tx j)) : GX L yX8_faultCause cX8_faultCause 1 ((some .int)) rm_X8_faultCause 40 ad G [.ref (ad 0)] (fun vo G' => vo = some (.int ((fRun tx len 60 (0, 0, 0, 0, f, l, ml)).2.2.2.1)) ∧ (¬ (fRun tx len 60 (0, 0, 0, 0, f, l, ml)).2.2.1 = 0) ∧ G' 38 = .inr (7, [.ref (ad 39), .int (nI len), .int ((fRun tx len 60 (0, 0, 0, 0, f, l, ml)).1), .int (nI (fRun tx len 60 (0, 0, 0, 0, f, l, ml)).2.1), .int ((fRun tx len 60 (0, 0, 0, 0, f, l, ml)).2.2.1), .int ((fRun tx len 60 (0, 0, 0, 0, f, l, ml)).2.2.2.1)]) ∧ G' 24 = .inr (5, [.ref (ad 1), .ref (ad 25), .int ((fRun tx len 60 (0, 0, 0, 0, f, l, ml)).2.2.2.2.2.1), .int ((fRun tx len 60 (0, 0, 0, 0, f, l, ml)).2.2.2.2.2.2)]) ∧ G' 25 = .inl (L.ac 0, 61, .inl ((fRun tx len 60 (0, 0, 0, 0, f, l, ml)).2.2.2.2.1)) ∧ Agr [38, 24, 25] G G') (fun e G2 => e = eNSE ∧ (fRun tx len 60 (0, 0, 0, 0, f, l, ml)).2.2.1 = 0 ∧ G2 38 = .inr (7, [.ref (ad 39), .int (nI len), .int ((fRun tx len 60 (0, 0, 0, 0, f, l, ml)).1), .int (nI (fRun tx len 60 (0, 0, 0, 0, f, l, ml)).2.1), .int ((fRun tx len 60 (0, 0, 0, 0, f, l, ml)).2.2.1), .int ((fRun tx len 60 (0, 0, 0, 0, f, l, ml)).2.2.2.1)]) ∧ G2 24 = .inr (5, [.ref (ad 1), .ref (ad 25), .int ((fRun tx len 60 (0, 0, 0, 0, f, l, ml)).2.2.2.2.2.1), .int ((fRun tx len 60 (0, 0, 0, 0, f, l, ml)).2.2.2.2.2.2)]) ∧ G2 25 = .inl (L.ac 0, 61, .inl ((fRun tx len 60 (0, 0, 0, 0, f, l, ml)).2.2.2.2.1)) ∧ Agr [38, 24, 25] G G2) := by
  refine GX.of (own := RX8) (lo := [(0, .ref (ad 0))]) (by decide +kernel) rfl rfl (Nat.le_of_ble_eq_true rfl) (fun E C hr hx => ?_)
  refine G_aload_n C 0 dX8_faultCause_0 rfl rfl ?_
  refine G_callVX C (As := []) (rest := []) (c_X8_requireFault g0 g38 g39 g24 g25 g22 g23 g1 g3 g6 hlen htx) ca_X8_requireFault km_X8_214 (by decide) g0 rfl rfl rfl rfl (by decide) (Nat.le_of_ble_eq_true rfl) (by decide) dX8_faultCause_1 hx (by decide) (fun e G2 h => h) (fun vv1 gg2 qq3 => ?_)
  obtain ⟨rfl, pp4, hh5, hh6, hh7, aa8⟩ := qq3
  have AA9 : Agr [38, 24, 25] G gg2 := aa8.wk (by simp)
  refine G_aload_n C 0 dX8_faultCause_4 rfl rfl ?_
  refine G_get C 0 (by decide) ((aa8 0 (by decide)).trans g0) rfl inA8 8 (by decide) rfl kf_X8_62 rfl dX8_faultCause_5 ?_
  refine G_get C 38 (by decide) hh5 rfl inA7 5 (by decide) rfl kf_X8_223 rfl dX8_faultCause_8 ?_
  refine GW.widen (c1 := 1) (s1 := 6) (by decide) (by decide) ?_
  exact G_zret C hr rfl dX8_faultCause_11 ⟨rfl, pp4, hh5, hh6, hh7, AA9⟩

abbrev rm_X8_play : Room := ({ frames := 6, cells := 1, slots := 6, locals := 141 } : Room)
set_option maxRecDepth 100000 in
set_option maxHeartbeats 4000000 in
theorem c_X8_play {L : GL} {ad : Nat → Nat} {G : Nat → va_E} {sn : Int32} {len : Nat} {od ps rs cu : Int32} {tx : Nat → Int32} {l2 ml2 : Int32} {f2 : Nat → Int32} {l ml : Int32} {f : Nat → Int32} {hs : List HE}  (g0 : G 0 = .inr (8, [.ref (ad 1), .ref (ad 8), .ref (ad 9), .ref (ad 19), .ref (ad 22), .ref (ad 24), .ref (ad 26), .ref (ad 28), .ref (ad 38), .int sn])) (g38 : G 38 = .inr (7, [.ref (ad 39), .int (nI len), .int od, .int ps, .int rs, .int cu])) (g39 : G 39 = .inl (L.ac 2, 60, .inl tx)) (g24 : G 24 = .inr (5, [.ref (ad 1), .ref (ad 25), .int l2, .int ml2])) (g25 : G 25 = .inl (L.ac 0, 61, .inl f2)) (g22 : G 22 = .inr (5, [.ref (ad 1), .ref (ad 23), .int l, .int ml])) (g23 : G 23 = .inl (L.ac 0, 61, .inl f)) (g1 : G 1 = .inr (4, [.ref (ad 2), .ref (ad 3), .ref (ad 4), .ref (ad 5), .ref (ad 6)])) (g3 : G 3 = .inl (L.ac 0, 61, .inl tPer)) (g6 : G 6 = .inl (L.ac 0, 61, .inl tGp)) (hlen : len ≤ 60) (htx : ∀ j : Nat, narrow .char (.int (tx j)) = .int (tx j)) (hH : HistP L ad G hs) : GX L yX8_play cX8_play 1 ((some .int)) rm_X8_play 40 ad G [.ref (ad 0)] (fun vo G' => vo = some (.int ((fRun tx len 60 (0, 0, 0, 0, f, l, ml)).1)) ∧ ((fRun tx len 60 (0, 0, 0, 0, f, l, ml)).2.2.1 = 0) ∧ (HistP L ad G' (hpush hs (f, l, ml))) ∧ G' 38 = .inr (7, [.ref (ad 39), .int (nI len), .int ((fRun tx len 60 (0, 0, 0, 0, f, l, ml)).1), .int (nI (fRun tx len 60 (0, 0, 0, 0, f, l, ml)).2.1), .int ((fRun tx len 60 (0, 0, 0, 0, f, l, ml)).2.2.1), .int ((fRun tx len 60 (0, 0, 0, 0, f, l, ml)).2.2.2.1)]) ∧ G' 24 = .inr (5, [.ref (ad 1), .ref (ad 25), .int ((fRun tx len 60 (0, 0, 0, 0, f, l, ml)).2.2.2.2.2.1), .int ((fRun tx len 60 (0, 0, 0, 0, f, l, ml)).2.2.2.2.2.2)]) ∧ G' 25 = .inl (L.ac 0, 61, .inl ((fRun tx len 60 (0, 0, 0, 0, f, l, ml)).2.2.2.2.1)) ∧ G' 22 = .inr (5, [.ref (ad 1), .ref (ad 23), .int ((fRun tx len 60 (0, 0, 0, 0, f, l, ml)).2.2.2.2.2.1), .int ((fRun tx len 60 (0, 0, 0, 0, f, l, ml)).2.2.2.2.2.2)]) ∧ G' 23 = .inl (L.ac 0, 61, .inl ((fRun tx len 60 (0, 0, 0, 0, f, l, ml)).2.2.2.2.1)) ∧ Agr [38, 24, 25, 22, 23, 28, 29, 30, 31, 32, 33, 34, 35, 36, 37] G G') (fun e G2 => e = eISE ∧ ¬ (fRun tx len 60 (0, 0, 0, 0, f, l, ml)).2.2.1 = 0 ∧ G2 38 = .inr (7, [.ref (ad 39), .int (nI len), .int ((fRun tx len 60 (0, 0, 0, 0, f, l, ml)).1), .int (nI (fRun tx len 60 (0, 0, 0, 0, f, l, ml)).2.1), .int ((fRun tx len 60 (0, 0, 0, 0, f, l, ml)).2.2.1), .int ((fRun tx len 60 (0, 0, 0, 0, f, l, ml)).2.2.2.1)]) ∧ G2 24 = .inr (5, [.ref (ad 1), .ref (ad 25), .int ((fRun tx len 60 (0, 0, 0, 0, f, l, ml)).2.2.2.2.2.1), .int ((fRun tx len 60 (0, 0, 0, 0, f, l, ml)).2.2.2.2.2.2)]) ∧ G2 25 = .inl (L.ac 0, 61, .inl ((fRun tx len 60 (0, 0, 0, 0, f, l, ml)).2.2.2.2.1)) ∧ Agr [38, 24, 25] G G2) := by
  refine GX.of (own := RX8) (lo := [(0, .ref (ad 0))]) (by decide +kernel) rfl rfl (Nat.le_of_ble_eq_true rfl) (fun E C hr hx => ?_)
  refine G_aload_n C 0 dX8_play_0 rfl rfl ?_
  refine G_get C 0 (by decide) g0 rfl inA8 8 (by decide) rfl kf_X8_62 rfl dX8_play_1 ?_
  refine G_aload_n C 0 dX8_play_4 rfl rfl ?_
  refine G_get C 0 (by decide) g0 rfl inA8 4 (by decide) rfl kf_X8_42 rfl dX8_play_5 ?_
  refine G_aload_n C 0 dX8_play_8 rfl rfl ?_
  refine G_get C 0 (by decide) g0 rfl inA8 5 (by decide) rfl kf_X8_46 rfl dX8_play_9 ?_
  refine G_callV C (As := [.ref (ad 22), .ref (ad 24)]) (rest := []) (c_X7_findsFault (by decide) (by decide) (by decide) (by decide) (by decide) (by decide) (by decide) (by decide) (by decide) g38 g39 g24 g25 g22 g23 g1 g3 g6 hlen (by decide) (by decide) (by decide) (by decide) htx) ca_X7_findsFault km_X8_226 (by decide) g38 rfl rfl rfl rfl (by decide) (Nat.le_of_ble_eq_true rfl) (by decide) dX8_play_12 (fun vv1 gg2 qq3 => ?_)
  obtain ⟨rfl, hh4, hh5, hh6, aa7⟩ := qq3
  have AA8 : Agr [38, 24, 25] G gg2 := aa7.wk (by simp)
  have hX9 := HistP.keep hH (S := [38, 24, 25]) aa7 (by decide)
  refine G_if_eq C 28 dX8_play_15 (by decide) (fun c15 => ?_) (fun c15 => ?_)
  · refine G_aload_n C 0 dX8_play_28 rfl rfl ?_
    refine G_get C 0 (by decide) ((aa7 0 (by decide)).trans g0) rfl inA8 7 (by decide) rfl kf_X8_55 rfl dX8_play_29 ?_
    refine G_aload_n C 0 dX8_play_32 rfl rfl ?_
    refine G_get C 0 (by decide) ((aa7 0 (by decide)).trans g0) rfl inA8 4 (by decide) rfl kf_X8_42 rfl dX8_play_33 ?_
    refine G_callV C (As := [.ref (ad 22)]) (rest := []) (c_h_record ((aa7 22 (by decide)).trans g22) ((aa7 23 (by decide)).trans g23) hX9) ca_X0_record km_X8_193 (by decide) (HistP.sz hX9) rfl rfl rfl rfl (by decide) (Nat.le_of_ble_eq_true rfl) (by decide) dX8_play_36 (fun vv9 gg10 qq11 => ?_)
    obtain ⟨rfl, pp12, aa13⟩ := qq11
    have AA14 : Agr [38, 24, 25, 28, 29, 30, 31, 32, 33, 34, 35, 36, 37] G gg10 := AA8.tr aa13 (by simp) (by simp)
    refine G_aload_n C 0 dX8_play_39 rfl rfl ?_
    refine G_get C 0 (by decide) ((aa13 0 (by decide)).trans ((aa7 0 (by decide)).trans g0)) rfl inA8 4 (by decide) rfl kf_X8_42 rfl dX8_play_40 ?_
    refine G_aload_n C 0 dX8_play_43 rfl rfl ?_
    refine G_get C 0 (by decide) ((aa13 0 (by decide)).trans ((aa7 0 (by decide)).trans g0)) rfl inA8 5 (by decide) rfl kf_X8_46 rfl dX8_play_44 ?_
    refine G_callV C (As := [.ref (ad 24)]) (rest := []) (c_X5_copyFrom (by decide) (by decide) (by decide) (by decide) ((aa13 22 (by decide)).trans ((aa7 22 (by decide)).trans g22)) ((aa13 23 (by decide)).trans ((aa7 23 (by decide)).trans g23)) ((aa13 24 (by decide)).trans hh5) ((aa13 25 (by decide)).trans hh6) (by decide) (by decide)) ca_X5_copyFrom km_X8_181 (by decide) ((aa13 22 (by decide)).trans ((aa7 22 (by decide)).trans g22)) rfl rfl rfl rfl (by decide) (Nat.le_of_ble_eq_true rfl) (by decide) dX8_play_47 (fun vv15 gg16 qq17 => ?_)
    obtain ⟨rfl, hh18, hh19, aa20⟩ := qq17
    have AA21 : Agr [38, 24, 25, 28, 29, 30, 31, 32, 33, 34, 35, 36, 37, 22, 23] G gg16 := AA14.tr aa20 (by simp) (by simp)
    have hZ := HistP.keep pp12 (S := [22, 23]) aa20 (by decide)
    refine G_aload_n C 0 dX8_play_50 rfl rfl ?_
    refine G_get C 0 (by decide) ((aa20 0 (by decide)).trans ((aa13 0 (by decide)).trans ((aa7 0 (by decide)).trans g0))) rfl inA8 8 (by decide) rfl kf_X8_62 rfl dX8_play_51 ?_
    refine G_get C 38 (by decide) ((aa20 38 (by decide)).trans ((aa13 38 (by decide)).trans hh4)) rfl inA7 2 (by decide) rfl kf_X8_232 rfl dX8_play_54 ?_
    refine GW.widen (c1 := 1) (s1 := 6) (by decide) (by decide) ?_
    exact G_zret C hr rfl dX8_play_57 ⟨rfl, it0 c15, hZ, ((aa20 38 (by decide)).trans ((aa13 38 (by decide)).trans hh4)), ((aa20 24 (by decide)).trans ((aa13 24 (by decide)).trans hh5)), ((aa20 25 (by decide)).trans ((aa13 25 (by decide)).trans hh6)), hh18, hh19, (AA21.wk (by simp))⟩
  · exact G_throw C hx th_ISE (text := "the text has a fault") (by decide) dX8_play_18 dX8_play_21 dX8_play_22 dX8_play_24 dX8_play_27 (by decide) (by decide) (by decide) (by decide) (⟨rfl, it1 c15, hh4, hh5, hh6, AA8⟩)

