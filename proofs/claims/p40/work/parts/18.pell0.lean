abbrev rm_X8_requireNumber : Room := ({ frames := 6, cells := 1, slots := 6, locals := 82 } : Room)
set_option maxRecDepth 100000 in
set_option maxHeartbeats 4000000 in
theorem c_X8_requireNumber {L : GL} {ad : Nat → Nat} {G : Nat → va_E} {n : Int32}    : GX L yX8_requireNumber cX8_requireNumber 1 (none) rm_X8_requireNumber 40 ad G [.int n] (fun vo G' => vo = none ∧ (¬ numF n = 0) ∧ G = G') (fun e G2 => e = eIAE ∧ numF n = 0 ∧ G = G2) := by
  refine GX.of (own := RX8) (lo := [(0, .int n)]) (by decide +kernel) rfl rfl (Nat.le_of_ble_eq_true rfl) (fun E C hr hx => ?_)
  refine G_iload_n C 0 dX8_requireNumber_0 rfl rfl ?_
  refine G_callS C (As := [.int n]) (rest := []) c_X8_isNumber ca_X8_isNumber km_X8_235 rfl rfl (by decide) (Nat.le_of_ble_eq_true rfl) (by decide) dX8_requireNumber_1 (fun vv1 gg2 qq3 => ?_)
  obtain ⟨rfl, rfl⟩ := qq3
  refine G_if_ne C 17 dX8_requireNumber_4 (by decide) (fun c4 => ?_) (fun c4 => ?_)
  · refine GW.widen (c1 := 1) (s1 := 6) (by decide) (by decide) ?_
    exact G_vret C hr dX8_requireNumber_17 ⟨rfl, c4, rfl⟩
  · exact G_throw C hx th_IAE (text := "the number is not from 2 to 60") (by decide) dX8_requireNumber_7 dX8_requireNumber_10 dX8_requireNumber_11 dX8_requireNumber_13 dX8_requireNumber_16 (by decide) (by decide) (by decide) (by decide) (⟨rfl, c4, rfl⟩)

abbrev rm_X8_requireRoot : Room := ({ frames := 7, cells := 2, slots := 12, locals := 102 } : Room)
set_option maxRecDepth 100000 in
set_option maxHeartbeats 4000000 in
theorem c_X8_requireRoot {L : GL} {ad : Nat → Nat} {G : Nat → va_E} {sn : Int32} {n : Int32}  (g0 : G 0 = .inr (8, [.ref (ad 1), .ref (ad 8), .ref (ad 9), .ref (ad 19), .ref (ad 22), .ref (ad 24), .ref (ad 26), .ref (ad 28), .ref (ad 38), .int sn])) (g1 : G 1 = .inr (4, [.ref (ad 2), .ref (ad 3), .ref (ad 4), .ref (ad 5), .ref (ad 6)])) (g3 : G 3 = .inl (L.ac 0, 61, .inl tPer))  : GX L yX8_requireRoot cX8_requireRoot 2 (none) rm_X8_requireRoot 40 ad G [.ref (ad 0), .int n] (fun vo G' => vo = none ∧ (¬ numF n = 0) ∧ (sqF n = 0) ∧ G = G') (fun e G2 => ((e = eIAE ∧ numF n = 0) ∨ (e = eNSE ∧ ¬ numF n = 0 ∧ ¬ sqF n = 0)) ∧ G = G2) := by
  refine GX.of (own := RX8) (lo := [(0, .ref (ad 0)), (1, .int n)]) (by decide +kernel) rfl rfl (Nat.le_of_ble_eq_true rfl) (fun E C hr hx => ?_)
  refine G_iload_n C 1 dX8_requireRoot_0 rfl rfl ?_
  refine G_callSX C (As := [.int n]) (rest := []) c_X8_requireNumber ca_X8_requireNumber km_X8_86 rfl rfl (by decide) (Nat.le_of_ble_eq_true rfl) (by decide) dX8_requireRoot_1 hx (by decide) (fun e G2 h => ⟨Or.inl ⟨h.1, h.2.1⟩, h.2.2⟩) (fun vv1 gg2 qq3 => ?_)
  obtain ⟨rfl, pp4, rfl⟩ := qq3
  refine G_aload_n C 0 dX8_requireRoot_4 rfl rfl ?_
  refine G_get C 0 (by decide) g0 rfl inA8 0 (by decide) rfl kf_X8_12 rfl dX8_requireRoot_5 ?_
  refine G_iload_n C 1 dX8_requireRoot_8 rfl rfl ?_
  refine G_callV C (As := [.int n]) (rest := []) (c_X4_isSquare (by decide) (by decide) g1 g3) ca_X4_isSquare km_X8_240 (by decide) g1 rfl rfl rfl rfl (by decide) (Nat.le_of_ble_eq_true rfl) (by decide) dX8_requireRoot_9 (fun vv5 gg6 qq7 => ?_)
  obtain ⟨rfl, rfl⟩ := qq7
  refine G_if_eq C 25 dX8_requireRoot_12 (by decide) (fun c12 => ?_) (fun c12 => ?_)
  · refine GW.widen (c1 := 2) (s1 := 12) (by decide) (by decide) ?_
    exact G_vret C hr dX8_requireRoot_25 ⟨rfl, pp4, c12, rfl⟩
  · exact G_throwX C hx th_NSE (text := "the number is a square") (by decide) dX8_requireRoot_15 dX8_requireRoot_18 dX8_requireRoot_19 dX8_requireRoot_21 dX8_requireRoot_24 (by decide) (by decide) (by decide) (by decide) (⟨Or.inr ⟨rfl, pp4, c12⟩, rfl⟩)

abbrev rm_X8_requireLaid : Room := ({ frames := 7, cells := 2, slots := 12, locals := 102 } : Room)
set_option maxRecDepth 100000 in
set_option maxHeartbeats 4000000 in
theorem c_X8_requireLaid {L : GL} {ad : Nat → Nat} {G : Nat → va_E} {sn : Int32} {l ml : Int32} {f : Nat → Int32} {n : Int32}  (g0 : G 0 = .inr (8, [.ref (ad 1), .ref (ad 8), .ref (ad 9), .ref (ad 19), .ref (ad 22), .ref (ad 24), .ref (ad 26), .ref (ad 28), .ref (ad 38), .int sn])) (g22 : G 22 = .inr (5, [.ref (ad 1), .ref (ad 23), .int l, .int ml])) (g23 : G 23 = .inl (L.ac 0, 61, .inl f))  : GX L yX8_requireLaid cX8_requireLaid 2 (none) rm_X8_requireLaid 40 ad G [.ref (ad 0), .int n] (fun vo G' => vo = none ∧ (¬ numF n = 0) ∧ (¬ hasF f n = 0) ∧ G = G') (fun e G2 => ((e = eIAE ∧ numF n = 0) ∨ (e = eNSE ∧ ¬ numF n = 0 ∧ hasF f n = 0)) ∧ G = G2) := by
  refine GX.of (own := RX8) (lo := [(0, .ref (ad 0)), (1, .int n)]) (by decide +kernel) rfl rfl (Nat.le_of_ble_eq_true rfl) (fun E C hr hx => ?_)
  refine G_iload_n C 1 dX8_requireLaid_0 rfl rfl ?_
  refine G_callSX C (As := [.int n]) (rest := []) c_X8_requireNumber ca_X8_requireNumber km_X8_86 rfl rfl (by decide) (Nat.le_of_ble_eq_true rfl) (by decide) dX8_requireLaid_1 hx (by decide) (fun e G2 h => ⟨Or.inl ⟨h.1, h.2.1⟩, h.2.2⟩) (fun vv1 gg2 qq3 => ?_)
  obtain ⟨rfl, pp4, rfl⟩ := qq3
  refine G_aload_n C 0 dX8_requireLaid_4 rfl rfl ?_
  refine G_get C 0 (by decide) g0 rfl inA8 4 (by decide) rfl kf_X8_42 rfl dX8_requireLaid_5 ?_
  refine G_iload_n C 1 dX8_requireLaid_8 rfl rfl ?_
  refine G_callV C (As := [.int n]) (rest := []) (c_X5_has (by decide) (by decide) g22 g23) ca_X5_has km_X8_122 (by decide) g22 rfl rfl rfl rfl (by decide) (Nat.le_of_ble_eq_true rfl) (by decide) dX8_requireLaid_9 (fun vv5 gg6 qq7 => ?_)
  obtain ⟨rfl, rfl⟩ := qq7
  refine G_if_ne C 25 dX8_requireLaid_12 (by decide) (fun c12 => ?_) (fun c12 => ?_)
  · refine GW.widen (c1 := 2) (s1 := 12) (by decide) (by decide) ?_
    exact G_vret C hr dX8_requireLaid_25 ⟨rfl, pp4, c12, rfl⟩
  · exact G_throwX C hx th_NSE (text := "the stone is not laid") (by decide) dX8_requireLaid_15 dX8_requireLaid_18 dX8_requireLaid_19 dX8_requireLaid_21 dX8_requireLaid_24 (by decide) (by decide) (by decide) (by decide) (⟨Or.inr ⟨rfl, pp4, c12⟩, rfl⟩)

abbrev rm_X8_periodOf : Room := ({ frames := 8, cells := 2, slots := 12, locals := 123 } : Room)
set_option maxRecDepth 100000 in
set_option maxHeartbeats 4000000 in
theorem c_X8_periodOf {L : GL} {ad : Nat → Nat} {G : Nat → va_E} {sn : Int32} {n : Int32}  (g0 : G 0 = .inr (8, [.ref (ad 1), .ref (ad 8), .ref (ad 9), .ref (ad 19), .ref (ad 22), .ref (ad 24), .ref (ad 26), .ref (ad 28), .ref (ad 38), .int sn])) (g1 : G 1 = .inr (4, [.ref (ad 2), .ref (ad 3), .ref (ad 4), .ref (ad 5), .ref (ad 6)])) (g3 : G 3 = .inl (L.ac 0, 61, .inl tPer))  : GX L yX8_periodOf cX8_periodOf 2 ((some .int)) rm_X8_periodOf 40 ad G [.ref (ad 0), .int n] (fun vo G' => vo = some (.int (tabF tPer n)) ∧ (¬ numF n = 0) ∧ (sqF n = 0) ∧ G = G') (fun e G2 => ((e = eIAE ∧ numF n = 0) ∨ (e = eNSE ∧ ¬ numF n = 0 ∧ ¬ sqF n = 0)) ∧ G = G2) := by
  refine GX.of (own := RX8) (lo := [(0, .ref (ad 0)), (1, .int n)]) (by decide +kernel) rfl rfl (Nat.le_of_ble_eq_true rfl) (fun E C hr hx => ?_)
  refine G_aload_n C 0 dX8_periodOf_0 rfl rfl ?_
  refine G_iload_n C 1 dX8_periodOf_1 rfl rfl ?_
  refine G_callVX C (As := [.int n]) (rest := []) (c_X8_requireRoot g0 g1 g3) ca_X8_requireRoot km_X8_93 (by decide) g0 rfl rfl rfl rfl (by decide) (Nat.le_of_ble_eq_true rfl) (by decide) dX8_periodOf_2 hx (by decide) (fun e G2 h => h) (fun vv1 gg2 qq3 => ?_)
  obtain ⟨rfl, pp4, pp5, rfl⟩ := qq3
  refine G_aload_n C 0 dX8_periodOf_5 rfl rfl ?_
  refine G_get C 0 (by decide) g0 rfl inA8 0 (by decide) rfl kf_X8_12 rfl dX8_periodOf_6 ?_
  refine G_iload_n C 1 dX8_periodOf_9 rfl rfl ?_
  refine G_callV C (As := [.int n]) (rest := []) (c_X4_period (by decide) (by decide) g1 g3) ca_X4_period km_X8_96 (by decide) g1 rfl rfl rfl rfl (by decide) (Nat.le_of_ble_eq_true rfl) (by decide) dX8_periodOf_10 (fun vv6 gg7 qq8 => ?_)
  obtain ⟨rfl, rfl⟩ := qq8
  refine GW.widen (c1 := 2) (s1 := 12) (by decide) (by decide) ?_
  exact G_zret C hr rfl dX8_periodOf_13 ⟨rfl, pp4, pp5, rfl⟩

abbrev rm_X8_unitX : Room := ({ frames := 8, cells := 2, slots := 12, locals := 123 } : Room)
set_option maxRecDepth 100000 in
set_option maxHeartbeats 4000000 in
theorem c_X8_unitX {L : GL} {ad : Nat → Nat} {G : Nat → va_E} {sn : Int32} {n : Int32}  (g0 : G 0 = .inr (8, [.ref (ad 1), .ref (ad 8), .ref (ad 9), .ref (ad 19), .ref (ad 22), .ref (ad 24), .ref (ad 26), .ref (ad 28), .ref (ad 38), .int sn])) (g1 : G 1 = .inr (4, [.ref (ad 2), .ref (ad 3), .ref (ad 4), .ref (ad 5), .ref (ad 6)])) (g3 : G 3 = .inl (L.ac 0, 61, .inl tPer)) (g4 : G 4 = .inl (L.ac 0, 61, .inl tUx))  : GX L yX8_unitX cX8_unitX 2 ((some .int)) rm_X8_unitX 40 ad G [.ref (ad 0), .int n] (fun vo G' => vo = some (.int (tabF tUx n)) ∧ (¬ numF n = 0) ∧ (sqF n = 0) ∧ G = G') (fun e G2 => ((e = eIAE ∧ numF n = 0) ∨ (e = eNSE ∧ ¬ numF n = 0 ∧ ¬ sqF n = 0)) ∧ G = G2) := by
  refine GX.of (own := RX8) (lo := [(0, .ref (ad 0)), (1, .int n)]) (by decide +kernel) rfl rfl (Nat.le_of_ble_eq_true rfl) (fun E C hr hx => ?_)
  refine G_aload_n C 0 dX8_unitX_0 rfl rfl ?_
  refine G_iload_n C 1 dX8_unitX_1 rfl rfl ?_
  refine G_callVX C (As := [.int n]) (rest := []) (c_X8_requireRoot g0 g1 g3) ca_X8_requireRoot km_X8_93 (by decide) g0 rfl rfl rfl rfl (by decide) (Nat.le_of_ble_eq_true rfl) (by decide) dX8_unitX_2 hx (by decide) (fun e G2 h => h) (fun vv1 gg2 qq3 => ?_)
  obtain ⟨rfl, pp4, pp5, rfl⟩ := qq3
  refine G_aload_n C 0 dX8_unitX_5 rfl rfl ?_
  refine G_get C 0 (by decide) g0 rfl inA8 0 (by decide) rfl kf_X8_12 rfl dX8_unitX_6 ?_
  refine G_iload_n C 1 dX8_unitX_9 rfl rfl ?_
  refine G_callV C (As := [.int n]) (rest := []) (c_X4_xOfUnit (by decide) (by decide) g1 g4) ca_X4_xOfUnit km_X8_110 (by decide) g1 rfl rfl rfl rfl (by decide) (Nat.le_of_ble_eq_true rfl) (by decide) dX8_unitX_10 (fun vv6 gg7 qq8 => ?_)
  obtain ⟨rfl, rfl⟩ := qq8
  refine GW.widen (c1 := 2) (s1 := 12) (by decide) (by decide) ?_
  exact G_zret C hr rfl dX8_unitX_13 ⟨rfl, pp4, pp5, rfl⟩

abbrev rm_X8_unitY : Room := ({ frames := 8, cells := 2, slots := 12, locals := 123 } : Room)
set_option maxRecDepth 100000 in
set_option maxHeartbeats 4000000 in
theorem c_X8_unitY {L : GL} {ad : Nat → Nat} {G : Nat → va_E} {sn : Int32} {n : Int32}  (g0 : G 0 = .inr (8, [.ref (ad 1), .ref (ad 8), .ref (ad 9), .ref (ad 19), .ref (ad 22), .ref (ad 24), .ref (ad 26), .ref (ad 28), .ref (ad 38), .int sn])) (g1 : G 1 = .inr (4, [.ref (ad 2), .ref (ad 3), .ref (ad 4), .ref (ad 5), .ref (ad 6)])) (g3 : G 3 = .inl (L.ac 0, 61, .inl tPer)) (g5 : G 5 = .inl (L.ac 0, 61, .inl tUy))  : GX L yX8_unitY cX8_unitY 2 ((some .int)) rm_X8_unitY 40 ad G [.ref (ad 0), .int n] (fun vo G' => vo = some (.int (tabF tUy n)) ∧ (¬ numF n = 0) ∧ (sqF n = 0) ∧ G = G') (fun e G2 => ((e = eIAE ∧ numF n = 0) ∨ (e = eNSE ∧ ¬ numF n = 0 ∧ ¬ sqF n = 0)) ∧ G = G2) := by
  refine GX.of (own := RX8) (lo := [(0, .ref (ad 0)), (1, .int n)]) (by decide +kernel) rfl rfl (Nat.le_of_ble_eq_true rfl) (fun E C hr hx => ?_)
  refine G_aload_n C 0 dX8_unitY_0 rfl rfl ?_
  refine G_iload_n C 1 dX8_unitY_1 rfl rfl ?_
  refine G_callVX C (As := [.int n]) (rest := []) (c_X8_requireRoot g0 g1 g3) ca_X8_requireRoot km_X8_93 (by decide) g0 rfl rfl rfl rfl (by decide) (Nat.le_of_ble_eq_true rfl) (by decide) dX8_unitY_2 hx (by decide) (fun e G2 h => h) (fun vv1 gg2 qq3 => ?_)
  obtain ⟨rfl, pp4, pp5, rfl⟩ := qq3
  refine G_aload_n C 0 dX8_unitY_5 rfl rfl ?_
  refine G_get C 0 (by decide) g0 rfl inA8 0 (by decide) rfl kf_X8_12 rfl dX8_unitY_6 ?_
  refine G_iload_n C 1 dX8_unitY_9 rfl rfl ?_
  refine G_callV C (As := [.int n]) (rest := []) (c_X4_yOfUnit (by decide) (by decide) g1 g5) ca_X4_yOfUnit km_X8_113 (by decide) g1 rfl rfl rfl rfl (by decide) (Nat.le_of_ble_eq_true rfl) (by decide) dX8_unitY_10 (fun vv6 gg7 qq8 => ?_)
  obtain ⟨rfl, rfl⟩ := qq8
  refine GW.widen (c1 := 2) (s1 := 12) (by decide) (by decide) ?_
  exact G_zret C hr rfl dX8_unitY_13 ⟨rfl, pp4, pp5, rfl⟩

abbrev rm_X8_leastY : Room := ({ frames := 8, cells := 2, slots := 12, locals := 123 } : Room)
set_option maxRecDepth 100000 in
set_option maxHeartbeats 4000000 in
theorem c_X8_leastY {L : GL} {ad : Nat → Nat} {G : Nat → va_E} {sn : Int32} {n : Int32}  (g0 : G 0 = .inr (8, [.ref (ad 1), .ref (ad 8), .ref (ad 9), .ref (ad 19), .ref (ad 22), .ref (ad 24), .ref (ad 26), .ref (ad 28), .ref (ad 38), .int sn])) (g1 : G 1 = .inr (4, [.ref (ad 2), .ref (ad 3), .ref (ad 4), .ref (ad 5), .ref (ad 6)])) (g3 : G 3 = .inl (L.ac 0, 61, .inl tPer)) (g4 : G 4 = .inl (L.ac 0, 61, .inl tUx)) (g5 : G 5 = .inl (L.ac 0, 61, .inl tUy))  : GX L yX8_leastY cX8_leastY 4 ((some .int)) rm_X8_leastY 40 ad G [.ref (ad 0), .int n] (fun vo G' => vo = some (.int (if sgF n = 1 then tabF tUy n else 2 * tabF tUx n * tabF tUy n)) ∧ (¬ numF n = 0) ∧ (sqF n = 0) ∧ G = G') (fun e G2 => ((e = eIAE ∧ numF n = 0) ∨ (e = eNSE ∧ ¬ numF n = 0 ∧ ¬ sqF n = 0)) ∧ G = G2) := by
  refine GX.of (own := RX8) (lo := [(0, .ref (ad 0)), (1, .int n)]) (by decide +kernel) rfl rfl (Nat.le_of_ble_eq_true rfl) (fun E C hr hx => ?_)
  refine G_aload_n C 0 dX8_leastY_0 rfl rfl ?_
  refine G_iload_n C 1 dX8_leastY_1 rfl rfl ?_
  refine G_callVX C (As := [.int n]) (rest := []) (c_X8_requireRoot g0 g1 g3) ca_X8_requireRoot km_X8_93 (by decide) g0 rfl rfl rfl rfl (by decide) (Nat.le_of_ble_eq_true rfl) (by decide) dX8_leastY_2 hx (by decide) (fun e G2 h => h) (fun vv1 gg2 qq3 => ?_)
  obtain ⟨rfl, pp4, pp5, rfl⟩ := qq3
  refine G_aload_n C 0 dX8_leastY_5 rfl rfl ?_
  refine G_get C 0 (by decide) g0 rfl inA8 0 (by decide) rfl kf_X8_12 rfl dX8_leastY_6 ?_
  refine G_iload_n C 1 dX8_leastY_9 rfl rfl ?_
  refine G_callV C (As := [.int n]) (rest := []) (c_X4_xOfUnit (by decide) (by decide) g1 g4) ca_X4_xOfUnit km_X8_110 (by decide) g1 rfl rfl rfl rfl (by decide) (Nat.le_of_ble_eq_true rfl) (by decide) dX8_leastY_10 (fun vv6 gg7 qq8 => ?_)
  obtain ⟨rfl, rfl⟩ := qq8
  refine G_istore_n C 2 (lo' := [(2, .int (tabF tUx n)), (0, .ref (ad 0)), (1, .int n)]) dX8_leastY_13 rfl (by decide) rfl ?_
  refine G_aload_n C 0 dX8_leastY_14 rfl rfl ?_
  refine G_get C 0 (by decide) g0 rfl inA8 0 (by decide) rfl kf_X8_12 rfl dX8_leastY_15 ?_
  refine G_iload_n C 1 dX8_leastY_18 rfl rfl ?_
  refine G_callV C (As := [.int n]) (rest := []) (c_X4_yOfUnit (by decide) (by decide) g1 g5) ca_X4_yOfUnit km_X8_113 (by decide) g1 rfl rfl rfl rfl (by decide) (Nat.le_of_ble_eq_true rfl) (by decide) dX8_leastY_19 (fun vv9 gg10 qq11 => ?_)
  obtain ⟨rfl, rfl⟩ := qq11
  refine G_istore_n C 3 (lo' := [(3, .int (tabF tUy n)), (2, .int (tabF tUx n)), (0, .ref (ad 0)), (1, .int n)]) dX8_leastY_22 rfl (by decide) rfl ?_
  refine G_aload_n C 0 dX8_leastY_23 rfl rfl ?_
  refine G_get C 0 (by decide) g0 rfl inA8 0 (by decide) rfl kf_X8_12 rfl dX8_leastY_24 ?_
  refine G_iload_n C 1 dX8_leastY_27 rfl rfl ?_
  refine G_callV C (As := [.int n]) (rest := []) (c_X4_signOfUnit (by decide) (by decide) g1 g3) ca_X4_signOfUnit km_X8_116 (by decide) g1 rfl rfl rfl rfl (by decide) (Nat.le_of_ble_eq_true rfl) (by decide) dX8_leastY_28 (fun vv12 gg13 qq14 => ?_)
  obtain ⟨rfl, rfl⟩ := qq14
  refine G_iconst C (v := 1) dX8_leastY_31 (by decide) ?_
  refine G_icmp_ne C 39 dX8_leastY_32 (by decide) (fun c32 => ?_) (fun c32 => ?_)
  · refine G_iconst C (v := 2) dX8_leastY_39 (by decide) ?_
    refine G_iload_n C 2 dX8_leastY_40 rfl rfl ?_
    refine G_imul C dX8_leastY_41 ?_
    refine G_iload_n C 3 dX8_leastY_42 rfl rfl ?_
    refine G_imul C dX8_leastY_43 ?_
    refine GW.widen (c1 := 2) (s1 := 12) (by decide) (by decide) ?_
    exact G_zret C hr rfl dX8_leastY_44 ⟨(by simp only [if_neg c32]), pp4, pp5, rfl⟩
  · refine G_iload_n C 3 dX8_leastY_35 rfl rfl ?_
    refine G_goto C 44 dX8_leastY_36 (by decide) ?_
    refine GW.widen (c1 := 2) (s1 := 12) (by decide) (by decide) ?_
    exact G_zret C hr rfl dX8_leastY_44 ⟨(by simp only [if_pos c32]), pp4, pp5, rfl⟩

theorem tq_neg {n : Int32} (h : ¬ n < 0) (h9 : n ≤ 99) : ∃ q, q ≤ 99 ∧ n = nI q := nI_of2 rfl h h9
theorem GW.loe {L : GL} {E : GE} {N cs ss pc : Nat} {ad : Nat → Nat} {G : Nat → va_E} {lo : List (Nat × Value)} {st : List Value} (lo' : List (Nat × Value)) (h : lo = lo') (k : GW L E N ad G cs ss pc lo' st) : GW L E N ad G cs ss pc lo st := h ▸ k
theorem GW.top2r {L : GL} {E : GE} {N cs ss pc : Nat} {ad : Nat → Nat} {G : Nat → va_E} {lo : List (Nat × Value)} {st : List Value} {x y x2 y2 : Int32} (h : x = y) (h2 : x2 = y2) (k : GW L E N ad G cs ss pc lo (.int y :: .int y2 :: st)) : GW L E N ad G cs ss pc lo (.int x :: .int x2 :: st) := h ▸ h2 ▸ k
abbrev rm_X8_termAt : Room := ({ frames := 8, cells := 2, slots := 12, locals := 123 } : Room)
set_option maxRecDepth 100000 in
set_option maxHeartbeats 4000000 in
theorem c_X8_termAt {L : GL} {ad : Nat → Nat} {G : Nat → va_E} {sn : Int32} {t1 t2 t3 t4 t5 : Int32} {n pl : Int32}  (g0 : G 0 = .inr (8, [.ref (ad 1), .ref (ad 8), .ref (ad 9), .ref (ad 19), .ref (ad 22), .ref (ad 24), .ref (ad 26), .ref (ad 28), .ref (ad 38), .int sn])) (g1 : G 1 = .inr (4, [.ref (ad 2), .ref (ad 3), .ref (ad 4), .ref (ad 5), .ref (ad 6)])) (g2 : G 2 = .inr (6, [.int t1, .int t2, .int t3, .int t4, .int t5])) (g3 : G 3 = .inl (L.ac 0, 61, .inl tPer))  : GX L yX8_termAt cX8_termAt 3 ((some .int)) rm_X8_termAt 40 ad G [.ref (ad 0), .int n, .int pl] (fun vo G' => ∃ (d : Nat) (p : Nat), vo = some (.int ((tsq d p).2.2)) ∧ (n = nI d) ∧ (2 ≤ d) ∧ (d ≤ 60) ∧ (pl = nI p) ∧ (p ≤ 99) ∧ (sqF n = 0) ∧ Agr [2] G G') (fun e G2 => ((e = eIAE ∧ (pl < 0 ∨ ¬ pl ≤ 99)) ∨ (¬ pl < 0 ∧ pl ≤ 99 ∧ ((e = eIAE ∧ numF n = 0) ∨ (e = eNSE ∧ ¬ numF n = 0 ∧ ¬ sqF n = 0)))) ∧ G = G2) := by
  refine GX.of (own := RX8) (lo := [(0, .ref (ad 0)), (1, .int n), (2, .int pl)]) (by decide +kernel) rfl rfl (Nat.le_of_ble_eq_true rfl) (fun E C hr hx => ?_)
  refine G_iload_n C 2 dX8_termAt_0 rfl rfl ?_
  refine G_if_lt C 10 dX8_termAt_1 (by decide) (fun c1 => ?_) (fun c1 => ?_)
  · exact G_throw C hx th_IAE (text := "the place is not from 0 to 99") (by decide) dX8_termAt_10 dX8_termAt_13 dX8_termAt_14 dX8_termAt_16 dX8_termAt_19 (by decide) (by decide) (by decide) (by decide) (⟨Or.inl ⟨rfl, Or.inl c1⟩, rfl⟩)
  · refine G_iload_n C 2 dX8_termAt_4 rfl rfl ?_
    refine G_bipush C (v := 99) dX8_termAt_5 (by decide) ?_
    refine G_icmp_le C 20 dX8_termAt_7 (by decide) (fun c7 => ?_) (fun c7 => ?_)
    · refine G_aload_n C 0 dX8_termAt_20 rfl rfl ?_
      refine G_iload_n C 1 dX8_termAt_21 rfl rfl ?_
      refine G_callVX C (As := [.int n]) (rest := []) (c_X8_requireRoot g0 g1 g3) ca_X8_requireRoot km_X8_93 (by decide) g0 rfl rfl rfl rfl (by decide) (Nat.le_of_ble_eq_true rfl) (by decide) dX8_termAt_22 hx (by decide) (fun e G2 h => ⟨Or.inr ⟨c1, c7, h.1⟩, h.2⟩) (fun vv1 gg2 qq3 => ?_)
      obtain ⟨rfl, pp4, pp5, rfl⟩ := qq3
      obtain ⟨dd, hd2, hd60, hdn⟩ := num_nat pp4
      obtain ⟨pp, hp99, hpn⟩ := tq_neg c1 c7
      refine G_aload_n C 0 dX8_termAt_25 rfl rfl ?_
      refine G_get C 0 (by decide) g0 rfl inA8 0 (by decide) rfl kf_X8_12 rfl dX8_termAt_26 ?_
      refine G_iload_n C 1 dX8_termAt_29 rfl rfl ?_
      refine G_iload_n C 2 dX8_termAt_30 rfl rfl ?_
      refine GW.top2r (y := nI pp) (y2 := nI dd) hpn hdn ?_
      refine G_callV C (As := [.int (nI dd), .int (nI pp)]) (rest := []) (c_X4_term (by decide) (by decide) g1 g2 hd2 hd60 hp99) ca_X4_term km_X8_106 (by decide) g1 rfl rfl rfl rfl (by decide) (Nat.le_of_ble_eq_true rfl) (by decide) dX8_termAt_31 (fun vv6 gg7 qq8 => ?_)
      obtain ⟨rfl, aa9⟩ := qq8
      have AA10 : Agr [2] G gg7 := aa9.wk (by simp)
      refine GW.widen (c1 := 2) (s1 := 12) (by decide) (by decide) ?_
      exact G_zret C hr rfl dX8_termAt_34 ⟨_, _, rfl, hdn, hd2, hd60, hpn, hp99, pp5, AA10⟩
    · exact G_throw C hx th_IAE (text := "the place is not from 0 to 99") (by decide) dX8_termAt_10 dX8_termAt_13 dX8_termAt_14 dX8_termAt_16 dX8_termAt_19 (by decide) (by decide) (by decide) (by decide) (⟨Or.inl ⟨rfl, Or.inr c7⟩, rfl⟩)

abbrev rm_X8_whyNot : Room := ({ frames := 7, cells := 1, slots := 6, locals := 102 } : Room)
set_option maxRecDepth 100000 in
set_option maxHeartbeats 4000000 in
theorem c_X8_whyNot {L : GL} {ad : Nat → Nat} {G : Nat → va_E} {sn : Int32} {l ml : Int32} {f : Nat → Int32} {n : Int32}  (g0 : G 0 = .inr (8, [.ref (ad 1), .ref (ad 8), .ref (ad 9), .ref (ad 19), .ref (ad 22), .ref (ad 24), .ref (ad 26), .ref (ad 28), .ref (ad 38), .int sn])) (g1 : G 1 = .inr (4, [.ref (ad 2), .ref (ad 3), .ref (ad 4), .ref (ad 5), .ref (ad 6)])) (g3 : G 3 = .inl (L.ac 0, 61, .inl tPer)) (g22 : G 22 = .inr (5, [.ref (ad 1), .ref (ad 23), .int l, .int ml])) (g23 : G 23 = .inl (L.ac 0, 61, .inl f))  : GX L yX8_whyNot cX8_whyNot 2 ((some .int)) rm_X8_whyNot 40 ad G [.ref (ad 0), .int n] (fun vo G' => vo = some (.int (rsnF f l n)) ∧ (¬ numF n = 0) ∧ G = G') (fun e G2 => e = eIAE ∧ numF n = 0 ∧ G = G2) := by
  refine GX.of (own := RX8) (lo := [(0, .ref (ad 0)), (1, .int n)]) (by decide +kernel) rfl rfl (Nat.le_of_ble_eq_true rfl) (fun E C hr hx => ?_)
  refine G_iload_n C 1 dX8_whyNot_0 rfl rfl ?_
  refine G_callSX C (As := [.int n]) (rest := []) c_X8_requireNumber ca_X8_requireNumber km_X8_86 rfl rfl (by decide) (Nat.le_of_ble_eq_true rfl) (by decide) dX8_whyNot_1 hx (by decide) (fun e G2 h => h) (fun vv1 gg2 qq3 => ?_)
  obtain ⟨rfl, pp4, rfl⟩ := qq3
  refine G_aload_n C 0 dX8_whyNot_4 rfl rfl ?_
  refine G_get C 0 (by decide) g0 rfl inA8 4 (by decide) rfl kf_X8_42 rfl dX8_whyNot_5 ?_
  refine G_iload_n C 1 dX8_whyNot_8 rfl rfl ?_
  refine G_callV C (As := [.int n]) (rest := []) (c_X5_reasonAgainstLaying (by decide) (by decide) (by decide) (by decide) g22 g23 g1 g3) ca_X5_reasonAgainstLaying km_X8_90 (by decide) g22 rfl rfl rfl rfl (by decide) (Nat.le_of_ble_eq_true rfl) (by decide) dX8_whyNot_9 (fun vv5 gg6 qq7 => ?_)
  obtain ⟨rfl, rfl⟩ := qq7
  refine GW.widen (c1 := 1) (s1 := 6) (by decide) (by decide) ?_
  exact G_zret C hr rfl dX8_whyNot_12 ⟨rfl, pp4, rfl⟩

abbrev rm_X8_isLaid : Room := ({ frames := 7, cells := 1, slots := 6, locals := 102 } : Room)
set_option maxRecDepth 100000 in
set_option maxHeartbeats 4000000 in
theorem c_X8_isLaid {L : GL} {ad : Nat → Nat} {G : Nat → va_E} {sn : Int32} {l ml : Int32} {f : Nat → Int32} {n : Int32}  (g0 : G 0 = .inr (8, [.ref (ad 1), .ref (ad 8), .ref (ad 9), .ref (ad 19), .ref (ad 22), .ref (ad 24), .ref (ad 26), .ref (ad 28), .ref (ad 38), .int sn])) (g22 : G 22 = .inr (5, [.ref (ad 1), .ref (ad 23), .int l, .int ml])) (g23 : G 23 = .inl (L.ac 0, 61, .inl f))  : GX L yX8_isLaid cX8_isLaid 2 ((some .boolean)) rm_X8_isLaid 40 ad G [.ref (ad 0), .int n] (fun vo G' => vo = some (.int (hasF f n)) ∧ (¬ numF n = 0) ∧ G = G') (fun e G2 => e = eIAE ∧ numF n = 0 ∧ G = G2) := by
  refine GX.of (own := RX8) (lo := [(0, .ref (ad 0)), (1, .int n)]) (by decide +kernel) rfl rfl (Nat.le_of_ble_eq_true rfl) (fun E C hr hx => ?_)
  refine G_iload_n C 1 dX8_isLaid_0 rfl rfl ?_
  refine G_callSX C (As := [.int n]) (rest := []) c_X8_requireNumber ca_X8_requireNumber km_X8_86 rfl rfl (by decide) (Nat.le_of_ble_eq_true rfl) (by decide) dX8_isLaid_1 hx (by decide) (fun e G2 h => h) (fun vv1 gg2 qq3 => ?_)
  obtain ⟨rfl, pp4, rfl⟩ := qq3
  refine G_aload_n C 0 dX8_isLaid_4 rfl rfl ?_
  refine G_get C 0 (by decide) g0 rfl inA8 4 (by decide) rfl kf_X8_42 rfl dX8_isLaid_5 ?_
  refine G_iload_n C 1 dX8_isLaid_8 rfl rfl ?_
  refine G_callV C (As := [.int n]) (rest := []) (c_X5_has (by decide) (by decide) g22 g23) ca_X5_has km_X8_122 (by decide) g22 rfl rfl rfl rfl (by decide) (Nat.le_of_ble_eq_true rfl) (by decide) dX8_isLaid_9 (fun vv5 gg6 qq7 => ?_)
  obtain ⟨rfl, rfl⟩ := qq7
  refine GW.widen (c1 := 1) (s1 := 6) (by decide) (by decide) ?_
  exact G_zret C hr (by rw [hasF]; split <;> rfl) dX8_isLaid_12 ⟨rfl, pp4, rfl⟩

abbrev rm_X8_stones : Room := ({ frames := 0, cells := 0, slots := 0, locals := 0 } : Room)
set_option maxRecDepth 100000 in
set_option maxHeartbeats 4000000 in
theorem c_X8_stones {L : GL} {ad : Nat → Nat} {G : Nat → va_E} {sn : Int32} {l ml : Int32}  (g0 : G 0 = .inr (8, [.ref (ad 1), .ref (ad 8), .ref (ad 9), .ref (ad 19), .ref (ad 22), .ref (ad 24), .ref (ad 26), .ref (ad 28), .ref (ad 38), .int sn])) (g22 : G 22 = .inr (5, [.ref (ad 1), .ref (ad 23), .int l, .int ml]))  : GM L yX8_stones cX8_stones 1 ((some .int)) rm_X8_stones 40 ad G [.ref (ad 0)] (fun vo G' => vo = some (.int l) ∧ G = G') := by
  refine GM.of (own := RX8) (lo := [(0, .ref (ad 0))]) (by decide +kernel) rfl rfl (Nat.le_of_ble_eq_true rfl) (fun E C hr => ?_)
  refine G_aload_n C 0 dX8_stones_0 rfl rfl ?_
  refine G_get C 0 (by decide) g0 rfl inA8 4 (by decide) rfl kf_X8_42 rfl dX8_stones_1 ?_
  refine G_get C 22 (by decide) g22 rfl inA5 2 (by decide) rfl kf_X8_70 rfl dX8_stones_4 ?_
  exact G_zret C hr rfl dX8_stones_7 ⟨rfl, rfl⟩

abbrev rm_X8_milled : Room := ({ frames := 0, cells := 0, slots := 0, locals := 0 } : Room)
set_option maxRecDepth 100000 in
set_option maxHeartbeats 4000000 in
theorem c_X8_milled {L : GL} {ad : Nat → Nat} {G : Nat → va_E} {sn : Int32} {l ml : Int32}  (g0 : G 0 = .inr (8, [.ref (ad 1), .ref (ad 8), .ref (ad 9), .ref (ad 19), .ref (ad 22), .ref (ad 24), .ref (ad 26), .ref (ad 28), .ref (ad 38), .int sn])) (g22 : G 22 = .inr (5, [.ref (ad 1), .ref (ad 23), .int l, .int ml]))  : GM L yX8_milled cX8_milled 1 ((some .int)) rm_X8_milled 40 ad G [.ref (ad 0)] (fun vo G' => vo = some (.int ml) ∧ G = G') := by
  refine GM.of (own := RX8) (lo := [(0, .ref (ad 0))]) (by decide +kernel) rfl rfl (Nat.le_of_ble_eq_true rfl) (fun E C hr => ?_)
  refine G_aload_n C 0 dX8_milled_0 rfl rfl ?_
  refine G_get C 0 (by decide) g0 rfl inA8 4 (by decide) rfl kf_X8_42 rfl dX8_milled_1 ?_
  refine G_get C 22 (by decide) g22 rfl inA5 3 (by decide) rfl kf_X8_178 rfl dX8_milled_4 ?_
  exact G_zret C hr rfl dX8_milled_7 ⟨rfl, rfl⟩

abbrev rm_X8_powerOf : Room := ({ frames := 8, cells := 2, slots := 12, locals := 123 } : Room)
set_option maxRecDepth 100000 in
set_option maxHeartbeats 4000000 in
theorem c_X8_powerOf {L : GL} {ad : Nat → Nat} {G : Nat → va_E} {sn : Int32} {l ml : Int32} {f : Nat → Int32} {n : Int32}  (g0 : G 0 = .inr (8, [.ref (ad 1), .ref (ad 8), .ref (ad 9), .ref (ad 19), .ref (ad 22), .ref (ad 24), .ref (ad 26), .ref (ad 28), .ref (ad 38), .int sn])) (g22 : G 22 = .inr (5, [.ref (ad 1), .ref (ad 23), .int l, .int ml])) (g23 : G 23 = .inl (L.ac 0, 61, .inl f))  : GX L yX8_powerOf cX8_powerOf 2 ((some .int)) rm_X8_powerOf 40 ad G [.ref (ad 0), .int n] (fun vo G' => vo = some (.int (hOf f n)) ∧ (¬ numF n = 0) ∧ (¬ hasF f n = 0) ∧ G = G') (fun e G2 => ((e = eIAE ∧ numF n = 0) ∨ (e = eNSE ∧ ¬ numF n = 0 ∧ hasF f n = 0)) ∧ G = G2) := by
  refine GX.of (own := RX8) (lo := [(0, .ref (ad 0)), (1, .int n)]) (by decide +kernel) rfl rfl (Nat.le_of_ble_eq_true rfl) (fun E C hr hx => ?_)
  refine G_aload_n C 0 dX8_powerOf_0 rfl rfl ?_
  refine G_iload_n C 1 dX8_powerOf_1 rfl rfl ?_
  refine G_callVX C (As := [.int n]) (rest := []) (c_X8_requireLaid g0 g22 g23) ca_X8_requireLaid km_X8_131 (by decide) g0 rfl rfl rfl rfl (by decide) (Nat.le_of_ble_eq_true rfl) (by decide) dX8_powerOf_2 hx (by decide) (fun e G2 h => h) (fun vv1 gg2 qq3 => ?_)
  obtain ⟨rfl, pp4, pp5, rfl⟩ := qq3
  refine G_aload_n C 0 dX8_powerOf_5 rfl rfl ?_
  refine G_get C 0 (by decide) g0 rfl inA8 4 (by decide) rfl kf_X8_42 rfl dX8_powerOf_6 ?_
  refine G_iload_n C 1 dX8_powerOf_9 rfl rfl ?_
  refine G_callV C (As := [.int n]) (rest := []) (c_X5_heightOf (by decide) (by decide) g22 g23) ca_X5_heightOf km_X8_74 (by decide) g22 rfl rfl rfl rfl (by decide) (Nat.le_of_ble_eq_true rfl) (by decide) dX8_powerOf_10 (fun vv6 gg7 qq8 => ?_)
  obtain ⟨rfl, rfl⟩ := qq8
  refine GW.widen (c1 := 2) (s1 := 12) (by decide) (by decide) ?_
  exact G_zret C hr rfl dX8_powerOf_13 ⟨rfl, pp4, pp5, rfl⟩

abbrev rm_X8_signOf : Room := ({ frames := 8, cells := 2, slots := 12, locals := 123 } : Room)
set_option maxRecDepth 100000 in
set_option maxHeartbeats 4000000 in
theorem c_X8_signOf {L : GL} {ad : Nat → Nat} {G : Nat → va_E} {sn : Int32} {l ml : Int32} {f : Nat → Int32} {n : Int32}  (g0 : G 0 = .inr (8, [.ref (ad 1), .ref (ad 8), .ref (ad 9), .ref (ad 19), .ref (ad 22), .ref (ad 24), .ref (ad 26), .ref (ad 28), .ref (ad 38), .int sn])) (g22 : G 22 = .inr (5, [.ref (ad 1), .ref (ad 23), .int l, .int ml])) (g23 : G 23 = .inl (L.ac 0, 61, .inl f)) (g1 : G 1 = .inr (4, [.ref (ad 2), .ref (ad 3), .ref (ad 4), .ref (ad 5), .ref (ad 6)])) (g3 : G 3 = .inl (L.ac 0, 61, .inl tPer))  : GX L yX8_signOf cX8_signOf 2 ((some .int)) rm_X8_signOf 40 ad G [.ref (ad 0), .int n] (fun vo G' => vo = some (.int (signF f n)) ∧ (¬ numF n = 0) ∧ (¬ hasF f n = 0) ∧ G = G') (fun e G2 => ((e = eIAE ∧ numF n = 0) ∨ (e = eNSE ∧ ¬ numF n = 0 ∧ hasF f n = 0)) ∧ G = G2) := by
  refine GX.of (own := RX8) (lo := [(0, .ref (ad 0)), (1, .int n)]) (by decide +kernel) rfl rfl (Nat.le_of_ble_eq_true rfl) (fun E C hr hx => ?_)
  refine G_aload_n C 0 dX8_signOf_0 rfl rfl ?_
  refine G_iload_n C 1 dX8_signOf_1 rfl rfl ?_
  refine G_callVX C (As := [.int n]) (rest := []) (c_X8_requireLaid g0 g22 g23) ca_X8_requireLaid km_X8_131 (by decide) g0 rfl rfl rfl rfl (by decide) (Nat.le_of_ble_eq_true rfl) (by decide) dX8_signOf_2 hx (by decide) (fun e G2 h => h) (fun vv1 gg2 qq3 => ?_)
  obtain ⟨rfl, pp4, pp5, rfl⟩ := qq3
  refine G_aload_n C 0 dX8_signOf_5 rfl rfl ?_
  refine G_get C 0 (by decide) g0 rfl inA8 4 (by decide) rfl kf_X8_42 rfl dX8_signOf_6 ?_
  refine G_iload_n C 1 dX8_signOf_9 rfl rfl ?_
  refine G_callV C (As := [.int n]) (rest := []) (c_X5_sign (by decide) (by decide) (by decide) (by decide) g22 g23 g1 g3) ca_X5_sign km_X8_137 (by decide) g22 rfl rfl rfl rfl (by decide) (Nat.le_of_ble_eq_true rfl) (by decide) dX8_signOf_10 (fun vv6 gg7 qq8 => ?_)
  obtain ⟨rfl, rfl⟩ := qq8
  refine GW.widen (c1 := 2) (s1 := 12) (by decide) (by decide) ?_
  exact G_zret C hr rfl dX8_signOf_13 ⟨rfl, pp4, pp5, rfl⟩

