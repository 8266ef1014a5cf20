theorem HistP.sz {L : GL} {ad : Nat → Nat} {G : Nat → va_E} {hs : List HE} (h : HistP L ad G hs) : G 28 = .inr (0, [.ref (ad 29), .int (nI hs.length)]) := by
  obtain ⟨p, h1, h2, h3, h4⟩ := h
  exact h3
theorem HistP.le {L : GL} {ad : Nat → Nat} {G : Nat → va_E} {hs : List HE} (h : HistP L ad G hs) : hs.length ≤ 4 := by
  obtain ⟨p, h1, h2, h3, h4, h5, h6⟩ := h
  exact h5
theorem c_h_record {L : GL} {ad : Nat → Nat} {G : Nat → va_E} {hs : List HE} {vrk : Value} {lk mk : Int32} {fk : Nat → Int32} (gk : G 22 = .inr (5, [vrk, .ref (ad 23), .int lk, .int mk])) (gha : G 23 = .inl (L.ac 0, 61, .inl fk)) (hH : HistP L ad G hs) : GM L yX0_record cX0_record 2 none rm_X0_record0 40 ad G [.ref (ad 28), .ref (ad 22)] (fun vo G' => vo = none ∧ HistP L ad G' (hpush hs (fk, lk, mk)) ∧ Agr hisI G G') := h_record hH gk gha
theorem c_h_restore {L : GL} {ad : Nat → Nat} {G : Nat → va_E} {hs : List HE} {e : HE} {vrk : Value} {lk mk : Int32} {fk : Nat → Int32} (gk : G 22 = .inr (5, [vrk, .ref (ad 23), .int lk, .int mk])) (gha : G 23 = .inl (L.ac 0, 61, .inl fk)) (hH : HistP L ad G (hs ++ [e])) : GM L yX0_restoreLatest cX0_restoreLatest 2 (some .boolean) rm_X0_restore0 40 ad G [.ref (ad 28), .ref (ad 22)] (fun vo G' => vo = some (.int 1) ∧ HistP L ad G' hs ∧ G' 22 = .inr (5, [vrk, .ref (ad 23), .int e.2.1, .int e.2.2]) ∧ G' 23 = .inl (L.ac 0, 61, .inl e.1) ∧ Agr [28, 22, 23] G G') := h_restore hH gk gha
abbrev rm_J9_floorMod_f86c9 : Room := ({ frames := 0, cells := 0, slots := 0, locals := 0 } : Room)
set_option maxRecDepth 100000 in
set_option maxHeartbeats 4000000 in
theorem c_J9_floorMod_f86c9 {L : GL} {ad : Nat → Nat} {G : Nat → va_E} {x y : Int64}   (hy : ¬ y = 0) : GM L yJ9_floorMod_f86c9 cJ9_floorMod_f86c9 6 ((some .long)) rm_J9_floorMod_f86c9 40 ad G [.long x, .long y] (fun vo G' => vo = some (.long (fmF x y)) ∧ G = G') := by
  refine GM.ofJ (own := RJ9) (lo := [(0, .long x), (2, .long y)]) (by decide +kernel) rfl rfl (Nat.le_of_ble_eq_true rfl) (fun E C hr => ?_)
  refine G_lload_n C 0 dJ9_floorMod_f86c9_0 rfl rfl ?_
  refine G_lload_n C 2 dJ9_floorMod_f86c9_1 rfl rfl ?_
  refine G_lrem C dJ9_floorMod_f86c9_2 hy ?_
  refine G_lstore C (lo' := [(4, .long (x - x / y * y)), (0, .long x), (2, .long y)]) dJ9_floorMod_f86c9_3 (by decide) rfl ?_
  refine G_lload_n C 0 dJ9_floorMod_f86c9_5 rfl rfl ?_
  refine G_lload_n C 2 dJ9_floorMod_f86c9_6 rfl rfl ?_
  refine G_lxor C dJ9_floorMod_f86c9_7 ?_
  refine G_lconst C (v := 0) dJ9_floorMod_f86c9_8 (by decide) ?_
  refine G_lc_ge C 25 dJ9_floorMod_f86c9_9 dJ9_floorMod_f86c9_10 (by decide) (fun c9 => ?_) (fun c9 => ?_)
  · refine G_lload C dJ9_floorMod_f86c9_25 rfl ?_
    exact G_lret C hr dJ9_floorMod_f86c9_27 ⟨(by simp only [fmF, if_pos c9]), rfl⟩
  · refine G_lload C dJ9_floorMod_f86c9_13 rfl ?_
    refine G_lconst C (v := 0) dJ9_floorMod_f86c9_15 (by decide) ?_
    refine G_lc_eq C 25 dJ9_floorMod_f86c9_16 dJ9_floorMod_f86c9_17 (by decide) (fun c16 => ?_) (fun c16 => ?_)
    · refine G_lload C dJ9_floorMod_f86c9_25 rfl ?_
      exact G_lret C hr dJ9_floorMod_f86c9_27 ⟨(by simp only [fmF, if_neg c9, if_pos c16]), rfl⟩
    · refine G_lload C dJ9_floorMod_f86c9_20 rfl ?_
      refine G_lload_n C 2 dJ9_floorMod_f86c9_22 rfl rfl ?_
      refine G_ladd C dJ9_floorMod_f86c9_23 ?_
      exact G_lret C hr dJ9_floorMod_f86c9_24 ⟨(by simp only [fmF, if_neg c9, if_neg c16]), rfl⟩

abbrev rm_X8_powerOfLaid : Room := ({ frames := 2, cells := 0, slots := 0, locals := 45 } : Room)
set_option maxRecDepth 100000 in
set_option maxHeartbeats 4000000 in
theorem c_X8_powerOfLaid {L : GL} {ad : Nat → Nat} {G : Nat → va_E} {d h : Nat} {sn : Int32} {b1 b2 b3 : Int32} {b4 b5 : Int64} {l ml : Int32} {f : Nat → Int32}  (g0 : G 0 = .inr (8, [.ref (ad 1), .ref (ad 8), .ref (ad 9), .ref (ad 19), .ref (ad 22), .ref (ad 24), .ref (ad 26), .ref (ad 28), .ref (ad 38), .int sn])) (g1 : G 1 = .inr (4, [.ref (ad 2), .ref (ad 3), .ref (ad 4), .ref (ad 5), .ref (ad 6)])) (g4 : G 4 = .inl (L.ac 0, 61, .inl tUx)) (g5 : G 5 = .inl (L.ac 0, 61, .inl tUy)) (g8 : G 8 = .inr (1, [.int b1, .int b2, .int b3, .long b4, .long b5])) (g22 : G 22 = .inr (5, [.ref (ad 1), .ref (ad 23), .int l, .int ml])) (g23 : G 23 = .inl (L.ac 0, 61, .inl f)) (h60 : d ≤ 60) (hp : pern d ≠ 0) (hg : h ≤ gpn d) (hh : hOf f (nI d) = nI h) : GM L yX8_powerOfLaid cX8_powerOfLaid 4 ((some (.object "PellMills$Power"))) rm_X8_powerOfLaid 40 ad G [.ref (ad 0), .int (nI d)] (fun vo G' => vo = some (.ref (ad 8)) ∧ G' 8 = .inr (1, [.int (tUx d), .int (tUy d), .int (nI d), .long ((pwr d h).1), .long ((pwr d h).2)]) ∧ Agr [8] G G') := by
  refine GM.of (own := RX8) (lo := [(0, .ref (ad 0)), (1, .int (nI d))]) (by decide +kernel) rfl rfl (Nat.le_of_ble_eq_true rfl) (fun E C hr => ?_)
  refine G_aload_n C 0 dX8_powerOfLaid_0 rfl rfl ?_
  refine G_get C 0 (by decide) g0 rfl inA8 4 (by decide) rfl kf_X8_42 rfl dX8_powerOfLaid_1 ?_
  refine G_iload_n C 1 dX8_powerOfLaid_4 rfl rfl ?_
  refine G_callV C (As := [.int (nI d)]) (rest := []) (c_X5_heightOf (by decide) (by decide) g22 g23) ca_X5_heightOf km_X8_74 (by decide) g22 rfl rfl rfl rfl (by decide) (Nat.le_of_ble_eq_true rfl) (by decide) dX8_powerOfLaid_5 (fun vv1 gg2 qq3 => ?_)
  obtain ⟨rfl, rfl⟩ := qq3
  refine GW.topr (y := nI h) hh ?_
  refine G_istore_n C 2 (lo' := [(2, .int (nI h)), (0, .ref (ad 0)), (1, .int (nI d))]) dX8_powerOfLaid_8 rfl (by decide) rfl ?_
  refine G_aload_n C 0 dX8_powerOfLaid_9 rfl rfl ?_
  refine G_get C 0 (by decide) g0 rfl inA8 0 (by decide) rfl kf_X8_12 rfl dX8_powerOfLaid_10 ?_
  refine G_aload_n C 0 dX8_powerOfLaid_13 rfl rfl ?_
  refine G_get C 0 (by decide) g0 rfl inA8 1 (by decide) rfl kf_X8_19 rfl dX8_powerOfLaid_14 ?_
  refine G_iload_n C 1 dX8_powerOfLaid_17 rfl rfl ?_
  refine G_callV C (As := [.ref (ad 8), .int (nI d)]) (rest := []) (c_X4_begin (by decide) (by decide) (by decide) (by decide) g1 g4 g5 g8) ca_X4_begin km_X8_258 (by decide) g1 rfl rfl rfl rfl (by decide) (Nat.le_of_ble_eq_true rfl) (by decide) dX8_powerOfLaid_18 (fun vv4 gg5 qq6 => ?_)
  obtain ⟨rfl, hh7, aa8⟩ := qq6
  have AA9 : Agr [8] G gg5 := aa8.wk (by simp)
  rw [tab_d tUx (by omega), tab_d tUy (by omega)] at hh7
  refine G_iconst C (v := 0) dX8_powerOfLaid_21 (by decide) ?_
  refine G_istore_n C 3 (lo' := [(3, .int 0), (2, .int (nI h)), (0, .ref (ad 0)), (1, .int (nI d))]) dX8_powerOfLaid_22 rfl (by decide) rfl ?_
  have key23 : ∀ (n : Nat) (i : Nat) (G1 : Nat → va_E) (hf23_8 : G1 8 = .inr (1, [.int (tUx d), .int (tUy d), .int (nI d), .long ((pwr d i).1), .long ((pwr d i).2)])) (ha23 : Agr [8] G G1) (hn : h - i < n) (hi : i ≤ h), GW L E 40 ad G1 0 0 23 [(3, .int (nI i)), (2, .int (nI h)), (0, .ref (ad 0)), (1, .int (nI d))] [] := by
    intro n
    induction n with
    | zero =>
      intro i G1 hf23_8 ha23 hn hi
      exact absurd hn (Nat.not_lt_zero _)
    | succ n ih =>
      intro i G1 hf23_8 ha23 hn hi
      have h39 := gp_lt d (by omega)
      refine G_iload_n C 3 dX8_powerOfLaid_23 rfl rfl ?_
      refine G_iload_n C 2 dX8_powerOfLaid_24 rfl rfl ?_
      refine G_icmp_ge C 49 dX8_powerOfLaid_25 (by decide) (fun c25 => ?_) (fun c25 => ?_)
      · have c25n : h ≤ i := (cI_le (a := h) (b := i) rfl rfl (by omega) (by omega)).mp c25
        refine G_aload_n C 0 dX8_powerOfLaid_49 rfl rfl ?_
        refine G_get C 0 (by decide) ((ha23 0 (by decide)).trans g0) rfl inA8 1 (by decide) rfl kf_X8_19 rfl dX8_powerOfLaid_50 ?_
        exact G_aret C hr (Or.inl ⟨_, rfl⟩) (Or.inr ⟨_, rfl⟩) dX8_powerOfLaid_53 ⟨rfl, (by rw [hf23_8, show i = h by omega]), ha23⟩
      · have c25n : ¬ h ≤ i := fun z => c25 ((cI_le (a := h) (b := i) rfl rfl (by omega) (by omega)).mpr z)
        refine G_iload_n C 3 dX8_powerOfLaid_28 rfl rfl ?_
        refine G_ldcw C dX8_powerOfLaid_29 ki_X8_262 ?_
        refine G_icmp_ge C 49 dX8_powerOfLaid_32 (by decide) (fun c32 => False.elim (by have := (cI_le (a := 1000000) (b := i) rfl rfl (by omega) (by omega)).mp c32; omega)) (fun c32 => ?_)
        have c32n : ¬ 1000000 ≤ i := fun z => c32 ((cI_le (a := 1000000) (b := i) rfl rfl (by omega) (by omega)).mpr z)
        refine G_aload_n C 0 dX8_powerOfLaid_35 rfl rfl ?_
        refine G_get C 0 (by decide) ((ha23 0 (by decide)).trans g0) rfl inA8 1 (by decide) rfl kf_X8_19 rfl dX8_powerOfLaid_36 ?_
        refine G_callV C (As := []) (rest := []) (c_X1_climb (by decide) hf23_8) ca_X1_climb km_X8_263 (by decide) hf23_8 rfl rfl rfl rfl (by decide) (Nat.le_of_ble_eq_true rfl) (by decide) dX8_powerOfLaid_39 (fun vv10 gg11 qq12 => ?_)
        obtain ⟨rfl, hh13, aa14⟩ := qq12
        have AA15 : Agr [8] G gg11 := ha23.tr aa14 (by simp) (by simp)
        refine G_pop C dX8_powerOfLaid_42 rfl ?_
        refine G_iinc C (v := nI (i + 1)) (lo' := [(3, .int (nI (i + 1))), (2, .int (nI h)), (0, .ref (ad 0)), (1, .int (nI d))]) dX8_powerOfLaid_43 rfl (nI_add _ _) (by decide) rfl ?_
        refine G_goto C 23 dX8_powerOfLaid_46 (by decide) ?_
        exact ih (i + 1) gg11 hh13 AA15 (by omega) (by omega)
  exact key23 (h + 1) 0 gg5 hh7 AA9 (by omega) (Nat.zero_le _)

abbrev rm_X8_xOf : Room := ({ frames := 8, cells := 2, slots := 12, locals := 123 } : Room)
set_option maxRecDepth 100000 in
set_option maxHeartbeats 4000000 in
theorem c_X8_xOf {L : GL} {ad : Nat → Nat} {G : Nat → va_E} {sn : Int32} {b1 b2 b3 : Int32} {b4 b5 : Int64} {l ml : Int32} {f : Nat → Int32} {n : Int32}  (g0 : G 0 = .inr (8, [.ref (ad 1), .ref (ad 8), .ref (ad 9), .ref (ad 19), .ref (ad 22), .ref (ad 24), .ref (ad 26), .ref (ad 28), .ref (ad 38), .int sn])) (g1 : G 1 = .inr (4, [.ref (ad 2), .ref (ad 3), .ref (ad 4), .ref (ad 5), .ref (ad 6)])) (g4 : G 4 = .inl (L.ac 0, 61, .inl tUx)) (g5 : G 5 = .inl (L.ac 0, 61, .inl tUy)) (g8 : G 8 = .inr (1, [.int b1, .int b2, .int b3, .long b4, .long b5])) (g22 : G 22 = .inr (5, [.ref (ad 1), .ref (ad 23), .int l, .int ml])) (g23 : G 23 = .inl (L.ac 0, 61, .inl f)) (hk : okH f) : GX L yX8_xOf cX8_xOf 2 ((some .long)) rm_X8_xOf 40 ad G [.ref (ad 0), .int n] (fun vo G' => ∃ (d : Nat) (h : Nat), vo = some (.long ((pwr d h).1)) ∧ (n = nI d) ∧ (2 ≤ d) ∧ (d ≤ 60) ∧ (pern d ≠ 0) ∧ (h ≤ gpn d) ∧ (hOf f n = nI h) ∧ G' 8 = .inr (1, [.int (tUx d), .int (tUy d), .int (nI d), .long ((pwr d h).1), .long ((pwr d h).2)]) ∧ Agr [8] G G') (fun e G2 => ((e = eIAE ∧ numF n = 0) ∨ (e = eNSE ∧ ¬ numF n = 0 ∧ hasF f n = 0)) ∧ G = G2) := by
  refine GX.of (own := RX8) (lo := [(0, .ref (ad 0)), (1, .int n)]) (by decide +kernel) rfl rfl (Nat.le_of_ble_eq_true rfl) (fun E C hr hx => ?_)
  refine G_aload_n C 0 dX8_xOf_0 rfl rfl ?_
  refine G_iload_n C 1 dX8_xOf_1 rfl rfl ?_
  refine G_callVX C (As := [.int n]) (rest := []) (c_X8_requireLaid g0 g22 g23) ca_X8_requireLaid km_X8_131 (by decide) g0 rfl rfl rfl rfl (by decide) (Nat.le_of_ble_eq_true rfl) (by decide) dX8_xOf_2 hx (by decide) (fun e G2 h => h) (fun vv1 gg2 qq3 => ?_)
  obtain ⟨rfl, pp4, pp5, rfl⟩ := qq3
  obtain ⟨d, h, hdn, hd2, hd60, hdp, hg, hh⟩ := hk.laid pp4 pp5
  refine G_aload_n C 0 dX8_xOf_5 rfl rfl ?_
  refine G_iload_n C 1 dX8_xOf_6 rfl rfl ?_
  refine GW.topr (y := nI d) hdn ?_
  refine G_callV C (As := [.int (nI d)]) (rest := []) (c_X8_powerOfLaid g0 g1 g4 g5 g8 g22 g23 hd60 hdp hg hh) ca_X8_powerOfLaid km_X8_78 (by decide) g0 rfl rfl rfl rfl (by decide) (Nat.le_of_ble_eq_true rfl) (by decide) dX8_xOf_7 (fun vv6 gg7 qq8 => ?_)
  obtain ⟨rfl, hh9, aa10⟩ := qq8
  have AA11 : Agr [8] G gg7 := aa10.wk (by simp)
  refine G_get C 8 (by decide) hh9 rfl inA1 3 (by decide) rfl kf_X8_82 rfl dX8_xOf_10 ?_
  refine GW.widen (c1 := 2) (s1 := 12) (by decide) (by decide) ?_
  exact G_lret C hr dX8_xOf_13 ⟨_, _, rfl, hdn, hd2, hd60, hdp, hg, hdn ▸ hh, hh9, AA11⟩

abbrev rm_X8_yOf : Room := ({ frames := 8, cells := 2, slots := 12, locals := 123 } : Room)
set_option maxRecDepth 100000 in
set_option maxHeartbeats 4000000 in
theorem c_X8_yOf {L : GL} {ad : Nat → Nat} {G : Nat → va_E} {sn : Int32} {b1 b2 b3 : Int32} {b4 b5 : Int64} {l ml : Int32} {f : Nat → Int32} {n : Int32}  (g0 : G 0 = .inr (8, [.ref (ad 1), .ref (ad 8), .ref (ad 9), .ref (ad 19), .ref (ad 22), .ref (ad 24), .ref (ad 26), .ref (ad 28), .ref (ad 38), .int sn])) (g1 : G 1 = .inr (4, [.ref (ad 2), .ref (ad 3), .ref (ad 4), .ref (ad 5), .ref (ad 6)])) (g4 : G 4 = .inl (L.ac 0, 61, .inl tUx)) (g5 : G 5 = .inl (L.ac 0, 61, .inl tUy)) (g8 : G 8 = .inr (1, [.int b1, .int b2, .int b3, .long b4, .long b5])) (g22 : G 22 = .inr (5, [.ref (ad 1), .ref (ad 23), .int l, .int ml])) (g23 : G 23 = .inl (L.ac 0, 61, .inl f)) (hk : okH f) : GX L yX8_yOf cX8_yOf 2 ((some .long)) rm_X8_yOf 40 ad G [.ref (ad 0), .int n] (fun vo G' => ∃ (d : Nat) (h : Nat), vo = some (.long ((pwr d h).2)) ∧ (n = nI d) ∧ (2 ≤ d) ∧ (d ≤ 60) ∧ (pern d ≠ 0) ∧ (h ≤ gpn d) ∧ (hOf f n = nI h) ∧ G' 8 = .inr (1, [.int (tUx d), .int (tUy d), .int (nI d), .long ((pwr d h).1), .long ((pwr d h).2)]) ∧ Agr [8] G G') (fun e G2 => ((e = eIAE ∧ numF n = 0) ∨ (e = eNSE ∧ ¬ numF n = 0 ∧ hasF f n = 0)) ∧ G = G2) := by
  refine GX.of (own := RX8) (lo := [(0, .ref (ad 0)), (1, .int n)]) (by decide +kernel) rfl rfl (Nat.le_of_ble_eq_true rfl) (fun E C hr hx => ?_)
  refine G_aload_n C 0 dX8_yOf_0 rfl rfl ?_
  refine G_iload_n C 1 dX8_yOf_1 rfl rfl ?_
  refine G_callVX C (As := [.int n]) (rest := []) (c_X8_requireLaid g0 g22 g23) ca_X8_requireLaid km_X8_131 (by decide) g0 rfl rfl rfl rfl (by decide) (Nat.le_of_ble_eq_true rfl) (by decide) dX8_yOf_2 hx (by decide) (fun e G2 h => h) (fun vv1 gg2 qq3 => ?_)
  obtain ⟨rfl, pp4, pp5, rfl⟩ := qq3
  obtain ⟨d, h, hdn, hd2, hd60, hdp, hg, hh⟩ := hk.laid pp4 pp5
  refine G_aload_n C 0 dX8_yOf_5 rfl rfl ?_
  refine G_iload_n C 1 dX8_yOf_6 rfl rfl ?_
  refine GW.topr (y := nI d) hdn ?_
  refine G_callV C (As := [.int (nI d)]) (rest := []) (c_X8_powerOfLaid g0 g1 g4 g5 g8 g22 g23 hd60 hdp hg hh) ca_X8_powerOfLaid km_X8_78 (by decide) g0 rfl rfl rfl rfl (by decide) (Nat.le_of_ble_eq_true rfl) (by decide) dX8_yOf_7 (fun vv6 gg7 qq8 => ?_)
  obtain ⟨rfl, hh9, aa10⟩ := qq8
  have AA11 : Agr [8] G gg7 := aa10.wk (by simp)
  refine G_get C 8 (by decide) hh9 rfl inA1 4 (by decide) rfl kf_X8_134 rfl dX8_yOf_10 ?_
  refine GW.widen (c1 := 2) (s1 := 12) (by decide) (by decide) ?_
  exact G_lret C hr dX8_yOf_13 ⟨_, _, rfl, hdn, hd2, hd60, hdp, hg, hdn ▸ hh, hh9, AA11⟩

abbrev rm_X8_change : Room := ({ frames := 6, cells := 1, slots := 6, locals := 141 } : Room)
set_option maxRecDepth 100000 in
set_option maxHeartbeats 4000000 in
theorem c_X8_change {L : GL} {ad : Nat → Nat} {G : Nat → va_E} {ch n : Int32} {sn : Int32} {l ml : Int32} {f : Nat → Int32} {hs : List HE}  (g0 : G 0 = .inr (8, [.ref (ad 1), .ref (ad 8), .ref (ad 9), .ref (ad 19), .ref (ad 22), .ref (ad 24), .ref (ad 26), .ref (ad 28), .ref (ad 38), .int sn])) (g1 : G 1 = .inr (4, [.ref (ad 2), .ref (ad 3), .ref (ad 4), .ref (ad 5), .ref (ad 6)])) (g3 : G 3 = .inl (L.ac 0, 61, .inl tPer)) (g6 : G 6 = .inl (L.ac 0, 61, .inl tGp)) (g22 : G 22 = .inr (5, [.ref (ad 1), .ref (ad 23), .int l, .int ml])) (g23 : G 23 = .inl (L.ac 0, 61, .inl f)) (hH : HistP L ad G hs) : GX L yX8_change cX8_change 4 (none) rm_X8_change 40 ad G [.ref (ad 0), .int ch, .int n] (fun vo G' => vo = none ∧ (causeF f l ch n = 0) ∧ (HistP L ad G' (hpush hs (f, l, ml))) ∧ G' 22 = .inr (5, [.ref (ad 1), .ref (ad 23), .int ((coF f l ml ch n).2.1), .int ((coF f l ml ch n).2.2)]) ∧ G' 23 = .inl (L.ac 0, 61, .inl ((coF f l ml ch n).1)) ∧ Agr [22, 23, 28, 29, 30, 31, 32, 33, 34, 35, 36, 37] G G') (fun e G2 => ((e = eIAE ∧ causeF f l ch n = 1) ∨ (e = eISE ∧ ¬ causeF f l ch n = 1 ∧ ¬ causeF f l ch n = 0)) ∧ G = G2) := by
  refine GX.of (own := RX8) (lo := [(0, .ref (ad 0)), (1, .int ch), (2, .int n)]) (by decide +kernel) rfl rfl (Nat.le_of_ble_eq_true rfl) (fun E C hr hx => ?_)
  refine G_aload_n C 0 dX8_change_0 rfl rfl ?_
  refine G_get C 0 (by decide) g0 rfl inA8 4 (by decide) rfl kf_X8_42 rfl dX8_change_1 ?_
  refine G_iload_n C 1 dX8_change_4 rfl rfl ?_
  refine G_iload_n C 2 dX8_change_5 rfl rfl ?_
  refine G_callV C (As := [.int ch, .int n]) (rest := []) (c_X5_causeAgainst (by decide) (by decide) (by decide) (by decide) (by decide) g22 g23 g1 g3 g6) ca_X5_causeAgainst km_X8_249 (by decide) g22 rfl rfl rfl rfl (by decide) (Nat.le_of_ble_eq_true rfl) (by decide) dX8_change_6 (fun vv1 gg2 qq3 => ?_)
  obtain ⟨rfl, rfl⟩ := qq3
  refine G_istore_n C 3 (lo' := [(3, .int (causeF f l ch n)), (0, .ref (ad 0)), (1, .int ch), (2, .int n)]) dX8_change_9 rfl (by decide) rfl ?_
  refine G_iload_n C 3 dX8_change_10 rfl rfl ?_
  refine G_iconst C (v := 1) dX8_change_11 (by decide) ?_
  refine G_icmp_ne C 25 dX8_change_12 (by decide) (fun c12 => ?_) (fun c12 => ?_)
  · refine G_iload_n C 3 dX8_change_25 rfl rfl ?_
    refine G_if_eq C 39 dX8_change_26 (by decide) (fun c26 => ?_) (fun c26 => ?_)
    · refine G_aload_n C 0 dX8_change_39 rfl rfl ?_
      refine G_get C 0 (by decide) g0 rfl inA8 7 (by decide) rfl kf_X8_55 rfl dX8_change_40 ?_
      refine G_aload_n C 0 dX8_change_43 rfl rfl ?_
      refine G_get C 0 (by decide) g0 rfl inA8 4 (by decide) rfl kf_X8_42 rfl dX8_change_44 ?_
      refine G_callV C (As := [.ref (ad 22)]) (rest := []) (c_h_record g22 g23 hH) ca_X0_record km_X8_193 (by decide) (HistP.sz hH) rfl rfl rfl rfl (by decide) (Nat.le_of_ble_eq_true rfl) (by decide) dX8_change_47 (fun vv4 gg5 qq6 => ?_)
      obtain ⟨rfl, pp7, aa8⟩ := qq6
      have AA9 : Agr [28, 29, 30, 31, 32, 33, 34, 35, 36, 37] G gg5 := aa8.wk (by simp)
      refine G_aload_n C 0 dX8_change_50 rfl rfl ?_
      refine G_get C 0 (by decide) ((aa8 0 (by decide)).trans g0) rfl inA8 4 (by decide) rfl kf_X8_42 rfl dX8_change_51 ?_
      refine G_iload_n C 1 dX8_change_54 rfl rfl ?_
      refine G_iload_n C 2 dX8_change_55 rfl rfl ?_
      refine G_callV C (As := [.int ch, .int n]) (rest := []) (c_X5_carryOut (by decide) (by decide) ((aa8 22 (by decide)).trans g22) ((aa8 23 (by decide)).trans g23)) ca_X5_carryOut km_X8_255 (by decide) ((aa8 22 (by decide)).trans g22) rfl rfl rfl rfl (by decide) (Nat.le_of_ble_eq_true rfl) (by decide) dX8_change_56 (fun vv10 gg11 qq12 => ?_)
      obtain ⟨rfl, hh13, hh14, aa15⟩ := qq12
      have AA16 : Agr [28, 29, 30, 31, 32, 33, 34, 35, 36, 37, 22, 23] G gg11 := AA9.tr aa15 (by simp) (by simp)
      have hZ := HistP.keep pp7 (S := [22, 23]) aa15 (by decide)
      refine GW.widen (c1 := 1) (s1 := 6) (by decide) (by decide) ?_
      exact G_vret C hr dX8_change_59 ⟨rfl, c26, hZ, hh13, hh14, (AA16.wk (by simp))⟩
    · exact G_throw C hx th_ISE (text := "the stone does not allow it") (by decide) dX8_change_29 dX8_change_32 dX8_change_33 dX8_change_35 dX8_change_38 (by decide) (by decide) (by decide) (by decide) (⟨Or.inr ⟨rfl, c12, c26⟩, rfl⟩)
  · exact G_throw C hx th_IAE (text := "the number is not from 2 to 60") (by decide) dX8_change_15 dX8_change_18 dX8_change_19 dX8_change_21 dX8_change_24 (by decide) (by decide) (by decide) (by decide) (⟨Or.inl ⟨rfl, c12⟩, rfl⟩)

abbrev rm_X8_lay : Room := ({ frames := 7, cells := 1, slots := 6, locals := 164 } : Room)
set_option maxRecDepth 100000 in
set_option maxHeartbeats 4000000 in
theorem c_X8_lay {L : GL} {ad : Nat → Nat} {G : Nat → va_E} {n : Int32} {sn : Int32} {l ml : Int32} {f : Nat → Int32} {hs : List HE}  (g0 : G 0 = .inr (8, [.ref (ad 1), .ref (ad 8), .ref (ad 9), .ref (ad 19), .ref (ad 22), .ref (ad 24), .ref (ad 26), .ref (ad 28), .ref (ad 38), .int sn])) (g1 : G 1 = .inr (4, [.ref (ad 2), .ref (ad 3), .ref (ad 4), .ref (ad 5), .ref (ad 6)])) (g3 : G 3 = .inl (L.ac 0, 61, .inl tPer)) (g6 : G 6 = .inl (L.ac 0, 61, .inl tGp)) (g22 : G 22 = .inr (5, [.ref (ad 1), .ref (ad 23), .int l, .int ml])) (g23 : G 23 = .inl (L.ac 0, 61, .inl f)) (hH : HistP L ad G hs) : GX L yX8_lay cX8_lay 2 ((some .int)) rm_X8_lay 40 ad G [.ref (ad 0), .int n] (fun vo G' => vo = some (.int ((coF f l ml 108 n).2.1)) ∧ (causeF f l 108 n = 0) ∧ (HistP L ad G' (hpush hs (f, l, ml))) ∧ G' 22 = .inr (5, [.ref (ad 1), .ref (ad 23), .int ((coF f l ml 108 n).2.1), .int ((coF f l ml 108 n).2.2)]) ∧ G' 23 = .inl (L.ac 0, 61, .inl ((coF f l ml 108 n).1)) ∧ Agr [22, 23, 28, 29, 30, 31, 32, 33, 34, 35, 36, 37] G G') (fun e G2 => ((e = eIAE ∧ causeF f l 108 n = 1) ∨ (e = eISE ∧ ¬ causeF f l 108 n = 1 ∧ ¬ causeF f l 108 n = 0)) ∧ G = G2) := by
  refine GX.of (own := RX8) (lo := [(0, .ref (ad 0)), (1, .int n)]) (by decide +kernel) rfl rfl (Nat.le_of_ble_eq_true rfl) (fun E C hr hx => ?_)
  refine G_aload_n C 0 dX8_lay_0 rfl rfl ?_
  refine G_bipush C (v := 108) dX8_lay_1 (by decide) ?_
  refine G_iload_n C 1 dX8_lay_3 rfl rfl ?_
  refine G_callVX C (As := [.int 108, .int n]) (rest := []) (c_X8_change g0 g1 g3 g6 g22 g23 hH) ca_X8_change km_X8_66 (by decide) g0 rfl rfl rfl rfl (by decide) (Nat.le_of_ble_eq_true rfl) (by decide) dX8_lay_4 hx (by decide) (fun e G2 h => h) (fun vv1 gg2 qq3 => ?_)
  obtain ⟨rfl, pp4, pp5, hh6, hh7, aa8⟩ := qq3
  have AA9 : Agr [22, 23, 28, 29, 30, 31, 32, 33, 34, 35, 36, 37] G gg2 := aa8.wk (by simp)
  refine G_aload_n C 0 dX8_lay_7 rfl rfl ?_
  refine G_get C 0 (by decide) ((aa8 0 (by decide)).trans g0) rfl inA8 4 (by decide) rfl kf_X8_42 rfl dX8_lay_8 ?_
  refine G_get C 22 (by decide) hh6 rfl inA5 2 (by decide) rfl kf_X8_70 rfl dX8_lay_11 ?_
  refine GW.widen (c1 := 1) (s1 := 6) (by decide) (by decide) ?_
  exact G_zret C hr rfl dX8_lay_14 ⟨rfl, pp4, pp5, hh6, hh7, AA9⟩

abbrev rm_X8_take : Room := ({ frames := 7, cells := 1, slots := 6, locals := 164 } : Room)
set_option maxRecDepth 100000 in
set_option maxHeartbeats 4000000 in
theorem c_X8_take {L : GL} {ad : Nat → Nat} {G : Nat → va_E} {n : Int32} {sn : Int32} {l ml : Int32} {f : Nat → Int32} {hs : List HE}  (g0 : G 0 = .inr (8, [.ref (ad 1), .ref (ad 8), .ref (ad 9), .ref (ad 19), .ref (ad 22), .ref (ad 24), .ref (ad 26), .ref (ad 28), .ref (ad 38), .int sn])) (g1 : G 1 = .inr (4, [.ref (ad 2), .ref (ad 3), .ref (ad 4), .ref (ad 5), .ref (ad 6)])) (g3 : G 3 = .inl (L.ac 0, 61, .inl tPer)) (g6 : G 6 = .inl (L.ac 0, 61, .inl tGp)) (g22 : G 22 = .inr (5, [.ref (ad 1), .ref (ad 23), .int l, .int ml])) (g23 : G 23 = .inl (L.ac 0, 61, .inl f)) (hH : HistP L ad G hs) : GX L yX8_take cX8_take 3 ((some .int)) rm_X8_take 40 ad G [.ref (ad 0), .int n] (fun vo G' => vo = some (.int (hOf f n)) ∧ (causeF f l 116 n = 0) ∧ (HistP L ad G' (hpush hs (f, l, ml))) ∧ G' 22 = .inr (5, [.ref (ad 1), .ref (ad 23), .int ((coF f l ml 116 n).2.1), .int ((coF f l ml 116 n).2.2)]) ∧ G' 23 = .inl (L.ac 0, 61, .inl ((coF f l ml 116 n).1)) ∧ Agr [22, 23, 28, 29, 30, 31, 32, 33, 34, 35, 36, 37] G G') (fun e G2 => ((e = eIAE ∧ causeF f l 116 n = 1) ∨ (e = eISE ∧ ¬ causeF f l 116 n = 1 ∧ ¬ causeF f l 116 n = 0)) ∧ G = G2) := by
  refine GX.of (own := RX8) (lo := [(0, .ref (ad 0)), (1, .int n)]) (by decide +kernel) rfl rfl (Nat.le_of_ble_eq_true rfl) (fun E C hr hx => ?_)
  refine G_aload_n C 0 dX8_take_0 rfl rfl ?_
  refine G_get C 0 (by decide) g0 rfl inA8 4 (by decide) rfl kf_X8_42 rfl dX8_take_1 ?_
  refine G_iload_n C 1 dX8_take_4 rfl rfl ?_
  refine G_callV C (As := [.int n]) (rest := []) (c_X5_heightOf (by decide) (by decide) g22 g23) ca_X5_heightOf km_X8_74 (by decide) g22 rfl rfl rfl rfl (by decide) (Nat.le_of_ble_eq_true rfl) (by decide) dX8_take_5 (fun vv1 gg2 qq3 => ?_)
  obtain ⟨rfl, rfl⟩ := qq3
  refine G_istore_n C 2 (lo' := [(2, .int (hOf f n)), (0, .ref (ad 0)), (1, .int n)]) dX8_take_8 rfl (by decide) rfl ?_
  refine G_aload_n C 0 dX8_take_9 rfl rfl ?_
  refine G_bipush C (v := 116) dX8_take_10 (by decide) ?_
  refine G_iload_n C 1 dX8_take_12 rfl rfl ?_
  refine G_callVX C (As := [.int 116, .int n]) (rest := []) (c_X8_change g0 g1 g3 g6 g22 g23 hH) ca_X8_change km_X8_66 (by decide) g0 rfl rfl rfl rfl (by decide) (Nat.le_of_ble_eq_true rfl) (by decide) dX8_take_13 hx (by decide) (fun e G2 h => h) (fun vv4 gg5 qq6 => ?_)
  obtain ⟨rfl, pp7, pp8, hh9, hh10, aa11⟩ := qq6
  have AA12 : Agr [22, 23, 28, 29, 30, 31, 32, 33, 34, 35, 36, 37] G gg5 := aa11.wk (by simp)
  refine G_iload_n C 2 dX8_take_16 rfl rfl ?_
  refine GW.widen (c1 := 1) (s1 := 6) (by decide) (by decide) ?_
  exact G_zret C hr rfl dX8_take_17 ⟨rfl, pp7, pp8, hh9, hh10, AA12⟩

abbrev rm_X8_mill : Room := ({ frames := 7, cells := 1, slots := 6, locals := 164 } : Room)
set_option maxRecDepth 100000 in
set_option maxHeartbeats 4000000 in
theorem c_X8_mill {L : GL} {ad : Nat → Nat} {G : Nat → va_E} {n : Int32} {sn : Int32} {b1 b2 b3 : Int32} {b4 b5 : Int64} {l ml : Int32} {f : Nat → Int32} {hs : List HE}  (g0 : G 0 = .inr (8, [.ref (ad 1), .ref (ad 8), .ref (ad 9), .ref (ad 19), .ref (ad 22), .ref (ad 24), .ref (ad 26), .ref (ad 28), .ref (ad 38), .int sn])) (g1 : G 1 = .inr (4, [.ref (ad 2), .ref (ad 3), .ref (ad 4), .ref (ad 5), .ref (ad 6)])) (g3 : G 3 = .inl (L.ac 0, 61, .inl tPer)) (g6 : G 6 = .inl (L.ac 0, 61, .inl tGp)) (g22 : G 22 = .inr (5, [.ref (ad 1), .ref (ad 23), .int l, .int ml])) (g23 : G 23 = .inl (L.ac 0, 61, .inl f)) (g4 : G 4 = .inl (L.ac 0, 61, .inl tUx)) (g5 : G 5 = .inl (L.ac 0, 61, .inl tUy)) (g8 : G 8 = .inr (1, [.int b1, .int b2, .int b3, .long b4, .long b5])) (hH : HistP L ad G hs) (hk : okH f) : GX L yX8_mill cX8_mill 2 ((some .long)) rm_X8_mill 40 ad G [.ref (ad 0), .int n] (fun vo G' => ∃ (d : Nat) (h : Nat), vo = some (.long ((pwr d h).1)) ∧ (causeF f l 109 n = 0) ∧ (HistP L ad G' (hpush hs (f, l, ml))) ∧ (n = nI d) ∧ (2 ≤ d) ∧ (d ≤ 60) ∧ (pern d ≠ 0) ∧ (h ≤ gpn d) ∧ ((coF f l ml 109 n).1 d = nI h) ∧ G' 22 = .inr (5, [.ref (ad 1), .ref (ad 23), .int ((coF f l ml 109 n).2.1), .int ((coF f l ml 109 n).2.2)]) ∧ G' 23 = .inl (L.ac 0, 61, .inl ((coF f l ml 109 n).1)) ∧ G' 8 = .inr (1, [.int (tUx d), .int (tUy d), .int (nI d), .long ((pwr d h).1), .long ((pwr d h).2)]) ∧ Agr [22, 23, 28, 29, 30, 31, 32, 33, 34, 35, 36, 37, 8] G G') (fun e G2 => ((e = eIAE ∧ causeF f l 109 n = 1) ∨ (e = eISE ∧ ¬ causeF f l 109 n = 1 ∧ ¬ causeF f l 109 n = 0)) ∧ G = G2) := by
  refine GX.of (own := RX8) (lo := [(0, .ref (ad 0)), (1, .int n)]) (by decide +kernel) rfl rfl (Nat.le_of_ble_eq_true rfl) (fun E C hr hx => ?_)
  refine G_aload_n C 0 dX8_mill_0 rfl rfl ?_
  refine G_bipush C (v := 109) dX8_mill_1 (by decide) ?_
  refine G_iload_n C 1 dX8_mill_3 rfl rfl ?_
  refine G_callVX C (As := [.int 109, .int n]) (rest := []) (c_X8_change g0 g1 g3 g6 g22 g23 hH) ca_X8_change km_X8_66 (by decide) g0 rfl rfl rfl rfl (by decide) (Nat.le_of_ble_eq_true rfl) (by decide) dX8_mill_4 hx (by decide) (fun e G2 h => h) (fun vv1 gg2 qq3 => ?_)
  obtain ⟨rfl, pp4, pp5, hh6, hh7, aa8⟩ := qq3
  have AA9 : Agr [22, 23, 28, 29, 30, 31, 32, 33, 34, 35, 36, 37] G gg2 := aa8.wk (by simp)
  obtain ⟨d, k, hdn, hd2, hd60, hdp, hg, hf, hcv⟩ := mill_v (ml := ml) hk pp4
  have hgg : k + 1 ≤ gpn d := by omega
  have hfd : (coF f l ml 109 n).1 d = nI (k + 1) := by rw [hcv]; simp [upd]
  have hhd : hOf (coF f l ml 109 n).1 (nI d) = nI (k + 1) := (hOf_d _ (by omega)).trans hfd
  refine G_aload_n C 0 dX8_mill_7 rfl rfl ?_
  refine G_iload_n C 1 dX8_mill_8 rfl rfl ?_
  refine GW.topr (y := nI d) hdn ?_
  refine G_callV C (As := [.int (nI d)]) (rest := []) (c_X8_powerOfLaid ((aa8 0 (by decide)).trans g0) ((aa8 1 (by decide)).trans g1) ((aa8 4 (by decide)).trans g4) ((aa8 5 (by decide)).trans g5) ((aa8 8 (by decide)).trans g8) hh6 hh7 hd60 hdp hgg hhd) ca_X8_powerOfLaid km_X8_78 (by decide) ((aa8 0 (by decide)).trans g0) rfl rfl rfl rfl (by decide) (Nat.le_of_ble_eq_true rfl) (by decide) dX8_mill_9 (fun vv10 gg11 qq12 => ?_)
  obtain ⟨rfl, hh13, aa14⟩ := qq12
  have AA15 : Agr [22, 23, 28, 29, 30, 31, 32, 33, 34, 35, 36, 37, 8] G gg11 := AA9.tr aa14 (by simp) (by simp)
  have hY := HistP.keep pp5 (S := [8]) aa14 (by decide)
  refine G_get C 8 (by decide) hh13 rfl inA1 3 (by decide) rfl kf_X8_82 rfl dX8_mill_12 ?_
  refine GW.widen (c1 := 1) (s1 := 6) (by decide) (by decide) ?_
  exact G_lret C hr dX8_mill_15 ⟨_, _, rfl, pp4, hY, hdn, hd2, hd60, hdp, hgg, hfd, ((aa14 22 (by decide)).trans hh6), ((aa14 23 (by decide)).trans hh7), hh13, AA15⟩

abbrev rm_X8_millBack : Room := ({ frames := 7, cells := 1, slots := 6, locals := 164 } : Room)
set_option maxRecDepth 100000 in
set_option maxHeartbeats 4000000 in
theorem c_X8_millBack {L : GL} {ad : Nat → Nat} {G : Nat → va_E} {n : Int32} {sn : Int32} {b1 b2 b3 : Int32} {b4 b5 : Int64} {l ml : Int32} {f : Nat → Int32} {hs : List HE}  (g0 : G 0 = .inr (8, [.ref (ad 1), .ref (ad 8), .ref (ad 9), .ref (ad 19), .ref (ad 22), .ref (ad 24), .ref (ad 26), .ref (ad 28), .ref (ad 38), .int sn])) (g1 : G 1 = .inr (4, [.ref (ad 2), .ref (ad 3), .ref (ad 4), .ref (ad 5), .ref (ad 6)])) (g3 : G 3 = .inl (L.ac 0, 61, .inl tPer)) (g6 : G 6 = .inl (L.ac 0, 61, .inl tGp)) (g22 : G 22 = .inr (5, [.ref (ad 1), .ref (ad 23), .int l, .int ml])) (g23 : G 23 = .inl (L.ac 0, 61, .inl f)) (g4 : G 4 = .inl (L.ac 0, 61, .inl tUx)) (g5 : G 5 = .inl (L.ac 0, 61, .inl tUy)) (g8 : G 8 = .inr (1, [.int b1, .int b2, .int b3, .long b4, .long b5])) (hH : HistP L ad G hs) (hk : okH f) : GX L yX8_millBack cX8_millBack 2 ((some .long)) rm_X8_millBack 40 ad G [.ref (ad 0), .int n] (fun vo G' => ∃ (d : Nat) (h : Nat), vo = some (.long ((pwr d h).1)) ∧ (causeF f l 98 n = 0) ∧ (HistP L ad G' (hpush hs (f, l, ml))) ∧ (n = nI d) ∧ (2 ≤ d) ∧ (d ≤ 60) ∧ (pern d ≠ 0) ∧ (h ≤ gpn d) ∧ ((coF f l ml 98 n).1 d = nI h) ∧ G' 22 = .inr (5, [.ref (ad 1), .ref (ad 23), .int ((coF f l ml 98 n).2.1), .int ((coF f l ml 98 n).2.2)]) ∧ G' 23 = .inl (L.ac 0, 61, .inl ((coF f l ml 98 n).1)) ∧ G' 8 = .inr (1, [.int (tUx d), .int (tUy d), .int (nI d), .long ((pwr d h).1), .long ((pwr d h).2)]) ∧ Agr [22, 23, 28, 29, 30, 31, 32, 33, 34, 35, 36, 37, 8] G G') (fun e G2 => ((e = eIAE ∧ causeF f l 98 n = 1) ∨ (e = eISE ∧ ¬ causeF f l 98 n = 1 ∧ ¬ causeF f l 98 n = 0)) ∧ G = G2) := by
  refine GX.of (own := RX8) (lo := [(0, .ref (ad 0)), (1, .int n)]) (by decide +kernel) rfl rfl (Nat.le_of_ble_eq_true rfl) (fun E C hr hx => ?_)
  refine G_aload_n C 0 dX8_millBack_0 rfl rfl ?_
  refine G_bipush C (v := 98) dX8_millBack_1 (by decide) ?_
  refine G_iload_n C 1 dX8_millBack_3 rfl rfl ?_
  refine G_callVX C (As := [.int 98, .int n]) (rest := []) (c_X8_change g0 g1 g3 g6 g22 g23 hH) ca_X8_change km_X8_66 (by decide) g0 rfl rfl rfl rfl (by decide) (Nat.le_of_ble_eq_true rfl) (by decide) dX8_millBack_4 hx (by decide) (fun e G2 h => h) (fun vv1 gg2 qq3 => ?_)
  obtain ⟨rfl, pp4, pp5, hh6, hh7, aa8⟩ := qq3
  have AA9 : Agr [22, 23, 28, 29, 30, 31, 32, 33, 34, 35, 36, 37] G gg2 := aa8.wk (by simp)
  obtain ⟨d, k, hdn, hd2, hd60, hdp, hg, hf, hcv⟩ := back_v (ml := ml) hk pp4
  have hgg : k ≤ gpn d := by omega
  have hfd : (coF f l ml 98 n).1 d = nI k := by rw [hcv]; simp [upd]
  have hhd : hOf (coF f l ml 98 n).1 (nI d) = nI k := (hOf_d _ (by omega)).trans hfd
  refine G_aload_n C 0 dX8_millBack_7 rfl rfl ?_
  refine G_iload_n C 1 dX8_millBack_8 rfl rfl ?_
  refine GW.topr (y := nI d) hdn ?_
  refine G_callV C (As := [.int (nI d)]) (rest := []) (c_X8_powerOfLaid ((aa8 0 (by decide)).trans g0) ((aa8 1 (by decide)).trans g1) ((aa8 4 (by decide)).trans g4) ((aa8 5 (by decide)).trans g5) ((aa8 8 (by decide)).trans g8) hh6 hh7 hd60 hdp hgg hhd) ca_X8_powerOfLaid km_X8_78 (by decide) ((aa8 0 (by decide)).trans g0) rfl rfl rfl rfl (by decide) (Nat.le_of_ble_eq_true rfl) (by decide) dX8_millBack_9 (fun vv10 gg11 qq12 => ?_)
  obtain ⟨rfl, hh13, aa14⟩ := qq12
  have AA15 : Agr [22, 23, 28, 29, 30, 31, 32, 33, 34, 35, 36, 37, 8] G gg11 := AA9.tr aa14 (by simp) (by simp)
  have hY := HistP.keep pp5 (S := [8]) aa14 (by decide)
  refine G_get C 8 (by decide) hh13 rfl inA1 3 (by decide) rfl kf_X8_82 rfl dX8_millBack_12 ?_
  refine GW.widen (c1 := 1) (s1 := 6) (by decide) (by decide) ?_
  exact G_lret C hr dX8_millBack_15 ⟨_, _, rfl, pp4, hY, hdn, hd2, hd60, hdp, hgg, hfd, ((aa14 22 (by decide)).trans hh6), ((aa14 23 (by decide)).trans hh7), hh13, AA15⟩

