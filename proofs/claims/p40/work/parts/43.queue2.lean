/-- the queue with anything in it -/
def qQP (L : GL) (ad : Nat → Nat) (G : Nat → va_E) : Prop := ∃ (p nm kap : Nat → Nat) (sz : Nat), qQS G p nm kap sz ∧ G 9 = .inr (3, [.ref (ad 1), .ref (ad 10), .int (nI sz)]) ∧ G 10 = .inl (L.ac 4, 8, .inr (.inr (.inr (.inr (qwq ad p)))))
theorem qp_keep {L : GL} {ad : Nat → Nat} {G G2 : Nat → va_E} {S : List Nat} (h : qQP L ad G) (a : Agr S G G2) (d : ∀ j ∈ quI, j ∉ S) : qQP L ad G2 := by
  obtain ⟨p, nm, kap, sz, h1, h2, h3⟩ := h
  exact ⟨p, nm, kap, sz, qs_keep h1 a (fun j hj => d j (List.mem_cons_of_mem _ (List.mem_cons_of_mem _ hj))), (a 9 (d 9 (by decide))).trans h2, (a 10 (d 10 (by decide))).trans h3⟩
abbrev rm_X8_solutionByQueue : Room := ({ frames := 6, cells := 1, slots := 6, locals := 87 } : Room)
set_option maxRecDepth 100000 in
set_option maxHeartbeats 4000000 in
theorem c_X8_solutionByQueue {L : GL} {ad : Nat → Nat} {G : Nat → va_E} {sn : Int32} {l ml : Int32} {f : Nat → Int32} {n : Int32}  (g0 : G 0 = .inr (8, [.ref (ad 1), .ref (ad 8), .ref (ad 9), .ref (ad 19), .ref (ad 22), .ref (ad 24), .ref (ad 26), .ref (ad 28), .ref (ad 38), .int sn])) (g1 : G 1 = .inr (4, [.ref (ad 2), .ref (ad 3), .ref (ad 4), .ref (ad 5), .ref (ad 6)])) (g4 : G 4 = .inl (L.ac 0, 61, .inl tUx)) (g5 : G 5 = .inl (L.ac 0, 61, .inl tUy)) (g22 : G 22 = .inr (5, [.ref (ad 1), .ref (ad 23), .int l, .int ml])) (g23 : G 23 = .inl (L.ac 0, 61, .inl f)) (hk : okH f) (hL : okL f l) (hQ : qQP L ad G) : GX L yX8_solutionByQueue cX8_solutionByQueue 3 ((some (.object "PellMills$Power"))) rm_X8_solutionByQueue 40 ad G [.ref (ad 0), .int n] (fun vo G' => ∃ (c : Nat) (b : Nat) (p2 : Nat → Nat) (nm2 : Nat → Nat) (s2 : Nat), vo = some (.ref (ad (p2 b))) ∧ (n = nI c) ∧ (c < 2147483648) ∧ (lst (kp f c) ≠ 0) ∧ (b < s2) ∧ (nm2 b = lst (kp f c)) ∧ (qQS G' p2 nm2 (kp f c) s2) ∧ G' 9 = .inr (3, [.ref (ad 1), .ref (ad 10), .int (nI s2)]) ∧ G' 10 = .inl (L.ac 4, 8, .inr (.inr (.inr (.inr (qwq ad p2))))) ∧ Agr [9, 10, 11, 12, 13, 14, 15, 16, 17, 18] G G') (fun e G2 => (e = eIAE ∧ n < 0 ∧ G = G2) ∨ (∃ c, e = eNSE ∧ n = nI c ∧ c < 2147483648 ∧ lst (kp f c) = 0 ∧ qQP L ad G2 ∧ Agr quI G G2)) := by
  refine GX.of (own := RX8) (lo := [(0, .ref (ad 0)), (1, .int n)]) (by decide +kernel) rfl rfl (Nat.le_of_ble_eq_true rfl) (fun E C hr hx => ?_)
  obtain ⟨p, nm, kap, sz, hq, g9, g10⟩ := hQ
  refine G_iload_n C 1 dX8_solutionByQueue_0 rfl rfl ?_
  refine G_if_ge C 14 dX8_solutionByQueue_1 (by decide) (fun c1 => ?_) (fun c1 => ?_)
  · refine G_aload_n C 0 dX8_solutionByQueue_14 rfl rfl ?_
    refine G_get C 0 (by decide) g0 rfl inA8 2 (by decide) rfl kf_X8_28 rfl dX8_solutionByQueue_15 ?_
    obtain ⟨c, hc31, hnc⟩ := nI_of (x := n) (Int32.not_lt.mpr c1)
    refine G_aload_n C 0 dX8_solutionByQueue_18 rfl rfl ?_
    refine G_get C 0 (by decide) g0 rfl inA8 4 (by decide) rfl kf_X8_42 rfl dX8_solutionByQueue_19 ?_
    refine G_callV C (As := [.ref (ad 22)]) (rest := []) (c_X3_fill g9 g10 g22 g23 g1 g4 g5 hk hL hq) ca_X3_fill km_X8_267 (by decide) g9 rfl rfl rfl rfl (by decide) (Nat.le_of_ble_eq_true rfl) (by decide) dX8_solutionByQueue_22 (fun vv1 gg2 qq3 => ?_)
    obtain ⟨nm_4, s_5, rfl, pp6, pp7, hh8, hh9, aa10⟩ := qq3
    have AA11 : Agr [9, 10, 11, 12, 13, 14, 15, 16, 17, 18] G gg2 := aa10.wk (by simp)
    refine G_aload_n C 0 dX8_solutionByQueue_25 rfl rfl ?_
    refine G_get C 0 (by decide) ((aa10 0 (by decide)).trans g0) rfl inA8 2 (by decide) rfl kf_X8_28 rfl dX8_solutionByQueue_26 ?_
    refine G_iload_n C 1 dX8_solutionByQueue_29 rfl rfl ?_
    refine GW.topr (y := nI c) hnc ?_
    refine G_callV C (As := [.int (nI c)]) (rest := []) (c_X3_pass hh8 hh9 hk hc31 pp6 pp7) ca_X3_pass km_X8_268 (by decide) hh8 rfl rfl rfl rfl (by decide) (Nat.le_of_ble_eq_true rfl) (by decide) dX8_solutionByQueue_30 (fun vv12 gg13 qq14 => ?_)
    obtain ⟨p_15, nm_16, s_17, rfl, pp18, pp19, hh20, hh21, aa22⟩ := qq14
    have AA23 : Agr [9, 10, 11, 12, 13, 14, 15, 16, 17, 18] G gg13 := AA11.tr aa22 (by simp) (by simp)
    refine G_aload_n C 0 dX8_solutionByQueue_33 rfl rfl ?_
    refine G_get C 0 (by decide) ((aa22 0 (by decide)).trans ((aa10 0 (by decide)).trans g0)) rfl inA8 2 (by decide) rfl kf_X8_28 rfl dX8_solutionByQueue_34 ?_
    by_cases hz0 : s_17 = 0
    · have hlz : lst (kp f c) = 0 := cq_z (okK_p hk c) (hz0 ▸ pp19)
      refine G_callV C (As := []) (rest := []) (c_X3_first0 hh20 hh21 hz0) ca_X3_first km_X8_271 (by decide) hh20 rfl rfl rfl rfl (by decide) (Nat.le_of_ble_eq_true rfl) (by decide) dX8_solutionByQueue_37 (fun vv24 gg25 qq26 => ?_)
      obtain ⟨rfl, rfl⟩ := qq26
      refine G_astore_nN C 2 (lo' := [(2, .null), (0, .ref (ad 0)), (1, .int n)]) dX8_solutionByQueue_40 rfl (by decide) rfl ?_
      refine G_aload_nN C 2 dX8_solutionByQueue_41 rfl rfl ?_
      refine G_nonnullN C dX8_solutionByQueue_42 ?_
      exact G_throwX C hx th_NSE (text := "there are not so many solutions") (by decide) dX8_solutionByQueue_45 dX8_solutionByQueue_48 dX8_solutionByQueue_49 dX8_solutionByQueue_51 dX8_solutionByQueue_54 (by decide) (by decide) (by decide) (by decide) (Or.inr ⟨c, rfl, hnc, hc31, hlz, ⟨p_15, nm_16, kp f c, s_17, pp18, hh20, hh21⟩, AA23.wk (by simp)⟩)
    · have hz1 : 1 ≤ s_17 := Nat.pos_of_ne_zero hz0
      refine G_callV C (As := []) (rest := []) (c_X3_first1 hh20 hh21 pp18 pp19 hz1) ca_X3_first km_X8_271 (by decide) hh20 rfl rfl rfl rfl (by decide) (Nat.le_of_ble_eq_true rfl) (by decide) dX8_solutionByQueue_37 (fun vv27 gg28 qq29 => ?_)
      obtain ⟨b_30, rfl, pp31, pp32, rfl⟩ := qq29
      refine G_astore_n C 2 (lo' := [(2, .ref (ad (p_15 b_30))), (0, .ref (ad 0)), (1, .int n)]) dX8_solutionByQueue_40 rfl (by decide) rfl ?_
      refine G_aload_n C 2 dX8_solutionByQueue_41 rfl rfl ?_
      refine G_nonnull C 55 dX8_solutionByQueue_42 (by decide) ?_
      refine G_aload_n C 2 dX8_solutionByQueue_55 rfl rfl ?_
      refine GW.widen (c1 := 1) (s1 := 6) (by decide) (by decide) ?_
      exact G_aret C hr (Or.inl ⟨_, rfl⟩) (Or.inr ⟨_, rfl⟩) dX8_solutionByQueue_56 ⟨c, b_30, p_15, nm_16, s_17, rfl, hnc, hc31, (by have h9 := (kp_r hk pp32).1; have := (pp32).1; omega), pp31, (kp_r hk pp32).1.symm, pp18, hh20, hh21, AA23.wk (by simp)⟩
  · exact G_throw C hx th_IAE (text := "the place is below 0") (by decide) dX8_solutionByQueue_4 dX8_solutionByQueue_7 dX8_solutionByQueue_8 dX8_solutionByQueue_10 dX8_solutionByQueue_13 (by decide) (by decide) (by decide) (by decide) (Or.inl ⟨rfl, Int32.not_le.mp c1, rfl⟩)

abbrev rm_X8_xAt : Room := ({ frames := 7, cells := 1, slots := 6, locals := 109 } : Room)
set_option maxRecDepth 100000 in
set_option maxHeartbeats 4000000 in
theorem c_X8_xAt {L : GL} {ad : Nat → Nat} {G : Nat → va_E} {sn : Int32} {l ml : Int32} {f : Nat → Int32} {n : Int32}  (g0 : G 0 = .inr (8, [.ref (ad 1), .ref (ad 8), .ref (ad 9), .ref (ad 19), .ref (ad 22), .ref (ad 24), .ref (ad 26), .ref (ad 28), .ref (ad 38), .int sn])) (g1 : G 1 = .inr (4, [.ref (ad 2), .ref (ad 3), .ref (ad 4), .ref (ad 5), .ref (ad 6)])) (g4 : G 4 = .inl (L.ac 0, 61, .inl tUx)) (g5 : G 5 = .inl (L.ac 0, 61, .inl tUy)) (g22 : G 22 = .inr (5, [.ref (ad 1), .ref (ad 23), .int l, .int ml])) (g23 : G 23 = .inl (L.ac 0, 61, .inl f)) (hk : okH f) (hL : okL f l) (hQ : qQP L ad G) : GX L yX8_xAt cX8_xAt 2 ((some .long)) rm_X8_xAt 40 ad G [.ref (ad 0), .int n] (fun vo G' => ∃ (c : Nat), vo = some (.long (xa (kp f c) (lst (kp f c)))) ∧ (n = nI c) ∧ (c < 2147483648) ∧ (lst (kp f c) ≠ 0) ∧ (qQP L ad G') ∧ Agr [9, 10, 11, 12, 13, 14, 15, 16, 17, 18] G G') (fun e G2 => (e = eIAE ∧ n < 0 ∧ G = G2) ∨ (∃ c, e = eNSE ∧ n = nI c ∧ c < 2147483648 ∧ lst (kp f c) = 0 ∧ qQP L ad G2 ∧ Agr quI G G2)) := by
  refine GX.of (own := RX8) (lo := [(0, .ref (ad 0)), (1, .int n)]) (by decide +kernel) rfl rfl (Nat.le_of_ble_eq_true rfl) (fun E C hr hx => ?_)
  refine G_aload_n C 0 dX8_xAt_0 rfl rfl ?_
  refine G_iload_n C 1 dX8_xAt_1 rfl rfl ?_
  refine G_callVX C (As := [.int n]) (rest := []) (c_X8_solutionByQueue g0 g1 g4 g5 g22 g23 hk hL hQ) ca_X8_solutionByQueue km_X8_156 (by decide) g0 rfl rfl rfl rfl (by decide) (Nat.le_of_ble_eq_true rfl) (by decide) dX8_xAt_2 hx (by decide) (fun e G2 h => h) (fun vv1 gg2 qq3 => ?_)
  obtain ⟨c_4, b_5, p_6, nm_7, s_8, rfl, pp9, pp10, pp11, pp12, pp13, pp14, hh15, hh16, aa17⟩ := qq3
  have AA18 : Agr [9, 10, 11, 12, 13, 14, 15, 16, 17, 18] G gg2 := aa17.wk (by simp)
  have hz9 := pp14.2.2.2.2.1 b_5 pp12
  have hp9 := pp14.1 b_5 (by have := pp14.2.2.1; have := pp12; omega)
  refine G_get C (p_6 b_5) (show p_6 b_5 < 40 by omega) hz9.2.2.2.2.2 rfl inA1 3 (by decide) rfl kf_X8_82 rfl dX8_xAt_5 ?_
  refine GW.widen (c1 := 1) (s1 := 6) (by decide) (by decide) ?_
  exact G_lret C hr dX8_xAt_8 ⟨c_4, (by rw [← pp13, xa, xk, if_neg hz9.2.2.2.1]), pp9, pp10, pp11, ⟨p_6, nm_7, kp f c_4, s_8, pp14, hh15, hh16⟩, AA18⟩

abbrev rm_X8_stoneAt : Room := ({ frames := 7, cells := 1, slots := 6, locals := 109 } : Room)
set_option maxRecDepth 100000 in
set_option maxHeartbeats 4000000 in
theorem c_X8_stoneAt {L : GL} {ad : Nat → Nat} {G : Nat → va_E} {sn : Int32} {l ml : Int32} {f : Nat → Int32} {n : Int32}  (g0 : G 0 = .inr (8, [.ref (ad 1), .ref (ad 8), .ref (ad 9), .ref (ad 19), .ref (ad 22), .ref (ad 24), .ref (ad 26), .ref (ad 28), .ref (ad 38), .int sn])) (g1 : G 1 = .inr (4, [.ref (ad 2), .ref (ad 3), .ref (ad 4), .ref (ad 5), .ref (ad 6)])) (g4 : G 4 = .inl (L.ac 0, 61, .inl tUx)) (g5 : G 5 = .inl (L.ac 0, 61, .inl tUy)) (g22 : G 22 = .inr (5, [.ref (ad 1), .ref (ad 23), .int l, .int ml])) (g23 : G 23 = .inl (L.ac 0, 61, .inl f)) (hk : okH f) (hL : okL f l) (hQ : qQP L ad G) : GX L yX8_stoneAt cX8_stoneAt 2 ((some .int)) rm_X8_stoneAt 40 ad G [.ref (ad 0), .int n] (fun vo G' => ∃ (c : Nat), vo = some (.int (nI (lst (kp f c)))) ∧ (n = nI c) ∧ (c < 2147483648) ∧ (lst (kp f c) ≠ 0) ∧ (qQP L ad G') ∧ Agr [9, 10, 11, 12, 13, 14, 15, 16, 17, 18] G G') (fun e G2 => (e = eIAE ∧ n < 0 ∧ G = G2) ∨ (∃ c, e = eNSE ∧ n = nI c ∧ c < 2147483648 ∧ lst (kp f c) = 0 ∧ qQP L ad G2 ∧ Agr quI G G2)) := by
  refine GX.of (own := RX8) (lo := [(0, .ref (ad 0)), (1, .int n)]) (by decide +kernel) rfl rfl (Nat.le_of_ble_eq_true rfl) (fun E C hr hx => ?_)
  refine G_aload_n C 0 dX8_stoneAt_0 rfl rfl ?_
  refine G_iload_n C 1 dX8_stoneAt_1 rfl rfl ?_
  refine G_callVX C (As := [.int n]) (rest := []) (c_X8_solutionByQueue g0 g1 g4 g5 g22 g23 hk hL hQ) ca_X8_solutionByQueue km_X8_156 (by decide) g0 rfl rfl rfl rfl (by decide) (Nat.le_of_ble_eq_true rfl) (by decide) dX8_stoneAt_2 hx (by decide) (fun e G2 h => h) (fun vv1 gg2 qq3 => ?_)
  obtain ⟨c_4, b_5, p_6, nm_7, s_8, rfl, pp9, pp10, pp11, pp12, pp13, pp14, hh15, hh16, aa17⟩ := qq3
  have AA18 : Agr [9, 10, 11, 12, 13, 14, 15, 16, 17, 18] G gg2 := aa17.wk (by simp)
  have hz9 := pp14.2.2.2.2.1 b_5 pp12
  have hp9 := pp14.1 b_5 (by have := pp14.2.2.1; have := pp12; omega)
  refine G_get C (p_6 b_5) (show p_6 b_5 < 40 by omega) hz9.2.2.2.2.2 rfl inA1 2 (by decide) rfl kf_X8_173 rfl dX8_stoneAt_5 ?_
  refine GW.widen (c1 := 1) (s1 := 6) (by decide) (by decide) ?_
  exact G_zret C hr rfl dX8_stoneAt_8 ⟨c_4, (by rw [pp13]), pp9, pp10, pp11, ⟨p_6, nm_7, kp f c_4, s_8, pp14, hh15, hh16⟩, AA18⟩

