set_option maxRecDepth 100000 in
set_option maxHeartbeats 4000000 in
theorem LC_6 {L : GL} {E : GE} {ad : Nat → Nat} {G : Nat → va_E} {cs ss b Ls i : Nat} {xs : Nat → Int32} (C : gC L E cL_law RL 9 room_1) (hX : LWx L E b Ls xs) (hi : i + 3 ≤ Ls) (hLs : Ls ≤ 1536) (hcs : cs + 3 ≤ 601024 ∧ ss + 18 ≤ 7293034) (hI : LI L ad G) (K : ∀ G', LI L ad G' → GW L E 50 ad G' (cs + 3) (ss + 18) 1974 [(5, .int (nI i)), (4, .ref (ad 49)), (3, .ref (ad 48)), (2, .ref (ad 40)), (1, .ref (ad 0)), (0, .ref b)] []) : GW L E 50 ad G cs ss 542 [(5, .int (nI i)), (4, .ref (ad 49)), (3, .ref (ad 48)), (2, .ref (ad 40)), (1, .ref (ad 0)), (0, .ref b)] [] := by
  refine LI_elim hI (fun sn t1 t2 t3 t4 t5 b1 b2 b3 b4 b5 s0 q1 q2 q3 q4 q5 xz l ml f l2 ml2 f2 l3 ml3 f3 hs len od ps rs cu tx ik th m q te fx fy nx ny ux uy us px py sp bg fo le fi re ca f42 f43 pf tm xx yy ov ow g0 g1 g2 g3 g4 g5 g6 g8 g19 g20 g21 g22 g23 g24 g25 g26 g27 g38 g39 g40 g41 g42 g43 g44 g45 g46 g47 g48 g49 hH hQ hk hL hsg hP h4 hn6 htx he hkp => ?_)
  refine G_aload_n C 1 dL_law_542 rfl rfl ?_
  refine G_aload_n C 0 dL_law_543 rfl rfl ?_
  refine G_iload C dL_law_544 rfl ?_
  refine G_iconst C (v := 1) dL_law_546 (by decide) ?_
  refine G_iadd C dL_law_547 ?_
  refine GW.topr (cI_add (a := i) (b := 1) rfl rfl) ?_
  refine G_sld C hX (j := (i + 1)) (by omega) (by omega) dL_law_548 ?_
  refine G_aload_n C 0 dL_law_549 rfl rfl ?_
  refine G_iload C dL_law_550 rfl ?_
  refine G_iconst C (v := 2) dL_law_552 (by decide) ?_
  refine G_iadd C dL_law_553 ?_
  refine GW.topr (cI_add (a := i) (b := 2) rfl rfl) ?_
  refine G_sld C hX (j := (i + 2)) (by omega) (by omega) dL_law_554 ?_
  refine G_aload_n C 3 dL_law_555 rfl rfl ?_
  refine G_callSH C (As := [.ref (ad 0), .int (xs (i + 1)), .int (xs (i + 2)), .ref (ad 48)]) (rest := []) (w_termAt (c_X8_termAt2 g0 g1 g2 g3) g0 (fun v G2 hq => by obtain ⟨d, p, y1, y2, y3, y4, y5, rfl, _, _, _, _, _, _, _, ag⟩ := hq; exact ⟨⟨_, rfl⟩, (ag 48 (by decide)).trans g48⟩) (fun e G2 h => h.1.elim (fun z => Or.inl z.1) (fun z => z.2.2.elim (fun y => Or.inl y.1) (fun y => Or.inr y.1)))) ca_L_termAt km_L_140 rfl rfl (by decide) (Nat.le_of_ble_eq_true rfl) ⟨by show cs + 2 ≤ 601024; omega, by show ss + 12 ≤ 7293034; omega⟩ dL_law_556 (fun vv G9 hq9 => ?_)
  rcases hq9 with ⟨r, G1, hq1, rfl, k9, a9⟩ | ⟨hx1, rfl⟩ | ⟨hx1, rfl⟩
  · obtain ⟨d, p, y1, y2, y3, y4, y5, h9, q90, q91, q92, q93, q94, q95, o92, ag9⟩ := hq1
    obtain rfl := (sint_inj h9).symm
    have AA0 : Agr [2] G G1 := ag9
    have AA1 : Agr [2, 48] G G9 := AA0.tr a9 (by simp) (by simp)
    have BB2 : Agr [48] G1 G9 := a9.wk (by simp)
    have hp : pern d ≠ 0 := (sq_y q91 q92).mp (q90 ▸ q95)
    refine G_istore C (lo' := [(6, .int 0), (5, .int (nI i)), (4, .ref (ad 49)), (3, .ref (ad 48)), (2, .ref (ad 40)), (1, .ref (ad 0)), (0, .ref b)]) dL_law_559 (by decide) rfl ?_
    refine G_aload_n C 2 dL_law_561 rfl rfl ?_
    refine G_aload_n C 0 dL_law_562 rfl rfl ?_
    refine G_iload C dL_law_563 rfl ?_
    refine G_iconst C (v := 1) dL_law_565 (by decide) ?_
    refine G_iadd C dL_law_566 ?_
    refine GW.topr (cI_add (a := i) (b := 1) rfl rfl) ?_
    refine G_sld C hX (j := (i + 1)) (by omega) (by omega) dL_law_567 ?_
    refine G_aload_n C 0 dL_law_568 rfl rfl ?_
    refine G_iload C dL_law_569 rfl ?_
    refine G_iconst C (v := 2) dL_law_571 (by decide) ?_
    refine G_iadd C dL_law_572 ?_
    refine GW.topr (cI_add (a := i) (b := 2) rfl rfl) ?_
    refine G_sld C hX (j := (i + 2)) (by omega) (by omega) dL_law_573 ?_
    refine GW.top2r (y := nI p) (y2 := nI d) (q93) (q90) ?_
    refine G_callV C (As := [.int (nI d), .int (nI p)]) (rest := []) (c_X9_termAtR ((a9 40 (by decide)).trans ((ag9 40 (by decide)).trans g40)) q91 q92 hp q94) ca_X9_termAt km_L_143 (by decide) ((a9 40 (by decide)).trans ((ag9 40 (by decide)).trans g40)) rfl rfl rfl rfl (by decide) (Nat.le_of_ble_eq_true rfl) ⟨by show cs + 2 + 0 ≤ 601024; omega, by show ss + 12 + 0 ≤ 7293034; omega⟩ dL_law_574 (fun vv3 gg4 qq5 => ?_)
    obtain ⟨j_6, j_7, j_8, j_9, j_10, j_11, j_12, u_13, u_14, u_15, p_16, p_17, rfl, hh18, aa19⟩ := qq5
    have AA20 : Agr [2, 48, 40] G gg4 := AA1.tr aa19 (by simp) (by simp)
    have BB21 : Agr [48, 40] G1 gg4 := BB2.tr aa19 (by simp) (by simp)
    refine G_istore C (lo' := [(7, .int ((tsq d p).2.2)), (6, .int 0), (5, .int (nI i)), (4, .ref (ad 49)), (3, .ref (ad 48)), (2, .ref (ad 40)), (1, .ref (ad 0)), (0, .ref b)]) dL_law_577 (by decide) rfl ?_
    refine G_aload_n C 2 dL_law_579 rfl rfl ?_
    refine G_callV C (As := []) (rest := []) (c_X9_thrown hh18) ca_X9_thrown km_L_122 (by decide) hh18 rfl rfl rfl rfl (by decide) (Nat.le_of_ble_eq_true rfl) ⟨by show cs + 2 + 0 + 0 ≤ 601024; omega, by show ss + 12 + 0 + 0 ≤ 7293034; omega⟩ dL_law_580 (fun vv22 gg23 qq24 => ?_)
    obtain ⟨rfl, rfl⟩ := qq24
    refine G_iload C dL_law_583 rfl ?_
    refine G_icmp_eq C 590 dL_law_585 (by decide) (fun _ => ?_) (fun h => absurd h (by decide))
    refine G_iload C dL_law_590 rfl ?_
    refine G_if_ne C 607 dL_law_592 (by decide) (fun h => absurd h (by decide)) (fun _ => ?_)
    refine G_aload_n C 3 dL_law_595 rfl rfl ?_
    refine G_iconst C (v := 0) dL_law_596 (by decide) ?_
    refine G_laldN C 48 (by decide) 0 ((aa19 48 (by decide)).trans k9) rfl (by decide) (by omega) dL_law_597 ?_
    refine GW.toprl (y := ((tsq d p).2.2).toInt64) (pk_uLs) ?_
    refine G_iload C dL_law_598 rfl ?_
    refine G_i2l C dL_law_600 rfl ?_
    refine G_lc_eq C 607 dL_law_601 dL_law_602 (by decide) (fun c601 => ?_) (fun c601 => False.elim (c601 (rfl)))
    refine G_goto C 1974 dL_law_607 (by decide) ?_
    refine GW.pick [2, 3, 4, 5, 6, 7] [(5, .int (nI i)), (4, .ref (ad 49)), (3, .ref (ad 48)), (2, .ref (ad 40)), (1, .ref (ad 0)), (0, .ref b)] rfl ?_
    refine GW.widen (c1 := cs + 3) (s1 := ss + 18) (by show cs + 2 + 0 + 0 ≤ cs + 3; omega) (by show ss + 12 + 0 + 0 ≤ ss + 18; omega) ?_
    exact K _ (LI_mk  ((aa19 0 (by decide)).trans ((a9 0 (by decide)).trans ((ag9 0 (by decide)).trans g0))) ((aa19 1 (by decide)).trans ((a9 1 (by decide)).trans ((ag9 1 (by decide)).trans g1))) ((aa19 2 (by decide)).trans ((a9 2 (by decide)).trans o92)) ((aa19 3 (by decide)).trans ((a9 3 (by decide)).trans ((ag9 3 (by decide)).trans g3))) ((aa19 4 (by decide)).trans ((a9 4 (by decide)).trans ((ag9 4 (by decide)).trans g4))) ((aa19 5 (by decide)).trans ((a9 5 (by decide)).trans ((ag9 5 (by decide)).trans g5))) ((aa19 6 (by decide)).trans ((a9 6 (by decide)).trans ((ag9 6 (by decide)).trans g6))) ((aa19 8 (by decide)).trans ((a9 8 (by decide)).trans ((ag9 8 (by decide)).trans g8))) ((aa19 19 (by decide)).trans ((a9 19 (by decide)).trans ((ag9 19 (by decide)).trans g19))) ((aa19 20 (by decide)).trans ((a9 20 (by decide)).trans ((ag9 20 (by decide)).trans g20))) ((aa19 21 (by decide)).trans ((a9 21 (by decide)).trans ((ag9 21 (by decide)).trans g21))) ((aa19 22 (by decide)).trans ((a9 22 (by decide)).trans ((ag9 22 (by decide)).trans g22))) ((aa19 23 (by decide)).trans ((a9 23 (by decide)).trans ((ag9 23 (by decide)).trans g23))) ((aa19 24 (by decide)).trans ((a9 24 (by decide)).trans ((ag9 24 (by decide)).trans g24))) ((aa19 25 (by decide)).trans ((a9 25 (by decide)).trans ((ag9 25 (by decide)).trans g25))) ((aa19 26 (by decide)).trans ((a9 26 (by decide)).trans ((ag9 26 (by decide)).trans g26))) ((aa19 27 (by decide)).trans ((a9 27 (by decide)).trans ((ag9 27 (by decide)).trans g27))) ((aa19 38 (by decide)).trans ((a9 38 (by decide)).trans ((ag9 38 (by decide)).trans g38))) ((aa19 39 (by decide)).trans ((a9 39 (by decide)).trans ((ag9 39 (by decide)).trans g39))) hh18 ((aa19 41 (by decide)).trans ((a9 41 (by decide)).trans ((ag9 41 (by decide)).trans g41))) ((aa19 42 (by decide)).trans ((a9 42 (by decide)).trans ((ag9 42 (by decide)).trans g42))) ((aa19 43 (by decide)).trans ((a9 43 (by decide)).trans ((ag9 43 (by decide)).trans g43))) ((aa19 44 (by decide)).trans ((a9 44 (by decide)).trans ((ag9 44 (by decide)).trans g44))) ((aa19 45 (by decide)).trans ((a9 45 (by decide)).trans ((ag9 45 (by decide)).trans g45))) ((aa19 46 (by decide)).trans ((a9 46 (by decide)).trans ((ag9 46 (by decide)).trans g46))) ((aa19 47 (by decide)).trans ((a9 47 (by decide)).trans ((ag9 47 (by decide)).trans g47))) ((aa19 48 (by decide)).trans k9) ((aa19 49 (by decide)).trans ((a9 49 (by decide)).trans ((ag9 49 (by decide)).trans g49))) (hH.keep AA20 (by decide)) (qp_keep hQ AA20 (by decide)) (hk) (hL) (hsg) (hP) (h4) (hn6) (htx) (he) (hkp))
  · obtain ⟨z9, rfl⟩ := hx1
    by_cases hN : numF (xs (i + 1)) = 0
    · refine G_istore C (lo' := [(6, .int 1), (5, .int (nI i)), (4, .ref (ad 49)), (3, .ref (ad 48)), (2, .ref (ad 40)), (1, .ref (ad 0)), (0, .ref b)]) dL_law_559 (by decide) rfl ?_
      refine G_aload_n C 2 dL_law_561 rfl rfl ?_
      refine G_aload_n C 0 dL_law_562 rfl rfl ?_
      refine G_iload C dL_law_563 rfl ?_
      refine G_iconst C (v := 1) dL_law_565 (by decide) ?_
      refine G_iadd C dL_law_566 ?_
      refine GW.topr (cI_add (a := i) (b := 1) rfl rfl) ?_
      refine G_sld C hX (j := (i + 1)) (by omega) (by omega) dL_law_567 ?_
      refine G_aload_n C 0 dL_law_568 rfl rfl ?_
      refine G_iload C dL_law_569 rfl ?_
      refine G_iconst C (v := 2) dL_law_571 (by decide) ?_
      refine G_iadd C dL_law_572 ?_
      refine GW.topr (cI_add (a := i) (b := 2) rfl rfl) ?_
      refine G_sld C hX (j := (i + 2)) (by omega) (by omega) dL_law_573 ?_
      refine G_callV C (As := [.int (xs (i + 1)), .int (xs (i + 2))]) (rest := []) (c_X9_termAtA g40 hN) ca_X9_termAt km_L_143 (by decide) g40 rfl rfl rfl rfl (by decide) (Nat.le_of_ble_eq_true rfl) ⟨by show cs + 2 + 0 ≤ 601024; omega, by show ss + 12 + 0 ≤ 7293034; omega⟩ dL_law_574 (fun vv25 gg26 qq27 => ?_)
      obtain ⟨rfl, hh28, aa29⟩ := qq27
      have AA30 : Agr [40] G gg26 := aa29.wk (by simp)
      refine G_istore C (lo' := [(7, .int 0), (6, .int 1), (5, .int (nI i)), (4, .ref (ad 49)), (3, .ref (ad 48)), (2, .ref (ad 40)), (1, .ref (ad 0)), (0, .ref b)]) dL_law_577 (by decide) rfl ?_
      refine G_aload_n C 2 dL_law_579 rfl rfl ?_
      refine G_callV C (As := []) (rest := []) (c_X9_thrown hh28) ca_X9_thrown km_L_122 (by decide) hh28 rfl rfl rfl rfl (by decide) (Nat.le_of_ble_eq_true rfl) ⟨by show cs + 2 + 0 + 0 ≤ 601024; omega, by show ss + 12 + 0 + 0 ≤ 7293034; omega⟩ dL_law_580 (fun vv31 gg32 qq33 => ?_)
      obtain ⟨rfl, rfl⟩ := qq33
      refine G_iload C dL_law_583 rfl ?_
      refine G_icmp_eq C 590 dL_law_585 (by decide) (fun _ => ?_) (fun h => absurd h (by decide))
      refine G_iload C dL_law_590 rfl ?_
      refine G_if_ne C 607 dL_law_592 (by decide) (fun _ => ?_) (fun h => absurd h (by decide))
      refine G_goto C 1974 dL_law_607 (by decide) ?_
      refine GW.pick [2, 3, 4, 5, 6, 7] [(5, .int (nI i)), (4, .ref (ad 49)), (3, .ref (ad 48)), (2, .ref (ad 40)), (1, .ref (ad 0)), (0, .ref b)] rfl ?_
      refine GW.widen (c1 := cs + 3) (s1 := ss + 18) (by show cs + 2 + 0 + 0 ≤ cs + 3; omega) (by show ss + 12 + 0 + 0 ≤ ss + 18; omega) ?_
      exact K _ (LI_mk  ((aa29 0 (by decide)).trans g0) ((aa29 1 (by decide)).trans g1) ((aa29 2 (by decide)).trans g2) ((aa29 3 (by decide)).trans g3) ((aa29 4 (by decide)).trans g4) ((aa29 5 (by decide)).trans g5) ((aa29 6 (by decide)).trans g6) ((aa29 8 (by decide)).trans g8) ((aa29 19 (by decide)).trans g19) ((aa29 20 (by decide)).trans g20) ((aa29 21 (by decide)).trans g21) ((aa29 22 (by decide)).trans g22) ((aa29 23 (by decide)).trans g23) ((aa29 24 (by decide)).trans g24) ((aa29 25 (by decide)).trans g25) ((aa29 26 (by decide)).trans g26) ((aa29 27 (by decide)).trans g27) ((aa29 38 (by decide)).trans g38) ((aa29 39 (by decide)).trans g39) hh28 ((aa29 41 (by decide)).trans g41) ((aa29 42 (by decide)).trans g42) ((aa29 43 (by decide)).trans g43) ((aa29 44 (by decide)).trans g44) ((aa29 45 (by decide)).trans g45) ((aa29 46 (by decide)).trans g46) ((aa29 47 (by decide)).trans g47) ((aa29 48 (by decide)).trans g48) ((aa29 49 (by decide)).trans g49) (hH.keep AA30 (by decide)) (qp_keep hQ AA30 (by decide)) (hk) (hL) (hsg) (hP) (h4) (hn6) (htx) (he) (hkp))
    · obtain ⟨d, h2, h60, hn⟩ := num_nat hN
      have hpl : xs (i + 2) < 0 ∨ ¬ xs (i + 2) ≤ 99 := z9.elim (fun y => y.2) (fun y => y.2.2.elim (fun w => absurd w.2 hN) (fun w => absurd w.1 ne_AN))
      refine G_istore C (lo' := [(6, .int 1), (5, .int (nI i)), (4, .ref (ad 49)), (3, .ref (ad 48)), (2, .ref (ad 40)), (1, .ref (ad 0)), (0, .ref b)]) dL_law_559 (by decide) rfl ?_
      refine G_aload_n C 2 dL_law_561 rfl rfl ?_
      refine G_aload_n C 0 dL_law_562 rfl rfl ?_
      refine G_iload C dL_law_563 rfl ?_
      refine G_iconst C (v := 1) dL_law_565 (by decide) ?_
      refine G_iadd C dL_law_566 ?_
      refine GW.topr (cI_add (a := i) (b := 1) rfl rfl) ?_
      refine G_sld C hX (j := (i + 1)) (by omega) (by omega) dL_law_567 ?_
      refine G_aload_n C 0 dL_law_568 rfl rfl ?_
      refine G_iload C dL_law_569 rfl ?_
      refine G_iconst C (v := 2) dL_law_571 (by decide) ?_
      refine G_iadd C dL_law_572 ?_
      refine GW.topr (cI_add (a := i) (b := 2) rfl rfl) ?_
      refine G_sld C hX (j := (i + 2)) (by omega) (by omega) dL_law_573 ?_
      refine GW.top2r (y := xs (i + 2)) (y2 := nI d) (rfl) (hn) ?_
      refine G_callV C (As := [.int (nI d), .int (xs (i + 2))]) (rest := []) (c_X9_termAtB g40 h2 h60 hpl) ca_X9_termAt km_L_143 (by decide) g40 rfl rfl rfl rfl (by decide) (Nat.le_of_ble_eq_true rfl) ⟨by show cs + 2 + 0 ≤ 601024; omega, by show ss + 12 + 0 ≤ 7293034; omega⟩ dL_law_574 (fun vv34 gg35 qq36 => ?_)
      obtain ⟨rfl, hh37, aa38⟩ := qq36
      have AA39 : Agr [40] G gg35 := aa38.wk (by simp)
      refine G_istore C (lo' := [(7, .int 0), (6, .int 1), (5, .int (nI i)), (4, .ref (ad 49)), (3, .ref (ad 48)), (2, .ref (ad 40)), (1, .ref (ad 0)), (0, .ref b)]) dL_law_577 (by decide) rfl ?_
      refine G_aload_n C 2 dL_law_579 rfl rfl ?_
      refine G_callV C (As := []) (rest := []) (c_X9_thrown hh37) ca_X9_thrown km_L_122 (by decide) hh37 rfl rfl rfl rfl (by decide) (Nat.le_of_ble_eq_true rfl) ⟨by show cs + 2 + 0 + 0 ≤ 601024; omega, by show ss + 12 + 0 + 0 ≤ 7293034; omega⟩ dL_law_580 (fun vv40 gg41 qq42 => ?_)
      obtain ⟨rfl, rfl⟩ := qq42
      refine G_iload C dL_law_583 rfl ?_
      refine G_icmp_eq C 590 dL_law_585 (by decide) (fun _ => ?_) (fun h => absurd h (by decide))
      refine G_iload C dL_law_590 rfl ?_
      refine G_if_ne C 607 dL_law_592 (by decide) (fun _ => ?_) (fun h => absurd h (by decide))
      refine G_goto C 1974 dL_law_607 (by decide) ?_
      refine GW.pick [2, 3, 4, 5, 6, 7] [(5, .int (nI i)), (4, .ref (ad 49)), (3, .ref (ad 48)), (2, .ref (ad 40)), (1, .ref (ad 0)), (0, .ref b)] rfl ?_
      refine GW.widen (c1 := cs + 3) (s1 := ss + 18) (by show cs + 2 + 0 + 0 ≤ cs + 3; omega) (by show ss + 12 + 0 + 0 ≤ ss + 18; omega) ?_
      exact K _ (LI_mk  ((aa38 0 (by decide)).trans g0) ((aa38 1 (by decide)).trans g1) ((aa38 2 (by decide)).trans g2) ((aa38 3 (by decide)).trans g3) ((aa38 4 (by decide)).trans g4) ((aa38 5 (by decide)).trans g5) ((aa38 6 (by decide)).trans g6) ((aa38 8 (by decide)).trans g8) ((aa38 19 (by decide)).trans g19) ((aa38 20 (by decide)).trans g20) ((aa38 21 (by decide)).trans g21) ((aa38 22 (by decide)).trans g22) ((aa38 23 (by decide)).trans g23) ((aa38 24 (by decide)).trans g24) ((aa38 25 (by decide)).trans g25) ((aa38 26 (by decide)).trans g26) ((aa38 27 (by decide)).trans g27) ((aa38 38 (by decide)).trans g38) ((aa38 39 (by decide)).trans g39) hh37 ((aa38 41 (by decide)).trans g41) ((aa38 42 (by decide)).trans g42) ((aa38 43 (by decide)).trans g43) ((aa38 44 (by decide)).trans g44) ((aa38 45 (by decide)).trans g45) ((aa38 46 (by decide)).trans g46) ((aa38 47 (by decide)).trans g47) ((aa38 48 (by decide)).trans g48) ((aa38 49 (by decide)).trans g49) (hH.keep AA39 (by decide)) (qp_keep hQ AA39 (by decide)) (hk) (hL) (hsg) (hP) (h4) (hn6) (htx) (he) (hkp))
  · obtain ⟨z9, rfl⟩ := hx1
    have hPx := z9.elim (fun y => absurd y.1 ne_NA) (fun y => y)
    have hPy := hPx.2.2.elim (fun y => absurd y.1 ne_NA) (fun y => y.2)
    obtain ⟨d, h2, h60, hn⟩ := num_nat hPy.1
    obtain ⟨p, h99, hpn⟩ := tq_neg hPx.1 hPx.2.1
    have hp0 : pern d = 0 := Classical.byContradiction fun z => hPy.2 (hn ▸ (sq_y h2 h60).mpr z)
    refine G_istore C (lo' := [(6, .int 2), (5, .int (nI i)), (4, .ref (ad 49)), (3, .ref (ad 48)), (2, .ref (ad 40)), (1, .ref (ad 0)), (0, .ref b)]) dL_law_559 (by decide) rfl ?_
    refine G_aload_n C 2 dL_law_561 rfl rfl ?_
    refine G_aload_n C 0 dL_law_562 rfl rfl ?_
    refine G_iload C dL_law_563 rfl ?_
    refine G_iconst C (v := 1) dL_law_565 (by decide) ?_
    refine G_iadd C dL_law_566 ?_
    refine GW.topr (cI_add (a := i) (b := 1) rfl rfl) ?_
    refine G_sld C hX (j := (i + 1)) (by omega) (by omega) dL_law_567 ?_
    refine G_aload_n C 0 dL_law_568 rfl rfl ?_
    refine G_iload C dL_law_569 rfl ?_
    refine G_iconst C (v := 2) dL_law_571 (by decide) ?_
    refine G_iadd C dL_law_572 ?_
    refine GW.topr (cI_add (a := i) (b := 2) rfl rfl) ?_
    refine G_sld C hX (j := (i + 2)) (by omega) (by omega) dL_law_573 ?_
    refine GW.top2r (y := nI p) (y2 := nI d) (hpn) (hn) ?_
    refine G_callV C (As := [.int (nI d), .int (nI p)]) (rest := []) (c_X9_termAtQ g40 h2 h60 hp0 h99) ca_X9_termAt km_L_143 (by decide) g40 rfl rfl rfl rfl (by decide) (Nat.le_of_ble_eq_true rfl) ⟨by show cs + 2 + 0 ≤ 601024; omega, by show ss + 12 + 0 ≤ 7293034; omega⟩ dL_law_574 (fun vv43 gg44 qq45 => ?_)
    obtain ⟨rfl, hh46, aa47⟩ := qq45
    have AA48 : Agr [40] G gg44 := aa47.wk (by simp)
    refine G_istore C (lo' := [(7, .int 0), (6, .int 2), (5, .int (nI i)), (4, .ref (ad 49)), (3, .ref (ad 48)), (2, .ref (ad 40)), (1, .ref (ad 0)), (0, .ref b)]) dL_law_577 (by decide) rfl ?_
    refine G_aload_n C 2 dL_law_579 rfl rfl ?_
    refine G_callV C (As := []) (rest := []) (c_X9_thrown hh46) ca_X9_thrown km_L_122 (by decide) hh46 rfl rfl rfl rfl (by decide) (Nat.le_of_ble_eq_true rfl) ⟨by show cs + 2 + 0 + 0 ≤ 601024; omega, by show ss + 12 + 0 + 0 ≤ 7293034; omega⟩ dL_law_580 (fun vv49 gg50 qq51 => ?_)
    obtain ⟨rfl, rfl⟩ := qq51
    refine G_iload C dL_law_583 rfl ?_
    refine G_icmp_eq C 590 dL_law_585 (by decide) (fun _ => ?_) (fun h => absurd h (by decide))
    refine G_iload C dL_law_590 rfl ?_
    refine G_if_ne C 607 dL_law_592 (by decide) (fun _ => ?_) (fun h => absurd h (by decide))
    refine G_goto C 1974 dL_law_607 (by decide) ?_
    refine GW.pick [2, 3, 4, 5, 6, 7] [(5, .int (nI i)), (4, .ref (ad 49)), (3, .ref (ad 48)), (2, .ref (ad 40)), (1, .ref (ad 0)), (0, .ref b)] rfl ?_
    refine GW.widen (c1 := cs + 3) (s1 := ss + 18) (by show cs + 2 + 0 + 0 ≤ cs + 3; omega) (by show ss + 12 + 0 + 0 ≤ ss + 18; omega) ?_
    exact K _ (LI_mk  ((aa47 0 (by decide)).trans g0) ((aa47 1 (by decide)).trans g1) ((aa47 2 (by decide)).trans g2) ((aa47 3 (by decide)).trans g3) ((aa47 4 (by decide)).trans g4) ((aa47 5 (by decide)).trans g5) ((aa47 6 (by decide)).trans g6) ((aa47 8 (by decide)).trans g8) ((aa47 19 (by decide)).trans g19) ((aa47 20 (by decide)).trans g20) ((aa47 21 (by decide)).trans g21) ((aa47 22 (by decide)).trans g22) ((aa47 23 (by decide)).trans g23) ((aa47 24 (by decide)).trans g24) ((aa47 25 (by decide)).trans g25) ((aa47 26 (by decide)).trans g26) ((aa47 27 (by decide)).trans g27) ((aa47 38 (by decide)).trans g38) ((aa47 39 (by decide)).trans g39) hh46 ((aa47 41 (by decide)).trans g41) ((aa47 42 (by decide)).trans g42) ((aa47 43 (by decide)).trans g43) ((aa47 44 (by decide)).trans g44) ((aa47 45 (by decide)).trans g45) ((aa47 46 (by decide)).trans g46) ((aa47 47 (by decide)).trans g47) ((aa47 48 (by decide)).trans g48) ((aa47 49 (by decide)).trans g49) (hH.keep AA48 (by decide)) (qp_keep hQ AA48 (by decide)) (hk) (hL) (hsg) (hP) (h4) (hn6) (htx) (he) (hkp))

set_option maxRecDepth 100000 in
set_option maxHeartbeats 4000000 in
theorem LC_19 {L : GL} {E : GE} {ad : Nat → Nat} {G : Nat → va_E} {cs ss b Ls i : Nat} {xs : Nat → Int32} (C : gC L E cL_law RL 9 room_1) (hX : LWx L E b Ls xs) (hi : i + 3 ≤ Ls) (hLs : Ls ≤ 1536) (hcs : cs + 3 ≤ 601024 ∧ ss + 18 ≤ 7293034) (hI : LI L ad G) (K : ∀ G', LI L ad G' → GW L E 50 ad G' (cs + 3) (ss + 18) 1974 [(5, .int (nI i)), (4, .ref (ad 49)), (3, .ref (ad 48)), (2, .ref (ad 40)), (1, .ref (ad 0)), (0, .ref b)] []) : GW L E 50 ad G cs ss 1244 [(5, .int (nI i)), (4, .ref (ad 49)), (3, .ref (ad 48)), (2, .ref (ad 40)), (1, .ref (ad 0)), (0, .ref b)] [] := by
  refine LI_elim hI (fun sn t1 t2 t3 t4 t5 b1 b2 b3 b4 b5 s0 q1 q2 q3 q4 q5 xz l ml f l2 ml2 f2 l3 ml3 f3 hs len od ps rs cu tx ik th m q te fx fy nx ny ux uy us px py sp bg fo le fi re ca f42 f43 pf tm xx yy ov ow g0 g1 g2 g3 g4 g5 g6 g8 g19 g20 g21 g22 g23 g24 g25 g26 g27 g38 g39 g40 g41 g42 g43 g44 g45 g46 g47 g48 g49 hH hQ hk hL hsg hP h4 hn6 htx he hkp => ?_)
  refine G_aload_n C 1 dL_law_1244 rfl rfl ?_
  refine G_aload_n C 0 dL_law_1245 rfl rfl ?_
  refine G_iload C dL_law_1246 rfl ?_
  refine G_iconst C (v := 1) dL_law_1248 (by decide) ?_
  refine G_iadd C dL_law_1249 ?_
  refine GW.topr (cI_add (a := i) (b := 1) rfl rfl) ?_
  refine G_sld C hX (j := (i + 1)) (by omega) (by omega) dL_law_1250 ?_
  refine G_aload C dL_law_1251 rfl ?_
  refine G_callSH C (As := [.ref (ad 0), .int (xs (i + 1)), .ref (ad 49)]) (rest := []) (w_nearRoot (c_X8_nearRoot g0 g1 g4 g5 g8 g22 g23 hk) g0 (fun v G2 hq => by obtain ⟨d, h, rfl, hq0, hq1, hq2, hq3, hq4, hq5, hq6, _, ag⟩ := hq; exact ⟨⟨_, rfl, (nr_t (by have := hq2; omega) hq3 hq4 hq6).1⟩, (ag 49 (by decide)).trans g49⟩) (fun e G2 h => h.elim (fun z => z.1.elim (fun y => Or.inl y.1) (fun y => Or.inr y.1)) (fun ⟨_, _, _, _, _, _, _, _, z, _⟩ => Or.inr z))) ca_L_nearRoot km_L_181 rfl rfl (by decide) (Nat.le_of_ble_eq_true rfl) ⟨by show cs + 3 ≤ 601024; omega, by show ss + 18 ≤ 7293034; omega⟩ dL_law_1253 (fun vv G9 hq9 => ?_)
  rcases hq9 with ⟨r, G1, hq1, rfl, k9, a9⟩ | ⟨hx1, rfl⟩ | ⟨hx1, rfl⟩
  · obtain ⟨d, h, h9, q90, q91, q92, q93, q94, q95, q96, o98, ag9⟩ := hq1
    obtain rfl := (sflo_inj h9).symm
    have AA0 : Agr [8] G G1 := ag9
    have AA1 : Agr [8, 49] G G9 := AA0.tr a9 (by simp) (by simp)
    have BB2 : Agr [49] G1 G9 := a9.wk (by simp)
    have hf : f d = nI h := by rw [← hOf_d f (by have := q92; omega), ← q90]; exact q95
    have hnr := nr_t (by have := q92; omega) q93 q94 q96
    refine G_istore C (lo' := [(6, .int 0), (5, .int (nI i)), (4, .ref (ad 49)), (3, .ref (ad 48)), (2, .ref (ad 40)), (1, .ref (ad 0)), (0, .ref b)]) dL_law_1256 (by decide) rfl ?_
    refine G_aload_n C 2 dL_law_1258 rfl rfl ?_
    refine G_aload_n C 0 dL_law_1259 rfl rfl ?_
    refine G_iload C dL_law_1260 rfl ?_
    refine G_iconst C (v := 1) dL_law_1262 (by decide) ?_
    refine G_iadd C dL_law_1263 ?_
    refine GW.topr (cI_add (a := i) (b := 1) rfl rfl) ?_
    refine G_sld C hX (j := (i + 1)) (by omega) (by omega) dL_law_1264 ?_
    refine GW.topr (y := nI d) (q90) ?_
    refine G_callV C (As := [.int (nI d)]) (rest := []) (c_X9_nearRootR ((a9 40 (by decide)).trans ((ag9 40 (by decide)).trans g40)) ((a9 41 (by decide)).trans ((ag9 41 (by decide)).trans g41)) q91 q92 q93 q94 hf q96) ca_X9_nearRoot km_L_184 (by decide) ((a9 40 (by decide)).trans ((ag9 40 (by decide)).trans g40)) rfl rfl rfl rfl (by decide) (Nat.le_of_ble_eq_true rfl) ⟨by show cs + 3 + 0 ≤ 601024; omega, by show ss + 18 + 0 ≤ 7293034; omega⟩ dL_law_1265 (fun vv3 gg4 qq5 => ?_)
    obtain ⟨j_6, j_7, j_8, j_9, j_10, j_11, j_12, u_13, u_14, u_15, p_16, p_17, rfl, hh18, aa19⟩ := qq5
    have AA20 : Agr [8, 49, 40] G gg4 := AA1.tr aa19 (by simp) (by simp)
    have BB21 : Agr [49, 40] G1 gg4 := BB2.tr aa19 (by simp) (by simp)
    refine G_fstore C (lo' := [(7, .float (FP.fdiv (FP.l2f (pwr d h).1) (FP.l2f (pwr d h).2))), (6, .int 0), (5, .int (nI i)), (4, .ref (ad 49)), (3, .ref (ad 48)), (2, .ref (ad 40)), (1, .ref (ad 0)), (0, .ref b)]) dL_law_1268 (by decide) rfl ?_
    refine G_aload_n C 2 dL_law_1270 rfl rfl ?_
    refine G_callV C (As := []) (rest := []) (c_X9_thrown hh18) ca_X9_thrown km_L_122 (by decide) hh18 rfl rfl rfl rfl (by decide) (Nat.le_of_ble_eq_true rfl) ⟨by show cs + 3 + 0 + 0 ≤ 601024; omega, by show ss + 18 + 0 + 0 ≤ 7293034; omega⟩ dL_law_1271 (fun vv22 gg23 qq24 => ?_)
    obtain ⟨rfl, rfl⟩ := qq24
    refine G_iload C dL_law_1274 rfl ?_
    refine G_icmp_eq C 1281 dL_law_1276 (by decide) (fun _ => ?_) (fun h => absurd h (by decide))
    refine G_iload C dL_law_1281 rfl ?_
    refine G_if_ne C 1319 dL_law_1283 (by decide) (fun h => absurd h (by decide)) (fun _ => ?_)
    refine G_aload C dL_law_1286 rfl ?_
    refine G_iconst C (v := 0) dL_law_1288 (by decide) ?_
    refine G_daldN C 49 (by decide) 0 ((aa19 49 (by decide)).trans k9) rfl (by decide) (by omega) dL_law_1289 ?_
    refine G_fload C dL_law_1290 rfl ?_
    refine G_f2d C dL_law_1292 hnr.1 ?_
    refine G_dcmp C dL_law_1293 ?_
    refine G_if_eq C 1319 dL_law_1294 (by decide) (fun c1294 => ?_) (fun c1294 => False.elim (c1294 (by rw [vfu]; exact hnr.2)))
    refine G_goto C 1974 dL_law_1319 (by decide) ?_
    refine GW.pick [2, 3, 4, 5, 6, 7] [(5, .int (nI i)), (4, .ref (ad 49)), (3, .ref (ad 48)), (2, .ref (ad 40)), (1, .ref (ad 0)), (0, .ref b)] rfl ?_
    refine GW.widen (c1 := cs + 3) (s1 := ss + 18) (by show cs + 3 + 0 + 0 ≤ cs + 3; omega) (by show ss + 18 + 0 + 0 ≤ ss + 18; omega) ?_
    exact K _ (LI_mk  ((aa19 0 (by decide)).trans ((a9 0 (by decide)).trans ((ag9 0 (by decide)).trans g0))) ((aa19 1 (by decide)).trans ((a9 1 (by decide)).trans ((ag9 1 (by decide)).trans g1))) ((aa19 2 (by decide)).trans ((a9 2 (by decide)).trans ((ag9 2 (by decide)).trans g2))) ((aa19 3 (by decide)).trans ((a9 3 (by decide)).trans ((ag9 3 (by decide)).trans g3))) ((aa19 4 (by decide)).trans ((a9 4 (by decide)).trans ((ag9 4 (by decide)).trans g4))) ((aa19 5 (by decide)).trans ((a9 5 (by decide)).trans ((ag9 5 (by decide)).trans g5))) ((aa19 6 (by decide)).trans ((a9 6 (by decide)).trans ((ag9 6 (by decide)).trans g6))) ((aa19 8 (by decide)).trans ((a9 8 (by decide)).trans o98)) ((aa19 19 (by decide)).trans ((a9 19 (by decide)).trans ((ag9 19 (by decide)).trans g19))) ((aa19 20 (by decide)).trans ((a9 20 (by decide)).trans ((ag9 20 (by decide)).trans g20))) ((aa19 21 (by decide)).trans ((a9 21 (by decide)).trans ((ag9 21 (by decide)).trans g21))) ((aa19 22 (by decide)).trans ((a9 22 (by decide)).trans ((ag9 22 (by decide)).trans g22))) ((aa19 23 (by decide)).trans ((a9 23 (by decide)).trans ((ag9 23 (by decide)).trans g23))) ((aa19 24 (by decide)).trans ((a9 24 (by decide)).trans ((ag9 24 (by decide)).trans g24))) ((aa19 25 (by decide)).trans ((a9 25 (by decide)).trans ((ag9 25 (by decide)).trans g25))) ((aa19 26 (by decide)).trans ((a9 26 (by decide)).trans ((ag9 26 (by decide)).trans g26))) ((aa19 27 (by decide)).trans ((a9 27 (by decide)).trans ((ag9 27 (by decide)).trans g27))) ((aa19 38 (by decide)).trans ((a9 38 (by decide)).trans ((ag9 38 (by decide)).trans g38))) ((aa19 39 (by decide)).trans ((a9 39 (by decide)).trans ((ag9 39 (by decide)).trans g39))) hh18 ((aa19 41 (by decide)).trans ((a9 41 (by decide)).trans ((ag9 41 (by decide)).trans g41))) ((aa19 42 (by decide)).trans ((a9 42 (by decide)).trans ((ag9 42 (by decide)).trans g42))) ((aa19 43 (by decide)).trans ((a9 43 (by decide)).trans ((ag9 43 (by decide)).trans g43))) ((aa19 44 (by decide)).trans ((a9 44 (by decide)).trans ((ag9 44 (by decide)).trans g44))) ((aa19 45 (by decide)).trans ((a9 45 (by decide)).trans ((ag9 45 (by decide)).trans g45))) ((aa19 46 (by decide)).trans ((a9 46 (by decide)).trans ((ag9 46 (by decide)).trans g46))) ((aa19 47 (by decide)).trans ((a9 47 (by decide)).trans ((ag9 47 (by decide)).trans g47))) ((aa19 48 (by decide)).trans ((a9 48 (by decide)).trans ((ag9 48 (by decide)).trans g48))) ((aa19 49 (by decide)).trans k9) (hH.keep AA20 (by decide)) (qp_keep hQ AA20 (by decide)) (hk) (hL) (hsg) (hP) (h4) (hn6) (htx) (he) (hkp))
  · have hPx : numF (xs (i + 1)) = 0 ∧ G = G9 := hx1.elim (fun z => ⟨z.1.elim (fun y => y.2) (fun y => absurd y.1 ne_AN), z.2⟩) (fun ⟨_, _, _, _, _, _, _, _, z, _⟩ => absurd z ne_AN)
    obtain ⟨hPy, rfl⟩ := hPx
    refine G_istore C (lo' := [(6, .int 1), (5, .int (nI i)), (4, .ref (ad 49)), (3, .ref (ad 48)), (2, .ref (ad 40)), (1, .ref (ad 0)), (0, .ref b)]) dL_law_1256 (by decide) rfl ?_
    refine G_aload_n C 2 dL_law_1258 rfl rfl ?_
    refine G_aload_n C 0 dL_law_1259 rfl rfl ?_
    refine G_iload C dL_law_1260 rfl ?_
    refine G_iconst C (v := 1) dL_law_1262 (by decide) ?_
    refine G_iadd C dL_law_1263 ?_
    refine GW.topr (cI_add (a := i) (b := 1) rfl rfl) ?_
    refine G_sld C hX (j := (i + 1)) (by omega) (by omega) dL_law_1264 ?_
    refine G_callV C (As := [.int (xs (i + 1))]) (rest := []) (c_X9_nearRootA g40 hPy) ca_X9_nearRoot km_L_184 (by decide) g40 rfl rfl rfl rfl (by decide) (Nat.le_of_ble_eq_true rfl) ⟨by show cs + 3 + 0 ≤ 601024; omega, by show ss + 18 + 0 ≤ 7293034; omega⟩ dL_law_1265 (fun vv25 gg26 qq27 => ?_)
    obtain ⟨rfl, hh28, aa29⟩ := qq27
    have AA30 : Agr [40] G gg26 := aa29.wk (by simp)
    refine G_fstore C (lo' := [(7, .float FP.fconst0), (6, .int 1), (5, .int (nI i)), (4, .ref (ad 49)), (3, .ref (ad 48)), (2, .ref (ad 40)), (1, .ref (ad 0)), (0, .ref b)]) dL_law_1268 (by decide) rfl ?_
    refine G_aload_n C 2 dL_law_1270 rfl rfl ?_
    refine G_callV C (As := []) (rest := []) (c_X9_thrown hh28) ca_X9_thrown km_L_122 (by decide) hh28 rfl rfl rfl rfl (by decide) (Nat.le_of_ble_eq_true rfl) ⟨by show cs + 3 + 0 + 0 ≤ 601024; omega, by show ss + 18 + 0 + 0 ≤ 7293034; omega⟩ dL_law_1271 (fun vv31 gg32 qq33 => ?_)
    obtain ⟨rfl, rfl⟩ := qq33
    refine G_iload C dL_law_1274 rfl ?_
    refine G_icmp_eq C 1281 dL_law_1276 (by decide) (fun _ => ?_) (fun h => absurd h (by decide))
    refine G_iload C dL_law_1281 rfl ?_
    refine G_if_ne C 1319 dL_law_1283 (by decide) (fun _ => ?_) (fun h => absurd h (by decide))
    refine G_goto C 1974 dL_law_1319 (by decide) ?_
    refine GW.pick [2, 3, 4, 5, 6, 7] [(5, .int (nI i)), (4, .ref (ad 49)), (3, .ref (ad 48)), (2, .ref (ad 40)), (1, .ref (ad 0)), (0, .ref b)] rfl ?_
    refine GW.widen (c1 := cs + 3) (s1 := ss + 18) (by show cs + 3 + 0 + 0 ≤ cs + 3; omega) (by show ss + 18 + 0 + 0 ≤ ss + 18; omega) ?_
    exact K _ (LI_mk  ((aa29 0 (by decide)).trans g0) ((aa29 1 (by decide)).trans g1) ((aa29 2 (by decide)).trans g2) ((aa29 3 (by decide)).trans g3) ((aa29 4 (by decide)).trans g4) ((aa29 5 (by decide)).trans g5) ((aa29 6 (by decide)).trans g6) ((aa29 8 (by decide)).trans g8) ((aa29 19 (by decide)).trans g19) ((aa29 20 (by decide)).trans g20) ((aa29 21 (by decide)).trans g21) ((aa29 22 (by decide)).trans g22) ((aa29 23 (by decide)).trans g23) ((aa29 24 (by decide)).trans g24) ((aa29 25 (by decide)).trans g25) ((aa29 26 (by decide)).trans g26) ((aa29 27 (by decide)).trans g27) ((aa29 38 (by decide)).trans g38) ((aa29 39 (by decide)).trans g39) hh28 ((aa29 41 (by decide)).trans g41) ((aa29 42 (by decide)).trans g42) ((aa29 43 (by decide)).trans g43) ((aa29 44 (by decide)).trans g44) ((aa29 45 (by decide)).trans g45) ((aa29 46 (by decide)).trans g46) ((aa29 47 (by decide)).trans g47) ((aa29 48 (by decide)).trans g48) ((aa29 49 (by decide)).trans g49) (hH.keep AA30 (by decide)) (qp_keep hQ AA30 (by decide)) (hk) (hL) (hsg) (hP) (h4) (hn6) (htx) (he) (hkp))
  · rcases hx1 with ⟨z9, z8⟩ | ⟨d, h, hn, h2, h60, hp, h0, hf, -, k98, aX⟩
    · subst z8
      have hPx := z9.elim (fun y => absurd y.1 ne_NA) (fun y => y.2)
      obtain ⟨d, h2, h60, hn⟩ := num_nat (n := xs (i + 1)) hPx.1
      have hro := (has_lt hk h2 h60).mp (by rw [← hn]; exact hPx.2)
      refine G_istore C (lo' := [(6, .int 2), (5, .int (nI i)), (4, .ref (ad 49)), (3, .ref (ad 48)), (2, .ref (ad 40)), (1, .ref (ad 0)), (0, .ref b)]) dL_law_1256 (by decide) rfl ?_
      refine G_aload_n C 2 dL_law_1258 rfl rfl ?_
      refine G_aload_n C 0 dL_law_1259 rfl rfl ?_
      refine G_iload C dL_law_1260 rfl ?_
      refine G_iconst C (v := 1) dL_law_1262 (by decide) ?_
      refine G_iadd C dL_law_1263 ?_
      refine GW.topr (cI_add (a := i) (b := 1) rfl rfl) ?_
      refine G_sld C hX (j := (i + 1)) (by omega) (by omega) dL_law_1264 ?_
      refine GW.topr (y := nI d) (hn) ?_
      refine G_callV C (As := [.int (nI d)]) (rest := []) (c_X9_nearRootS g40 g41 h2 h60 hro) ca_X9_nearRoot km_L_184 (by decide) g40 rfl rfl rfl rfl (by decide) (Nat.le_of_ble_eq_true rfl) ⟨by show cs + 3 + 0 ≤ 601024; omega, by show ss + 18 + 0 ≤ 7293034; omega⟩ dL_law_1265 (fun vv34 gg35 qq36 => ?_)
      obtain ⟨rfl, hh37, aa38⟩ := qq36
      have AA39 : Agr [40] G gg35 := aa38.wk (by simp)
      refine G_fstore C (lo' := [(7, .float FP.fconst0), (6, .int 2), (5, .int (nI i)), (4, .ref (ad 49)), (3, .ref (ad 48)), (2, .ref (ad 40)), (1, .ref (ad 0)), (0, .ref b)]) dL_law_1268 (by decide) rfl ?_
      refine G_aload_n C 2 dL_law_1270 rfl rfl ?_
      refine G_callV C (As := []) (rest := []) (c_X9_thrown hh37) ca_X9_thrown km_L_122 (by decide) hh37 rfl rfl rfl rfl (by decide) (Nat.le_of_ble_eq_true rfl) ⟨by show cs + 3 + 0 + 0 ≤ 601024; omega, by show ss + 18 + 0 + 0 ≤ 7293034; omega⟩ dL_law_1271 (fun vv40 gg41 qq42 => ?_)
      obtain ⟨rfl, rfl⟩ := qq42
      refine G_iload C dL_law_1274 rfl ?_
      refine G_icmp_eq C 1281 dL_law_1276 (by decide) (fun _ => ?_) (fun h => absurd h (by decide))
      refine G_iload C dL_law_1281 rfl ?_
      refine G_if_ne C 1319 dL_law_1283 (by decide) (fun _ => ?_) (fun h => absurd h (by decide))
      refine G_goto C 1974 dL_law_1319 (by decide) ?_
      refine GW.pick [2, 3, 4, 5, 6, 7] [(5, .int (nI i)), (4, .ref (ad 49)), (3, .ref (ad 48)), (2, .ref (ad 40)), (1, .ref (ad 0)), (0, .ref b)] rfl ?_
      refine GW.widen (c1 := cs + 3) (s1 := ss + 18) (by show cs + 3 + 0 + 0 ≤ cs + 3; omega) (by show ss + 18 + 0 + 0 ≤ ss + 18; omega) ?_
      exact K _ (LI_mk  ((aa38 0 (by decide)).trans g0) ((aa38 1 (by decide)).trans g1) ((aa38 2 (by decide)).trans g2) ((aa38 3 (by decide)).trans g3) ((aa38 4 (by decide)).trans g4) ((aa38 5 (by decide)).trans g5) ((aa38 6 (by decide)).trans g6) ((aa38 8 (by decide)).trans g8) ((aa38 19 (by decide)).trans g19) ((aa38 20 (by decide)).trans g20) ((aa38 21 (by decide)).trans g21) ((aa38 22 (by decide)).trans g22) ((aa38 23 (by decide)).trans g23) ((aa38 24 (by decide)).trans g24) ((aa38 25 (by decide)).trans g25) ((aa38 26 (by decide)).trans g26) ((aa38 27 (by decide)).trans g27) ((aa38 38 (by decide)).trans g38) ((aa38 39 (by decide)).trans g39) hh37 ((aa38 41 (by decide)).trans g41) ((aa38 42 (by decide)).trans g42) ((aa38 43 (by decide)).trans g43) ((aa38 44 (by decide)).trans g44) ((aa38 45 (by decide)).trans g45) ((aa38 46 (by decide)).trans g46) ((aa38 47 (by decide)).trans g47) ((aa38 48 (by decide)).trans g48) ((aa38 49 (by decide)).trans g49) (hH.keep AA39 (by decide)) (qp_keep hQ AA39 (by decide)) (hk) (hL) (hsg) (hP) (h4) (hn6) (htx) (he) (hkp))
    · have hf0 : f d = nI 0 := by rw [← h0, ← hOf_d f (by omega), ← hn]; exact hf
      refine G_istore C (lo' := [(6, .int 2), (5, .int (nI i)), (4, .ref (ad 49)), (3, .ref (ad 48)), (2, .ref (ad 40)), (1, .ref (ad 0)), (0, .ref b)]) dL_law_1256 (by decide) rfl ?_
      refine G_aload_n C 2 dL_law_1258 rfl rfl ?_
      refine G_aload_n C 0 dL_law_1259 rfl rfl ?_
      refine G_iload C dL_law_1260 rfl ?_
      refine G_iconst C (v := 1) dL_law_1262 (by decide) ?_
      refine G_iadd C dL_law_1263 ?_
      refine GW.topr (cI_add (a := i) (b := 1) rfl rfl) ?_
      refine G_sld C hX (j := (i + 1)) (by omega) (by omega) dL_law_1264 ?_
      refine GW.topr (y := nI d) (hn) ?_
      refine G_callV C (As := [.int (nI d)]) (rest := []) (c_X9_nearRoot0 ((aX 40 (by decide)).trans g40) ((aX 41 (by decide)).trans g41) h2 h60 hp hf0) ca_X9_nearRoot km_L_184 (by decide) ((aX 40 (by decide)).trans g40) rfl rfl rfl rfl (by decide) (Nat.le_of_ble_eq_true rfl) ⟨by show cs + 3 + 0 ≤ 601024; omega, by show ss + 18 + 0 ≤ 7293034; omega⟩ dL_law_1265 (fun vv43 gg44 qq45 => ?_)
      obtain ⟨j_46, j_47, j_48, j_49, j_50, j_51, j_52, u_53, u_54, u_55, p_56, p_57, rfl, hh58, aa59⟩ := qq45
      have AA60 : Agr [8, 40] G gg44 := aX.tr aa59 (by simp) (by simp)
      have BB61 : Agr [40] G9 gg44 := aa59.wk (by simp)
      refine G_fstore C (lo' := [(7, .float FP.fconst0), (6, .int 2), (5, .int (nI i)), (4, .ref (ad 49)), (3, .ref (ad 48)), (2, .ref (ad 40)), (1, .ref (ad 0)), (0, .ref b)]) dL_law_1268 (by decide) rfl ?_
      refine G_aload_n C 2 dL_law_1270 rfl rfl ?_
      refine G_callV C (As := []) (rest := []) (c_X9_thrown hh58) ca_X9_thrown km_L_122 (by decide) hh58 rfl rfl rfl rfl (by decide) (Nat.le_of_ble_eq_true rfl) ⟨by show cs + 3 + 0 + 0 ≤ 601024; omega, by show ss + 18 + 0 + 0 ≤ 7293034; omega⟩ dL_law_1271 (fun vv62 gg63 qq64 => ?_)
      obtain ⟨rfl, rfl⟩ := qq64
      refine G_iload C dL_law_1274 rfl ?_
      refine G_icmp_eq C 1281 dL_law_1276 (by decide) (fun _ => ?_) (fun h => absurd h (by decide))
      refine G_iload C dL_law_1281 rfl ?_
      refine G_if_ne C 1319 dL_law_1283 (by decide) (fun _ => ?_) (fun h => absurd h (by decide))
      refine G_goto C 1974 dL_law_1319 (by decide) ?_
      refine GW.pick [2, 3, 4, 5, 6, 7] [(5, .int (nI i)), (4, .ref (ad 49)), (3, .ref (ad 48)), (2, .ref (ad 40)), (1, .ref (ad 0)), (0, .ref b)] rfl ?_
      refine GW.widen (c1 := cs + 3) (s1 := ss + 18) (by show cs + 3 + 0 + 0 ≤ cs + 3; omega) (by show ss + 18 + 0 + 0 ≤ ss + 18; omega) ?_
      exact K _ (LI_mk  ((aa59 0 (by decide)).trans ((aX 0 (by decide)).trans g0)) ((aa59 1 (by decide)).trans ((aX 1 (by decide)).trans g1)) ((aa59 2 (by decide)).trans ((aX 2 (by decide)).trans g2)) ((aa59 3 (by decide)).trans ((aX 3 (by decide)).trans g3)) ((aa59 4 (by decide)).trans ((aX 4 (by decide)).trans g4)) ((aa59 5 (by decide)).trans ((aX 5 (by decide)).trans g5)) ((aa59 6 (by decide)).trans ((aX 6 (by decide)).trans g6)) ((aa59 8 (by decide)).trans k98) ((aa59 19 (by decide)).trans ((aX 19 (by decide)).trans g19)) ((aa59 20 (by decide)).trans ((aX 20 (by decide)).trans g20)) ((aa59 21 (by decide)).trans ((aX 21 (by decide)).trans g21)) ((aa59 22 (by decide)).trans ((aX 22 (by decide)).trans g22)) ((aa59 23 (by decide)).trans ((aX 23 (by decide)).trans g23)) ((aa59 24 (by decide)).trans ((aX 24 (by decide)).trans g24)) ((aa59 25 (by decide)).trans ((aX 25 (by decide)).trans g25)) ((aa59 26 (by decide)).trans ((aX 26 (by decide)).trans g26)) ((aa59 27 (by decide)).trans ((aX 27 (by decide)).trans g27)) ((aa59 38 (by decide)).trans ((aX 38 (by decide)).trans g38)) ((aa59 39 (by decide)).trans ((aX 39 (by decide)).trans g39)) hh58 ((aa59 41 (by decide)).trans ((aX 41 (by decide)).trans g41)) ((aa59 42 (by decide)).trans ((aX 42 (by decide)).trans g42)) ((aa59 43 (by decide)).trans ((aX 43 (by decide)).trans g43)) ((aa59 44 (by decide)).trans ((aX 44 (by decide)).trans g44)) ((aa59 45 (by decide)).trans ((aX 45 (by decide)).trans g45)) ((aa59 46 (by decide)).trans ((aX 46 (by decide)).trans g46)) ((aa59 47 (by decide)).trans ((aX 47 (by decide)).trans g47)) ((aa59 48 (by decide)).trans ((aX 48 (by decide)).trans g48)) ((aa59 49 (by decide)).trans ((aX 49 (by decide)).trans g49)) (hH.keep AA60 (by decide)) (qp_keep hQ AA60 (by decide)) (hk) (hL) (hsg) (hP) (h4) (hn6) (htx) (he) (hkp))

set_option maxRecDepth 100000 in
set_option maxHeartbeats 4000000 in
theorem LC_30 {L : GL} {E : GE} {ad : Nat → Nat} {G : Nat → va_E} {cs ss b Ls i : Nat} {xs : Nat → Int32} (C : gC L E cL_law RL 9 room_1) (hX : LWx L E b Ls xs) (hi : i + 3 ≤ Ls) (hLs : Ls ≤ 1536) (hcs : cs + 3 ≤ 601024 ∧ ss + 18 ≤ 7293034) (hI : LI L ad G) (K : ∀ G', LI L ad G' → GW L E 50 ad G' (cs + 3) (ss + 18) 1974 [(5, .int (nI i)), (4, .ref (ad 49)), (3, .ref (ad 48)), (2, .ref (ad 40)), (1, .ref (ad 0)), (0, .ref b)] []) : GW L E 50 ad G cs ss 1685 [(5, .int (nI i)), (4, .ref (ad 49)), (3, .ref (ad 48)), (2, .ref (ad 40)), (1, .ref (ad 0)), (0, .ref b)] [] := by
  refine LI_elim hI (fun sn t1 t2 t3 t4 t5 b1 b2 b3 b4 b5 s0 q1 q2 q3 q4 q5 xz l ml f l2 ml2 f2 l3 ml3 f3 hs len od ps rs cu tx ik th m q te fx fy nx ny ux uy us px py sp bg fo le fi re ca f42 f43 pf tm xx yy ov ow g0 g1 g2 g3 g4 g5 g6 g8 g19 g20 g21 g22 g23 g24 g25 g26 g27 g38 g39 g40 g41 g42 g43 g44 g45 g46 g47 g48 g49 hH hQ hk hL hsg hP h4 hn6 htx he hkp => ?_)
  rcases hs_cases hs with hs0 | ⟨h0, e0, hs0⟩
  · subst hs0
    refine G_aload_n C 1 dL_law_1685 rfl rfl ?_
    refine G_aload_n C 3 dL_law_1686 rfl rfl ?_
    refine G_callSH C (As := [.ref (ad 0), .ref (ad 48)]) (rest := []) (w_undo0 (od := ov) (c_X8_undo0 g0 g22 g23 hH) g0 (fun v G2 hq => by obtain ⟨_, hF, _⟩ := hq; exact hF.elim) (fun e G2 h => h.1)) ca_L_undo km_L_224 rfl rfl (by decide) (Nat.le_of_ble_eq_true rfl) ⟨by show cs + 1 ≤ 601024; omega, by show ss + 6 ≤ 7293034; omega⟩ dL_law_1687 (fun vv G9 hq9 => ?_)
    rcases hq9 with ⟨r, G1, hq1, rfl, k9, a9⟩ | ⟨hx1, rfl⟩
    · obtain ⟨_, hF, _⟩ := hq1
      exact hF.elim
    · obtain ⟨-, rfl⟩ := hx1
      refine G_istore C (lo' := [(6, .int 1), (5, .int (nI i)), (4, .ref (ad 49)), (3, .ref (ad 48)), (2, .ref (ad 40)), (1, .ref (ad 0)), (0, .ref b)]) dL_law_1690 (by decide) rfl ?_
      refine G_aload_n C 2 dL_law_1692 rfl rfl ?_
      refine G_callV C (As := []) (rest := []) (c_X9_undoA g40) ca_X9_undo km_L_226 (by decide) g40 rfl rfl rfl rfl (by decide) (Nat.le_of_ble_eq_true rfl) ⟨by show cs + 1 + 0 ≤ 601024; omega, by show ss + 6 + 0 ≤ 7293034; omega⟩ dL_law_1693 (fun vv1 gg2 qq3 => ?_)
      obtain ⟨rfl, hh4, aa5⟩ := qq3
      have AA6 : Agr [40] G gg2 := aa5.wk (by simp)
      refine G_istore C (lo' := [(7, .int 0), (6, .int 1), (5, .int (nI i)), (4, .ref (ad 49)), (3, .ref (ad 48)), (2, .ref (ad 40)), (1, .ref (ad 0)), (0, .ref b)]) dL_law_1696 (by decide) rfl ?_
      refine G_aload_n C 2 dL_law_1698 rfl rfl ?_
      refine G_callV C (As := []) (rest := []) (c_X9_thrown hh4) ca_X9_thrown km_L_122 (by decide) hh4 rfl rfl rfl rfl (by decide) (Nat.le_of_ble_eq_true rfl) ⟨by show cs + 1 + 0 + 0 ≤ 601024; omega, by show ss + 6 + 0 + 0 ≤ 7293034; omega⟩ dL_law_1699 (fun vv7 gg8 qq9 => ?_)
      obtain ⟨rfl, rfl⟩ := qq9
      refine G_iload C dL_law_1702 rfl ?_
      refine G_icmp_eq C 1709 dL_law_1704 (by decide) (fun _ => ?_) (fun h => absurd h (by decide))
      refine G_iload C dL_law_1709 rfl ?_
      refine G_if_ne C 1726 dL_law_1711 (by decide) (fun _ => ?_) (fun h => absurd h (by decide))
      refine G_goto C 1974 dL_law_1726 (by decide) ?_
      refine GW.pick [2, 3, 4, 5, 6, 7] [(5, .int (nI i)), (4, .ref (ad 49)), (3, .ref (ad 48)), (2, .ref (ad 40)), (1, .ref (ad 0)), (0, .ref b)] rfl ?_
      refine GW.widen (c1 := cs + 3) (s1 := ss + 18) (by show cs + 1 + 0 + 0 ≤ cs + 3; omega) (by show ss + 6 + 0 + 0 ≤ ss + 18; omega) ?_
      exact K _ (LI_mk (hs := ([] : List HE)) ((aa5 0 (by decide)).trans g0) ((aa5 1 (by decide)).trans g1) ((aa5 2 (by decide)).trans g2) ((aa5 3 (by decide)).trans g3) ((aa5 4 (by decide)).trans g4) ((aa5 5 (by decide)).trans g5) ((aa5 6 (by decide)).trans g6) ((aa5 8 (by decide)).trans g8) ((aa5 19 (by decide)).trans g19) ((aa5 20 (by decide)).trans g20) ((aa5 21 (by decide)).trans g21) ((aa5 22 (by decide)).trans g22) ((aa5 23 (by decide)).trans g23) ((aa5 24 (by decide)).trans g24) ((aa5 25 (by decide)).trans g25) ((aa5 26 (by decide)).trans g26) ((aa5 27 (by decide)).trans g27) ((aa5 38 (by decide)).trans g38) ((aa5 39 (by decide)).trans g39) hh4 ((aa5 41 (by decide)).trans g41) ((aa5 42 (by decide)).trans g42) ((aa5 43 (by decide)).trans g43) ((aa5 44 (by decide)).trans g44) ((aa5 45 (by decide)).trans g45) ((aa5 46 (by decide)).trans g46) ((aa5 47 (by decide)).trans g47) ((aa5 48 (by decide)).trans g48) ((aa5 49 (by decide)).trans g49) (hH.keep AA6 (by decide)) (qp_keep hQ AA6 (by decide)) (hk) (hL) (hsg) (hP) (h4) (hn6) (htx) (he) (hkp))
  · subst hs0
    have h43 : h0.length + 1 ≤ 4 := by have := h4; rw [List.length_append] at this; exact this
    have h40 : G 40 = .inr (9, [.ref (ad 41), .ref (ad 42), .ref (ad 43), .int ik, .ref (ad 44), .int (nI (h0.length + 1)), .ref (ad 45), .int (nI len), .int th, .int m, .int q, .int te, .long fx, .long fy, .long nx, .long ny, .long ux, .long uy, .int us, .long px, .long py, .ref (ad 46), .ref (ad 47), .int sp, .int bg, .int fo, .int le, .int fi, .int re, .int ca]) := g40.trans (by rw [List.length_append]; rfl)
    refine G_aload_n C 1 dL_law_1685 rfl rfl ?_
    refine G_aload_n C 3 dL_law_1686 rfl rfl ?_
    refine G_callSH C (As := [.ref (ad 0), .ref (ad 48)]) (rest := []) (w_undo (c_X8_undo g0 g22 g23 hH) g0 (fun v G2 hq => by obtain ⟨rfl, _, _, _, ag⟩ := hq; exact ⟨⟨_, rfl⟩, (ag 48 (by decide)).trans g48⟩) (fun _ _ h => h.elim)) ca_L_undo km_L_224 rfl rfl (by decide) (Nat.le_of_ble_eq_true rfl) ⟨by show cs + 1 ≤ 601024; omega, by show ss + 6 ≤ 7293034; omega⟩ dL_law_1687 (fun vv G9 hq9 => ?_)
    rcases hq9 with ⟨r, G1, hq1, rfl, k9, a9⟩ | ⟨hx1, rfl⟩
    · obtain ⟨h9, q90, o922, o923, ag9⟩ := hq1
      obtain rfl := (sint_inj h9).symm
      have AA0 : Agr [28, 22, 23] G G1 := ag9
      have AA10 : Agr [28, 22, 23, 48] G G9 := AA0.tr a9 (by simp) (by simp)
      have BB11 : Agr [48] G1 G9 := a9.wk (by simp)
      refine G_istore C (lo' := [(6, .int 0), (5, .int (nI i)), (4, .ref (ad 49)), (3, .ref (ad 48)), (2, .ref (ad 40)), (1, .ref (ad 0)), (0, .ref b)]) dL_law_1690 (by decide) rfl ?_
      refine G_aload_n C 2 dL_law_1692 rfl rfl ?_
      refine G_callV C (As := []) (rest := []) (c_X9_undoR ((a9 40 (by decide)).trans ((ag9 40 (by decide)).trans h40)) ((a9 41 (by decide)).trans ((ag9 41 (by decide)).trans g41)) ((a9 44 (by decide)).trans ((ag9 44 (by decide)).trans g44)) hP h43) ca_X9_undo km_L_226 (by decide) ((a9 40 (by decide)).trans ((ag9 40 (by decide)).trans h40)) rfl rfl rfl rfl (by decide) (Nat.le_of_ble_eq_true rfl) ⟨by show cs + 1 + 0 ≤ 601024; omega, by show ss + 6 + 0 ≤ 7293034; omega⟩ dL_law_1693 (fun vv12 gg13 qq14 => ?_)
      obtain ⟨rfl, pp15, hh16, hh17, aa18⟩ := qq14
      have AA19 : Agr [28, 22, 23, 48, 40, 41] G gg13 := AA10.tr aa18 (by simp) (by simp)
      have BB20 : Agr [48, 40, 41] G1 gg13 := BB11.tr aa18 (by simp) (by simp)
      refine G_istore C (lo' := [(7, .int (nI h0.length)), (6, .int 0), (5, .int (nI i)), (4, .ref (ad 49)), (3, .ref (ad 48)), (2, .ref (ad 40)), (1, .ref (ad 0)), (0, .ref b)]) dL_law_1696 (by decide) rfl ?_
      refine G_aload_n C 2 dL_law_1698 rfl rfl ?_
      refine G_callV C (As := []) (rest := []) (c_X9_thrown hh16) ca_X9_thrown km_L_122 (by decide) hh16 rfl rfl rfl rfl (by decide) (Nat.le_of_ble_eq_true rfl) ⟨by show cs + 1 + 0 + 0 ≤ 601024; omega, by show ss + 6 + 0 + 0 ≤ 7293034; omega⟩ dL_law_1699 (fun vv21 gg22 qq23 => ?_)
      obtain ⟨rfl, rfl⟩ := qq23
      refine G_iload C dL_law_1702 rfl ?_
      refine G_icmp_eq C 1709 dL_law_1704 (by decide) (fun _ => ?_) (fun h => absurd h (by decide))
      refine G_iload C dL_law_1709 rfl ?_
      refine G_if_ne C 1726 dL_law_1711 (by decide) (fun h => absurd h (by decide)) (fun _ => ?_)
      refine G_aload_n C 3 dL_law_1714 rfl rfl ?_
      refine G_iconst C (v := 0) dL_law_1715 (by decide) ?_
      refine G_laldN C 48 (by decide) 0 ((aa18 48 (by decide)).trans k9) rfl (by decide) (by omega) dL_law_1716 ?_
      refine GW.toprl (y := (nI h0.length).toInt64) (pk_uLs) ?_
      refine G_iload C dL_law_1717 rfl ?_
      refine G_i2l C dL_law_1719 rfl ?_
      refine G_lc_eq C 1726 dL_law_1720 dL_law_1721 (by decide) (fun c1720 => ?_) (fun c1720 => False.elim (c1720 (rfl)))
      refine G_goto C 1974 dL_law_1726 (by decide) ?_
      refine GW.pick [2, 3, 4, 5, 6, 7] [(5, .int (nI i)), (4, .ref (ad 49)), (3, .ref (ad 48)), (2, .ref (ad 40)), (1, .ref (ad 0)), (0, .ref b)] rfl ?_
      refine GW.widen (c1 := cs + 3) (s1 := ss + 18) (by show cs + 1 + 0 + 0 ≤ cs + 3; omega) (by show ss + 6 + 0 + 0 ≤ ss + 18; omega) ?_
      exact K _ (LI_mk (hs := h0) ((aa18 0 (by decide)).trans ((a9 0 (by decide)).trans ((ag9 0 (by decide)).trans g0))) ((aa18 1 (by decide)).trans ((a9 1 (by decide)).trans ((ag9 1 (by decide)).trans g1))) ((aa18 2 (by decide)).trans ((a9 2 (by decide)).trans ((ag9 2 (by decide)).trans g2))) ((aa18 3 (by decide)).trans ((a9 3 (by decide)).trans ((ag9 3 (by decide)).trans g3))) ((aa18 4 (by decide)).trans ((a9 4 (by decide)).trans ((ag9 4 (by decide)).trans g4))) ((aa18 5 (by decide)).trans ((a9 5 (by decide)).trans ((ag9 5 (by decide)).trans g5))) ((aa18 6 (by decide)).trans ((a9 6 (by decide)).trans ((ag9 6 (by decide)).trans g6))) ((aa18 8 (by decide)).trans ((a9 8 (by decide)).trans ((ag9 8 (by decide)).trans g8))) ((aa18 19 (by decide)).trans ((a9 19 (by decide)).trans ((ag9 19 (by decide)).trans g19))) ((aa18 20 (by decide)).trans ((a9 20 (by decide)).trans ((ag9 20 (by decide)).trans g20))) ((aa18 21 (by decide)).trans ((a9 21 (by decide)).trans ((ag9 21 (by decide)).trans g21))) ((aa18 22 (by decide)).trans ((a9 22 (by decide)).trans o922)) ((aa18 23 (by decide)).trans ((a9 23 (by decide)).trans o923)) ((aa18 24 (by decide)).trans ((a9 24 (by decide)).trans ((ag9 24 (by decide)).trans g24))) ((aa18 25 (by decide)).trans ((a9 25 (by decide)).trans ((ag9 25 (by decide)).trans g25))) ((aa18 26 (by decide)).trans ((a9 26 (by decide)).trans ((ag9 26 (by decide)).trans g26))) ((aa18 27 (by decide)).trans ((a9 27 (by decide)).trans ((ag9 27 (by decide)).trans g27))) ((aa18 38 (by decide)).trans ((a9 38 (by decide)).trans ((ag9 38 (by decide)).trans g38))) ((aa18 39 (by decide)).trans ((a9 39 (by decide)).trans ((ag9 39 (by decide)).trans g39))) hh16 hh17 ((aa18 42 (by decide)).trans ((a9 42 (by decide)).trans ((ag9 42 (by decide)).trans g42))) ((aa18 43 (by decide)).trans ((a9 43 (by decide)).trans ((ag9 43 (by decide)).trans g43))) ((aa18 44 (by decide)).trans ((a9 44 (by decide)).trans ((ag9 44 (by decide)).trans g44))) ((aa18 45 (by decide)).trans ((a9 45 (by decide)).trans ((ag9 45 (by decide)).trans g45))) ((aa18 46 (by decide)).trans ((a9 46 (by decide)).trans ((ag9 46 (by decide)).trans g46))) ((aa18 47 (by decide)).trans ((a9 47 (by decide)).trans ((ag9 47 (by decide)).trans g47))) ((aa18 48 (by decide)).trans k9) ((aa18 49 (by decide)).trans ((a9 49 (by decide)).trans ((ag9 49 (by decide)).trans g49))) (q90.keep BB20 (by decide)) (qp_keep hQ AA19 (by decide)) ((hsg e0 (List.mem_append_right _ (List.mem_singleton.mpr rfl))).1) ((hsg e0 (List.mem_append_right _ (List.mem_singleton.mpr rfl))).2) (fun e he9 => hsg e (List.mem_append_left _ he9)) (pp15) (Nat.le_of_lt h43) (hn6) (htx) (he) (hkp))
    · exact hx1.elim

set_option maxRecDepth 100000 in
set_option maxHeartbeats 4000000 in
theorem LC_31 {L : GL} {E : GE} {ad : Nat → Nat} {G : Nat → va_E} {cs ss b Ls i : Nat} {xs : Nat → Int32} (C : gC L E cL_law RL 9 room_1) (hX : LWx L E b Ls xs) (hi : i + 3 ≤ Ls) (hLs : Ls ≤ 1536) (hcs : cs + 3 ≤ 601024 ∧ ss + 18 ≤ 7293034) (hI : LI L ad G) (K : ∀ G', LI L ad G' → GW L E 50 ad G' (cs + 3) (ss + 18) 1974 [(5, .int (nI i)), (4, .ref (ad 49)), (3, .ref (ad 48)), (2, .ref (ad 40)), (1, .ref (ad 0)), (0, .ref b)] []) : GW L E 50 ad G cs ss 1729 [(5, .int (nI i)), (4, .ref (ad 49)), (3, .ref (ad 48)), (2, .ref (ad 40)), (1, .ref (ad 0)), (0, .ref b)] [] := by
  refine LI_elim hI (fun sn t1 t2 t3 t4 t5 b1 b2 b3 b4 b5 s0 q1 q2 q3 q4 q5 xz l ml f l2 ml2 f2 l3 ml3 f3 hs len od ps rs cu tx ik th m q te fx fy nx ny ux uy us px py sp bg fo le fi re ca f42 f43 pf tm xx yy ov ow g0 g1 g2 g3 g4 g5 g6 g8 g19 g20 g21 g22 g23 g24 g25 g26 g27 g38 g39 g40 g41 g42 g43 g44 g45 g46 g47 g48 g49 hH hQ hk hL hsg hP h4 hn6 htx he hkp => ?_)
  rcases Nat.lt_or_ge len 60 with hlt | hge
  · have hlt9 := hlt
    refine G_aload_n C 1 dL_law_1729 rfl rfl ?_
    refine G_aload_n C 0 dL_law_1730 rfl rfl ?_
    refine G_iload C dL_law_1731 rfl ?_
    refine G_iconst C (v := 1) dL_law_1733 (by decide) ?_
    refine G_iadd C dL_law_1734 ?_
    refine GW.topr (cI_add (a := i) (b := 1) rfl rfl) ?_
    refine G_sld C hX (j := (i + 1)) (by omega) (by omega) dL_law_1735 ?_
    refine G_aload_n C 3 dL_law_1736 rfl rfl ?_
    refine G_callSH C (As := [.ref (ad 0), .int (xs (i + 1)), .ref (ad 48)]) (rest := []) (w_type (c_X8_type g0 g38 g39 hlt) g0 (fun v G2 hq => by obtain ⟨rfl, _, _, _, _, ag⟩ := hq; exact ⟨⟨_, rfl⟩, (ag 48 (by decide)).trans g48⟩) (fun e G2 h => Or.inl h.1)) ca_L_type km_L_227 rfl rfl (by decide) (Nat.le_of_ble_eq_true rfl) ⟨by show cs + 1 ≤ 601024; omega, by show ss + 6 ≤ 7293034; omega⟩ dL_law_1737 (fun vv G9 hq9 => ?_)
    rcases hq9 with ⟨r, G1, hq1, rfl, k9, a9⟩ | ⟨hx1, rfl⟩ | ⟨hx1, rfl⟩
    · obtain ⟨h9, q90, q91, o938, o939, ag9⟩ := hq1
      obtain rfl := (sint_inj h9).symm
      have AA0 : Agr [38, 39] G G1 := ag9
      have AA1 : Agr [38, 39, 48] G G9 := AA0.tr a9 (by simp) (by simp)
      have BB2 : Agr [48] G1 G9 := a9.wk (by simp)
      refine G_istore C (lo' := [(6, .int 0), (5, .int (nI i)), (4, .ref (ad 49)), (3, .ref (ad 48)), (2, .ref (ad 40)), (1, .ref (ad 0)), (0, .ref b)]) dL_law_1740 (by decide) rfl ?_
      refine G_aload_n C 2 dL_law_1742 rfl rfl ?_
      refine G_aload_n C 0 dL_law_1743 rfl rfl ?_
      refine G_iload C dL_law_1744 rfl ?_
      refine G_iconst C (v := 1) dL_law_1746 (by decide) ?_
      refine G_iadd C dL_law_1747 ?_
      refine GW.topr (cI_add (a := i) (b := 1) rfl rfl) ?_
      refine G_sld C hX (j := (i + 1)) (by omega) (by omega) dL_law_1748 ?_
      refine G_callV C (As := [.int (xs (i + 1))]) (rest := []) (c_X9_typeR ((a9 40 (by decide)).trans ((ag9 40 (by decide)).trans g40)) ((a9 45 (by decide)).trans ((ag9 45 (by decide)).trans g45)) q90 q91 hlt) ca_X9_type km_L_229 (by decide) ((a9 40 (by decide)).trans ((ag9 40 (by decide)).trans g40)) rfl rfl rfl rfl (by decide) (Nat.le_of_ble_eq_true rfl) ⟨by show cs + 1 + 0 ≤ 601024; omega, by show ss + 6 + 0 ≤ 7293034; omega⟩ dL_law_1749 (fun vv3 gg4 qq5 => ?_)
      obtain ⟨rfl, hh6, hh7, aa8⟩ := qq5
      have AA9 : Agr [38, 39, 48, 40, 45] G gg4 := AA1.tr aa8 (by simp) (by simp)
      have BB10 : Agr [48, 40, 45] G1 gg4 := BB2.tr aa8 (by simp) (by simp)
      refine G_istore C (lo' := [(7, .int (nI (len + 1))), (6, .int 0), (5, .int (nI i)), (4, .ref (ad 49)), (3, .ref (ad 48)), (2, .ref (ad 40)), (1, .ref (ad 0)), (0, .ref b)]) dL_law_1752 (by decide) rfl ?_
      refine G_aload_n C 2 dL_law_1754 rfl rfl ?_
      refine G_callV C (As := []) (rest := []) (c_X9_thrown hh6) ca_X9_thrown km_L_122 (by decide) hh6 rfl rfl rfl rfl (by decide) (Nat.le_of_ble_eq_true rfl) ⟨by show cs + 1 + 0 + 0 ≤ 601024; omega, by show ss + 6 + 0 + 0 ≤ 7293034; omega⟩ dL_law_1755 (fun vv11 gg12 qq13 => ?_)
      obtain ⟨rfl, rfl⟩ := qq13
      refine G_iload C dL_law_1758 rfl ?_
      refine G_icmp_eq C 1765 dL_law_1760 (by decide) (fun _ => ?_) (fun h => absurd h (by decide))
      refine G_iload C dL_law_1765 rfl ?_
      refine G_if_ne C 1782 dL_law_1767 (by decide) (fun h => absurd h (by decide)) (fun _ => ?_)
      refine G_aload_n C 3 dL_law_1770 rfl rfl ?_
      refine G_iconst C (v := 0) dL_law_1771 (by decide) ?_
      refine G_laldN C 48 (by decide) 0 ((aa8 48 (by decide)).trans k9) rfl (by decide) (by omega) dL_law_1772 ?_
      refine GW.toprl (y := (nI (len + 1)).toInt64) (pk_uLs) ?_
      refine G_iload C dL_law_1773 rfl ?_
      refine G_i2l C dL_law_1775 rfl ?_
      refine G_lc_eq C 1782 dL_law_1776 dL_law_1777 (by decide) (fun c1776 => ?_) (fun c1776 => False.elim (c1776 (rfl)))
      refine G_goto C 1974 dL_law_1782 (by decide) ?_
      refine GW.pick [2, 3, 4, 5, 6, 7] [(5, .int (nI i)), (4, .ref (ad 49)), (3, .ref (ad 48)), (2, .ref (ad 40)), (1, .ref (ad 0)), (0, .ref b)] rfl ?_
      refine GW.widen (c1 := cs + 3) (s1 := ss + 18) (by show cs + 1 + 0 + 0 ≤ cs + 3; omega) (by show ss + 6 + 0 + 0 ≤ ss + 18; omega) ?_
      exact K _ (LI_mk (len := (len + 1)) ((aa8 0 (by decide)).trans ((a9 0 (by decide)).trans ((ag9 0 (by decide)).trans g0))) ((aa8 1 (by decide)).trans ((a9 1 (by decide)).trans ((ag9 1 (by decide)).trans g1))) ((aa8 2 (by decide)).trans ((a9 2 (by decide)).trans ((ag9 2 (by decide)).trans g2))) ((aa8 3 (by decide)).trans ((a9 3 (by decide)).trans ((ag9 3 (by decide)).trans g3))) ((aa8 4 (by decide)).trans ((a9 4 (by decide)).trans ((ag9 4 (by decide)).trans g4))) ((aa8 5 (by decide)).trans ((a9 5 (by decide)).trans ((ag9 5 (by decide)).trans g5))) ((aa8 6 (by decide)).trans ((a9 6 (by decide)).trans ((ag9 6 (by decide)).trans g6))) ((aa8 8 (by decide)).trans ((a9 8 (by decide)).trans ((ag9 8 (by decide)).trans g8))) ((aa8 19 (by decide)).trans ((a9 19 (by decide)).trans ((ag9 19 (by decide)).trans g19))) ((aa8 20 (by decide)).trans ((a9 20 (by decide)).trans ((ag9 20 (by decide)).trans g20))) ((aa8 21 (by decide)).trans ((a9 21 (by decide)).trans ((ag9 21 (by decide)).trans g21))) ((aa8 22 (by decide)).trans ((a9 22 (by decide)).trans ((ag9 22 (by decide)).trans g22))) ((aa8 23 (by decide)).trans ((a9 23 (by decide)).trans ((ag9 23 (by decide)).trans g23))) ((aa8 24 (by decide)).trans ((a9 24 (by decide)).trans ((ag9 24 (by decide)).trans g24))) ((aa8 25 (by decide)).trans ((a9 25 (by decide)).trans ((ag9 25 (by decide)).trans g25))) ((aa8 26 (by decide)).trans ((a9 26 (by decide)).trans ((ag9 26 (by decide)).trans g26))) ((aa8 27 (by decide)).trans ((a9 27 (by decide)).trans ((ag9 27 (by decide)).trans g27))) ((aa8 38 (by decide)).trans ((a9 38 (by decide)).trans o938)) ((aa8 39 (by decide)).trans ((a9 39 (by decide)).trans o939)) hh6 ((aa8 41 (by decide)).trans ((a9 41 (by decide)).trans ((ag9 41 (by decide)).trans g41))) ((aa8 42 (by decide)).trans ((a9 42 (by decide)).trans ((ag9 42 (by decide)).trans g42))) ((aa8 43 (by decide)).trans ((a9 43 (by decide)).trans ((ag9 43 (by decide)).trans g43))) ((aa8 44 (by decide)).trans ((a9 44 (by decide)).trans ((ag9 44 (by decide)).trans g44))) hh7 ((aa8 46 (by decide)).trans ((a9 46 (by decide)).trans ((ag9 46 (by decide)).trans g46))) ((aa8 47 (by decide)).trans ((a9 47 (by decide)).trans ((ag9 47 (by decide)).trans g47))) ((aa8 48 (by decide)).trans k9) ((aa8 49 (by decide)).trans ((a9 49 (by decide)).trans ((ag9 49 (by decide)).trans g49))) (hH.keep AA9 (by decide)) (qp_keep hQ AA9 (by decide)) (hk) (hL) (hsg) (hP) (h4) (hlt) (ty_tx q90 q91 htx) (ty_he q90 q91 he) (hkp))
    · obtain ⟨-, hPx, rfl⟩ := hx1
      refine G_istore C (lo' := [(6, .int 1), (5, .int (nI i)), (4, .ref (ad 49)), (3, .ref (ad 48)), (2, .ref (ad 40)), (1, .ref (ad 0)), (0, .ref b)]) dL_law_1740 (by decide) rfl ?_
      refine G_aload_n C 2 dL_law_1742 rfl rfl ?_
      refine G_aload_n C 0 dL_law_1743 rfl rfl ?_
      refine G_iload C dL_law_1744 rfl ?_
      refine G_iconst C (v := 1) dL_law_1746 (by decide) ?_
      refine G_iadd C dL_law_1747 ?_
      refine GW.topr (cI_add (a := i) (b := 1) rfl rfl) ?_
      refine G_sld C hX (j := (i + 1)) (by omega) (by omega) dL_law_1748 ?_
      refine G_callV C (As := [.int (xs (i + 1))]) (rest := []) (c_X9_typeA g40 hPx) ca_X9_type km_L_229 (by decide) g40 rfl rfl rfl rfl (by decide) (Nat.le_of_ble_eq_true rfl) ⟨by show cs + 1 + 0 ≤ 601024; omega, by show ss + 6 + 0 ≤ 7293034; omega⟩ dL_law_1749 (fun vv14 gg15 qq16 => ?_)
      obtain ⟨rfl, hh17, aa18⟩ := qq16
      have AA19 : Agr [40] G gg15 := aa18.wk (by simp)
      refine G_istore C (lo' := [(7, .int 0), (6, .int 1), (5, .int (nI i)), (4, .ref (ad 49)), (3, .ref (ad 48)), (2, .ref (ad 40)), (1, .ref (ad 0)), (0, .ref b)]) dL_law_1752 (by decide) rfl ?_
      refine G_aload_n C 2 dL_law_1754 rfl rfl ?_
      refine G_callV C (As := []) (rest := []) (c_X9_thrown hh17) ca_X9_thrown km_L_122 (by decide) hh17 rfl rfl rfl rfl (by decide) (Nat.le_of_ble_eq_true rfl) ⟨by show cs + 1 + 0 + 0 ≤ 601024; omega, by show ss + 6 + 0 + 0 ≤ 7293034; omega⟩ dL_law_1755 (fun vv20 gg21 qq22 => ?_)
      obtain ⟨rfl, rfl⟩ := qq22
      refine G_iload C dL_law_1758 rfl ?_
      refine G_icmp_eq C 1765 dL_law_1760 (by decide) (fun _ => ?_) (fun h => absurd h (by decide))
      refine G_iload C dL_law_1765 rfl ?_
      refine G_if_ne C 1782 dL_law_1767 (by decide) (fun _ => ?_) (fun h => absurd h (by decide))
      refine G_goto C 1974 dL_law_1782 (by decide) ?_
      refine GW.pick [2, 3, 4, 5, 6, 7] [(5, .int (nI i)), (4, .ref (ad 49)), (3, .ref (ad 48)), (2, .ref (ad 40)), (1, .ref (ad 0)), (0, .ref b)] rfl ?_
      refine GW.widen (c1 := cs + 3) (s1 := ss + 18) (by show cs + 1 + 0 + 0 ≤ cs + 3; omega) (by show ss + 6 + 0 + 0 ≤ ss + 18; omega) ?_
      exact K _ (LI_mk  ((aa18 0 (by decide)).trans g0) ((aa18 1 (by decide)).trans g1) ((aa18 2 (by decide)).trans g2) ((aa18 3 (by decide)).trans g3) ((aa18 4 (by decide)).trans g4) ((aa18 5 (by decide)).trans g5) ((aa18 6 (by decide)).trans g6) ((aa18 8 (by decide)).trans g8) ((aa18 19 (by decide)).trans g19) ((aa18 20 (by decide)).trans g20) ((aa18 21 (by decide)).trans g21) ((aa18 22 (by decide)).trans g22) ((aa18 23 (by decide)).trans g23) ((aa18 24 (by decide)).trans g24) ((aa18 25 (by decide)).trans g25) ((aa18 26 (by decide)).trans g26) ((aa18 27 (by decide)).trans g27) ((aa18 38 (by decide)).trans g38) ((aa18 39 (by decide)).trans g39) hh17 ((aa18 41 (by decide)).trans g41) ((aa18 42 (by decide)).trans g42) ((aa18 43 (by decide)).trans g43) ((aa18 44 (by decide)).trans g44) ((aa18 45 (by decide)).trans g45) ((aa18 46 (by decide)).trans g46) ((aa18 47 (by decide)).trans g47) ((aa18 48 (by decide)).trans g48) ((aa18 49 (by decide)).trans g49) (hH.keep AA19 (by decide)) (qp_keep hQ AA19 (by decide)) (hk) (hL) (hsg) (hP) (h4) (hn6) (htx) (he) (hkp))
    · exact absurd hx1.1 ne_IA
  · obtain rfl : len = 60 := by omega
    refine G_aload_n C 1 dL_law_1729 rfl rfl ?_
    refine G_aload_n C 0 dL_law_1730 rfl rfl ?_
    refine G_iload C dL_law_1731 rfl ?_
    refine G_iconst C (v := 1) dL_law_1733 (by decide) ?_
    refine G_iadd C dL_law_1734 ?_
    refine GW.topr (cI_add (a := i) (b := 1) rfl rfl) ?_
    refine G_sld C hX (j := (i + 1)) (by omega) (by omega) dL_law_1735 ?_
    refine G_aload_n C 3 dL_law_1736 rfl rfl ?_
    refine G_callSH C (As := [.ref (ad 0), .int (xs (i + 1)), .ref (ad 48)]) (rest := []) (w_typeFull (od := ov) (c_X8_typeFull g0 g38 g39) g0 (fun v G2 hq => by obtain ⟨_, hF, _⟩ := hq; exact hF.elim) (fun e G2 h => h.1.elim (fun z => Or.inl z.1) (fun z => Or.inr z.1))) ca_L_type km_L_227 rfl rfl (by decide) (Nat.le_of_ble_eq_true rfl) ⟨by show cs + 1 ≤ 601024; omega, by show ss + 6 ≤ 7293034; omega⟩ dL_law_1737 (fun vv G9 hq9 => ?_)
    rcases hq9 with ⟨r, G1, hq1, rfl, k9, a9⟩ | ⟨hx1, rfl⟩ | ⟨hx1, rfl⟩
    · obtain ⟨_, hF, _⟩ := hq1
      exact hF.elim
    · obtain ⟨z9, rfl⟩ := hx1
      have hPx := z9.elim (fun y => y.2) (fun y => absurd y.1 ne_AI)
      refine G_istore C (lo' := [(6, .int 1), (5, .int (nI i)), (4, .ref (ad 49)), (3, .ref (ad 48)), (2, .ref (ad 40)), (1, .ref (ad 0)), (0, .ref b)]) dL_law_1740 (by decide) rfl ?_
      refine G_aload_n C 2 dL_law_1742 rfl rfl ?_
      refine G_aload_n C 0 dL_law_1743 rfl rfl ?_
      refine G_iload C dL_law_1744 rfl ?_
      refine G_iconst C (v := 1) dL_law_1746 (by decide) ?_
      refine G_iadd C dL_law_1747 ?_
      refine GW.topr (cI_add (a := i) (b := 1) rfl rfl) ?_
      refine G_sld C hX (j := (i + 1)) (by omega) (by omega) dL_law_1748 ?_
      refine G_callV C (As := [.int (xs (i + 1))]) (rest := []) (c_X9_typeA g40 hPx) ca_X9_type km_L_229 (by decide) g40 rfl rfl rfl rfl (by decide) (Nat.le_of_ble_eq_true rfl) ⟨by show cs + 1 + 0 ≤ 601024; omega, by show ss + 6 + 0 ≤ 7293034; omega⟩ dL_law_1749 (fun vv23 gg24 qq25 => ?_)
      obtain ⟨rfl, hh26, aa27⟩ := qq25
      have AA28 : Agr [40] G gg24 := aa27.wk (by simp)
      refine G_istore C (lo' := [(7, .int 0), (6, .int 1), (5, .int (nI i)), (4, .ref (ad 49)), (3, .ref (ad 48)), (2, .ref (ad 40)), (1, .ref (ad 0)), (0, .ref b)]) dL_law_1752 (by decide) rfl ?_
      refine G_aload_n C 2 dL_law_1754 rfl rfl ?_
      refine G_callV C (As := []) (rest := []) (c_X9_thrown hh26) ca_X9_thrown km_L_122 (by decide) hh26 rfl rfl rfl rfl (by decide) (Nat.le_of_ble_eq_true rfl) ⟨by show cs + 1 + 0 + 0 ≤ 601024; omega, by show ss + 6 + 0 + 0 ≤ 7293034; omega⟩ dL_law_1755 (fun vv29 gg30 qq31 => ?_)
      obtain ⟨rfl, rfl⟩ := qq31
      refine G_iload C dL_law_1758 rfl ?_
      refine G_icmp_eq C 1765 dL_law_1760 (by decide) (fun _ => ?_) (fun h => absurd h (by decide))
      refine G_iload C dL_law_1765 rfl ?_
      refine G_if_ne C 1782 dL_law_1767 (by decide) (fun _ => ?_) (fun h => absurd h (by decide))
      refine G_goto C 1974 dL_law_1782 (by decide) ?_
      refine GW.pick [2, 3, 4, 5, 6, 7] [(5, .int (nI i)), (4, .ref (ad 49)), (3, .ref (ad 48)), (2, .ref (ad 40)), (1, .ref (ad 0)), (0, .ref b)] rfl ?_
      refine GW.widen (c1 := cs + 3) (s1 := ss + 18) (by show cs + 1 + 0 + 0 ≤ cs + 3; omega) (by show ss + 6 + 0 + 0 ≤ ss + 18; omega) ?_
      exact K _ (LI_mk (len := 60) ((aa27 0 (by decide)).trans g0) ((aa27 1 (by decide)).trans g1) ((aa27 2 (by decide)).trans g2) ((aa27 3 (by decide)).trans g3) ((aa27 4 (by decide)).trans g4) ((aa27 5 (by decide)).trans g5) ((aa27 6 (by decide)).trans g6) ((aa27 8 (by decide)).trans g8) ((aa27 19 (by decide)).trans g19) ((aa27 20 (by decide)).trans g20) ((aa27 21 (by decide)).trans g21) ((aa27 22 (by decide)).trans g22) ((aa27 23 (by decide)).trans g23) ((aa27 24 (by decide)).trans g24) ((aa27 25 (by decide)).trans g25) ((aa27 26 (by decide)).trans g26) ((aa27 27 (by decide)).trans g27) ((aa27 38 (by decide)).trans g38) ((aa27 39 (by decide)).trans g39) hh26 ((aa27 41 (by decide)).trans g41) ((aa27 42 (by decide)).trans g42) ((aa27 43 (by decide)).trans g43) ((aa27 44 (by decide)).trans g44) ((aa27 45 (by decide)).trans g45) ((aa27 46 (by decide)).trans g46) ((aa27 47 (by decide)).trans g47) ((aa27 48 (by decide)).trans g48) ((aa27 49 (by decide)).trans g49) (hH.keep AA28 (by decide)) (qp_keep hQ AA28 (by decide)) (hk) (hL) (hsg) (hP) (h4) (hn6) (htx) (he) (hkp))
    · obtain ⟨z9, rfl⟩ := hx1
      have hPx := z9.elim (fun y => absurd y.1 ne_IA) (fun y => y.2)
      refine G_istore C (lo' := [(6, .int 2), (5, .int (nI i)), (4, .ref (ad 49)), (3, .ref (ad 48)), (2, .ref (ad 40)), (1, .ref (ad 0)), (0, .ref b)]) dL_law_1740 (by decide) rfl ?_
      refine G_aload_n C 2 dL_law_1742 rfl rfl ?_
      refine G_aload_n C 0 dL_law_1743 rfl rfl ?_
      refine G_iload C dL_law_1744 rfl ?_
      refine G_iconst C (v := 1) dL_law_1746 (by decide) ?_
      refine G_iadd C dL_law_1747 ?_
      refine GW.topr (cI_add (a := i) (b := 1) rfl rfl) ?_
      refine G_sld C hX (j := (i + 1)) (by omega) (by omega) dL_law_1748 ?_
      refine G_callV C (As := [.int (xs (i + 1))]) (rest := []) (c_X9_typeF g40 hPx.1 hPx.2) ca_X9_type km_L_229 (by decide) g40 rfl rfl rfl rfl (by decide) (Nat.le_of_ble_eq_true rfl) ⟨by show cs + 1 + 0 ≤ 601024; omega, by show ss + 6 + 0 ≤ 7293034; omega⟩ dL_law_1749 (fun vv32 gg33 qq34 => ?_)
      obtain ⟨rfl, hh35, aa36⟩ := qq34
      have AA37 : Agr [40] G gg33 := aa36.wk (by simp)
      refine G_istore C (lo' := [(7, .int 0), (6, .int 2), (5, .int (nI i)), (4, .ref (ad 49)), (3, .ref (ad 48)), (2, .ref (ad 40)), (1, .ref (ad 0)), (0, .ref b)]) dL_law_1752 (by decide) rfl ?_
      refine G_aload_n C 2 dL_law_1754 rfl rfl ?_
      refine G_callV C (As := []) (rest := []) (c_X9_thrown hh35) ca_X9_thrown km_L_122 (by decide) hh35 rfl rfl rfl rfl (by decide) (Nat.le_of_ble_eq_true rfl) ⟨by show cs + 1 + 0 + 0 ≤ 601024; omega, by show ss + 6 + 0 + 0 ≤ 7293034; omega⟩ dL_law_1755 (fun vv38 gg39 qq40 => ?_)
      obtain ⟨rfl, rfl⟩ := qq40
      refine G_iload C dL_law_1758 rfl ?_
      refine G_icmp_eq C 1765 dL_law_1760 (by decide) (fun _ => ?_) (fun h => absurd h (by decide))
      refine G_iload C dL_law_1765 rfl ?_
      refine G_if_ne C 1782 dL_law_1767 (by decide) (fun _ => ?_) (fun h => absurd h (by decide))
      refine G_goto C 1974 dL_law_1782 (by decide) ?_
      refine GW.pick [2, 3, 4, 5, 6, 7] [(5, .int (nI i)), (4, .ref (ad 49)), (3, .ref (ad 48)), (2, .ref (ad 40)), (1, .ref (ad 0)), (0, .ref b)] rfl ?_
      refine GW.widen (c1 := cs + 3) (s1 := ss + 18) (by show cs + 1 + 0 + 0 ≤ cs + 3; omega) (by show ss + 6 + 0 + 0 ≤ ss + 18; omega) ?_
      exact K _ (LI_mk (len := 60) ((aa36 0 (by decide)).trans g0) ((aa36 1 (by decide)).trans g1) ((aa36 2 (by decide)).trans g2) ((aa36 3 (by decide)).trans g3) ((aa36 4 (by decide)).trans g4) ((aa36 5 (by decide)).trans g5) ((aa36 6 (by decide)).trans g6) ((aa36 8 (by decide)).trans g8) ((aa36 19 (by decide)).trans g19) ((aa36 20 (by decide)).trans g20) ((aa36 21 (by decide)).trans g21) ((aa36 22 (by decide)).trans g22) ((aa36 23 (by decide)).trans g23) ((aa36 24 (by decide)).trans g24) ((aa36 25 (by decide)).trans g25) ((aa36 26 (by decide)).trans g26) ((aa36 27 (by decide)).trans g27) ((aa36 38 (by decide)).trans g38) ((aa36 39 (by decide)).trans g39) hh35 ((aa36 41 (by decide)).trans g41) ((aa36 42 (by decide)).trans g42) ((aa36 43 (by decide)).trans g43) ((aa36 44 (by decide)).trans g44) ((aa36 45 (by decide)).trans g45) ((aa36 46 (by decide)).trans g46) ((aa36 47 (by decide)).trans g47) ((aa36 48 (by decide)).trans g48) ((aa36 49 (by decide)).trans g49) (hH.keep AA37 (by decide)) (qp_keep hQ AA37 (by decide)) (hk) (hL) (hsg) (hP) (h4) (hn6) (htx) (he) (hkp))

