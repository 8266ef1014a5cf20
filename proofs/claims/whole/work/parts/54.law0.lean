set_option maxRecDepth 100000 in
set_option maxHeartbeats 4000000 in
theorem LC_4 {L : GL} {E : GE} {ad : Nat → Nat} {G : Nat → va_E} {cs ss b Ls i : Nat} {xs : Nat → Int32} (C : gC L E cL_law RL 9 room_1) (hX : LWx L E b Ls xs) (hi : i + 3 ≤ Ls) (hLs : Ls ≤ 1536) (hcs : cs + 3 ≤ 601024 ∧ ss + 18 ≤ 7293034) (hI : LI L ad G) (K : ∀ G', LI L ad G' → GW L E 50 ad G' (cs + 3) (ss + 18) 1974 [(5, .int (nI i)), (4, .ref (ad 49)), (3, .ref (ad 48)), (2, .ref (ad 40)), (1, .ref (ad 0)), (0, .ref b)] []) : GW L E 50 ad G cs ss 430 [(5, .int (nI i)), (4, .ref (ad 49)), (3, .ref (ad 48)), (2, .ref (ad 40)), (1, .ref (ad 0)), (0, .ref b)] [] := by
  refine LI_elim hI (fun sn t1 t2 t3 t4 t5 b1 b2 b3 b4 b5 s0 q1 q2 q3 q4 q5 xz l ml f l2 ml2 f2 l3 ml3 f3 hs len od ps rs cu tx ik th m q te fx fy nx ny ux uy us px py sp bg fo le fi re ca f42 f43 pf tm xx yy ov ow g0 g1 g2 g3 g4 g5 g6 g8 g19 g20 g21 g22 g23 g24 g25 g26 g27 g38 g39 g40 g41 g42 g43 g44 g45 g46 g47 g48 g49 hH hQ hk hL hsg hP h4 hn6 htx he hkp => ?_)
  refine G_aload_n C 1 dL_law_430 rfl rfl ?_
  refine G_aload_n C 0 dL_law_431 rfl rfl ?_
  refine G_iload C dL_law_432 rfl ?_
  refine G_iconst C (v := 1) dL_law_434 (by decide) ?_
  refine G_iadd C dL_law_435 ?_
  refine GW.topr (cI_add (a := i) (b := 1) rfl rfl) ?_
  refine G_sld C hX (j := (i + 1)) (by omega) (by omega) dL_law_436 ?_
  refine G_aload_n C 3 dL_law_437 rfl rfl ?_
  refine G_callSH C (As := [.ref (ad 0), .int (xs (i + 1)), .ref (ad 48)]) (rest := []) (w_whyNot (c_X8_whyNot g0 g1 g3 g22 g23) g0 (fun v G2 hq => by obtain ⟨rfl, _, rfl⟩ := hq; exact ⟨⟨_, rfl⟩, g48⟩) (fun e G2 h => h.1)) ca_L_whyNot km_L_134 rfl rfl (by decide) (Nat.le_of_ble_eq_true rfl) ⟨by show cs + 1 ≤ 601024; omega, by show ss + 6 ≤ 7293034; omega⟩ dL_law_438 (fun vv G9 hq9 => ?_)
  rcases hq9 with ⟨r, G1, hq1, rfl, k9, a9⟩ | ⟨hx1, rfl⟩
  · obtain ⟨h9, q90, rfl⟩ := hq1
    obtain rfl := (sint_inj h9).symm
    have AA1 : Agr [48] G G9 := a9.wk (by simp)
    have BB2 : Agr [48] G G9 := a9.wk (by simp)
    obtain ⟨d, h2, h60, hn⟩ := num_nat (n := xs (i + 1)) q90
    obtain ⟨hLa, c, h8, hc⟩ := id hL
    refine G_istore C (lo' := [(6, .int 0), (5, .int (nI i)), (4, .ref (ad 49)), (3, .ref (ad 48)), (2, .ref (ad 40)), (1, .ref (ad 0)), (0, .ref b)]) dL_law_441 (by decide) rfl ?_
    refine G_aload_n C 2 dL_law_443 rfl rfl ?_
    refine G_aload_n C 0 dL_law_444 rfl rfl ?_
    refine G_iload C dL_law_445 rfl ?_
    refine G_iconst C (v := 1) dL_law_447 (by decide) ?_
    refine G_iadd C dL_law_448 ?_
    refine GW.topr (cI_add (a := i) (b := 1) rfl rfl) ?_
    refine G_sld C hX (j := (i + 1)) (by omega) (by omega) dL_law_449 ?_
    refine GW.topr (y := nI d) (hn) ?_
    refine G_callV C (As := [.int (nI d)]) (rest := []) (c_X9_whyNotR ((a9 40 (by decide)).trans g40) ((a9 41 (by decide)).trans g41) h2 h60) ca_X9_whyNot km_L_136 (by decide) ((a9 40 (by decide)).trans g40) rfl rfl rfl rfl (by decide) (Nat.le_of_ble_eq_true rfl) ⟨by show cs + 1 + 0 ≤ 601024; omega, by show ss + 6 + 0 ≤ 7293034; omega⟩ dL_law_450 (fun vv3 gg4 qq5 => ?_)
    obtain ⟨rfl, hh6, aa7⟩ := qq5
    have AA8 : Agr [48, 40] G gg4 := AA1.tr aa7 (by simp) (by simp)
    have BB9 : Agr [48, 40] G gg4 := BB2.tr aa7 (by simp) (by simp)
    refine G_istore C (lo' := [(7, .int (rsF f d)), (6, .int 0), (5, .int (nI i)), (4, .ref (ad 49)), (3, .ref (ad 48)), (2, .ref (ad 40)), (1, .ref (ad 0)), (0, .ref b)]) dL_law_453 (by decide) rfl ?_
    refine G_aload_n C 2 dL_law_455 rfl rfl ?_
    refine G_callV C (As := []) (rest := []) (c_X9_thrown hh6) ca_X9_thrown km_L_122 (by decide) hh6 rfl rfl rfl rfl (by decide) (Nat.le_of_ble_eq_true rfl) ⟨by show cs + 1 + 0 + 0 ≤ 601024; omega, by show ss + 6 + 0 + 0 ≤ 7293034; omega⟩ dL_law_456 (fun vv10 gg11 qq12 => ?_)
    obtain ⟨rfl, rfl⟩ := qq12
    refine G_iload C dL_law_459 rfl ?_
    refine G_icmp_eq C 466 dL_law_461 (by decide) (fun _ => ?_) (fun h => absurd h (by decide))
    refine G_iload C dL_law_466 rfl ?_
    refine G_if_ne C 483 dL_law_468 (by decide) (fun h => absurd h (by decide)) (fun _ => ?_)
    refine G_aload_n C 3 dL_law_471 rfl rfl ?_
    refine G_iconst C (v := 0) dL_law_472 (by decide) ?_
    refine G_laldN C 48 (by decide) 0 ((aa7 48 (by decide)).trans k9) rfl (by decide) (by omega) dL_law_473 ?_
    refine GW.toprl (y := (rsnF f l (xs (i + 1))).toInt64) (pk_uLs) ?_
    refine G_iload C dL_law_474 rfl ?_
    refine G_i2l C dL_law_476 rfl ?_
    refine G_lc_eq C 483 dL_law_477 dL_law_478 (by decide) (fun c477 => ?_) (fun c477 => False.elim (c477 (by rw [hn, rs_eq hk h2 h60 hLa hc h8])))
    refine G_goto C 1974 dL_law_483 (by decide) ?_
    refine GW.pick [2, 3, 4, 5, 6, 7] [(5, .int (nI i)), (4, .ref (ad 49)), (3, .ref (ad 48)), (2, .ref (ad 40)), (1, .ref (ad 0)), (0, .ref b)] rfl ?_
    refine GW.widen (c1 := cs + 3) (s1 := ss + 18) (by show cs + 1 + 0 + 0 ≤ cs + 3; omega) (by show ss + 6 + 0 + 0 ≤ ss + 18; omega) ?_
    exact K _ (LI_mk  ((aa7 0 (by decide)).trans ((a9 0 (by decide)).trans g0)) ((aa7 1 (by decide)).trans ((a9 1 (by decide)).trans g1)) ((aa7 2 (by decide)).trans ((a9 2 (by decide)).trans g2)) ((aa7 3 (by decide)).trans ((a9 3 (by decide)).trans g3)) ((aa7 4 (by decide)).trans ((a9 4 (by decide)).trans g4)) ((aa7 5 (by decide)).trans ((a9 5 (by decide)).trans g5)) ((aa7 6 (by decide)).trans ((a9 6 (by decide)).trans g6)) ((aa7 8 (by decide)).trans ((a9 8 (by decide)).trans g8)) ((aa7 19 (by decide)).trans ((a9 19 (by decide)).trans g19)) ((aa7 20 (by decide)).trans ((a9 20 (by decide)).trans g20)) ((aa7 21 (by decide)).trans ((a9 21 (by decide)).trans g21)) ((aa7 22 (by decide)).trans ((a9 22 (by decide)).trans g22)) ((aa7 23 (by decide)).trans ((a9 23 (by decide)).trans g23)) ((aa7 24 (by decide)).trans ((a9 24 (by decide)).trans g24)) ((aa7 25 (by decide)).trans ((a9 25 (by decide)).trans g25)) ((aa7 26 (by decide)).trans ((a9 26 (by decide)).trans g26)) ((aa7 27 (by decide)).trans ((a9 27 (by decide)).trans g27)) ((aa7 38 (by decide)).trans ((a9 38 (by decide)).trans g38)) ((aa7 39 (by decide)).trans ((a9 39 (by decide)).trans g39)) hh6 ((aa7 41 (by decide)).trans ((a9 41 (by decide)).trans g41)) ((aa7 42 (by decide)).trans ((a9 42 (by decide)).trans g42)) ((aa7 43 (by decide)).trans ((a9 43 (by decide)).trans g43)) ((aa7 44 (by decide)).trans ((a9 44 (by decide)).trans g44)) ((aa7 45 (by decide)).trans ((a9 45 (by decide)).trans g45)) ((aa7 46 (by decide)).trans ((a9 46 (by decide)).trans g46)) ((aa7 47 (by decide)).trans ((a9 47 (by decide)).trans g47)) ((aa7 48 (by decide)).trans k9) ((aa7 49 (by decide)).trans ((a9 49 (by decide)).trans g49)) (hH.keep AA8 (by decide)) (qp_keep hQ AA8 (by decide)) (hk) (hL) (hsg) (hP) (h4) (hn6) (htx) (he) (hkp))
  · obtain ⟨-, hPx, rfl⟩ := hx1
    refine G_istore C (lo' := [(6, .int 1), (5, .int (nI i)), (4, .ref (ad 49)), (3, .ref (ad 48)), (2, .ref (ad 40)), (1, .ref (ad 0)), (0, .ref b)]) dL_law_441 (by decide) rfl ?_
    refine G_aload_n C 2 dL_law_443 rfl rfl ?_
    refine G_aload_n C 0 dL_law_444 rfl rfl ?_
    refine G_iload C dL_law_445 rfl ?_
    refine G_iconst C (v := 1) dL_law_447 (by decide) ?_
    refine G_iadd C dL_law_448 ?_
    refine GW.topr (cI_add (a := i) (b := 1) rfl rfl) ?_
    refine G_sld C hX (j := (i + 1)) (by omega) (by omega) dL_law_449 ?_
    refine G_callV C (As := [.int (xs (i + 1))]) (rest := []) (c_X9_whyNotA g40 hPx) ca_X9_whyNot km_L_136 (by decide) g40 rfl rfl rfl rfl (by decide) (Nat.le_of_ble_eq_true rfl) ⟨by show cs + 1 + 0 ≤ 601024; omega, by show ss + 6 + 0 ≤ 7293034; omega⟩ dL_law_450 (fun vv13 gg14 qq15 => ?_)
    obtain ⟨rfl, hh16, aa17⟩ := qq15
    have AA18 : Agr [40] G gg14 := aa17.wk (by simp)
    refine G_istore C (lo' := [(7, .int 0), (6, .int 1), (5, .int (nI i)), (4, .ref (ad 49)), (3, .ref (ad 48)), (2, .ref (ad 40)), (1, .ref (ad 0)), (0, .ref b)]) dL_law_453 (by decide) rfl ?_
    refine G_aload_n C 2 dL_law_455 rfl rfl ?_
    refine G_callV C (As := []) (rest := []) (c_X9_thrown hh16) ca_X9_thrown km_L_122 (by decide) hh16 rfl rfl rfl rfl (by decide) (Nat.le_of_ble_eq_true rfl) ⟨by show cs + 1 + 0 + 0 ≤ 601024; omega, by show ss + 6 + 0 + 0 ≤ 7293034; omega⟩ dL_law_456 (fun vv19 gg20 qq21 => ?_)
    obtain ⟨rfl, rfl⟩ := qq21
    refine G_iload C dL_law_459 rfl ?_
    refine G_icmp_eq C 466 dL_law_461 (by decide) (fun _ => ?_) (fun h => absurd h (by decide))
    refine G_iload C dL_law_466 rfl ?_
    refine G_if_ne C 483 dL_law_468 (by decide) (fun _ => ?_) (fun h => absurd h (by decide))
    refine G_goto C 1974 dL_law_483 (by decide) ?_
    refine GW.pick [2, 3, 4, 5, 6, 7] [(5, .int (nI i)), (4, .ref (ad 49)), (3, .ref (ad 48)), (2, .ref (ad 40)), (1, .ref (ad 0)), (0, .ref b)] rfl ?_
    refine GW.widen (c1 := cs + 3) (s1 := ss + 18) (by show cs + 1 + 0 + 0 ≤ cs + 3; omega) (by show ss + 6 + 0 + 0 ≤ ss + 18; omega) ?_
    exact K _ (LI_mk  ((aa17 0 (by decide)).trans g0) ((aa17 1 (by decide)).trans g1) ((aa17 2 (by decide)).trans g2) ((aa17 3 (by decide)).trans g3) ((aa17 4 (by decide)).trans g4) ((aa17 5 (by decide)).trans g5) ((aa17 6 (by decide)).trans g6) ((aa17 8 (by decide)).trans g8) ((aa17 19 (by decide)).trans g19) ((aa17 20 (by decide)).trans g20) ((aa17 21 (by decide)).trans g21) ((aa17 22 (by decide)).trans g22) ((aa17 23 (by decide)).trans g23) ((aa17 24 (by decide)).trans g24) ((aa17 25 (by decide)).trans g25) ((aa17 26 (by decide)).trans g26) ((aa17 27 (by decide)).trans g27) ((aa17 38 (by decide)).trans g38) ((aa17 39 (by decide)).trans g39) hh16 ((aa17 41 (by decide)).trans g41) ((aa17 42 (by decide)).trans g42) ((aa17 43 (by decide)).trans g43) ((aa17 44 (by decide)).trans g44) ((aa17 45 (by decide)).trans g45) ((aa17 46 (by decide)).trans g46) ((aa17 47 (by decide)).trans g47) ((aa17 48 (by decide)).trans g48) ((aa17 49 (by decide)).trans g49) (hH.keep AA18 (by decide)) (qp_keep hQ AA18 (by decide)) (hk) (hL) (hsg) (hP) (h4) (hn6) (htx) (he) (hkp))

set_option maxRecDepth 100000 in
set_option maxHeartbeats 4000000 in
theorem LC_5 {L : GL} {E : GE} {ad : Nat → Nat} {G : Nat → va_E} {cs ss b Ls i : Nat} {xs : Nat → Int32} (C : gC L E cL_law RL 9 room_1) (hX : LWx L E b Ls xs) (hi : i + 3 ≤ Ls) (hLs : Ls ≤ 1536) (hcs : cs + 3 ≤ 601024 ∧ ss + 18 ≤ 7293034) (hI : LI L ad G) (K : ∀ G', LI L ad G' → GW L E 50 ad G' (cs + 3) (ss + 18) 1974 [(5, .int (nI i)), (4, .ref (ad 49)), (3, .ref (ad 48)), (2, .ref (ad 40)), (1, .ref (ad 0)), (0, .ref b)] []) : GW L E 50 ad G cs ss 486 [(5, .int (nI i)), (4, .ref (ad 49)), (3, .ref (ad 48)), (2, .ref (ad 40)), (1, .ref (ad 0)), (0, .ref b)] [] := by
  refine LI_elim hI (fun sn t1 t2 t3 t4 t5 b1 b2 b3 b4 b5 s0 q1 q2 q3 q4 q5 xz l ml f l2 ml2 f2 l3 ml3 f3 hs len od ps rs cu tx ik th m q te fx fy nx ny ux uy us px py sp bg fo le fi re ca f42 f43 pf tm xx yy ov ow g0 g1 g2 g3 g4 g5 g6 g8 g19 g20 g21 g22 g23 g24 g25 g26 g27 g38 g39 g40 g41 g42 g43 g44 g45 g46 g47 g48 g49 hH hQ hk hL hsg hP h4 hn6 htx he hkp => ?_)
  refine G_aload_n C 1 dL_law_486 rfl rfl ?_
  refine G_aload_n C 0 dL_law_487 rfl rfl ?_
  refine G_iload C dL_law_488 rfl ?_
  refine G_iconst C (v := 1) dL_law_490 (by decide) ?_
  refine G_iadd C dL_law_491 ?_
  refine GW.topr (cI_add (a := i) (b := 1) rfl rfl) ?_
  refine G_sld C hX (j := (i + 1)) (by omega) (by omega) dL_law_492 ?_
  refine G_aload_n C 3 dL_law_493 rfl rfl ?_
  refine G_callSH C (As := [.ref (ad 0), .int (xs (i + 1)), .ref (ad 48)]) (rest := []) (w_periodOf (c_X8_periodOf g0 g1 g3) g0 (fun v G2 hq => by obtain ⟨rfl, _, _, rfl⟩ := hq; exact ⟨⟨_, rfl⟩, g48⟩) (fun e G2 h => h.1.elim (fun z => Or.inl z.1) (fun z => Or.inr z.1))) ca_L_periodOf km_L_137 rfl rfl (by decide) (Nat.le_of_ble_eq_true rfl) ⟨by show cs + 2 ≤ 601024; omega, by show ss + 12 ≤ 7293034; omega⟩ dL_law_494 (fun vv G9 hq9 => ?_)
  rcases hq9 with ⟨r, G1, hq1, rfl, k9, a9⟩ | ⟨hx1, rfl⟩ | ⟨hx1, rfl⟩
  · obtain ⟨h9, q90, q91, rfl⟩ := hq1
    obtain rfl := (sint_inj h9).symm
    have AA1 : Agr [48] G G9 := a9.wk (by simp)
    have BB2 : Agr [48] G G9 := a9.wk (by simp)
    obtain ⟨d, h2, h60, hn⟩ := num_nat (n := xs (i + 1)) q90
    have hp : pern d ≠ 0 := (sq_y h2 h60).mp (hn ▸ q91)
    refine G_istore C (lo' := [(6, .int 0), (5, .int (nI i)), (4, .ref (ad 49)), (3, .ref (ad 48)), (2, .ref (ad 40)), (1, .ref (ad 0)), (0, .ref b)]) dL_law_497 (by decide) rfl ?_
    refine G_aload_n C 2 dL_law_499 rfl rfl ?_
    refine G_aload_n C 0 dL_law_500 rfl rfl ?_
    refine G_iload C dL_law_501 rfl ?_
    refine G_iconst C (v := 1) dL_law_503 (by decide) ?_
    refine G_iadd C dL_law_504 ?_
    refine GW.topr (cI_add (a := i) (b := 1) rfl rfl) ?_
    refine G_sld C hX (j := (i + 1)) (by omega) (by omega) dL_law_505 ?_
    refine GW.topr (y := nI d) (hn) ?_
    refine G_callV C (As := [.int (nI d)]) (rest := []) (c_X9_periodOfR ((a9 40 (by decide)).trans g40) h2 h60 hp) ca_X9_periodOf km_L_139 (by decide) ((a9 40 (by decide)).trans g40) rfl rfl rfl rfl (by decide) (Nat.le_of_ble_eq_true rfl) ⟨by show cs + 2 + 0 ≤ 601024; omega, by show ss + 12 + 0 ≤ 7293034; omega⟩ dL_law_506 (fun vv3 gg4 qq5 => ?_)
    obtain ⟨j_6, j_7, j_8, j_9, j_10, j_11, j_12, u_13, u_14, u_15, p_16, p_17, rfl, hh18, aa19⟩ := qq5
    have AA20 : Agr [48, 40] G gg4 := AA1.tr aa19 (by simp) (by simp)
    have BB21 : Agr [48, 40] G gg4 := BB2.tr aa19 (by simp) (by simp)
    refine G_istore C (lo' := [(7, .int (nI (pern d))), (6, .int 0), (5, .int (nI i)), (4, .ref (ad 49)), (3, .ref (ad 48)), (2, .ref (ad 40)), (1, .ref (ad 0)), (0, .ref b)]) dL_law_509 (by decide) rfl ?_
    refine G_aload_n C 2 dL_law_511 rfl rfl ?_
    refine G_callV C (As := []) (rest := []) (c_X9_thrown hh18) ca_X9_thrown km_L_122 (by decide) hh18 rfl rfl rfl rfl (by decide) (Nat.le_of_ble_eq_true rfl) ⟨by show cs + 2 + 0 + 0 ≤ 601024; omega, by show ss + 12 + 0 + 0 ≤ 7293034; omega⟩ dL_law_512 (fun vv22 gg23 qq24 => ?_)
    obtain ⟨rfl, rfl⟩ := qq24
    refine G_iload C dL_law_515 rfl ?_
    refine G_icmp_eq C 522 dL_law_517 (by decide) (fun _ => ?_) (fun h => absurd h (by decide))
    refine G_iload C dL_law_522 rfl ?_
    refine G_if_ne C 539 dL_law_524 (by decide) (fun h => absurd h (by decide)) (fun _ => ?_)
    refine G_aload_n C 3 dL_law_527 rfl rfl ?_
    refine G_iconst C (v := 0) dL_law_528 (by decide) ?_
    refine G_laldN C 48 (by decide) 0 ((aa19 48 (by decide)).trans k9) rfl (by decide) (by omega) dL_law_529 ?_
    refine GW.toprl (y := (tabF tPer (xs (i + 1))).toInt64) (pk_uLs) ?_
    refine G_iload C dL_law_530 rfl ?_
    refine G_i2l C dL_law_532 rfl ?_
    refine G_lc_eq C 539 dL_law_533 dL_law_534 (by decide) (fun c533 => ?_) (fun c533 => False.elim (c533 (by rw [hn, (tab_1 h60).1])))
    refine G_goto C 1974 dL_law_539 (by decide) ?_
    refine GW.pick [2, 3, 4, 5, 6, 7] [(5, .int (nI i)), (4, .ref (ad 49)), (3, .ref (ad 48)), (2, .ref (ad 40)), (1, .ref (ad 0)), (0, .ref b)] rfl ?_
    refine GW.widen (c1 := cs + 3) (s1 := ss + 18) (by show cs + 2 + 0 + 0 ≤ cs + 3; omega) (by show ss + 12 + 0 + 0 ≤ ss + 18; omega) ?_
    exact K _ (LI_mk  ((aa19 0 (by decide)).trans ((a9 0 (by decide)).trans g0)) ((aa19 1 (by decide)).trans ((a9 1 (by decide)).trans g1)) ((aa19 2 (by decide)).trans ((a9 2 (by decide)).trans g2)) ((aa19 3 (by decide)).trans ((a9 3 (by decide)).trans g3)) ((aa19 4 (by decide)).trans ((a9 4 (by decide)).trans g4)) ((aa19 5 (by decide)).trans ((a9 5 (by decide)).trans g5)) ((aa19 6 (by decide)).trans ((a9 6 (by decide)).trans g6)) ((aa19 8 (by decide)).trans ((a9 8 (by decide)).trans g8)) ((aa19 19 (by decide)).trans ((a9 19 (by decide)).trans g19)) ((aa19 20 (by decide)).trans ((a9 20 (by decide)).trans g20)) ((aa19 21 (by decide)).trans ((a9 21 (by decide)).trans g21)) ((aa19 22 (by decide)).trans ((a9 22 (by decide)).trans g22)) ((aa19 23 (by decide)).trans ((a9 23 (by decide)).trans g23)) ((aa19 24 (by decide)).trans ((a9 24 (by decide)).trans g24)) ((aa19 25 (by decide)).trans ((a9 25 (by decide)).trans g25)) ((aa19 26 (by decide)).trans ((a9 26 (by decide)).trans g26)) ((aa19 27 (by decide)).trans ((a9 27 (by decide)).trans g27)) ((aa19 38 (by decide)).trans ((a9 38 (by decide)).trans g38)) ((aa19 39 (by decide)).trans ((a9 39 (by decide)).trans g39)) hh18 ((aa19 41 (by decide)).trans ((a9 41 (by decide)).trans g41)) ((aa19 42 (by decide)).trans ((a9 42 (by decide)).trans g42)) ((aa19 43 (by decide)).trans ((a9 43 (by decide)).trans g43)) ((aa19 44 (by decide)).trans ((a9 44 (by decide)).trans g44)) ((aa19 45 (by decide)).trans ((a9 45 (by decide)).trans g45)) ((aa19 46 (by decide)).trans ((a9 46 (by decide)).trans g46)) ((aa19 47 (by decide)).trans ((a9 47 (by decide)).trans g47)) ((aa19 48 (by decide)).trans k9) ((aa19 49 (by decide)).trans ((a9 49 (by decide)).trans g49)) (hH.keep AA20 (by decide)) (qp_keep hQ AA20 (by decide)) (hk) (hL) (hsg) (hP) (h4) (hn6) (htx) (he) (hkp))
  · obtain ⟨z9, rfl⟩ := hx1
    have hPx := z9.elim (fun y => y.2) (fun y => absurd y.1 ne_AN)
    refine G_istore C (lo' := [(6, .int 1), (5, .int (nI i)), (4, .ref (ad 49)), (3, .ref (ad 48)), (2, .ref (ad 40)), (1, .ref (ad 0)), (0, .ref b)]) dL_law_497 (by decide) rfl ?_
    refine G_aload_n C 2 dL_law_499 rfl rfl ?_
    refine G_aload_n C 0 dL_law_500 rfl rfl ?_
    refine G_iload C dL_law_501 rfl ?_
    refine G_iconst C (v := 1) dL_law_503 (by decide) ?_
    refine G_iadd C dL_law_504 ?_
    refine GW.topr (cI_add (a := i) (b := 1) rfl rfl) ?_
    refine G_sld C hX (j := (i + 1)) (by omega) (by omega) dL_law_505 ?_
    refine G_callV C (As := [.int (xs (i + 1))]) (rest := []) (c_X9_periodOfA g40 hPx) ca_X9_periodOf km_L_139 (by decide) g40 rfl rfl rfl rfl (by decide) (Nat.le_of_ble_eq_true rfl) ⟨by show cs + 2 + 0 ≤ 601024; omega, by show ss + 12 + 0 ≤ 7293034; omega⟩ dL_law_506 (fun vv25 gg26 qq27 => ?_)
    obtain ⟨rfl, hh28, aa29⟩ := qq27
    have AA30 : Agr [40] G gg26 := aa29.wk (by simp)
    refine G_istore C (lo' := [(7, .int 0), (6, .int 1), (5, .int (nI i)), (4, .ref (ad 49)), (3, .ref (ad 48)), (2, .ref (ad 40)), (1, .ref (ad 0)), (0, .ref b)]) dL_law_509 (by decide) rfl ?_
    refine G_aload_n C 2 dL_law_511 rfl rfl ?_
    refine G_callV C (As := []) (rest := []) (c_X9_thrown hh28) ca_X9_thrown km_L_122 (by decide) hh28 rfl rfl rfl rfl (by decide) (Nat.le_of_ble_eq_true rfl) ⟨by show cs + 2 + 0 + 0 ≤ 601024; omega, by show ss + 12 + 0 + 0 ≤ 7293034; omega⟩ dL_law_512 (fun vv31 gg32 qq33 => ?_)
    obtain ⟨rfl, rfl⟩ := qq33
    refine G_iload C dL_law_515 rfl ?_
    refine G_icmp_eq C 522 dL_law_517 (by decide) (fun _ => ?_) (fun h => absurd h (by decide))
    refine G_iload C dL_law_522 rfl ?_
    refine G_if_ne C 539 dL_law_524 (by decide) (fun _ => ?_) (fun h => absurd h (by decide))
    refine G_goto C 1974 dL_law_539 (by decide) ?_
    refine GW.pick [2, 3, 4, 5, 6, 7] [(5, .int (nI i)), (4, .ref (ad 49)), (3, .ref (ad 48)), (2, .ref (ad 40)), (1, .ref (ad 0)), (0, .ref b)] rfl ?_
    refine GW.widen (c1 := cs + 3) (s1 := ss + 18) (by show cs + 2 + 0 + 0 ≤ cs + 3; omega) (by show ss + 12 + 0 + 0 ≤ ss + 18; omega) ?_
    exact K _ (LI_mk  ((aa29 0 (by decide)).trans g0) ((aa29 1 (by decide)).trans g1) ((aa29 2 (by decide)).trans g2) ((aa29 3 (by decide)).trans g3) ((aa29 4 (by decide)).trans g4) ((aa29 5 (by decide)).trans g5) ((aa29 6 (by decide)).trans g6) ((aa29 8 (by decide)).trans g8) ((aa29 19 (by decide)).trans g19) ((aa29 20 (by decide)).trans g20) ((aa29 21 (by decide)).trans g21) ((aa29 22 (by decide)).trans g22) ((aa29 23 (by decide)).trans g23) ((aa29 24 (by decide)).trans g24) ((aa29 25 (by decide)).trans g25) ((aa29 26 (by decide)).trans g26) ((aa29 27 (by decide)).trans g27) ((aa29 38 (by decide)).trans g38) ((aa29 39 (by decide)).trans g39) hh28 ((aa29 41 (by decide)).trans g41) ((aa29 42 (by decide)).trans g42) ((aa29 43 (by decide)).trans g43) ((aa29 44 (by decide)).trans g44) ((aa29 45 (by decide)).trans g45) ((aa29 46 (by decide)).trans g46) ((aa29 47 (by decide)).trans g47) ((aa29 48 (by decide)).trans g48) ((aa29 49 (by decide)).trans g49) (hH.keep AA30 (by decide)) (qp_keep hQ AA30 (by decide)) (hk) (hL) (hsg) (hP) (h4) (hn6) (htx) (he) (hkp))
  · obtain ⟨z9, rfl⟩ := hx1
    have hPx := z9.elim (fun y => absurd y.1 ne_NA) (fun y => y.2)
    obtain ⟨d, h2, h60, hn⟩ := num_nat (n := xs (i + 1)) hPx.1
    have hp0 : pern d = 0 := Classical.byContradiction fun z => hPx.2 (hn ▸ (sq_y h2 h60).mpr z)
    refine G_istore C (lo' := [(6, .int 2), (5, .int (nI i)), (4, .ref (ad 49)), (3, .ref (ad 48)), (2, .ref (ad 40)), (1, .ref (ad 0)), (0, .ref b)]) dL_law_497 (by decide) rfl ?_
    refine G_aload_n C 2 dL_law_499 rfl rfl ?_
    refine G_aload_n C 0 dL_law_500 rfl rfl ?_
    refine G_iload C dL_law_501 rfl ?_
    refine G_iconst C (v := 1) dL_law_503 (by decide) ?_
    refine G_iadd C dL_law_504 ?_
    refine GW.topr (cI_add (a := i) (b := 1) rfl rfl) ?_
    refine G_sld C hX (j := (i + 1)) (by omega) (by omega) dL_law_505 ?_
    refine GW.topr (y := nI d) (hn) ?_
    refine G_callV C (As := [.int (nI d)]) (rest := []) (c_X9_periodOfQ g40 h2 h60 hp0) ca_X9_periodOf km_L_139 (by decide) g40 rfl rfl rfl rfl (by decide) (Nat.le_of_ble_eq_true rfl) ⟨by show cs + 2 + 0 ≤ 601024; omega, by show ss + 12 + 0 ≤ 7293034; omega⟩ dL_law_506 (fun vv34 gg35 qq36 => ?_)
    obtain ⟨rfl, hh37, aa38⟩ := qq36
    have AA39 : Agr [40] G gg35 := aa38.wk (by simp)
    refine G_istore C (lo' := [(7, .int 0), (6, .int 2), (5, .int (nI i)), (4, .ref (ad 49)), (3, .ref (ad 48)), (2, .ref (ad 40)), (1, .ref (ad 0)), (0, .ref b)]) dL_law_509 (by decide) rfl ?_
    refine G_aload_n C 2 dL_law_511 rfl rfl ?_
    refine G_callV C (As := []) (rest := []) (c_X9_thrown hh37) ca_X9_thrown km_L_122 (by decide) hh37 rfl rfl rfl rfl (by decide) (Nat.le_of_ble_eq_true rfl) ⟨by show cs + 2 + 0 + 0 ≤ 601024; omega, by show ss + 12 + 0 + 0 ≤ 7293034; omega⟩ dL_law_512 (fun vv40 gg41 qq42 => ?_)
    obtain ⟨rfl, rfl⟩ := qq42
    refine G_iload C dL_law_515 rfl ?_
    refine G_icmp_eq C 522 dL_law_517 (by decide) (fun _ => ?_) (fun h => absurd h (by decide))
    refine G_iload C dL_law_522 rfl ?_
    refine G_if_ne C 539 dL_law_524 (by decide) (fun _ => ?_) (fun h => absurd h (by decide))
    refine G_goto C 1974 dL_law_539 (by decide) ?_
    refine GW.pick [2, 3, 4, 5, 6, 7] [(5, .int (nI i)), (4, .ref (ad 49)), (3, .ref (ad 48)), (2, .ref (ad 40)), (1, .ref (ad 0)), (0, .ref b)] rfl ?_
    refine GW.widen (c1 := cs + 3) (s1 := ss + 18) (by show cs + 2 + 0 + 0 ≤ cs + 3; omega) (by show ss + 12 + 0 + 0 ≤ ss + 18; omega) ?_
    exact K _ (LI_mk  ((aa38 0 (by decide)).trans g0) ((aa38 1 (by decide)).trans g1) ((aa38 2 (by decide)).trans g2) ((aa38 3 (by decide)).trans g3) ((aa38 4 (by decide)).trans g4) ((aa38 5 (by decide)).trans g5) ((aa38 6 (by decide)).trans g6) ((aa38 8 (by decide)).trans g8) ((aa38 19 (by decide)).trans g19) ((aa38 20 (by decide)).trans g20) ((aa38 21 (by decide)).trans g21) ((aa38 22 (by decide)).trans g22) ((aa38 23 (by decide)).trans g23) ((aa38 24 (by decide)).trans g24) ((aa38 25 (by decide)).trans g25) ((aa38 26 (by decide)).trans g26) ((aa38 27 (by decide)).trans g27) ((aa38 38 (by decide)).trans g38) ((aa38 39 (by decide)).trans g39) hh37 ((aa38 41 (by decide)).trans g41) ((aa38 42 (by decide)).trans g42) ((aa38 43 (by decide)).trans g43) ((aa38 44 (by decide)).trans g44) ((aa38 45 (by decide)).trans g45) ((aa38 46 (by decide)).trans g46) ((aa38 47 (by decide)).trans g47) ((aa38 48 (by decide)).trans g48) ((aa38 49 (by decide)).trans g49) (hH.keep AA39 (by decide)) (qp_keep hQ AA39 (by decide)) (hk) (hL) (hsg) (hP) (h4) (hn6) (htx) (he) (hkp))

set_option maxRecDepth 100000 in
set_option maxHeartbeats 4000000 in
theorem LC_7 {L : GL} {E : GE} {ad : Nat → Nat} {G : Nat → va_E} {cs ss b Ls i : Nat} {xs : Nat → Int32} (C : gC L E cL_law RL 9 room_1) (hX : LWx L E b Ls xs) (hi : i + 3 ≤ Ls) (hLs : Ls ≤ 1536) (hcs : cs + 3 ≤ 601024 ∧ ss + 18 ≤ 7293034) (hI : LI L ad G) (K : ∀ G', LI L ad G' → GW L E 50 ad G' (cs + 3) (ss + 18) 1974 [(5, .int (nI i)), (4, .ref (ad 49)), (3, .ref (ad 48)), (2, .ref (ad 40)), (1, .ref (ad 0)), (0, .ref b)] []) : GW L E 50 ad G cs ss 610 [(5, .int (nI i)), (4, .ref (ad 49)), (3, .ref (ad 48)), (2, .ref (ad 40)), (1, .ref (ad 0)), (0, .ref b)] [] := by
  refine LI_elim hI (fun sn t1 t2 t3 t4 t5 b1 b2 b3 b4 b5 s0 q1 q2 q3 q4 q5 xz l ml f l2 ml2 f2 l3 ml3 f3 hs len od ps rs cu tx ik th m q te fx fy nx ny ux uy us px py sp bg fo le fi re ca f42 f43 pf tm xx yy ov ow g0 g1 g2 g3 g4 g5 g6 g8 g19 g20 g21 g22 g23 g24 g25 g26 g27 g38 g39 g40 g41 g42 g43 g44 g45 g46 g47 g48 g49 hH hQ hk hL hsg hP h4 hn6 htx he hkp => ?_)
  refine G_aload_n C 1 dL_law_610 rfl rfl ?_
  refine G_aload_n C 0 dL_law_611 rfl rfl ?_
  refine G_iload C dL_law_612 rfl ?_
  refine G_iconst C (v := 1) dL_law_614 (by decide) ?_
  refine G_iadd C dL_law_615 ?_
  refine GW.topr (cI_add (a := i) (b := 1) rfl rfl) ?_
  refine G_sld C hX (j := (i + 1)) (by omega) (by omega) dL_law_616 ?_
  refine G_aload_n C 3 dL_law_617 rfl rfl ?_
  refine G_callSH C (As := [.ref (ad 0), .int (xs (i + 1)), .ref (ad 48)]) (rest := []) (w_unitX (c_X8_unitX g0 g1 g3 g4) g0 (fun v G2 hq => by obtain ⟨rfl, _, _, rfl⟩ := hq; exact ⟨⟨_, rfl⟩, g48⟩) (fun e G2 h => h.1.elim (fun z => Or.inl z.1) (fun z => Or.inr z.1))) ca_L_unitX km_L_144 rfl rfl (by decide) (Nat.le_of_ble_eq_true rfl) ⟨by show cs + 2 ≤ 601024; omega, by show ss + 12 ≤ 7293034; omega⟩ dL_law_618 (fun vv G9 hq9 => ?_)
  rcases hq9 with ⟨r, G1, hq1, rfl, k9, a9⟩ | ⟨hx1, rfl⟩ | ⟨hx1, rfl⟩
  · obtain ⟨h9, q90, q91, rfl⟩ := hq1
    obtain rfl := (sint_inj h9).symm
    have AA1 : Agr [48] G G9 := a9.wk (by simp)
    have BB2 : Agr [48] G G9 := a9.wk (by simp)
    obtain ⟨d, h2, h60, hn⟩ := num_nat (n := xs (i + 1)) q90
    have hp : pern d ≠ 0 := (sq_y h2 h60).mp (hn ▸ q91)
    refine G_istore C (lo' := [(6, .int 0), (5, .int (nI i)), (4, .ref (ad 49)), (3, .ref (ad 48)), (2, .ref (ad 40)), (1, .ref (ad 0)), (0, .ref b)]) dL_law_621 (by decide) rfl ?_
    refine G_aload_n C 2 dL_law_623 rfl rfl ?_
    refine G_aload_n C 0 dL_law_624 rfl rfl ?_
    refine G_iload C dL_law_625 rfl ?_
    refine G_iconst C (v := 1) dL_law_627 (by decide) ?_
    refine G_iadd C dL_law_628 ?_
    refine GW.topr (cI_add (a := i) (b := 1) rfl rfl) ?_
    refine G_sld C hX (j := (i + 1)) (by omega) (by omega) dL_law_629 ?_
    refine GW.topr (y := nI d) (hn) ?_
    refine G_callV C (As := [.int (nI d)]) (rest := []) (c_X9_unitXR ((a9 40 (by decide)).trans g40) h2 h60 hp) ca_X9_unitX km_L_146 (by decide) ((a9 40 (by decide)).trans g40) rfl rfl rfl rfl (by decide) (Nat.le_of_ble_eq_true rfl) ⟨by show cs + 2 + 0 ≤ 601024; omega, by show ss + 12 + 0 ≤ 7293034; omega⟩ dL_law_630 (fun vv3 gg4 qq5 => ?_)
    obtain ⟨j_6, j_7, j_8, j_9, j_10, j_11, j_12, u_13, u_14, u_15, p_16, p_17, rfl, hh18, aa19⟩ := qq5
    have AA20 : Agr [48, 40] G gg4 := AA1.tr aa19 (by simp) (by simp)
    have BB21 : Agr [48, 40] G gg4 := BB2.tr aa19 (by simp) (by simp)
    refine G_istore C (lo' := [(7, .int (tUx d)), (6, .int 0), (5, .int (nI i)), (4, .ref (ad 49)), (3, .ref (ad 48)), (2, .ref (ad 40)), (1, .ref (ad 0)), (0, .ref b)]) dL_law_633 (by decide) rfl ?_
    refine G_aload_n C 2 dL_law_635 rfl rfl ?_
    refine G_callV C (As := []) (rest := []) (c_X9_thrown hh18) ca_X9_thrown km_L_122 (by decide) hh18 rfl rfl rfl rfl (by decide) (Nat.le_of_ble_eq_true rfl) ⟨by show cs + 2 + 0 + 0 ≤ 601024; omega, by show ss + 12 + 0 + 0 ≤ 7293034; omega⟩ dL_law_636 (fun vv22 gg23 qq24 => ?_)
    obtain ⟨rfl, rfl⟩ := qq24
    refine G_iload C dL_law_639 rfl ?_
    refine G_icmp_eq C 646 dL_law_641 (by decide) (fun _ => ?_) (fun h => absurd h (by decide))
    refine G_iload C dL_law_646 rfl ?_
    refine G_if_ne C 663 dL_law_648 (by decide) (fun h => absurd h (by decide)) (fun _ => ?_)
    refine G_aload_n C 3 dL_law_651 rfl rfl ?_
    refine G_iconst C (v := 0) dL_law_652 (by decide) ?_
    refine G_laldN C 48 (by decide) 0 ((aa19 48 (by decide)).trans k9) rfl (by decide) (by omega) dL_law_653 ?_
    refine GW.toprl (y := (tabF tUx (xs (i + 1))).toInt64) (pk_uLs) ?_
    refine G_iload C dL_law_654 rfl ?_
    refine G_i2l C dL_law_656 rfl ?_
    refine G_lc_eq C 663 dL_law_657 dL_law_658 (by decide) (fun c657 => ?_) (fun c657 => False.elim (c657 (by rw [hn, (tab_1 h60).2.1])))
    refine G_goto C 1974 dL_law_663 (by decide) ?_
    refine GW.pick [2, 3, 4, 5, 6, 7] [(5, .int (nI i)), (4, .ref (ad 49)), (3, .ref (ad 48)), (2, .ref (ad 40)), (1, .ref (ad 0)), (0, .ref b)] rfl ?_
    refine GW.widen (c1 := cs + 3) (s1 := ss + 18) (by show cs + 2 + 0 + 0 ≤ cs + 3; omega) (by show ss + 12 + 0 + 0 ≤ ss + 18; omega) ?_
    exact K _ (LI_mk  ((aa19 0 (by decide)).trans ((a9 0 (by decide)).trans g0)) ((aa19 1 (by decide)).trans ((a9 1 (by decide)).trans g1)) ((aa19 2 (by decide)).trans ((a9 2 (by decide)).trans g2)) ((aa19 3 (by decide)).trans ((a9 3 (by decide)).trans g3)) ((aa19 4 (by decide)).trans ((a9 4 (by decide)).trans g4)) ((aa19 5 (by decide)).trans ((a9 5 (by decide)).trans g5)) ((aa19 6 (by decide)).trans ((a9 6 (by decide)).trans g6)) ((aa19 8 (by decide)).trans ((a9 8 (by decide)).trans g8)) ((aa19 19 (by decide)).trans ((a9 19 (by decide)).trans g19)) ((aa19 20 (by decide)).trans ((a9 20 (by decide)).trans g20)) ((aa19 21 (by decide)).trans ((a9 21 (by decide)).trans g21)) ((aa19 22 (by decide)).trans ((a9 22 (by decide)).trans g22)) ((aa19 23 (by decide)).trans ((a9 23 (by decide)).trans g23)) ((aa19 24 (by decide)).trans ((a9 24 (by decide)).trans g24)) ((aa19 25 (by decide)).trans ((a9 25 (by decide)).trans g25)) ((aa19 26 (by decide)).trans ((a9 26 (by decide)).trans g26)) ((aa19 27 (by decide)).trans ((a9 27 (by decide)).trans g27)) ((aa19 38 (by decide)).trans ((a9 38 (by decide)).trans g38)) ((aa19 39 (by decide)).trans ((a9 39 (by decide)).trans g39)) hh18 ((aa19 41 (by decide)).trans ((a9 41 (by decide)).trans g41)) ((aa19 42 (by decide)).trans ((a9 42 (by decide)).trans g42)) ((aa19 43 (by decide)).trans ((a9 43 (by decide)).trans g43)) ((aa19 44 (by decide)).trans ((a9 44 (by decide)).trans g44)) ((aa19 45 (by decide)).trans ((a9 45 (by decide)).trans g45)) ((aa19 46 (by decide)).trans ((a9 46 (by decide)).trans g46)) ((aa19 47 (by decide)).trans ((a9 47 (by decide)).trans g47)) ((aa19 48 (by decide)).trans k9) ((aa19 49 (by decide)).trans ((a9 49 (by decide)).trans g49)) (hH.keep AA20 (by decide)) (qp_keep hQ AA20 (by decide)) (hk) (hL) (hsg) (hP) (h4) (hn6) (htx) (he) (hkp))
  · obtain ⟨z9, rfl⟩ := hx1
    have hPx := z9.elim (fun y => y.2) (fun y => absurd y.1 ne_AN)
    refine G_istore C (lo' := [(6, .int 1), (5, .int (nI i)), (4, .ref (ad 49)), (3, .ref (ad 48)), (2, .ref (ad 40)), (1, .ref (ad 0)), (0, .ref b)]) dL_law_621 (by decide) rfl ?_
    refine G_aload_n C 2 dL_law_623 rfl rfl ?_
    refine G_aload_n C 0 dL_law_624 rfl rfl ?_
    refine G_iload C dL_law_625 rfl ?_
    refine G_iconst C (v := 1) dL_law_627 (by decide) ?_
    refine G_iadd C dL_law_628 ?_
    refine GW.topr (cI_add (a := i) (b := 1) rfl rfl) ?_
    refine G_sld C hX (j := (i + 1)) (by omega) (by omega) dL_law_629 ?_
    refine G_callV C (As := [.int (xs (i + 1))]) (rest := []) (c_X9_unitXA g40 hPx) ca_X9_unitX km_L_146 (by decide) g40 rfl rfl rfl rfl (by decide) (Nat.le_of_ble_eq_true rfl) ⟨by show cs + 2 + 0 ≤ 601024; omega, by show ss + 12 + 0 ≤ 7293034; omega⟩ dL_law_630 (fun vv25 gg26 qq27 => ?_)
    obtain ⟨rfl, hh28, aa29⟩ := qq27
    have AA30 : Agr [40] G gg26 := aa29.wk (by simp)
    refine G_istore C (lo' := [(7, .int 0), (6, .int 1), (5, .int (nI i)), (4, .ref (ad 49)), (3, .ref (ad 48)), (2, .ref (ad 40)), (1, .ref (ad 0)), (0, .ref b)]) dL_law_633 (by decide) rfl ?_
    refine G_aload_n C 2 dL_law_635 rfl rfl ?_
    refine G_callV C (As := []) (rest := []) (c_X9_thrown hh28) ca_X9_thrown km_L_122 (by decide) hh28 rfl rfl rfl rfl (by decide) (Nat.le_of_ble_eq_true rfl) ⟨by show cs + 2 + 0 + 0 ≤ 601024; omega, by show ss + 12 + 0 + 0 ≤ 7293034; omega⟩ dL_law_636 (fun vv31 gg32 qq33 => ?_)
    obtain ⟨rfl, rfl⟩ := qq33
    refine G_iload C dL_law_639 rfl ?_
    refine G_icmp_eq C 646 dL_law_641 (by decide) (fun _ => ?_) (fun h => absurd h (by decide))
    refine G_iload C dL_law_646 rfl ?_
    refine G_if_ne C 663 dL_law_648 (by decide) (fun _ => ?_) (fun h => absurd h (by decide))
    refine G_goto C 1974 dL_law_663 (by decide) ?_
    refine GW.pick [2, 3, 4, 5, 6, 7] [(5, .int (nI i)), (4, .ref (ad 49)), (3, .ref (ad 48)), (2, .ref (ad 40)), (1, .ref (ad 0)), (0, .ref b)] rfl ?_
    refine GW.widen (c1 := cs + 3) (s1 := ss + 18) (by show cs + 2 + 0 + 0 ≤ cs + 3; omega) (by show ss + 12 + 0 + 0 ≤ ss + 18; omega) ?_
    exact K _ (LI_mk  ((aa29 0 (by decide)).trans g0) ((aa29 1 (by decide)).trans g1) ((aa29 2 (by decide)).trans g2) ((aa29 3 (by decide)).trans g3) ((aa29 4 (by decide)).trans g4) ((aa29 5 (by decide)).trans g5) ((aa29 6 (by decide)).trans g6) ((aa29 8 (by decide)).trans g8) ((aa29 19 (by decide)).trans g19) ((aa29 20 (by decide)).trans g20) ((aa29 21 (by decide)).trans g21) ((aa29 22 (by decide)).trans g22) ((aa29 23 (by decide)).trans g23) ((aa29 24 (by decide)).trans g24) ((aa29 25 (by decide)).trans g25) ((aa29 26 (by decide)).trans g26) ((aa29 27 (by decide)).trans g27) ((aa29 38 (by decide)).trans g38) ((aa29 39 (by decide)).trans g39) hh28 ((aa29 41 (by decide)).trans g41) ((aa29 42 (by decide)).trans g42) ((aa29 43 (by decide)).trans g43) ((aa29 44 (by decide)).trans g44) ((aa29 45 (by decide)).trans g45) ((aa29 46 (by decide)).trans g46) ((aa29 47 (by decide)).trans g47) ((aa29 48 (by decide)).trans g48) ((aa29 49 (by decide)).trans g49) (hH.keep AA30 (by decide)) (qp_keep hQ AA30 (by decide)) (hk) (hL) (hsg) (hP) (h4) (hn6) (htx) (he) (hkp))
  · obtain ⟨z9, rfl⟩ := hx1
    have hPx := z9.elim (fun y => absurd y.1 ne_NA) (fun y => y.2)
    obtain ⟨d, h2, h60, hn⟩ := num_nat (n := xs (i + 1)) hPx.1
    have hp0 : pern d = 0 := Classical.byContradiction fun z => hPx.2 (hn ▸ (sq_y h2 h60).mpr z)
    refine G_istore C (lo' := [(6, .int 2), (5, .int (nI i)), (4, .ref (ad 49)), (3, .ref (ad 48)), (2, .ref (ad 40)), (1, .ref (ad 0)), (0, .ref b)]) dL_law_621 (by decide) rfl ?_
    refine G_aload_n C 2 dL_law_623 rfl rfl ?_
    refine G_aload_n C 0 dL_law_624 rfl rfl ?_
    refine G_iload C dL_law_625 rfl ?_
    refine G_iconst C (v := 1) dL_law_627 (by decide) ?_
    refine G_iadd C dL_law_628 ?_
    refine GW.topr (cI_add (a := i) (b := 1) rfl rfl) ?_
    refine G_sld C hX (j := (i + 1)) (by omega) (by omega) dL_law_629 ?_
    refine GW.topr (y := nI d) (hn) ?_
    refine G_callV C (As := [.int (nI d)]) (rest := []) (c_X9_unitXQ g40 h2 h60 hp0) ca_X9_unitX km_L_146 (by decide) g40 rfl rfl rfl rfl (by decide) (Nat.le_of_ble_eq_true rfl) ⟨by show cs + 2 + 0 ≤ 601024; omega, by show ss + 12 + 0 ≤ 7293034; omega⟩ dL_law_630 (fun vv34 gg35 qq36 => ?_)
    obtain ⟨rfl, hh37, aa38⟩ := qq36
    have AA39 : Agr [40] G gg35 := aa38.wk (by simp)
    refine G_istore C (lo' := [(7, .int 0), (6, .int 2), (5, .int (nI i)), (4, .ref (ad 49)), (3, .ref (ad 48)), (2, .ref (ad 40)), (1, .ref (ad 0)), (0, .ref b)]) dL_law_633 (by decide) rfl ?_
    refine G_aload_n C 2 dL_law_635 rfl rfl ?_
    refine G_callV C (As := []) (rest := []) (c_X9_thrown hh37) ca_X9_thrown km_L_122 (by decide) hh37 rfl rfl rfl rfl (by decide) (Nat.le_of_ble_eq_true rfl) ⟨by show cs + 2 + 0 + 0 ≤ 601024; omega, by show ss + 12 + 0 + 0 ≤ 7293034; omega⟩ dL_law_636 (fun vv40 gg41 qq42 => ?_)
    obtain ⟨rfl, rfl⟩ := qq42
    refine G_iload C dL_law_639 rfl ?_
    refine G_icmp_eq C 646 dL_law_641 (by decide) (fun _ => ?_) (fun h => absurd h (by decide))
    refine G_iload C dL_law_646 rfl ?_
    refine G_if_ne C 663 dL_law_648 (by decide) (fun _ => ?_) (fun h => absurd h (by decide))
    refine G_goto C 1974 dL_law_663 (by decide) ?_
    refine GW.pick [2, 3, 4, 5, 6, 7] [(5, .int (nI i)), (4, .ref (ad 49)), (3, .ref (ad 48)), (2, .ref (ad 40)), (1, .ref (ad 0)), (0, .ref b)] rfl ?_
    refine GW.widen (c1 := cs + 3) (s1 := ss + 18) (by show cs + 2 + 0 + 0 ≤ cs + 3; omega) (by show ss + 12 + 0 + 0 ≤ ss + 18; omega) ?_
    exact K _ (LI_mk  ((aa38 0 (by decide)).trans g0) ((aa38 1 (by decide)).trans g1) ((aa38 2 (by decide)).trans g2) ((aa38 3 (by decide)).trans g3) ((aa38 4 (by decide)).trans g4) ((aa38 5 (by decide)).trans g5) ((aa38 6 (by decide)).trans g6) ((aa38 8 (by decide)).trans g8) ((aa38 19 (by decide)).trans g19) ((aa38 20 (by decide)).trans g20) ((aa38 21 (by decide)).trans g21) ((aa38 22 (by decide)).trans g22) ((aa38 23 (by decide)).trans g23) ((aa38 24 (by decide)).trans g24) ((aa38 25 (by decide)).trans g25) ((aa38 26 (by decide)).trans g26) ((aa38 27 (by decide)).trans g27) ((aa38 38 (by decide)).trans g38) ((aa38 39 (by decide)).trans g39) hh37 ((aa38 41 (by decide)).trans g41) ((aa38 42 (by decide)).trans g42) ((aa38 43 (by decide)).trans g43) ((aa38 44 (by decide)).trans g44) ((aa38 45 (by decide)).trans g45) ((aa38 46 (by decide)).trans g46) ((aa38 47 (by decide)).trans g47) ((aa38 48 (by decide)).trans g48) ((aa38 49 (by decide)).trans g49) (hH.keep AA39 (by decide)) (qp_keep hQ AA39 (by decide)) (hk) (hL) (hsg) (hP) (h4) (hn6) (htx) (he) (hkp))

set_option maxRecDepth 100000 in
set_option maxHeartbeats 4000000 in
theorem LC_8 {L : GL} {E : GE} {ad : Nat → Nat} {G : Nat → va_E} {cs ss b Ls i : Nat} {xs : Nat → Int32} (C : gC L E cL_law RL 9 room_1) (hX : LWx L E b Ls xs) (hi : i + 3 ≤ Ls) (hLs : Ls ≤ 1536) (hcs : cs + 3 ≤ 601024 ∧ ss + 18 ≤ 7293034) (hI : LI L ad G) (K : ∀ G', LI L ad G' → GW L E 50 ad G' (cs + 3) (ss + 18) 1974 [(5, .int (nI i)), (4, .ref (ad 49)), (3, .ref (ad 48)), (2, .ref (ad 40)), (1, .ref (ad 0)), (0, .ref b)] []) : GW L E 50 ad G cs ss 666 [(5, .int (nI i)), (4, .ref (ad 49)), (3, .ref (ad 48)), (2, .ref (ad 40)), (1, .ref (ad 0)), (0, .ref b)] [] := by
  refine LI_elim hI (fun sn t1 t2 t3 t4 t5 b1 b2 b3 b4 b5 s0 q1 q2 q3 q4 q5 xz l ml f l2 ml2 f2 l3 ml3 f3 hs len od ps rs cu tx ik th m q te fx fy nx ny ux uy us px py sp bg fo le fi re ca f42 f43 pf tm xx yy ov ow g0 g1 g2 g3 g4 g5 g6 g8 g19 g20 g21 g22 g23 g24 g25 g26 g27 g38 g39 g40 g41 g42 g43 g44 g45 g46 g47 g48 g49 hH hQ hk hL hsg hP h4 hn6 htx he hkp => ?_)
  refine G_aload_n C 1 dL_law_666 rfl rfl ?_
  refine G_aload_n C 0 dL_law_667 rfl rfl ?_
  refine G_iload C dL_law_668 rfl ?_
  refine G_iconst C (v := 1) dL_law_670 (by decide) ?_
  refine G_iadd C dL_law_671 ?_
  refine GW.topr (cI_add (a := i) (b := 1) rfl rfl) ?_
  refine G_sld C hX (j := (i + 1)) (by omega) (by omega) dL_law_672 ?_
  refine G_aload_n C 3 dL_law_673 rfl rfl ?_
  refine G_callSH C (As := [.ref (ad 0), .int (xs (i + 1)), .ref (ad 48)]) (rest := []) (w_unitY (c_X8_unitY g0 g1 g3 g5) g0 (fun v G2 hq => by obtain ⟨rfl, _, _, rfl⟩ := hq; exact ⟨⟨_, rfl⟩, g48⟩) (fun e G2 h => h.1.elim (fun z => Or.inl z.1) (fun z => Or.inr z.1))) ca_L_unitY km_L_147 rfl rfl (by decide) (Nat.le_of_ble_eq_true rfl) ⟨by show cs + 2 ≤ 601024; omega, by show ss + 12 ≤ 7293034; omega⟩ dL_law_674 (fun vv G9 hq9 => ?_)
  rcases hq9 with ⟨r, G1, hq1, rfl, k9, a9⟩ | ⟨hx1, rfl⟩ | ⟨hx1, rfl⟩
  · obtain ⟨h9, q90, q91, rfl⟩ := hq1
    obtain rfl := (sint_inj h9).symm
    have AA1 : Agr [48] G G9 := a9.wk (by simp)
    have BB2 : Agr [48] G G9 := a9.wk (by simp)
    obtain ⟨d, h2, h60, hn⟩ := num_nat (n := xs (i + 1)) q90
    have hp : pern d ≠ 0 := (sq_y h2 h60).mp (hn ▸ q91)
    refine G_istore C (lo' := [(6, .int 0), (5, .int (nI i)), (4, .ref (ad 49)), (3, .ref (ad 48)), (2, .ref (ad 40)), (1, .ref (ad 0)), (0, .ref b)]) dL_law_677 (by decide) rfl ?_
    refine G_aload_n C 2 dL_law_679 rfl rfl ?_
    refine G_aload_n C 0 dL_law_680 rfl rfl ?_
    refine G_iload C dL_law_681 rfl ?_
    refine G_iconst C (v := 1) dL_law_683 (by decide) ?_
    refine G_iadd C dL_law_684 ?_
    refine GW.topr (cI_add (a := i) (b := 1) rfl rfl) ?_
    refine G_sld C hX (j := (i + 1)) (by omega) (by omega) dL_law_685 ?_
    refine GW.topr (y := nI d) (hn) ?_
    refine G_callV C (As := [.int (nI d)]) (rest := []) (c_X9_unitYR ((a9 40 (by decide)).trans g40) h2 h60 hp) ca_X9_unitY km_L_149 (by decide) ((a9 40 (by decide)).trans g40) rfl rfl rfl rfl (by decide) (Nat.le_of_ble_eq_true rfl) ⟨by show cs + 2 + 0 ≤ 601024; omega, by show ss + 12 + 0 ≤ 7293034; omega⟩ dL_law_686 (fun vv3 gg4 qq5 => ?_)
    obtain ⟨j_6, j_7, j_8, j_9, j_10, j_11, j_12, u_13, u_14, u_15, p_16, p_17, rfl, hh18, aa19⟩ := qq5
    have AA20 : Agr [48, 40] G gg4 := AA1.tr aa19 (by simp) (by simp)
    have BB21 : Agr [48, 40] G gg4 := BB2.tr aa19 (by simp) (by simp)
    refine G_istore C (lo' := [(7, .int (tUy d)), (6, .int 0), (5, .int (nI i)), (4, .ref (ad 49)), (3, .ref (ad 48)), (2, .ref (ad 40)), (1, .ref (ad 0)), (0, .ref b)]) dL_law_689 (by decide) rfl ?_
    refine G_aload_n C 2 dL_law_691 rfl rfl ?_
    refine G_callV C (As := []) (rest := []) (c_X9_thrown hh18) ca_X9_thrown km_L_122 (by decide) hh18 rfl rfl rfl rfl (by decide) (Nat.le_of_ble_eq_true rfl) ⟨by show cs + 2 + 0 + 0 ≤ 601024; omega, by show ss + 12 + 0 + 0 ≤ 7293034; omega⟩ dL_law_692 (fun vv22 gg23 qq24 => ?_)
    obtain ⟨rfl, rfl⟩ := qq24
    refine G_iload C dL_law_695 rfl ?_
    refine G_icmp_eq C 702 dL_law_697 (by decide) (fun _ => ?_) (fun h => absurd h (by decide))
    refine G_iload C dL_law_702 rfl ?_
    refine G_if_ne C 719 dL_law_704 (by decide) (fun h => absurd h (by decide)) (fun _ => ?_)
    refine G_aload_n C 3 dL_law_707 rfl rfl ?_
    refine G_iconst C (v := 0) dL_law_708 (by decide) ?_
    refine G_laldN C 48 (by decide) 0 ((aa19 48 (by decide)).trans k9) rfl (by decide) (by omega) dL_law_709 ?_
    refine GW.toprl (y := (tabF tUy (xs (i + 1))).toInt64) (pk_uLs) ?_
    refine G_iload C dL_law_710 rfl ?_
    refine G_i2l C dL_law_712 rfl ?_
    refine G_lc_eq C 719 dL_law_713 dL_law_714 (by decide) (fun c713 => ?_) (fun c713 => False.elim (c713 (by rw [hn, (tab_1 h60).2.2])))
    refine G_goto C 1974 dL_law_719 (by decide) ?_
    refine GW.pick [2, 3, 4, 5, 6, 7] [(5, .int (nI i)), (4, .ref (ad 49)), (3, .ref (ad 48)), (2, .ref (ad 40)), (1, .ref (ad 0)), (0, .ref b)] rfl ?_
    refine GW.widen (c1 := cs + 3) (s1 := ss + 18) (by show cs + 2 + 0 + 0 ≤ cs + 3; omega) (by show ss + 12 + 0 + 0 ≤ ss + 18; omega) ?_
    exact K _ (LI_mk  ((aa19 0 (by decide)).trans ((a9 0 (by decide)).trans g0)) ((aa19 1 (by decide)).trans ((a9 1 (by decide)).trans g1)) ((aa19 2 (by decide)).trans ((a9 2 (by decide)).trans g2)) ((aa19 3 (by decide)).trans ((a9 3 (by decide)).trans g3)) ((aa19 4 (by decide)).trans ((a9 4 (by decide)).trans g4)) ((aa19 5 (by decide)).trans ((a9 5 (by decide)).trans g5)) ((aa19 6 (by decide)).trans ((a9 6 (by decide)).trans g6)) ((aa19 8 (by decide)).trans ((a9 8 (by decide)).trans g8)) ((aa19 19 (by decide)).trans ((a9 19 (by decide)).trans g19)) ((aa19 20 (by decide)).trans ((a9 20 (by decide)).trans g20)) ((aa19 21 (by decide)).trans ((a9 21 (by decide)).trans g21)) ((aa19 22 (by decide)).trans ((a9 22 (by decide)).trans g22)) ((aa19 23 (by decide)).trans ((a9 23 (by decide)).trans g23)) ((aa19 24 (by decide)).trans ((a9 24 (by decide)).trans g24)) ((aa19 25 (by decide)).trans ((a9 25 (by decide)).trans g25)) ((aa19 26 (by decide)).trans ((a9 26 (by decide)).trans g26)) ((aa19 27 (by decide)).trans ((a9 27 (by decide)).trans g27)) ((aa19 38 (by decide)).trans ((a9 38 (by decide)).trans g38)) ((aa19 39 (by decide)).trans ((a9 39 (by decide)).trans g39)) hh18 ((aa19 41 (by decide)).trans ((a9 41 (by decide)).trans g41)) ((aa19 42 (by decide)).trans ((a9 42 (by decide)).trans g42)) ((aa19 43 (by decide)).trans ((a9 43 (by decide)).trans g43)) ((aa19 44 (by decide)).trans ((a9 44 (by decide)).trans g44)) ((aa19 45 (by decide)).trans ((a9 45 (by decide)).trans g45)) ((aa19 46 (by decide)).trans ((a9 46 (by decide)).trans g46)) ((aa19 47 (by decide)).trans ((a9 47 (by decide)).trans g47)) ((aa19 48 (by decide)).trans k9) ((aa19 49 (by decide)).trans ((a9 49 (by decide)).trans g49)) (hH.keep AA20 (by decide)) (qp_keep hQ AA20 (by decide)) (hk) (hL) (hsg) (hP) (h4) (hn6) (htx) (he) (hkp))
  · obtain ⟨z9, rfl⟩ := hx1
    have hPx := z9.elim (fun y => y.2) (fun y => absurd y.1 ne_AN)
    refine G_istore C (lo' := [(6, .int 1), (5, .int (nI i)), (4, .ref (ad 49)), (3, .ref (ad 48)), (2, .ref (ad 40)), (1, .ref (ad 0)), (0, .ref b)]) dL_law_677 (by decide) rfl ?_
    refine G_aload_n C 2 dL_law_679 rfl rfl ?_
    refine G_aload_n C 0 dL_law_680 rfl rfl ?_
    refine G_iload C dL_law_681 rfl ?_
    refine G_iconst C (v := 1) dL_law_683 (by decide) ?_
    refine G_iadd C dL_law_684 ?_
    refine GW.topr (cI_add (a := i) (b := 1) rfl rfl) ?_
    refine G_sld C hX (j := (i + 1)) (by omega) (by omega) dL_law_685 ?_
    refine G_callV C (As := [.int (xs (i + 1))]) (rest := []) (c_X9_unitYA g40 hPx) ca_X9_unitY km_L_149 (by decide) g40 rfl rfl rfl rfl (by decide) (Nat.le_of_ble_eq_true rfl) ⟨by show cs + 2 + 0 ≤ 601024; omega, by show ss + 12 + 0 ≤ 7293034; omega⟩ dL_law_686 (fun vv25 gg26 qq27 => ?_)
    obtain ⟨rfl, hh28, aa29⟩ := qq27
    have AA30 : Agr [40] G gg26 := aa29.wk (by simp)
    refine G_istore C (lo' := [(7, .int 0), (6, .int 1), (5, .int (nI i)), (4, .ref (ad 49)), (3, .ref (ad 48)), (2, .ref (ad 40)), (1, .ref (ad 0)), (0, .ref b)]) dL_law_689 (by decide) rfl ?_
    refine G_aload_n C 2 dL_law_691 rfl rfl ?_
    refine G_callV C (As := []) (rest := []) (c_X9_thrown hh28) ca_X9_thrown km_L_122 (by decide) hh28 rfl rfl rfl rfl (by decide) (Nat.le_of_ble_eq_true rfl) ⟨by show cs + 2 + 0 + 0 ≤ 601024; omega, by show ss + 12 + 0 + 0 ≤ 7293034; omega⟩ dL_law_692 (fun vv31 gg32 qq33 => ?_)
    obtain ⟨rfl, rfl⟩ := qq33
    refine G_iload C dL_law_695 rfl ?_
    refine G_icmp_eq C 702 dL_law_697 (by decide) (fun _ => ?_) (fun h => absurd h (by decide))
    refine G_iload C dL_law_702 rfl ?_
    refine G_if_ne C 719 dL_law_704 (by decide) (fun _ => ?_) (fun h => absurd h (by decide))
    refine G_goto C 1974 dL_law_719 (by decide) ?_
    refine GW.pick [2, 3, 4, 5, 6, 7] [(5, .int (nI i)), (4, .ref (ad 49)), (3, .ref (ad 48)), (2, .ref (ad 40)), (1, .ref (ad 0)), (0, .ref b)] rfl ?_
    refine GW.widen (c1 := cs + 3) (s1 := ss + 18) (by show cs + 2 + 0 + 0 ≤ cs + 3; omega) (by show ss + 12 + 0 + 0 ≤ ss + 18; omega) ?_
    exact K _ (LI_mk  ((aa29 0 (by decide)).trans g0) ((aa29 1 (by decide)).trans g1) ((aa29 2 (by decide)).trans g2) ((aa29 3 (by decide)).trans g3) ((aa29 4 (by decide)).trans g4) ((aa29 5 (by decide)).trans g5) ((aa29 6 (by decide)).trans g6) ((aa29 8 (by decide)).trans g8) ((aa29 19 (by decide)).trans g19) ((aa29 20 (by decide)).trans g20) ((aa29 21 (by decide)).trans g21) ((aa29 22 (by decide)).trans g22) ((aa29 23 (by decide)).trans g23) ((aa29 24 (by decide)).trans g24) ((aa29 25 (by decide)).trans g25) ((aa29 26 (by decide)).trans g26) ((aa29 27 (by decide)).trans g27) ((aa29 38 (by decide)).trans g38) ((aa29 39 (by decide)).trans g39) hh28 ((aa29 41 (by decide)).trans g41) ((aa29 42 (by decide)).trans g42) ((aa29 43 (by decide)).trans g43) ((aa29 44 (by decide)).trans g44) ((aa29 45 (by decide)).trans g45) ((aa29 46 (by decide)).trans g46) ((aa29 47 (by decide)).trans g47) ((aa29 48 (by decide)).trans g48) ((aa29 49 (by decide)).trans g49) (hH.keep AA30 (by decide)) (qp_keep hQ AA30 (by decide)) (hk) (hL) (hsg) (hP) (h4) (hn6) (htx) (he) (hkp))
  · obtain ⟨z9, rfl⟩ := hx1
    have hPx := z9.elim (fun y => absurd y.1 ne_NA) (fun y => y.2)
    obtain ⟨d, h2, h60, hn⟩ := num_nat (n := xs (i + 1)) hPx.1
    have hp0 : pern d = 0 := Classical.byContradiction fun z => hPx.2 (hn ▸ (sq_y h2 h60).mpr z)
    refine G_istore C (lo' := [(6, .int 2), (5, .int (nI i)), (4, .ref (ad 49)), (3, .ref (ad 48)), (2, .ref (ad 40)), (1, .ref (ad 0)), (0, .ref b)]) dL_law_677 (by decide) rfl ?_
    refine G_aload_n C 2 dL_law_679 rfl rfl ?_
    refine G_aload_n C 0 dL_law_680 rfl rfl ?_
    refine G_iload C dL_law_681 rfl ?_
    refine G_iconst C (v := 1) dL_law_683 (by decide) ?_
    refine G_iadd C dL_law_684 ?_
    refine GW.topr (cI_add (a := i) (b := 1) rfl rfl) ?_
    refine G_sld C hX (j := (i + 1)) (by omega) (by omega) dL_law_685 ?_
    refine GW.topr (y := nI d) (hn) ?_
    refine G_callV C (As := [.int (nI d)]) (rest := []) (c_X9_unitYQ g40 h2 h60 hp0) ca_X9_unitY km_L_149 (by decide) g40 rfl rfl rfl rfl (by decide) (Nat.le_of_ble_eq_true rfl) ⟨by show cs + 2 + 0 ≤ 601024; omega, by show ss + 12 + 0 ≤ 7293034; omega⟩ dL_law_686 (fun vv34 gg35 qq36 => ?_)
    obtain ⟨rfl, hh37, aa38⟩ := qq36
    have AA39 : Agr [40] G gg35 := aa38.wk (by simp)
    refine G_istore C (lo' := [(7, .int 0), (6, .int 2), (5, .int (nI i)), (4, .ref (ad 49)), (3, .ref (ad 48)), (2, .ref (ad 40)), (1, .ref (ad 0)), (0, .ref b)]) dL_law_689 (by decide) rfl ?_
    refine G_aload_n C 2 dL_law_691 rfl rfl ?_
    refine G_callV C (As := []) (rest := []) (c_X9_thrown hh37) ca_X9_thrown km_L_122 (by decide) hh37 rfl rfl rfl rfl (by decide) (Nat.le_of_ble_eq_true rfl) ⟨by show cs + 2 + 0 + 0 ≤ 601024; omega, by show ss + 12 + 0 + 0 ≤ 7293034; omega⟩ dL_law_692 (fun vv40 gg41 qq42 => ?_)
    obtain ⟨rfl, rfl⟩ := qq42
    refine G_iload C dL_law_695 rfl ?_
    refine G_icmp_eq C 702 dL_law_697 (by decide) (fun _ => ?_) (fun h => absurd h (by decide))
    refine G_iload C dL_law_702 rfl ?_
    refine G_if_ne C 719 dL_law_704 (by decide) (fun _ => ?_) (fun h => absurd h (by decide))
    refine G_goto C 1974 dL_law_719 (by decide) ?_
    refine GW.pick [2, 3, 4, 5, 6, 7] [(5, .int (nI i)), (4, .ref (ad 49)), (3, .ref (ad 48)), (2, .ref (ad 40)), (1, .ref (ad 0)), (0, .ref b)] rfl ?_
    refine GW.widen (c1 := cs + 3) (s1 := ss + 18) (by show cs + 2 + 0 + 0 ≤ cs + 3; omega) (by show ss + 12 + 0 + 0 ≤ ss + 18; omega) ?_
    exact K _ (LI_mk  ((aa38 0 (by decide)).trans g0) ((aa38 1 (by decide)).trans g1) ((aa38 2 (by decide)).trans g2) ((aa38 3 (by decide)).trans g3) ((aa38 4 (by decide)).trans g4) ((aa38 5 (by decide)).trans g5) ((aa38 6 (by decide)).trans g6) ((aa38 8 (by decide)).trans g8) ((aa38 19 (by decide)).trans g19) ((aa38 20 (by decide)).trans g20) ((aa38 21 (by decide)).trans g21) ((aa38 22 (by decide)).trans g22) ((aa38 23 (by decide)).trans g23) ((aa38 24 (by decide)).trans g24) ((aa38 25 (by decide)).trans g25) ((aa38 26 (by decide)).trans g26) ((aa38 27 (by decide)).trans g27) ((aa38 38 (by decide)).trans g38) ((aa38 39 (by decide)).trans g39) hh37 ((aa38 41 (by decide)).trans g41) ((aa38 42 (by decide)).trans g42) ((aa38 43 (by decide)).trans g43) ((aa38 44 (by decide)).trans g44) ((aa38 45 (by decide)).trans g45) ((aa38 46 (by decide)).trans g46) ((aa38 47 (by decide)).trans g47) ((aa38 48 (by decide)).trans g48) ((aa38 49 (by decide)).trans g49) (hH.keep AA39 (by decide)) (qp_keep hQ AA39 (by decide)) (hk) (hL) (hsg) (hP) (h4) (hn6) (htx) (he) (hkp))

set_option maxRecDepth 100000 in
set_option maxHeartbeats 4000000 in
theorem LC_9 {L : GL} {E : GE} {ad : Nat → Nat} {G : Nat → va_E} {cs ss b Ls i : Nat} {xs : Nat → Int32} (C : gC L E cL_law RL 9 room_1) (hX : LWx L E b Ls xs) (hi : i + 3 ≤ Ls) (hLs : Ls ≤ 1536) (hcs : cs + 3 ≤ 601024 ∧ ss + 18 ≤ 7293034) (hI : LI L ad G) (K : ∀ G', LI L ad G' → GW L E 50 ad G' (cs + 3) (ss + 18) 1974 [(5, .int (nI i)), (4, .ref (ad 49)), (3, .ref (ad 48)), (2, .ref (ad 40)), (1, .ref (ad 0)), (0, .ref b)] []) : GW L E 50 ad G cs ss 722 [(5, .int (nI i)), (4, .ref (ad 49)), (3, .ref (ad 48)), (2, .ref (ad 40)), (1, .ref (ad 0)), (0, .ref b)] [] := by
  refine LI_elim hI (fun sn t1 t2 t3 t4 t5 b1 b2 b3 b4 b5 s0 q1 q2 q3 q4 q5 xz l ml f l2 ml2 f2 l3 ml3 f3 hs len od ps rs cu tx ik th m q te fx fy nx ny ux uy us px py sp bg fo le fi re ca f42 f43 pf tm xx yy ov ow g0 g1 g2 g3 g4 g5 g6 g8 g19 g20 g21 g22 g23 g24 g25 g26 g27 g38 g39 g40 g41 g42 g43 g44 g45 g46 g47 g48 g49 hH hQ hk hL hsg hP h4 hn6 htx he hkp => ?_)
  refine G_aload_n C 1 dL_law_722 rfl rfl ?_
  refine G_aload_n C 0 dL_law_723 rfl rfl ?_
  refine G_iload C dL_law_724 rfl ?_
  refine G_iconst C (v := 1) dL_law_726 (by decide) ?_
  refine G_iadd C dL_law_727 ?_
  refine GW.topr (cI_add (a := i) (b := 1) rfl rfl) ?_
  refine G_sld C hX (j := (i + 1)) (by omega) (by omega) dL_law_728 ?_
  refine G_aload_n C 3 dL_law_729 rfl rfl ?_
  refine G_callSH C (As := [.ref (ad 0), .int (xs (i + 1)), .ref (ad 48)]) (rest := []) (w_leastY (c_X8_leastY g0 g1 g3 g4 g5) g0 (fun v G2 hq => by obtain ⟨rfl, _, _, rfl⟩ := hq; exact ⟨⟨_, rfl⟩, g48⟩) (fun e G2 h => h.1.elim (fun z => Or.inl z.1) (fun z => Or.inr z.1))) ca_L_leastY km_L_150 rfl rfl (by decide) (Nat.le_of_ble_eq_true rfl) ⟨by show cs + 2 ≤ 601024; omega, by show ss + 12 ≤ 7293034; omega⟩ dL_law_730 (fun vv G9 hq9 => ?_)
  rcases hq9 with ⟨r, G1, hq1, rfl, k9, a9⟩ | ⟨hx1, rfl⟩ | ⟨hx1, rfl⟩
  · obtain ⟨h9, q90, q91, rfl⟩ := hq1
    obtain rfl := (sint_inj h9).symm
    have AA1 : Agr [48] G G9 := a9.wk (by simp)
    have BB2 : Agr [48] G G9 := a9.wk (by simp)
    obtain ⟨d, h2, h60, hn⟩ := num_nat (n := xs (i + 1)) q90
    have hp : pern d ≠ 0 := (sq_y h2 h60).mp (hn ▸ q91)
    refine G_istore C (lo' := [(6, .int 0), (5, .int (nI i)), (4, .ref (ad 49)), (3, .ref (ad 48)), (2, .ref (ad 40)), (1, .ref (ad 0)), (0, .ref b)]) dL_law_733 (by decide) rfl ?_
    refine G_aload_n C 2 dL_law_735 rfl rfl ?_
    refine G_aload_n C 0 dL_law_736 rfl rfl ?_
    refine G_iload C dL_law_737 rfl ?_
    refine G_iconst C (v := 1) dL_law_739 (by decide) ?_
    refine G_iadd C dL_law_740 ?_
    refine GW.topr (cI_add (a := i) (b := 1) rfl rfl) ?_
    refine G_sld C hX (j := (i + 1)) (by omega) (by omega) dL_law_741 ?_
    refine GW.topr (y := nI d) (hn) ?_
    refine G_callV C (As := [.int (nI d)]) (rest := []) (c_X9_leastYR ((a9 40 (by decide)).trans g40) h2 h60 hp) ca_X9_leastY km_L_152 (by decide) ((a9 40 (by decide)).trans g40) rfl rfl rfl rfl (by decide) (Nat.le_of_ble_eq_true rfl) ⟨by show cs + 2 + 0 ≤ 601024; omega, by show ss + 12 + 0 ≤ 7293034; omega⟩ dL_law_742 (fun vv3 gg4 qq5 => ?_)
    obtain ⟨j_6, j_7, j_8, j_9, j_10, j_11, j_12, u_13, u_14, u_15, p_16, p_17, rfl, hh18, aa19⟩ := qq5
    have AA20 : Agr [48, 40] G gg4 := AA1.tr aa19 (by simp) (by simp)
    have BB21 : Agr [48, 40] G gg4 := BB2.tr aa19 (by simp) (by simp)
    refine G_istore C (lo' := [(7, .int (nI (lyn d))), (6, .int 0), (5, .int (nI i)), (4, .ref (ad 49)), (3, .ref (ad 48)), (2, .ref (ad 40)), (1, .ref (ad 0)), (0, .ref b)]) dL_law_745 (by decide) rfl ?_
    refine G_aload_n C 2 dL_law_747 rfl rfl ?_
    refine G_callV C (As := []) (rest := []) (c_X9_thrown hh18) ca_X9_thrown km_L_122 (by decide) hh18 rfl rfl rfl rfl (by decide) (Nat.le_of_ble_eq_true rfl) ⟨by show cs + 2 + 0 + 0 ≤ 601024; omega, by show ss + 12 + 0 + 0 ≤ 7293034; omega⟩ dL_law_748 (fun vv22 gg23 qq24 => ?_)
    obtain ⟨rfl, rfl⟩ := qq24
    refine G_iload C dL_law_751 rfl ?_
    refine G_icmp_eq C 758 dL_law_753 (by decide) (fun _ => ?_) (fun h => absurd h (by decide))
    refine G_iload C dL_law_758 rfl ?_
    refine G_if_ne C 775 dL_law_760 (by decide) (fun h => absurd h (by decide)) (fun _ => ?_)
    refine G_aload_n C 3 dL_law_763 rfl rfl ?_
    refine G_iconst C (v := 0) dL_law_764 (by decide) ?_
    refine G_laldN C 48 (by decide) 0 ((aa19 48 (by decide)).trans k9) rfl (by decide) (by omega) dL_law_765 ?_
    refine GW.toprl (y := (if sgF (xs (i + 1)) = 1 then tabF tUy (xs (i + 1)) else 2 * tabF tUx (xs (i + 1)) * tabF tUy (xs (i + 1))).toInt64) (pk_uLs) ?_
    refine G_iload C dL_law_766 rfl ?_
    refine G_i2l C dL_law_768 rfl ?_
    refine G_lc_eq C 775 dL_law_769 dL_law_770 (by decide) (fun c769 => ?_) (fun c769 => False.elim (c769 (by rw [hn, (tab_1 h60).2.1, (tab_1 h60).2.2, ly_sgn d (by omega) hp])))
    refine G_goto C 1974 dL_law_775 (by decide) ?_
    refine GW.pick [2, 3, 4, 5, 6, 7] [(5, .int (nI i)), (4, .ref (ad 49)), (3, .ref (ad 48)), (2, .ref (ad 40)), (1, .ref (ad 0)), (0, .ref b)] rfl ?_
    refine GW.widen (c1 := cs + 3) (s1 := ss + 18) (by show cs + 2 + 0 + 0 ≤ cs + 3; omega) (by show ss + 12 + 0 + 0 ≤ ss + 18; omega) ?_
    exact K _ (LI_mk  ((aa19 0 (by decide)).trans ((a9 0 (by decide)).trans g0)) ((aa19 1 (by decide)).trans ((a9 1 (by decide)).trans g1)) ((aa19 2 (by decide)).trans ((a9 2 (by decide)).trans g2)) ((aa19 3 (by decide)).trans ((a9 3 (by decide)).trans g3)) ((aa19 4 (by decide)).trans ((a9 4 (by decide)).trans g4)) ((aa19 5 (by decide)).trans ((a9 5 (by decide)).trans g5)) ((aa19 6 (by decide)).trans ((a9 6 (by decide)).trans g6)) ((aa19 8 (by decide)).trans ((a9 8 (by decide)).trans g8)) ((aa19 19 (by decide)).trans ((a9 19 (by decide)).trans g19)) ((aa19 20 (by decide)).trans ((a9 20 (by decide)).trans g20)) ((aa19 21 (by decide)).trans ((a9 21 (by decide)).trans g21)) ((aa19 22 (by decide)).trans ((a9 22 (by decide)).trans g22)) ((aa19 23 (by decide)).trans ((a9 23 (by decide)).trans g23)) ((aa19 24 (by decide)).trans ((a9 24 (by decide)).trans g24)) ((aa19 25 (by decide)).trans ((a9 25 (by decide)).trans g25)) ((aa19 26 (by decide)).trans ((a9 26 (by decide)).trans g26)) ((aa19 27 (by decide)).trans ((a9 27 (by decide)).trans g27)) ((aa19 38 (by decide)).trans ((a9 38 (by decide)).trans g38)) ((aa19 39 (by decide)).trans ((a9 39 (by decide)).trans g39)) hh18 ((aa19 41 (by decide)).trans ((a9 41 (by decide)).trans g41)) ((aa19 42 (by decide)).trans ((a9 42 (by decide)).trans g42)) ((aa19 43 (by decide)).trans ((a9 43 (by decide)).trans g43)) ((aa19 44 (by decide)).trans ((a9 44 (by decide)).trans g44)) ((aa19 45 (by decide)).trans ((a9 45 (by decide)).trans g45)) ((aa19 46 (by decide)).trans ((a9 46 (by decide)).trans g46)) ((aa19 47 (by decide)).trans ((a9 47 (by decide)).trans g47)) ((aa19 48 (by decide)).trans k9) ((aa19 49 (by decide)).trans ((a9 49 (by decide)).trans g49)) (hH.keep AA20 (by decide)) (qp_keep hQ AA20 (by decide)) (hk) (hL) (hsg) (hP) (h4) (hn6) (htx) (he) (hkp))
  · obtain ⟨z9, rfl⟩ := hx1
    have hPx := z9.elim (fun y => y.2) (fun y => absurd y.1 ne_AN)
    refine G_istore C (lo' := [(6, .int 1), (5, .int (nI i)), (4, .ref (ad 49)), (3, .ref (ad 48)), (2, .ref (ad 40)), (1, .ref (ad 0)), (0, .ref b)]) dL_law_733 (by decide) rfl ?_
    refine G_aload_n C 2 dL_law_735 rfl rfl ?_
    refine G_aload_n C 0 dL_law_736 rfl rfl ?_
    refine G_iload C dL_law_737 rfl ?_
    refine G_iconst C (v := 1) dL_law_739 (by decide) ?_
    refine G_iadd C dL_law_740 ?_
    refine GW.topr (cI_add (a := i) (b := 1) rfl rfl) ?_
    refine G_sld C hX (j := (i + 1)) (by omega) (by omega) dL_law_741 ?_
    refine G_callV C (As := [.int (xs (i + 1))]) (rest := []) (c_X9_leastYA g40 hPx) ca_X9_leastY km_L_152 (by decide) g40 rfl rfl rfl rfl (by decide) (Nat.le_of_ble_eq_true rfl) ⟨by show cs + 2 + 0 ≤ 601024; omega, by show ss + 12 + 0 ≤ 7293034; omega⟩ dL_law_742 (fun vv25 gg26 qq27 => ?_)
    obtain ⟨rfl, hh28, aa29⟩ := qq27
    have AA30 : Agr [40] G gg26 := aa29.wk (by simp)
    refine G_istore C (lo' := [(7, .int 0), (6, .int 1), (5, .int (nI i)), (4, .ref (ad 49)), (3, .ref (ad 48)), (2, .ref (ad 40)), (1, .ref (ad 0)), (0, .ref b)]) dL_law_745 (by decide) rfl ?_
    refine G_aload_n C 2 dL_law_747 rfl rfl ?_
    refine G_callV C (As := []) (rest := []) (c_X9_thrown hh28) ca_X9_thrown km_L_122 (by decide) hh28 rfl rfl rfl rfl (by decide) (Nat.le_of_ble_eq_true rfl) ⟨by show cs + 2 + 0 + 0 ≤ 601024; omega, by show ss + 12 + 0 + 0 ≤ 7293034; omega⟩ dL_law_748 (fun vv31 gg32 qq33 => ?_)
    obtain ⟨rfl, rfl⟩ := qq33
    refine G_iload C dL_law_751 rfl ?_
    refine G_icmp_eq C 758 dL_law_753 (by decide) (fun _ => ?_) (fun h => absurd h (by decide))
    refine G_iload C dL_law_758 rfl ?_
    refine G_if_ne C 775 dL_law_760 (by decide) (fun _ => ?_) (fun h => absurd h (by decide))
    refine G_goto C 1974 dL_law_775 (by decide) ?_
    refine GW.pick [2, 3, 4, 5, 6, 7] [(5, .int (nI i)), (4, .ref (ad 49)), (3, .ref (ad 48)), (2, .ref (ad 40)), (1, .ref (ad 0)), (0, .ref b)] rfl ?_
    refine GW.widen (c1 := cs + 3) (s1 := ss + 18) (by show cs + 2 + 0 + 0 ≤ cs + 3; omega) (by show ss + 12 + 0 + 0 ≤ ss + 18; omega) ?_
    exact K _ (LI_mk  ((aa29 0 (by decide)).trans g0) ((aa29 1 (by decide)).trans g1) ((aa29 2 (by decide)).trans g2) ((aa29 3 (by decide)).trans g3) ((aa29 4 (by decide)).trans g4) ((aa29 5 (by decide)).trans g5) ((aa29 6 (by decide)).trans g6) ((aa29 8 (by decide)).trans g8) ((aa29 19 (by decide)).trans g19) ((aa29 20 (by decide)).trans g20) ((aa29 21 (by decide)).trans g21) ((aa29 22 (by decide)).trans g22) ((aa29 23 (by decide)).trans g23) ((aa29 24 (by decide)).trans g24) ((aa29 25 (by decide)).trans g25) ((aa29 26 (by decide)).trans g26) ((aa29 27 (by decide)).trans g27) ((aa29 38 (by decide)).trans g38) ((aa29 39 (by decide)).trans g39) hh28 ((aa29 41 (by decide)).trans g41) ((aa29 42 (by decide)).trans g42) ((aa29 43 (by decide)).trans g43) ((aa29 44 (by decide)).trans g44) ((aa29 45 (by decide)).trans g45) ((aa29 46 (by decide)).trans g46) ((aa29 47 (by decide)).trans g47) ((aa29 48 (by decide)).trans g48) ((aa29 49 (by decide)).trans g49) (hH.keep AA30 (by decide)) (qp_keep hQ AA30 (by decide)) (hk) (hL) (hsg) (hP) (h4) (hn6) (htx) (he) (hkp))
  · obtain ⟨z9, rfl⟩ := hx1
    have hPx := z9.elim (fun y => absurd y.1 ne_NA) (fun y => y.2)
    obtain ⟨d, h2, h60, hn⟩ := num_nat (n := xs (i + 1)) hPx.1
    have hp0 : pern d = 0 := Classical.byContradiction fun z => hPx.2 (hn ▸ (sq_y h2 h60).mpr z)
    refine G_istore C (lo' := [(6, .int 2), (5, .int (nI i)), (4, .ref (ad 49)), (3, .ref (ad 48)), (2, .ref (ad 40)), (1, .ref (ad 0)), (0, .ref b)]) dL_law_733 (by decide) rfl ?_
    refine G_aload_n C 2 dL_law_735 rfl rfl ?_
    refine G_aload_n C 0 dL_law_736 rfl rfl ?_
    refine G_iload C dL_law_737 rfl ?_
    refine G_iconst C (v := 1) dL_law_739 (by decide) ?_
    refine G_iadd C dL_law_740 ?_
    refine GW.topr (cI_add (a := i) (b := 1) rfl rfl) ?_
    refine G_sld C hX (j := (i + 1)) (by omega) (by omega) dL_law_741 ?_
    refine GW.topr (y := nI d) (hn) ?_
    refine G_callV C (As := [.int (nI d)]) (rest := []) (c_X9_leastYQ g40 h2 h60 hp0) ca_X9_leastY km_L_152 (by decide) g40 rfl rfl rfl rfl (by decide) (Nat.le_of_ble_eq_true rfl) ⟨by show cs + 2 + 0 ≤ 601024; omega, by show ss + 12 + 0 ≤ 7293034; omega⟩ dL_law_742 (fun vv34 gg35 qq36 => ?_)
    obtain ⟨rfl, hh37, aa38⟩ := qq36
    have AA39 : Agr [40] G gg35 := aa38.wk (by simp)
    refine G_istore C (lo' := [(7, .int 0), (6, .int 2), (5, .int (nI i)), (4, .ref (ad 49)), (3, .ref (ad 48)), (2, .ref (ad 40)), (1, .ref (ad 0)), (0, .ref b)]) dL_law_745 (by decide) rfl ?_
    refine G_aload_n C 2 dL_law_747 rfl rfl ?_
    refine G_callV C (As := []) (rest := []) (c_X9_thrown hh37) ca_X9_thrown km_L_122 (by decide) hh37 rfl rfl rfl rfl (by decide) (Nat.le_of_ble_eq_true rfl) ⟨by show cs + 2 + 0 + 0 ≤ 601024; omega, by show ss + 12 + 0 + 0 ≤ 7293034; omega⟩ dL_law_748 (fun vv40 gg41 qq42 => ?_)
    obtain ⟨rfl, rfl⟩ := qq42
    refine G_iload C dL_law_751 rfl ?_
    refine G_icmp_eq C 758 dL_law_753 (by decide) (fun _ => ?_) (fun h => absurd h (by decide))
    refine G_iload C dL_law_758 rfl ?_
    refine G_if_ne C 775 dL_law_760 (by decide) (fun _ => ?_) (fun h => absurd h (by decide))
    refine G_goto C 1974 dL_law_775 (by decide) ?_
    refine GW.pick [2, 3, 4, 5, 6, 7] [(5, .int (nI i)), (4, .ref (ad 49)), (3, .ref (ad 48)), (2, .ref (ad 40)), (1, .ref (ad 0)), (0, .ref b)] rfl ?_
    refine GW.widen (c1 := cs + 3) (s1 := ss + 18) (by show cs + 2 + 0 + 0 ≤ cs + 3; omega) (by show ss + 12 + 0 + 0 ≤ ss + 18; omega) ?_
    exact K _ (LI_mk  ((aa38 0 (by decide)).trans g0) ((aa38 1 (by decide)).trans g1) ((aa38 2 (by decide)).trans g2) ((aa38 3 (by decide)).trans g3) ((aa38 4 (by decide)).trans g4) ((aa38 5 (by decide)).trans g5) ((aa38 6 (by decide)).trans g6) ((aa38 8 (by decide)).trans g8) ((aa38 19 (by decide)).trans g19) ((aa38 20 (by decide)).trans g20) ((aa38 21 (by decide)).trans g21) ((aa38 22 (by decide)).trans g22) ((aa38 23 (by decide)).trans g23) ((aa38 24 (by decide)).trans g24) ((aa38 25 (by decide)).trans g25) ((aa38 26 (by decide)).trans g26) ((aa38 27 (by decide)).trans g27) ((aa38 38 (by decide)).trans g38) ((aa38 39 (by decide)).trans g39) hh37 ((aa38 41 (by decide)).trans g41) ((aa38 42 (by decide)).trans g42) ((aa38 43 (by decide)).trans g43) ((aa38 44 (by decide)).trans g44) ((aa38 45 (by decide)).trans g45) ((aa38 46 (by decide)).trans g46) ((aa38 47 (by decide)).trans g47) ((aa38 48 (by decide)).trans g48) ((aa38 49 (by decide)).trans g49) (hH.keep AA39 (by decide)) (qp_keep hQ AA39 (by decide)) (hk) (hL) (hsg) (hP) (h4) (hn6) (htx) (he) (hkp))

