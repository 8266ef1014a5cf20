set_option maxRecDepth 100000 in
set_option maxHeartbeats 4000000 in
theorem LC_21 {L : GL} {E : GE} {ad : Nat → Nat} {G : Nat → va_E} {cs ss b Ls i : Nat} {xs : Nat → Int32} (C : gC L E cL_law RL 9 room_1) (hX : LWx L E b Ls xs) (hi : i + 3 ≤ Ls) (hLs : Ls ≤ 1536) (hcs : cs + 3 ≤ 601024 ∧ ss + 18 ≤ 7293034) (hI : LI L ad G) (K : ∀ G', LI L ad G' → GW L E 50 ad G' (cs + 3) (ss + 18) 1974 [(5, .int (nI i)), (4, .ref (ad 49)), (3, .ref (ad 48)), (2, .ref (ad 40)), (1, .ref (ad 0)), (0, .ref b)] []) : GW L E 50 ad G cs ss 1335 [(5, .int (nI i)), (4, .ref (ad 49)), (3, .ref (ad 48)), (2, .ref (ad 40)), (1, .ref (ad 0)), (0, .ref b)] [] := by
  refine LI_elim hI (fun sn t1 t2 t3 t4 t5 b1 b2 b3 b4 b5 s0 q1 q2 q3 q4 q5 xz l ml f l2 ml2 f2 l3 ml3 f3 hs len od ps rs cu tx ik th m q te fx fy nx ny ux uy us px py sp bg fo le fi re ca f42 f43 pf tm xx yy ov ow g0 g1 g2 g3 g4 g5 g6 g8 g19 g20 g21 g22 g23 g24 g25 g26 g27 g38 g39 g40 g41 g42 g43 g44 g45 g46 g47 g48 g49 hH hQ hk hL hsg hP h4 hn6 htx he hkp => ?_)
  refine G_aload_n C 1 dL_law_1335 rfl rfl ?_
  refine G_aload_n C 0 dL_law_1336 rfl rfl ?_
  refine G_iload C dL_law_1337 rfl ?_
  refine G_iconst C (v := 1) dL_law_1339 (by decide) ?_
  refine G_iadd C dL_law_1340 ?_
  refine GW.topr (cI_add (a := i) (b := 1) rfl rfl) ?_
  refine G_sld C hX (j := (i + 1)) (by omega) (by omega) dL_law_1341 ?_
  refine G_aload_n C 3 dL_law_1342 rfl rfl ?_
  refine G_callSH C (As := [.ref (ad 0), .int (xs (i + 1)), .ref (ad 48)]) (rest := []) (w_xAt (c_X8_xAt g0 g1 g4 g5 g22 g23 hk hL hQ) g0 (fun v G2 hq => by obtain ⟨c, rfl, _, _, _, _, ag⟩ := hq; exact ⟨⟨_, rfl⟩, (ag 48 (by decide)).trans g48⟩) (fun e G2 h => h.elim (fun z => Or.inl z.1) (fun ⟨_, z, _⟩ => Or.inr z))) ca_L_xAt km_L_189 rfl rfl (by decide) (Nat.le_of_ble_eq_true rfl) ⟨by show cs + 1 ≤ 601024; omega, by show ss + 6 ≤ 7293034; omega⟩ dL_law_1343 (fun vv G9 hq9 => ?_)
  rcases hq9 with ⟨r, G1, hq1, rfl, k9, a9⟩ | ⟨hx1, rfl⟩ | ⟨hx1, rfl⟩
  · obtain ⟨c, h9, q90, q91, q92, q93, ag9⟩ := hq1
    obtain rfl := (slong_inj h9).symm
    have AA0 : Agr [9, 10, 11, 12, 13, 14, 15, 16, 17, 18] G G1 := ag9
    have AA1 : Agr [9, 10, 11, 12, 13, 14, 15, 16, 17, 18, 48] G G9 := AA0.tr a9 (by simp) (by simp)
    have BB2 : Agr [48] G1 G9 := a9.wk (by simp)
    refine G_istore C (lo' := [(6, .int 0), (5, .int (nI i)), (4, .ref (ad 49)), (3, .ref (ad 48)), (2, .ref (ad 40)), (1, .ref (ad 0)), (0, .ref b)]) dL_law_1346 (by decide) rfl ?_
    refine G_aload_n C 2 dL_law_1348 rfl rfl ?_
    refine G_aload_n C 0 dL_law_1349 rfl rfl ?_
    refine G_iload C dL_law_1350 rfl ?_
    refine G_iconst C (v := 1) dL_law_1352 (by decide) ?_
    refine G_iadd C dL_law_1353 ?_
    refine GW.topr (cI_add (a := i) (b := 1) rfl rfl) ?_
    refine G_sld C hX (j := (i + 1)) (by omega) (by omega) dL_law_1354 ?_
    refine GW.topr (y := nI c) (q90) ?_
    refine G_callV C (As := [.int (nI c)]) (rest := []) (c_X9_xAtY ((a9 40 (by decide)).trans ((ag9 40 (by decide)).trans g40)) ((a9 41 (by decide)).trans ((ag9 41 (by decide)).trans g41)) ((a9 46 (by decide)).trans ((ag9 46 (by decide)).trans g46)) ((a9 47 (by decide)).trans ((ag9 47 (by decide)).trans g47)) hk q91 q92) ca_X9_xAt km_L_191 (by decide) ((a9 40 (by decide)).trans ((ag9 40 (by decide)).trans g40)) rfl rfl rfl rfl (by decide) (Nat.le_of_ble_eq_true rfl) ⟨by show cs + 1 + 0 ≤ 601024; omega, by show ss + 6 + 0 ≤ 7293034; omega⟩ dL_law_1355 (fun vv3 gg4 qq5 => ?_)
    obtain ⟨j_6, j_7, j_8, j_9, j_10, j_11, j_12, u_13, u_14, u_15, p_16, p_17, x_18, y_19, rfl, hh20, hh21, hh22, aa23⟩ := qq5
    have AA24 : Agr [9, 10, 11, 12, 13, 14, 15, 16, 17, 18, 48, 40, 46, 47] G gg4 := AA1.tr aa23 (by simp) (by simp)
    have BB25 : Agr [48, 40, 46, 47] G1 gg4 := BB2.tr aa23 (by simp) (by simp)
    refine G_lstore C (lo' := [(7, .long (xa (kp f c) (lst (kp f c)))), (6, .int 0), (5, .int (nI i)), (4, .ref (ad 49)), (3, .ref (ad 48)), (2, .ref (ad 40)), (1, .ref (ad 0)), (0, .ref b)]) dL_law_1358 (by decide) rfl ?_
    refine G_aload_n C 2 dL_law_1360 rfl rfl ?_
    refine G_callV C (As := []) (rest := []) (c_X9_thrown hh20) ca_X9_thrown km_L_122 (by decide) hh20 rfl rfl rfl rfl (by decide) (Nat.le_of_ble_eq_true rfl) ⟨by show cs + 1 + 0 + 0 ≤ 601024; omega, by show ss + 6 + 0 + 0 ≤ 7293034; omega⟩ dL_law_1361 (fun vv26 gg27 qq28 => ?_)
    obtain ⟨rfl, rfl⟩ := qq28
    refine G_iload C dL_law_1364 rfl ?_
    refine G_icmp_eq C 1371 dL_law_1366 (by decide) (fun _ => ?_) (fun h => absurd h (by decide))
    refine G_iload C dL_law_1371 rfl ?_
    refine G_if_ne C 1387 dL_law_1373 (by decide) (fun h => absurd h (by decide)) (fun _ => ?_)
    refine G_aload_n C 3 dL_law_1376 rfl rfl ?_
    refine G_iconst C (v := 0) dL_law_1377 (by decide) ?_
    refine G_laldN C 48 (by decide) 0 ((aa23 48 (by decide)).trans k9) rfl (by decide) (by omega) dL_law_1378 ?_
    refine GW.toprl (y := xa (kp f c) (lst (kp f c))) (pk_uLs) ?_
    refine G_lload C dL_law_1379 rfl ?_
    refine G_lc_eq C 1387 dL_law_1381 dL_law_1382 (by decide) (fun c1381 => ?_) (fun c1381 => False.elim (c1381 (rfl)))
    refine G_goto C 1974 dL_law_1387 (by decide) ?_
    refine GW.pick [2, 3, 4, 5, 6, 7] [(5, .int (nI i)), (4, .ref (ad 49)), (3, .ref (ad 48)), (2, .ref (ad 40)), (1, .ref (ad 0)), (0, .ref b)] rfl ?_
    refine GW.widen (c1 := cs + 3) (s1 := ss + 18) (by show cs + 1 + 0 + 0 ≤ cs + 3; omega) (by show ss + 6 + 0 + 0 ≤ ss + 18; omega) ?_
    exact K _ (LI_mk  ((aa23 0 (by decide)).trans ((a9 0 (by decide)).trans ((ag9 0 (by decide)).trans g0))) ((aa23 1 (by decide)).trans ((a9 1 (by decide)).trans ((ag9 1 (by decide)).trans g1))) ((aa23 2 (by decide)).trans ((a9 2 (by decide)).trans ((ag9 2 (by decide)).trans g2))) ((aa23 3 (by decide)).trans ((a9 3 (by decide)).trans ((ag9 3 (by decide)).trans g3))) ((aa23 4 (by decide)).trans ((a9 4 (by decide)).trans ((ag9 4 (by decide)).trans g4))) ((aa23 5 (by decide)).trans ((a9 5 (by decide)).trans ((ag9 5 (by decide)).trans g5))) ((aa23 6 (by decide)).trans ((a9 6 (by decide)).trans ((ag9 6 (by decide)).trans g6))) ((aa23 8 (by decide)).trans ((a9 8 (by decide)).trans ((ag9 8 (by decide)).trans g8))) ((aa23 19 (by decide)).trans ((a9 19 (by decide)).trans ((ag9 19 (by decide)).trans g19))) ((aa23 20 (by decide)).trans ((a9 20 (by decide)).trans ((ag9 20 (by decide)).trans g20))) ((aa23 21 (by decide)).trans ((a9 21 (by decide)).trans ((ag9 21 (by decide)).trans g21))) ((aa23 22 (by decide)).trans ((a9 22 (by decide)).trans ((ag9 22 (by decide)).trans g22))) ((aa23 23 (by decide)).trans ((a9 23 (by decide)).trans ((ag9 23 (by decide)).trans g23))) ((aa23 24 (by decide)).trans ((a9 24 (by decide)).trans ((ag9 24 (by decide)).trans g24))) ((aa23 25 (by decide)).trans ((a9 25 (by decide)).trans ((ag9 25 (by decide)).trans g25))) ((aa23 26 (by decide)).trans ((a9 26 (by decide)).trans ((ag9 26 (by decide)).trans g26))) ((aa23 27 (by decide)).trans ((a9 27 (by decide)).trans ((ag9 27 (by decide)).trans g27))) ((aa23 38 (by decide)).trans ((a9 38 (by decide)).trans ((ag9 38 (by decide)).trans g38))) ((aa23 39 (by decide)).trans ((a9 39 (by decide)).trans ((ag9 39 (by decide)).trans g39))) hh20 ((aa23 41 (by decide)).trans ((a9 41 (by decide)).trans ((ag9 41 (by decide)).trans g41))) ((aa23 42 (by decide)).trans ((a9 42 (by decide)).trans ((ag9 42 (by decide)).trans g42))) ((aa23 43 (by decide)).trans ((a9 43 (by decide)).trans ((ag9 43 (by decide)).trans g43))) ((aa23 44 (by decide)).trans ((a9 44 (by decide)).trans ((ag9 44 (by decide)).trans g44))) ((aa23 45 (by decide)).trans ((a9 45 (by decide)).trans ((ag9 45 (by decide)).trans g45))) hh21 hh22 ((aa23 48 (by decide)).trans k9) ((aa23 49 (by decide)).trans ((a9 49 (by decide)).trans ((ag9 49 (by decide)).trans g49))) (hH.keep AA24 (by decide)) (qp_keep q93 BB25 (by decide)) (hk) (hL) (hsg) (hP) (h4) (hn6) (htx) (he) (hkp))
  · obtain ⟨-, hPx, rfl⟩ := hx1.elim id (fun ⟨_, z, _⟩ => absurd z ne_AN)
    refine G_istore C (lo' := [(6, .int 1), (5, .int (nI i)), (4, .ref (ad 49)), (3, .ref (ad 48)), (2, .ref (ad 40)), (1, .ref (ad 0)), (0, .ref b)]) dL_law_1346 (by decide) rfl ?_
    refine G_aload_n C 2 dL_law_1348 rfl rfl ?_
    refine G_aload_n C 0 dL_law_1349 rfl rfl ?_
    refine G_iload C dL_law_1350 rfl ?_
    refine G_iconst C (v := 1) dL_law_1352 (by decide) ?_
    refine G_iadd C dL_law_1353 ?_
    refine GW.topr (cI_add (a := i) (b := 1) rfl rfl) ?_
    refine G_sld C hX (j := (i + 1)) (by omega) (by omega) dL_law_1354 ?_
    refine G_callV C (As := [.int (xs (i + 1))]) (rest := []) (c_X9_xAtA g40 hPx) ca_X9_xAt km_L_191 (by decide) g40 rfl rfl rfl rfl (by decide) (Nat.le_of_ble_eq_true rfl) ⟨by show cs + 1 + 0 ≤ 601024; omega, by show ss + 6 + 0 ≤ 7293034; omega⟩ dL_law_1355 (fun vv29 gg30 qq31 => ?_)
    obtain ⟨rfl, hh32, aa33⟩ := qq31
    have AA34 : Agr [40] G gg30 := aa33.wk (by simp)
    refine G_lstore C (lo' := [(7, .long 0), (6, .int 1), (5, .int (nI i)), (4, .ref (ad 49)), (3, .ref (ad 48)), (2, .ref (ad 40)), (1, .ref (ad 0)), (0, .ref b)]) dL_law_1358 (by decide) rfl ?_
    refine G_aload_n C 2 dL_law_1360 rfl rfl ?_
    refine G_callV C (As := []) (rest := []) (c_X9_thrown hh32) ca_X9_thrown km_L_122 (by decide) hh32 rfl rfl rfl rfl (by decide) (Nat.le_of_ble_eq_true rfl) ⟨by show cs + 1 + 0 + 0 ≤ 601024; omega, by show ss + 6 + 0 + 0 ≤ 7293034; omega⟩ dL_law_1361 (fun vv35 gg36 qq37 => ?_)
    obtain ⟨rfl, rfl⟩ := qq37
    refine G_iload C dL_law_1364 rfl ?_
    refine G_icmp_eq C 1371 dL_law_1366 (by decide) (fun _ => ?_) (fun h => absurd h (by decide))
    refine G_iload C dL_law_1371 rfl ?_
    refine G_if_ne C 1387 dL_law_1373 (by decide) (fun _ => ?_) (fun h => absurd h (by decide))
    refine G_goto C 1974 dL_law_1387 (by decide) ?_
    refine GW.pick [2, 3, 4, 5, 6, 7] [(5, .int (nI i)), (4, .ref (ad 49)), (3, .ref (ad 48)), (2, .ref (ad 40)), (1, .ref (ad 0)), (0, .ref b)] rfl ?_
    refine GW.widen (c1 := cs + 3) (s1 := ss + 18) (by show cs + 1 + 0 + 0 ≤ cs + 3; omega) (by show ss + 6 + 0 + 0 ≤ ss + 18; omega) ?_
    exact K _ (LI_mk  ((aa33 0 (by decide)).trans g0) ((aa33 1 (by decide)).trans g1) ((aa33 2 (by decide)).trans g2) ((aa33 3 (by decide)).trans g3) ((aa33 4 (by decide)).trans g4) ((aa33 5 (by decide)).trans g5) ((aa33 6 (by decide)).trans g6) ((aa33 8 (by decide)).trans g8) ((aa33 19 (by decide)).trans g19) ((aa33 20 (by decide)).trans g20) ((aa33 21 (by decide)).trans g21) ((aa33 22 (by decide)).trans g22) ((aa33 23 (by decide)).trans g23) ((aa33 24 (by decide)).trans g24) ((aa33 25 (by decide)).trans g25) ((aa33 26 (by decide)).trans g26) ((aa33 27 (by decide)).trans g27) ((aa33 38 (by decide)).trans g38) ((aa33 39 (by decide)).trans g39) hh32 ((aa33 41 (by decide)).trans g41) ((aa33 42 (by decide)).trans g42) ((aa33 43 (by decide)).trans g43) ((aa33 44 (by decide)).trans g44) ((aa33 45 (by decide)).trans g45) ((aa33 46 (by decide)).trans g46) ((aa33 47 (by decide)).trans g47) ((aa33 48 (by decide)).trans g48) ((aa33 49 (by decide)).trans g49) (hH.keep AA34 (by decide)) (qp_keep hQ AA34 (by decide)) (hk) (hL) (hsg) (hP) (h4) (hn6) (htx) (he) (hkp))
  · rcases hx1 with z | ⟨c, -, hn, hc31, hz, hQ9, aX⟩
    · exact absurd z.1 ne_NA
    refine G_istore C (lo' := [(6, .int 2), (5, .int (nI i)), (4, .ref (ad 49)), (3, .ref (ad 48)), (2, .ref (ad 40)), (1, .ref (ad 0)), (0, .ref b)]) dL_law_1346 (by decide) rfl ?_
    refine G_aload_n C 2 dL_law_1348 rfl rfl ?_
    refine G_aload_n C 0 dL_law_1349 rfl rfl ?_
    refine G_iload C dL_law_1350 rfl ?_
    refine G_iconst C (v := 1) dL_law_1352 (by decide) ?_
    refine G_iadd C dL_law_1353 ?_
    refine GW.topr (cI_add (a := i) (b := 1) rfl rfl) ?_
    refine G_sld C hX (j := (i + 1)) (by omega) (by omega) dL_law_1354 ?_
    refine GW.topr (y := nI c) (hn) ?_
    refine G_callV C (As := [.int (nI c)]) (rest := []) (c_X9_xAtZ ((aX 40 (by decide)).trans g40) ((aX 41 (by decide)).trans g41) ((aX 46 (by decide)).trans g46) ((aX 47 (by decide)).trans g47) hk hc31 hz) ca_X9_xAt km_L_191 (by decide) ((aX 40 (by decide)).trans g40) rfl rfl rfl rfl (by decide) (Nat.le_of_ble_eq_true rfl) ⟨by show cs + 1 + 0 ≤ 601024; omega, by show ss + 6 + 0 ≤ 7293034; omega⟩ dL_law_1355 (fun vv38 gg39 qq40 => ?_)
    obtain ⟨j_41, j_42, j_43, j_44, j_45, j_46, j_47, u_48, u_49, u_50, p_51, p_52, x_53, y_54, rfl, hh55, hh56, hh57, aa58⟩ := qq40
    have AA59 : Agr [9, 10, 11, 12, 13, 14, 15, 16, 17, 18, 40, 46, 47] G gg39 := aX.tr aa58 (by simp) (by simp)
    have BB60 : Agr [40, 46, 47] G9 gg39 := aa58.wk (by simp)
    refine G_lstore C (lo' := [(7, .long 0), (6, .int 2), (5, .int (nI i)), (4, .ref (ad 49)), (3, .ref (ad 48)), (2, .ref (ad 40)), (1, .ref (ad 0)), (0, .ref b)]) dL_law_1358 (by decide) rfl ?_
    refine G_aload_n C 2 dL_law_1360 rfl rfl ?_
    refine G_callV C (As := []) (rest := []) (c_X9_thrown hh55) ca_X9_thrown km_L_122 (by decide) hh55 rfl rfl rfl rfl (by decide) (Nat.le_of_ble_eq_true rfl) ⟨by show cs + 1 + 0 + 0 ≤ 601024; omega, by show ss + 6 + 0 + 0 ≤ 7293034; omega⟩ dL_law_1361 (fun vv61 gg62 qq63 => ?_)
    obtain ⟨rfl, rfl⟩ := qq63
    refine G_iload C dL_law_1364 rfl ?_
    refine G_icmp_eq C 1371 dL_law_1366 (by decide) (fun _ => ?_) (fun h => absurd h (by decide))
    refine G_iload C dL_law_1371 rfl ?_
    refine G_if_ne C 1387 dL_law_1373 (by decide) (fun _ => ?_) (fun h => absurd h (by decide))
    refine G_goto C 1974 dL_law_1387 (by decide) ?_
    refine GW.pick [2, 3, 4, 5, 6, 7] [(5, .int (nI i)), (4, .ref (ad 49)), (3, .ref (ad 48)), (2, .ref (ad 40)), (1, .ref (ad 0)), (0, .ref b)] rfl ?_
    refine GW.widen (c1 := cs + 3) (s1 := ss + 18) (by show cs + 1 + 0 + 0 ≤ cs + 3; omega) (by show ss + 6 + 0 + 0 ≤ ss + 18; omega) ?_
    exact K _ (LI_mk  ((aa58 0 (by decide)).trans ((aX 0 (by decide)).trans g0)) ((aa58 1 (by decide)).trans ((aX 1 (by decide)).trans g1)) ((aa58 2 (by decide)).trans ((aX 2 (by decide)).trans g2)) ((aa58 3 (by decide)).trans ((aX 3 (by decide)).trans g3)) ((aa58 4 (by decide)).trans ((aX 4 (by decide)).trans g4)) ((aa58 5 (by decide)).trans ((aX 5 (by decide)).trans g5)) ((aa58 6 (by decide)).trans ((aX 6 (by decide)).trans g6)) ((aa58 8 (by decide)).trans ((aX 8 (by decide)).trans g8)) ((aa58 19 (by decide)).trans ((aX 19 (by decide)).trans g19)) ((aa58 20 (by decide)).trans ((aX 20 (by decide)).trans g20)) ((aa58 21 (by decide)).trans ((aX 21 (by decide)).trans g21)) ((aa58 22 (by decide)).trans ((aX 22 (by decide)).trans g22)) ((aa58 23 (by decide)).trans ((aX 23 (by decide)).trans g23)) ((aa58 24 (by decide)).trans ((aX 24 (by decide)).trans g24)) ((aa58 25 (by decide)).trans ((aX 25 (by decide)).trans g25)) ((aa58 26 (by decide)).trans ((aX 26 (by decide)).trans g26)) ((aa58 27 (by decide)).trans ((aX 27 (by decide)).trans g27)) ((aa58 38 (by decide)).trans ((aX 38 (by decide)).trans g38)) ((aa58 39 (by decide)).trans ((aX 39 (by decide)).trans g39)) hh55 ((aa58 41 (by decide)).trans ((aX 41 (by decide)).trans g41)) ((aa58 42 (by decide)).trans ((aX 42 (by decide)).trans g42)) ((aa58 43 (by decide)).trans ((aX 43 (by decide)).trans g43)) ((aa58 44 (by decide)).trans ((aX 44 (by decide)).trans g44)) ((aa58 45 (by decide)).trans ((aX 45 (by decide)).trans g45)) hh56 hh57 ((aa58 48 (by decide)).trans ((aX 48 (by decide)).trans g48)) ((aa58 49 (by decide)).trans ((aX 49 (by decide)).trans g49)) (hH.keep AA59 (by decide)) (qp_keep hQ9 BB60 (by decide)) (hk) (hL) (hsg) (hP) (h4) (hn6) (htx) (he) (hkp))

set_option maxRecDepth 100000 in
set_option maxHeartbeats 4000000 in
theorem LC_23 {L : GL} {E : GE} {ad : Nat → Nat} {G : Nat → va_E} {cs ss b Ls i : Nat} {xs : Nat → Int32} (C : gC L E cL_law RL 9 room_1) (hX : LWx L E b Ls xs) (hi : i + 3 ≤ Ls) (hLs : Ls ≤ 1536) (hcs : cs + 3 ≤ 601024 ∧ ss + 18 ≤ 7293034) (hI : LI L ad G) (K : ∀ G', LI L ad G' → GW L E 50 ad G' (cs + 3) (ss + 18) 1974 [(5, .int (nI i)), (4, .ref (ad 49)), (3, .ref (ad 48)), (2, .ref (ad 40)), (1, .ref (ad 0)), (0, .ref b)] []) : GW L E 50 ad G cs ss 1445 [(5, .int (nI i)), (4, .ref (ad 49)), (3, .ref (ad 48)), (2, .ref (ad 40)), (1, .ref (ad 0)), (0, .ref b)] [] := by
  refine LI_elim hI (fun sn t1 t2 t3 t4 t5 b1 b2 b3 b4 b5 s0 q1 q2 q3 q4 q5 xz l ml f l2 ml2 f2 l3 ml3 f3 hs len od ps rs cu tx ik th m q te fx fy nx ny ux uy us px py sp bg fo le fi re ca f42 f43 pf tm xx yy ov ow g0 g1 g2 g3 g4 g5 g6 g8 g19 g20 g21 g22 g23 g24 g25 g26 g27 g38 g39 g40 g41 g42 g43 g44 g45 g46 g47 g48 g49 hH hQ hk hL hsg hP h4 hn6 htx he hkp => ?_)
  refine G_aload_n C 1 dL_law_1445 rfl rfl ?_
  refine G_aload_n C 0 dL_law_1446 rfl rfl ?_
  refine G_iload C dL_law_1447 rfl ?_
  refine G_iconst C (v := 1) dL_law_1449 (by decide) ?_
  refine G_iadd C dL_law_1450 ?_
  refine GW.topr (cI_add (a := i) (b := 1) rfl rfl) ?_
  refine G_sld C hX (j := (i + 1)) (by omega) (by omega) dL_law_1451 ?_
  refine G_aload_n C 3 dL_law_1452 rfl rfl ?_
  refine G_callSH C (As := [.ref (ad 0), .int (xs (i + 1)), .ref (ad 48)]) (rest := []) (w_stoneAt (c_X8_stoneAt g0 g1 g4 g5 g22 g23 hk hL hQ) g0 (fun v G2 hq => by obtain ⟨c, rfl, _, _, _, _, ag⟩ := hq; exact ⟨⟨_, rfl⟩, (ag 48 (by decide)).trans g48⟩) (fun e G2 h => h.elim (fun z => Or.inl z.1) (fun ⟨_, z, _⟩ => Or.inr z))) ca_L_stoneAt km_L_195 rfl rfl (by decide) (Nat.le_of_ble_eq_true rfl) ⟨by show cs + 1 ≤ 601024; omega, by show ss + 6 ≤ 7293034; omega⟩ dL_law_1453 (fun vv G9 hq9 => ?_)
  rcases hq9 with ⟨r, G1, hq1, rfl, k9, a9⟩ | ⟨hx1, rfl⟩ | ⟨hx1, rfl⟩
  · obtain ⟨c, h9, q90, q91, q92, q93, ag9⟩ := hq1
    obtain rfl := (sint_inj h9).symm
    have AA0 : Agr [9, 10, 11, 12, 13, 14, 15, 16, 17, 18] G G1 := ag9
    have AA1 : Agr [9, 10, 11, 12, 13, 14, 15, 16, 17, 18, 48] G G9 := AA0.tr a9 (by simp) (by simp)
    have BB2 : Agr [48] G1 G9 := a9.wk (by simp)
    refine G_istore C (lo' := [(6, .int 0), (5, .int (nI i)), (4, .ref (ad 49)), (3, .ref (ad 48)), (2, .ref (ad 40)), (1, .ref (ad 0)), (0, .ref b)]) dL_law_1456 (by decide) rfl ?_
    refine G_aload_n C 2 dL_law_1458 rfl rfl ?_
    refine G_aload_n C 0 dL_law_1459 rfl rfl ?_
    refine G_iload C dL_law_1460 rfl ?_
    refine G_iconst C (v := 1) dL_law_1462 (by decide) ?_
    refine G_iadd C dL_law_1463 ?_
    refine GW.topr (cI_add (a := i) (b := 1) rfl rfl) ?_
    refine G_sld C hX (j := (i + 1)) (by omega) (by omega) dL_law_1464 ?_
    refine GW.topr (y := nI c) (q90) ?_
    refine G_callV C (As := [.int (nI c)]) (rest := []) (c_X9_stoneAtY ((a9 40 (by decide)).trans ((ag9 40 (by decide)).trans g40)) ((a9 41 (by decide)).trans ((ag9 41 (by decide)).trans g41)) ((a9 46 (by decide)).trans ((ag9 46 (by decide)).trans g46)) ((a9 47 (by decide)).trans ((ag9 47 (by decide)).trans g47)) hk q91 q92) ca_X9_stoneAt km_L_197 (by decide) ((a9 40 (by decide)).trans ((ag9 40 (by decide)).trans g40)) rfl rfl rfl rfl (by decide) (Nat.le_of_ble_eq_true rfl) ⟨by show cs + 1 + 0 ≤ 601024; omega, by show ss + 6 + 0 ≤ 7293034; omega⟩ dL_law_1465 (fun vv3 gg4 qq5 => ?_)
    obtain ⟨j_6, j_7, j_8, j_9, j_10, j_11, j_12, u_13, u_14, u_15, p_16, p_17, x_18, y_19, rfl, hh20, hh21, hh22, aa23⟩ := qq5
    have AA24 : Agr [9, 10, 11, 12, 13, 14, 15, 16, 17, 18, 48, 40, 46, 47] G gg4 := AA1.tr aa23 (by simp) (by simp)
    have BB25 : Agr [48, 40, 46, 47] G1 gg4 := BB2.tr aa23 (by simp) (by simp)
    refine G_istore C (lo' := [(7, .int (nI (lst (kp f c)))), (6, .int 0), (5, .int (nI i)), (4, .ref (ad 49)), (3, .ref (ad 48)), (2, .ref (ad 40)), (1, .ref (ad 0)), (0, .ref b)]) dL_law_1468 (by decide) rfl ?_
    refine G_aload_n C 2 dL_law_1470 rfl rfl ?_
    refine G_callV C (As := []) (rest := []) (c_X9_thrown hh20) ca_X9_thrown km_L_122 (by decide) hh20 rfl rfl rfl rfl (by decide) (Nat.le_of_ble_eq_true rfl) ⟨by show cs + 1 + 0 + 0 ≤ 601024; omega, by show ss + 6 + 0 + 0 ≤ 7293034; omega⟩ dL_law_1471 (fun vv26 gg27 qq28 => ?_)
    obtain ⟨rfl, rfl⟩ := qq28
    refine G_iload C dL_law_1474 rfl ?_
    refine G_icmp_eq C 1481 dL_law_1476 (by decide) (fun _ => ?_) (fun h => absurd h (by decide))
    refine G_iload C dL_law_1481 rfl ?_
    refine G_if_ne C 1498 dL_law_1483 (by decide) (fun h => absurd h (by decide)) (fun _ => ?_)
    refine G_aload_n C 3 dL_law_1486 rfl rfl ?_
    refine G_iconst C (v := 0) dL_law_1487 (by decide) ?_
    refine G_laldN C 48 (by decide) 0 ((aa23 48 (by decide)).trans k9) rfl (by decide) (by omega) dL_law_1488 ?_
    refine GW.toprl (y := (nI (lst (kp f c))).toInt64) (pk_uLs) ?_
    refine G_iload C dL_law_1489 rfl ?_
    refine G_i2l C dL_law_1491 rfl ?_
    refine G_lc_eq C 1498 dL_law_1492 dL_law_1493 (by decide) (fun c1492 => ?_) (fun c1492 => False.elim (c1492 (rfl)))
    refine G_goto C 1974 dL_law_1498 (by decide) ?_
    refine GW.pick [2, 3, 4, 5, 6, 7] [(5, .int (nI i)), (4, .ref (ad 49)), (3, .ref (ad 48)), (2, .ref (ad 40)), (1, .ref (ad 0)), (0, .ref b)] rfl ?_
    refine GW.widen (c1 := cs + 3) (s1 := ss + 18) (by show cs + 1 + 0 + 0 ≤ cs + 3; omega) (by show ss + 6 + 0 + 0 ≤ ss + 18; omega) ?_
    exact K _ (LI_mk  ((aa23 0 (by decide)).trans ((a9 0 (by decide)).trans ((ag9 0 (by decide)).trans g0))) ((aa23 1 (by decide)).trans ((a9 1 (by decide)).trans ((ag9 1 (by decide)).trans g1))) ((aa23 2 (by decide)).trans ((a9 2 (by decide)).trans ((ag9 2 (by decide)).trans g2))) ((aa23 3 (by decide)).trans ((a9 3 (by decide)).trans ((ag9 3 (by decide)).trans g3))) ((aa23 4 (by decide)).trans ((a9 4 (by decide)).trans ((ag9 4 (by decide)).trans g4))) ((aa23 5 (by decide)).trans ((a9 5 (by decide)).trans ((ag9 5 (by decide)).trans g5))) ((aa23 6 (by decide)).trans ((a9 6 (by decide)).trans ((ag9 6 (by decide)).trans g6))) ((aa23 8 (by decide)).trans ((a9 8 (by decide)).trans ((ag9 8 (by decide)).trans g8))) ((aa23 19 (by decide)).trans ((a9 19 (by decide)).trans ((ag9 19 (by decide)).trans g19))) ((aa23 20 (by decide)).trans ((a9 20 (by decide)).trans ((ag9 20 (by decide)).trans g20))) ((aa23 21 (by decide)).trans ((a9 21 (by decide)).trans ((ag9 21 (by decide)).trans g21))) ((aa23 22 (by decide)).trans ((a9 22 (by decide)).trans ((ag9 22 (by decide)).trans g22))) ((aa23 23 (by decide)).trans ((a9 23 (by decide)).trans ((ag9 23 (by decide)).trans g23))) ((aa23 24 (by decide)).trans ((a9 24 (by decide)).trans ((ag9 24 (by decide)).trans g24))) ((aa23 25 (by decide)).trans ((a9 25 (by decide)).trans ((ag9 25 (by decide)).trans g25))) ((aa23 26 (by decide)).trans ((a9 26 (by decide)).trans ((ag9 26 (by decide)).trans g26))) ((aa23 27 (by decide)).trans ((a9 27 (by decide)).trans ((ag9 27 (by decide)).trans g27))) ((aa23 38 (by decide)).trans ((a9 38 (by decide)).trans ((ag9 38 (by decide)).trans g38))) ((aa23 39 (by decide)).trans ((a9 39 (by decide)).trans ((ag9 39 (by decide)).trans g39))) hh20 ((aa23 41 (by decide)).trans ((a9 41 (by decide)).trans ((ag9 41 (by decide)).trans g41))) ((aa23 42 (by decide)).trans ((a9 42 (by decide)).trans ((ag9 42 (by decide)).trans g42))) ((aa23 43 (by decide)).trans ((a9 43 (by decide)).trans ((ag9 43 (by decide)).trans g43))) ((aa23 44 (by decide)).trans ((a9 44 (by decide)).trans ((ag9 44 (by decide)).trans g44))) ((aa23 45 (by decide)).trans ((a9 45 (by decide)).trans ((ag9 45 (by decide)).trans g45))) hh21 hh22 ((aa23 48 (by decide)).trans k9) ((aa23 49 (by decide)).trans ((a9 49 (by decide)).trans ((ag9 49 (by decide)).trans g49))) (hH.keep AA24 (by decide)) (qp_keep q93 BB25 (by decide)) (hk) (hL) (hsg) (hP) (h4) (hn6) (htx) (he) (hkp))
  · obtain ⟨-, hPx, rfl⟩ := hx1.elim id (fun ⟨_, z, _⟩ => absurd z ne_AN)
    refine G_istore C (lo' := [(6, .int 1), (5, .int (nI i)), (4, .ref (ad 49)), (3, .ref (ad 48)), (2, .ref (ad 40)), (1, .ref (ad 0)), (0, .ref b)]) dL_law_1456 (by decide) rfl ?_
    refine G_aload_n C 2 dL_law_1458 rfl rfl ?_
    refine G_aload_n C 0 dL_law_1459 rfl rfl ?_
    refine G_iload C dL_law_1460 rfl ?_
    refine G_iconst C (v := 1) dL_law_1462 (by decide) ?_
    refine G_iadd C dL_law_1463 ?_
    refine GW.topr (cI_add (a := i) (b := 1) rfl rfl) ?_
    refine G_sld C hX (j := (i + 1)) (by omega) (by omega) dL_law_1464 ?_
    refine G_callV C (As := [.int (xs (i + 1))]) (rest := []) (c_X9_stoneAtA g40 hPx) ca_X9_stoneAt km_L_197 (by decide) g40 rfl rfl rfl rfl (by decide) (Nat.le_of_ble_eq_true rfl) ⟨by show cs + 1 + 0 ≤ 601024; omega, by show ss + 6 + 0 ≤ 7293034; omega⟩ dL_law_1465 (fun vv29 gg30 qq31 => ?_)
    obtain ⟨rfl, hh32, aa33⟩ := qq31
    have AA34 : Agr [40] G gg30 := aa33.wk (by simp)
    refine G_istore C (lo' := [(7, .int 0), (6, .int 1), (5, .int (nI i)), (4, .ref (ad 49)), (3, .ref (ad 48)), (2, .ref (ad 40)), (1, .ref (ad 0)), (0, .ref b)]) dL_law_1468 (by decide) rfl ?_
    refine G_aload_n C 2 dL_law_1470 rfl rfl ?_
    refine G_callV C (As := []) (rest := []) (c_X9_thrown hh32) ca_X9_thrown km_L_122 (by decide) hh32 rfl rfl rfl rfl (by decide) (Nat.le_of_ble_eq_true rfl) ⟨by show cs + 1 + 0 + 0 ≤ 601024; omega, by show ss + 6 + 0 + 0 ≤ 7293034; omega⟩ dL_law_1471 (fun vv35 gg36 qq37 => ?_)
    obtain ⟨rfl, rfl⟩ := qq37
    refine G_iload C dL_law_1474 rfl ?_
    refine G_icmp_eq C 1481 dL_law_1476 (by decide) (fun _ => ?_) (fun h => absurd h (by decide))
    refine G_iload C dL_law_1481 rfl ?_
    refine G_if_ne C 1498 dL_law_1483 (by decide) (fun _ => ?_) (fun h => absurd h (by decide))
    refine G_goto C 1974 dL_law_1498 (by decide) ?_
    refine GW.pick [2, 3, 4, 5, 6, 7] [(5, .int (nI i)), (4, .ref (ad 49)), (3, .ref (ad 48)), (2, .ref (ad 40)), (1, .ref (ad 0)), (0, .ref b)] rfl ?_
    refine GW.widen (c1 := cs + 3) (s1 := ss + 18) (by show cs + 1 + 0 + 0 ≤ cs + 3; omega) (by show ss + 6 + 0 + 0 ≤ ss + 18; omega) ?_
    exact K _ (LI_mk  ((aa33 0 (by decide)).trans g0) ((aa33 1 (by decide)).trans g1) ((aa33 2 (by decide)).trans g2) ((aa33 3 (by decide)).trans g3) ((aa33 4 (by decide)).trans g4) ((aa33 5 (by decide)).trans g5) ((aa33 6 (by decide)).trans g6) ((aa33 8 (by decide)).trans g8) ((aa33 19 (by decide)).trans g19) ((aa33 20 (by decide)).trans g20) ((aa33 21 (by decide)).trans g21) ((aa33 22 (by decide)).trans g22) ((aa33 23 (by decide)).trans g23) ((aa33 24 (by decide)).trans g24) ((aa33 25 (by decide)).trans g25) ((aa33 26 (by decide)).trans g26) ((aa33 27 (by decide)).trans g27) ((aa33 38 (by decide)).trans g38) ((aa33 39 (by decide)).trans g39) hh32 ((aa33 41 (by decide)).trans g41) ((aa33 42 (by decide)).trans g42) ((aa33 43 (by decide)).trans g43) ((aa33 44 (by decide)).trans g44) ((aa33 45 (by decide)).trans g45) ((aa33 46 (by decide)).trans g46) ((aa33 47 (by decide)).trans g47) ((aa33 48 (by decide)).trans g48) ((aa33 49 (by decide)).trans g49) (hH.keep AA34 (by decide)) (qp_keep hQ AA34 (by decide)) (hk) (hL) (hsg) (hP) (h4) (hn6) (htx) (he) (hkp))
  · rcases hx1 with z | ⟨c, -, hn, hc31, hz, hQ9, aX⟩
    · exact absurd z.1 ne_NA
    refine G_istore C (lo' := [(6, .int 2), (5, .int (nI i)), (4, .ref (ad 49)), (3, .ref (ad 48)), (2, .ref (ad 40)), (1, .ref (ad 0)), (0, .ref b)]) dL_law_1456 (by decide) rfl ?_
    refine G_aload_n C 2 dL_law_1458 rfl rfl ?_
    refine G_aload_n C 0 dL_law_1459 rfl rfl ?_
    refine G_iload C dL_law_1460 rfl ?_
    refine G_iconst C (v := 1) dL_law_1462 (by decide) ?_
    refine G_iadd C dL_law_1463 ?_
    refine GW.topr (cI_add (a := i) (b := 1) rfl rfl) ?_
    refine G_sld C hX (j := (i + 1)) (by omega) (by omega) dL_law_1464 ?_
    refine GW.topr (y := nI c) (hn) ?_
    refine G_callV C (As := [.int (nI c)]) (rest := []) (c_X9_stoneAtZ ((aX 40 (by decide)).trans g40) ((aX 41 (by decide)).trans g41) ((aX 46 (by decide)).trans g46) ((aX 47 (by decide)).trans g47) hk hc31 hz) ca_X9_stoneAt km_L_197 (by decide) ((aX 40 (by decide)).trans g40) rfl rfl rfl rfl (by decide) (Nat.le_of_ble_eq_true rfl) ⟨by show cs + 1 + 0 ≤ 601024; omega, by show ss + 6 + 0 ≤ 7293034; omega⟩ dL_law_1465 (fun vv38 gg39 qq40 => ?_)
    obtain ⟨j_41, j_42, j_43, j_44, j_45, j_46, j_47, u_48, u_49, u_50, p_51, p_52, x_53, y_54, rfl, hh55, hh56, hh57, aa58⟩ := qq40
    have AA59 : Agr [9, 10, 11, 12, 13, 14, 15, 16, 17, 18, 40, 46, 47] G gg39 := aX.tr aa58 (by simp) (by simp)
    have BB60 : Agr [40, 46, 47] G9 gg39 := aa58.wk (by simp)
    refine G_istore C (lo' := [(7, .int 0), (6, .int 2), (5, .int (nI i)), (4, .ref (ad 49)), (3, .ref (ad 48)), (2, .ref (ad 40)), (1, .ref (ad 0)), (0, .ref b)]) dL_law_1468 (by decide) rfl ?_
    refine G_aload_n C 2 dL_law_1470 rfl rfl ?_
    refine G_callV C (As := []) (rest := []) (c_X9_thrown hh55) ca_X9_thrown km_L_122 (by decide) hh55 rfl rfl rfl rfl (by decide) (Nat.le_of_ble_eq_true rfl) ⟨by show cs + 1 + 0 + 0 ≤ 601024; omega, by show ss + 6 + 0 + 0 ≤ 7293034; omega⟩ dL_law_1471 (fun vv61 gg62 qq63 => ?_)
    obtain ⟨rfl, rfl⟩ := qq63
    refine G_iload C dL_law_1474 rfl ?_
    refine G_icmp_eq C 1481 dL_law_1476 (by decide) (fun _ => ?_) (fun h => absurd h (by decide))
    refine G_iload C dL_law_1481 rfl ?_
    refine G_if_ne C 1498 dL_law_1483 (by decide) (fun _ => ?_) (fun h => absurd h (by decide))
    refine G_goto C 1974 dL_law_1498 (by decide) ?_
    refine GW.pick [2, 3, 4, 5, 6, 7] [(5, .int (nI i)), (4, .ref (ad 49)), (3, .ref (ad 48)), (2, .ref (ad 40)), (1, .ref (ad 0)), (0, .ref b)] rfl ?_
    refine GW.widen (c1 := cs + 3) (s1 := ss + 18) (by show cs + 1 + 0 + 0 ≤ cs + 3; omega) (by show ss + 6 + 0 + 0 ≤ ss + 18; omega) ?_
    exact K _ (LI_mk  ((aa58 0 (by decide)).trans ((aX 0 (by decide)).trans g0)) ((aa58 1 (by decide)).trans ((aX 1 (by decide)).trans g1)) ((aa58 2 (by decide)).trans ((aX 2 (by decide)).trans g2)) ((aa58 3 (by decide)).trans ((aX 3 (by decide)).trans g3)) ((aa58 4 (by decide)).trans ((aX 4 (by decide)).trans g4)) ((aa58 5 (by decide)).trans ((aX 5 (by decide)).trans g5)) ((aa58 6 (by decide)).trans ((aX 6 (by decide)).trans g6)) ((aa58 8 (by decide)).trans ((aX 8 (by decide)).trans g8)) ((aa58 19 (by decide)).trans ((aX 19 (by decide)).trans g19)) ((aa58 20 (by decide)).trans ((aX 20 (by decide)).trans g20)) ((aa58 21 (by decide)).trans ((aX 21 (by decide)).trans g21)) ((aa58 22 (by decide)).trans ((aX 22 (by decide)).trans g22)) ((aa58 23 (by decide)).trans ((aX 23 (by decide)).trans g23)) ((aa58 24 (by decide)).trans ((aX 24 (by decide)).trans g24)) ((aa58 25 (by decide)).trans ((aX 25 (by decide)).trans g25)) ((aa58 26 (by decide)).trans ((aX 26 (by decide)).trans g26)) ((aa58 27 (by decide)).trans ((aX 27 (by decide)).trans g27)) ((aa58 38 (by decide)).trans ((aX 38 (by decide)).trans g38)) ((aa58 39 (by decide)).trans ((aX 39 (by decide)).trans g39)) hh55 ((aa58 41 (by decide)).trans ((aX 41 (by decide)).trans g41)) ((aa58 42 (by decide)).trans ((aX 42 (by decide)).trans g42)) ((aa58 43 (by decide)).trans ((aX 43 (by decide)).trans g43)) ((aa58 44 (by decide)).trans ((aX 44 (by decide)).trans g44)) ((aa58 45 (by decide)).trans ((aX 45 (by decide)).trans g45)) hh56 hh57 ((aa58 48 (by decide)).trans ((aX 48 (by decide)).trans g48)) ((aa58 49 (by decide)).trans ((aX 49 (by decide)).trans g49)) (hH.keep AA59 (by decide)) (qp_keep hQ9 BB60 (by decide)) (hk) (hL) (hsg) (hP) (h4) (hn6) (htx) (he) (hkp))

set_option maxRecDepth 100000 in
set_option maxHeartbeats 4000000 in
theorem LC_22 {L : GL} {E : GE} {ad : Nat → Nat} {G : Nat → va_E} {cs ss b Ls i : Nat} {xs : Nat → Int32} (C : gC L E cL_law RL 9 room_1) (hX : LWx L E b Ls xs) (hi : i + 3 ≤ Ls) (hLs : Ls ≤ 1536) (hcs : cs + 3 ≤ 601024 ∧ ss + 18 ≤ 7293034) (hI : LI L ad G) (K : ∀ G', LI L ad G' → GW L E 50 ad G' (cs + 3) (ss + 18) 1974 [(5, .int (nI i)), (4, .ref (ad 49)), (3, .ref (ad 48)), (2, .ref (ad 40)), (1, .ref (ad 0)), (0, .ref b)] []) : GW L E 50 ad G cs ss 1390 [(5, .int (nI i)), (4, .ref (ad 49)), (3, .ref (ad 48)), (2, .ref (ad 40)), (1, .ref (ad 0)), (0, .ref b)] [] := by
  refine LI_elim hI (fun sn t1 t2 t3 t4 t5 b1 b2 b3 b4 b5 s0 q1 q2 q3 q4 q5 xz l ml f l2 ml2 f2 l3 ml3 f3 hs len od ps rs cu tx ik th m q te fx fy nx ny ux uy us px py sp bg fo le fi re ca f42 f43 pf tm xx yy ov ow g0 g1 g2 g3 g4 g5 g6 g8 g19 g20 g21 g22 g23 g24 g25 g26 g27 g38 g39 g40 g41 g42 g43 g44 g45 g46 g47 g48 g49 hH hQ hk hL hsg hP h4 hn6 htx he hkp => ?_)
  refine G_aload_n C 1 dL_law_1390 rfl rfl ?_
  refine G_aload_n C 0 dL_law_1391 rfl rfl ?_
  refine G_iload C dL_law_1392 rfl ?_
  refine G_iconst C (v := 1) dL_law_1394 (by decide) ?_
  refine G_iadd C dL_law_1395 ?_
  refine GW.topr (cI_add (a := i) (b := 1) rfl rfl) ?_
  refine G_sld C hX (j := (i + 1)) (by omega) (by omega) dL_law_1396 ?_
  refine G_aload_n C 3 dL_law_1397 rfl rfl ?_
  refine G_callSH C (As := [.ref (ad 0), .int (xs (i + 1)), .ref (ad 48)]) (rest := []) (w_xAtBySet (c_X8_xAtBySet g0 g22 g23 g1 g4 g5 g19 g20 g21 hk hL) g0 (fun v G2 hq => by obtain ⟨c, w1, w2, w3, w4, w5, x2, rfl, _, _, _, _, _, _, ag⟩ := hq; exact ⟨⟨_, rfl⟩, (ag 48 (by decide)).trans g48⟩) (fun e G2 h => h.elim (fun z => Or.inl z.1) (fun ⟨_, _, _, _, _, _, _, z, _⟩ => Or.inr z))) ca_L_xAtBySet km_L_192 rfl rfl (by decide) (Nat.le_of_ble_eq_true rfl) ⟨by show cs + 1 ≤ 601024; omega, by show ss + 6 ≤ 7293034; omega⟩ dL_law_1398 (fun vv G9 hq9 => ?_)
  rcases hq9 with ⟨r, G1, hq1, rfl, k9, a9⟩ | ⟨hx1, rfl⟩ | ⟨hx1, rfl⟩
  · obtain ⟨c, w1, w2, w3, w4, w5, x2, h9, q90, q91, q92, o919, o920, o921, ag9⟩ := hq1
    obtain rfl := (slong_inj h9).symm
    have AA0 : Agr [19, 20, 21] G G1 := ag9
    have AA1 : Agr [19, 20, 21, 48] G G9 := AA0.tr a9 (by simp) (by simp)
    have BB2 : Agr [48] G1 G9 := a9.wk (by simp)
    refine G_istore C (lo' := [(6, .int 0), (5, .int (nI i)), (4, .ref (ad 49)), (3, .ref (ad 48)), (2, .ref (ad 40)), (1, .ref (ad 0)), (0, .ref b)]) dL_law_1401 (by decide) rfl ?_
    refine G_aload_n C 2 dL_law_1403 rfl rfl ?_
    refine G_aload_n C 0 dL_law_1404 rfl rfl ?_
    refine G_iload C dL_law_1405 rfl ?_
    refine G_iconst C (v := 1) dL_law_1407 (by decide) ?_
    refine G_iadd C dL_law_1408 ?_
    refine GW.topr (cI_add (a := i) (b := 1) rfl rfl) ?_
    refine G_sld C hX (j := (i + 1)) (by omega) (by omega) dL_law_1409 ?_
    refine GW.topr (y := nI c) (q90) ?_
    refine G_callV C (As := [.int (nI c)]) (rest := []) (c_X9_xAtBySetY ((a9 40 (by decide)).trans ((ag9 40 (by decide)).trans g40)) ((a9 41 (by decide)).trans ((ag9 41 (by decide)).trans g41)) ((a9 46 (by decide)).trans ((ag9 46 (by decide)).trans g46)) ((a9 47 (by decide)).trans ((ag9 47 (by decide)).trans g47)) hk q91 q92) ca_X9_xAtBySet km_L_194 (by decide) ((a9 40 (by decide)).trans ((ag9 40 (by decide)).trans g40)) rfl rfl rfl rfl (by decide) (Nat.le_of_ble_eq_true rfl) ⟨by show cs + 1 + 0 ≤ 601024; omega, by show ss + 6 + 0 ≤ 7293034; omega⟩ dL_law_1410 (fun vv3 gg4 qq5 => ?_)
    obtain ⟨j_6, j_7, j_8, j_9, j_10, j_11, j_12, u_13, u_14, u_15, p_16, p_17, x_18, y_19, rfl, hh20, hh21, hh22, aa23⟩ := qq5
    have AA24 : Agr [19, 20, 21, 48, 40, 46, 47] G gg4 := AA1.tr aa23 (by simp) (by simp)
    have BB25 : Agr [48, 40, 46, 47] G1 gg4 := BB2.tr aa23 (by simp) (by simp)
    refine G_lstore C (lo' := [(7, .long (xa (kp f c) (lst (kp f c)))), (6, .int 0), (5, .int (nI i)), (4, .ref (ad 49)), (3, .ref (ad 48)), (2, .ref (ad 40)), (1, .ref (ad 0)), (0, .ref b)]) dL_law_1413 (by decide) rfl ?_
    refine G_aload_n C 2 dL_law_1415 rfl rfl ?_
    refine G_callV C (As := []) (rest := []) (c_X9_thrown hh20) ca_X9_thrown km_L_122 (by decide) hh20 rfl rfl rfl rfl (by decide) (Nat.le_of_ble_eq_true rfl) ⟨by show cs + 1 + 0 + 0 ≤ 601024; omega, by show ss + 6 + 0 + 0 ≤ 7293034; omega⟩ dL_law_1416 (fun vv26 gg27 qq28 => ?_)
    obtain ⟨rfl, rfl⟩ := qq28
    refine G_iload C dL_law_1419 rfl ?_
    refine G_icmp_eq C 1426 dL_law_1421 (by decide) (fun _ => ?_) (fun h => absurd h (by decide))
    refine G_iload C dL_law_1426 rfl ?_
    refine G_if_ne C 1442 dL_law_1428 (by decide) (fun h => absurd h (by decide)) (fun _ => ?_)
    refine G_aload_n C 3 dL_law_1431 rfl rfl ?_
    refine G_iconst C (v := 0) dL_law_1432 (by decide) ?_
    refine G_laldN C 48 (by decide) 0 ((aa23 48 (by decide)).trans k9) rfl (by decide) (by omega) dL_law_1433 ?_
    refine GW.toprl (y := xa (kp f c) (lst (kp f c))) (pk_uLs) ?_
    refine G_lload C dL_law_1434 rfl ?_
    refine G_lc_eq C 1442 dL_law_1436 dL_law_1437 (by decide) (fun c1436 => ?_) (fun c1436 => False.elim (c1436 (rfl)))
    refine G_goto C 1974 dL_law_1442 (by decide) ?_
    refine GW.pick [2, 3, 4, 5, 6, 7] [(5, .int (nI i)), (4, .ref (ad 49)), (3, .ref (ad 48)), (2, .ref (ad 40)), (1, .ref (ad 0)), (0, .ref b)] rfl ?_
    refine GW.widen (c1 := cs + 3) (s1 := ss + 18) (by show cs + 1 + 0 + 0 ≤ cs + 3; omega) (by show ss + 6 + 0 + 0 ≤ ss + 18; omega) ?_
    exact K _ (LI_mk  ((aa23 0 (by decide)).trans ((a9 0 (by decide)).trans ((ag9 0 (by decide)).trans g0))) ((aa23 1 (by decide)).trans ((a9 1 (by decide)).trans ((ag9 1 (by decide)).trans g1))) ((aa23 2 (by decide)).trans ((a9 2 (by decide)).trans ((ag9 2 (by decide)).trans g2))) ((aa23 3 (by decide)).trans ((a9 3 (by decide)).trans ((ag9 3 (by decide)).trans g3))) ((aa23 4 (by decide)).trans ((a9 4 (by decide)).trans ((ag9 4 (by decide)).trans g4))) ((aa23 5 (by decide)).trans ((a9 5 (by decide)).trans ((ag9 5 (by decide)).trans g5))) ((aa23 6 (by decide)).trans ((a9 6 (by decide)).trans ((ag9 6 (by decide)).trans g6))) ((aa23 8 (by decide)).trans ((a9 8 (by decide)).trans ((ag9 8 (by decide)).trans g8))) ((aa23 19 (by decide)).trans ((a9 19 (by decide)).trans o919)) ((aa23 20 (by decide)).trans ((a9 20 (by decide)).trans o920)) ((aa23 21 (by decide)).trans ((a9 21 (by decide)).trans o921)) ((aa23 22 (by decide)).trans ((a9 22 (by decide)).trans ((ag9 22 (by decide)).trans g22))) ((aa23 23 (by decide)).trans ((a9 23 (by decide)).trans ((ag9 23 (by decide)).trans g23))) ((aa23 24 (by decide)).trans ((a9 24 (by decide)).trans ((ag9 24 (by decide)).trans g24))) ((aa23 25 (by decide)).trans ((a9 25 (by decide)).trans ((ag9 25 (by decide)).trans g25))) ((aa23 26 (by decide)).trans ((a9 26 (by decide)).trans ((ag9 26 (by decide)).trans g26))) ((aa23 27 (by decide)).trans ((a9 27 (by decide)).trans ((ag9 27 (by decide)).trans g27))) ((aa23 38 (by decide)).trans ((a9 38 (by decide)).trans ((ag9 38 (by decide)).trans g38))) ((aa23 39 (by decide)).trans ((a9 39 (by decide)).trans ((ag9 39 (by decide)).trans g39))) hh20 ((aa23 41 (by decide)).trans ((a9 41 (by decide)).trans ((ag9 41 (by decide)).trans g41))) ((aa23 42 (by decide)).trans ((a9 42 (by decide)).trans ((ag9 42 (by decide)).trans g42))) ((aa23 43 (by decide)).trans ((a9 43 (by decide)).trans ((ag9 43 (by decide)).trans g43))) ((aa23 44 (by decide)).trans ((a9 44 (by decide)).trans ((ag9 44 (by decide)).trans g44))) ((aa23 45 (by decide)).trans ((a9 45 (by decide)).trans ((ag9 45 (by decide)).trans g45))) hh21 hh22 ((aa23 48 (by decide)).trans k9) ((aa23 49 (by decide)).trans ((a9 49 (by decide)).trans ((ag9 49 (by decide)).trans g49))) (hH.keep AA24 (by decide)) (qp_keep hQ AA24 (by decide)) (hk) (hL) (hsg) (hP) (h4) (hn6) (htx) (he) (hkp))
  · obtain ⟨-, hPx, rfl⟩ := hx1.elim id (fun ⟨_, _, _, _, _, _, _, z, _⟩ => absurd z ne_AN)
    refine G_istore C (lo' := [(6, .int 1), (5, .int (nI i)), (4, .ref (ad 49)), (3, .ref (ad 48)), (2, .ref (ad 40)), (1, .ref (ad 0)), (0, .ref b)]) dL_law_1401 (by decide) rfl ?_
    refine G_aload_n C 2 dL_law_1403 rfl rfl ?_
    refine G_aload_n C 0 dL_law_1404 rfl rfl ?_
    refine G_iload C dL_law_1405 rfl ?_
    refine G_iconst C (v := 1) dL_law_1407 (by decide) ?_
    refine G_iadd C dL_law_1408 ?_
    refine GW.topr (cI_add (a := i) (b := 1) rfl rfl) ?_
    refine G_sld C hX (j := (i + 1)) (by omega) (by omega) dL_law_1409 ?_
    refine G_callV C (As := [.int (xs (i + 1))]) (rest := []) (c_X9_xAtBySetA g40 hPx) ca_X9_xAtBySet km_L_194 (by decide) g40 rfl rfl rfl rfl (by decide) (Nat.le_of_ble_eq_true rfl) ⟨by show cs + 1 + 0 ≤ 601024; omega, by show ss + 6 + 0 ≤ 7293034; omega⟩ dL_law_1410 (fun vv29 gg30 qq31 => ?_)
    obtain ⟨rfl, hh32, aa33⟩ := qq31
    have AA34 : Agr [40] G gg30 := aa33.wk (by simp)
    refine G_lstore C (lo' := [(7, .long 0), (6, .int 1), (5, .int (nI i)), (4, .ref (ad 49)), (3, .ref (ad 48)), (2, .ref (ad 40)), (1, .ref (ad 0)), (0, .ref b)]) dL_law_1413 (by decide) rfl ?_
    refine G_aload_n C 2 dL_law_1415 rfl rfl ?_
    refine G_callV C (As := []) (rest := []) (c_X9_thrown hh32) ca_X9_thrown km_L_122 (by decide) hh32 rfl rfl rfl rfl (by decide) (Nat.le_of_ble_eq_true rfl) ⟨by show cs + 1 + 0 + 0 ≤ 601024; omega, by show ss + 6 + 0 + 0 ≤ 7293034; omega⟩ dL_law_1416 (fun vv35 gg36 qq37 => ?_)
    obtain ⟨rfl, rfl⟩ := qq37
    refine G_iload C dL_law_1419 rfl ?_
    refine G_icmp_eq C 1426 dL_law_1421 (by decide) (fun _ => ?_) (fun h => absurd h (by decide))
    refine G_iload C dL_law_1426 rfl ?_
    refine G_if_ne C 1442 dL_law_1428 (by decide) (fun _ => ?_) (fun h => absurd h (by decide))
    refine G_goto C 1974 dL_law_1442 (by decide) ?_
    refine GW.pick [2, 3, 4, 5, 6, 7] [(5, .int (nI i)), (4, .ref (ad 49)), (3, .ref (ad 48)), (2, .ref (ad 40)), (1, .ref (ad 0)), (0, .ref b)] rfl ?_
    refine GW.widen (c1 := cs + 3) (s1 := ss + 18) (by show cs + 1 + 0 + 0 ≤ cs + 3; omega) (by show ss + 6 + 0 + 0 ≤ ss + 18; omega) ?_
    exact K _ (LI_mk  ((aa33 0 (by decide)).trans g0) ((aa33 1 (by decide)).trans g1) ((aa33 2 (by decide)).trans g2) ((aa33 3 (by decide)).trans g3) ((aa33 4 (by decide)).trans g4) ((aa33 5 (by decide)).trans g5) ((aa33 6 (by decide)).trans g6) ((aa33 8 (by decide)).trans g8) ((aa33 19 (by decide)).trans g19) ((aa33 20 (by decide)).trans g20) ((aa33 21 (by decide)).trans g21) ((aa33 22 (by decide)).trans g22) ((aa33 23 (by decide)).trans g23) ((aa33 24 (by decide)).trans g24) ((aa33 25 (by decide)).trans g25) ((aa33 26 (by decide)).trans g26) ((aa33 27 (by decide)).trans g27) ((aa33 38 (by decide)).trans g38) ((aa33 39 (by decide)).trans g39) hh32 ((aa33 41 (by decide)).trans g41) ((aa33 42 (by decide)).trans g42) ((aa33 43 (by decide)).trans g43) ((aa33 44 (by decide)).trans g44) ((aa33 45 (by decide)).trans g45) ((aa33 46 (by decide)).trans g46) ((aa33 47 (by decide)).trans g47) ((aa33 48 (by decide)).trans g48) ((aa33 49 (by decide)).trans g49) (hH.keep AA34 (by decide)) (qp_keep hQ AA34 (by decide)) (hk) (hL) (hsg) (hP) (h4) (hn6) (htx) (he) (hkp))
  · rcases hx1 with z | ⟨c, w1, w2, w3, w4, w5, x2, -, hn, hc31, hz, k919, k920, k921, aX⟩
    · exact absurd z.1 ne_NA
    refine G_istore C (lo' := [(6, .int 2), (5, .int (nI i)), (4, .ref (ad 49)), (3, .ref (ad 48)), (2, .ref (ad 40)), (1, .ref (ad 0)), (0, .ref b)]) dL_law_1401 (by decide) rfl ?_
    refine G_aload_n C 2 dL_law_1403 rfl rfl ?_
    refine G_aload_n C 0 dL_law_1404 rfl rfl ?_
    refine G_iload C dL_law_1405 rfl ?_
    refine G_iconst C (v := 1) dL_law_1407 (by decide) ?_
    refine G_iadd C dL_law_1408 ?_
    refine GW.topr (cI_add (a := i) (b := 1) rfl rfl) ?_
    refine G_sld C hX (j := (i + 1)) (by omega) (by omega) dL_law_1409 ?_
    refine GW.topr (y := nI c) (hn) ?_
    refine G_callV C (As := [.int (nI c)]) (rest := []) (c_X9_xAtBySetZ ((aX 40 (by decide)).trans g40) ((aX 41 (by decide)).trans g41) ((aX 46 (by decide)).trans g46) ((aX 47 (by decide)).trans g47) hk hc31 hz) ca_X9_xAtBySet km_L_194 (by decide) ((aX 40 (by decide)).trans g40) rfl rfl rfl rfl (by decide) (Nat.le_of_ble_eq_true rfl) ⟨by show cs + 1 + 0 ≤ 601024; omega, by show ss + 6 + 0 ≤ 7293034; omega⟩ dL_law_1410 (fun vv38 gg39 qq40 => ?_)
    obtain ⟨j_41, j_42, j_43, j_44, j_45, j_46, j_47, u_48, u_49, u_50, p_51, p_52, x_53, y_54, rfl, hh55, hh56, hh57, aa58⟩ := qq40
    have AA59 : Agr [19, 20, 21, 40, 46, 47] G gg39 := aX.tr aa58 (by simp) (by simp)
    have BB60 : Agr [40, 46, 47] G9 gg39 := aa58.wk (by simp)
    refine G_lstore C (lo' := [(7, .long 0), (6, .int 2), (5, .int (nI i)), (4, .ref (ad 49)), (3, .ref (ad 48)), (2, .ref (ad 40)), (1, .ref (ad 0)), (0, .ref b)]) dL_law_1413 (by decide) rfl ?_
    refine G_aload_n C 2 dL_law_1415 rfl rfl ?_
    refine G_callV C (As := []) (rest := []) (c_X9_thrown hh55) ca_X9_thrown km_L_122 (by decide) hh55 rfl rfl rfl rfl (by decide) (Nat.le_of_ble_eq_true rfl) ⟨by show cs + 1 + 0 + 0 ≤ 601024; omega, by show ss + 6 + 0 + 0 ≤ 7293034; omega⟩ dL_law_1416 (fun vv61 gg62 qq63 => ?_)
    obtain ⟨rfl, rfl⟩ := qq63
    refine G_iload C dL_law_1419 rfl ?_
    refine G_icmp_eq C 1426 dL_law_1421 (by decide) (fun _ => ?_) (fun h => absurd h (by decide))
    refine G_iload C dL_law_1426 rfl ?_
    refine G_if_ne C 1442 dL_law_1428 (by decide) (fun _ => ?_) (fun h => absurd h (by decide))
    refine G_goto C 1974 dL_law_1442 (by decide) ?_
    refine GW.pick [2, 3, 4, 5, 6, 7] [(5, .int (nI i)), (4, .ref (ad 49)), (3, .ref (ad 48)), (2, .ref (ad 40)), (1, .ref (ad 0)), (0, .ref b)] rfl ?_
    refine GW.widen (c1 := cs + 3) (s1 := ss + 18) (by show cs + 1 + 0 + 0 ≤ cs + 3; omega) (by show ss + 6 + 0 + 0 ≤ ss + 18; omega) ?_
    exact K _ (LI_mk  ((aa58 0 (by decide)).trans ((aX 0 (by decide)).trans g0)) ((aa58 1 (by decide)).trans ((aX 1 (by decide)).trans g1)) ((aa58 2 (by decide)).trans ((aX 2 (by decide)).trans g2)) ((aa58 3 (by decide)).trans ((aX 3 (by decide)).trans g3)) ((aa58 4 (by decide)).trans ((aX 4 (by decide)).trans g4)) ((aa58 5 (by decide)).trans ((aX 5 (by decide)).trans g5)) ((aa58 6 (by decide)).trans ((aX 6 (by decide)).trans g6)) ((aa58 8 (by decide)).trans ((aX 8 (by decide)).trans g8)) ((aa58 19 (by decide)).trans k919) ((aa58 20 (by decide)).trans k920) ((aa58 21 (by decide)).trans k921) ((aa58 22 (by decide)).trans ((aX 22 (by decide)).trans g22)) ((aa58 23 (by decide)).trans ((aX 23 (by decide)).trans g23)) ((aa58 24 (by decide)).trans ((aX 24 (by decide)).trans g24)) ((aa58 25 (by decide)).trans ((aX 25 (by decide)).trans g25)) ((aa58 26 (by decide)).trans ((aX 26 (by decide)).trans g26)) ((aa58 27 (by decide)).trans ((aX 27 (by decide)).trans g27)) ((aa58 38 (by decide)).trans ((aX 38 (by decide)).trans g38)) ((aa58 39 (by decide)).trans ((aX 39 (by decide)).trans g39)) hh55 ((aa58 41 (by decide)).trans ((aX 41 (by decide)).trans g41)) ((aa58 42 (by decide)).trans ((aX 42 (by decide)).trans g42)) ((aa58 43 (by decide)).trans ((aX 43 (by decide)).trans g43)) ((aa58 44 (by decide)).trans ((aX 44 (by decide)).trans g44)) ((aa58 45 (by decide)).trans ((aX 45 (by decide)).trans g45)) hh56 hh57 ((aa58 48 (by decide)).trans ((aX 48 (by decide)).trans g48)) ((aa58 49 (by decide)).trans ((aX 49 (by decide)).trans g49)) (hH.keep AA59 (by decide)) (qp_keep hQ AA59 (by decide)) (hk) (hL) (hsg) (hP) (h4) (hn6) (htx) (he) (hkp))

set_option maxRecDepth 100000 in
set_option maxHeartbeats 4000000 in
theorem LC_24 {L : GL} {E : GE} {ad : Nat → Nat} {G : Nat → va_E} {cs ss b Ls i : Nat} {xs : Nat → Int32} (C : gC L E cL_law RL 9 room_1) (hX : LWx L E b Ls xs) (hi : i + 3 ≤ Ls) (hLs : Ls ≤ 1536) (hcs : cs + 3 ≤ 601024 ∧ ss + 18 ≤ 7293034) (hI : LI L ad G) (K : ∀ G', LI L ad G' → GW L E 50 ad G' (cs + 3) (ss + 18) 1974 [(5, .int (nI i)), (4, .ref (ad 49)), (3, .ref (ad 48)), (2, .ref (ad 40)), (1, .ref (ad 0)), (0, .ref b)] []) : GW L E 50 ad G cs ss 1501 [(5, .int (nI i)), (4, .ref (ad 49)), (3, .ref (ad 48)), (2, .ref (ad 40)), (1, .ref (ad 0)), (0, .ref b)] [] := by
  refine LI_elim hI (fun sn t1 t2 t3 t4 t5 b1 b2 b3 b4 b5 s0 q1 q2 q3 q4 q5 xz l ml f l2 ml2 f2 l3 ml3 f3 hs len od ps rs cu tx ik th m q te fx fy nx ny ux uy us px py sp bg fo le fi re ca f42 f43 pf tm xx yy ov ow g0 g1 g2 g3 g4 g5 g6 g8 g19 g20 g21 g22 g23 g24 g25 g26 g27 g38 g39 g40 g41 g42 g43 g44 g45 g46 g47 g48 g49 hH hQ hk hL hsg hP h4 hn6 htx he hkp => ?_)
  refine G_aload_n C 1 dL_law_1501 rfl rfl ?_
  refine G_aload_n C 0 dL_law_1502 rfl rfl ?_
  refine G_iload C dL_law_1503 rfl ?_
  refine G_iconst C (v := 1) dL_law_1505 (by decide) ?_
  refine G_iadd C dL_law_1506 ?_
  refine GW.topr (cI_add (a := i) (b := 1) rfl rfl) ?_
  refine G_sld C hX (j := (i + 1)) (by omega) (by omega) dL_law_1507 ?_
  refine G_i2l C dL_law_1508 rfl ?_
  refine G_bipush C (v := 32) dL_law_1509 (by decide) ?_
  refine G_lshl C dL_law_1511 rfl ?_
  refine G_aload_n C 0 dL_law_1512 rfl rfl ?_
  refine G_iload C dL_law_1513 rfl ?_
  refine G_iconst C (v := 2) dL_law_1515 (by decide) ?_
  refine G_iadd C dL_law_1516 ?_
  refine GW.topr (cI_add (a := i) (b := 2) rfl rfl) ?_
  refine G_sld C hX (j := (i + 2)) (by omega) (by omega) dL_law_1517 ?_
  refine G_i2l C dL_law_1518 rfl ?_
  refine G_ldc2 C dL_law_1519 kl_L_198 ?_
  refine G_land C dL_law_1522 ?_
  refine G_lor C dL_law_1523 ?_
  refine G_aload_n C 3 dL_law_1524 rfl rfl ?_
  refine G_callSH C (As := [.ref (ad 0), .long ((((xs (i + 1)).toInt64) <<< ((32 : Int32).toInt64 &&& 63)) ||| (((xs (i + 2)).toInt64) &&& 4294967295)), .ref (ad 48)]) (rest := []) (w_solutionsUpTo (c_X8_solutionsUpTo g0 g1 g4 g5 g8 g22 g23 hk) g0 (fun v G2 hq => by obtain ⟨_, _, _, _, _, rfl, _, _, _, ag⟩ := hq; exact ⟨⟨_, rfl⟩, (ag 48 (by decide)).trans g48⟩) (fun e G2 h => h.1)) ca_L_solutionsUpTo km_L_200 rfl rfl (by decide) (Nat.le_of_ble_eq_true rfl) ⟨by show cs + 1 ≤ 601024; omega, by show ss + 6 ≤ 7293034; omega⟩ dL_law_1525 (fun vv G9 hq9 => ?_)
  rcases hq9 with ⟨r, G1, hq1, rfl, k9, a9⟩ | ⟨hx1, rfl⟩
  · obtain ⟨x9c1, x9c2, x9c3, x9c4, x9c5, h9, q90, q91, o98, ag9⟩ := hq1
    obtain rfl := (sint_inj h9).symm
    have AA0 : Agr [8] G G1 := ag9
    have AA1 : Agr [8, 48] G G9 := AA0.tr a9 (by simp) (by simp)
    have BB2 : Agr [48] G1 G9 := a9.wk (by simp)
    refine G_istore C (lo' := [(6, .int 0), (5, .int (nI i)), (4, .ref (ad 49)), (3, .ref (ad 48)), (2, .ref (ad 40)), (1, .ref (ad 0)), (0, .ref b)]) dL_law_1528 (by decide) rfl ?_
    refine G_aload_n C 2 dL_law_1530 rfl rfl ?_
    refine G_aload_n C 0 dL_law_1531 rfl rfl ?_
    refine G_iload C dL_law_1532 rfl ?_
    refine G_iconst C (v := 1) dL_law_1534 (by decide) ?_
    refine G_iadd C dL_law_1535 ?_
    refine GW.topr (cI_add (a := i) (b := 1) rfl rfl) ?_
    refine G_sld C hX (j := (i + 1)) (by omega) (by omega) dL_law_1536 ?_
    refine G_i2l C dL_law_1537 rfl ?_
    refine G_bipush C (v := 32) dL_law_1538 (by decide) ?_
    refine G_lshl C dL_law_1540 rfl ?_
    refine G_aload_n C 0 dL_law_1541 rfl rfl ?_
    refine G_iload C dL_law_1542 rfl ?_
    refine G_iconst C (v := 2) dL_law_1544 (by decide) ?_
    refine G_iadd C dL_law_1545 ?_
    refine GW.topr (cI_add (a := i) (b := 2) rfl rfl) ?_
    refine G_sld C hX (j := (i + 2)) (by omega) (by omega) dL_law_1546 ?_
    refine G_i2l C dL_law_1547 rfl ?_
    refine G_ldc2 C dL_law_1548 kl_L_198 ?_
    refine G_land C dL_law_1551 ?_
    refine G_lor C dL_law_1552 ?_
    refine G_callV C (As := [.long ((((xs (i + 1)).toInt64) <<< ((32 : Int32).toInt64 &&& 63)) ||| (((xs (i + 2)).toInt64) &&& 4294967295))]) (rest := []) (c_X9_solutionsUpToR ((a9 40 (by decide)).trans ((ag9 40 (by decide)).trans g40)) ((a9 41 (by decide)).trans ((ag9 41 (by decide)).trans g41)) ((a9 46 (by decide)).trans ((ag9 46 (by decide)).trans g46)) ((a9 47 (by decide)).trans ((ag9 47 (by decide)).trans g47)) hk q90 (Int64.not_lt.mpr q91)) ca_X9_solutionsUpTo km_L_203 (by decide) ((a9 40 (by decide)).trans ((ag9 40 (by decide)).trans g40)) rfl rfl rfl rfl (by decide) (Nat.le_of_ble_eq_true rfl) ⟨by show cs + 1 + 0 ≤ 601024; omega, by show ss + 6 + 0 ≤ 7293034; omega⟩ dL_law_1553 (fun vv3 gg4 qq5 => ?_)
    obtain ⟨j_6, j_7, j_8, j_9, j_10, j_11, j_12, u_13, u_14, u_15, p_16, p_17, x_18, y_19, rfl, hh20, hh21, hh22, aa23⟩ := qq5
    have AA24 : Agr [8, 48, 40, 46, 47] G gg4 := AA1.tr aa23 (by simp) (by simp)
    have BB25 : Agr [48, 40, 46, 47] G1 gg4 := BB2.tr aa23 (by simp) (by simp)
    refine G_istore C (lo' := [(7, .int (cuF f ((((xs (i + 1)).toInt64) <<< ((32 : Int32).toInt64 &&& 63)) ||| (((xs (i + 2)).toInt64) &&& 4294967295)) 59)), (6, .int 0), (5, .int (nI i)), (4, .ref (ad 49)), (3, .ref (ad 48)), (2, .ref (ad 40)), (1, .ref (ad 0)), (0, .ref b)]) dL_law_1556 (by decide) rfl ?_
    refine G_aload_n C 2 dL_law_1558 rfl rfl ?_
    refine G_callV C (As := []) (rest := []) (c_X9_thrown hh20) ca_X9_thrown km_L_122 (by decide) hh20 rfl rfl rfl rfl (by decide) (Nat.le_of_ble_eq_true rfl) ⟨by show cs + 1 + 0 + 0 ≤ 601024; omega, by show ss + 6 + 0 + 0 ≤ 7293034; omega⟩ dL_law_1559 (fun vv26 gg27 qq28 => ?_)
    obtain ⟨rfl, rfl⟩ := qq28
    refine G_iload C dL_law_1562 rfl ?_
    refine G_icmp_eq C 1569 dL_law_1564 (by decide) (fun _ => ?_) (fun h => absurd h (by decide))
    refine G_iload C dL_law_1569 rfl ?_
    refine G_if_ne C 1586 dL_law_1571 (by decide) (fun h => absurd h (by decide)) (fun _ => ?_)
    refine G_aload_n C 3 dL_law_1574 rfl rfl ?_
    refine G_iconst C (v := 0) dL_law_1575 (by decide) ?_
    refine G_laldN C 48 (by decide) 0 ((aa23 48 (by decide)).trans k9) rfl (by decide) (by omega) dL_law_1576 ?_
    refine GW.toprl (y := (cuF f ((((xs (i + 1)).toInt64) <<< ((32 : Int32).toInt64 &&& 63)) ||| (((xs (i + 2)).toInt64) &&& 4294967295)) 59).toInt64) (pk_uLs) ?_
    refine G_iload C dL_law_1577 rfl ?_
    refine G_i2l C dL_law_1579 rfl ?_
    refine G_lc_eq C 1586 dL_law_1580 dL_law_1581 (by decide) (fun c1580 => ?_) (fun c1580 => False.elim (c1580 (rfl)))
    refine G_goto C 1974 dL_law_1586 (by decide) ?_
    refine GW.pick [2, 3, 4, 5, 6, 7] [(5, .int (nI i)), (4, .ref (ad 49)), (3, .ref (ad 48)), (2, .ref (ad 40)), (1, .ref (ad 0)), (0, .ref b)] rfl ?_
    refine GW.widen (c1 := cs + 3) (s1 := ss + 18) (by show cs + 1 + 0 + 0 ≤ cs + 3; omega) (by show ss + 6 + 0 + 0 ≤ ss + 18; omega) ?_
    exact K _ (LI_mk  ((aa23 0 (by decide)).trans ((a9 0 (by decide)).trans ((ag9 0 (by decide)).trans g0))) ((aa23 1 (by decide)).trans ((a9 1 (by decide)).trans ((ag9 1 (by decide)).trans g1))) ((aa23 2 (by decide)).trans ((a9 2 (by decide)).trans ((ag9 2 (by decide)).trans g2))) ((aa23 3 (by decide)).trans ((a9 3 (by decide)).trans ((ag9 3 (by decide)).trans g3))) ((aa23 4 (by decide)).trans ((a9 4 (by decide)).trans ((ag9 4 (by decide)).trans g4))) ((aa23 5 (by decide)).trans ((a9 5 (by decide)).trans ((ag9 5 (by decide)).trans g5))) ((aa23 6 (by decide)).trans ((a9 6 (by decide)).trans ((ag9 6 (by decide)).trans g6))) ((aa23 8 (by decide)).trans ((a9 8 (by decide)).trans o98)) ((aa23 19 (by decide)).trans ((a9 19 (by decide)).trans ((ag9 19 (by decide)).trans g19))) ((aa23 20 (by decide)).trans ((a9 20 (by decide)).trans ((ag9 20 (by decide)).trans g20))) ((aa23 21 (by decide)).trans ((a9 21 (by decide)).trans ((ag9 21 (by decide)).trans g21))) ((aa23 22 (by decide)).trans ((a9 22 (by decide)).trans ((ag9 22 (by decide)).trans g22))) ((aa23 23 (by decide)).trans ((a9 23 (by decide)).trans ((ag9 23 (by decide)).trans g23))) ((aa23 24 (by decide)).trans ((a9 24 (by decide)).trans ((ag9 24 (by decide)).trans g24))) ((aa23 25 (by decide)).trans ((a9 25 (by decide)).trans ((ag9 25 (by decide)).trans g25))) ((aa23 26 (by decide)).trans ((a9 26 (by decide)).trans ((ag9 26 (by decide)).trans g26))) ((aa23 27 (by decide)).trans ((a9 27 (by decide)).trans ((ag9 27 (by decide)).trans g27))) ((aa23 38 (by decide)).trans ((a9 38 (by decide)).trans ((ag9 38 (by decide)).trans g38))) ((aa23 39 (by decide)).trans ((a9 39 (by decide)).trans ((ag9 39 (by decide)).trans g39))) hh20 ((aa23 41 (by decide)).trans ((a9 41 (by decide)).trans ((ag9 41 (by decide)).trans g41))) ((aa23 42 (by decide)).trans ((a9 42 (by decide)).trans ((ag9 42 (by decide)).trans g42))) ((aa23 43 (by decide)).trans ((a9 43 (by decide)).trans ((ag9 43 (by decide)).trans g43))) ((aa23 44 (by decide)).trans ((a9 44 (by decide)).trans ((ag9 44 (by decide)).trans g44))) ((aa23 45 (by decide)).trans ((a9 45 (by decide)).trans ((ag9 45 (by decide)).trans g45))) hh21 hh22 ((aa23 48 (by decide)).trans k9) ((aa23 49 (by decide)).trans ((a9 49 (by decide)).trans ((ag9 49 (by decide)).trans g49))) (hH.keep AA24 (by decide)) (qp_keep hQ AA24 (by decide)) (hk) (hL) (hsg) (hP) (h4) (hn6) (htx) (he) (hkp))
  · obtain ⟨-, hPx, rfl⟩ := hx1
    refine G_istore C (lo' := [(6, .int 1), (5, .int (nI i)), (4, .ref (ad 49)), (3, .ref (ad 48)), (2, .ref (ad 40)), (1, .ref (ad 0)), (0, .ref b)]) dL_law_1528 (by decide) rfl ?_
    refine G_aload_n C 2 dL_law_1530 rfl rfl ?_
    refine G_aload_n C 0 dL_law_1531 rfl rfl ?_
    refine G_iload C dL_law_1532 rfl ?_
    refine G_iconst C (v := 1) dL_law_1534 (by decide) ?_
    refine G_iadd C dL_law_1535 ?_
    refine GW.topr (cI_add (a := i) (b := 1) rfl rfl) ?_
    refine G_sld C hX (j := (i + 1)) (by omega) (by omega) dL_law_1536 ?_
    refine G_i2l C dL_law_1537 rfl ?_
    refine G_bipush C (v := 32) dL_law_1538 (by decide) ?_
    refine G_lshl C dL_law_1540 rfl ?_
    refine G_aload_n C 0 dL_law_1541 rfl rfl ?_
    refine G_iload C dL_law_1542 rfl ?_
    refine G_iconst C (v := 2) dL_law_1544 (by decide) ?_
    refine G_iadd C dL_law_1545 ?_
    refine GW.topr (cI_add (a := i) (b := 2) rfl rfl) ?_
    refine G_sld C hX (j := (i + 2)) (by omega) (by omega) dL_law_1546 ?_
    refine G_i2l C dL_law_1547 rfl ?_
    refine G_ldc2 C dL_law_1548 kl_L_198 ?_
    refine G_land C dL_law_1551 ?_
    refine G_lor C dL_law_1552 ?_
    refine G_callV C (As := [.long ((((xs (i + 1)).toInt64) <<< ((32 : Int32).toInt64 &&& 63)) ||| (((xs (i + 2)).toInt64) &&& 4294967295))]) (rest := []) (c_X9_solutionsUpToA g40 (hPx.imp id Int64.not_le.mp)) ca_X9_solutionsUpTo km_L_203 (by decide) g40 rfl rfl rfl rfl (by decide) (Nat.le_of_ble_eq_true rfl) ⟨by show cs + 1 + 0 ≤ 601024; omega, by show ss + 6 + 0 ≤ 7293034; omega⟩ dL_law_1553 (fun vv29 gg30 qq31 => ?_)
    obtain ⟨rfl, hh32, aa33⟩ := qq31
    have AA34 : Agr [40] G gg30 := aa33.wk (by simp)
    refine G_istore C (lo' := [(7, .int 0), (6, .int 1), (5, .int (nI i)), (4, .ref (ad 49)), (3, .ref (ad 48)), (2, .ref (ad 40)), (1, .ref (ad 0)), (0, .ref b)]) dL_law_1556 (by decide) rfl ?_
    refine G_aload_n C 2 dL_law_1558 rfl rfl ?_
    refine G_callV C (As := []) (rest := []) (c_X9_thrown hh32) ca_X9_thrown km_L_122 (by decide) hh32 rfl rfl rfl rfl (by decide) (Nat.le_of_ble_eq_true rfl) ⟨by show cs + 1 + 0 + 0 ≤ 601024; omega, by show ss + 6 + 0 + 0 ≤ 7293034; omega⟩ dL_law_1559 (fun vv35 gg36 qq37 => ?_)
    obtain ⟨rfl, rfl⟩ := qq37
    refine G_iload C dL_law_1562 rfl ?_
    refine G_icmp_eq C 1569 dL_law_1564 (by decide) (fun _ => ?_) (fun h => absurd h (by decide))
    refine G_iload C dL_law_1569 rfl ?_
    refine G_if_ne C 1586 dL_law_1571 (by decide) (fun _ => ?_) (fun h => absurd h (by decide))
    refine G_goto C 1974 dL_law_1586 (by decide) ?_
    refine GW.pick [2, 3, 4, 5, 6, 7] [(5, .int (nI i)), (4, .ref (ad 49)), (3, .ref (ad 48)), (2, .ref (ad 40)), (1, .ref (ad 0)), (0, .ref b)] rfl ?_
    refine GW.widen (c1 := cs + 3) (s1 := ss + 18) (by show cs + 1 + 0 + 0 ≤ cs + 3; omega) (by show ss + 6 + 0 + 0 ≤ ss + 18; omega) ?_
    exact K _ (LI_mk  ((aa33 0 (by decide)).trans g0) ((aa33 1 (by decide)).trans g1) ((aa33 2 (by decide)).trans g2) ((aa33 3 (by decide)).trans g3) ((aa33 4 (by decide)).trans g4) ((aa33 5 (by decide)).trans g5) ((aa33 6 (by decide)).trans g6) ((aa33 8 (by decide)).trans g8) ((aa33 19 (by decide)).trans g19) ((aa33 20 (by decide)).trans g20) ((aa33 21 (by decide)).trans g21) ((aa33 22 (by decide)).trans g22) ((aa33 23 (by decide)).trans g23) ((aa33 24 (by decide)).trans g24) ((aa33 25 (by decide)).trans g25) ((aa33 26 (by decide)).trans g26) ((aa33 27 (by decide)).trans g27) ((aa33 38 (by decide)).trans g38) ((aa33 39 (by decide)).trans g39) hh32 ((aa33 41 (by decide)).trans g41) ((aa33 42 (by decide)).trans g42) ((aa33 43 (by decide)).trans g43) ((aa33 44 (by decide)).trans g44) ((aa33 45 (by decide)).trans g45) ((aa33 46 (by decide)).trans g46) ((aa33 47 (by decide)).trans g47) ((aa33 48 (by decide)).trans g48) ((aa33 49 (by decide)).trans g49) (hH.keep AA34 (by decide)) (qp_keep hQ AA34 (by decide)) (hk) (hL) (hsg) (hP) (h4) (hn6) (htx) (he) (hkp))

set_option maxRecDepth 100000 in
set_option maxHeartbeats 4000000 in
theorem LC_33 {L : GL} {E : GE} {ad : Nat → Nat} {G : Nat → va_E} {cs ss b Ls i : Nat} {xs : Nat → Int32} (C : gC L E cL_law RL 9 room_1) (hX : LWx L E b Ls xs) (hi : i + 3 ≤ Ls) (hLs : Ls ≤ 1536) (hcs : cs + 3 ≤ 601024 ∧ ss + 18 ≤ 7293034) (hI : LI L ad G) (K : ∀ G', LI L ad G' → GW L E 50 ad G' (cs + 3) (ss + 18) 1974 [(5, .int (nI i)), (4, .ref (ad 49)), (3, .ref (ad 48)), (2, .ref (ad 40)), (1, .ref (ad 0)), (0, .ref b)] []) : GW L E 50 ad G cs ss 1798 [(5, .int (nI i)), (4, .ref (ad 49)), (3, .ref (ad 48)), (2, .ref (ad 40)), (1, .ref (ad 0)), (0, .ref b)] [] := by
  refine LI_elim hI (fun sn t1 t2 t3 t4 t5 b1 b2 b3 b4 b5 s0 q1 q2 q3 q4 q5 xz l ml f l2 ml2 f2 l3 ml3 f3 hs len od ps rs cu tx ik th m q te fx fy nx ny ux uy us px py sp bg fo le fi re ca f42 f43 pf tm xx yy ov ow g0 g1 g2 g3 g4 g5 g6 g8 g19 g20 g21 g22 g23 g24 g25 g26 g27 g38 g39 g40 g41 g42 g43 g44 g45 g46 g47 g48 g49 hH hQ hk hL hsg hP h4 hn6 htx he hkp => ?_)
  refine G_aload_n C 1 dL_law_1798 rfl rfl ?_
  refine G_aload_n C 3 dL_law_1799 rfl rfl ?_
  refine G_callSH C (As := [.ref (ad 0), .ref (ad 48)]) (rest := []) (w_faultPosition (c_X8_faultPosition g0 g38 g39 g24 g25 g22 g23 g1 g3 g6 hn6 htx) g0 (fun v G2 hq => by obtain ⟨rfl, _, _, _, _, ag⟩ := hq; exact ⟨⟨_, rfl⟩, (ag 48 (by decide)).trans g48⟩) (fun e G2 h => h.1)) ca_L_faultPosition km_L_234 rfl rfl (by decide) (Nat.le_of_ble_eq_true rfl) ⟨by show cs + 1 ≤ 601024; omega, by show ss + 6 ≤ 7293034; omega⟩ dL_law_1800 (fun vv G9 hq9 => ?_)
  rcases hq9 with ⟨r, G1, hq1, rfl, k9, a9⟩ | ⟨hx1, rfl⟩
  · obtain ⟨h9, q90, o938, o924, o925, ag9⟩ := hq1
    obtain rfl := (sint_inj h9).symm
    have AA0 : Agr [38, 24, 25] G G1 := ag9
    have AA1 : Agr [38, 24, 25, 48] G G9 := AA0.tr a9 (by simp) (by simp)
    have BB2 : Agr [48] G1 G9 := a9.wk (by simp)
    refine G_istore C (lo' := [(6, .int 0), (5, .int (nI i)), (4, .ref (ad 49)), (3, .ref (ad 48)), (2, .ref (ad 40)), (1, .ref (ad 0)), (0, .ref b)]) dL_law_1803 (by decide) rfl ?_
    refine G_aload_n C 2 dL_law_1805 rfl rfl ?_
    refine G_callV C (As := []) (rest := []) (c_X9_faultPositionY ((a9 40 (by decide)).trans ((ag9 40 (by decide)).trans g40)) ((a9 41 (by decide)).trans ((ag9 41 (by decide)).trans g41)) ((a9 42 (by decide)).trans ((ag9 42 (by decide)).trans g42)) ((a9 45 (by decide)).trans ((ag9 45 (by decide)).trans g45)) hn6 hk hL he q90) ca_X9_faultPosition km_L_236 (by decide) ((a9 40 (by decide)).trans ((ag9 40 (by decide)).trans g40)) rfl rfl rfl rfl (by decide) (Nat.le_of_ble_eq_true rfl) ⟨by show cs + 1 + 0 ≤ 601024; omega, by show ss + 6 + 0 ≤ 7293034; omega⟩ dL_law_1806 (fun vv3 gg4 qq5 => ?_)
    obtain ⟨j_6, j_7, j_8, j_9, j_10, j_11, j_12, u_13, u_14, u_15, p_16, p_17, k_18, k_19, k_20, k_21, k_22, k_23, rfl, hh24, hh25, hh26, aa27⟩ := qq5
    have AA28 : Agr [38, 24, 25, 48, 40, 41, 42] G gg4 := AA1.tr aa27 (by simp) (by simp)
    have BB29 : Agr [48, 40, 41, 42] G1 gg4 := BB2.tr aa27 (by simp) (by simp)
    refine G_istore C (lo' := [(7, .int (nI (fRun tx len 60 (0, 0, 0, 0, f, l, ml)).2.1)), (6, .int 0), (5, .int (nI i)), (4, .ref (ad 49)), (3, .ref (ad 48)), (2, .ref (ad 40)), (1, .ref (ad 0)), (0, .ref b)]) dL_law_1809 (by decide) rfl ?_
    refine G_aload_n C 2 dL_law_1811 rfl rfl ?_
    refine G_callV C (As := []) (rest := []) (c_X9_thrown hh24) ca_X9_thrown km_L_122 (by decide) hh24 rfl rfl rfl rfl (by decide) (Nat.le_of_ble_eq_true rfl) ⟨by show cs + 1 + 0 + 0 ≤ 601024; omega, by show ss + 6 + 0 + 0 ≤ 7293034; omega⟩ dL_law_1812 (fun vv30 gg31 qq32 => ?_)
    obtain ⟨rfl, rfl⟩ := qq32
    refine G_iload C dL_law_1815 rfl ?_
    refine G_icmp_eq C 1822 dL_law_1817 (by decide) (fun _ => ?_) (fun h => absurd h (by decide))
    refine G_iload C dL_law_1822 rfl ?_
    refine G_if_ne C 1839 dL_law_1824 (by decide) (fun h => absurd h (by decide)) (fun _ => ?_)
    refine G_aload_n C 3 dL_law_1827 rfl rfl ?_
    refine G_iconst C (v := 0) dL_law_1828 (by decide) ?_
    refine G_laldN C 48 (by decide) 0 ((aa27 48 (by decide)).trans k9) rfl (by decide) (by omega) dL_law_1829 ?_
    refine GW.toprl (y := (nI (fRun tx len 60 (0, 0, 0, 0, f, l, ml)).2.1).toInt64) (pk_uLs) ?_
    refine G_iload C dL_law_1830 rfl ?_
    refine G_i2l C dL_law_1832 rfl ?_
    refine G_lc_eq C 1839 dL_law_1833 dL_law_1834 (by decide) (fun c1833 => ?_) (fun c1833 => False.elim (c1833 (rfl)))
    refine G_goto C 1974 dL_law_1839 (by decide) ?_
    refine GW.pick [2, 3, 4, 5, 6, 7] [(5, .int (nI i)), (4, .ref (ad 49)), (3, .ref (ad 48)), (2, .ref (ad 40)), (1, .ref (ad 0)), (0, .ref b)] rfl ?_
    refine GW.widen (c1 := cs + 3) (s1 := ss + 18) (by show cs + 1 + 0 + 0 ≤ cs + 3; omega) (by show ss + 6 + 0 + 0 ≤ ss + 18; omega) ?_
    exact K _ (LI_mk  ((aa27 0 (by decide)).trans ((a9 0 (by decide)).trans ((ag9 0 (by decide)).trans g0))) ((aa27 1 (by decide)).trans ((a9 1 (by decide)).trans ((ag9 1 (by decide)).trans g1))) ((aa27 2 (by decide)).trans ((a9 2 (by decide)).trans ((ag9 2 (by decide)).trans g2))) ((aa27 3 (by decide)).trans ((a9 3 (by decide)).trans ((ag9 3 (by decide)).trans g3))) ((aa27 4 (by decide)).trans ((a9 4 (by decide)).trans ((ag9 4 (by decide)).trans g4))) ((aa27 5 (by decide)).trans ((a9 5 (by decide)).trans ((ag9 5 (by decide)).trans g5))) ((aa27 6 (by decide)).trans ((a9 6 (by decide)).trans ((ag9 6 (by decide)).trans g6))) ((aa27 8 (by decide)).trans ((a9 8 (by decide)).trans ((ag9 8 (by decide)).trans g8))) ((aa27 19 (by decide)).trans ((a9 19 (by decide)).trans ((ag9 19 (by decide)).trans g19))) ((aa27 20 (by decide)).trans ((a9 20 (by decide)).trans ((ag9 20 (by decide)).trans g20))) ((aa27 21 (by decide)).trans ((a9 21 (by decide)).trans ((ag9 21 (by decide)).trans g21))) ((aa27 22 (by decide)).trans ((a9 22 (by decide)).trans ((ag9 22 (by decide)).trans g22))) ((aa27 23 (by decide)).trans ((a9 23 (by decide)).trans ((ag9 23 (by decide)).trans g23))) ((aa27 24 (by decide)).trans ((a9 24 (by decide)).trans o924)) ((aa27 25 (by decide)).trans ((a9 25 (by decide)).trans o925)) ((aa27 26 (by decide)).trans ((a9 26 (by decide)).trans ((ag9 26 (by decide)).trans g26))) ((aa27 27 (by decide)).trans ((a9 27 (by decide)).trans ((ag9 27 (by decide)).trans g27))) ((aa27 38 (by decide)).trans ((a9 38 (by decide)).trans o938)) ((aa27 39 (by decide)).trans ((a9 39 (by decide)).trans ((ag9 39 (by decide)).trans g39))) hh24 hh25 hh26 ((aa27 43 (by decide)).trans ((a9 43 (by decide)).trans ((ag9 43 (by decide)).trans g43))) ((aa27 44 (by decide)).trans ((a9 44 (by decide)).trans ((ag9 44 (by decide)).trans g44))) ((aa27 45 (by decide)).trans ((a9 45 (by decide)).trans ((ag9 45 (by decide)).trans g45))) ((aa27 46 (by decide)).trans ((a9 46 (by decide)).trans ((ag9 46 (by decide)).trans g46))) ((aa27 47 (by decide)).trans ((a9 47 (by decide)).trans ((ag9 47 (by decide)).trans g47))) ((aa27 48 (by decide)).trans k9) ((aa27 49 (by decide)).trans ((a9 49 (by decide)).trans ((ag9 49 (by decide)).trans g49))) (hH.keep AA28 (by decide)) (qp_keep hQ AA28 (by decide)) (hk) (hL) (hsg) (hP) (h4) (hn6) (htx) (he) (hkp))
  · obtain ⟨-, hz, k938, k924, k925, aX⟩ := hx1
    refine G_istore C (lo' := [(6, .int 1), (5, .int (nI i)), (4, .ref (ad 49)), (3, .ref (ad 48)), (2, .ref (ad 40)), (1, .ref (ad 0)), (0, .ref b)]) dL_law_1803 (by decide) rfl ?_
    refine G_aload_n C 2 dL_law_1805 rfl rfl ?_
    refine G_callV C (As := []) (rest := []) (c_X9_faultPosition0 ((aX 40 (by decide)).trans g40) ((aX 41 (by decide)).trans g41) ((aX 42 (by decide)).trans g42) ((aX 45 (by decide)).trans g45) hn6 hk hL he hz) ca_X9_faultPosition km_L_236 (by decide) ((aX 40 (by decide)).trans g40) rfl rfl rfl rfl (by decide) (Nat.le_of_ble_eq_true rfl) ⟨by show cs + 1 + 0 ≤ 601024; omega, by show ss + 6 + 0 ≤ 7293034; omega⟩ dL_law_1806 (fun vv33 gg34 qq35 => ?_)
    obtain ⟨j_36, j_37, j_38, j_39, j_40, j_41, j_42, u_43, u_44, u_45, p_46, p_47, k_48, k_49, k_50, k_51, k_52, k_53, rfl, hh54, hh55, hh56, aa57⟩ := qq35
    have AA58 : Agr [38, 24, 25, 40, 41, 42] G gg34 := aX.tr aa57 (by simp) (by simp)
    have BB59 : Agr [40, 41, 42] G9 gg34 := aa57.wk (by simp)
    refine G_istore C (lo' := [(7, .int 0), (6, .int 1), (5, .int (nI i)), (4, .ref (ad 49)), (3, .ref (ad 48)), (2, .ref (ad 40)), (1, .ref (ad 0)), (0, .ref b)]) dL_law_1809 (by decide) rfl ?_
    refine G_aload_n C 2 dL_law_1811 rfl rfl ?_
    refine G_callV C (As := []) (rest := []) (c_X9_thrown hh54) ca_X9_thrown km_L_122 (by decide) hh54 rfl rfl rfl rfl (by decide) (Nat.le_of_ble_eq_true rfl) ⟨by show cs + 1 + 0 + 0 ≤ 601024; omega, by show ss + 6 + 0 + 0 ≤ 7293034; omega⟩ dL_law_1812 (fun vv60 gg61 qq62 => ?_)
    obtain ⟨rfl, rfl⟩ := qq62
    refine G_iload C dL_law_1815 rfl ?_
    refine G_icmp_eq C 1822 dL_law_1817 (by decide) (fun _ => ?_) (fun h => absurd h (by decide))
    refine G_iload C dL_law_1822 rfl ?_
    refine G_if_ne C 1839 dL_law_1824 (by decide) (fun _ => ?_) (fun h => absurd h (by decide))
    refine G_goto C 1974 dL_law_1839 (by decide) ?_
    refine GW.pick [2, 3, 4, 5, 6, 7] [(5, .int (nI i)), (4, .ref (ad 49)), (3, .ref (ad 48)), (2, .ref (ad 40)), (1, .ref (ad 0)), (0, .ref b)] rfl ?_
    refine GW.widen (c1 := cs + 3) (s1 := ss + 18) (by show cs + 1 + 0 + 0 ≤ cs + 3; omega) (by show ss + 6 + 0 + 0 ≤ ss + 18; omega) ?_
    exact K _ (LI_mk  ((aa57 0 (by decide)).trans ((aX 0 (by decide)).trans g0)) ((aa57 1 (by decide)).trans ((aX 1 (by decide)).trans g1)) ((aa57 2 (by decide)).trans ((aX 2 (by decide)).trans g2)) ((aa57 3 (by decide)).trans ((aX 3 (by decide)).trans g3)) ((aa57 4 (by decide)).trans ((aX 4 (by decide)).trans g4)) ((aa57 5 (by decide)).trans ((aX 5 (by decide)).trans g5)) ((aa57 6 (by decide)).trans ((aX 6 (by decide)).trans g6)) ((aa57 8 (by decide)).trans ((aX 8 (by decide)).trans g8)) ((aa57 19 (by decide)).trans ((aX 19 (by decide)).trans g19)) ((aa57 20 (by decide)).trans ((aX 20 (by decide)).trans g20)) ((aa57 21 (by decide)).trans ((aX 21 (by decide)).trans g21)) ((aa57 22 (by decide)).trans ((aX 22 (by decide)).trans g22)) ((aa57 23 (by decide)).trans ((aX 23 (by decide)).trans g23)) ((aa57 24 (by decide)).trans k924) ((aa57 25 (by decide)).trans k925) ((aa57 26 (by decide)).trans ((aX 26 (by decide)).trans g26)) ((aa57 27 (by decide)).trans ((aX 27 (by decide)).trans g27)) ((aa57 38 (by decide)).trans k938) ((aa57 39 (by decide)).trans ((aX 39 (by decide)).trans g39)) hh54 hh55 hh56 ((aa57 43 (by decide)).trans ((aX 43 (by decide)).trans g43)) ((aa57 44 (by decide)).trans ((aX 44 (by decide)).trans g44)) ((aa57 45 (by decide)).trans ((aX 45 (by decide)).trans g45)) ((aa57 46 (by decide)).trans ((aX 46 (by decide)).trans g46)) ((aa57 47 (by decide)).trans ((aX 47 (by decide)).trans g47)) ((aa57 48 (by decide)).trans ((aX 48 (by decide)).trans g48)) ((aa57 49 (by decide)).trans ((aX 49 (by decide)).trans g49)) (hH.keep AA58 (by decide)) (qp_keep hQ AA58 (by decide)) (hk) (hL) (hsg) (hP) (h4) (hn6) (htx) (he) (hkp))

set_option maxRecDepth 100000 in
set_option maxHeartbeats 4000000 in
theorem LC_34 {L : GL} {E : GE} {ad : Nat → Nat} {G : Nat → va_E} {cs ss b Ls i : Nat} {xs : Nat → Int32} (C : gC L E cL_law RL 9 room_1) (hX : LWx L E b Ls xs) (hi : i + 3 ≤ Ls) (hLs : Ls ≤ 1536) (hcs : cs + 3 ≤ 601024 ∧ ss + 18 ≤ 7293034) (hI : LI L ad G) (K : ∀ G', LI L ad G' → GW L E 50 ad G' (cs + 3) (ss + 18) 1974 [(5, .int (nI i)), (4, .ref (ad 49)), (3, .ref (ad 48)), (2, .ref (ad 40)), (1, .ref (ad 0)), (0, .ref b)] []) : GW L E 50 ad G cs ss 1842 [(5, .int (nI i)), (4, .ref (ad 49)), (3, .ref (ad 48)), (2, .ref (ad 40)), (1, .ref (ad 0)), (0, .ref b)] [] := by
  refine LI_elim hI (fun sn t1 t2 t3 t4 t5 b1 b2 b3 b4 b5 s0 q1 q2 q3 q4 q5 xz l ml f l2 ml2 f2 l3 ml3 f3 hs len od ps rs cu tx ik th m q te fx fy nx ny ux uy us px py sp bg fo le fi re ca f42 f43 pf tm xx yy ov ow g0 g1 g2 g3 g4 g5 g6 g8 g19 g20 g21 g22 g23 g24 g25 g26 g27 g38 g39 g40 g41 g42 g43 g44 g45 g46 g47 g48 g49 hH hQ hk hL hsg hP h4 hn6 htx he hkp => ?_)
  refine G_aload_n C 1 dL_law_1842 rfl rfl ?_
  refine G_aload_n C 3 dL_law_1843 rfl rfl ?_
  refine G_callSH C (As := [.ref (ad 0), .ref (ad 48)]) (rest := []) (w_faultReason (c_X8_faultReason g0 g38 g39 g24 g25 g22 g23 g1 g3 g6 hn6 htx) g0 (fun v G2 hq => by obtain ⟨rfl, _, _, _, _, ag⟩ := hq; exact ⟨⟨_, rfl⟩, (ag 48 (by decide)).trans g48⟩) (fun e G2 h => h.1)) ca_L_faultReason km_L_237 rfl rfl (by decide) (Nat.le_of_ble_eq_true rfl) ⟨by show cs + 1 ≤ 601024; omega, by show ss + 6 ≤ 7293034; omega⟩ dL_law_1844 (fun vv G9 hq9 => ?_)
  rcases hq9 with ⟨r, G1, hq1, rfl, k9, a9⟩ | ⟨hx1, rfl⟩
  · obtain ⟨h9, q90, o938, o924, o925, ag9⟩ := hq1
    obtain rfl := (sint_inj h9).symm
    have AA0 : Agr [38, 24, 25] G G1 := ag9
    have AA1 : Agr [38, 24, 25, 48] G G9 := AA0.tr a9 (by simp) (by simp)
    have BB2 : Agr [48] G1 G9 := a9.wk (by simp)
    refine G_istore C (lo' := [(6, .int 0), (5, .int (nI i)), (4, .ref (ad 49)), (3, .ref (ad 48)), (2, .ref (ad 40)), (1, .ref (ad 0)), (0, .ref b)]) dL_law_1847 (by decide) rfl ?_
    refine G_aload_n C 2 dL_law_1849 rfl rfl ?_
    refine G_callV C (As := []) (rest := []) (c_X9_faultReasonY ((a9 40 (by decide)).trans ((ag9 40 (by decide)).trans g40)) ((a9 41 (by decide)).trans ((ag9 41 (by decide)).trans g41)) ((a9 42 (by decide)).trans ((ag9 42 (by decide)).trans g42)) ((a9 45 (by decide)).trans ((ag9 45 (by decide)).trans g45)) hn6 hk hL he q90) ca_X9_faultReason km_L_239 (by decide) ((a9 40 (by decide)).trans ((ag9 40 (by decide)).trans g40)) rfl rfl rfl rfl (by decide) (Nat.le_of_ble_eq_true rfl) ⟨by show cs + 1 + 0 ≤ 601024; omega, by show ss + 6 + 0 ≤ 7293034; omega⟩ dL_law_1850 (fun vv3 gg4 qq5 => ?_)
    obtain ⟨j_6, j_7, j_8, j_9, j_10, j_11, j_12, u_13, u_14, u_15, p_16, p_17, k_18, k_19, k_20, k_21, k_22, k_23, rfl, hh24, hh25, hh26, aa27⟩ := qq5
    have AA28 : Agr [38, 24, 25, 48, 40, 41, 42] G gg4 := AA1.tr aa27 (by simp) (by simp)
    have BB29 : Agr [48, 40, 41, 42] G1 gg4 := BB2.tr aa27 (by simp) (by simp)
    refine G_istore C (lo' := [(7, .int ((fRun tx len 60 (0, 0, 0, 0, f, l, ml)).2.2.1)), (6, .int 0), (5, .int (nI i)), (4, .ref (ad 49)), (3, .ref (ad 48)), (2, .ref (ad 40)), (1, .ref (ad 0)), (0, .ref b)]) dL_law_1853 (by decide) rfl ?_
    refine G_aload_n C 2 dL_law_1855 rfl rfl ?_
    refine G_callV C (As := []) (rest := []) (c_X9_thrown hh24) ca_X9_thrown km_L_122 (by decide) hh24 rfl rfl rfl rfl (by decide) (Nat.le_of_ble_eq_true rfl) ⟨by show cs + 1 + 0 + 0 ≤ 601024; omega, by show ss + 6 + 0 + 0 ≤ 7293034; omega⟩ dL_law_1856 (fun vv30 gg31 qq32 => ?_)
    obtain ⟨rfl, rfl⟩ := qq32
    refine G_iload C dL_law_1859 rfl ?_
    refine G_icmp_eq C 1866 dL_law_1861 (by decide) (fun _ => ?_) (fun h => absurd h (by decide))
    refine G_iload C dL_law_1866 rfl ?_
    refine G_if_ne C 1883 dL_law_1868 (by decide) (fun h => absurd h (by decide)) (fun _ => ?_)
    refine G_aload_n C 3 dL_law_1871 rfl rfl ?_
    refine G_iconst C (v := 0) dL_law_1872 (by decide) ?_
    refine G_laldN C 48 (by decide) 0 ((aa27 48 (by decide)).trans k9) rfl (by decide) (by omega) dL_law_1873 ?_
    refine GW.toprl (y := ((fRun tx len 60 (0, 0, 0, 0, f, l, ml)).2.2.1).toInt64) (pk_uLs) ?_
    refine G_iload C dL_law_1874 rfl ?_
    refine G_i2l C dL_law_1876 rfl ?_
    refine G_lc_eq C 1883 dL_law_1877 dL_law_1878 (by decide) (fun c1877 => ?_) (fun c1877 => False.elim (c1877 (rfl)))
    refine G_goto C 1974 dL_law_1883 (by decide) ?_
    refine GW.pick [2, 3, 4, 5, 6, 7] [(5, .int (nI i)), (4, .ref (ad 49)), (3, .ref (ad 48)), (2, .ref (ad 40)), (1, .ref (ad 0)), (0, .ref b)] rfl ?_
    refine GW.widen (c1 := cs + 3) (s1 := ss + 18) (by show cs + 1 + 0 + 0 ≤ cs + 3; omega) (by show ss + 6 + 0 + 0 ≤ ss + 18; omega) ?_
    exact K _ (LI_mk  ((aa27 0 (by decide)).trans ((a9 0 (by decide)).trans ((ag9 0 (by decide)).trans g0))) ((aa27 1 (by decide)).trans ((a9 1 (by decide)).trans ((ag9 1 (by decide)).trans g1))) ((aa27 2 (by decide)).trans ((a9 2 (by decide)).trans ((ag9 2 (by decide)).trans g2))) ((aa27 3 (by decide)).trans ((a9 3 (by decide)).trans ((ag9 3 (by decide)).trans g3))) ((aa27 4 (by decide)).trans ((a9 4 (by decide)).trans ((ag9 4 (by decide)).trans g4))) ((aa27 5 (by decide)).trans ((a9 5 (by decide)).trans ((ag9 5 (by decide)).trans g5))) ((aa27 6 (by decide)).trans ((a9 6 (by decide)).trans ((ag9 6 (by decide)).trans g6))) ((aa27 8 (by decide)).trans ((a9 8 (by decide)).trans ((ag9 8 (by decide)).trans g8))) ((aa27 19 (by decide)).trans ((a9 19 (by decide)).trans ((ag9 19 (by decide)).trans g19))) ((aa27 20 (by decide)).trans ((a9 20 (by decide)).trans ((ag9 20 (by decide)).trans g20))) ((aa27 21 (by decide)).trans ((a9 21 (by decide)).trans ((ag9 21 (by decide)).trans g21))) ((aa27 22 (by decide)).trans ((a9 22 (by decide)).trans ((ag9 22 (by decide)).trans g22))) ((aa27 23 (by decide)).trans ((a9 23 (by decide)).trans ((ag9 23 (by decide)).trans g23))) ((aa27 24 (by decide)).trans ((a9 24 (by decide)).trans o924)) ((aa27 25 (by decide)).trans ((a9 25 (by decide)).trans o925)) ((aa27 26 (by decide)).trans ((a9 26 (by decide)).trans ((ag9 26 (by decide)).trans g26))) ((aa27 27 (by decide)).trans ((a9 27 (by decide)).trans ((ag9 27 (by decide)).trans g27))) ((aa27 38 (by decide)).trans ((a9 38 (by decide)).trans o938)) ((aa27 39 (by decide)).trans ((a9 39 (by decide)).trans ((ag9 39 (by decide)).trans g39))) hh24 hh25 hh26 ((aa27 43 (by decide)).trans ((a9 43 (by decide)).trans ((ag9 43 (by decide)).trans g43))) ((aa27 44 (by decide)).trans ((a9 44 (by decide)).trans ((ag9 44 (by decide)).trans g44))) ((aa27 45 (by decide)).trans ((a9 45 (by decide)).trans ((ag9 45 (by decide)).trans g45))) ((aa27 46 (by decide)).trans ((a9 46 (by decide)).trans ((ag9 46 (by decide)).trans g46))) ((aa27 47 (by decide)).trans ((a9 47 (by decide)).trans ((ag9 47 (by decide)).trans g47))) ((aa27 48 (by decide)).trans k9) ((aa27 49 (by decide)).trans ((a9 49 (by decide)).trans ((ag9 49 (by decide)).trans g49))) (hH.keep AA28 (by decide)) (qp_keep hQ AA28 (by decide)) (hk) (hL) (hsg) (hP) (h4) (hn6) (htx) (he) (hkp))
  · obtain ⟨-, hz, k938, k924, k925, aX⟩ := hx1
    refine G_istore C (lo' := [(6, .int 1), (5, .int (nI i)), (4, .ref (ad 49)), (3, .ref (ad 48)), (2, .ref (ad 40)), (1, .ref (ad 0)), (0, .ref b)]) dL_law_1847 (by decide) rfl ?_
    refine G_aload_n C 2 dL_law_1849 rfl rfl ?_
    refine G_callV C (As := []) (rest := []) (c_X9_faultReason0 ((aX 40 (by decide)).trans g40) ((aX 41 (by decide)).trans g41) ((aX 42 (by decide)).trans g42) ((aX 45 (by decide)).trans g45) hn6 hk hL he hz) ca_X9_faultReason km_L_239 (by decide) ((aX 40 (by decide)).trans g40) rfl rfl rfl rfl (by decide) (Nat.le_of_ble_eq_true rfl) ⟨by show cs + 1 + 0 ≤ 601024; omega, by show ss + 6 + 0 ≤ 7293034; omega⟩ dL_law_1850 (fun vv33 gg34 qq35 => ?_)
    obtain ⟨j_36, j_37, j_38, j_39, j_40, j_41, j_42, u_43, u_44, u_45, p_46, p_47, k_48, k_49, k_50, k_51, k_52, k_53, rfl, hh54, hh55, hh56, aa57⟩ := qq35
    have AA58 : Agr [38, 24, 25, 40, 41, 42] G gg34 := aX.tr aa57 (by simp) (by simp)
    have BB59 : Agr [40, 41, 42] G9 gg34 := aa57.wk (by simp)
    refine G_istore C (lo' := [(7, .int 0), (6, .int 1), (5, .int (nI i)), (4, .ref (ad 49)), (3, .ref (ad 48)), (2, .ref (ad 40)), (1, .ref (ad 0)), (0, .ref b)]) dL_law_1853 (by decide) rfl ?_
    refine G_aload_n C 2 dL_law_1855 rfl rfl ?_
    refine G_callV C (As := []) (rest := []) (c_X9_thrown hh54) ca_X9_thrown km_L_122 (by decide) hh54 rfl rfl rfl rfl (by decide) (Nat.le_of_ble_eq_true rfl) ⟨by show cs + 1 + 0 + 0 ≤ 601024; omega, by show ss + 6 + 0 + 0 ≤ 7293034; omega⟩ dL_law_1856 (fun vv60 gg61 qq62 => ?_)
    obtain ⟨rfl, rfl⟩ := qq62
    refine G_iload C dL_law_1859 rfl ?_
    refine G_icmp_eq C 1866 dL_law_1861 (by decide) (fun _ => ?_) (fun h => absurd h (by decide))
    refine G_iload C dL_law_1866 rfl ?_
    refine G_if_ne C 1883 dL_law_1868 (by decide) (fun _ => ?_) (fun h => absurd h (by decide))
    refine G_goto C 1974 dL_law_1883 (by decide) ?_
    refine GW.pick [2, 3, 4, 5, 6, 7] [(5, .int (nI i)), (4, .ref (ad 49)), (3, .ref (ad 48)), (2, .ref (ad 40)), (1, .ref (ad 0)), (0, .ref b)] rfl ?_
    refine GW.widen (c1 := cs + 3) (s1 := ss + 18) (by show cs + 1 + 0 + 0 ≤ cs + 3; omega) (by show ss + 6 + 0 + 0 ≤ ss + 18; omega) ?_
    exact K _ (LI_mk  ((aa57 0 (by decide)).trans ((aX 0 (by decide)).trans g0)) ((aa57 1 (by decide)).trans ((aX 1 (by decide)).trans g1)) ((aa57 2 (by decide)).trans ((aX 2 (by decide)).trans g2)) ((aa57 3 (by decide)).trans ((aX 3 (by decide)).trans g3)) ((aa57 4 (by decide)).trans ((aX 4 (by decide)).trans g4)) ((aa57 5 (by decide)).trans ((aX 5 (by decide)).trans g5)) ((aa57 6 (by decide)).trans ((aX 6 (by decide)).trans g6)) ((aa57 8 (by decide)).trans ((aX 8 (by decide)).trans g8)) ((aa57 19 (by decide)).trans ((aX 19 (by decide)).trans g19)) ((aa57 20 (by decide)).trans ((aX 20 (by decide)).trans g20)) ((aa57 21 (by decide)).trans ((aX 21 (by decide)).trans g21)) ((aa57 22 (by decide)).trans ((aX 22 (by decide)).trans g22)) ((aa57 23 (by decide)).trans ((aX 23 (by decide)).trans g23)) ((aa57 24 (by decide)).trans k924) ((aa57 25 (by decide)).trans k925) ((aa57 26 (by decide)).trans ((aX 26 (by decide)).trans g26)) ((aa57 27 (by decide)).trans ((aX 27 (by decide)).trans g27)) ((aa57 38 (by decide)).trans k938) ((aa57 39 (by decide)).trans ((aX 39 (by decide)).trans g39)) hh54 hh55 hh56 ((aa57 43 (by decide)).trans ((aX 43 (by decide)).trans g43)) ((aa57 44 (by decide)).trans ((aX 44 (by decide)).trans g44)) ((aa57 45 (by decide)).trans ((aX 45 (by decide)).trans g45)) ((aa57 46 (by decide)).trans ((aX 46 (by decide)).trans g46)) ((aa57 47 (by decide)).trans ((aX 47 (by decide)).trans g47)) ((aa57 48 (by decide)).trans ((aX 48 (by decide)).trans g48)) ((aa57 49 (by decide)).trans ((aX 49 (by decide)).trans g49)) (hH.keep AA58 (by decide)) (qp_keep hQ AA58 (by decide)) (hk) (hL) (hsg) (hP) (h4) (hn6) (htx) (he) (hkp))

set_option maxRecDepth 100000 in
set_option maxHeartbeats 4000000 in
theorem LC_35 {L : GL} {E : GE} {ad : Nat → Nat} {G : Nat → va_E} {cs ss b Ls i : Nat} {xs : Nat → Int32} (C : gC L E cL_law RL 9 room_1) (hX : LWx L E b Ls xs) (hi : i + 3 ≤ Ls) (hLs : Ls ≤ 1536) (hcs : cs + 3 ≤ 601024 ∧ ss + 18 ≤ 7293034) (hI : LI L ad G) (K : ∀ G', LI L ad G' → GW L E 50 ad G' (cs + 3) (ss + 18) 1974 [(5, .int (nI i)), (4, .ref (ad 49)), (3, .ref (ad 48)), (2, .ref (ad 40)), (1, .ref (ad 0)), (0, .ref b)] []) : GW L E 50 ad G cs ss 1886 [(5, .int (nI i)), (4, .ref (ad 49)), (3, .ref (ad 48)), (2, .ref (ad 40)), (1, .ref (ad 0)), (0, .ref b)] [] := by
  refine LI_elim hI (fun sn t1 t2 t3 t4 t5 b1 b2 b3 b4 b5 s0 q1 q2 q3 q4 q5 xz l ml f l2 ml2 f2 l3 ml3 f3 hs len od ps rs cu tx ik th m q te fx fy nx ny ux uy us px py sp bg fo le fi re ca f42 f43 pf tm xx yy ov ow g0 g1 g2 g3 g4 g5 g6 g8 g19 g20 g21 g22 g23 g24 g25 g26 g27 g38 g39 g40 g41 g42 g43 g44 g45 g46 g47 g48 g49 hH hQ hk hL hsg hP h4 hn6 htx he hkp => ?_)
  refine G_aload_n C 1 dL_law_1886 rfl rfl ?_
  refine G_aload_n C 3 dL_law_1887 rfl rfl ?_
  refine G_callSH C (As := [.ref (ad 0), .ref (ad 48)]) (rest := []) (w_faultCause (c_X8_faultCause g0 g38 g39 g24 g25 g22 g23 g1 g3 g6 hn6 htx) g0 (fun v G2 hq => by obtain ⟨rfl, _, _, _, _, ag⟩ := hq; exact ⟨⟨_, rfl⟩, (ag 48 (by decide)).trans g48⟩) (fun e G2 h => h.1)) ca_L_faultCause km_L_240 rfl rfl (by decide) (Nat.le_of_ble_eq_true rfl) ⟨by show cs + 1 ≤ 601024; omega, by show ss + 6 ≤ 7293034; omega⟩ dL_law_1888 (fun vv G9 hq9 => ?_)
  rcases hq9 with ⟨r, G1, hq1, rfl, k9, a9⟩ | ⟨hx1, rfl⟩
  · obtain ⟨h9, q90, o938, o924, o925, ag9⟩ := hq1
    obtain rfl := (sint_inj h9).symm
    have AA0 : Agr [38, 24, 25] G G1 := ag9
    have AA1 : Agr [38, 24, 25, 48] G G9 := AA0.tr a9 (by simp) (by simp)
    have BB2 : Agr [48] G1 G9 := a9.wk (by simp)
    refine G_istore C (lo' := [(6, .int 0), (5, .int (nI i)), (4, .ref (ad 49)), (3, .ref (ad 48)), (2, .ref (ad 40)), (1, .ref (ad 0)), (0, .ref b)]) dL_law_1891 (by decide) rfl ?_
    refine G_aload_n C 2 dL_law_1893 rfl rfl ?_
    refine G_callV C (As := []) (rest := []) (c_X9_faultCauseY ((a9 40 (by decide)).trans ((ag9 40 (by decide)).trans g40)) ((a9 41 (by decide)).trans ((ag9 41 (by decide)).trans g41)) ((a9 42 (by decide)).trans ((ag9 42 (by decide)).trans g42)) ((a9 45 (by decide)).trans ((ag9 45 (by decide)).trans g45)) hn6 hk hL he q90) ca_X9_faultCause km_L_242 (by decide) ((a9 40 (by decide)).trans ((ag9 40 (by decide)).trans g40)) rfl rfl rfl rfl (by decide) (Nat.le_of_ble_eq_true rfl) ⟨by show cs + 1 + 0 ≤ 601024; omega, by show ss + 6 + 0 ≤ 7293034; omega⟩ dL_law_1894 (fun vv3 gg4 qq5 => ?_)
    obtain ⟨j_6, j_7, j_8, j_9, j_10, j_11, j_12, u_13, u_14, u_15, p_16, p_17, k_18, k_19, k_20, k_21, k_22, k_23, rfl, hh24, hh25, hh26, aa27⟩ := qq5
    have AA28 : Agr [38, 24, 25, 48, 40, 41, 42] G gg4 := AA1.tr aa27 (by simp) (by simp)
    have BB29 : Agr [48, 40, 41, 42] G1 gg4 := BB2.tr aa27 (by simp) (by simp)
    refine G_istore C (lo' := [(7, .int ((fRun tx len 60 (0, 0, 0, 0, f, l, ml)).2.2.2.1)), (6, .int 0), (5, .int (nI i)), (4, .ref (ad 49)), (3, .ref (ad 48)), (2, .ref (ad 40)), (1, .ref (ad 0)), (0, .ref b)]) dL_law_1897 (by decide) rfl ?_
    refine G_aload_n C 2 dL_law_1899 rfl rfl ?_
    refine G_callV C (As := []) (rest := []) (c_X9_thrown hh24) ca_X9_thrown km_L_122 (by decide) hh24 rfl rfl rfl rfl (by decide) (Nat.le_of_ble_eq_true rfl) ⟨by show cs + 1 + 0 + 0 ≤ 601024; omega, by show ss + 6 + 0 + 0 ≤ 7293034; omega⟩ dL_law_1900 (fun vv30 gg31 qq32 => ?_)
    obtain ⟨rfl, rfl⟩ := qq32
    refine G_iload C dL_law_1903 rfl ?_
    refine G_icmp_eq C 1910 dL_law_1905 (by decide) (fun _ => ?_) (fun h => absurd h (by decide))
    refine G_iload C dL_law_1910 rfl ?_
    refine G_if_ne C 1927 dL_law_1912 (by decide) (fun h => absurd h (by decide)) (fun _ => ?_)
    refine G_aload_n C 3 dL_law_1915 rfl rfl ?_
    refine G_iconst C (v := 0) dL_law_1916 (by decide) ?_
    refine G_laldN C 48 (by decide) 0 ((aa27 48 (by decide)).trans k9) rfl (by decide) (by omega) dL_law_1917 ?_
    refine GW.toprl (y := ((fRun tx len 60 (0, 0, 0, 0, f, l, ml)).2.2.2.1).toInt64) (pk_uLs) ?_
    refine G_iload C dL_law_1918 rfl ?_
    refine G_i2l C dL_law_1920 rfl ?_
    refine G_lc_eq C 1927 dL_law_1921 dL_law_1922 (by decide) (fun c1921 => ?_) (fun c1921 => False.elim (c1921 (rfl)))
    refine G_goto C 1974 dL_law_1927 (by decide) ?_
    refine GW.pick [2, 3, 4, 5, 6, 7] [(5, .int (nI i)), (4, .ref (ad 49)), (3, .ref (ad 48)), (2, .ref (ad 40)), (1, .ref (ad 0)), (0, .ref b)] rfl ?_
    refine GW.widen (c1 := cs + 3) (s1 := ss + 18) (by show cs + 1 + 0 + 0 ≤ cs + 3; omega) (by show ss + 6 + 0 + 0 ≤ ss + 18; omega) ?_
    exact K _ (LI_mk  ((aa27 0 (by decide)).trans ((a9 0 (by decide)).trans ((ag9 0 (by decide)).trans g0))) ((aa27 1 (by decide)).trans ((a9 1 (by decide)).trans ((ag9 1 (by decide)).trans g1))) ((aa27 2 (by decide)).trans ((a9 2 (by decide)).trans ((ag9 2 (by decide)).trans g2))) ((aa27 3 (by decide)).trans ((a9 3 (by decide)).trans ((ag9 3 (by decide)).trans g3))) ((aa27 4 (by decide)).trans ((a9 4 (by decide)).trans ((ag9 4 (by decide)).trans g4))) ((aa27 5 (by decide)).trans ((a9 5 (by decide)).trans ((ag9 5 (by decide)).trans g5))) ((aa27 6 (by decide)).trans ((a9 6 (by decide)).trans ((ag9 6 (by decide)).trans g6))) ((aa27 8 (by decide)).trans ((a9 8 (by decide)).trans ((ag9 8 (by decide)).trans g8))) ((aa27 19 (by decide)).trans ((a9 19 (by decide)).trans ((ag9 19 (by decide)).trans g19))) ((aa27 20 (by decide)).trans ((a9 20 (by decide)).trans ((ag9 20 (by decide)).trans g20))) ((aa27 21 (by decide)).trans ((a9 21 (by decide)).trans ((ag9 21 (by decide)).trans g21))) ((aa27 22 (by decide)).trans ((a9 22 (by decide)).trans ((ag9 22 (by decide)).trans g22))) ((aa27 23 (by decide)).trans ((a9 23 (by decide)).trans ((ag9 23 (by decide)).trans g23))) ((aa27 24 (by decide)).trans ((a9 24 (by decide)).trans o924)) ((aa27 25 (by decide)).trans ((a9 25 (by decide)).trans o925)) ((aa27 26 (by decide)).trans ((a9 26 (by decide)).trans ((ag9 26 (by decide)).trans g26))) ((aa27 27 (by decide)).trans ((a9 27 (by decide)).trans ((ag9 27 (by decide)).trans g27))) ((aa27 38 (by decide)).trans ((a9 38 (by decide)).trans o938)) ((aa27 39 (by decide)).trans ((a9 39 (by decide)).trans ((ag9 39 (by decide)).trans g39))) hh24 hh25 hh26 ((aa27 43 (by decide)).trans ((a9 43 (by decide)).trans ((ag9 43 (by decide)).trans g43))) ((aa27 44 (by decide)).trans ((a9 44 (by decide)).trans ((ag9 44 (by decide)).trans g44))) ((aa27 45 (by decide)).trans ((a9 45 (by decide)).trans ((ag9 45 (by decide)).trans g45))) ((aa27 46 (by decide)).trans ((a9 46 (by decide)).trans ((ag9 46 (by decide)).trans g46))) ((aa27 47 (by decide)).trans ((a9 47 (by decide)).trans ((ag9 47 (by decide)).trans g47))) ((aa27 48 (by decide)).trans k9) ((aa27 49 (by decide)).trans ((a9 49 (by decide)).trans ((ag9 49 (by decide)).trans g49))) (hH.keep AA28 (by decide)) (qp_keep hQ AA28 (by decide)) (hk) (hL) (hsg) (hP) (h4) (hn6) (htx) (he) (hkp))
  · obtain ⟨-, hz, k938, k924, k925, aX⟩ := hx1
    refine G_istore C (lo' := [(6, .int 1), (5, .int (nI i)), (4, .ref (ad 49)), (3, .ref (ad 48)), (2, .ref (ad 40)), (1, .ref (ad 0)), (0, .ref b)]) dL_law_1891 (by decide) rfl ?_
    refine G_aload_n C 2 dL_law_1893 rfl rfl ?_
    refine G_callV C (As := []) (rest := []) (c_X9_faultCause0 ((aX 40 (by decide)).trans g40) ((aX 41 (by decide)).trans g41) ((aX 42 (by decide)).trans g42) ((aX 45 (by decide)).trans g45) hn6 hk hL he hz) ca_X9_faultCause km_L_242 (by decide) ((aX 40 (by decide)).trans g40) rfl rfl rfl rfl (by decide) (Nat.le_of_ble_eq_true rfl) ⟨by show cs + 1 + 0 ≤ 601024; omega, by show ss + 6 + 0 ≤ 7293034; omega⟩ dL_law_1894 (fun vv33 gg34 qq35 => ?_)
    obtain ⟨j_36, j_37, j_38, j_39, j_40, j_41, j_42, u_43, u_44, u_45, p_46, p_47, k_48, k_49, k_50, k_51, k_52, k_53, rfl, hh54, hh55, hh56, aa57⟩ := qq35
    have AA58 : Agr [38, 24, 25, 40, 41, 42] G gg34 := aX.tr aa57 (by simp) (by simp)
    have BB59 : Agr [40, 41, 42] G9 gg34 := aa57.wk (by simp)
    refine G_istore C (lo' := [(7, .int 0), (6, .int 1), (5, .int (nI i)), (4, .ref (ad 49)), (3, .ref (ad 48)), (2, .ref (ad 40)), (1, .ref (ad 0)), (0, .ref b)]) dL_law_1897 (by decide) rfl ?_
    refine G_aload_n C 2 dL_law_1899 rfl rfl ?_
    refine G_callV C (As := []) (rest := []) (c_X9_thrown hh54) ca_X9_thrown km_L_122 (by decide) hh54 rfl rfl rfl rfl (by decide) (Nat.le_of_ble_eq_true rfl) ⟨by show cs + 1 + 0 + 0 ≤ 601024; omega, by show ss + 6 + 0 + 0 ≤ 7293034; omega⟩ dL_law_1900 (fun vv60 gg61 qq62 => ?_)
    obtain ⟨rfl, rfl⟩ := qq62
    refine G_iload C dL_law_1903 rfl ?_
    refine G_icmp_eq C 1910 dL_law_1905 (by decide) (fun _ => ?_) (fun h => absurd h (by decide))
    refine G_iload C dL_law_1910 rfl ?_
    refine G_if_ne C 1927 dL_law_1912 (by decide) (fun _ => ?_) (fun h => absurd h (by decide))
    refine G_goto C 1974 dL_law_1927 (by decide) ?_
    refine GW.pick [2, 3, 4, 5, 6, 7] [(5, .int (nI i)), (4, .ref (ad 49)), (3, .ref (ad 48)), (2, .ref (ad 40)), (1, .ref (ad 0)), (0, .ref b)] rfl ?_
    refine GW.widen (c1 := cs + 3) (s1 := ss + 18) (by show cs + 1 + 0 + 0 ≤ cs + 3; omega) (by show ss + 6 + 0 + 0 ≤ ss + 18; omega) ?_
    exact K _ (LI_mk  ((aa57 0 (by decide)).trans ((aX 0 (by decide)).trans g0)) ((aa57 1 (by decide)).trans ((aX 1 (by decide)).trans g1)) ((aa57 2 (by decide)).trans ((aX 2 (by decide)).trans g2)) ((aa57 3 (by decide)).trans ((aX 3 (by decide)).trans g3)) ((aa57 4 (by decide)).trans ((aX 4 (by decide)).trans g4)) ((aa57 5 (by decide)).trans ((aX 5 (by decide)).trans g5)) ((aa57 6 (by decide)).trans ((aX 6 (by decide)).trans g6)) ((aa57 8 (by decide)).trans ((aX 8 (by decide)).trans g8)) ((aa57 19 (by decide)).trans ((aX 19 (by decide)).trans g19)) ((aa57 20 (by decide)).trans ((aX 20 (by decide)).trans g20)) ((aa57 21 (by decide)).trans ((aX 21 (by decide)).trans g21)) ((aa57 22 (by decide)).trans ((aX 22 (by decide)).trans g22)) ((aa57 23 (by decide)).trans ((aX 23 (by decide)).trans g23)) ((aa57 24 (by decide)).trans k924) ((aa57 25 (by decide)).trans k925) ((aa57 26 (by decide)).trans ((aX 26 (by decide)).trans g26)) ((aa57 27 (by decide)).trans ((aX 27 (by decide)).trans g27)) ((aa57 38 (by decide)).trans k938) ((aa57 39 (by decide)).trans ((aX 39 (by decide)).trans g39)) hh54 hh55 hh56 ((aa57 43 (by decide)).trans ((aX 43 (by decide)).trans g43)) ((aa57 44 (by decide)).trans ((aX 44 (by decide)).trans g44)) ((aa57 45 (by decide)).trans ((aX 45 (by decide)).trans g45)) ((aa57 46 (by decide)).trans ((aX 46 (by decide)).trans g46)) ((aa57 47 (by decide)).trans ((aX 47 (by decide)).trans g47)) ((aa57 48 (by decide)).trans ((aX 48 (by decide)).trans g48)) ((aa57 49 (by decide)).trans ((aX 49 (by decide)).trans g49)) (hH.keep AA58 (by decide)) (qp_keep hQ AA58 (by decide)) (hk) (hL) (hsg) (hP) (h4) (hn6) (htx) (he) (hkp))

set_option maxRecDepth 100000 in
set_option maxHeartbeats 4000000 in
theorem LC_36 {L : GL} {E : GE} {ad : Nat → Nat} {G : Nat → va_E} {cs ss b Ls i : Nat} {xs : Nat → Int32} (C : gC L E cL_law RL 9 room_1) (hX : LWx L E b Ls xs) (hi : i + 3 ≤ Ls) (hLs : Ls ≤ 1536) (hcs : cs + 3 ≤ 601024 ∧ ss + 18 ≤ 7293034) (hI : LI L ad G) (K : ∀ G', LI L ad G' → GW L E 50 ad G' (cs + 3) (ss + 18) 1974 [(5, .int (nI i)), (4, .ref (ad 49)), (3, .ref (ad 48)), (2, .ref (ad 40)), (1, .ref (ad 0)), (0, .ref b)] []) : GW L E 50 ad G cs ss 1930 [(5, .int (nI i)), (4, .ref (ad 49)), (3, .ref (ad 48)), (2, .ref (ad 40)), (1, .ref (ad 0)), (0, .ref b)] [] := by
  refine LI_elim hI (fun sn t1 t2 t3 t4 t5 b1 b2 b3 b4 b5 s0 q1 q2 q3 q4 q5 xz l ml f l2 ml2 f2 l3 ml3 f3 hs len od ps rs cu tx ik th m q te fx fy nx ny ux uy us px py sp bg fo le fi re ca f42 f43 pf tm xx yy ov ow g0 g1 g2 g3 g4 g5 g6 g8 g19 g20 g21 g22 g23 g24 g25 g26 g27 g38 g39 g40 g41 g42 g43 g44 g45 g46 g47 g48 g49 hH hQ hk hL hsg hP h4 hn6 htx he hkp => ?_)
  refine G_aload_n C 1 dL_law_1930 rfl rfl ?_
  refine G_aload_n C 3 dL_law_1931 rfl rfl ?_
  refine G_callSH C (As := [.ref (ad 0), .ref (ad 48)]) (rest := []) (w_play (c_X8_play g0 g38 g39 g24 g25 g22 g23 g1 g3 g6 hn6 htx hH) g0 (fun v G2 hq => by obtain ⟨rfl, _, _, _, _, _, _, _, ag⟩ := hq; exact ⟨⟨_, rfl⟩, (ag 48 (by decide)).trans g48⟩) (fun e G2 h => h.1)) ca_L_play km_L_243 rfl rfl (by decide) (Nat.le_of_ble_eq_true rfl) ⟨by show cs + 1 ≤ 601024; omega, by show ss + 6 ≤ 7293034; omega⟩ dL_law_1932 (fun vv G9 hq9 => ?_)
  rcases hq9 with ⟨r, G1, hq1, rfl, k9, a9⟩ | ⟨hx1, rfl⟩
  · obtain ⟨h9, q90, q91, o938, o924, o925, o922, o923, ag9⟩ := hq1
    obtain rfl := (sint_inj h9).symm
    have AA0 : Agr [38, 24, 25, 22, 23, 28, 29, 30, 31, 32, 33, 34, 35, 36, 37] G G1 := ag9
    have AA1 : Agr [38, 24, 25, 22, 23, 28, 29, 30, 31, 32, 33, 34, 35, 36, 37, 48] G G9 := AA0.tr a9 (by simp) (by simp)
    have BB2 : Agr [48] G1 G9 := a9.wk (by simp)
    refine G_istore C (lo' := [(6, .int 0), (5, .int (nI i)), (4, .ref (ad 49)), (3, .ref (ad 48)), (2, .ref (ad 40)), (1, .ref (ad 0)), (0, .ref b)]) dL_law_1935 (by decide) rfl ?_
    refine G_aload_n C 2 dL_law_1937 rfl rfl ?_
    refine G_callV C (As := []) (rest := []) (c_X9_playR ((a9 40 (by decide)).trans ((ag9 40 (by decide)).trans g40)) ((a9 41 (by decide)).trans ((ag9 41 (by decide)).trans g41)) ((a9 42 (by decide)).trans ((ag9 42 (by decide)).trans g42)) ((a9 44 (by decide)).trans ((ag9 44 (by decide)).trans g44)) ((a9 45 (by decide)).trans ((ag9 45 (by decide)).trans g45)) hn6 hk hL he q90 hP h4) ca_X9_play km_L_245 (by decide) ((a9 40 (by decide)).trans ((ag9 40 (by decide)).trans g40)) rfl rfl rfl rfl (by decide) (Nat.le_of_ble_eq_true rfl) ⟨by show cs + 1 + 0 ≤ 601024; omega, by show ss + 6 + 0 ≤ 7293034; omega⟩ dL_law_1938 (fun vv3 gg4 qq5 => ?_)
    obtain ⟨pf_6, j_7, j_8, j_9, j_10, j_11, j_12, j_13, u_14, u_15, u_16, p_17, p_18, k_19, k_20, k_21, k_22, k_23, k_24, rfl, pp25, hh26, hh27, hh28, hh29, aa30⟩ := qq5
    have AA31 : Agr [38, 24, 25, 22, 23, 28, 29, 30, 31, 32, 33, 34, 35, 36, 37, 48, 40, 41, 42, 44] G gg4 := AA1.tr aa30 (by simp) (by simp)
    have BB32 : Agr [48, 40, 41, 42, 44] G1 gg4 := BB2.tr aa30 (by simp) (by simp)
    refine G_istore C (lo' := [(7, .int ((fRun tx len 60 (0, 0, 0, 0, f, l, ml)).1)), (6, .int 0), (5, .int (nI i)), (4, .ref (ad 49)), (3, .ref (ad 48)), (2, .ref (ad 40)), (1, .ref (ad 0)), (0, .ref b)]) dL_law_1941 (by decide) rfl ?_
    refine G_aload_n C 2 dL_law_1943 rfl rfl ?_
    refine G_callV C (As := []) (rest := []) (c_X9_thrown hh26) ca_X9_thrown km_L_122 (by decide) hh26 rfl rfl rfl rfl (by decide) (Nat.le_of_ble_eq_true rfl) ⟨by show cs + 1 + 0 + 0 ≤ 601024; omega, by show ss + 6 + 0 + 0 ≤ 7293034; omega⟩ dL_law_1944 (fun vv33 gg34 qq35 => ?_)
    obtain ⟨rfl, rfl⟩ := qq35
    refine G_iload C dL_law_1947 rfl ?_
    refine G_icmp_eq C 1954 dL_law_1949 (by decide) (fun _ => ?_) (fun h => absurd h (by decide))
    refine G_iload C dL_law_1954 rfl ?_
    refine G_if_ne C 1971 dL_law_1956 (by decide) (fun h => absurd h (by decide)) (fun _ => ?_)
    refine G_aload_n C 3 dL_law_1959 rfl rfl ?_
    refine G_iconst C (v := 0) dL_law_1960 (by decide) ?_
    refine G_laldN C 48 (by decide) 0 ((aa30 48 (by decide)).trans k9) rfl (by decide) (by omega) dL_law_1961 ?_
    refine GW.toprl (y := ((fRun tx len 60 (0, 0, 0, 0, f, l, ml)).1).toInt64) (pk_uLs) ?_
    refine G_iload C dL_law_1962 rfl ?_
    refine G_i2l C dL_law_1964 rfl ?_
    refine G_lc_eq C 1971 dL_law_1965 dL_law_1966 (by decide) (fun c1965 => ?_) (fun c1965 => False.elim (c1965 (rfl)))
    refine G_goto C 1974 dL_law_1971 (by decide) ?_
    refine GW.pick [2, 3, 4, 5, 6, 7] [(5, .int (nI i)), (4, .ref (ad 49)), (3, .ref (ad 48)), (2, .ref (ad 40)), (1, .ref (ad 0)), (0, .ref b)] rfl ?_
    refine GW.widen (c1 := cs + 3) (s1 := ss + 18) (by show cs + 1 + 0 + 0 ≤ cs + 3; omega) (by show ss + 6 + 0 + 0 ≤ ss + 18; omega) ?_
    exact K _ (LI_mk (hs := hpush hs (f, l, ml)) ((aa30 0 (by decide)).trans ((a9 0 (by decide)).trans ((ag9 0 (by decide)).trans g0))) ((aa30 1 (by decide)).trans ((a9 1 (by decide)).trans ((ag9 1 (by decide)).trans g1))) ((aa30 2 (by decide)).trans ((a9 2 (by decide)).trans ((ag9 2 (by decide)).trans g2))) ((aa30 3 (by decide)).trans ((a9 3 (by decide)).trans ((ag9 3 (by decide)).trans g3))) ((aa30 4 (by decide)).trans ((a9 4 (by decide)).trans ((ag9 4 (by decide)).trans g4))) ((aa30 5 (by decide)).trans ((a9 5 (by decide)).trans ((ag9 5 (by decide)).trans g5))) ((aa30 6 (by decide)).trans ((a9 6 (by decide)).trans ((ag9 6 (by decide)).trans g6))) ((aa30 8 (by decide)).trans ((a9 8 (by decide)).trans ((ag9 8 (by decide)).trans g8))) ((aa30 19 (by decide)).trans ((a9 19 (by decide)).trans ((ag9 19 (by decide)).trans g19))) ((aa30 20 (by decide)).trans ((a9 20 (by decide)).trans ((ag9 20 (by decide)).trans g20))) ((aa30 21 (by decide)).trans ((a9 21 (by decide)).trans ((ag9 21 (by decide)).trans g21))) ((aa30 22 (by decide)).trans ((a9 22 (by decide)).trans o922)) ((aa30 23 (by decide)).trans ((a9 23 (by decide)).trans o923)) ((aa30 24 (by decide)).trans ((a9 24 (by decide)).trans o924)) ((aa30 25 (by decide)).trans ((a9 25 (by decide)).trans o925)) ((aa30 26 (by decide)).trans ((a9 26 (by decide)).trans ((ag9 26 (by decide)).trans g26))) ((aa30 27 (by decide)).trans ((a9 27 (by decide)).trans ((ag9 27 (by decide)).trans g27))) ((aa30 38 (by decide)).trans ((a9 38 (by decide)).trans o938)) ((aa30 39 (by decide)).trans ((a9 39 (by decide)).trans ((ag9 39 (by decide)).trans g39))) hh26 hh27 hh28 ((aa30 43 (by decide)).trans ((a9 43 (by decide)).trans ((ag9 43 (by decide)).trans g43))) hh29 ((aa30 45 (by decide)).trans ((a9 45 (by decide)).trans ((ag9 45 (by decide)).trans g45))) ((aa30 46 (by decide)).trans ((a9 46 (by decide)).trans ((ag9 46 (by decide)).trans g46))) ((aa30 47 (by decide)).trans ((a9 47 (by decide)).trans ((ag9 47 (by decide)).trans g47))) ((aa30 48 (by decide)).trans k9) ((aa30 49 (by decide)).trans ((a9 49 (by decide)).trans ((ag9 49 (by decide)).trans g49))) (q91.keep BB32 (by decide)) (qp_keep hQ AA31 (by decide)) ((fr_all hk hL).2.1) ((fr_all hk hL).2.2) (hp_good hsg hk hL) (pp25) (hp_len h4) (hn6) (htx) (he) (hkp))
  · obtain ⟨-, hz, k938, k924, k925, aX⟩ := hx1
    refine G_istore C (lo' := [(6, .int 1), (5, .int (nI i)), (4, .ref (ad 49)), (3, .ref (ad 48)), (2, .ref (ad 40)), (1, .ref (ad 0)), (0, .ref b)]) dL_law_1935 (by decide) rfl ?_
    refine G_aload_n C 2 dL_law_1937 rfl rfl ?_
    refine G_callV C (As := []) (rest := []) (c_X9_playF ((aX 40 (by decide)).trans g40) ((aX 41 (by decide)).trans g41) ((aX 42 (by decide)).trans g42) ((aX 45 (by decide)).trans g45) hn6 hk hL he hz) ca_X9_play km_L_245 (by decide) ((aX 40 (by decide)).trans g40) rfl rfl rfl rfl (by decide) (Nat.le_of_ble_eq_true rfl) ⟨by show cs + 1 + 0 ≤ 601024; omega, by show ss + 6 + 0 ≤ 7293034; omega⟩ dL_law_1938 (fun vv36 gg37 qq38 => ?_)
    obtain ⟨j_39, j_40, j_41, j_42, j_43, j_44, j_45, u_46, u_47, u_48, p_49, p_50, k_51, k_52, k_53, k_54, k_55, k_56, rfl, hh57, hh58, hh59, aa60⟩ := qq38
    have AA61 : Agr [38, 24, 25, 40, 41, 42] G gg37 := aX.tr aa60 (by simp) (by simp)
    have BB62 : Agr [40, 41, 42] G9 gg37 := aa60.wk (by simp)
    refine G_istore C (lo' := [(7, .int 0), (6, .int 1), (5, .int (nI i)), (4, .ref (ad 49)), (3, .ref (ad 48)), (2, .ref (ad 40)), (1, .ref (ad 0)), (0, .ref b)]) dL_law_1941 (by decide) rfl ?_
    refine G_aload_n C 2 dL_law_1943 rfl rfl ?_
    refine G_callV C (As := []) (rest := []) (c_X9_thrown hh57) ca_X9_thrown km_L_122 (by decide) hh57 rfl rfl rfl rfl (by decide) (Nat.le_of_ble_eq_true rfl) ⟨by show cs + 1 + 0 + 0 ≤ 601024; omega, by show ss + 6 + 0 + 0 ≤ 7293034; omega⟩ dL_law_1944 (fun vv63 gg64 qq65 => ?_)
    obtain ⟨rfl, rfl⟩ := qq65
    refine G_iload C dL_law_1947 rfl ?_
    refine G_icmp_eq C 1954 dL_law_1949 (by decide) (fun _ => ?_) (fun h => absurd h (by decide))
    refine G_iload C dL_law_1954 rfl ?_
    refine G_if_ne C 1971 dL_law_1956 (by decide) (fun _ => ?_) (fun h => absurd h (by decide))
    refine G_goto C 1974 dL_law_1971 (by decide) ?_
    refine GW.pick [2, 3, 4, 5, 6, 7] [(5, .int (nI i)), (4, .ref (ad 49)), (3, .ref (ad 48)), (2, .ref (ad 40)), (1, .ref (ad 0)), (0, .ref b)] rfl ?_
    refine GW.widen (c1 := cs + 3) (s1 := ss + 18) (by show cs + 1 + 0 + 0 ≤ cs + 3; omega) (by show ss + 6 + 0 + 0 ≤ ss + 18; omega) ?_
    exact K _ (LI_mk  ((aa60 0 (by decide)).trans ((aX 0 (by decide)).trans g0)) ((aa60 1 (by decide)).trans ((aX 1 (by decide)).trans g1)) ((aa60 2 (by decide)).trans ((aX 2 (by decide)).trans g2)) ((aa60 3 (by decide)).trans ((aX 3 (by decide)).trans g3)) ((aa60 4 (by decide)).trans ((aX 4 (by decide)).trans g4)) ((aa60 5 (by decide)).trans ((aX 5 (by decide)).trans g5)) ((aa60 6 (by decide)).trans ((aX 6 (by decide)).trans g6)) ((aa60 8 (by decide)).trans ((aX 8 (by decide)).trans g8)) ((aa60 19 (by decide)).trans ((aX 19 (by decide)).trans g19)) ((aa60 20 (by decide)).trans ((aX 20 (by decide)).trans g20)) ((aa60 21 (by decide)).trans ((aX 21 (by decide)).trans g21)) ((aa60 22 (by decide)).trans ((aX 22 (by decide)).trans g22)) ((aa60 23 (by decide)).trans ((aX 23 (by decide)).trans g23)) ((aa60 24 (by decide)).trans k924) ((aa60 25 (by decide)).trans k925) ((aa60 26 (by decide)).trans ((aX 26 (by decide)).trans g26)) ((aa60 27 (by decide)).trans ((aX 27 (by decide)).trans g27)) ((aa60 38 (by decide)).trans k938) ((aa60 39 (by decide)).trans ((aX 39 (by decide)).trans g39)) hh57 hh58 hh59 ((aa60 43 (by decide)).trans ((aX 43 (by decide)).trans g43)) ((aa60 44 (by decide)).trans ((aX 44 (by decide)).trans g44)) ((aa60 45 (by decide)).trans ((aX 45 (by decide)).trans g45)) ((aa60 46 (by decide)).trans ((aX 46 (by decide)).trans g46)) ((aa60 47 (by decide)).trans ((aX 47 (by decide)).trans g47)) ((aa60 48 (by decide)).trans ((aX 48 (by decide)).trans g48)) ((aa60 49 (by decide)).trans ((aX 49 (by decide)).trans g49)) (hH.keep AA61 (by decide)) (qp_keep hQ AA61 (by decide)) (hk) (hL) (hsg) (hP) (h4) (hn6) (htx) (he) (hkp))

