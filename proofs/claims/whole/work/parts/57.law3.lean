set_option maxRecDepth 100000 in
set_option maxHeartbeats 4000000 in
theorem LC_0 {L : GL} {E : GE} {ad : Nat → Nat} {G : Nat → va_E} {cs ss b Ls i : Nat} {xs : Nat → Int32} (C : gC L E cL_law RL 9 room_1) (hX : LWx L E b Ls xs) (hi : i + 3 ≤ Ls) (hLs : Ls ≤ 1536) (hcs : cs + 3 ≤ 601024 ∧ ss + 18 ≤ 7293034) (hI : LI L ad G) (K : ∀ G', LI L ad G' → GW L E 50 ad G' (cs + 3) (ss + 18) 1974 [(5, .int (nI i)), (4, .ref (ad 49)), (3, .ref (ad 48)), (2, .ref (ad 40)), (1, .ref (ad 0)), (0, .ref b)] []) : GW L E 50 ad G cs ss 208 [(5, .int (nI i)), (4, .ref (ad 49)), (3, .ref (ad 48)), (2, .ref (ad 40)), (1, .ref (ad 0)), (0, .ref b)] [] := by
  refine LI_elim hI (fun sn t1 t2 t3 t4 t5 b1 b2 b3 b4 b5 s0 q1 q2 q3 q4 q5 xz l ml f l2 ml2 f2 l3 ml3 f3 hs len od ps rs cu tx ik th m q te fx fy nx ny ux uy us px py sp bg fo le fi re ca f42 f43 pf tm xx yy ov ow g0 g1 g2 g3 g4 g5 g6 g8 g19 g20 g21 g22 g23 g24 g25 g26 g27 g38 g39 g40 g41 g42 g43 g44 g45 g46 g47 g48 g49 hH hQ hk hL hsg hP h4 hn6 htx he hkp => ?_)
  refine G_aload_n C 1 dL_law_208 rfl rfl ?_
  refine G_aload_n C 0 dL_law_209 rfl rfl ?_
  refine G_iload C dL_law_210 rfl ?_
  refine G_iconst C (v := 1) dL_law_212 (by decide) ?_
  refine G_iadd C dL_law_213 ?_
  refine GW.topr (cI_add (a := i) (b := 1) rfl rfl) ?_
  refine G_sld C hX (j := (i + 1)) (by omega) (by omega) dL_law_214 ?_
  refine G_aload_n C 3 dL_law_215 rfl rfl ?_
  refine G_callSH C (As := [.ref (ad 0), .int (xs (i + 1)), .ref (ad 48)]) (rest := []) (w_lay (c_X8_lay g0 g1 g3 g6 g22 g23 hH) g0 (fun v G2 hq => by obtain ⟨rfl, _, _, _, _, ag⟩ := hq; exact ⟨⟨_, rfl⟩, (ag 48 (by decide)).trans g48⟩) (fun e G2 h => h.1.elim (fun z => Or.inl z.1) (fun z => Or.inr z.1))) ca_L_lay km_L_116 rfl rfl (by decide) (Nat.le_of_ble_eq_true rfl) ⟨by show cs + 1 ≤ 601024; omega, by show ss + 6 ≤ 7293034; omega⟩ dL_law_216 (fun vv G9 hq9 => ?_)
  rcases hq9 with ⟨r, G1, hq1, rfl, k9, a9⟩ | ⟨hx1, rfl⟩ | ⟨hx1, rfl⟩
  · obtain ⟨h9, q90, q91, o922, o923, ag9⟩ := hq1
    obtain rfl := (sint_inj h9).symm
    have AA0 : Agr [22, 23, 28, 29, 30, 31, 32, 33, 34, 35, 36, 37] G G1 := ag9
    have AA1 : Agr [22, 23, 28, 29, 30, 31, 32, 33, 34, 35, 36, 37, 48] G G9 := AA0.tr a9 (by simp) (by simp)
    have BB2 : Agr [48] G1 G9 := a9.wk (by simp)
    have hnN : ¬ numF (xs (i + 1)) = 0 := fun z => absurd ((q90).symm.trans (cause_1.mpr z)) (by decide)
    obtain ⟨d, h2, h60, hn⟩ := num_nat hnN
    obtain ⟨hLa, c, h8, hc⟩ := id hL
    have hc0 : causeF f l 108 (nI d) = 0 := by rw [← hn]; exact q90
    have hro := (cause_l hk h2 h60 hLa hc h8).mp hc0
    have hk3 := okH_co (ml := ml) hk hc0
    rw [co_l h60] at hk3
    have hL3 := okL_co (ml := ml) hk hL hc0
    rw [co_l h60] at hL3
    refine G_istore C (lo' := [(6, .int 0), (5, .int (nI i)), (4, .ref (ad 49)), (3, .ref (ad 48)), (2, .ref (ad 40)), (1, .ref (ad 0)), (0, .ref b)]) dL_law_219 (by decide) rfl ?_
    refine G_aload_n C 2 dL_law_221 rfl rfl ?_
    refine G_aload_n C 0 dL_law_222 rfl rfl ?_
    refine G_iload C dL_law_223 rfl ?_
    refine G_iconst C (v := 1) dL_law_225 (by decide) ?_
    refine G_iadd C dL_law_226 ?_
    refine GW.topr (cI_add (a := i) (b := 1) rfl rfl) ?_
    refine G_sld C hX (j := (i + 1)) (by omega) (by omega) dL_law_227 ?_
    refine GW.topr (y := nI d) (hn) ?_
    refine G_callV C (As := [.int (nI d)]) (rest := []) (c_X9_layR (l := l) ((a9 40 (by decide)).trans ((ag9 40 (by decide)).trans g40)) ((a9 41 (by decide)).trans ((ag9 41 (by decide)).trans g41)) ((a9 42 (by decide)).trans ((ag9 42 (by decide)).trans g42)) ((a9 44 (by decide)).trans ((ag9 44 (by decide)).trans g44)) h2 h60 hro hP h4) ca_X9_lay km_L_121 (by decide) ((a9 40 (by decide)).trans ((ag9 40 (by decide)).trans g40)) rfl rfl rfl rfl (by decide) (Nat.le_of_ble_eq_true rfl) ⟨by show cs + 1 + 0 ≤ 601024; omega, by show ss + 6 + 0 ≤ 7293034; omega⟩ dL_law_228 (fun vv3 gg4 qq5 => ?_)
    obtain ⟨pf_6, rfl, pp7, hh8, hh9, hh10, hh11, aa12⟩ := qq5
    have AA13 : Agr [22, 23, 28, 29, 30, 31, 32, 33, 34, 35, 36, 37, 48, 40, 41, 42, 44] G gg4 := AA1.tr aa12 (by simp) (by simp)
    have BB14 : Agr [48, 40, 41, 42, 44] G1 gg4 := BB2.tr aa12 (by simp) (by simp)
    refine G_istore C (lo' := [(7, .int (manyF (upd f d 0) 59)), (6, .int 0), (5, .int (nI i)), (4, .ref (ad 49)), (3, .ref (ad 48)), (2, .ref (ad 40)), (1, .ref (ad 0)), (0, .ref b)]) dL_law_231 (by decide) rfl ?_
    refine G_aload_n C 2 dL_law_233 rfl rfl ?_
    refine G_callV C (As := []) (rest := []) (c_X9_thrown hh8) ca_X9_thrown km_L_122 (by decide) hh8 rfl rfl rfl rfl (by decide) (Nat.le_of_ble_eq_true rfl) ⟨by show cs + 1 + 0 + 0 ≤ 601024; omega, by show ss + 6 + 0 + 0 ≤ 7293034; omega⟩ dL_law_234 (fun vv15 gg16 qq17 => ?_)
    obtain ⟨rfl, rfl⟩ := qq17
    refine G_iload C dL_law_237 rfl ?_
    refine G_icmp_eq C 244 dL_law_239 (by decide) (fun _ => ?_) (fun h => absurd h (by decide))
    refine G_iload C dL_law_244 rfl ?_
    refine G_if_ne C 261 dL_law_246 (by decide) (fun h => absurd h (by decide)) (fun _ => ?_)
    refine G_aload_n C 3 dL_law_249 rfl rfl ?_
    refine G_iconst C (v := 0) dL_law_250 (by decide) ?_
    refine G_laldN C 48 (by decide) 0 ((aa12 48 (by decide)).trans k9) rfl (by decide) (by omega) dL_law_251 ?_
    refine GW.toprl (y := ((coF f l ml 108 (xs (i + 1))).2.1).toInt64) (pk_uLs) ?_
    refine G_iload C dL_law_252 rfl ?_
    refine G_i2l C dL_law_254 rfl ?_
    refine G_lc_eq C 261 dL_law_255 dL_law_256 (by decide) (fun c255 => ?_) (fun c255 => False.elim (c255 (by rw [hn, co_l h60]; exact congrArg Int32.toInt64 hL3.1)))
    refine G_goto C 1974 dL_law_261 (by decide) ?_
    refine GW.pick [2, 3, 4, 5, 6, 7] [(5, .int (nI i)), (4, .ref (ad 49)), (3, .ref (ad 48)), (2, .ref (ad 40)), (1, .ref (ad 0)), (0, .ref b)] rfl ?_
    refine GW.widen (c1 := cs + 3) (s1 := ss + 18) (by show cs + 1 + 0 + 0 ≤ cs + 3; omega) (by show ss + 6 + 0 + 0 ≤ ss + 18; omega) ?_
    exact K _ (LI_mk (hs := hpush hs (f, l, ml)) ((aa12 0 (by decide)).trans ((a9 0 (by decide)).trans ((ag9 0 (by decide)).trans g0))) ((aa12 1 (by decide)).trans ((a9 1 (by decide)).trans ((ag9 1 (by decide)).trans g1))) ((aa12 2 (by decide)).trans ((a9 2 (by decide)).trans ((ag9 2 (by decide)).trans g2))) ((aa12 3 (by decide)).trans ((a9 3 (by decide)).trans ((ag9 3 (by decide)).trans g3))) ((aa12 4 (by decide)).trans ((a9 4 (by decide)).trans ((ag9 4 (by decide)).trans g4))) ((aa12 5 (by decide)).trans ((a9 5 (by decide)).trans ((ag9 5 (by decide)).trans g5))) ((aa12 6 (by decide)).trans ((a9 6 (by decide)).trans ((ag9 6 (by decide)).trans g6))) ((aa12 8 (by decide)).trans ((a9 8 (by decide)).trans ((ag9 8 (by decide)).trans g8))) ((aa12 19 (by decide)).trans ((a9 19 (by decide)).trans ((ag9 19 (by decide)).trans g19))) ((aa12 20 (by decide)).trans ((a9 20 (by decide)).trans ((ag9 20 (by decide)).trans g20))) ((aa12 21 (by decide)).trans ((a9 21 (by decide)).trans ((ag9 21 (by decide)).trans g21))) ((aa12 22 (by decide)).trans (((a9 22 (by decide)).trans o922).trans (by rw [hn, co_l h60]))) ((aa12 23 (by decide)).trans (((a9 23 (by decide)).trans o923).trans (by rw [hn, co_l h60]))) ((aa12 24 (by decide)).trans ((a9 24 (by decide)).trans ((ag9 24 (by decide)).trans g24))) ((aa12 25 (by decide)).trans ((a9 25 (by decide)).trans ((ag9 25 (by decide)).trans g25))) ((aa12 26 (by decide)).trans ((a9 26 (by decide)).trans ((ag9 26 (by decide)).trans g26))) ((aa12 27 (by decide)).trans ((a9 27 (by decide)).trans ((ag9 27 (by decide)).trans g27))) ((aa12 38 (by decide)).trans ((a9 38 (by decide)).trans ((ag9 38 (by decide)).trans g38))) ((aa12 39 (by decide)).trans ((a9 39 (by decide)).trans ((ag9 39 (by decide)).trans g39))) hh8 hh9 hh10 ((aa12 43 (by decide)).trans ((a9 43 (by decide)).trans ((ag9 43 (by decide)).trans g43))) hh11 ((aa12 45 (by decide)).trans ((a9 45 (by decide)).trans ((ag9 45 (by decide)).trans g45))) ((aa12 46 (by decide)).trans ((a9 46 (by decide)).trans ((ag9 46 (by decide)).trans g46))) ((aa12 47 (by decide)).trans ((a9 47 (by decide)).trans ((ag9 47 (by decide)).trans g47))) ((aa12 48 (by decide)).trans k9) ((aa12 49 (by decide)).trans ((a9 49 (by decide)).trans ((ag9 49 (by decide)).trans g49))) (q91.keep BB14 (by decide)) (qp_keep hQ AA13 (by decide)) (hk3) (hL3) (hp_good hsg hk hL) (pp7) (hp_len h4) (hn6) (htx) (he) (hkp))
  · obtain ⟨z9, rfl⟩ := hx1
    have hPx := z9.elim (fun y => y.2) (fun y => absurd y.1 ne_AI)
    have hn0 := cause_1.mp hPx
    refine G_istore C (lo' := [(6, .int 1), (5, .int (nI i)), (4, .ref (ad 49)), (3, .ref (ad 48)), (2, .ref (ad 40)), (1, .ref (ad 0)), (0, .ref b)]) dL_law_219 (by decide) rfl ?_
    refine G_aload_n C 2 dL_law_221 rfl rfl ?_
    refine G_aload_n C 0 dL_law_222 rfl rfl ?_
    refine G_iload C dL_law_223 rfl ?_
    refine G_iconst C (v := 1) dL_law_225 (by decide) ?_
    refine G_iadd C dL_law_226 ?_
    refine GW.topr (cI_add (a := i) (b := 1) rfl rfl) ?_
    refine G_sld C hX (j := (i + 1)) (by omega) (by omega) dL_law_227 ?_
    refine G_callV C (As := [.int (xs (i + 1))]) (rest := []) (c_X9_layA g40 g41 g42 hn0) ca_X9_lay km_L_121 (by decide) g40 rfl rfl rfl rfl (by decide) (Nat.le_of_ble_eq_true rfl) ⟨by show cs + 1 + 0 ≤ 601024; omega, by show ss + 6 + 0 ≤ 7293034; omega⟩ dL_law_228 (fun vv18 gg19 qq20 => ?_)
    obtain ⟨rfl, hh21, hh22, aa23⟩ := qq20
    have AA24 : Agr [40, 42] G gg19 := aa23.wk (by simp)
    refine G_istore C (lo' := [(7, .int 0), (6, .int 1), (5, .int (nI i)), (4, .ref (ad 49)), (3, .ref (ad 48)), (2, .ref (ad 40)), (1, .ref (ad 0)), (0, .ref b)]) dL_law_231 (by decide) rfl ?_
    refine G_aload_n C 2 dL_law_233 rfl rfl ?_
    refine G_callV C (As := []) (rest := []) (c_X9_thrown hh21) ca_X9_thrown km_L_122 (by decide) hh21 rfl rfl rfl rfl (by decide) (Nat.le_of_ble_eq_true rfl) ⟨by show cs + 1 + 0 + 0 ≤ 601024; omega, by show ss + 6 + 0 + 0 ≤ 7293034; omega⟩ dL_law_234 (fun vv25 gg26 qq27 => ?_)
    obtain ⟨rfl, rfl⟩ := qq27
    refine G_iload C dL_law_237 rfl ?_
    refine G_icmp_eq C 244 dL_law_239 (by decide) (fun _ => ?_) (fun h => absurd h (by decide))
    refine G_iload C dL_law_244 rfl ?_
    refine G_if_ne C 261 dL_law_246 (by decide) (fun _ => ?_) (fun h => absurd h (by decide))
    refine G_goto C 1974 dL_law_261 (by decide) ?_
    refine GW.pick [2, 3, 4, 5, 6, 7] [(5, .int (nI i)), (4, .ref (ad 49)), (3, .ref (ad 48)), (2, .ref (ad 40)), (1, .ref (ad 0)), (0, .ref b)] rfl ?_
    refine GW.widen (c1 := cs + 3) (s1 := ss + 18) (by show cs + 1 + 0 + 0 ≤ cs + 3; omega) (by show ss + 6 + 0 + 0 ≤ ss + 18; omega) ?_
    exact K _ (LI_mk  ((aa23 0 (by decide)).trans g0) ((aa23 1 (by decide)).trans g1) ((aa23 2 (by decide)).trans g2) ((aa23 3 (by decide)).trans g3) ((aa23 4 (by decide)).trans g4) ((aa23 5 (by decide)).trans g5) ((aa23 6 (by decide)).trans g6) ((aa23 8 (by decide)).trans g8) ((aa23 19 (by decide)).trans g19) ((aa23 20 (by decide)).trans g20) ((aa23 21 (by decide)).trans g21) ((aa23 22 (by decide)).trans g22) ((aa23 23 (by decide)).trans g23) ((aa23 24 (by decide)).trans g24) ((aa23 25 (by decide)).trans g25) ((aa23 26 (by decide)).trans g26) ((aa23 27 (by decide)).trans g27) ((aa23 38 (by decide)).trans g38) ((aa23 39 (by decide)).trans g39) hh21 ((aa23 41 (by decide)).trans g41) hh22 ((aa23 43 (by decide)).trans g43) ((aa23 44 (by decide)).trans g44) ((aa23 45 (by decide)).trans g45) ((aa23 46 (by decide)).trans g46) ((aa23 47 (by decide)).trans g47) ((aa23 48 (by decide)).trans g48) ((aa23 49 (by decide)).trans g49) (hH.keep AA24 (by decide)) (qp_keep hQ AA24 (by decide)) (hk) (hL) (hsg) (hP) (h4) (hn6) (htx) (he) (hkp))
  · obtain ⟨z9, rfl⟩ := hx1
    have hPx := z9.elim (fun y => absurd y.1 ne_IA) (fun y => y.2)
    obtain ⟨d, h2, h60, hn⟩ := num_nat (n := xs (i + 1)) (fun z => hPx.1 (cause_1.mpr z))
    obtain ⟨hLa, c, h8, hc⟩ := id hL
    have hro : ¬ rsF f d ≤ 0 := fun z => hPx.2 (by rw [hn]; exact (cause_l hk h2 h60 hLa hc h8).mpr z)
    refine G_istore C (lo' := [(6, .int 2), (5, .int (nI i)), (4, .ref (ad 49)), (3, .ref (ad 48)), (2, .ref (ad 40)), (1, .ref (ad 0)), (0, .ref b)]) dL_law_219 (by decide) rfl ?_
    refine G_aload_n C 2 dL_law_221 rfl rfl ?_
    refine G_aload_n C 0 dL_law_222 rfl rfl ?_
    refine G_iload C dL_law_223 rfl ?_
    refine G_iconst C (v := 1) dL_law_225 (by decide) ?_
    refine G_iadd C dL_law_226 ?_
    refine GW.topr (cI_add (a := i) (b := 1) rfl rfl) ?_
    refine G_sld C hX (j := (i + 1)) (by omega) (by omega) dL_law_227 ?_
    refine GW.topr (y := nI d) (hn) ?_
    refine G_callV C (As := [.int (nI d)]) (rest := []) (c_X9_layS g40 g41 g42 h2 h60 hro) ca_X9_lay km_L_121 (by decide) g40 rfl rfl rfl rfl (by decide) (Nat.le_of_ble_eq_true rfl) ⟨by show cs + 1 + 0 ≤ 601024; omega, by show ss + 6 + 0 ≤ 7293034; omega⟩ dL_law_228 (fun vv28 gg29 qq30 => ?_)
    obtain ⟨rfl, hh31, hh32, aa33⟩ := qq30
    have AA34 : Agr [40, 42] G gg29 := aa33.wk (by simp)
    refine G_istore C (lo' := [(7, .int 0), (6, .int 2), (5, .int (nI i)), (4, .ref (ad 49)), (3, .ref (ad 48)), (2, .ref (ad 40)), (1, .ref (ad 0)), (0, .ref b)]) dL_law_231 (by decide) rfl ?_
    refine G_aload_n C 2 dL_law_233 rfl rfl ?_
    refine G_callV C (As := []) (rest := []) (c_X9_thrown hh31) ca_X9_thrown km_L_122 (by decide) hh31 rfl rfl rfl rfl (by decide) (Nat.le_of_ble_eq_true rfl) ⟨by show cs + 1 + 0 + 0 ≤ 601024; omega, by show ss + 6 + 0 + 0 ≤ 7293034; omega⟩ dL_law_234 (fun vv35 gg36 qq37 => ?_)
    obtain ⟨rfl, rfl⟩ := qq37
    refine G_iload C dL_law_237 rfl ?_
    refine G_icmp_eq C 244 dL_law_239 (by decide) (fun _ => ?_) (fun h => absurd h (by decide))
    refine G_iload C dL_law_244 rfl ?_
    refine G_if_ne C 261 dL_law_246 (by decide) (fun _ => ?_) (fun h => absurd h (by decide))
    refine G_goto C 1974 dL_law_261 (by decide) ?_
    refine GW.pick [2, 3, 4, 5, 6, 7] [(5, .int (nI i)), (4, .ref (ad 49)), (3, .ref (ad 48)), (2, .ref (ad 40)), (1, .ref (ad 0)), (0, .ref b)] rfl ?_
    refine GW.widen (c1 := cs + 3) (s1 := ss + 18) (by show cs + 1 + 0 + 0 ≤ cs + 3; omega) (by show ss + 6 + 0 + 0 ≤ ss + 18; omega) ?_
    exact K _ (LI_mk  ((aa33 0 (by decide)).trans g0) ((aa33 1 (by decide)).trans g1) ((aa33 2 (by decide)).trans g2) ((aa33 3 (by decide)).trans g3) ((aa33 4 (by decide)).trans g4) ((aa33 5 (by decide)).trans g5) ((aa33 6 (by decide)).trans g6) ((aa33 8 (by decide)).trans g8) ((aa33 19 (by decide)).trans g19) ((aa33 20 (by decide)).trans g20) ((aa33 21 (by decide)).trans g21) ((aa33 22 (by decide)).trans g22) ((aa33 23 (by decide)).trans g23) ((aa33 24 (by decide)).trans g24) ((aa33 25 (by decide)).trans g25) ((aa33 26 (by decide)).trans g26) ((aa33 27 (by decide)).trans g27) ((aa33 38 (by decide)).trans g38) ((aa33 39 (by decide)).trans g39) hh31 ((aa33 41 (by decide)).trans g41) hh32 ((aa33 43 (by decide)).trans g43) ((aa33 44 (by decide)).trans g44) ((aa33 45 (by decide)).trans g45) ((aa33 46 (by decide)).trans g46) ((aa33 47 (by decide)).trans g47) ((aa33 48 (by decide)).trans g48) ((aa33 49 (by decide)).trans g49) (hH.keep AA34 (by decide)) (qp_keep hQ AA34 (by decide)) (hk) (hL) (hsg) (hP) (h4) (hn6) (htx) (he) (hkp))

set_option maxRecDepth 100000 in
set_option maxHeartbeats 4000000 in
theorem LC_1 {L : GL} {E : GE} {ad : Nat → Nat} {G : Nat → va_E} {cs ss b Ls i : Nat} {xs : Nat → Int32} (C : gC L E cL_law RL 9 room_1) (hX : LWx L E b Ls xs) (hi : i + 3 ≤ Ls) (hLs : Ls ≤ 1536) (hcs : cs + 3 ≤ 601024 ∧ ss + 18 ≤ 7293034) (hI : LI L ad G) (K : ∀ G', LI L ad G' → GW L E 50 ad G' (cs + 3) (ss + 18) 1974 [(5, .int (nI i)), (4, .ref (ad 49)), (3, .ref (ad 48)), (2, .ref (ad 40)), (1, .ref (ad 0)), (0, .ref b)] []) : GW L E 50 ad G cs ss 264 [(5, .int (nI i)), (4, .ref (ad 49)), (3, .ref (ad 48)), (2, .ref (ad 40)), (1, .ref (ad 0)), (0, .ref b)] [] := by
  refine LI_elim hI (fun sn t1 t2 t3 t4 t5 b1 b2 b3 b4 b5 s0 q1 q2 q3 q4 q5 xz l ml f l2 ml2 f2 l3 ml3 f3 hs len od ps rs cu tx ik th m q te fx fy nx ny ux uy us px py sp bg fo le fi re ca f42 f43 pf tm xx yy ov ow g0 g1 g2 g3 g4 g5 g6 g8 g19 g20 g21 g22 g23 g24 g25 g26 g27 g38 g39 g40 g41 g42 g43 g44 g45 g46 g47 g48 g49 hH hQ hk hL hsg hP h4 hn6 htx he hkp => ?_)
  refine G_aload_n C 1 dL_law_264 rfl rfl ?_
  refine G_aload_n C 0 dL_law_265 rfl rfl ?_
  refine G_iload C dL_law_266 rfl ?_
  refine G_iconst C (v := 1) dL_law_268 (by decide) ?_
  refine G_iadd C dL_law_269 ?_
  refine GW.topr (cI_add (a := i) (b := 1) rfl rfl) ?_
  refine G_sld C hX (j := (i + 1)) (by omega) (by omega) dL_law_270 ?_
  refine G_aload_n C 3 dL_law_271 rfl rfl ?_
  refine G_callSH C (As := [.ref (ad 0), .int (xs (i + 1)), .ref (ad 48)]) (rest := []) (w_take (c_X8_take g0 g1 g3 g6 g22 g23 hH) g0 (fun v G2 hq => by obtain ⟨rfl, _, _, _, _, ag⟩ := hq; exact ⟨⟨_, rfl⟩, (ag 48 (by decide)).trans g48⟩) (fun e G2 h => h.1.elim (fun z => Or.inl z.1) (fun z => Or.inr z.1))) ca_L_take km_L_125 rfl rfl (by decide) (Nat.le_of_ble_eq_true rfl) ⟨by show cs + 1 ≤ 601024; omega, by show ss + 6 ≤ 7293034; omega⟩ dL_law_272 (fun vv G9 hq9 => ?_)
  rcases hq9 with ⟨r, G1, hq1, rfl, k9, a9⟩ | ⟨hx1, rfl⟩ | ⟨hx1, rfl⟩
  · obtain ⟨h9, q90, q91, o922, o923, ag9⟩ := hq1
    obtain rfl := (sint_inj h9).symm
    have AA0 : Agr [22, 23, 28, 29, 30, 31, 32, 33, 34, 35, 36, 37] G G1 := ag9
    have AA1 : Agr [22, 23, 28, 29, 30, 31, 32, 33, 34, 35, 36, 37, 48] G G9 := AA0.tr a9 (by simp) (by simp)
    have BB2 : Agr [48] G1 G9 := a9.wk (by simp)
    have hnN : ¬ numF (xs (i + 1)) = 0 := fun z => absurd ((q90).symm.trans (cause_1.mpr z)) (by decide)
    obtain ⟨d, h2, h60, hn⟩ := num_nat hnN
    have hc0 : causeF f l 116 (nI d) = 0 := by rw [← hn]; exact q90
    have hro := (cause_t hk h2 h60).mp hc0
    obtain ⟨hp, h, hg, hf⟩ := has_h hk h2 h60 (Int32.not_lt.mpr hro)
    have hk3 := okH_co (ml := ml) hk hc0
    rw [co_t h60] at hk3
    have hL3 := okL_co (ml := ml) hk hL hc0
    rw [co_t h60] at hL3
    refine G_istore C (lo' := [(6, .int 0), (5, .int (nI i)), (4, .ref (ad 49)), (3, .ref (ad 48)), (2, .ref (ad 40)), (1, .ref (ad 0)), (0, .ref b)]) dL_law_275 (by decide) rfl ?_
    refine G_aload_n C 2 dL_law_277 rfl rfl ?_
    refine G_aload_n C 0 dL_law_278 rfl rfl ?_
    refine G_iload C dL_law_279 rfl ?_
    refine G_iconst C (v := 1) dL_law_281 (by decide) ?_
    refine G_iadd C dL_law_282 ?_
    refine GW.topr (cI_add (a := i) (b := 1) rfl rfl) ?_
    refine G_sld C hX (j := (i + 1)) (by omega) (by omega) dL_law_283 ?_
    refine GW.topr (y := nI d) (hn) ?_
    refine G_callV C (As := [.int (nI d)]) (rest := []) (c_X9_takeR (l := l) ((a9 40 (by decide)).trans ((ag9 40 (by decide)).trans g40)) ((a9 41 (by decide)).trans ((ag9 41 (by decide)).trans g41)) ((a9 42 (by decide)).trans ((ag9 42 (by decide)).trans g42)) ((a9 44 (by decide)).trans ((ag9 44 (by decide)).trans g44)) h2 h60 hg hf hP h4) ca_X9_take km_L_127 (by decide) ((a9 40 (by decide)).trans ((ag9 40 (by decide)).trans g40)) rfl rfl rfl rfl (by decide) (Nat.le_of_ble_eq_true rfl) ⟨by show cs + 1 + 0 ≤ 601024; omega, by show ss + 6 + 0 ≤ 7293034; omega⟩ dL_law_284 (fun vv3 gg4 qq5 => ?_)
    obtain ⟨pf_6, rfl, pp7, hh8, hh9, hh10, hh11, aa12⟩ := qq5
    have AA13 : Agr [22, 23, 28, 29, 30, 31, 32, 33, 34, 35, 36, 37, 48, 40, 41, 42, 44] G gg4 := AA1.tr aa12 (by simp) (by simp)
    have BB14 : Agr [48, 40, 41, 42, 44] G1 gg4 := BB2.tr aa12 (by simp) (by simp)
    refine G_istore C (lo' := [(7, .int (f d)), (6, .int 0), (5, .int (nI i)), (4, .ref (ad 49)), (3, .ref (ad 48)), (2, .ref (ad 40)), (1, .ref (ad 0)), (0, .ref b)]) dL_law_287 (by decide) rfl ?_
    refine G_aload_n C 2 dL_law_289 rfl rfl ?_
    refine G_callV C (As := []) (rest := []) (c_X9_thrown hh8) ca_X9_thrown km_L_122 (by decide) hh8 rfl rfl rfl rfl (by decide) (Nat.le_of_ble_eq_true rfl) ⟨by show cs + 1 + 0 + 0 ≤ 601024; omega, by show ss + 6 + 0 + 0 ≤ 7293034; omega⟩ dL_law_290 (fun vv15 gg16 qq17 => ?_)
    obtain ⟨rfl, rfl⟩ := qq17
    refine G_iload C dL_law_293 rfl ?_
    refine G_icmp_eq C 300 dL_law_295 (by decide) (fun _ => ?_) (fun h => absurd h (by decide))
    refine G_iload C dL_law_300 rfl ?_
    refine G_if_ne C 317 dL_law_302 (by decide) (fun h => absurd h (by decide)) (fun _ => ?_)
    refine G_aload_n C 3 dL_law_305 rfl rfl ?_
    refine G_iconst C (v := 0) dL_law_306 (by decide) ?_
    refine G_laldN C 48 (by decide) 0 ((aa12 48 (by decide)).trans k9) rfl (by decide) (by omega) dL_law_307 ?_
    refine GW.toprl (y := (hOf f (xs (i + 1))).toInt64) (pk_uLs) ?_
    refine G_iload C dL_law_308 rfl ?_
    refine G_i2l C dL_law_310 rfl ?_
    refine G_lc_eq C 317 dL_law_311 dL_law_312 (by decide) (fun c311 => ?_) (fun c311 => False.elim (c311 (by rw [hn, hOf_d f (by omega)])))
    refine G_goto C 1974 dL_law_317 (by decide) ?_
    refine GW.pick [2, 3, 4, 5, 6, 7] [(5, .int (nI i)), (4, .ref (ad 49)), (3, .ref (ad 48)), (2, .ref (ad 40)), (1, .ref (ad 0)), (0, .ref b)] rfl ?_
    refine GW.widen (c1 := cs + 3) (s1 := ss + 18) (by show cs + 1 + 0 + 0 ≤ cs + 3; omega) (by show ss + 6 + 0 + 0 ≤ ss + 18; omega) ?_
    exact K _ (LI_mk (hs := hpush hs (f, l, ml)) ((aa12 0 (by decide)).trans ((a9 0 (by decide)).trans ((ag9 0 (by decide)).trans g0))) ((aa12 1 (by decide)).trans ((a9 1 (by decide)).trans ((ag9 1 (by decide)).trans g1))) ((aa12 2 (by decide)).trans ((a9 2 (by decide)).trans ((ag9 2 (by decide)).trans g2))) ((aa12 3 (by decide)).trans ((a9 3 (by decide)).trans ((ag9 3 (by decide)).trans g3))) ((aa12 4 (by decide)).trans ((a9 4 (by decide)).trans ((ag9 4 (by decide)).trans g4))) ((aa12 5 (by decide)).trans ((a9 5 (by decide)).trans ((ag9 5 (by decide)).trans g5))) ((aa12 6 (by decide)).trans ((a9 6 (by decide)).trans ((ag9 6 (by decide)).trans g6))) ((aa12 8 (by decide)).trans ((a9 8 (by decide)).trans ((ag9 8 (by decide)).trans g8))) ((aa12 19 (by decide)).trans ((a9 19 (by decide)).trans ((ag9 19 (by decide)).trans g19))) ((aa12 20 (by decide)).trans ((a9 20 (by decide)).trans ((ag9 20 (by decide)).trans g20))) ((aa12 21 (by decide)).trans ((a9 21 (by decide)).trans ((ag9 21 (by decide)).trans g21))) ((aa12 22 (by decide)).trans (((a9 22 (by decide)).trans o922).trans (by rw [hn, co_t h60]))) ((aa12 23 (by decide)).trans (((a9 23 (by decide)).trans o923).trans (by rw [hn, co_t h60]))) ((aa12 24 (by decide)).trans ((a9 24 (by decide)).trans ((ag9 24 (by decide)).trans g24))) ((aa12 25 (by decide)).trans ((a9 25 (by decide)).trans ((ag9 25 (by decide)).trans g25))) ((aa12 26 (by decide)).trans ((a9 26 (by decide)).trans ((ag9 26 (by decide)).trans g26))) ((aa12 27 (by decide)).trans ((a9 27 (by decide)).trans ((ag9 27 (by decide)).trans g27))) ((aa12 38 (by decide)).trans ((a9 38 (by decide)).trans ((ag9 38 (by decide)).trans g38))) ((aa12 39 (by decide)).trans ((a9 39 (by decide)).trans ((ag9 39 (by decide)).trans g39))) hh8 hh9 hh10 ((aa12 43 (by decide)).trans ((a9 43 (by decide)).trans ((ag9 43 (by decide)).trans g43))) hh11 ((aa12 45 (by decide)).trans ((a9 45 (by decide)).trans ((ag9 45 (by decide)).trans g45))) ((aa12 46 (by decide)).trans ((a9 46 (by decide)).trans ((ag9 46 (by decide)).trans g46))) ((aa12 47 (by decide)).trans ((a9 47 (by decide)).trans ((ag9 47 (by decide)).trans g47))) ((aa12 48 (by decide)).trans k9) ((aa12 49 (by decide)).trans ((a9 49 (by decide)).trans ((ag9 49 (by decide)).trans g49))) (q91.keep BB14 (by decide)) (qp_keep hQ AA13 (by decide)) (hk3) (hL3) (hp_good hsg hk hL) (pp7) (hp_len h4) (hn6) (htx) (he) (hkp))
  · obtain ⟨z9, rfl⟩ := hx1
    have hPx := z9.elim (fun y => y.2) (fun y => absurd y.1 ne_AI)
    have hn0 := cause_1.mp hPx
    refine G_istore C (lo' := [(6, .int 1), (5, .int (nI i)), (4, .ref (ad 49)), (3, .ref (ad 48)), (2, .ref (ad 40)), (1, .ref (ad 0)), (0, .ref b)]) dL_law_275 (by decide) rfl ?_
    refine G_aload_n C 2 dL_law_277 rfl rfl ?_
    refine G_aload_n C 0 dL_law_278 rfl rfl ?_
    refine G_iload C dL_law_279 rfl ?_
    refine G_iconst C (v := 1) dL_law_281 (by decide) ?_
    refine G_iadd C dL_law_282 ?_
    refine GW.topr (cI_add (a := i) (b := 1) rfl rfl) ?_
    refine G_sld C hX (j := (i + 1)) (by omega) (by omega) dL_law_283 ?_
    refine G_callV C (As := [.int (xs (i + 1))]) (rest := []) (c_X9_takeA g40 g41 g42 hn0) ca_X9_take km_L_127 (by decide) g40 rfl rfl rfl rfl (by decide) (Nat.le_of_ble_eq_true rfl) ⟨by show cs + 1 + 0 ≤ 601024; omega, by show ss + 6 + 0 ≤ 7293034; omega⟩ dL_law_284 (fun vv18 gg19 qq20 => ?_)
    obtain ⟨rfl, hh21, hh22, aa23⟩ := qq20
    have AA24 : Agr [40, 42] G gg19 := aa23.wk (by simp)
    refine G_istore C (lo' := [(7, .int 0), (6, .int 1), (5, .int (nI i)), (4, .ref (ad 49)), (3, .ref (ad 48)), (2, .ref (ad 40)), (1, .ref (ad 0)), (0, .ref b)]) dL_law_287 (by decide) rfl ?_
    refine G_aload_n C 2 dL_law_289 rfl rfl ?_
    refine G_callV C (As := []) (rest := []) (c_X9_thrown hh21) ca_X9_thrown km_L_122 (by decide) hh21 rfl rfl rfl rfl (by decide) (Nat.le_of_ble_eq_true rfl) ⟨by show cs + 1 + 0 + 0 ≤ 601024; omega, by show ss + 6 + 0 + 0 ≤ 7293034; omega⟩ dL_law_290 (fun vv25 gg26 qq27 => ?_)
    obtain ⟨rfl, rfl⟩ := qq27
    refine G_iload C dL_law_293 rfl ?_
    refine G_icmp_eq C 300 dL_law_295 (by decide) (fun _ => ?_) (fun h => absurd h (by decide))
    refine G_iload C dL_law_300 rfl ?_
    refine G_if_ne C 317 dL_law_302 (by decide) (fun _ => ?_) (fun h => absurd h (by decide))
    refine G_goto C 1974 dL_law_317 (by decide) ?_
    refine GW.pick [2, 3, 4, 5, 6, 7] [(5, .int (nI i)), (4, .ref (ad 49)), (3, .ref (ad 48)), (2, .ref (ad 40)), (1, .ref (ad 0)), (0, .ref b)] rfl ?_
    refine GW.widen (c1 := cs + 3) (s1 := ss + 18) (by show cs + 1 + 0 + 0 ≤ cs + 3; omega) (by show ss + 6 + 0 + 0 ≤ ss + 18; omega) ?_
    exact K _ (LI_mk  ((aa23 0 (by decide)).trans g0) ((aa23 1 (by decide)).trans g1) ((aa23 2 (by decide)).trans g2) ((aa23 3 (by decide)).trans g3) ((aa23 4 (by decide)).trans g4) ((aa23 5 (by decide)).trans g5) ((aa23 6 (by decide)).trans g6) ((aa23 8 (by decide)).trans g8) ((aa23 19 (by decide)).trans g19) ((aa23 20 (by decide)).trans g20) ((aa23 21 (by decide)).trans g21) ((aa23 22 (by decide)).trans g22) ((aa23 23 (by decide)).trans g23) ((aa23 24 (by decide)).trans g24) ((aa23 25 (by decide)).trans g25) ((aa23 26 (by decide)).trans g26) ((aa23 27 (by decide)).trans g27) ((aa23 38 (by decide)).trans g38) ((aa23 39 (by decide)).trans g39) hh21 ((aa23 41 (by decide)).trans g41) hh22 ((aa23 43 (by decide)).trans g43) ((aa23 44 (by decide)).trans g44) ((aa23 45 (by decide)).trans g45) ((aa23 46 (by decide)).trans g46) ((aa23 47 (by decide)).trans g47) ((aa23 48 (by decide)).trans g48) ((aa23 49 (by decide)).trans g49) (hH.keep AA24 (by decide)) (qp_keep hQ AA24 (by decide)) (hk) (hL) (hsg) (hP) (h4) (hn6) (htx) (he) (hkp))
  · obtain ⟨z9, rfl⟩ := hx1
    have hPx := z9.elim (fun y => absurd y.1 ne_IA) (fun y => y.2)
    obtain ⟨d, h2, h60, hn⟩ := num_nat (n := xs (i + 1)) (fun z => hPx.1 (cause_1.mpr z))
    have hro : f d < 0 := Int32.not_le.mp (fun z => hPx.2 (by rw [hn]; exact (cause_t hk h2 h60).mpr z))
    refine G_istore C (lo' := [(6, .int 2), (5, .int (nI i)), (4, .ref (ad 49)), (3, .ref (ad 48)), (2, .ref (ad 40)), (1, .ref (ad 0)), (0, .ref b)]) dL_law_275 (by decide) rfl ?_
    refine G_aload_n C 2 dL_law_277 rfl rfl ?_
    refine G_aload_n C 0 dL_law_278 rfl rfl ?_
    refine G_iload C dL_law_279 rfl ?_
    refine G_iconst C (v := 1) dL_law_281 (by decide) ?_
    refine G_iadd C dL_law_282 ?_
    refine GW.topr (cI_add (a := i) (b := 1) rfl rfl) ?_
    refine G_sld C hX (j := (i + 1)) (by omega) (by omega) dL_law_283 ?_
    refine GW.topr (y := nI d) (hn) ?_
    refine G_callV C (As := [.int (nI d)]) (rest := []) (c_X9_takeS g40 g41 g42 h2 h60 hro) ca_X9_take km_L_127 (by decide) g40 rfl rfl rfl rfl (by decide) (Nat.le_of_ble_eq_true rfl) ⟨by show cs + 1 + 0 ≤ 601024; omega, by show ss + 6 + 0 ≤ 7293034; omega⟩ dL_law_284 (fun vv28 gg29 qq30 => ?_)
    obtain ⟨rfl, hh31, hh32, aa33⟩ := qq30
    have AA34 : Agr [40, 42] G gg29 := aa33.wk (by simp)
    refine G_istore C (lo' := [(7, .int 0), (6, .int 2), (5, .int (nI i)), (4, .ref (ad 49)), (3, .ref (ad 48)), (2, .ref (ad 40)), (1, .ref (ad 0)), (0, .ref b)]) dL_law_287 (by decide) rfl ?_
    refine G_aload_n C 2 dL_law_289 rfl rfl ?_
    refine G_callV C (As := []) (rest := []) (c_X9_thrown hh31) ca_X9_thrown km_L_122 (by decide) hh31 rfl rfl rfl rfl (by decide) (Nat.le_of_ble_eq_true rfl) ⟨by show cs + 1 + 0 + 0 ≤ 601024; omega, by show ss + 6 + 0 + 0 ≤ 7293034; omega⟩ dL_law_290 (fun vv35 gg36 qq37 => ?_)
    obtain ⟨rfl, rfl⟩ := qq37
    refine G_iload C dL_law_293 rfl ?_
    refine G_icmp_eq C 300 dL_law_295 (by decide) (fun _ => ?_) (fun h => absurd h (by decide))
    refine G_iload C dL_law_300 rfl ?_
    refine G_if_ne C 317 dL_law_302 (by decide) (fun _ => ?_) (fun h => absurd h (by decide))
    refine G_goto C 1974 dL_law_317 (by decide) ?_
    refine GW.pick [2, 3, 4, 5, 6, 7] [(5, .int (nI i)), (4, .ref (ad 49)), (3, .ref (ad 48)), (2, .ref (ad 40)), (1, .ref (ad 0)), (0, .ref b)] rfl ?_
    refine GW.widen (c1 := cs + 3) (s1 := ss + 18) (by show cs + 1 + 0 + 0 ≤ cs + 3; omega) (by show ss + 6 + 0 + 0 ≤ ss + 18; omega) ?_
    exact K _ (LI_mk  ((aa33 0 (by decide)).trans g0) ((aa33 1 (by decide)).trans g1) ((aa33 2 (by decide)).trans g2) ((aa33 3 (by decide)).trans g3) ((aa33 4 (by decide)).trans g4) ((aa33 5 (by decide)).trans g5) ((aa33 6 (by decide)).trans g6) ((aa33 8 (by decide)).trans g8) ((aa33 19 (by decide)).trans g19) ((aa33 20 (by decide)).trans g20) ((aa33 21 (by decide)).trans g21) ((aa33 22 (by decide)).trans g22) ((aa33 23 (by decide)).trans g23) ((aa33 24 (by decide)).trans g24) ((aa33 25 (by decide)).trans g25) ((aa33 26 (by decide)).trans g26) ((aa33 27 (by decide)).trans g27) ((aa33 38 (by decide)).trans g38) ((aa33 39 (by decide)).trans g39) hh31 ((aa33 41 (by decide)).trans g41) hh32 ((aa33 43 (by decide)).trans g43) ((aa33 44 (by decide)).trans g44) ((aa33 45 (by decide)).trans g45) ((aa33 46 (by decide)).trans g46) ((aa33 47 (by decide)).trans g47) ((aa33 48 (by decide)).trans g48) ((aa33 49 (by decide)).trans g49) (hH.keep AA34 (by decide)) (qp_keep hQ AA34 (by decide)) (hk) (hL) (hsg) (hP) (h4) (hn6) (htx) (he) (hkp))

set_option maxRecDepth 100000 in
set_option maxHeartbeats 4000000 in
theorem LC_2 {L : GL} {E : GE} {ad : Nat → Nat} {G : Nat → va_E} {cs ss b Ls i : Nat} {xs : Nat → Int32} (C : gC L E cL_law RL 9 room_1) (hX : LWx L E b Ls xs) (hi : i + 3 ≤ Ls) (hLs : Ls ≤ 1536) (hcs : cs + 3 ≤ 601024 ∧ ss + 18 ≤ 7293034) (hI : LI L ad G) (K : ∀ G', LI L ad G' → GW L E 50 ad G' (cs + 3) (ss + 18) 1974 [(5, .int (nI i)), (4, .ref (ad 49)), (3, .ref (ad 48)), (2, .ref (ad 40)), (1, .ref (ad 0)), (0, .ref b)] []) : GW L E 50 ad G cs ss 320 [(5, .int (nI i)), (4, .ref (ad 49)), (3, .ref (ad 48)), (2, .ref (ad 40)), (1, .ref (ad 0)), (0, .ref b)] [] := by
  refine LI_elim hI (fun sn t1 t2 t3 t4 t5 b1 b2 b3 b4 b5 s0 q1 q2 q3 q4 q5 xz l ml f l2 ml2 f2 l3 ml3 f3 hs len od ps rs cu tx ik th m q te fx fy nx ny ux uy us px py sp bg fo le fi re ca f42 f43 pf tm xx yy ov ow g0 g1 g2 g3 g4 g5 g6 g8 g19 g20 g21 g22 g23 g24 g25 g26 g27 g38 g39 g40 g41 g42 g43 g44 g45 g46 g47 g48 g49 hH hQ hk hL hsg hP h4 hn6 htx he hkp => ?_)
  refine G_aload_n C 1 dL_law_320 rfl rfl ?_
  refine G_aload_n C 0 dL_law_321 rfl rfl ?_
  refine G_iload C dL_law_322 rfl ?_
  refine G_iconst C (v := 1) dL_law_324 (by decide) ?_
  refine G_iadd C dL_law_325 ?_
  refine GW.topr (cI_add (a := i) (b := 1) rfl rfl) ?_
  refine G_sld C hX (j := (i + 1)) (by omega) (by omega) dL_law_326 ?_
  refine G_aload_n C 3 dL_law_327 rfl rfl ?_
  refine G_callSH C (As := [.ref (ad 0), .int (xs (i + 1)), .ref (ad 48)]) (rest := []) (w_mill (c_X8_mill g0 g1 g3 g6 g22 g23 g4 g5 g8 hH hk) g0 (fun v G2 hq => by obtain ⟨d, h, rfl, _, _, _, _, _, _, _, _, _, _, _, ag⟩ := hq; exact ⟨⟨_, rfl⟩, (ag 48 (by decide)).trans g48⟩) (fun e G2 h => h.1.elim (fun z => Or.inl z.1) (fun z => Or.inr z.1))) ca_L_mill km_L_128 rfl rfl (by decide) (Nat.le_of_ble_eq_true rfl) ⟨by show cs + 1 ≤ 601024; omega, by show ss + 6 ≤ 7293034; omega⟩ dL_law_328 (fun vv G9 hq9 => ?_)
  rcases hq9 with ⟨r, G1, hq1, rfl, k9, a9⟩ | ⟨hx1, rfl⟩ | ⟨hx1, rfl⟩
  · obtain ⟨d, h, h9, q90, q91, q92, q93, q94, q95, q96, q97, o922, o923, o98, ag9⟩ := hq1
    obtain rfl := (slong_inj h9).symm
    have AA0 : Agr [22, 23, 28, 29, 30, 31, 32, 33, 34, 35, 36, 37, 8] G G1 := ag9
    have AA1 : Agr [22, 23, 28, 29, 30, 31, 32, 33, 34, 35, 36, 37, 8, 48] G G9 := AA0.tr a9 (by simp) (by simp)
    have BB2 : Agr [48] G1 G9 := a9.wk (by simp)
    have h60 := q94
    have hc0 : causeF f l 109 (nI d) = 0 := by rw [← q92]; exact q90
    have hf1 : ¬ f d = -1 := fun z => absurd (hc0.symm.trans (cause_m0 q93 h60 z)) (by decide)
    obtain ⟨hp, h0, hg0, hf0⟩ := has_d hk q93 h60 hf1
    have hro := (cause_m hk q93 h60 hg0 hf0).mp hc0
    have e9 := co_m (l := l) (ml := ml) h60 hf0
    have hh : h0 + 1 = h := by have z := q97; rw [q92, e9] at z; exact nI_inj (by have := gp_lt d (by omega); omega) (by have := gp_lt d (by omega); have := q96; omega) (upd_d.symm.trans z)
    have hk3 := okH_co (ml := ml) hk hc0
    rw [e9] at hk3
    have hL3 := okL_co (ml := ml) hk hL hc0
    rw [e9] at hL3
    refine G_istore C (lo' := [(6, .int 0), (5, .int (nI i)), (4, .ref (ad 49)), (3, .ref (ad 48)), (2, .ref (ad 40)), (1, .ref (ad 0)), (0, .ref b)]) dL_law_331 (by decide) rfl ?_
    refine G_aload_n C 2 dL_law_333 rfl rfl ?_
    refine G_aload_n C 0 dL_law_334 rfl rfl ?_
    refine G_iload C dL_law_335 rfl ?_
    refine G_iconst C (v := 1) dL_law_337 (by decide) ?_
    refine G_iadd C dL_law_338 ?_
    refine GW.topr (cI_add (a := i) (b := 1) rfl rfl) ?_
    refine G_sld C hX (j := (i + 1)) (by omega) (by omega) dL_law_339 ?_
    refine GW.topr (y := nI d) (q92) ?_
    refine G_callV C (As := [.int (nI d)]) (rest := []) (c_X9_millR (l := l) ((a9 40 (by decide)).trans ((ag9 40 (by decide)).trans g40)) ((a9 41 (by decide)).trans ((ag9 41 (by decide)).trans g41)) ((a9 42 (by decide)).trans ((ag9 42 (by decide)).trans g42)) ((a9 44 (by decide)).trans ((ag9 44 (by decide)).trans g44)) q93 h60 hp hg0 hf0 hro hP h4) ca_X9_mill km_L_130 (by decide) ((a9 40 (by decide)).trans ((ag9 40 (by decide)).trans g40)) rfl rfl rfl rfl (by decide) (Nat.le_of_ble_eq_true rfl) ⟨by show cs + 1 + 0 ≤ 601024; omega, by show ss + 6 + 0 ≤ 7293034; omega⟩ dL_law_340 (fun vv3 gg4 qq5 => ?_)
    obtain ⟨j_6, j_7, j_8, j_9, j_10, j_11, j_12, u_13, u_14, u_15, p_16, p_17, pf_18, rfl, pp19, hh20, hh21, hh22, hh23, aa24⟩ := qq5
    have AA25 : Agr [22, 23, 28, 29, 30, 31, 32, 33, 34, 35, 36, 37, 8, 48, 40, 41, 42, 44] G gg4 := AA1.tr aa24 (by simp) (by simp)
    have BB26 : Agr [48, 40, 41, 42, 44] G1 gg4 := BB2.tr aa24 (by simp) (by simp)
    refine G_lstore C (lo' := [(7, .long ((pwr d (h0 + 1)).1)), (6, .int 0), (5, .int (nI i)), (4, .ref (ad 49)), (3, .ref (ad 48)), (2, .ref (ad 40)), (1, .ref (ad 0)), (0, .ref b)]) dL_law_343 (by decide) rfl ?_
    refine G_aload_n C 2 dL_law_345 rfl rfl ?_
    refine G_callV C (As := []) (rest := []) (c_X9_thrown hh20) ca_X9_thrown km_L_122 (by decide) hh20 rfl rfl rfl rfl (by decide) (Nat.le_of_ble_eq_true rfl) ⟨by show cs + 1 + 0 + 0 ≤ 601024; omega, by show ss + 6 + 0 + 0 ≤ 7293034; omega⟩ dL_law_346 (fun vv27 gg28 qq29 => ?_)
    obtain ⟨rfl, rfl⟩ := qq29
    refine G_iload C dL_law_349 rfl ?_
    refine G_icmp_eq C 356 dL_law_351 (by decide) (fun _ => ?_) (fun h => absurd h (by decide))
    refine G_iload C dL_law_356 rfl ?_
    refine G_if_ne C 372 dL_law_358 (by decide) (fun h => absurd h (by decide)) (fun _ => ?_)
    refine G_aload_n C 3 dL_law_361 rfl rfl ?_
    refine G_iconst C (v := 0) dL_law_362 (by decide) ?_
    refine G_laldN C 48 (by decide) 0 ((aa24 48 (by decide)).trans k9) rfl (by decide) (by omega) dL_law_363 ?_
    refine GW.toprl (y := (pwr d h).1) (pk_uLs) ?_
    refine G_lload C dL_law_364 rfl ?_
    refine G_lc_eq C 372 dL_law_366 dL_law_367 (by decide) (fun c366 => ?_) (fun c366 => False.elim (c366 (by rw [← hh])))
    refine G_goto C 1974 dL_law_372 (by decide) ?_
    refine GW.pick [2, 3, 4, 5, 6, 7] [(5, .int (nI i)), (4, .ref (ad 49)), (3, .ref (ad 48)), (2, .ref (ad 40)), (1, .ref (ad 0)), (0, .ref b)] rfl ?_
    refine GW.widen (c1 := cs + 3) (s1 := ss + 18) (by show cs + 1 + 0 + 0 ≤ cs + 3; omega) (by show ss + 6 + 0 + 0 ≤ ss + 18; omega) ?_
    exact K _ (LI_mk (hs := hpush hs (f, l, ml)) ((aa24 0 (by decide)).trans ((a9 0 (by decide)).trans ((ag9 0 (by decide)).trans g0))) ((aa24 1 (by decide)).trans ((a9 1 (by decide)).trans ((ag9 1 (by decide)).trans g1))) ((aa24 2 (by decide)).trans ((a9 2 (by decide)).trans ((ag9 2 (by decide)).trans g2))) ((aa24 3 (by decide)).trans ((a9 3 (by decide)).trans ((ag9 3 (by decide)).trans g3))) ((aa24 4 (by decide)).trans ((a9 4 (by decide)).trans ((ag9 4 (by decide)).trans g4))) ((aa24 5 (by decide)).trans ((a9 5 (by decide)).trans ((ag9 5 (by decide)).trans g5))) ((aa24 6 (by decide)).trans ((a9 6 (by decide)).trans ((ag9 6 (by decide)).trans g6))) ((aa24 8 (by decide)).trans ((a9 8 (by decide)).trans o98)) ((aa24 19 (by decide)).trans ((a9 19 (by decide)).trans ((ag9 19 (by decide)).trans g19))) ((aa24 20 (by decide)).trans ((a9 20 (by decide)).trans ((ag9 20 (by decide)).trans g20))) ((aa24 21 (by decide)).trans ((a9 21 (by decide)).trans ((ag9 21 (by decide)).trans g21))) ((aa24 22 (by decide)).trans (((a9 22 (by decide)).trans o922).trans (by rw [q92, e9]))) ((aa24 23 (by decide)).trans (((a9 23 (by decide)).trans o923).trans (by rw [q92, e9]))) ((aa24 24 (by decide)).trans ((a9 24 (by decide)).trans ((ag9 24 (by decide)).trans g24))) ((aa24 25 (by decide)).trans ((a9 25 (by decide)).trans ((ag9 25 (by decide)).trans g25))) ((aa24 26 (by decide)).trans ((a9 26 (by decide)).trans ((ag9 26 (by decide)).trans g26))) ((aa24 27 (by decide)).trans ((a9 27 (by decide)).trans ((ag9 27 (by decide)).trans g27))) ((aa24 38 (by decide)).trans ((a9 38 (by decide)).trans ((ag9 38 (by decide)).trans g38))) ((aa24 39 (by decide)).trans ((a9 39 (by decide)).trans ((ag9 39 (by decide)).trans g39))) hh20 hh21 hh22 ((aa24 43 (by decide)).trans ((a9 43 (by decide)).trans ((ag9 43 (by decide)).trans g43))) hh23 ((aa24 45 (by decide)).trans ((a9 45 (by decide)).trans ((ag9 45 (by decide)).trans g45))) ((aa24 46 (by decide)).trans ((a9 46 (by decide)).trans ((ag9 46 (by decide)).trans g46))) ((aa24 47 (by decide)).trans ((a9 47 (by decide)).trans ((ag9 47 (by decide)).trans g47))) ((aa24 48 (by decide)).trans k9) ((aa24 49 (by decide)).trans ((a9 49 (by decide)).trans ((ag9 49 (by decide)).trans g49))) (q91.keep BB26 (by decide)) (qp_keep hQ AA25 (by decide)) (hk3) (hL3) (hp_good hsg hk hL) (pp19) (hp_len h4) (hn6) (htx) (he) (hkp))
  · obtain ⟨z9, rfl⟩ := hx1
    have hPx := z9.elim (fun y => y.2) (fun y => absurd y.1 ne_AI)
    have hn0 := cause_1.mp hPx
    refine G_istore C (lo' := [(6, .int 1), (5, .int (nI i)), (4, .ref (ad 49)), (3, .ref (ad 48)), (2, .ref (ad 40)), (1, .ref (ad 0)), (0, .ref b)]) dL_law_331 (by decide) rfl ?_
    refine G_aload_n C 2 dL_law_333 rfl rfl ?_
    refine G_aload_n C 0 dL_law_334 rfl rfl ?_
    refine G_iload C dL_law_335 rfl ?_
    refine G_iconst C (v := 1) dL_law_337 (by decide) ?_
    refine G_iadd C dL_law_338 ?_
    refine GW.topr (cI_add (a := i) (b := 1) rfl rfl) ?_
    refine G_sld C hX (j := (i + 1)) (by omega) (by omega) dL_law_339 ?_
    refine G_callV C (As := [.int (xs (i + 1))]) (rest := []) (c_X9_millA g40 g41 g42 hn0) ca_X9_mill km_L_130 (by decide) g40 rfl rfl rfl rfl (by decide) (Nat.le_of_ble_eq_true rfl) ⟨by show cs + 1 + 0 ≤ 601024; omega, by show ss + 6 + 0 ≤ 7293034; omega⟩ dL_law_340 (fun vv30 gg31 qq32 => ?_)
    obtain ⟨rfl, hh33, hh34, aa35⟩ := qq32
    have AA36 : Agr [40, 42] G gg31 := aa35.wk (by simp)
    refine G_lstore C (lo' := [(7, .long 0), (6, .int 1), (5, .int (nI i)), (4, .ref (ad 49)), (3, .ref (ad 48)), (2, .ref (ad 40)), (1, .ref (ad 0)), (0, .ref b)]) dL_law_343 (by decide) rfl ?_
    refine G_aload_n C 2 dL_law_345 rfl rfl ?_
    refine G_callV C (As := []) (rest := []) (c_X9_thrown hh33) ca_X9_thrown km_L_122 (by decide) hh33 rfl rfl rfl rfl (by decide) (Nat.le_of_ble_eq_true rfl) ⟨by show cs + 1 + 0 + 0 ≤ 601024; omega, by show ss + 6 + 0 + 0 ≤ 7293034; omega⟩ dL_law_346 (fun vv37 gg38 qq39 => ?_)
    obtain ⟨rfl, rfl⟩ := qq39
    refine G_iload C dL_law_349 rfl ?_
    refine G_icmp_eq C 356 dL_law_351 (by decide) (fun _ => ?_) (fun h => absurd h (by decide))
    refine G_iload C dL_law_356 rfl ?_
    refine G_if_ne C 372 dL_law_358 (by decide) (fun _ => ?_) (fun h => absurd h (by decide))
    refine G_goto C 1974 dL_law_372 (by decide) ?_
    refine GW.pick [2, 3, 4, 5, 6, 7] [(5, .int (nI i)), (4, .ref (ad 49)), (3, .ref (ad 48)), (2, .ref (ad 40)), (1, .ref (ad 0)), (0, .ref b)] rfl ?_
    refine GW.widen (c1 := cs + 3) (s1 := ss + 18) (by show cs + 1 + 0 + 0 ≤ cs + 3; omega) (by show ss + 6 + 0 + 0 ≤ ss + 18; omega) ?_
    exact K _ (LI_mk  ((aa35 0 (by decide)).trans g0) ((aa35 1 (by decide)).trans g1) ((aa35 2 (by decide)).trans g2) ((aa35 3 (by decide)).trans g3) ((aa35 4 (by decide)).trans g4) ((aa35 5 (by decide)).trans g5) ((aa35 6 (by decide)).trans g6) ((aa35 8 (by decide)).trans g8) ((aa35 19 (by decide)).trans g19) ((aa35 20 (by decide)).trans g20) ((aa35 21 (by decide)).trans g21) ((aa35 22 (by decide)).trans g22) ((aa35 23 (by decide)).trans g23) ((aa35 24 (by decide)).trans g24) ((aa35 25 (by decide)).trans g25) ((aa35 26 (by decide)).trans g26) ((aa35 27 (by decide)).trans g27) ((aa35 38 (by decide)).trans g38) ((aa35 39 (by decide)).trans g39) hh33 ((aa35 41 (by decide)).trans g41) hh34 ((aa35 43 (by decide)).trans g43) ((aa35 44 (by decide)).trans g44) ((aa35 45 (by decide)).trans g45) ((aa35 46 (by decide)).trans g46) ((aa35 47 (by decide)).trans g47) ((aa35 48 (by decide)).trans g48) ((aa35 49 (by decide)).trans g49) (hH.keep AA36 (by decide)) (qp_keep hQ AA36 (by decide)) (hk) (hL) (hsg) (hP) (h4) (hn6) (htx) (he) (hkp))
  · obtain ⟨z9, rfl⟩ := hx1
    have hPx := z9.elim (fun y => absurd y.1 ne_IA) (fun y => y.2)
    obtain ⟨d, h2, h60, hn⟩ := num_nat (n := xs (i + 1)) (fun z => hPx.1 (cause_1.mpr z))
    by_cases hm : f d = -1
    · have hro : f d < 0 := by rw [hm]; decide
      refine G_istore C (lo' := [(6, .int 2), (5, .int (nI i)), (4, .ref (ad 49)), (3, .ref (ad 48)), (2, .ref (ad 40)), (1, .ref (ad 0)), (0, .ref b)]) dL_law_331 (by decide) rfl ?_
      refine G_aload_n C 2 dL_law_333 rfl rfl ?_
      refine G_aload_n C 0 dL_law_334 rfl rfl ?_
      refine G_iload C dL_law_335 rfl ?_
      refine G_iconst C (v := 1) dL_law_337 (by decide) ?_
      refine G_iadd C dL_law_338 ?_
      refine GW.topr (cI_add (a := i) (b := 1) rfl rfl) ?_
      refine G_sld C hX (j := (i + 1)) (by omega) (by omega) dL_law_339 ?_
      refine GW.topr (y := nI d) (hn) ?_
      refine G_callV C (As := [.int (nI d)]) (rest := []) (c_X9_millS1 g40 g41 g42 h2 h60 hro) ca_X9_mill km_L_130 (by decide) g40 rfl rfl rfl rfl (by decide) (Nat.le_of_ble_eq_true rfl) ⟨by show cs + 1 + 0 ≤ 601024; omega, by show ss + 6 + 0 ≤ 7293034; omega⟩ dL_law_340 (fun vv40 gg41 qq42 => ?_)
      obtain ⟨j_43, j_44, j_45, j_46, j_47, j_48, j_49, u_50, u_51, u_52, p_53, p_54, rfl, hh55, hh56, aa57⟩ := qq42
      have AA58 : Agr [40, 42] G gg41 := aa57.wk (by simp)
      refine G_lstore C (lo' := [(7, .long 0), (6, .int 2), (5, .int (nI i)), (4, .ref (ad 49)), (3, .ref (ad 48)), (2, .ref (ad 40)), (1, .ref (ad 0)), (0, .ref b)]) dL_law_343 (by decide) rfl ?_
      refine G_aload_n C 2 dL_law_345 rfl rfl ?_
      refine G_callV C (As := []) (rest := []) (c_X9_thrown hh55) ca_X9_thrown km_L_122 (by decide) hh55 rfl rfl rfl rfl (by decide) (Nat.le_of_ble_eq_true rfl) ⟨by show cs + 1 + 0 + 0 ≤ 601024; omega, by show ss + 6 + 0 + 0 ≤ 7293034; omega⟩ dL_law_346 (fun vv59 gg60 qq61 => ?_)
      obtain ⟨rfl, rfl⟩ := qq61
      refine G_iload C dL_law_349 rfl ?_
      refine G_icmp_eq C 356 dL_law_351 (by decide) (fun _ => ?_) (fun h => absurd h (by decide))
      refine G_iload C dL_law_356 rfl ?_
      refine G_if_ne C 372 dL_law_358 (by decide) (fun _ => ?_) (fun h => absurd h (by decide))
      refine G_goto C 1974 dL_law_372 (by decide) ?_
      refine GW.pick [2, 3, 4, 5, 6, 7] [(5, .int (nI i)), (4, .ref (ad 49)), (3, .ref (ad 48)), (2, .ref (ad 40)), (1, .ref (ad 0)), (0, .ref b)] rfl ?_
      refine GW.widen (c1 := cs + 3) (s1 := ss + 18) (by show cs + 1 + 0 + 0 ≤ cs + 3; omega) (by show ss + 6 + 0 + 0 ≤ ss + 18; omega) ?_
      exact K _ (LI_mk  ((aa57 0 (by decide)).trans g0) ((aa57 1 (by decide)).trans g1) ((aa57 2 (by decide)).trans g2) ((aa57 3 (by decide)).trans g3) ((aa57 4 (by decide)).trans g4) ((aa57 5 (by decide)).trans g5) ((aa57 6 (by decide)).trans g6) ((aa57 8 (by decide)).trans g8) ((aa57 19 (by decide)).trans g19) ((aa57 20 (by decide)).trans g20) ((aa57 21 (by decide)).trans g21) ((aa57 22 (by decide)).trans g22) ((aa57 23 (by decide)).trans g23) ((aa57 24 (by decide)).trans g24) ((aa57 25 (by decide)).trans g25) ((aa57 26 (by decide)).trans g26) ((aa57 27 (by decide)).trans g27) ((aa57 38 (by decide)).trans g38) ((aa57 39 (by decide)).trans g39) hh55 ((aa57 41 (by decide)).trans g41) hh56 ((aa57 43 (by decide)).trans g43) ((aa57 44 (by decide)).trans g44) ((aa57 45 (by decide)).trans g45) ((aa57 46 (by decide)).trans g46) ((aa57 47 (by decide)).trans g47) ((aa57 48 (by decide)).trans g48) ((aa57 49 (by decide)).trans g49) (hH.keep AA58 (by decide)) (qp_keep hQ AA58 (by decide)) (hk) (hL) (hsg) (hP) (h4) (hn6) (htx) (he) (hkp))
    · obtain ⟨hp, h, hg, hf⟩ := has_d hk h2 h60 hm
      have hro : ¬ h < gpn d := fun z => hPx.2 (by rw [hn]; exact (cause_m hk h2 h60 hg hf).mpr z)
      refine G_istore C (lo' := [(6, .int 2), (5, .int (nI i)), (4, .ref (ad 49)), (3, .ref (ad 48)), (2, .ref (ad 40)), (1, .ref (ad 0)), (0, .ref b)]) dL_law_331 (by decide) rfl ?_
      refine G_aload_n C 2 dL_law_333 rfl rfl ?_
      refine G_aload_n C 0 dL_law_334 rfl rfl ?_
      refine G_iload C dL_law_335 rfl ?_
      refine G_iconst C (v := 1) dL_law_337 (by decide) ?_
      refine G_iadd C dL_law_338 ?_
      refine GW.topr (cI_add (a := i) (b := 1) rfl rfl) ?_
      refine G_sld C hX (j := (i + 1)) (by omega) (by omega) dL_law_339 ?_
      refine GW.topr (y := nI d) (hn) ?_
      refine G_callV C (As := [.int (nI d)]) (rest := []) (c_X9_millS2 g40 g41 g42 h2 h60 hp hg hf hro) ca_X9_mill km_L_130 (by decide) g40 rfl rfl rfl rfl (by decide) (Nat.le_of_ble_eq_true rfl) ⟨by show cs + 1 + 0 ≤ 601024; omega, by show ss + 6 + 0 ≤ 7293034; omega⟩ dL_law_340 (fun vv62 gg63 qq64 => ?_)
      obtain ⟨j_65, j_66, j_67, j_68, j_69, j_70, j_71, u_72, u_73, u_74, p_75, p_76, rfl, hh77, hh78, aa79⟩ := qq64
      have AA80 : Agr [40, 42] G gg63 := aa79.wk (by simp)
      refine G_lstore C (lo' := [(7, .long 0), (6, .int 2), (5, .int (nI i)), (4, .ref (ad 49)), (3, .ref (ad 48)), (2, .ref (ad 40)), (1, .ref (ad 0)), (0, .ref b)]) dL_law_343 (by decide) rfl ?_
      refine G_aload_n C 2 dL_law_345 rfl rfl ?_
      refine G_callV C (As := []) (rest := []) (c_X9_thrown hh77) ca_X9_thrown km_L_122 (by decide) hh77 rfl rfl rfl rfl (by decide) (Nat.le_of_ble_eq_true rfl) ⟨by show cs + 1 + 0 + 0 ≤ 601024; omega, by show ss + 6 + 0 + 0 ≤ 7293034; omega⟩ dL_law_346 (fun vv81 gg82 qq83 => ?_)
      obtain ⟨rfl, rfl⟩ := qq83
      refine G_iload C dL_law_349 rfl ?_
      refine G_icmp_eq C 356 dL_law_351 (by decide) (fun _ => ?_) (fun h => absurd h (by decide))
      refine G_iload C dL_law_356 rfl ?_
      refine G_if_ne C 372 dL_law_358 (by decide) (fun _ => ?_) (fun h => absurd h (by decide))
      refine G_goto C 1974 dL_law_372 (by decide) ?_
      refine GW.pick [2, 3, 4, 5, 6, 7] [(5, .int (nI i)), (4, .ref (ad 49)), (3, .ref (ad 48)), (2, .ref (ad 40)), (1, .ref (ad 0)), (0, .ref b)] rfl ?_
      refine GW.widen (c1 := cs + 3) (s1 := ss + 18) (by show cs + 1 + 0 + 0 ≤ cs + 3; omega) (by show ss + 6 + 0 + 0 ≤ ss + 18; omega) ?_
      exact K _ (LI_mk  ((aa79 0 (by decide)).trans g0) ((aa79 1 (by decide)).trans g1) ((aa79 2 (by decide)).trans g2) ((aa79 3 (by decide)).trans g3) ((aa79 4 (by decide)).trans g4) ((aa79 5 (by decide)).trans g5) ((aa79 6 (by decide)).trans g6) ((aa79 8 (by decide)).trans g8) ((aa79 19 (by decide)).trans g19) ((aa79 20 (by decide)).trans g20) ((aa79 21 (by decide)).trans g21) ((aa79 22 (by decide)).trans g22) ((aa79 23 (by decide)).trans g23) ((aa79 24 (by decide)).trans g24) ((aa79 25 (by decide)).trans g25) ((aa79 26 (by decide)).trans g26) ((aa79 27 (by decide)).trans g27) ((aa79 38 (by decide)).trans g38) ((aa79 39 (by decide)).trans g39) hh77 ((aa79 41 (by decide)).trans g41) hh78 ((aa79 43 (by decide)).trans g43) ((aa79 44 (by decide)).trans g44) ((aa79 45 (by decide)).trans g45) ((aa79 46 (by decide)).trans g46) ((aa79 47 (by decide)).trans g47) ((aa79 48 (by decide)).trans g48) ((aa79 49 (by decide)).trans g49) (hH.keep AA80 (by decide)) (qp_keep hQ AA80 (by decide)) (hk) (hL) (hsg) (hP) (h4) (hn6) (htx) (he) (hkp))

set_option maxRecDepth 100000 in
set_option maxHeartbeats 4000000 in
theorem LC_3 {L : GL} {E : GE} {ad : Nat → Nat} {G : Nat → va_E} {cs ss b Ls i : Nat} {xs : Nat → Int32} (C : gC L E cL_law RL 9 room_1) (hX : LWx L E b Ls xs) (hi : i + 3 ≤ Ls) (hLs : Ls ≤ 1536) (hcs : cs + 3 ≤ 601024 ∧ ss + 18 ≤ 7293034) (hI : LI L ad G) (K : ∀ G', LI L ad G' → GW L E 50 ad G' (cs + 3) (ss + 18) 1974 [(5, .int (nI i)), (4, .ref (ad 49)), (3, .ref (ad 48)), (2, .ref (ad 40)), (1, .ref (ad 0)), (0, .ref b)] []) : GW L E 50 ad G cs ss 375 [(5, .int (nI i)), (4, .ref (ad 49)), (3, .ref (ad 48)), (2, .ref (ad 40)), (1, .ref (ad 0)), (0, .ref b)] [] := by
  refine LI_elim hI (fun sn t1 t2 t3 t4 t5 b1 b2 b3 b4 b5 s0 q1 q2 q3 q4 q5 xz l ml f l2 ml2 f2 l3 ml3 f3 hs len od ps rs cu tx ik th m q te fx fy nx ny ux uy us px py sp bg fo le fi re ca f42 f43 pf tm xx yy ov ow g0 g1 g2 g3 g4 g5 g6 g8 g19 g20 g21 g22 g23 g24 g25 g26 g27 g38 g39 g40 g41 g42 g43 g44 g45 g46 g47 g48 g49 hH hQ hk hL hsg hP h4 hn6 htx he hkp => ?_)
  refine G_aload_n C 1 dL_law_375 rfl rfl ?_
  refine G_aload_n C 0 dL_law_376 rfl rfl ?_
  refine G_iload C dL_law_377 rfl ?_
  refine G_iconst C (v := 1) dL_law_379 (by decide) ?_
  refine G_iadd C dL_law_380 ?_
  refine GW.topr (cI_add (a := i) (b := 1) rfl rfl) ?_
  refine G_sld C hX (j := (i + 1)) (by omega) (by omega) dL_law_381 ?_
  refine G_aload_n C 3 dL_law_382 rfl rfl ?_
  refine G_callSH C (As := [.ref (ad 0), .int (xs (i + 1)), .ref (ad 48)]) (rest := []) (w_millBack (c_X8_millBack g0 g1 g3 g6 g22 g23 g4 g5 g8 hH hk) g0 (fun v G2 hq => by obtain ⟨d, h, rfl, _, _, _, _, _, _, _, _, _, _, _, ag⟩ := hq; exact ⟨⟨_, rfl⟩, (ag 48 (by decide)).trans g48⟩) (fun e G2 h => h.1.elim (fun z => Or.inl z.1) (fun z => Or.inr z.1))) ca_L_millBack km_L_131 rfl rfl (by decide) (Nat.le_of_ble_eq_true rfl) ⟨by show cs + 1 ≤ 601024; omega, by show ss + 6 ≤ 7293034; omega⟩ dL_law_383 (fun vv G9 hq9 => ?_)
  rcases hq9 with ⟨r, G1, hq1, rfl, k9, a9⟩ | ⟨hx1, rfl⟩ | ⟨hx1, rfl⟩
  · obtain ⟨d, h, h9, q90, q91, q92, q93, q94, q95, q96, q97, o922, o923, o98, ag9⟩ := hq1
    obtain rfl := (slong_inj h9).symm
    have AA0 : Agr [22, 23, 28, 29, 30, 31, 32, 33, 34, 35, 36, 37, 8] G G1 := ag9
    have AA1 : Agr [22, 23, 28, 29, 30, 31, 32, 33, 34, 35, 36, 37, 8, 48] G G9 := AA0.tr a9 (by simp) (by simp)
    have BB2 : Agr [48] G1 G9 := a9.wk (by simp)
    have h60 := q94
    have hc0 : causeF f l 98 (nI d) = 0 := by rw [← q92]; exact q90
    have hro := (cause_b (f := f) (l := l) q93 h60).mp hc0
    obtain ⟨hp, h0, hg0, hf0⟩ := has_h hk q93 h60 (fun z => hro (Int32.le_of_lt z))
    obtain ⟨k, rfl⟩ : ∃ k, h0 = k + 1 := ⟨h0 - 1, by have : h0 ≠ 0 := fun z => hro (by rw [hf0, z]; decide); omega⟩
    have e9 := co_b (l := l) (ml := ml) h60 hf0
    have hh : k = h := by have z := q97; rw [q92, e9] at z; exact nI_inj (by have := gp_lt d (by omega); omega) (by have := gp_lt d (by omega); have := q96; omega) (upd_d.symm.trans z)
    have hk3 := okH_co (ml := ml) hk hc0
    rw [e9] at hk3
    have hL3 := okL_co (ml := ml) hk hL hc0
    rw [e9] at hL3
    refine G_istore C (lo' := [(6, .int 0), (5, .int (nI i)), (4, .ref (ad 49)), (3, .ref (ad 48)), (2, .ref (ad 40)), (1, .ref (ad 0)), (0, .ref b)]) dL_law_386 (by decide) rfl ?_
    refine G_aload_n C 2 dL_law_388 rfl rfl ?_
    refine G_aload_n C 0 dL_law_389 rfl rfl ?_
    refine G_iload C dL_law_390 rfl ?_
    refine G_iconst C (v := 1) dL_law_392 (by decide) ?_
    refine G_iadd C dL_law_393 ?_
    refine GW.topr (cI_add (a := i) (b := 1) rfl rfl) ?_
    refine G_sld C hX (j := (i + 1)) (by omega) (by omega) dL_law_394 ?_
    refine GW.topr (y := nI d) (q92) ?_
    refine G_callV C (As := [.int (nI d)]) (rest := []) (c_X9_millBackR (l := l) ((a9 40 (by decide)).trans ((ag9 40 (by decide)).trans g40)) ((a9 41 (by decide)).trans ((ag9 41 (by decide)).trans g41)) ((a9 42 (by decide)).trans ((ag9 42 (by decide)).trans g42)) ((a9 44 (by decide)).trans ((ag9 44 (by decide)).trans g44)) q93 h60 hp hg0 hf0 hP h4) ca_X9_millBack km_L_133 (by decide) ((a9 40 (by decide)).trans ((ag9 40 (by decide)).trans g40)) rfl rfl rfl rfl (by decide) (Nat.le_of_ble_eq_true rfl) ⟨by show cs + 1 + 0 ≤ 601024; omega, by show ss + 6 + 0 ≤ 7293034; omega⟩ dL_law_395 (fun vv3 gg4 qq5 => ?_)
    obtain ⟨j_6, j_7, j_8, j_9, j_10, j_11, j_12, u_13, u_14, u_15, p_16, p_17, pf_18, rfl, pp19, hh20, hh21, hh22, hh23, aa24⟩ := qq5
    have AA25 : Agr [22, 23, 28, 29, 30, 31, 32, 33, 34, 35, 36, 37, 8, 48, 40, 41, 42, 44] G gg4 := AA1.tr aa24 (by simp) (by simp)
    have BB26 : Agr [48, 40, 41, 42, 44] G1 gg4 := BB2.tr aa24 (by simp) (by simp)
    refine G_lstore C (lo' := [(7, .long ((pwr d k).1)), (6, .int 0), (5, .int (nI i)), (4, .ref (ad 49)), (3, .ref (ad 48)), (2, .ref (ad 40)), (1, .ref (ad 0)), (0, .ref b)]) dL_law_398 (by decide) rfl ?_
    refine G_aload_n C 2 dL_law_400 rfl rfl ?_
    refine G_callV C (As := []) (rest := []) (c_X9_thrown hh20) ca_X9_thrown km_L_122 (by decide) hh20 rfl rfl rfl rfl (by decide) (Nat.le_of_ble_eq_true rfl) ⟨by show cs + 1 + 0 + 0 ≤ 601024; omega, by show ss + 6 + 0 + 0 ≤ 7293034; omega⟩ dL_law_401 (fun vv27 gg28 qq29 => ?_)
    obtain ⟨rfl, rfl⟩ := qq29
    refine G_iload C dL_law_404 rfl ?_
    refine G_icmp_eq C 411 dL_law_406 (by decide) (fun _ => ?_) (fun h => absurd h (by decide))
    refine G_iload C dL_law_411 rfl ?_
    refine G_if_ne C 427 dL_law_413 (by decide) (fun h => absurd h (by decide)) (fun _ => ?_)
    refine G_aload_n C 3 dL_law_416 rfl rfl ?_
    refine G_iconst C (v := 0) dL_law_417 (by decide) ?_
    refine G_laldN C 48 (by decide) 0 ((aa24 48 (by decide)).trans k9) rfl (by decide) (by omega) dL_law_418 ?_
    refine GW.toprl (y := (pwr d h).1) (pk_uLs) ?_
    refine G_lload C dL_law_419 rfl ?_
    refine G_lc_eq C 427 dL_law_421 dL_law_422 (by decide) (fun c421 => ?_) (fun c421 => False.elim (c421 (by rw [← hh])))
    refine G_goto C 1974 dL_law_427 (by decide) ?_
    refine GW.pick [2, 3, 4, 5, 6, 7] [(5, .int (nI i)), (4, .ref (ad 49)), (3, .ref (ad 48)), (2, .ref (ad 40)), (1, .ref (ad 0)), (0, .ref b)] rfl ?_
    refine GW.widen (c1 := cs + 3) (s1 := ss + 18) (by show cs + 1 + 0 + 0 ≤ cs + 3; omega) (by show ss + 6 + 0 + 0 ≤ ss + 18; omega) ?_
    exact K _ (LI_mk (hs := hpush hs (f, l, ml)) ((aa24 0 (by decide)).trans ((a9 0 (by decide)).trans ((ag9 0 (by decide)).trans g0))) ((aa24 1 (by decide)).trans ((a9 1 (by decide)).trans ((ag9 1 (by decide)).trans g1))) ((aa24 2 (by decide)).trans ((a9 2 (by decide)).trans ((ag9 2 (by decide)).trans g2))) ((aa24 3 (by decide)).trans ((a9 3 (by decide)).trans ((ag9 3 (by decide)).trans g3))) ((aa24 4 (by decide)).trans ((a9 4 (by decide)).trans ((ag9 4 (by decide)).trans g4))) ((aa24 5 (by decide)).trans ((a9 5 (by decide)).trans ((ag9 5 (by decide)).trans g5))) ((aa24 6 (by decide)).trans ((a9 6 (by decide)).trans ((ag9 6 (by decide)).trans g6))) ((aa24 8 (by decide)).trans ((a9 8 (by decide)).trans o98)) ((aa24 19 (by decide)).trans ((a9 19 (by decide)).trans ((ag9 19 (by decide)).trans g19))) ((aa24 20 (by decide)).trans ((a9 20 (by decide)).trans ((ag9 20 (by decide)).trans g20))) ((aa24 21 (by decide)).trans ((a9 21 (by decide)).trans ((ag9 21 (by decide)).trans g21))) ((aa24 22 (by decide)).trans (((a9 22 (by decide)).trans o922).trans (by rw [q92, e9]))) ((aa24 23 (by decide)).trans (((a9 23 (by decide)).trans o923).trans (by rw [q92, e9]))) ((aa24 24 (by decide)).trans ((a9 24 (by decide)).trans ((ag9 24 (by decide)).trans g24))) ((aa24 25 (by decide)).trans ((a9 25 (by decide)).trans ((ag9 25 (by decide)).trans g25))) ((aa24 26 (by decide)).trans ((a9 26 (by decide)).trans ((ag9 26 (by decide)).trans g26))) ((aa24 27 (by decide)).trans ((a9 27 (by decide)).trans ((ag9 27 (by decide)).trans g27))) ((aa24 38 (by decide)).trans ((a9 38 (by decide)).trans ((ag9 38 (by decide)).trans g38))) ((aa24 39 (by decide)).trans ((a9 39 (by decide)).trans ((ag9 39 (by decide)).trans g39))) hh20 hh21 hh22 ((aa24 43 (by decide)).trans ((a9 43 (by decide)).trans ((ag9 43 (by decide)).trans g43))) hh23 ((aa24 45 (by decide)).trans ((a9 45 (by decide)).trans ((ag9 45 (by decide)).trans g45))) ((aa24 46 (by decide)).trans ((a9 46 (by decide)).trans ((ag9 46 (by decide)).trans g46))) ((aa24 47 (by decide)).trans ((a9 47 (by decide)).trans ((ag9 47 (by decide)).trans g47))) ((aa24 48 (by decide)).trans k9) ((aa24 49 (by decide)).trans ((a9 49 (by decide)).trans ((ag9 49 (by decide)).trans g49))) (q91.keep BB26 (by decide)) (qp_keep hQ AA25 (by decide)) (hk3) (hL3) (hp_good hsg hk hL) (pp19) (hp_len h4) (hn6) (htx) (he) (hkp))
  · obtain ⟨z9, rfl⟩ := hx1
    have hPx := z9.elim (fun y => y.2) (fun y => absurd y.1 ne_AI)
    have hn0 := cause_1.mp hPx
    refine G_istore C (lo' := [(6, .int 1), (5, .int (nI i)), (4, .ref (ad 49)), (3, .ref (ad 48)), (2, .ref (ad 40)), (1, .ref (ad 0)), (0, .ref b)]) dL_law_386 (by decide) rfl ?_
    refine G_aload_n C 2 dL_law_388 rfl rfl ?_
    refine G_aload_n C 0 dL_law_389 rfl rfl ?_
    refine G_iload C dL_law_390 rfl ?_
    refine G_iconst C (v := 1) dL_law_392 (by decide) ?_
    refine G_iadd C dL_law_393 ?_
    refine GW.topr (cI_add (a := i) (b := 1) rfl rfl) ?_
    refine G_sld C hX (j := (i + 1)) (by omega) (by omega) dL_law_394 ?_
    refine G_callV C (As := [.int (xs (i + 1))]) (rest := []) (c_X9_millBackA g40 g41 g42 hn0) ca_X9_millBack km_L_133 (by decide) g40 rfl rfl rfl rfl (by decide) (Nat.le_of_ble_eq_true rfl) ⟨by show cs + 1 + 0 ≤ 601024; omega, by show ss + 6 + 0 ≤ 7293034; omega⟩ dL_law_395 (fun vv30 gg31 qq32 => ?_)
    obtain ⟨rfl, hh33, hh34, aa35⟩ := qq32
    have AA36 : Agr [40, 42] G gg31 := aa35.wk (by simp)
    refine G_lstore C (lo' := [(7, .long 0), (6, .int 1), (5, .int (nI i)), (4, .ref (ad 49)), (3, .ref (ad 48)), (2, .ref (ad 40)), (1, .ref (ad 0)), (0, .ref b)]) dL_law_398 (by decide) rfl ?_
    refine G_aload_n C 2 dL_law_400 rfl rfl ?_
    refine G_callV C (As := []) (rest := []) (c_X9_thrown hh33) ca_X9_thrown km_L_122 (by decide) hh33 rfl rfl rfl rfl (by decide) (Nat.le_of_ble_eq_true rfl) ⟨by show cs + 1 + 0 + 0 ≤ 601024; omega, by show ss + 6 + 0 + 0 ≤ 7293034; omega⟩ dL_law_401 (fun vv37 gg38 qq39 => ?_)
    obtain ⟨rfl, rfl⟩ := qq39
    refine G_iload C dL_law_404 rfl ?_
    refine G_icmp_eq C 411 dL_law_406 (by decide) (fun _ => ?_) (fun h => absurd h (by decide))
    refine G_iload C dL_law_411 rfl ?_
    refine G_if_ne C 427 dL_law_413 (by decide) (fun _ => ?_) (fun h => absurd h (by decide))
    refine G_goto C 1974 dL_law_427 (by decide) ?_
    refine GW.pick [2, 3, 4, 5, 6, 7] [(5, .int (nI i)), (4, .ref (ad 49)), (3, .ref (ad 48)), (2, .ref (ad 40)), (1, .ref (ad 0)), (0, .ref b)] rfl ?_
    refine GW.widen (c1 := cs + 3) (s1 := ss + 18) (by show cs + 1 + 0 + 0 ≤ cs + 3; omega) (by show ss + 6 + 0 + 0 ≤ ss + 18; omega) ?_
    exact K _ (LI_mk  ((aa35 0 (by decide)).trans g0) ((aa35 1 (by decide)).trans g1) ((aa35 2 (by decide)).trans g2) ((aa35 3 (by decide)).trans g3) ((aa35 4 (by decide)).trans g4) ((aa35 5 (by decide)).trans g5) ((aa35 6 (by decide)).trans g6) ((aa35 8 (by decide)).trans g8) ((aa35 19 (by decide)).trans g19) ((aa35 20 (by decide)).trans g20) ((aa35 21 (by decide)).trans g21) ((aa35 22 (by decide)).trans g22) ((aa35 23 (by decide)).trans g23) ((aa35 24 (by decide)).trans g24) ((aa35 25 (by decide)).trans g25) ((aa35 26 (by decide)).trans g26) ((aa35 27 (by decide)).trans g27) ((aa35 38 (by decide)).trans g38) ((aa35 39 (by decide)).trans g39) hh33 ((aa35 41 (by decide)).trans g41) hh34 ((aa35 43 (by decide)).trans g43) ((aa35 44 (by decide)).trans g44) ((aa35 45 (by decide)).trans g45) ((aa35 46 (by decide)).trans g46) ((aa35 47 (by decide)).trans g47) ((aa35 48 (by decide)).trans g48) ((aa35 49 (by decide)).trans g49) (hH.keep AA36 (by decide)) (qp_keep hQ AA36 (by decide)) (hk) (hL) (hsg) (hP) (h4) (hn6) (htx) (he) (hkp))
  · obtain ⟨z9, rfl⟩ := hx1
    have hPx := z9.elim (fun y => absurd y.1 ne_IA) (fun y => y.2)
    obtain ⟨d, h2, h60, hn⟩ := num_nat (n := xs (i + 1)) (fun z => hPx.1 (cause_1.mpr z))
    have hz : f d ≤ 0 := Classical.byContradiction fun z => hPx.2 (by rw [hn]; exact (cause_b h2 h60).mpr z)
    have hro : f d < 1 := Int32.lt_of_le_of_lt hz (by decide)
    refine G_istore C (lo' := [(6, .int 2), (5, .int (nI i)), (4, .ref (ad 49)), (3, .ref (ad 48)), (2, .ref (ad 40)), (1, .ref (ad 0)), (0, .ref b)]) dL_law_386 (by decide) rfl ?_
    refine G_aload_n C 2 dL_law_388 rfl rfl ?_
    refine G_aload_n C 0 dL_law_389 rfl rfl ?_
    refine G_iload C dL_law_390 rfl ?_
    refine G_iconst C (v := 1) dL_law_392 (by decide) ?_
    refine G_iadd C dL_law_393 ?_
    refine GW.topr (cI_add (a := i) (b := 1) rfl rfl) ?_
    refine G_sld C hX (j := (i + 1)) (by omega) (by omega) dL_law_394 ?_
    refine GW.topr (y := nI d) (hn) ?_
    refine G_callV C (As := [.int (nI d)]) (rest := []) (c_X9_millBackS g40 g41 g42 h2 h60 hro) ca_X9_millBack km_L_133 (by decide) g40 rfl rfl rfl rfl (by decide) (Nat.le_of_ble_eq_true rfl) ⟨by show cs + 1 + 0 ≤ 601024; omega, by show ss + 6 + 0 ≤ 7293034; omega⟩ dL_law_395 (fun vv40 gg41 qq42 => ?_)
    obtain ⟨j_43, j_44, j_45, j_46, j_47, j_48, j_49, u_50, u_51, u_52, p_53, p_54, rfl, hh55, hh56, aa57⟩ := qq42
    have AA58 : Agr [40, 42] G gg41 := aa57.wk (by simp)
    refine G_lstore C (lo' := [(7, .long 0), (6, .int 2), (5, .int (nI i)), (4, .ref (ad 49)), (3, .ref (ad 48)), (2, .ref (ad 40)), (1, .ref (ad 0)), (0, .ref b)]) dL_law_398 (by decide) rfl ?_
    refine G_aload_n C 2 dL_law_400 rfl rfl ?_
    refine G_callV C (As := []) (rest := []) (c_X9_thrown hh55) ca_X9_thrown km_L_122 (by decide) hh55 rfl rfl rfl rfl (by decide) (Nat.le_of_ble_eq_true rfl) ⟨by show cs + 1 + 0 + 0 ≤ 601024; omega, by show ss + 6 + 0 + 0 ≤ 7293034; omega⟩ dL_law_401 (fun vv59 gg60 qq61 => ?_)
    obtain ⟨rfl, rfl⟩ := qq61
    refine G_iload C dL_law_404 rfl ?_
    refine G_icmp_eq C 411 dL_law_406 (by decide) (fun _ => ?_) (fun h => absurd h (by decide))
    refine G_iload C dL_law_411 rfl ?_
    refine G_if_ne C 427 dL_law_413 (by decide) (fun _ => ?_) (fun h => absurd h (by decide))
    refine G_goto C 1974 dL_law_427 (by decide) ?_
    refine GW.pick [2, 3, 4, 5, 6, 7] [(5, .int (nI i)), (4, .ref (ad 49)), (3, .ref (ad 48)), (2, .ref (ad 40)), (1, .ref (ad 0)), (0, .ref b)] rfl ?_
    refine GW.widen (c1 := cs + 3) (s1 := ss + 18) (by show cs + 1 + 0 + 0 ≤ cs + 3; omega) (by show ss + 6 + 0 + 0 ≤ ss + 18; omega) ?_
    exact K _ (LI_mk  ((aa57 0 (by decide)).trans g0) ((aa57 1 (by decide)).trans g1) ((aa57 2 (by decide)).trans g2) ((aa57 3 (by decide)).trans g3) ((aa57 4 (by decide)).trans g4) ((aa57 5 (by decide)).trans g5) ((aa57 6 (by decide)).trans g6) ((aa57 8 (by decide)).trans g8) ((aa57 19 (by decide)).trans g19) ((aa57 20 (by decide)).trans g20) ((aa57 21 (by decide)).trans g21) ((aa57 22 (by decide)).trans g22) ((aa57 23 (by decide)).trans g23) ((aa57 24 (by decide)).trans g24) ((aa57 25 (by decide)).trans g25) ((aa57 26 (by decide)).trans g26) ((aa57 27 (by decide)).trans g27) ((aa57 38 (by decide)).trans g38) ((aa57 39 (by decide)).trans g39) hh55 ((aa57 41 (by decide)).trans g41) hh56 ((aa57 43 (by decide)).trans g43) ((aa57 44 (by decide)).trans g44) ((aa57 45 (by decide)).trans g45) ((aa57 46 (by decide)).trans g46) ((aa57 47 (by decide)).trans g47) ((aa57 48 (by decide)).trans g48) ((aa57 49 (by decide)).trans g49) (hH.keep AA58 (by decide)) (qp_keep hQ AA58 (by decide)) (hk) (hL) (hsg) (hP) (h4) (hn6) (htx) (he) (hkp))

set_option maxRecDepth 100000 in
set_option maxHeartbeats 4000000 in
theorem LC_28 {L : GL} {E : GE} {ad : Nat → Nat} {G : Nat → va_E} {cs ss b Ls i : Nat} {xs : Nat → Int32} (C : gC L E cL_law RL 9 room_1) (hX : LWx L E b Ls xs) (hi : i + 3 ≤ Ls) (hLs : Ls ≤ 1536) (hcs : cs + 3 ≤ 601024 ∧ ss + 18 ≤ 7293034) (hI : LI L ad G) (K : ∀ G', LI L ad G' → GW L E 50 ad G' (cs + 3) (ss + 18) 1974 [(5, .int (nI i)), (4, .ref (ad 49)), (3, .ref (ad 48)), (2, .ref (ad 40)), (1, .ref (ad 0)), (0, .ref b)] []) : GW L E 50 ad G cs ss 1628 [(5, .int (nI i)), (4, .ref (ad 49)), (3, .ref (ad 48)), (2, .ref (ad 40)), (1, .ref (ad 0)), (0, .ref b)] [] := by
  refine LI_elim hI (fun sn t1 t2 t3 t4 t5 b1 b2 b3 b4 b5 s0 q1 q2 q3 q4 q5 xz l ml f l2 ml2 f2 l3 ml3 f3 hs len od ps rs cu tx ik th m q te fx fy nx ny ux uy us px py sp bg fo le fi re ca f42 f43 pf tm xx yy ov ow g0 g1 g2 g3 g4 g5 g6 g8 g19 g20 g21 g22 g23 g24 g25 g26 g27 g38 g39 g40 g41 g42 g43 g44 g45 g46 g47 g48 g49 hH hQ hk hL hsg hP h4 hn6 htx he hkp => ?_)
  refine G_aload_n C 1 dL_law_1628 rfl rfl ?_
  refine G_aload_n C 3 dL_law_1629 rfl rfl ?_
  refine G_callSH C (As := [.ref (ad 0), .ref (ad 48)]) (rest := []) (w_goBack (c_X8_goBack g0 g22 g23 g26 g27 hH) g0 (fun v G2 hq => by obtain ⟨rfl, _, _, _, _, ag⟩ := hq; exact ⟨⟨_, rfl⟩, (ag 48 (by decide)).trans g48⟩) (fun e G2 h => h.1)) ca_L_goBack km_L_216 rfl rfl (by decide) (Nat.le_of_ble_eq_true rfl) ⟨by show cs + 1 ≤ 601024; omega, by show ss + 6 ≤ 7293034; omega⟩ dL_law_1630 (fun vv G9 hq9 => ?_)
  rcases hq9 with ⟨r, G1, hq1, rfl, k9, a9⟩ | ⟨hx1, rfl⟩
  · obtain ⟨h9, q90, q91, o922, o923, ag9⟩ := hq1
    obtain rfl := (sint_inj h9).symm
    have AA0 : Agr [22, 23, 28, 29, 30, 31, 32, 33, 34, 35, 36, 37] G G1 := ag9
    have AA1 : Agr [22, 23, 28, 29, 30, 31, 32, 33, 34, 35, 36, 37, 48] G G9 := AA0.tr a9 (by simp) (by simp)
    have BB2 : Agr [48] G1 G9 := a9.wk (by simp)
    obtain ⟨hik, hsn, hf43, hk3, hL3⟩ := hkp.resolve_left (fun z => q90 z.2)
    refine G_istore C (lo' := [(6, .int 0), (5, .int (nI i)), (4, .ref (ad 49)), (3, .ref (ad 48)), (2, .ref (ad 40)), (1, .ref (ad 0)), (0, .ref b)]) dL_law_1633 (by decide) rfl ?_
    refine G_aload_n C 2 dL_law_1635 rfl rfl ?_
    refine G_callV C (As := []) (rest := []) (c_X9_goBackR (l := l) (((a9 40 (by decide)).trans ((ag9 40 (by decide)).trans g40)).trans (by rw [hik])) ((a9 41 (by decide)).trans ((ag9 41 (by decide)).trans g41)) ((a9 42 (by decide)).trans ((ag9 42 (by decide)).trans g42)) (((a9 43 (by decide)).trans ((ag9 43 (by decide)).trans g43)).trans (by rw [hf43])) ((a9 44 (by decide)).trans ((ag9 44 (by decide)).trans g44)) hP h4) ca_X9_goBack km_L_219 (by decide) (((a9 40 (by decide)).trans ((ag9 40 (by decide)).trans g40)).trans (by rw [hik])) rfl rfl rfl rfl (by decide) (Nat.le_of_ble_eq_true rfl) ⟨by show cs + 1 + 0 ≤ 601024; omega, by show ss + 6 + 0 ≤ 7293034; omega⟩ dL_law_1636 (fun vv3 gg4 qq5 => ?_)
    obtain ⟨pf_6, rfl, pp7, hh8, hh9, hh10, hh11, aa12⟩ := qq5
    have AA13 : Agr [22, 23, 28, 29, 30, 31, 32, 33, 34, 35, 36, 37, 48, 40, 41, 42, 44] G gg4 := AA1.tr aa12 (by simp) (by simp)
    have BB14 : Agr [48, 40, 41, 42, 44] G1 gg4 := BB2.tr aa12 (by simp) (by simp)
    refine G_istore C (lo' := [(7, .int (manyF f3 59)), (6, .int 0), (5, .int (nI i)), (4, .ref (ad 49)), (3, .ref (ad 48)), (2, .ref (ad 40)), (1, .ref (ad 0)), (0, .ref b)]) dL_law_1639 (by decide) rfl ?_
    refine G_aload_n C 2 dL_law_1641 rfl rfl ?_
    refine G_callV C (As := []) (rest := []) (c_X9_thrown hh8) ca_X9_thrown km_L_122 (by decide) hh8 rfl rfl rfl rfl (by decide) (Nat.le_of_ble_eq_true rfl) ⟨by show cs + 1 + 0 + 0 ≤ 601024; omega, by show ss + 6 + 0 + 0 ≤ 7293034; omega⟩ dL_law_1642 (fun vv15 gg16 qq17 => ?_)
    obtain ⟨rfl, rfl⟩ := qq17
    refine G_iload C dL_law_1645 rfl ?_
    refine G_icmp_eq C 1652 dL_law_1647 (by decide) (fun _ => ?_) (fun h => absurd h (by decide))
    refine G_iload C dL_law_1652 rfl ?_
    refine G_if_ne C 1669 dL_law_1654 (by decide) (fun h => absurd h (by decide)) (fun _ => ?_)
    refine G_aload_n C 3 dL_law_1657 rfl rfl ?_
    refine G_iconst C (v := 0) dL_law_1658 (by decide) ?_
    refine G_laldN C 48 (by decide) 0 ((aa12 48 (by decide)).trans k9) rfl (by decide) (by omega) dL_law_1659 ?_
    refine GW.toprl (y := l3.toInt64) (pk_uLs) ?_
    refine G_iload C dL_law_1660 rfl ?_
    refine G_i2l C dL_law_1662 rfl ?_
    refine G_lc_eq C 1669 dL_law_1663 dL_law_1664 (by decide) (fun c1663 => ?_) (fun c1663 => False.elim (c1663 (congrArg Int32.toInt64 hL3.1)))
    refine G_goto C 1974 dL_law_1669 (by decide) ?_
    refine GW.pick [2, 3, 4, 5, 6, 7] [(5, .int (nI i)), (4, .ref (ad 49)), (3, .ref (ad 48)), (2, .ref (ad 40)), (1, .ref (ad 0)), (0, .ref b)] rfl ?_
    refine GW.widen (c1 := cs + 3) (s1 := ss + 18) (by show cs + 1 + 0 + 0 ≤ cs + 3; omega) (by show ss + 6 + 0 + 0 ≤ ss + 18; omega) ?_
    exact K _ (LI_mk (hs := hpush hs (f, l, ml)) ((aa12 0 (by decide)).trans ((a9 0 (by decide)).trans ((ag9 0 (by decide)).trans g0))) ((aa12 1 (by decide)).trans ((a9 1 (by decide)).trans ((ag9 1 (by decide)).trans g1))) ((aa12 2 (by decide)).trans ((a9 2 (by decide)).trans ((ag9 2 (by decide)).trans g2))) ((aa12 3 (by decide)).trans ((a9 3 (by decide)).trans ((ag9 3 (by decide)).trans g3))) ((aa12 4 (by decide)).trans ((a9 4 (by decide)).trans ((ag9 4 (by decide)).trans g4))) ((aa12 5 (by decide)).trans ((a9 5 (by decide)).trans ((ag9 5 (by decide)).trans g5))) ((aa12 6 (by decide)).trans ((a9 6 (by decide)).trans ((ag9 6 (by decide)).trans g6))) ((aa12 8 (by decide)).trans ((a9 8 (by decide)).trans ((ag9 8 (by decide)).trans g8))) ((aa12 19 (by decide)).trans ((a9 19 (by decide)).trans ((ag9 19 (by decide)).trans g19))) ((aa12 20 (by decide)).trans ((a9 20 (by decide)).trans ((ag9 20 (by decide)).trans g20))) ((aa12 21 (by decide)).trans ((a9 21 (by decide)).trans ((ag9 21 (by decide)).trans g21))) ((aa12 22 (by decide)).trans ((a9 22 (by decide)).trans o922)) ((aa12 23 (by decide)).trans ((a9 23 (by decide)).trans o923)) ((aa12 24 (by decide)).trans ((a9 24 (by decide)).trans ((ag9 24 (by decide)).trans g24))) ((aa12 25 (by decide)).trans ((a9 25 (by decide)).trans ((ag9 25 (by decide)).trans g25))) ((aa12 26 (by decide)).trans ((a9 26 (by decide)).trans ((ag9 26 (by decide)).trans g26))) ((aa12 27 (by decide)).trans ((a9 27 (by decide)).trans ((ag9 27 (by decide)).trans g27))) ((aa12 38 (by decide)).trans ((a9 38 (by decide)).trans ((ag9 38 (by decide)).trans g38))) ((aa12 39 (by decide)).trans ((a9 39 (by decide)).trans ((ag9 39 (by decide)).trans g39))) hh8 hh9 hh10 ((aa12 43 (by decide)).trans (((a9 43 (by decide)).trans ((ag9 43 (by decide)).trans g43)).trans (by rw [hf43]))) hh11 ((aa12 45 (by decide)).trans ((a9 45 (by decide)).trans ((ag9 45 (by decide)).trans g45))) ((aa12 46 (by decide)).trans ((a9 46 (by decide)).trans ((ag9 46 (by decide)).trans g46))) ((aa12 47 (by decide)).trans ((a9 47 (by decide)).trans ((ag9 47 (by decide)).trans g47))) ((aa12 48 (by decide)).trans k9) ((aa12 49 (by decide)).trans ((a9 49 (by decide)).trans ((ag9 49 (by decide)).trans g49))) (q91.keep BB14 (by decide)) (qp_keep hQ AA13 (by decide)) (hk3) (hL3) (hp_good hsg hk hL) (pp7) (hp_len h4) (hn6) (htx) (he) (Or.inr ⟨rfl, hsn, rfl, hk3, hL3⟩))
  · obtain ⟨-, hPx, rfl⟩ := hx1
    have hik : ik = 0 := (hkp.resolve_right (fun z => absurd (hPx.symm.trans z.2.1) (by decide))).1
    refine G_istore C (lo' := [(6, .int 1), (5, .int (nI i)), (4, .ref (ad 49)), (3, .ref (ad 48)), (2, .ref (ad 40)), (1, .ref (ad 0)), (0, .ref b)]) dL_law_1633 (by decide) rfl ?_
    refine G_aload_n C 2 dL_law_1635 rfl rfl ?_
    refine G_callV C (As := []) (rest := []) (c_X9_goBackA (g40.trans (by rw [hik])) g41 g42) ca_X9_goBack km_L_219 (by decide) (g40.trans (by rw [hik])) rfl rfl rfl rfl (by decide) (Nat.le_of_ble_eq_true rfl) ⟨by show cs + 1 + 0 ≤ 601024; omega, by show ss + 6 + 0 ≤ 7293034; omega⟩ dL_law_1636 (fun vv18 gg19 qq20 => ?_)
    obtain ⟨rfl, hh21, hh22, aa23⟩ := qq20
    have AA24 : Agr [40, 42] G gg19 := aa23.wk (by simp)
    refine G_istore C (lo' := [(7, .int 0), (6, .int 1), (5, .int (nI i)), (4, .ref (ad 49)), (3, .ref (ad 48)), (2, .ref (ad 40)), (1, .ref (ad 0)), (0, .ref b)]) dL_law_1639 (by decide) rfl ?_
    refine G_aload_n C 2 dL_law_1641 rfl rfl ?_
    refine G_callV C (As := []) (rest := []) (c_X9_thrown hh21) ca_X9_thrown km_L_122 (by decide) hh21 rfl rfl rfl rfl (by decide) (Nat.le_of_ble_eq_true rfl) ⟨by show cs + 1 + 0 + 0 ≤ 601024; omega, by show ss + 6 + 0 + 0 ≤ 7293034; omega⟩ dL_law_1642 (fun vv25 gg26 qq27 => ?_)
    obtain ⟨rfl, rfl⟩ := qq27
    refine G_iload C dL_law_1645 rfl ?_
    refine G_icmp_eq C 1652 dL_law_1647 (by decide) (fun _ => ?_) (fun h => absurd h (by decide))
    refine G_iload C dL_law_1652 rfl ?_
    refine G_if_ne C 1669 dL_law_1654 (by decide) (fun _ => ?_) (fun h => absurd h (by decide))
    refine G_goto C 1974 dL_law_1669 (by decide) ?_
    refine GW.pick [2, 3, 4, 5, 6, 7] [(5, .int (nI i)), (4, .ref (ad 49)), (3, .ref (ad 48)), (2, .ref (ad 40)), (1, .ref (ad 0)), (0, .ref b)] rfl ?_
    refine GW.widen (c1 := cs + 3) (s1 := ss + 18) (by show cs + 1 + 0 + 0 ≤ cs + 3; omega) (by show ss + 6 + 0 + 0 ≤ ss + 18; omega) ?_
    exact K _ (LI_mk  ((aa23 0 (by decide)).trans g0) ((aa23 1 (by decide)).trans g1) ((aa23 2 (by decide)).trans g2) ((aa23 3 (by decide)).trans g3) ((aa23 4 (by decide)).trans g4) ((aa23 5 (by decide)).trans g5) ((aa23 6 (by decide)).trans g6) ((aa23 8 (by decide)).trans g8) ((aa23 19 (by decide)).trans g19) ((aa23 20 (by decide)).trans g20) ((aa23 21 (by decide)).trans g21) ((aa23 22 (by decide)).trans g22) ((aa23 23 (by decide)).trans g23) ((aa23 24 (by decide)).trans g24) ((aa23 25 (by decide)).trans g25) ((aa23 26 (by decide)).trans g26) ((aa23 27 (by decide)).trans g27) ((aa23 38 (by decide)).trans g38) ((aa23 39 (by decide)).trans g39) hh21 ((aa23 41 (by decide)).trans g41) hh22 ((aa23 43 (by decide)).trans g43) ((aa23 44 (by decide)).trans g44) ((aa23 45 (by decide)).trans g45) ((aa23 46 (by decide)).trans g46) ((aa23 47 (by decide)).trans g47) ((aa23 48 (by decide)).trans g48) ((aa23 49 (by decide)).trans g49) (hH.keep AA24 (by decide)) (qp_keep hQ AA24 (by decide)) (hk) (hL) (hsg) (hP) (h4) (hn6) (htx) (he) (Or.inl ⟨rfl, hPx⟩))

