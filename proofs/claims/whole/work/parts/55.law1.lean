set_option maxRecDepth 100000 in
set_option maxHeartbeats 4000000 in
theorem LC_10 {L : GL} {E : GE} {ad : Nat → Nat} {G : Nat → va_E} {cs ss b Ls i : Nat} {xs : Nat → Int32} (C : gC L E cL_law RL 9 room_1) (hX : LWx L E b Ls xs) (hi : i + 3 ≤ Ls) (hLs : Ls ≤ 1536) (hcs : cs + 3 ≤ 601024 ∧ ss + 18 ≤ 7293034) (hI : LI L ad G) (K : ∀ G', LI L ad G' → GW L E 50 ad G' (cs + 3) (ss + 18) 1974 [(5, .int (nI i)), (4, .ref (ad 49)), (3, .ref (ad 48)), (2, .ref (ad 40)), (1, .ref (ad 0)), (0, .ref b)] []) : GW L E 50 ad G cs ss 778 [(5, .int (nI i)), (4, .ref (ad 49)), (3, .ref (ad 48)), (2, .ref (ad 40)), (1, .ref (ad 0)), (0, .ref b)] [] := by
  refine LI_elim hI (fun sn t1 t2 t3 t4 t5 b1 b2 b3 b4 b5 s0 q1 q2 q3 q4 q5 xz l ml f l2 ml2 f2 l3 ml3 f3 hs len od ps rs cu tx ik th m q te fx fy nx ny ux uy us px py sp bg fo le fi re ca f42 f43 pf tm xx yy ov ow g0 g1 g2 g3 g4 g5 g6 g8 g19 g20 g21 g22 g23 g24 g25 g26 g27 g38 g39 g40 g41 g42 g43 g44 g45 g46 g47 g48 g49 hH hQ hk hL hsg hP h4 hn6 htx he hkp => ?_)
  refine G_aload_n C 1 dL_law_778 rfl rfl ?_
  refine G_aload_n C 0 dL_law_779 rfl rfl ?_
  refine G_iload C dL_law_780 rfl ?_
  refine G_iconst C (v := 1) dL_law_782 (by decide) ?_
  refine G_iadd C dL_law_783 ?_
  refine GW.topr (cI_add (a := i) (b := 1) rfl rfl) ?_
  refine G_sld C hX (j := (i + 1)) (by omega) (by omega) dL_law_784 ?_
  refine G_aload_n C 3 dL_law_785 rfl rfl ?_
  refine G_callSH C (As := [.ref (ad 0), .int (xs (i + 1)), .ref (ad 48)]) (rest := []) (w_leastYBySearch (c_X8_leastYBySearch g0 g1 g3) g0 (fun v G2 hq => by obtain ⟨d, rfl, _, _, _, _, rfl⟩ := hq; exact ⟨⟨_, rfl⟩, g48⟩) (fun e G2 h => h.1.elim (fun z => Or.inl z.1) (fun z => Or.inr z.1))) ca_L_leastYBySearch km_L_153 rfl rfl (by decide) (Nat.le_of_ble_eq_true rfl) ⟨by show cs + 2 ≤ 601024; omega, by show ss + 12 ≤ 7293034; omega⟩ dL_law_786 (fun vv G9 hq9 => ?_)
  rcases hq9 with ⟨r, G1, hq1, rfl, k9, a9⟩ | ⟨hx1, rfl⟩ | ⟨hx1, rfl⟩
  · obtain ⟨d, h9, q90, q91, q92, q93, rfl⟩ := hq1
    obtain rfl := (sint_inj h9).symm
    have AA1 : Agr [48] G G9 := a9.wk (by simp)
    have BB2 : Agr [48] G G9 := a9.wk (by simp)
    refine G_istore C (lo' := [(6, .int 0), (5, .int (nI i)), (4, .ref (ad 49)), (3, .ref (ad 48)), (2, .ref (ad 40)), (1, .ref (ad 0)), (0, .ref b)]) dL_law_789 (by decide) rfl ?_
    refine G_aload_n C 2 dL_law_791 rfl rfl ?_
    refine G_aload_n C 0 dL_law_792 rfl rfl ?_
    refine G_iload C dL_law_793 rfl ?_
    refine G_iconst C (v := 1) dL_law_795 (by decide) ?_
    refine G_iadd C dL_law_796 ?_
    refine GW.topr (cI_add (a := i) (b := 1) rfl rfl) ?_
    refine G_sld C hX (j := (i + 1)) (by omega) (by omega) dL_law_797 ?_
    refine GW.topr (y := nI d) (q90) ?_
    refine G_callV C (As := [.int (nI d)]) (rest := []) (c_X9_leastYBySearchR ((a9 40 (by decide)).trans g40) q91 q92 q93) ca_X9_leastYBySearch km_L_155 (by decide) ((a9 40 (by decide)).trans g40) rfl rfl rfl rfl (by decide) (Nat.le_of_ble_eq_true rfl) ⟨by show cs + 2 + 0 ≤ 601024; omega, by show ss + 12 + 0 ≤ 7293034; omega⟩ dL_law_798 (fun vv3 gg4 qq5 => ?_)
    obtain ⟨j_6, j_7, j_8, j_9, j_10, j_11, j_12, u_13, u_14, u_15, p_16, p_17, rfl, hh18, aa19⟩ := qq5
    have AA20 : Agr [48, 40] G gg4 := AA1.tr aa19 (by simp) (by simp)
    have BB21 : Agr [48, 40] G gg4 := BB2.tr aa19 (by simp) (by simp)
    refine G_istore C (lo' := [(7, .int (nI (lyn d))), (6, .int 0), (5, .int (nI i)), (4, .ref (ad 49)), (3, .ref (ad 48)), (2, .ref (ad 40)), (1, .ref (ad 0)), (0, .ref b)]) dL_law_801 (by decide) rfl ?_
    refine G_aload_n C 2 dL_law_803 rfl rfl ?_
    refine G_callV C (As := []) (rest := []) (c_X9_thrown hh18) ca_X9_thrown km_L_122 (by decide) hh18 rfl rfl rfl rfl (by decide) (Nat.le_of_ble_eq_true rfl) ⟨by show cs + 2 + 0 + 0 ≤ 601024; omega, by show ss + 12 + 0 + 0 ≤ 7293034; omega⟩ dL_law_804 (fun vv22 gg23 qq24 => ?_)
    obtain ⟨rfl, rfl⟩ := qq24
    refine G_iload C dL_law_807 rfl ?_
    refine G_icmp_eq C 814 dL_law_809 (by decide) (fun _ => ?_) (fun h => absurd h (by decide))
    refine G_iload C dL_law_814 rfl ?_
    refine G_if_ne C 831 dL_law_816 (by decide) (fun h => absurd h (by decide)) (fun _ => ?_)
    refine G_aload_n C 3 dL_law_819 rfl rfl ?_
    refine G_iconst C (v := 0) dL_law_820 (by decide) ?_
    refine G_laldN C 48 (by decide) 0 ((aa19 48 (by decide)).trans k9) rfl (by decide) (by omega) dL_law_821 ?_
    refine GW.toprl (y := (nI (lyn d)).toInt64) (pk_uLs) ?_
    refine G_iload C dL_law_822 rfl ?_
    refine G_i2l C dL_law_824 rfl ?_
    refine G_lc_eq C 831 dL_law_825 dL_law_826 (by decide) (fun c825 => ?_) (fun c825 => False.elim (c825 (rfl)))
    refine G_goto C 1974 dL_law_831 (by decide) ?_
    refine GW.pick [2, 3, 4, 5, 6, 7] [(5, .int (nI i)), (4, .ref (ad 49)), (3, .ref (ad 48)), (2, .ref (ad 40)), (1, .ref (ad 0)), (0, .ref b)] rfl ?_
    refine GW.widen (c1 := cs + 3) (s1 := ss + 18) (by show cs + 2 + 0 + 0 ≤ cs + 3; omega) (by show ss + 12 + 0 + 0 ≤ ss + 18; omega) ?_
    exact K _ (LI_mk  ((aa19 0 (by decide)).trans ((a9 0 (by decide)).trans g0)) ((aa19 1 (by decide)).trans ((a9 1 (by decide)).trans g1)) ((aa19 2 (by decide)).trans ((a9 2 (by decide)).trans g2)) ((aa19 3 (by decide)).trans ((a9 3 (by decide)).trans g3)) ((aa19 4 (by decide)).trans ((a9 4 (by decide)).trans g4)) ((aa19 5 (by decide)).trans ((a9 5 (by decide)).trans g5)) ((aa19 6 (by decide)).trans ((a9 6 (by decide)).trans g6)) ((aa19 8 (by decide)).trans ((a9 8 (by decide)).trans g8)) ((aa19 19 (by decide)).trans ((a9 19 (by decide)).trans g19)) ((aa19 20 (by decide)).trans ((a9 20 (by decide)).trans g20)) ((aa19 21 (by decide)).trans ((a9 21 (by decide)).trans g21)) ((aa19 22 (by decide)).trans ((a9 22 (by decide)).trans g22)) ((aa19 23 (by decide)).trans ((a9 23 (by decide)).trans g23)) ((aa19 24 (by decide)).trans ((a9 24 (by decide)).trans g24)) ((aa19 25 (by decide)).trans ((a9 25 (by decide)).trans g25)) ((aa19 26 (by decide)).trans ((a9 26 (by decide)).trans g26)) ((aa19 27 (by decide)).trans ((a9 27 (by decide)).trans g27)) ((aa19 38 (by decide)).trans ((a9 38 (by decide)).trans g38)) ((aa19 39 (by decide)).trans ((a9 39 (by decide)).trans g39)) hh18 ((aa19 41 (by decide)).trans ((a9 41 (by decide)).trans g41)) ((aa19 42 (by decide)).trans ((a9 42 (by decide)).trans g42)) ((aa19 43 (by decide)).trans ((a9 43 (by decide)).trans g43)) ((aa19 44 (by decide)).trans ((a9 44 (by decide)).trans g44)) ((aa19 45 (by decide)).trans ((a9 45 (by decide)).trans g45)) ((aa19 46 (by decide)).trans ((a9 46 (by decide)).trans g46)) ((aa19 47 (by decide)).trans ((a9 47 (by decide)).trans g47)) ((aa19 48 (by decide)).trans k9) ((aa19 49 (by decide)).trans ((a9 49 (by decide)).trans g49)) (hH.keep AA20 (by decide)) (qp_keep hQ AA20 (by decide)) (hk) (hL) (hsg) (hP) (h4) (hn6) (htx) (he) (hkp))
  · obtain ⟨z9, rfl⟩ := hx1
    have hPx := z9.elim (fun y => y.2) (fun y => absurd y.1 ne_AN)
    refine G_istore C (lo' := [(6, .int 1), (5, .int (nI i)), (4, .ref (ad 49)), (3, .ref (ad 48)), (2, .ref (ad 40)), (1, .ref (ad 0)), (0, .ref b)]) dL_law_789 (by decide) rfl ?_
    refine G_aload_n C 2 dL_law_791 rfl rfl ?_
    refine G_aload_n C 0 dL_law_792 rfl rfl ?_
    refine G_iload C dL_law_793 rfl ?_
    refine G_iconst C (v := 1) dL_law_795 (by decide) ?_
    refine G_iadd C dL_law_796 ?_
    refine GW.topr (cI_add (a := i) (b := 1) rfl rfl) ?_
    refine G_sld C hX (j := (i + 1)) (by omega) (by omega) dL_law_797 ?_
    refine G_callV C (As := [.int (xs (i + 1))]) (rest := []) (c_X9_leastYBySearchA g40 hPx) ca_X9_leastYBySearch km_L_155 (by decide) g40 rfl rfl rfl rfl (by decide) (Nat.le_of_ble_eq_true rfl) ⟨by show cs + 2 + 0 ≤ 601024; omega, by show ss + 12 + 0 ≤ 7293034; omega⟩ dL_law_798 (fun vv25 gg26 qq27 => ?_)
    obtain ⟨rfl, hh28, aa29⟩ := qq27
    have AA30 : Agr [40] G gg26 := aa29.wk (by simp)
    refine G_istore C (lo' := [(7, .int 0), (6, .int 1), (5, .int (nI i)), (4, .ref (ad 49)), (3, .ref (ad 48)), (2, .ref (ad 40)), (1, .ref (ad 0)), (0, .ref b)]) dL_law_801 (by decide) rfl ?_
    refine G_aload_n C 2 dL_law_803 rfl rfl ?_
    refine G_callV C (As := []) (rest := []) (c_X9_thrown hh28) ca_X9_thrown km_L_122 (by decide) hh28 rfl rfl rfl rfl (by decide) (Nat.le_of_ble_eq_true rfl) ⟨by show cs + 2 + 0 + 0 ≤ 601024; omega, by show ss + 12 + 0 + 0 ≤ 7293034; omega⟩ dL_law_804 (fun vv31 gg32 qq33 => ?_)
    obtain ⟨rfl, rfl⟩ := qq33
    refine G_iload C dL_law_807 rfl ?_
    refine G_icmp_eq C 814 dL_law_809 (by decide) (fun _ => ?_) (fun h => absurd h (by decide))
    refine G_iload C dL_law_814 rfl ?_
    refine G_if_ne C 831 dL_law_816 (by decide) (fun _ => ?_) (fun h => absurd h (by decide))
    refine G_goto C 1974 dL_law_831 (by decide) ?_
    refine GW.pick [2, 3, 4, 5, 6, 7] [(5, .int (nI i)), (4, .ref (ad 49)), (3, .ref (ad 48)), (2, .ref (ad 40)), (1, .ref (ad 0)), (0, .ref b)] rfl ?_
    refine GW.widen (c1 := cs + 3) (s1 := ss + 18) (by show cs + 2 + 0 + 0 ≤ cs + 3; omega) (by show ss + 12 + 0 + 0 ≤ ss + 18; omega) ?_
    exact K _ (LI_mk  ((aa29 0 (by decide)).trans g0) ((aa29 1 (by decide)).trans g1) ((aa29 2 (by decide)).trans g2) ((aa29 3 (by decide)).trans g3) ((aa29 4 (by decide)).trans g4) ((aa29 5 (by decide)).trans g5) ((aa29 6 (by decide)).trans g6) ((aa29 8 (by decide)).trans g8) ((aa29 19 (by decide)).trans g19) ((aa29 20 (by decide)).trans g20) ((aa29 21 (by decide)).trans g21) ((aa29 22 (by decide)).trans g22) ((aa29 23 (by decide)).trans g23) ((aa29 24 (by decide)).trans g24) ((aa29 25 (by decide)).trans g25) ((aa29 26 (by decide)).trans g26) ((aa29 27 (by decide)).trans g27) ((aa29 38 (by decide)).trans g38) ((aa29 39 (by decide)).trans g39) hh28 ((aa29 41 (by decide)).trans g41) ((aa29 42 (by decide)).trans g42) ((aa29 43 (by decide)).trans g43) ((aa29 44 (by decide)).trans g44) ((aa29 45 (by decide)).trans g45) ((aa29 46 (by decide)).trans g46) ((aa29 47 (by decide)).trans g47) ((aa29 48 (by decide)).trans g48) ((aa29 49 (by decide)).trans g49) (hH.keep AA30 (by decide)) (qp_keep hQ AA30 (by decide)) (hk) (hL) (hsg) (hP) (h4) (hn6) (htx) (he) (hkp))
  · obtain ⟨z9, rfl⟩ := hx1
    have hPx := z9.elim (fun y => absurd y.1 ne_NA) (fun y => y.2)
    obtain ⟨d, h2, h60, hn⟩ := num_nat (n := xs (i + 1)) hPx.1
    have hp0 : pern d = 0 := Classical.byContradiction fun z => hPx.2 (hn ▸ (sq_y h2 h60).mpr z)
    refine G_istore C (lo' := [(6, .int 2), (5, .int (nI i)), (4, .ref (ad 49)), (3, .ref (ad 48)), (2, .ref (ad 40)), (1, .ref (ad 0)), (0, .ref b)]) dL_law_789 (by decide) rfl ?_
    refine G_aload_n C 2 dL_law_791 rfl rfl ?_
    refine G_aload_n C 0 dL_law_792 rfl rfl ?_
    refine G_iload C dL_law_793 rfl ?_
    refine G_iconst C (v := 1) dL_law_795 (by decide) ?_
    refine G_iadd C dL_law_796 ?_
    refine GW.topr (cI_add (a := i) (b := 1) rfl rfl) ?_
    refine G_sld C hX (j := (i + 1)) (by omega) (by omega) dL_law_797 ?_
    refine GW.topr (y := nI d) (hn) ?_
    refine G_callV C (As := [.int (nI d)]) (rest := []) (c_X9_leastYBySearchQ g40 h2 h60 hp0) ca_X9_leastYBySearch km_L_155 (by decide) g40 rfl rfl rfl rfl (by decide) (Nat.le_of_ble_eq_true rfl) ⟨by show cs + 2 + 0 ≤ 601024; omega, by show ss + 12 + 0 ≤ 7293034; omega⟩ dL_law_798 (fun vv34 gg35 qq36 => ?_)
    obtain ⟨rfl, hh37, aa38⟩ := qq36
    have AA39 : Agr [40] G gg35 := aa38.wk (by simp)
    refine G_istore C (lo' := [(7, .int 0), (6, .int 2), (5, .int (nI i)), (4, .ref (ad 49)), (3, .ref (ad 48)), (2, .ref (ad 40)), (1, .ref (ad 0)), (0, .ref b)]) dL_law_801 (by decide) rfl ?_
    refine G_aload_n C 2 dL_law_803 rfl rfl ?_
    refine G_callV C (As := []) (rest := []) (c_X9_thrown hh37) ca_X9_thrown km_L_122 (by decide) hh37 rfl rfl rfl rfl (by decide) (Nat.le_of_ble_eq_true rfl) ⟨by show cs + 2 + 0 + 0 ≤ 601024; omega, by show ss + 12 + 0 + 0 ≤ 7293034; omega⟩ dL_law_804 (fun vv40 gg41 qq42 => ?_)
    obtain ⟨rfl, rfl⟩ := qq42
    refine G_iload C dL_law_807 rfl ?_
    refine G_icmp_eq C 814 dL_law_809 (by decide) (fun _ => ?_) (fun h => absurd h (by decide))
    refine G_iload C dL_law_814 rfl ?_
    refine G_if_ne C 831 dL_law_816 (by decide) (fun _ => ?_) (fun h => absurd h (by decide))
    refine G_goto C 1974 dL_law_831 (by decide) ?_
    refine GW.pick [2, 3, 4, 5, 6, 7] [(5, .int (nI i)), (4, .ref (ad 49)), (3, .ref (ad 48)), (2, .ref (ad 40)), (1, .ref (ad 0)), (0, .ref b)] rfl ?_
    refine GW.widen (c1 := cs + 3) (s1 := ss + 18) (by show cs + 2 + 0 + 0 ≤ cs + 3; omega) (by show ss + 12 + 0 + 0 ≤ ss + 18; omega) ?_
    exact K _ (LI_mk  ((aa38 0 (by decide)).trans g0) ((aa38 1 (by decide)).trans g1) ((aa38 2 (by decide)).trans g2) ((aa38 3 (by decide)).trans g3) ((aa38 4 (by decide)).trans g4) ((aa38 5 (by decide)).trans g5) ((aa38 6 (by decide)).trans g6) ((aa38 8 (by decide)).trans g8) ((aa38 19 (by decide)).trans g19) ((aa38 20 (by decide)).trans g20) ((aa38 21 (by decide)).trans g21) ((aa38 22 (by decide)).trans g22) ((aa38 23 (by decide)).trans g23) ((aa38 24 (by decide)).trans g24) ((aa38 25 (by decide)).trans g25) ((aa38 26 (by decide)).trans g26) ((aa38 27 (by decide)).trans g27) ((aa38 38 (by decide)).trans g38) ((aa38 39 (by decide)).trans g39) hh37 ((aa38 41 (by decide)).trans g41) ((aa38 42 (by decide)).trans g42) ((aa38 43 (by decide)).trans g43) ((aa38 44 (by decide)).trans g44) ((aa38 45 (by decide)).trans g45) ((aa38 46 (by decide)).trans g46) ((aa38 47 (by decide)).trans g47) ((aa38 48 (by decide)).trans g48) ((aa38 49 (by decide)).trans g49) (hH.keep AA39 (by decide)) (qp_keep hQ AA39 (by decide)) (hk) (hL) (hsg) (hP) (h4) (hn6) (htx) (he) (hkp))

set_option maxRecDepth 100000 in
set_option maxHeartbeats 4000000 in
theorem LC_12 {L : GL} {E : GE} {ad : Nat → Nat} {G : Nat → va_E} {cs ss b Ls i : Nat} {xs : Nat → Int32} (C : gC L E cL_law RL 9 room_1) (hX : LWx L E b Ls xs) (hi : i + 3 ≤ Ls) (hLs : Ls ≤ 1536) (hcs : cs + 3 ≤ 601024 ∧ ss + 18 ≤ 7293034) (hI : LI L ad G) (K : ∀ G', LI L ad G' → GW L E 50 ad G' (cs + 3) (ss + 18) 1974 [(5, .int (nI i)), (4, .ref (ad 49)), (3, .ref (ad 48)), (2, .ref (ad 40)), (1, .ref (ad 0)), (0, .ref b)] []) : GW L E 50 ad G cs ss 847 [(5, .int (nI i)), (4, .ref (ad 49)), (3, .ref (ad 48)), (2, .ref (ad 40)), (1, .ref (ad 0)), (0, .ref b)] [] := by
  refine LI_elim hI (fun sn t1 t2 t3 t4 t5 b1 b2 b3 b4 b5 s0 q1 q2 q3 q4 q5 xz l ml f l2 ml2 f2 l3 ml3 f3 hs len od ps rs cu tx ik th m q te fx fy nx ny ux uy us px py sp bg fo le fi re ca f42 f43 pf tm xx yy ov ow g0 g1 g2 g3 g4 g5 g6 g8 g19 g20 g21 g22 g23 g24 g25 g26 g27 g38 g39 g40 g41 g42 g43 g44 g45 g46 g47 g48 g49 hH hQ hk hL hsg hP h4 hn6 htx he hkp => ?_)
  refine G_aload_n C 1 dL_law_847 rfl rfl ?_
  refine G_aload_n C 0 dL_law_848 rfl rfl ?_
  refine G_iload C dL_law_849 rfl ?_
  refine G_iconst C (v := 1) dL_law_851 (by decide) ?_
  refine G_iadd C dL_law_852 ?_
  refine GW.topr (cI_add (a := i) (b := 1) rfl rfl) ?_
  refine G_sld C hX (j := (i + 1)) (by omega) (by omega) dL_law_853 ?_
  refine G_aload_n C 3 dL_law_854 rfl rfl ?_
  refine G_callSH C (As := [.ref (ad 0), .int (xs (i + 1)), .ref (ad 48)]) (rest := []) (w_isLaid (c_X8_isLaid g0 g22 g23) g0 (fun v G2 hq => by obtain ⟨rfl, _, rfl⟩ := hq; exact ⟨⟨_, rfl⟩, g48⟩) (fun e G2 h => h.1)) ca_L_isLaid km_L_160 rfl rfl (by decide) (Nat.le_of_ble_eq_true rfl) ⟨by show cs + 1 ≤ 601024; omega, by show ss + 6 ≤ 7293034; omega⟩ dL_law_855 (fun vv G9 hq9 => ?_)
  rcases hq9 with ⟨r, G1, hq1, rfl, k9, a9⟩ | ⟨hx1, rfl⟩
  · obtain ⟨h9, q90, rfl⟩ := hq1
    obtain rfl := (sint_inj h9).symm
    have AA1 : Agr [48] G G9 := a9.wk (by simp)
    have BB2 : Agr [48] G G9 := a9.wk (by simp)
    obtain ⟨d, h2, h60, hn⟩ := num_nat (n := xs (i + 1)) q90
    refine G_istore C (lo' := [(6, .int 0), (5, .int (nI i)), (4, .ref (ad 49)), (3, .ref (ad 48)), (2, .ref (ad 40)), (1, .ref (ad 0)), (0, .ref b)]) dL_law_858 (by decide) rfl ?_
    refine G_aload_n C 2 dL_law_860 rfl rfl ?_
    refine G_aload_n C 0 dL_law_861 rfl rfl ?_
    refine G_iload C dL_law_862 rfl ?_
    refine G_iconst C (v := 1) dL_law_864 (by decide) ?_
    refine G_iadd C dL_law_865 ?_
    refine GW.topr (cI_add (a := i) (b := 1) rfl rfl) ?_
    refine G_sld C hX (j := (i + 1)) (by omega) (by omega) dL_law_866 ?_
    refine GW.topr (y := nI d) (hn) ?_
    refine G_callV C (As := [.int (nI d)]) (rest := []) (c_X9_isLaidR ((a9 40 (by decide)).trans g40) ((a9 41 (by decide)).trans g41) h2 h60) ca_X9_isLaid km_L_162 (by decide) ((a9 40 (by decide)).trans g40) rfl rfl rfl rfl (by decide) (Nat.le_of_ble_eq_true rfl) ⟨by show cs + 1 + 0 ≤ 601024; omega, by show ss + 6 + 0 ≤ 7293034; omega⟩ dL_law_867 (fun vv3 gg4 qq5 => ?_)
    obtain ⟨rfl, hh6, aa7⟩ := qq5
    have AA8 : Agr [48, 40] G gg4 := AA1.tr aa7 (by simp) (by simp)
    have BB9 : Agr [48, 40] G gg4 := BB2.tr aa7 (by simp) (by simp)
    refine G_istore C (lo' := [(7, .int (if f d < 0 then 0 else 1)), (6, .int 0), (5, .int (nI i)), (4, .ref (ad 49)), (3, .ref (ad 48)), (2, .ref (ad 40)), (1, .ref (ad 0)), (0, .ref b)]) dL_law_870 (by decide) rfl ?_
    refine G_aload_n C 2 dL_law_872 rfl rfl ?_
    refine G_callV C (As := []) (rest := []) (c_X9_thrown hh6) ca_X9_thrown km_L_122 (by decide) hh6 rfl rfl rfl rfl (by decide) (Nat.le_of_ble_eq_true rfl) ⟨by show cs + 1 + 0 + 0 ≤ 601024; omega, by show ss + 6 + 0 + 0 ≤ 7293034; omega⟩ dL_law_873 (fun vv10 gg11 qq12 => ?_)
    obtain ⟨rfl, rfl⟩ := qq12
    refine G_iload C dL_law_876 rfl ?_
    refine G_icmp_eq C 883 dL_law_878 (by decide) (fun _ => ?_) (fun h => absurd h (by decide))
    refine G_iload C dL_law_883 rfl ?_
    refine G_if_ne C 907 dL_law_885 (by decide) (fun h => absurd h (by decide)) (fun _ => ?_)
    refine G_aload_n C 3 dL_law_888 rfl rfl ?_
    refine G_iconst C (v := 0) dL_law_889 (by decide) ?_
    refine G_laldN C 48 (by decide) 0 ((aa7 48 (by decide)).trans k9) rfl (by decide) (by omega) dL_law_890 ?_
    refine GW.toprl (y := (if hasF f (xs (i + 1)) = 0 then 0 else 1)) (pk_uLs) ?_
    refine G_iload C dL_law_891 rfl ?_
    refine G_if_eq C 900 dL_law_893 (by decide) (fun c893 => ?_) (fun c893 => ?_)
    · refine G_lconst C (v := 0) dL_law_900 (by decide) ?_
      refine G_lc_eq C 907 dL_law_901 dL_law_902 (by decide) (fun c901 => ?_) (fun c901 => False.elim (c901 (by rw [hn, has_i hk h2 h60]; exact if_pos c893)))
      refine G_goto C 1974 dL_law_907 (by decide) ?_
      refine GW.pick [2, 3, 4, 5, 6, 7] [(5, .int (nI i)), (4, .ref (ad 49)), (3, .ref (ad 48)), (2, .ref (ad 40)), (1, .ref (ad 0)), (0, .ref b)] rfl ?_
      refine GW.widen (c1 := cs + 3) (s1 := ss + 18) (by show cs + 1 + 0 + 0 ≤ cs + 3; omega) (by show ss + 6 + 0 + 0 ≤ ss + 18; omega) ?_
      exact K _ (LI_mk  ((aa7 0 (by decide)).trans ((a9 0 (by decide)).trans g0)) ((aa7 1 (by decide)).trans ((a9 1 (by decide)).trans g1)) ((aa7 2 (by decide)).trans ((a9 2 (by decide)).trans g2)) ((aa7 3 (by decide)).trans ((a9 3 (by decide)).trans g3)) ((aa7 4 (by decide)).trans ((a9 4 (by decide)).trans g4)) ((aa7 5 (by decide)).trans ((a9 5 (by decide)).trans g5)) ((aa7 6 (by decide)).trans ((a9 6 (by decide)).trans g6)) ((aa7 8 (by decide)).trans ((a9 8 (by decide)).trans g8)) ((aa7 19 (by decide)).trans ((a9 19 (by decide)).trans g19)) ((aa7 20 (by decide)).trans ((a9 20 (by decide)).trans g20)) ((aa7 21 (by decide)).trans ((a9 21 (by decide)).trans g21)) ((aa7 22 (by decide)).trans ((a9 22 (by decide)).trans g22)) ((aa7 23 (by decide)).trans ((a9 23 (by decide)).trans g23)) ((aa7 24 (by decide)).trans ((a9 24 (by decide)).trans g24)) ((aa7 25 (by decide)).trans ((a9 25 (by decide)).trans g25)) ((aa7 26 (by decide)).trans ((a9 26 (by decide)).trans g26)) ((aa7 27 (by decide)).trans ((a9 27 (by decide)).trans g27)) ((aa7 38 (by decide)).trans ((a9 38 (by decide)).trans g38)) ((aa7 39 (by decide)).trans ((a9 39 (by decide)).trans g39)) hh6 ((aa7 41 (by decide)).trans ((a9 41 (by decide)).trans g41)) ((aa7 42 (by decide)).trans ((a9 42 (by decide)).trans g42)) ((aa7 43 (by decide)).trans ((a9 43 (by decide)).trans g43)) ((aa7 44 (by decide)).trans ((a9 44 (by decide)).trans g44)) ((aa7 45 (by decide)).trans ((a9 45 (by decide)).trans g45)) ((aa7 46 (by decide)).trans ((a9 46 (by decide)).trans g46)) ((aa7 47 (by decide)).trans ((a9 47 (by decide)).trans g47)) ((aa7 48 (by decide)).trans k9) ((aa7 49 (by decide)).trans ((a9 49 (by decide)).trans g49)) (hH.keep AA8 (by decide)) (qp_keep hQ AA8 (by decide)) (hk) (hL) (hsg) (hP) (h4) (hn6) (htx) (he) (hkp))
    · refine G_lconst C (v := 1) dL_law_896 (by decide) ?_
      refine G_goto C 901 dL_law_897 (by decide) ?_
      refine G_lc_eq C 907 dL_law_901 dL_law_902 (by decide) (fun c901 => ?_) (fun c901 => False.elim (c901 (by rw [hn, has_i hk h2 h60]; exact if_neg c893)))
      refine G_goto C 1974 dL_law_907 (by decide) ?_
      refine GW.pick [2, 3, 4, 5, 6, 7] [(5, .int (nI i)), (4, .ref (ad 49)), (3, .ref (ad 48)), (2, .ref (ad 40)), (1, .ref (ad 0)), (0, .ref b)] rfl ?_
      refine GW.widen (c1 := cs + 3) (s1 := ss + 18) (by show cs + 1 + 0 + 0 ≤ cs + 3; omega) (by show ss + 6 + 0 + 0 ≤ ss + 18; omega) ?_
      exact K _ (LI_mk  ((aa7 0 (by decide)).trans ((a9 0 (by decide)).trans g0)) ((aa7 1 (by decide)).trans ((a9 1 (by decide)).trans g1)) ((aa7 2 (by decide)).trans ((a9 2 (by decide)).trans g2)) ((aa7 3 (by decide)).trans ((a9 3 (by decide)).trans g3)) ((aa7 4 (by decide)).trans ((a9 4 (by decide)).trans g4)) ((aa7 5 (by decide)).trans ((a9 5 (by decide)).trans g5)) ((aa7 6 (by decide)).trans ((a9 6 (by decide)).trans g6)) ((aa7 8 (by decide)).trans ((a9 8 (by decide)).trans g8)) ((aa7 19 (by decide)).trans ((a9 19 (by decide)).trans g19)) ((aa7 20 (by decide)).trans ((a9 20 (by decide)).trans g20)) ((aa7 21 (by decide)).trans ((a9 21 (by decide)).trans g21)) ((aa7 22 (by decide)).trans ((a9 22 (by decide)).trans g22)) ((aa7 23 (by decide)).trans ((a9 23 (by decide)).trans g23)) ((aa7 24 (by decide)).trans ((a9 24 (by decide)).trans g24)) ((aa7 25 (by decide)).trans ((a9 25 (by decide)).trans g25)) ((aa7 26 (by decide)).trans ((a9 26 (by decide)).trans g26)) ((aa7 27 (by decide)).trans ((a9 27 (by decide)).trans g27)) ((aa7 38 (by decide)).trans ((a9 38 (by decide)).trans g38)) ((aa7 39 (by decide)).trans ((a9 39 (by decide)).trans g39)) hh6 ((aa7 41 (by decide)).trans ((a9 41 (by decide)).trans g41)) ((aa7 42 (by decide)).trans ((a9 42 (by decide)).trans g42)) ((aa7 43 (by decide)).trans ((a9 43 (by decide)).trans g43)) ((aa7 44 (by decide)).trans ((a9 44 (by decide)).trans g44)) ((aa7 45 (by decide)).trans ((a9 45 (by decide)).trans g45)) ((aa7 46 (by decide)).trans ((a9 46 (by decide)).trans g46)) ((aa7 47 (by decide)).trans ((a9 47 (by decide)).trans g47)) ((aa7 48 (by decide)).trans k9) ((aa7 49 (by decide)).trans ((a9 49 (by decide)).trans g49)) (hH.keep AA8 (by decide)) (qp_keep hQ AA8 (by decide)) (hk) (hL) (hsg) (hP) (h4) (hn6) (htx) (he) (hkp))
  · obtain ⟨-, hPx, rfl⟩ := hx1
    refine G_istore C (lo' := [(6, .int 1), (5, .int (nI i)), (4, .ref (ad 49)), (3, .ref (ad 48)), (2, .ref (ad 40)), (1, .ref (ad 0)), (0, .ref b)]) dL_law_858 (by decide) rfl ?_
    refine G_aload_n C 2 dL_law_860 rfl rfl ?_
    refine G_aload_n C 0 dL_law_861 rfl rfl ?_
    refine G_iload C dL_law_862 rfl ?_
    refine G_iconst C (v := 1) dL_law_864 (by decide) ?_
    refine G_iadd C dL_law_865 ?_
    refine GW.topr (cI_add (a := i) (b := 1) rfl rfl) ?_
    refine G_sld C hX (j := (i + 1)) (by omega) (by omega) dL_law_866 ?_
    refine G_callV C (As := [.int (xs (i + 1))]) (rest := []) (c_X9_isLaidA g40 hPx) ca_X9_isLaid km_L_162 (by decide) g40 rfl rfl rfl rfl (by decide) (Nat.le_of_ble_eq_true rfl) ⟨by show cs + 1 + 0 ≤ 601024; omega, by show ss + 6 + 0 ≤ 7293034; omega⟩ dL_law_867 (fun vv13 gg14 qq15 => ?_)
    obtain ⟨rfl, hh16, aa17⟩ := qq15
    have AA18 : Agr [40] G gg14 := aa17.wk (by simp)
    refine G_istore C (lo' := [(7, .int 0), (6, .int 1), (5, .int (nI i)), (4, .ref (ad 49)), (3, .ref (ad 48)), (2, .ref (ad 40)), (1, .ref (ad 0)), (0, .ref b)]) dL_law_870 (by decide) rfl ?_
    refine G_aload_n C 2 dL_law_872 rfl rfl ?_
    refine G_callV C (As := []) (rest := []) (c_X9_thrown hh16) ca_X9_thrown km_L_122 (by decide) hh16 rfl rfl rfl rfl (by decide) (Nat.le_of_ble_eq_true rfl) ⟨by show cs + 1 + 0 + 0 ≤ 601024; omega, by show ss + 6 + 0 + 0 ≤ 7293034; omega⟩ dL_law_873 (fun vv19 gg20 qq21 => ?_)
    obtain ⟨rfl, rfl⟩ := qq21
    refine G_iload C dL_law_876 rfl ?_
    refine G_icmp_eq C 883 dL_law_878 (by decide) (fun _ => ?_) (fun h => absurd h (by decide))
    refine G_iload C dL_law_883 rfl ?_
    refine G_if_ne C 907 dL_law_885 (by decide) (fun _ => ?_) (fun h => absurd h (by decide))
    refine G_goto C 1974 dL_law_907 (by decide) ?_
    refine GW.pick [2, 3, 4, 5, 6, 7] [(5, .int (nI i)), (4, .ref (ad 49)), (3, .ref (ad 48)), (2, .ref (ad 40)), (1, .ref (ad 0)), (0, .ref b)] rfl ?_
    refine GW.widen (c1 := cs + 3) (s1 := ss + 18) (by show cs + 1 + 0 + 0 ≤ cs + 3; omega) (by show ss + 6 + 0 + 0 ≤ ss + 18; omega) ?_
    exact K _ (LI_mk  ((aa17 0 (by decide)).trans g0) ((aa17 1 (by decide)).trans g1) ((aa17 2 (by decide)).trans g2) ((aa17 3 (by decide)).trans g3) ((aa17 4 (by decide)).trans g4) ((aa17 5 (by decide)).trans g5) ((aa17 6 (by decide)).trans g6) ((aa17 8 (by decide)).trans g8) ((aa17 19 (by decide)).trans g19) ((aa17 20 (by decide)).trans g20) ((aa17 21 (by decide)).trans g21) ((aa17 22 (by decide)).trans g22) ((aa17 23 (by decide)).trans g23) ((aa17 24 (by decide)).trans g24) ((aa17 25 (by decide)).trans g25) ((aa17 26 (by decide)).trans g26) ((aa17 27 (by decide)).trans g27) ((aa17 38 (by decide)).trans g38) ((aa17 39 (by decide)).trans g39) hh16 ((aa17 41 (by decide)).trans g41) ((aa17 42 (by decide)).trans g42) ((aa17 43 (by decide)).trans g43) ((aa17 44 (by decide)).trans g44) ((aa17 45 (by decide)).trans g45) ((aa17 46 (by decide)).trans g46) ((aa17 47 (by decide)).trans g47) ((aa17 48 (by decide)).trans g48) ((aa17 49 (by decide)).trans g49) (hH.keep AA18 (by decide)) (qp_keep hQ AA18 (by decide)) (hk) (hL) (hsg) (hP) (h4) (hn6) (htx) (he) (hkp))

set_option maxRecDepth 100000 in
set_option maxHeartbeats 4000000 in
theorem LC_13 {L : GL} {E : GE} {ad : Nat → Nat} {G : Nat → va_E} {cs ss b Ls i : Nat} {xs : Nat → Int32} (C : gC L E cL_law RL 9 room_1) (hX : LWx L E b Ls xs) (hi : i + 3 ≤ Ls) (hLs : Ls ≤ 1536) (hcs : cs + 3 ≤ 601024 ∧ ss + 18 ≤ 7293034) (hI : LI L ad G) (K : ∀ G', LI L ad G' → GW L E 50 ad G' (cs + 3) (ss + 18) 1974 [(5, .int (nI i)), (4, .ref (ad 49)), (3, .ref (ad 48)), (2, .ref (ad 40)), (1, .ref (ad 0)), (0, .ref b)] []) : GW L E 50 ad G cs ss 910 [(5, .int (nI i)), (4, .ref (ad 49)), (3, .ref (ad 48)), (2, .ref (ad 40)), (1, .ref (ad 0)), (0, .ref b)] [] := by
  refine LI_elim hI (fun sn t1 t2 t3 t4 t5 b1 b2 b3 b4 b5 s0 q1 q2 q3 q4 q5 xz l ml f l2 ml2 f2 l3 ml3 f3 hs len od ps rs cu tx ik th m q te fx fy nx ny ux uy us px py sp bg fo le fi re ca f42 f43 pf tm xx yy ov ow g0 g1 g2 g3 g4 g5 g6 g8 g19 g20 g21 g22 g23 g24 g25 g26 g27 g38 g39 g40 g41 g42 g43 g44 g45 g46 g47 g48 g49 hH hQ hk hL hsg hP h4 hn6 htx he hkp => ?_)
  refine G_aload_n C 1 dL_law_910 rfl rfl ?_
  refine G_aload_n C 0 dL_law_911 rfl rfl ?_
  refine G_iload C dL_law_912 rfl ?_
  refine G_iconst C (v := 1) dL_law_914 (by decide) ?_
  refine G_iadd C dL_law_915 ?_
  refine GW.topr (cI_add (a := i) (b := 1) rfl rfl) ?_
  refine G_sld C hX (j := (i + 1)) (by omega) (by omega) dL_law_916 ?_
  refine G_aload_n C 3 dL_law_917 rfl rfl ?_
  refine G_callSH C (As := [.ref (ad 0), .int (xs (i + 1)), .ref (ad 48)]) (rest := []) (w_stoneFrom (c_X8_stoneFrom g0 g22 g23) g0 (fun v G2 hq => by obtain ⟨d, rfl, _, _, _, _, rfl⟩ := hq; exact ⟨⟨_, rfl⟩, g48⟩) (fun e G2 h => h.1.elim (fun z => Or.inl z.1) (fun z => Or.inr z.1))) ca_L_stoneFrom km_L_163 rfl rfl (by decide) (Nat.le_of_ble_eq_true rfl) ⟨by show cs + 2 ≤ 601024; omega, by show ss + 12 ≤ 7293034; omega⟩ dL_law_918 (fun vv G9 hq9 => ?_)
  rcases hq9 with ⟨r, G1, hq1, rfl, k9, a9⟩ | ⟨hx1, rfl⟩ | ⟨hx1, rfl⟩
  · obtain ⟨d, h9, q90, q91, q92, q93, rfl⟩ := hq1
    obtain rfl := (sint_inj h9).symm
    have AA1 : Agr [48] G G9 := a9.wk (by simp)
    have BB2 : Agr [48] G G9 := a9.wk (by simp)
    refine G_istore C (lo' := [(6, .int 0), (5, .int (nI i)), (4, .ref (ad 49)), (3, .ref (ad 48)), (2, .ref (ad 40)), (1, .ref (ad 0)), (0, .ref b)]) dL_law_921 (by decide) rfl ?_
    refine G_aload_n C 2 dL_law_923 rfl rfl ?_
    refine G_aload_n C 0 dL_law_924 rfl rfl ?_
    refine G_iload C dL_law_925 rfl ?_
    refine G_iconst C (v := 1) dL_law_927 (by decide) ?_
    refine G_iadd C dL_law_928 ?_
    refine GW.topr (cI_add (a := i) (b := 1) rfl rfl) ?_
    refine G_sld C hX (j := (i + 1)) (by omega) (by omega) dL_law_929 ?_
    refine GW.topr (y := nI d) (q90) ?_
    refine G_callV C (As := [.int (nI d)]) (rest := []) (c_X9_stoneFromR ((a9 40 (by decide)).trans g40) ((a9 41 (by decide)).trans g41) q91 q92 hk q93) ca_X9_stoneFrom km_L_165 (by decide) ((a9 40 (by decide)).trans g40) rfl rfl rfl rfl (by decide) (Nat.le_of_ble_eq_true rfl) ⟨by show cs + 2 + 0 ≤ 601024; omega, by show ss + 12 + 0 ≤ 7293034; omega⟩ dL_law_930 (fun vv3 gg4 qq5 => ?_)
    obtain ⟨rfl, hh6, aa7⟩ := qq5
    have AA8 : Agr [48, 40] G gg4 := AA1.tr aa7 (by simp) (by simp)
    have BB9 : Agr [48, 40] G gg4 := BB2.tr aa7 (by simp) (by simp)
    refine G_istore C (lo' := [(7, .int (nI (sfF f (61 - d) d))), (6, .int 0), (5, .int (nI i)), (4, .ref (ad 49)), (3, .ref (ad 48)), (2, .ref (ad 40)), (1, .ref (ad 0)), (0, .ref b)]) dL_law_933 (by decide) rfl ?_
    refine G_aload_n C 2 dL_law_935 rfl rfl ?_
    refine G_callV C (As := []) (rest := []) (c_X9_thrown hh6) ca_X9_thrown km_L_122 (by decide) hh6 rfl rfl rfl rfl (by decide) (Nat.le_of_ble_eq_true rfl) ⟨by show cs + 2 + 0 + 0 ≤ 601024; omega, by show ss + 12 + 0 + 0 ≤ 7293034; omega⟩ dL_law_936 (fun vv10 gg11 qq12 => ?_)
    obtain ⟨rfl, rfl⟩ := qq12
    refine G_iload C dL_law_939 rfl ?_
    refine G_icmp_eq C 946 dL_law_941 (by decide) (fun _ => ?_) (fun h => absurd h (by decide))
    refine G_iload C dL_law_946 rfl ?_
    refine G_if_ne C 963 dL_law_948 (by decide) (fun h => absurd h (by decide)) (fun _ => ?_)
    refine G_aload_n C 3 dL_law_951 rfl rfl ?_
    refine G_iconst C (v := 0) dL_law_952 (by decide) ?_
    refine G_laldN C 48 (by decide) 0 ((aa7 48 (by decide)).trans k9) rfl (by decide) (by omega) dL_law_953 ?_
    refine GW.toprl (y := (nI (sfF f (61 - d) d)).toInt64) (pk_uLs) ?_
    refine G_iload C dL_law_954 rfl ?_
    refine G_i2l C dL_law_956 rfl ?_
    refine G_lc_eq C 963 dL_law_957 dL_law_958 (by decide) (fun c957 => ?_) (fun c957 => False.elim (c957 (rfl)))
    refine G_goto C 1974 dL_law_963 (by decide) ?_
    refine GW.pick [2, 3, 4, 5, 6, 7] [(5, .int (nI i)), (4, .ref (ad 49)), (3, .ref (ad 48)), (2, .ref (ad 40)), (1, .ref (ad 0)), (0, .ref b)] rfl ?_
    refine GW.widen (c1 := cs + 3) (s1 := ss + 18) (by show cs + 2 + 0 + 0 ≤ cs + 3; omega) (by show ss + 12 + 0 + 0 ≤ ss + 18; omega) ?_
    exact K _ (LI_mk  ((aa7 0 (by decide)).trans ((a9 0 (by decide)).trans g0)) ((aa7 1 (by decide)).trans ((a9 1 (by decide)).trans g1)) ((aa7 2 (by decide)).trans ((a9 2 (by decide)).trans g2)) ((aa7 3 (by decide)).trans ((a9 3 (by decide)).trans g3)) ((aa7 4 (by decide)).trans ((a9 4 (by decide)).trans g4)) ((aa7 5 (by decide)).trans ((a9 5 (by decide)).trans g5)) ((aa7 6 (by decide)).trans ((a9 6 (by decide)).trans g6)) ((aa7 8 (by decide)).trans ((a9 8 (by decide)).trans g8)) ((aa7 19 (by decide)).trans ((a9 19 (by decide)).trans g19)) ((aa7 20 (by decide)).trans ((a9 20 (by decide)).trans g20)) ((aa7 21 (by decide)).trans ((a9 21 (by decide)).trans g21)) ((aa7 22 (by decide)).trans ((a9 22 (by decide)).trans g22)) ((aa7 23 (by decide)).trans ((a9 23 (by decide)).trans g23)) ((aa7 24 (by decide)).trans ((a9 24 (by decide)).trans g24)) ((aa7 25 (by decide)).trans ((a9 25 (by decide)).trans g25)) ((aa7 26 (by decide)).trans ((a9 26 (by decide)).trans g26)) ((aa7 27 (by decide)).trans ((a9 27 (by decide)).trans g27)) ((aa7 38 (by decide)).trans ((a9 38 (by decide)).trans g38)) ((aa7 39 (by decide)).trans ((a9 39 (by decide)).trans g39)) hh6 ((aa7 41 (by decide)).trans ((a9 41 (by decide)).trans g41)) ((aa7 42 (by decide)).trans ((a9 42 (by decide)).trans g42)) ((aa7 43 (by decide)).trans ((a9 43 (by decide)).trans g43)) ((aa7 44 (by decide)).trans ((a9 44 (by decide)).trans g44)) ((aa7 45 (by decide)).trans ((a9 45 (by decide)).trans g45)) ((aa7 46 (by decide)).trans ((a9 46 (by decide)).trans g46)) ((aa7 47 (by decide)).trans ((a9 47 (by decide)).trans g47)) ((aa7 48 (by decide)).trans k9) ((aa7 49 (by decide)).trans ((a9 49 (by decide)).trans g49)) (hH.keep AA8 (by decide)) (qp_keep hQ AA8 (by decide)) (hk) (hL) (hsg) (hP) (h4) (hn6) (htx) (he) (hkp))
  · obtain ⟨z9, rfl⟩ := hx1
    have hPx := z9.elim (fun y => y.2) (fun y => absurd y.1 ne_AN)
    refine G_istore C (lo' := [(6, .int 1), (5, .int (nI i)), (4, .ref (ad 49)), (3, .ref (ad 48)), (2, .ref (ad 40)), (1, .ref (ad 0)), (0, .ref b)]) dL_law_921 (by decide) rfl ?_
    refine G_aload_n C 2 dL_law_923 rfl rfl ?_
    refine G_aload_n C 0 dL_law_924 rfl rfl ?_
    refine G_iload C dL_law_925 rfl ?_
    refine G_iconst C (v := 1) dL_law_927 (by decide) ?_
    refine G_iadd C dL_law_928 ?_
    refine GW.topr (cI_add (a := i) (b := 1) rfl rfl) ?_
    refine G_sld C hX (j := (i + 1)) (by omega) (by omega) dL_law_929 ?_
    refine G_callV C (As := [.int (xs (i + 1))]) (rest := []) (c_X9_stoneFromA g40 hPx) ca_X9_stoneFrom km_L_165 (by decide) g40 rfl rfl rfl rfl (by decide) (Nat.le_of_ble_eq_true rfl) ⟨by show cs + 2 + 0 ≤ 601024; omega, by show ss + 12 + 0 ≤ 7293034; omega⟩ dL_law_930 (fun vv13 gg14 qq15 => ?_)
    obtain ⟨rfl, hh16, aa17⟩ := qq15
    have AA18 : Agr [40] G gg14 := aa17.wk (by simp)
    refine G_istore C (lo' := [(7, .int 0), (6, .int 1), (5, .int (nI i)), (4, .ref (ad 49)), (3, .ref (ad 48)), (2, .ref (ad 40)), (1, .ref (ad 0)), (0, .ref b)]) dL_law_933 (by decide) rfl ?_
    refine G_aload_n C 2 dL_law_935 rfl rfl ?_
    refine G_callV C (As := []) (rest := []) (c_X9_thrown hh16) ca_X9_thrown km_L_122 (by decide) hh16 rfl rfl rfl rfl (by decide) (Nat.le_of_ble_eq_true rfl) ⟨by show cs + 2 + 0 + 0 ≤ 601024; omega, by show ss + 12 + 0 + 0 ≤ 7293034; omega⟩ dL_law_936 (fun vv19 gg20 qq21 => ?_)
    obtain ⟨rfl, rfl⟩ := qq21
    refine G_iload C dL_law_939 rfl ?_
    refine G_icmp_eq C 946 dL_law_941 (by decide) (fun _ => ?_) (fun h => absurd h (by decide))
    refine G_iload C dL_law_946 rfl ?_
    refine G_if_ne C 963 dL_law_948 (by decide) (fun _ => ?_) (fun h => absurd h (by decide))
    refine G_goto C 1974 dL_law_963 (by decide) ?_
    refine GW.pick [2, 3, 4, 5, 6, 7] [(5, .int (nI i)), (4, .ref (ad 49)), (3, .ref (ad 48)), (2, .ref (ad 40)), (1, .ref (ad 0)), (0, .ref b)] rfl ?_
    refine GW.widen (c1 := cs + 3) (s1 := ss + 18) (by show cs + 2 + 0 + 0 ≤ cs + 3; omega) (by show ss + 12 + 0 + 0 ≤ ss + 18; omega) ?_
    exact K _ (LI_mk  ((aa17 0 (by decide)).trans g0) ((aa17 1 (by decide)).trans g1) ((aa17 2 (by decide)).trans g2) ((aa17 3 (by decide)).trans g3) ((aa17 4 (by decide)).trans g4) ((aa17 5 (by decide)).trans g5) ((aa17 6 (by decide)).trans g6) ((aa17 8 (by decide)).trans g8) ((aa17 19 (by decide)).trans g19) ((aa17 20 (by decide)).trans g20) ((aa17 21 (by decide)).trans g21) ((aa17 22 (by decide)).trans g22) ((aa17 23 (by decide)).trans g23) ((aa17 24 (by decide)).trans g24) ((aa17 25 (by decide)).trans g25) ((aa17 26 (by decide)).trans g26) ((aa17 27 (by decide)).trans g27) ((aa17 38 (by decide)).trans g38) ((aa17 39 (by decide)).trans g39) hh16 ((aa17 41 (by decide)).trans g41) ((aa17 42 (by decide)).trans g42) ((aa17 43 (by decide)).trans g43) ((aa17 44 (by decide)).trans g44) ((aa17 45 (by decide)).trans g45) ((aa17 46 (by decide)).trans g46) ((aa17 47 (by decide)).trans g47) ((aa17 48 (by decide)).trans g48) ((aa17 49 (by decide)).trans g49) (hH.keep AA18 (by decide)) (qp_keep hQ AA18 (by decide)) (hk) (hL) (hsg) (hP) (h4) (hn6) (htx) (he) (hkp))
  · obtain ⟨z9, rfl⟩ := hx1
    have hPx := z9.elim (fun y => absurd y.1 ne_NA) (fun y => y.2)
    obtain ⟨d, hn, h2, h60, hs9⟩ := hPx
    refine G_istore C (lo' := [(6, .int 2), (5, .int (nI i)), (4, .ref (ad 49)), (3, .ref (ad 48)), (2, .ref (ad 40)), (1, .ref (ad 0)), (0, .ref b)]) dL_law_921 (by decide) rfl ?_
    refine G_aload_n C 2 dL_law_923 rfl rfl ?_
    refine G_aload_n C 0 dL_law_924 rfl rfl ?_
    refine G_iload C dL_law_925 rfl ?_
    refine G_iconst C (v := 1) dL_law_927 (by decide) ?_
    refine G_iadd C dL_law_928 ?_
    refine GW.topr (cI_add (a := i) (b := 1) rfl rfl) ?_
    refine G_sld C hX (j := (i + 1)) (by omega) (by omega) dL_law_929 ?_
    refine GW.topr (y := nI d) (hn) ?_
    refine G_callV C (As := [.int (nI d)]) (rest := []) (c_X9_stoneFromS g40 g41 h2 h60 hk hs9) ca_X9_stoneFrom km_L_165 (by decide) g40 rfl rfl rfl rfl (by decide) (Nat.le_of_ble_eq_true rfl) ⟨by show cs + 2 + 0 ≤ 601024; omega, by show ss + 12 + 0 ≤ 7293034; omega⟩ dL_law_930 (fun vv22 gg23 qq24 => ?_)
    obtain ⟨rfl, hh25, aa26⟩ := qq24
    have AA27 : Agr [40] G gg23 := aa26.wk (by simp)
    refine G_istore C (lo' := [(7, .int 0), (6, .int 2), (5, .int (nI i)), (4, .ref (ad 49)), (3, .ref (ad 48)), (2, .ref (ad 40)), (1, .ref (ad 0)), (0, .ref b)]) dL_law_933 (by decide) rfl ?_
    refine G_aload_n C 2 dL_law_935 rfl rfl ?_
    refine G_callV C (As := []) (rest := []) (c_X9_thrown hh25) ca_X9_thrown km_L_122 (by decide) hh25 rfl rfl rfl rfl (by decide) (Nat.le_of_ble_eq_true rfl) ⟨by show cs + 2 + 0 + 0 ≤ 601024; omega, by show ss + 12 + 0 + 0 ≤ 7293034; omega⟩ dL_law_936 (fun vv28 gg29 qq30 => ?_)
    obtain ⟨rfl, rfl⟩ := qq30
    refine G_iload C dL_law_939 rfl ?_
    refine G_icmp_eq C 946 dL_law_941 (by decide) (fun _ => ?_) (fun h => absurd h (by decide))
    refine G_iload C dL_law_946 rfl ?_
    refine G_if_ne C 963 dL_law_948 (by decide) (fun _ => ?_) (fun h => absurd h (by decide))
    refine G_goto C 1974 dL_law_963 (by decide) ?_
    refine GW.pick [2, 3, 4, 5, 6, 7] [(5, .int (nI i)), (4, .ref (ad 49)), (3, .ref (ad 48)), (2, .ref (ad 40)), (1, .ref (ad 0)), (0, .ref b)] rfl ?_
    refine GW.widen (c1 := cs + 3) (s1 := ss + 18) (by show cs + 2 + 0 + 0 ≤ cs + 3; omega) (by show ss + 12 + 0 + 0 ≤ ss + 18; omega) ?_
    exact K _ (LI_mk  ((aa26 0 (by decide)).trans g0) ((aa26 1 (by decide)).trans g1) ((aa26 2 (by decide)).trans g2) ((aa26 3 (by decide)).trans g3) ((aa26 4 (by decide)).trans g4) ((aa26 5 (by decide)).trans g5) ((aa26 6 (by decide)).trans g6) ((aa26 8 (by decide)).trans g8) ((aa26 19 (by decide)).trans g19) ((aa26 20 (by decide)).trans g20) ((aa26 21 (by decide)).trans g21) ((aa26 22 (by decide)).trans g22) ((aa26 23 (by decide)).trans g23) ((aa26 24 (by decide)).trans g24) ((aa26 25 (by decide)).trans g25) ((aa26 26 (by decide)).trans g26) ((aa26 27 (by decide)).trans g27) ((aa26 38 (by decide)).trans g38) ((aa26 39 (by decide)).trans g39) hh25 ((aa26 41 (by decide)).trans g41) ((aa26 42 (by decide)).trans g42) ((aa26 43 (by decide)).trans g43) ((aa26 44 (by decide)).trans g44) ((aa26 45 (by decide)).trans g45) ((aa26 46 (by decide)).trans g46) ((aa26 47 (by decide)).trans g47) ((aa26 48 (by decide)).trans g48) ((aa26 49 (by decide)).trans g49) (hH.keep AA27 (by decide)) (qp_keep hQ AA27 (by decide)) (hk) (hL) (hsg) (hP) (h4) (hn6) (htx) (he) (hkp))

set_option maxRecDepth 100000 in
set_option maxHeartbeats 4000000 in
theorem LC_14 {L : GL} {E : GE} {ad : Nat → Nat} {G : Nat → va_E} {cs ss b Ls i : Nat} {xs : Nat → Int32} (C : gC L E cL_law RL 9 room_1) (hX : LWx L E b Ls xs) (hi : i + 3 ≤ Ls) (hLs : Ls ≤ 1536) (hcs : cs + 3 ≤ 601024 ∧ ss + 18 ≤ 7293034) (hI : LI L ad G) (K : ∀ G', LI L ad G' → GW L E 50 ad G' (cs + 3) (ss + 18) 1974 [(5, .int (nI i)), (4, .ref (ad 49)), (3, .ref (ad 48)), (2, .ref (ad 40)), (1, .ref (ad 0)), (0, .ref b)] []) : GW L E 50 ad G cs ss 966 [(5, .int (nI i)), (4, .ref (ad 49)), (3, .ref (ad 48)), (2, .ref (ad 40)), (1, .ref (ad 0)), (0, .ref b)] [] := by
  refine LI_elim hI (fun sn t1 t2 t3 t4 t5 b1 b2 b3 b4 b5 s0 q1 q2 q3 q4 q5 xz l ml f l2 ml2 f2 l3 ml3 f3 hs len od ps rs cu tx ik th m q te fx fy nx ny ux uy us px py sp bg fo le fi re ca f42 f43 pf tm xx yy ov ow g0 g1 g2 g3 g4 g5 g6 g8 g19 g20 g21 g22 g23 g24 g25 g26 g27 g38 g39 g40 g41 g42 g43 g44 g45 g46 g47 g48 g49 hH hQ hk hL hsg hP h4 hn6 htx he hkp => ?_)
  refine G_aload_n C 1 dL_law_966 rfl rfl ?_
  refine G_aload_n C 0 dL_law_967 rfl rfl ?_
  refine G_iload C dL_law_968 rfl ?_
  refine G_iconst C (v := 1) dL_law_970 (by decide) ?_
  refine G_iadd C dL_law_971 ?_
  refine GW.topr (cI_add (a := i) (b := 1) rfl rfl) ?_
  refine G_sld C hX (j := (i + 1)) (by omega) (by omega) dL_law_972 ?_
  refine G_aload_n C 3 dL_law_973 rfl rfl ?_
  refine G_callSH C (As := [.ref (ad 0), .int (xs (i + 1)), .ref (ad 48)]) (rest := []) (w_powerOf (c_X8_powerOf g0 g22 g23) g0 (fun v G2 hq => by obtain ⟨rfl, _, _, rfl⟩ := hq; exact ⟨⟨_, rfl⟩, g48⟩) (fun e G2 h => h.1.elim (fun z => Or.inl z.1) (fun z => Or.inr z.1))) ca_L_powerOf km_L_166 rfl rfl (by decide) (Nat.le_of_ble_eq_true rfl) ⟨by show cs + 2 ≤ 601024; omega, by show ss + 12 ≤ 7293034; omega⟩ dL_law_974 (fun vv G9 hq9 => ?_)
  rcases hq9 with ⟨r, G1, hq1, rfl, k9, a9⟩ | ⟨hx1, rfl⟩ | ⟨hx1, rfl⟩
  · obtain ⟨h9, q90, q91, rfl⟩ := hq1
    obtain rfl := (sint_inj h9).symm
    have AA1 : Agr [48] G G9 := a9.wk (by simp)
    have BB2 : Agr [48] G G9 := a9.wk (by simp)
    obtain ⟨d, h2, h60, hn⟩ := num_nat (n := xs (i + 1)) q90
    have hz : ¬ f d < 0 := fun z => q91 (by rw [hn]; exact (has_lt hk h2 h60).mpr z)
    obtain ⟨hp, h, hg, hf⟩ := has_h hk h2 h60 hz
    refine G_istore C (lo' := [(6, .int 0), (5, .int (nI i)), (4, .ref (ad 49)), (3, .ref (ad 48)), (2, .ref (ad 40)), (1, .ref (ad 0)), (0, .ref b)]) dL_law_977 (by decide) rfl ?_
    refine G_aload_n C 2 dL_law_979 rfl rfl ?_
    refine G_aload_n C 0 dL_law_980 rfl rfl ?_
    refine G_iload C dL_law_981 rfl ?_
    refine G_iconst C (v := 1) dL_law_983 (by decide) ?_
    refine G_iadd C dL_law_984 ?_
    refine GW.topr (cI_add (a := i) (b := 1) rfl rfl) ?_
    refine G_sld C hX (j := (i + 1)) (by omega) (by omega) dL_law_985 ?_
    refine GW.topr (y := nI d) (hn) ?_
    refine G_callV C (As := [.int (nI d)]) (rest := []) (c_X9_powerOfR ((a9 40 (by decide)).trans g40) ((a9 41 (by decide)).trans g41) h2 h60 hp hg hf) ca_X9_powerOf km_L_168 (by decide) ((a9 40 (by decide)).trans g40) rfl rfl rfl rfl (by decide) (Nat.le_of_ble_eq_true rfl) ⟨by show cs + 2 + 0 ≤ 601024; omega, by show ss + 12 + 0 ≤ 7293034; omega⟩ dL_law_986 (fun vv3 gg4 qq5 => ?_)
    obtain ⟨j_6, j_7, j_8, j_9, j_10, j_11, j_12, u_13, u_14, u_15, p_16, p_17, rfl, hh18, aa19⟩ := qq5
    have AA20 : Agr [48, 40] G gg4 := AA1.tr aa19 (by simp) (by simp)
    have BB21 : Agr [48, 40] G gg4 := BB2.tr aa19 (by simp) (by simp)
    refine G_istore C (lo' := [(7, .int (f d)), (6, .int 0), (5, .int (nI i)), (4, .ref (ad 49)), (3, .ref (ad 48)), (2, .ref (ad 40)), (1, .ref (ad 0)), (0, .ref b)]) dL_law_989 (by decide) rfl ?_
    refine G_aload_n C 2 dL_law_991 rfl rfl ?_
    refine G_callV C (As := []) (rest := []) (c_X9_thrown hh18) ca_X9_thrown km_L_122 (by decide) hh18 rfl rfl rfl rfl (by decide) (Nat.le_of_ble_eq_true rfl) ⟨by show cs + 2 + 0 + 0 ≤ 601024; omega, by show ss + 12 + 0 + 0 ≤ 7293034; omega⟩ dL_law_992 (fun vv22 gg23 qq24 => ?_)
    obtain ⟨rfl, rfl⟩ := qq24
    refine G_iload C dL_law_995 rfl ?_
    refine G_icmp_eq C 1002 dL_law_997 (by decide) (fun _ => ?_) (fun h => absurd h (by decide))
    refine G_iload C dL_law_1002 rfl ?_
    refine G_if_ne C 1019 dL_law_1004 (by decide) (fun h => absurd h (by decide)) (fun _ => ?_)
    refine G_aload_n C 3 dL_law_1007 rfl rfl ?_
    refine G_iconst C (v := 0) dL_law_1008 (by decide) ?_
    refine G_laldN C 48 (by decide) 0 ((aa19 48 (by decide)).trans k9) rfl (by decide) (by omega) dL_law_1009 ?_
    refine GW.toprl (y := (hOf f (xs (i + 1))).toInt64) (pk_uLs) ?_
    refine G_iload C dL_law_1010 rfl ?_
    refine G_i2l C dL_law_1012 rfl ?_
    refine G_lc_eq C 1019 dL_law_1013 dL_law_1014 (by decide) (fun c1013 => ?_) (fun c1013 => False.elim (c1013 (by rw [hn, hOf_d f (by omega)])))
    refine G_goto C 1974 dL_law_1019 (by decide) ?_
    refine GW.pick [2, 3, 4, 5, 6, 7] [(5, .int (nI i)), (4, .ref (ad 49)), (3, .ref (ad 48)), (2, .ref (ad 40)), (1, .ref (ad 0)), (0, .ref b)] rfl ?_
    refine GW.widen (c1 := cs + 3) (s1 := ss + 18) (by show cs + 2 + 0 + 0 ≤ cs + 3; omega) (by show ss + 12 + 0 + 0 ≤ ss + 18; omega) ?_
    exact K _ (LI_mk  ((aa19 0 (by decide)).trans ((a9 0 (by decide)).trans g0)) ((aa19 1 (by decide)).trans ((a9 1 (by decide)).trans g1)) ((aa19 2 (by decide)).trans ((a9 2 (by decide)).trans g2)) ((aa19 3 (by decide)).trans ((a9 3 (by decide)).trans g3)) ((aa19 4 (by decide)).trans ((a9 4 (by decide)).trans g4)) ((aa19 5 (by decide)).trans ((a9 5 (by decide)).trans g5)) ((aa19 6 (by decide)).trans ((a9 6 (by decide)).trans g6)) ((aa19 8 (by decide)).trans ((a9 8 (by decide)).trans g8)) ((aa19 19 (by decide)).trans ((a9 19 (by decide)).trans g19)) ((aa19 20 (by decide)).trans ((a9 20 (by decide)).trans g20)) ((aa19 21 (by decide)).trans ((a9 21 (by decide)).trans g21)) ((aa19 22 (by decide)).trans ((a9 22 (by decide)).trans g22)) ((aa19 23 (by decide)).trans ((a9 23 (by decide)).trans g23)) ((aa19 24 (by decide)).trans ((a9 24 (by decide)).trans g24)) ((aa19 25 (by decide)).trans ((a9 25 (by decide)).trans g25)) ((aa19 26 (by decide)).trans ((a9 26 (by decide)).trans g26)) ((aa19 27 (by decide)).trans ((a9 27 (by decide)).trans g27)) ((aa19 38 (by decide)).trans ((a9 38 (by decide)).trans g38)) ((aa19 39 (by decide)).trans ((a9 39 (by decide)).trans g39)) hh18 ((aa19 41 (by decide)).trans ((a9 41 (by decide)).trans g41)) ((aa19 42 (by decide)).trans ((a9 42 (by decide)).trans g42)) ((aa19 43 (by decide)).trans ((a9 43 (by decide)).trans g43)) ((aa19 44 (by decide)).trans ((a9 44 (by decide)).trans g44)) ((aa19 45 (by decide)).trans ((a9 45 (by decide)).trans g45)) ((aa19 46 (by decide)).trans ((a9 46 (by decide)).trans g46)) ((aa19 47 (by decide)).trans ((a9 47 (by decide)).trans g47)) ((aa19 48 (by decide)).trans k9) ((aa19 49 (by decide)).trans ((a9 49 (by decide)).trans g49)) (hH.keep AA20 (by decide)) (qp_keep hQ AA20 (by decide)) (hk) (hL) (hsg) (hP) (h4) (hn6) (htx) (he) (hkp))
  · obtain ⟨z9, rfl⟩ := hx1
    have hPx := z9.elim (fun y => y.2) (fun y => absurd y.1 ne_AN)
    refine G_istore C (lo' := [(6, .int 1), (5, .int (nI i)), (4, .ref (ad 49)), (3, .ref (ad 48)), (2, .ref (ad 40)), (1, .ref (ad 0)), (0, .ref b)]) dL_law_977 (by decide) rfl ?_
    refine G_aload_n C 2 dL_law_979 rfl rfl ?_
    refine G_aload_n C 0 dL_law_980 rfl rfl ?_
    refine G_iload C dL_law_981 rfl ?_
    refine G_iconst C (v := 1) dL_law_983 (by decide) ?_
    refine G_iadd C dL_law_984 ?_
    refine GW.topr (cI_add (a := i) (b := 1) rfl rfl) ?_
    refine G_sld C hX (j := (i + 1)) (by omega) (by omega) dL_law_985 ?_
    refine G_callV C (As := [.int (xs (i + 1))]) (rest := []) (c_X9_powerOfA g40 hPx) ca_X9_powerOf km_L_168 (by decide) g40 rfl rfl rfl rfl (by decide) (Nat.le_of_ble_eq_true rfl) ⟨by show cs + 2 + 0 ≤ 601024; omega, by show ss + 12 + 0 ≤ 7293034; omega⟩ dL_law_986 (fun vv25 gg26 qq27 => ?_)
    obtain ⟨rfl, hh28, aa29⟩ := qq27
    have AA30 : Agr [40] G gg26 := aa29.wk (by simp)
    refine G_istore C (lo' := [(7, .int 0), (6, .int 1), (5, .int (nI i)), (4, .ref (ad 49)), (3, .ref (ad 48)), (2, .ref (ad 40)), (1, .ref (ad 0)), (0, .ref b)]) dL_law_989 (by decide) rfl ?_
    refine G_aload_n C 2 dL_law_991 rfl rfl ?_
    refine G_callV C (As := []) (rest := []) (c_X9_thrown hh28) ca_X9_thrown km_L_122 (by decide) hh28 rfl rfl rfl rfl (by decide) (Nat.le_of_ble_eq_true rfl) ⟨by show cs + 2 + 0 + 0 ≤ 601024; omega, by show ss + 12 + 0 + 0 ≤ 7293034; omega⟩ dL_law_992 (fun vv31 gg32 qq33 => ?_)
    obtain ⟨rfl, rfl⟩ := qq33
    refine G_iload C dL_law_995 rfl ?_
    refine G_icmp_eq C 1002 dL_law_997 (by decide) (fun _ => ?_) (fun h => absurd h (by decide))
    refine G_iload C dL_law_1002 rfl ?_
    refine G_if_ne C 1019 dL_law_1004 (by decide) (fun _ => ?_) (fun h => absurd h (by decide))
    refine G_goto C 1974 dL_law_1019 (by decide) ?_
    refine GW.pick [2, 3, 4, 5, 6, 7] [(5, .int (nI i)), (4, .ref (ad 49)), (3, .ref (ad 48)), (2, .ref (ad 40)), (1, .ref (ad 0)), (0, .ref b)] rfl ?_
    refine GW.widen (c1 := cs + 3) (s1 := ss + 18) (by show cs + 2 + 0 + 0 ≤ cs + 3; omega) (by show ss + 12 + 0 + 0 ≤ ss + 18; omega) ?_
    exact K _ (LI_mk  ((aa29 0 (by decide)).trans g0) ((aa29 1 (by decide)).trans g1) ((aa29 2 (by decide)).trans g2) ((aa29 3 (by decide)).trans g3) ((aa29 4 (by decide)).trans g4) ((aa29 5 (by decide)).trans g5) ((aa29 6 (by decide)).trans g6) ((aa29 8 (by decide)).trans g8) ((aa29 19 (by decide)).trans g19) ((aa29 20 (by decide)).trans g20) ((aa29 21 (by decide)).trans g21) ((aa29 22 (by decide)).trans g22) ((aa29 23 (by decide)).trans g23) ((aa29 24 (by decide)).trans g24) ((aa29 25 (by decide)).trans g25) ((aa29 26 (by decide)).trans g26) ((aa29 27 (by decide)).trans g27) ((aa29 38 (by decide)).trans g38) ((aa29 39 (by decide)).trans g39) hh28 ((aa29 41 (by decide)).trans g41) ((aa29 42 (by decide)).trans g42) ((aa29 43 (by decide)).trans g43) ((aa29 44 (by decide)).trans g44) ((aa29 45 (by decide)).trans g45) ((aa29 46 (by decide)).trans g46) ((aa29 47 (by decide)).trans g47) ((aa29 48 (by decide)).trans g48) ((aa29 49 (by decide)).trans g49) (hH.keep AA30 (by decide)) (qp_keep hQ AA30 (by decide)) (hk) (hL) (hsg) (hP) (h4) (hn6) (htx) (he) (hkp))
  · obtain ⟨z9, rfl⟩ := hx1
    have hPx := z9.elim (fun y => absurd y.1 ne_NA) (fun y => y.2)
    obtain ⟨d, h2, h60, hn⟩ := num_nat (n := xs (i + 1)) hPx.1
    have hro := (has_lt hk h2 h60).mp (by rw [← hn]; exact hPx.2)
    refine G_istore C (lo' := [(6, .int 2), (5, .int (nI i)), (4, .ref (ad 49)), (3, .ref (ad 48)), (2, .ref (ad 40)), (1, .ref (ad 0)), (0, .ref b)]) dL_law_977 (by decide) rfl ?_
    refine G_aload_n C 2 dL_law_979 rfl rfl ?_
    refine G_aload_n C 0 dL_law_980 rfl rfl ?_
    refine G_iload C dL_law_981 rfl ?_
    refine G_iconst C (v := 1) dL_law_983 (by decide) ?_
    refine G_iadd C dL_law_984 ?_
    refine GW.topr (cI_add (a := i) (b := 1) rfl rfl) ?_
    refine G_sld C hX (j := (i + 1)) (by omega) (by omega) dL_law_985 ?_
    refine GW.topr (y := nI d) (hn) ?_
    refine G_callV C (As := [.int (nI d)]) (rest := []) (c_X9_powerOfS g40 g41 h2 h60 hro) ca_X9_powerOf km_L_168 (by decide) g40 rfl rfl rfl rfl (by decide) (Nat.le_of_ble_eq_true rfl) ⟨by show cs + 2 + 0 ≤ 601024; omega, by show ss + 12 + 0 ≤ 7293034; omega⟩ dL_law_986 (fun vv34 gg35 qq36 => ?_)
    obtain ⟨rfl, hh37, aa38⟩ := qq36
    have AA39 : Agr [40] G gg35 := aa38.wk (by simp)
    refine G_istore C (lo' := [(7, .int 0), (6, .int 2), (5, .int (nI i)), (4, .ref (ad 49)), (3, .ref (ad 48)), (2, .ref (ad 40)), (1, .ref (ad 0)), (0, .ref b)]) dL_law_989 (by decide) rfl ?_
    refine G_aload_n C 2 dL_law_991 rfl rfl ?_
    refine G_callV C (As := []) (rest := []) (c_X9_thrown hh37) ca_X9_thrown km_L_122 (by decide) hh37 rfl rfl rfl rfl (by decide) (Nat.le_of_ble_eq_true rfl) ⟨by show cs + 2 + 0 + 0 ≤ 601024; omega, by show ss + 12 + 0 + 0 ≤ 7293034; omega⟩ dL_law_992 (fun vv40 gg41 qq42 => ?_)
    obtain ⟨rfl, rfl⟩ := qq42
    refine G_iload C dL_law_995 rfl ?_
    refine G_icmp_eq C 1002 dL_law_997 (by decide) (fun _ => ?_) (fun h => absurd h (by decide))
    refine G_iload C dL_law_1002 rfl ?_
    refine G_if_ne C 1019 dL_law_1004 (by decide) (fun _ => ?_) (fun h => absurd h (by decide))
    refine G_goto C 1974 dL_law_1019 (by decide) ?_
    refine GW.pick [2, 3, 4, 5, 6, 7] [(5, .int (nI i)), (4, .ref (ad 49)), (3, .ref (ad 48)), (2, .ref (ad 40)), (1, .ref (ad 0)), (0, .ref b)] rfl ?_
    refine GW.widen (c1 := cs + 3) (s1 := ss + 18) (by show cs + 2 + 0 + 0 ≤ cs + 3; omega) (by show ss + 12 + 0 + 0 ≤ ss + 18; omega) ?_
    exact K _ (LI_mk  ((aa38 0 (by decide)).trans g0) ((aa38 1 (by decide)).trans g1) ((aa38 2 (by decide)).trans g2) ((aa38 3 (by decide)).trans g3) ((aa38 4 (by decide)).trans g4) ((aa38 5 (by decide)).trans g5) ((aa38 6 (by decide)).trans g6) ((aa38 8 (by decide)).trans g8) ((aa38 19 (by decide)).trans g19) ((aa38 20 (by decide)).trans g20) ((aa38 21 (by decide)).trans g21) ((aa38 22 (by decide)).trans g22) ((aa38 23 (by decide)).trans g23) ((aa38 24 (by decide)).trans g24) ((aa38 25 (by decide)).trans g25) ((aa38 26 (by decide)).trans g26) ((aa38 27 (by decide)).trans g27) ((aa38 38 (by decide)).trans g38) ((aa38 39 (by decide)).trans g39) hh37 ((aa38 41 (by decide)).trans g41) ((aa38 42 (by decide)).trans g42) ((aa38 43 (by decide)).trans g43) ((aa38 44 (by decide)).trans g44) ((aa38 45 (by decide)).trans g45) ((aa38 46 (by decide)).trans g46) ((aa38 47 (by decide)).trans g47) ((aa38 48 (by decide)).trans g48) ((aa38 49 (by decide)).trans g49) (hH.keep AA39 (by decide)) (qp_keep hQ AA39 (by decide)) (hk) (hL) (hsg) (hP) (h4) (hn6) (htx) (he) (hkp))

set_option maxRecDepth 100000 in
set_option maxHeartbeats 4000000 in
theorem LC_17 {L : GL} {E : GE} {ad : Nat → Nat} {G : Nat → va_E} {cs ss b Ls i : Nat} {xs : Nat → Int32} (C : gC L E cL_law RL 9 room_1) (hX : LWx L E b Ls xs) (hi : i + 3 ≤ Ls) (hLs : Ls ≤ 1536) (hcs : cs + 3 ≤ 601024 ∧ ss + 18 ≤ 7293034) (hI : LI L ad G) (K : ∀ G', LI L ad G' → GW L E 50 ad G' (cs + 3) (ss + 18) 1974 [(5, .int (nI i)), (4, .ref (ad 49)), (3, .ref (ad 48)), (2, .ref (ad 40)), (1, .ref (ad 0)), (0, .ref b)] []) : GW L E 50 ad G cs ss 1132 [(5, .int (nI i)), (4, .ref (ad 49)), (3, .ref (ad 48)), (2, .ref (ad 40)), (1, .ref (ad 0)), (0, .ref b)] [] := by
  refine LI_elim hI (fun sn t1 t2 t3 t4 t5 b1 b2 b3 b4 b5 s0 q1 q2 q3 q4 q5 xz l ml f l2 ml2 f2 l3 ml3 f3 hs len od ps rs cu tx ik th m q te fx fy nx ny ux uy us px py sp bg fo le fi re ca f42 f43 pf tm xx yy ov ow g0 g1 g2 g3 g4 g5 g6 g8 g19 g20 g21 g22 g23 g24 g25 g26 g27 g38 g39 g40 g41 g42 g43 g44 g45 g46 g47 g48 g49 hH hQ hk hL hsg hP h4 hn6 htx he hkp => ?_)
  refine G_aload_n C 1 dL_law_1132 rfl rfl ?_
  refine G_aload_n C 0 dL_law_1133 rfl rfl ?_
  refine G_iload C dL_law_1134 rfl ?_
  refine G_iconst C (v := 1) dL_law_1136 (by decide) ?_
  refine G_iadd C dL_law_1137 ?_
  refine GW.topr (cI_add (a := i) (b := 1) rfl rfl) ?_
  refine G_sld C hX (j := (i + 1)) (by omega) (by omega) dL_law_1138 ?_
  refine G_aload_n C 3 dL_law_1139 rfl rfl ?_
  refine G_callSH C (As := [.ref (ad 0), .int (xs (i + 1)), .ref (ad 48)]) (rest := []) (w_signOf (c_X8_signOf g0 g22 g23 g1 g3) g0 (fun v G2 hq => by obtain ⟨rfl, _, _, rfl⟩ := hq; exact ⟨⟨_, rfl⟩, g48⟩) (fun e G2 h => h.1.elim (fun z => Or.inl z.1) (fun z => Or.inr z.1))) ca_L_signOf km_L_175 rfl rfl (by decide) (Nat.le_of_ble_eq_true rfl) ⟨by show cs + 2 ≤ 601024; omega, by show ss + 12 ≤ 7293034; omega⟩ dL_law_1140 (fun vv G9 hq9 => ?_)
  rcases hq9 with ⟨r, G1, hq1, rfl, k9, a9⟩ | ⟨hx1, rfl⟩ | ⟨hx1, rfl⟩
  · obtain ⟨h9, q90, q91, rfl⟩ := hq1
    obtain rfl := (sint_inj h9).symm
    have AA1 : Agr [48] G G9 := a9.wk (by simp)
    have BB2 : Agr [48] G G9 := a9.wk (by simp)
    obtain ⟨d, h2, h60, hn⟩ := num_nat (n := xs (i + 1)) q90
    have hz : ¬ f d < 0 := fun z => q91 (by rw [hn]; exact (has_lt hk h2 h60).mpr z)
    obtain ⟨hp, h, hg, hf⟩ := has_h hk h2 h60 hz
    refine G_istore C (lo' := [(6, .int 0), (5, .int (nI i)), (4, .ref (ad 49)), (3, .ref (ad 48)), (2, .ref (ad 40)), (1, .ref (ad 0)), (0, .ref b)]) dL_law_1143 (by decide) rfl ?_
    refine G_aload_n C 2 dL_law_1145 rfl rfl ?_
    refine G_aload_n C 0 dL_law_1146 rfl rfl ?_
    refine G_iload C dL_law_1147 rfl ?_
    refine G_iconst C (v := 1) dL_law_1149 (by decide) ?_
    refine G_iadd C dL_law_1150 ?_
    refine GW.topr (cI_add (a := i) (b := 1) rfl rfl) ?_
    refine G_sld C hX (j := (i + 1)) (by omega) (by omega) dL_law_1151 ?_
    refine GW.topr (y := nI d) (hn) ?_
    refine G_callV C (As := [.int (nI d)]) (rest := []) (c_X9_signOfR ((a9 40 (by decide)).trans g40) ((a9 41 (by decide)).trans g41) h2 h60 hp hg hf) ca_X9_signOf km_L_177 (by decide) ((a9 40 (by decide)).trans g40) rfl rfl rfl rfl (by decide) (Nat.le_of_ble_eq_true rfl) ⟨by show cs + 2 + 0 ≤ 601024; omega, by show ss + 12 + 0 ≤ 7293034; omega⟩ dL_law_1152 (fun vv3 gg4 qq5 => ?_)
    obtain ⟨j_6, j_7, j_8, j_9, j_10, j_11, j_12, u_13, u_14, u_15, p_16, p_17, rfl, hh18, aa19⟩ := qq5
    have AA20 : Agr [48, 40] G gg4 := AA1.tr aa19 (by simp) (by simp)
    have BB21 : Agr [48, 40] G gg4 := BB2.tr aa19 (by simp) (by simp)
    refine G_istore C (lo' := [(7, .int (sgM f d)), (6, .int 0), (5, .int (nI i)), (4, .ref (ad 49)), (3, .ref (ad 48)), (2, .ref (ad 40)), (1, .ref (ad 0)), (0, .ref b)]) dL_law_1155 (by decide) rfl ?_
    refine G_aload_n C 2 dL_law_1157 rfl rfl ?_
    refine G_callV C (As := []) (rest := []) (c_X9_thrown hh18) ca_X9_thrown km_L_122 (by decide) hh18 rfl rfl rfl rfl (by decide) (Nat.le_of_ble_eq_true rfl) ⟨by show cs + 2 + 0 + 0 ≤ 601024; omega, by show ss + 12 + 0 + 0 ≤ 7293034; omega⟩ dL_law_1158 (fun vv22 gg23 qq24 => ?_)
    obtain ⟨rfl, rfl⟩ := qq24
    refine G_iload C dL_law_1161 rfl ?_
    refine G_icmp_eq C 1168 dL_law_1163 (by decide) (fun _ => ?_) (fun h => absurd h (by decide))
    refine G_iload C dL_law_1168 rfl ?_
    refine G_if_ne C 1185 dL_law_1170 (by decide) (fun h => absurd h (by decide)) (fun _ => ?_)
    refine G_aload_n C 3 dL_law_1173 rfl rfl ?_
    refine G_iconst C (v := 0) dL_law_1174 (by decide) ?_
    refine G_laldN C 48 (by decide) 0 ((aa19 48 (by decide)).trans k9) rfl (by decide) (by omega) dL_law_1175 ?_
    refine GW.toprl (y := (signF f (xs (i + 1))).toInt64) (pk_uLs) ?_
    refine G_iload C dL_law_1176 rfl ?_
    refine G_i2l C dL_law_1178 rfl ?_
    refine G_lc_eq C 1185 dL_law_1179 dL_law_1180 (by decide) (fun c1179 => ?_) (fun c1179 => False.elim (c1179 (by rw [hn, sg_eq h60 hg hf])))
    refine G_goto C 1974 dL_law_1185 (by decide) ?_
    refine GW.pick [2, 3, 4, 5, 6, 7] [(5, .int (nI i)), (4, .ref (ad 49)), (3, .ref (ad 48)), (2, .ref (ad 40)), (1, .ref (ad 0)), (0, .ref b)] rfl ?_
    refine GW.widen (c1 := cs + 3) (s1 := ss + 18) (by show cs + 2 + 0 + 0 ≤ cs + 3; omega) (by show ss + 12 + 0 + 0 ≤ ss + 18; omega) ?_
    exact K _ (LI_mk  ((aa19 0 (by decide)).trans ((a9 0 (by decide)).trans g0)) ((aa19 1 (by decide)).trans ((a9 1 (by decide)).trans g1)) ((aa19 2 (by decide)).trans ((a9 2 (by decide)).trans g2)) ((aa19 3 (by decide)).trans ((a9 3 (by decide)).trans g3)) ((aa19 4 (by decide)).trans ((a9 4 (by decide)).trans g4)) ((aa19 5 (by decide)).trans ((a9 5 (by decide)).trans g5)) ((aa19 6 (by decide)).trans ((a9 6 (by decide)).trans g6)) ((aa19 8 (by decide)).trans ((a9 8 (by decide)).trans g8)) ((aa19 19 (by decide)).trans ((a9 19 (by decide)).trans g19)) ((aa19 20 (by decide)).trans ((a9 20 (by decide)).trans g20)) ((aa19 21 (by decide)).trans ((a9 21 (by decide)).trans g21)) ((aa19 22 (by decide)).trans ((a9 22 (by decide)).trans g22)) ((aa19 23 (by decide)).trans ((a9 23 (by decide)).trans g23)) ((aa19 24 (by decide)).trans ((a9 24 (by decide)).trans g24)) ((aa19 25 (by decide)).trans ((a9 25 (by decide)).trans g25)) ((aa19 26 (by decide)).trans ((a9 26 (by decide)).trans g26)) ((aa19 27 (by decide)).trans ((a9 27 (by decide)).trans g27)) ((aa19 38 (by decide)).trans ((a9 38 (by decide)).trans g38)) ((aa19 39 (by decide)).trans ((a9 39 (by decide)).trans g39)) hh18 ((aa19 41 (by decide)).trans ((a9 41 (by decide)).trans g41)) ((aa19 42 (by decide)).trans ((a9 42 (by decide)).trans g42)) ((aa19 43 (by decide)).trans ((a9 43 (by decide)).trans g43)) ((aa19 44 (by decide)).trans ((a9 44 (by decide)).trans g44)) ((aa19 45 (by decide)).trans ((a9 45 (by decide)).trans g45)) ((aa19 46 (by decide)).trans ((a9 46 (by decide)).trans g46)) ((aa19 47 (by decide)).trans ((a9 47 (by decide)).trans g47)) ((aa19 48 (by decide)).trans k9) ((aa19 49 (by decide)).trans ((a9 49 (by decide)).trans g49)) (hH.keep AA20 (by decide)) (qp_keep hQ AA20 (by decide)) (hk) (hL) (hsg) (hP) (h4) (hn6) (htx) (he) (hkp))
  · obtain ⟨z9, rfl⟩ := hx1
    have hPx := z9.elim (fun y => y.2) (fun y => absurd y.1 ne_AN)
    refine G_istore C (lo' := [(6, .int 1), (5, .int (nI i)), (4, .ref (ad 49)), (3, .ref (ad 48)), (2, .ref (ad 40)), (1, .ref (ad 0)), (0, .ref b)]) dL_law_1143 (by decide) rfl ?_
    refine G_aload_n C 2 dL_law_1145 rfl rfl ?_
    refine G_aload_n C 0 dL_law_1146 rfl rfl ?_
    refine G_iload C dL_law_1147 rfl ?_
    refine G_iconst C (v := 1) dL_law_1149 (by decide) ?_
    refine G_iadd C dL_law_1150 ?_
    refine GW.topr (cI_add (a := i) (b := 1) rfl rfl) ?_
    refine G_sld C hX (j := (i + 1)) (by omega) (by omega) dL_law_1151 ?_
    refine G_callV C (As := [.int (xs (i + 1))]) (rest := []) (c_X9_signOfA g40 hPx) ca_X9_signOf km_L_177 (by decide) g40 rfl rfl rfl rfl (by decide) (Nat.le_of_ble_eq_true rfl) ⟨by show cs + 2 + 0 ≤ 601024; omega, by show ss + 12 + 0 ≤ 7293034; omega⟩ dL_law_1152 (fun vv25 gg26 qq27 => ?_)
    obtain ⟨rfl, hh28, aa29⟩ := qq27
    have AA30 : Agr [40] G gg26 := aa29.wk (by simp)
    refine G_istore C (lo' := [(7, .int 0), (6, .int 1), (5, .int (nI i)), (4, .ref (ad 49)), (3, .ref (ad 48)), (2, .ref (ad 40)), (1, .ref (ad 0)), (0, .ref b)]) dL_law_1155 (by decide) rfl ?_
    refine G_aload_n C 2 dL_law_1157 rfl rfl ?_
    refine G_callV C (As := []) (rest := []) (c_X9_thrown hh28) ca_X9_thrown km_L_122 (by decide) hh28 rfl rfl rfl rfl (by decide) (Nat.le_of_ble_eq_true rfl) ⟨by show cs + 2 + 0 + 0 ≤ 601024; omega, by show ss + 12 + 0 + 0 ≤ 7293034; omega⟩ dL_law_1158 (fun vv31 gg32 qq33 => ?_)
    obtain ⟨rfl, rfl⟩ := qq33
    refine G_iload C dL_law_1161 rfl ?_
    refine G_icmp_eq C 1168 dL_law_1163 (by decide) (fun _ => ?_) (fun h => absurd h (by decide))
    refine G_iload C dL_law_1168 rfl ?_
    refine G_if_ne C 1185 dL_law_1170 (by decide) (fun _ => ?_) (fun h => absurd h (by decide))
    refine G_goto C 1974 dL_law_1185 (by decide) ?_
    refine GW.pick [2, 3, 4, 5, 6, 7] [(5, .int (nI i)), (4, .ref (ad 49)), (3, .ref (ad 48)), (2, .ref (ad 40)), (1, .ref (ad 0)), (0, .ref b)] rfl ?_
    refine GW.widen (c1 := cs + 3) (s1 := ss + 18) (by show cs + 2 + 0 + 0 ≤ cs + 3; omega) (by show ss + 12 + 0 + 0 ≤ ss + 18; omega) ?_
    exact K _ (LI_mk  ((aa29 0 (by decide)).trans g0) ((aa29 1 (by decide)).trans g1) ((aa29 2 (by decide)).trans g2) ((aa29 3 (by decide)).trans g3) ((aa29 4 (by decide)).trans g4) ((aa29 5 (by decide)).trans g5) ((aa29 6 (by decide)).trans g6) ((aa29 8 (by decide)).trans g8) ((aa29 19 (by decide)).trans g19) ((aa29 20 (by decide)).trans g20) ((aa29 21 (by decide)).trans g21) ((aa29 22 (by decide)).trans g22) ((aa29 23 (by decide)).trans g23) ((aa29 24 (by decide)).trans g24) ((aa29 25 (by decide)).trans g25) ((aa29 26 (by decide)).trans g26) ((aa29 27 (by decide)).trans g27) ((aa29 38 (by decide)).trans g38) ((aa29 39 (by decide)).trans g39) hh28 ((aa29 41 (by decide)).trans g41) ((aa29 42 (by decide)).trans g42) ((aa29 43 (by decide)).trans g43) ((aa29 44 (by decide)).trans g44) ((aa29 45 (by decide)).trans g45) ((aa29 46 (by decide)).trans g46) ((aa29 47 (by decide)).trans g47) ((aa29 48 (by decide)).trans g48) ((aa29 49 (by decide)).trans g49) (hH.keep AA30 (by decide)) (qp_keep hQ AA30 (by decide)) (hk) (hL) (hsg) (hP) (h4) (hn6) (htx) (he) (hkp))
  · obtain ⟨z9, rfl⟩ := hx1
    have hPx := z9.elim (fun y => absurd y.1 ne_NA) (fun y => y.2)
    obtain ⟨d, h2, h60, hn⟩ := num_nat (n := xs (i + 1)) hPx.1
    have hro := (has_lt hk h2 h60).mp (by rw [← hn]; exact hPx.2)
    refine G_istore C (lo' := [(6, .int 2), (5, .int (nI i)), (4, .ref (ad 49)), (3, .ref (ad 48)), (2, .ref (ad 40)), (1, .ref (ad 0)), (0, .ref b)]) dL_law_1143 (by decide) rfl ?_
    refine G_aload_n C 2 dL_law_1145 rfl rfl ?_
    refine G_aload_n C 0 dL_law_1146 rfl rfl ?_
    refine G_iload C dL_law_1147 rfl ?_
    refine G_iconst C (v := 1) dL_law_1149 (by decide) ?_
    refine G_iadd C dL_law_1150 ?_
    refine GW.topr (cI_add (a := i) (b := 1) rfl rfl) ?_
    refine G_sld C hX (j := (i + 1)) (by omega) (by omega) dL_law_1151 ?_
    refine GW.topr (y := nI d) (hn) ?_
    refine G_callV C (As := [.int (nI d)]) (rest := []) (c_X9_signOfS g40 g41 h2 h60 hro) ca_X9_signOf km_L_177 (by decide) g40 rfl rfl rfl rfl (by decide) (Nat.le_of_ble_eq_true rfl) ⟨by show cs + 2 + 0 ≤ 601024; omega, by show ss + 12 + 0 ≤ 7293034; omega⟩ dL_law_1152 (fun vv34 gg35 qq36 => ?_)
    obtain ⟨rfl, hh37, aa38⟩ := qq36
    have AA39 : Agr [40] G gg35 := aa38.wk (by simp)
    refine G_istore C (lo' := [(7, .int 0), (6, .int 2), (5, .int (nI i)), (4, .ref (ad 49)), (3, .ref (ad 48)), (2, .ref (ad 40)), (1, .ref (ad 0)), (0, .ref b)]) dL_law_1155 (by decide) rfl ?_
    refine G_aload_n C 2 dL_law_1157 rfl rfl ?_
    refine G_callV C (As := []) (rest := []) (c_X9_thrown hh37) ca_X9_thrown km_L_122 (by decide) hh37 rfl rfl rfl rfl (by decide) (Nat.le_of_ble_eq_true rfl) ⟨by show cs + 2 + 0 + 0 ≤ 601024; omega, by show ss + 12 + 0 + 0 ≤ 7293034; omega⟩ dL_law_1158 (fun vv40 gg41 qq42 => ?_)
    obtain ⟨rfl, rfl⟩ := qq42
    refine G_iload C dL_law_1161 rfl ?_
    refine G_icmp_eq C 1168 dL_law_1163 (by decide) (fun _ => ?_) (fun h => absurd h (by decide))
    refine G_iload C dL_law_1168 rfl ?_
    refine G_if_ne C 1185 dL_law_1170 (by decide) (fun _ => ?_) (fun h => absurd h (by decide))
    refine G_goto C 1974 dL_law_1185 (by decide) ?_
    refine GW.pick [2, 3, 4, 5, 6, 7] [(5, .int (nI i)), (4, .ref (ad 49)), (3, .ref (ad 48)), (2, .ref (ad 40)), (1, .ref (ad 0)), (0, .ref b)] rfl ?_
    refine GW.widen (c1 := cs + 3) (s1 := ss + 18) (by show cs + 2 + 0 + 0 ≤ cs + 3; omega) (by show ss + 12 + 0 + 0 ≤ ss + 18; omega) ?_
    exact K _ (LI_mk  ((aa38 0 (by decide)).trans g0) ((aa38 1 (by decide)).trans g1) ((aa38 2 (by decide)).trans g2) ((aa38 3 (by decide)).trans g3) ((aa38 4 (by decide)).trans g4) ((aa38 5 (by decide)).trans g5) ((aa38 6 (by decide)).trans g6) ((aa38 8 (by decide)).trans g8) ((aa38 19 (by decide)).trans g19) ((aa38 20 (by decide)).trans g20) ((aa38 21 (by decide)).trans g21) ((aa38 22 (by decide)).trans g22) ((aa38 23 (by decide)).trans g23) ((aa38 24 (by decide)).trans g24) ((aa38 25 (by decide)).trans g25) ((aa38 26 (by decide)).trans g26) ((aa38 27 (by decide)).trans g27) ((aa38 38 (by decide)).trans g38) ((aa38 39 (by decide)).trans g39) hh37 ((aa38 41 (by decide)).trans g41) ((aa38 42 (by decide)).trans g42) ((aa38 43 (by decide)).trans g43) ((aa38 44 (by decide)).trans g44) ((aa38 45 (by decide)).trans g45) ((aa38 46 (by decide)).trans g46) ((aa38 47 (by decide)).trans g47) ((aa38 48 (by decide)).trans g48) ((aa38 49 (by decide)).trans g49) (hH.keep AA39 (by decide)) (qp_keep hQ AA39 (by decide)) (hk) (hL) (hsg) (hP) (h4) (hn6) (htx) (he) (hkp))

set_option maxRecDepth 100000 in
set_option maxHeartbeats 4000000 in
theorem LC_15 {L : GL} {E : GE} {ad : Nat → Nat} {G : Nat → va_E} {cs ss b Ls i : Nat} {xs : Nat → Int32} (C : gC L E cL_law RL 9 room_1) (hX : LWx L E b Ls xs) (hi : i + 3 ≤ Ls) (hLs : Ls ≤ 1536) (hcs : cs + 3 ≤ 601024 ∧ ss + 18 ≤ 7293034) (hI : LI L ad G) (K : ∀ G', LI L ad G' → GW L E 50 ad G' (cs + 3) (ss + 18) 1974 [(5, .int (nI i)), (4, .ref (ad 49)), (3, .ref (ad 48)), (2, .ref (ad 40)), (1, .ref (ad 0)), (0, .ref b)] []) : GW L E 50 ad G cs ss 1022 [(5, .int (nI i)), (4, .ref (ad 49)), (3, .ref (ad 48)), (2, .ref (ad 40)), (1, .ref (ad 0)), (0, .ref b)] [] := by
  refine LI_elim hI (fun sn t1 t2 t3 t4 t5 b1 b2 b3 b4 b5 s0 q1 q2 q3 q4 q5 xz l ml f l2 ml2 f2 l3 ml3 f3 hs len od ps rs cu tx ik th m q te fx fy nx ny ux uy us px py sp bg fo le fi re ca f42 f43 pf tm xx yy ov ow g0 g1 g2 g3 g4 g5 g6 g8 g19 g20 g21 g22 g23 g24 g25 g26 g27 g38 g39 g40 g41 g42 g43 g44 g45 g46 g47 g48 g49 hH hQ hk hL hsg hP h4 hn6 htx he hkp => ?_)
  refine G_aload_n C 1 dL_law_1022 rfl rfl ?_
  refine G_aload_n C 0 dL_law_1023 rfl rfl ?_
  refine G_iload C dL_law_1024 rfl ?_
  refine G_iconst C (v := 1) dL_law_1026 (by decide) ?_
  refine G_iadd C dL_law_1027 ?_
  refine GW.topr (cI_add (a := i) (b := 1) rfl rfl) ?_
  refine G_sld C hX (j := (i + 1)) (by omega) (by omega) dL_law_1028 ?_
  refine G_aload_n C 3 dL_law_1029 rfl rfl ?_
  refine G_callSH C (As := [.ref (ad 0), .int (xs (i + 1)), .ref (ad 48)]) (rest := []) (w_xOf (c_X8_xOf g0 g1 g4 g5 g8 g22 g23 hk) g0 (fun v G2 hq => by obtain ⟨d, h, rfl, _, _, _, _, _, _, _, ag⟩ := hq; exact ⟨⟨_, rfl⟩, (ag 48 (by decide)).trans g48⟩) (fun e G2 h => h.1.elim (fun z => Or.inl z.1) (fun z => Or.inr z.1))) ca_L_xOf km_L_169 rfl rfl (by decide) (Nat.le_of_ble_eq_true rfl) ⟨by show cs + 2 ≤ 601024; omega, by show ss + 12 ≤ 7293034; omega⟩ dL_law_1030 (fun vv G9 hq9 => ?_)
  rcases hq9 with ⟨r, G1, hq1, rfl, k9, a9⟩ | ⟨hx1, rfl⟩ | ⟨hx1, rfl⟩
  · obtain ⟨d, h, h9, q90, q91, q92, q93, q94, q95, o98, ag9⟩ := hq1
    obtain rfl := (slong_inj h9).symm
    have AA0 : Agr [8] G G1 := ag9
    have AA1 : Agr [8, 48] G G9 := AA0.tr a9 (by simp) (by simp)
    have BB2 : Agr [48] G1 G9 := a9.wk (by simp)
    have hf : f d = nI h := by rw [← hOf_d f (by have := q92; omega), ← q90]; exact q95
    refine G_istore C (lo' := [(6, .int 0), (5, .int (nI i)), (4, .ref (ad 49)), (3, .ref (ad 48)), (2, .ref (ad 40)), (1, .ref (ad 0)), (0, .ref b)]) dL_law_1033 (by decide) rfl ?_
    refine G_aload_n C 2 dL_law_1035 rfl rfl ?_
    refine G_aload_n C 0 dL_law_1036 rfl rfl ?_
    refine G_iload C dL_law_1037 rfl ?_
    refine G_iconst C (v := 1) dL_law_1039 (by decide) ?_
    refine G_iadd C dL_law_1040 ?_
    refine GW.topr (cI_add (a := i) (b := 1) rfl rfl) ?_
    refine G_sld C hX (j := (i + 1)) (by omega) (by omega) dL_law_1041 ?_
    refine GW.topr (y := nI d) (q90) ?_
    refine G_callV C (As := [.int (nI d)]) (rest := []) (c_X9_xOfR ((a9 40 (by decide)).trans ((ag9 40 (by decide)).trans g40)) ((a9 41 (by decide)).trans ((ag9 41 (by decide)).trans g41)) q91 q92 q93 q94 hf) ca_X9_xOf km_L_171 (by decide) ((a9 40 (by decide)).trans ((ag9 40 (by decide)).trans g40)) rfl rfl rfl rfl (by decide) (Nat.le_of_ble_eq_true rfl) ⟨by show cs + 2 + 0 ≤ 601024; omega, by show ss + 12 + 0 ≤ 7293034; omega⟩ dL_law_1042 (fun vv3 gg4 qq5 => ?_)
    obtain ⟨j_6, j_7, j_8, j_9, j_10, j_11, j_12, u_13, u_14, u_15, p_16, p_17, rfl, hh18, aa19⟩ := qq5
    have AA20 : Agr [8, 48, 40] G gg4 := AA1.tr aa19 (by simp) (by simp)
    have BB21 : Agr [48, 40] G1 gg4 := BB2.tr aa19 (by simp) (by simp)
    refine G_lstore C (lo' := [(7, .long ((pwr d h).1)), (6, .int 0), (5, .int (nI i)), (4, .ref (ad 49)), (3, .ref (ad 48)), (2, .ref (ad 40)), (1, .ref (ad 0)), (0, .ref b)]) dL_law_1045 (by decide) rfl ?_
    refine G_aload_n C 2 dL_law_1047 rfl rfl ?_
    refine G_callV C (As := []) (rest := []) (c_X9_thrown hh18) ca_X9_thrown km_L_122 (by decide) hh18 rfl rfl rfl rfl (by decide) (Nat.le_of_ble_eq_true rfl) ⟨by show cs + 2 + 0 + 0 ≤ 601024; omega, by show ss + 12 + 0 + 0 ≤ 7293034; omega⟩ dL_law_1048 (fun vv22 gg23 qq24 => ?_)
    obtain ⟨rfl, rfl⟩ := qq24
    refine G_iload C dL_law_1051 rfl ?_
    refine G_icmp_eq C 1058 dL_law_1053 (by decide) (fun _ => ?_) (fun h => absurd h (by decide))
    refine G_iload C dL_law_1058 rfl ?_
    refine G_if_ne C 1074 dL_law_1060 (by decide) (fun h => absurd h (by decide)) (fun _ => ?_)
    refine G_aload_n C 3 dL_law_1063 rfl rfl ?_
    refine G_iconst C (v := 0) dL_law_1064 (by decide) ?_
    refine G_laldN C 48 (by decide) 0 ((aa19 48 (by decide)).trans k9) rfl (by decide) (by omega) dL_law_1065 ?_
    refine GW.toprl (y := (pwr d h).1) (pk_uLs) ?_
    refine G_lload C dL_law_1066 rfl ?_
    refine G_lc_eq C 1074 dL_law_1068 dL_law_1069 (by decide) (fun c1068 => ?_) (fun c1068 => False.elim (c1068 (rfl)))
    refine G_goto C 1974 dL_law_1074 (by decide) ?_
    refine GW.pick [2, 3, 4, 5, 6, 7] [(5, .int (nI i)), (4, .ref (ad 49)), (3, .ref (ad 48)), (2, .ref (ad 40)), (1, .ref (ad 0)), (0, .ref b)] rfl ?_
    refine GW.widen (c1 := cs + 3) (s1 := ss + 18) (by show cs + 2 + 0 + 0 ≤ cs + 3; omega) (by show ss + 12 + 0 + 0 ≤ ss + 18; omega) ?_
    exact K _ (LI_mk  ((aa19 0 (by decide)).trans ((a9 0 (by decide)).trans ((ag9 0 (by decide)).trans g0))) ((aa19 1 (by decide)).trans ((a9 1 (by decide)).trans ((ag9 1 (by decide)).trans g1))) ((aa19 2 (by decide)).trans ((a9 2 (by decide)).trans ((ag9 2 (by decide)).trans g2))) ((aa19 3 (by decide)).trans ((a9 3 (by decide)).trans ((ag9 3 (by decide)).trans g3))) ((aa19 4 (by decide)).trans ((a9 4 (by decide)).trans ((ag9 4 (by decide)).trans g4))) ((aa19 5 (by decide)).trans ((a9 5 (by decide)).trans ((ag9 5 (by decide)).trans g5))) ((aa19 6 (by decide)).trans ((a9 6 (by decide)).trans ((ag9 6 (by decide)).trans g6))) ((aa19 8 (by decide)).trans ((a9 8 (by decide)).trans o98)) ((aa19 19 (by decide)).trans ((a9 19 (by decide)).trans ((ag9 19 (by decide)).trans g19))) ((aa19 20 (by decide)).trans ((a9 20 (by decide)).trans ((ag9 20 (by decide)).trans g20))) ((aa19 21 (by decide)).trans ((a9 21 (by decide)).trans ((ag9 21 (by decide)).trans g21))) ((aa19 22 (by decide)).trans ((a9 22 (by decide)).trans ((ag9 22 (by decide)).trans g22))) ((aa19 23 (by decide)).trans ((a9 23 (by decide)).trans ((ag9 23 (by decide)).trans g23))) ((aa19 24 (by decide)).trans ((a9 24 (by decide)).trans ((ag9 24 (by decide)).trans g24))) ((aa19 25 (by decide)).trans ((a9 25 (by decide)).trans ((ag9 25 (by decide)).trans g25))) ((aa19 26 (by decide)).trans ((a9 26 (by decide)).trans ((ag9 26 (by decide)).trans g26))) ((aa19 27 (by decide)).trans ((a9 27 (by decide)).trans ((ag9 27 (by decide)).trans g27))) ((aa19 38 (by decide)).trans ((a9 38 (by decide)).trans ((ag9 38 (by decide)).trans g38))) ((aa19 39 (by decide)).trans ((a9 39 (by decide)).trans ((ag9 39 (by decide)).trans g39))) hh18 ((aa19 41 (by decide)).trans ((a9 41 (by decide)).trans ((ag9 41 (by decide)).trans g41))) ((aa19 42 (by decide)).trans ((a9 42 (by decide)).trans ((ag9 42 (by decide)).trans g42))) ((aa19 43 (by decide)).trans ((a9 43 (by decide)).trans ((ag9 43 (by decide)).trans g43))) ((aa19 44 (by decide)).trans ((a9 44 (by decide)).trans ((ag9 44 (by decide)).trans g44))) ((aa19 45 (by decide)).trans ((a9 45 (by decide)).trans ((ag9 45 (by decide)).trans g45))) ((aa19 46 (by decide)).trans ((a9 46 (by decide)).trans ((ag9 46 (by decide)).trans g46))) ((aa19 47 (by decide)).trans ((a9 47 (by decide)).trans ((ag9 47 (by decide)).trans g47))) ((aa19 48 (by decide)).trans k9) ((aa19 49 (by decide)).trans ((a9 49 (by decide)).trans ((ag9 49 (by decide)).trans g49))) (hH.keep AA20 (by decide)) (qp_keep hQ AA20 (by decide)) (hk) (hL) (hsg) (hP) (h4) (hn6) (htx) (he) (hkp))
  · obtain ⟨z9, rfl⟩ := hx1
    have hPx := z9.elim (fun y => y.2) (fun y => absurd y.1 ne_AN)
    refine G_istore C (lo' := [(6, .int 1), (5, .int (nI i)), (4, .ref (ad 49)), (3, .ref (ad 48)), (2, .ref (ad 40)), (1, .ref (ad 0)), (0, .ref b)]) dL_law_1033 (by decide) rfl ?_
    refine G_aload_n C 2 dL_law_1035 rfl rfl ?_
    refine G_aload_n C 0 dL_law_1036 rfl rfl ?_
    refine G_iload C dL_law_1037 rfl ?_
    refine G_iconst C (v := 1) dL_law_1039 (by decide) ?_
    refine G_iadd C dL_law_1040 ?_
    refine GW.topr (cI_add (a := i) (b := 1) rfl rfl) ?_
    refine G_sld C hX (j := (i + 1)) (by omega) (by omega) dL_law_1041 ?_
    refine G_callV C (As := [.int (xs (i + 1))]) (rest := []) (c_X9_xOfA g40 hPx) ca_X9_xOf km_L_171 (by decide) g40 rfl rfl rfl rfl (by decide) (Nat.le_of_ble_eq_true rfl) ⟨by show cs + 2 + 0 ≤ 601024; omega, by show ss + 12 + 0 ≤ 7293034; omega⟩ dL_law_1042 (fun vv25 gg26 qq27 => ?_)
    obtain ⟨rfl, hh28, aa29⟩ := qq27
    have AA30 : Agr [40] G gg26 := aa29.wk (by simp)
    refine G_lstore C (lo' := [(7, .long 0), (6, .int 1), (5, .int (nI i)), (4, .ref (ad 49)), (3, .ref (ad 48)), (2, .ref (ad 40)), (1, .ref (ad 0)), (0, .ref b)]) dL_law_1045 (by decide) rfl ?_
    refine G_aload_n C 2 dL_law_1047 rfl rfl ?_
    refine G_callV C (As := []) (rest := []) (c_X9_thrown hh28) ca_X9_thrown km_L_122 (by decide) hh28 rfl rfl rfl rfl (by decide) (Nat.le_of_ble_eq_true rfl) ⟨by show cs + 2 + 0 + 0 ≤ 601024; omega, by show ss + 12 + 0 + 0 ≤ 7293034; omega⟩ dL_law_1048 (fun vv31 gg32 qq33 => ?_)
    obtain ⟨rfl, rfl⟩ := qq33
    refine G_iload C dL_law_1051 rfl ?_
    refine G_icmp_eq C 1058 dL_law_1053 (by decide) (fun _ => ?_) (fun h => absurd h (by decide))
    refine G_iload C dL_law_1058 rfl ?_
    refine G_if_ne C 1074 dL_law_1060 (by decide) (fun _ => ?_) (fun h => absurd h (by decide))
    refine G_goto C 1974 dL_law_1074 (by decide) ?_
    refine GW.pick [2, 3, 4, 5, 6, 7] [(5, .int (nI i)), (4, .ref (ad 49)), (3, .ref (ad 48)), (2, .ref (ad 40)), (1, .ref (ad 0)), (0, .ref b)] rfl ?_
    refine GW.widen (c1 := cs + 3) (s1 := ss + 18) (by show cs + 2 + 0 + 0 ≤ cs + 3; omega) (by show ss + 12 + 0 + 0 ≤ ss + 18; omega) ?_
    exact K _ (LI_mk  ((aa29 0 (by decide)).trans g0) ((aa29 1 (by decide)).trans g1) ((aa29 2 (by decide)).trans g2) ((aa29 3 (by decide)).trans g3) ((aa29 4 (by decide)).trans g4) ((aa29 5 (by decide)).trans g5) ((aa29 6 (by decide)).trans g6) ((aa29 8 (by decide)).trans g8) ((aa29 19 (by decide)).trans g19) ((aa29 20 (by decide)).trans g20) ((aa29 21 (by decide)).trans g21) ((aa29 22 (by decide)).trans g22) ((aa29 23 (by decide)).trans g23) ((aa29 24 (by decide)).trans g24) ((aa29 25 (by decide)).trans g25) ((aa29 26 (by decide)).trans g26) ((aa29 27 (by decide)).trans g27) ((aa29 38 (by decide)).trans g38) ((aa29 39 (by decide)).trans g39) hh28 ((aa29 41 (by decide)).trans g41) ((aa29 42 (by decide)).trans g42) ((aa29 43 (by decide)).trans g43) ((aa29 44 (by decide)).trans g44) ((aa29 45 (by decide)).trans g45) ((aa29 46 (by decide)).trans g46) ((aa29 47 (by decide)).trans g47) ((aa29 48 (by decide)).trans g48) ((aa29 49 (by decide)).trans g49) (hH.keep AA30 (by decide)) (qp_keep hQ AA30 (by decide)) (hk) (hL) (hsg) (hP) (h4) (hn6) (htx) (he) (hkp))
  · obtain ⟨z9, rfl⟩ := hx1
    have hPx := z9.elim (fun y => absurd y.1 ne_NA) (fun y => y.2)
    obtain ⟨d, h2, h60, hn⟩ := num_nat (n := xs (i + 1)) hPx.1
    have hro := (has_lt hk h2 h60).mp (by rw [← hn]; exact hPx.2)
    refine G_istore C (lo' := [(6, .int 2), (5, .int (nI i)), (4, .ref (ad 49)), (3, .ref (ad 48)), (2, .ref (ad 40)), (1, .ref (ad 0)), (0, .ref b)]) dL_law_1033 (by decide) rfl ?_
    refine G_aload_n C 2 dL_law_1035 rfl rfl ?_
    refine G_aload_n C 0 dL_law_1036 rfl rfl ?_
    refine G_iload C dL_law_1037 rfl ?_
    refine G_iconst C (v := 1) dL_law_1039 (by decide) ?_
    refine G_iadd C dL_law_1040 ?_
    refine GW.topr (cI_add (a := i) (b := 1) rfl rfl) ?_
    refine G_sld C hX (j := (i + 1)) (by omega) (by omega) dL_law_1041 ?_
    refine GW.topr (y := nI d) (hn) ?_
    refine G_callV C (As := [.int (nI d)]) (rest := []) (c_X9_xOfS g40 g41 h2 h60 hro) ca_X9_xOf km_L_171 (by decide) g40 rfl rfl rfl rfl (by decide) (Nat.le_of_ble_eq_true rfl) ⟨by show cs + 2 + 0 ≤ 601024; omega, by show ss + 12 + 0 ≤ 7293034; omega⟩ dL_law_1042 (fun vv34 gg35 qq36 => ?_)
    obtain ⟨rfl, hh37, aa38⟩ := qq36
    have AA39 : Agr [40] G gg35 := aa38.wk (by simp)
    refine G_lstore C (lo' := [(7, .long 0), (6, .int 2), (5, .int (nI i)), (4, .ref (ad 49)), (3, .ref (ad 48)), (2, .ref (ad 40)), (1, .ref (ad 0)), (0, .ref b)]) dL_law_1045 (by decide) rfl ?_
    refine G_aload_n C 2 dL_law_1047 rfl rfl ?_
    refine G_callV C (As := []) (rest := []) (c_X9_thrown hh37) ca_X9_thrown km_L_122 (by decide) hh37 rfl rfl rfl rfl (by decide) (Nat.le_of_ble_eq_true rfl) ⟨by show cs + 2 + 0 + 0 ≤ 601024; omega, by show ss + 12 + 0 + 0 ≤ 7293034; omega⟩ dL_law_1048 (fun vv40 gg41 qq42 => ?_)
    obtain ⟨rfl, rfl⟩ := qq42
    refine G_iload C dL_law_1051 rfl ?_
    refine G_icmp_eq C 1058 dL_law_1053 (by decide) (fun _ => ?_) (fun h => absurd h (by decide))
    refine G_iload C dL_law_1058 rfl ?_
    refine G_if_ne C 1074 dL_law_1060 (by decide) (fun _ => ?_) (fun h => absurd h (by decide))
    refine G_goto C 1974 dL_law_1074 (by decide) ?_
    refine GW.pick [2, 3, 4, 5, 6, 7] [(5, .int (nI i)), (4, .ref (ad 49)), (3, .ref (ad 48)), (2, .ref (ad 40)), (1, .ref (ad 0)), (0, .ref b)] rfl ?_
    refine GW.widen (c1 := cs + 3) (s1 := ss + 18) (by show cs + 2 + 0 + 0 ≤ cs + 3; omega) (by show ss + 12 + 0 + 0 ≤ ss + 18; omega) ?_
    exact K _ (LI_mk  ((aa38 0 (by decide)).trans g0) ((aa38 1 (by decide)).trans g1) ((aa38 2 (by decide)).trans g2) ((aa38 3 (by decide)).trans g3) ((aa38 4 (by decide)).trans g4) ((aa38 5 (by decide)).trans g5) ((aa38 6 (by decide)).trans g6) ((aa38 8 (by decide)).trans g8) ((aa38 19 (by decide)).trans g19) ((aa38 20 (by decide)).trans g20) ((aa38 21 (by decide)).trans g21) ((aa38 22 (by decide)).trans g22) ((aa38 23 (by decide)).trans g23) ((aa38 24 (by decide)).trans g24) ((aa38 25 (by decide)).trans g25) ((aa38 26 (by decide)).trans g26) ((aa38 27 (by decide)).trans g27) ((aa38 38 (by decide)).trans g38) ((aa38 39 (by decide)).trans g39) hh37 ((aa38 41 (by decide)).trans g41) ((aa38 42 (by decide)).trans g42) ((aa38 43 (by decide)).trans g43) ((aa38 44 (by decide)).trans g44) ((aa38 45 (by decide)).trans g45) ((aa38 46 (by decide)).trans g46) ((aa38 47 (by decide)).trans g47) ((aa38 48 (by decide)).trans g48) ((aa38 49 (by decide)).trans g49) (hH.keep AA39 (by decide)) (qp_keep hQ AA39 (by decide)) (hk) (hL) (hsg) (hP) (h4) (hn6) (htx) (he) (hkp))

set_option maxRecDepth 100000 in
set_option maxHeartbeats 4000000 in
theorem LC_16 {L : GL} {E : GE} {ad : Nat → Nat} {G : Nat → va_E} {cs ss b Ls i : Nat} {xs : Nat → Int32} (C : gC L E cL_law RL 9 room_1) (hX : LWx L E b Ls xs) (hi : i + 3 ≤ Ls) (hLs : Ls ≤ 1536) (hcs : cs + 3 ≤ 601024 ∧ ss + 18 ≤ 7293034) (hI : LI L ad G) (K : ∀ G', LI L ad G' → GW L E 50 ad G' (cs + 3) (ss + 18) 1974 [(5, .int (nI i)), (4, .ref (ad 49)), (3, .ref (ad 48)), (2, .ref (ad 40)), (1, .ref (ad 0)), (0, .ref b)] []) : GW L E 50 ad G cs ss 1077 [(5, .int (nI i)), (4, .ref (ad 49)), (3, .ref (ad 48)), (2, .ref (ad 40)), (1, .ref (ad 0)), (0, .ref b)] [] := by
  refine LI_elim hI (fun sn t1 t2 t3 t4 t5 b1 b2 b3 b4 b5 s0 q1 q2 q3 q4 q5 xz l ml f l2 ml2 f2 l3 ml3 f3 hs len od ps rs cu tx ik th m q te fx fy nx ny ux uy us px py sp bg fo le fi re ca f42 f43 pf tm xx yy ov ow g0 g1 g2 g3 g4 g5 g6 g8 g19 g20 g21 g22 g23 g24 g25 g26 g27 g38 g39 g40 g41 g42 g43 g44 g45 g46 g47 g48 g49 hH hQ hk hL hsg hP h4 hn6 htx he hkp => ?_)
  refine G_aload_n C 1 dL_law_1077 rfl rfl ?_
  refine G_aload_n C 0 dL_law_1078 rfl rfl ?_
  refine G_iload C dL_law_1079 rfl ?_
  refine G_iconst C (v := 1) dL_law_1081 (by decide) ?_
  refine G_iadd C dL_law_1082 ?_
  refine GW.topr (cI_add (a := i) (b := 1) rfl rfl) ?_
  refine G_sld C hX (j := (i + 1)) (by omega) (by omega) dL_law_1083 ?_
  refine G_aload_n C 3 dL_law_1084 rfl rfl ?_
  refine G_callSH C (As := [.ref (ad 0), .int (xs (i + 1)), .ref (ad 48)]) (rest := []) (w_yOf (c_X8_yOf g0 g1 g4 g5 g8 g22 g23 hk) g0 (fun v G2 hq => by obtain ⟨d, h, rfl, _, _, _, _, _, _, _, ag⟩ := hq; exact ⟨⟨_, rfl⟩, (ag 48 (by decide)).trans g48⟩) (fun e G2 h => h.1.elim (fun z => Or.inl z.1) (fun z => Or.inr z.1))) ca_L_yOf km_L_172 rfl rfl (by decide) (Nat.le_of_ble_eq_true rfl) ⟨by show cs + 2 ≤ 601024; omega, by show ss + 12 ≤ 7293034; omega⟩ dL_law_1085 (fun vv G9 hq9 => ?_)
  rcases hq9 with ⟨r, G1, hq1, rfl, k9, a9⟩ | ⟨hx1, rfl⟩ | ⟨hx1, rfl⟩
  · obtain ⟨d, h, h9, q90, q91, q92, q93, q94, q95, o98, ag9⟩ := hq1
    obtain rfl := (slong_inj h9).symm
    have AA0 : Agr [8] G G1 := ag9
    have AA1 : Agr [8, 48] G G9 := AA0.tr a9 (by simp) (by simp)
    have BB2 : Agr [48] G1 G9 := a9.wk (by simp)
    have hf : f d = nI h := by rw [← hOf_d f (by have := q92; omega), ← q90]; exact q95
    refine G_istore C (lo' := [(6, .int 0), (5, .int (nI i)), (4, .ref (ad 49)), (3, .ref (ad 48)), (2, .ref (ad 40)), (1, .ref (ad 0)), (0, .ref b)]) dL_law_1088 (by decide) rfl ?_
    refine G_aload_n C 2 dL_law_1090 rfl rfl ?_
    refine G_aload_n C 0 dL_law_1091 rfl rfl ?_
    refine G_iload C dL_law_1092 rfl ?_
    refine G_iconst C (v := 1) dL_law_1094 (by decide) ?_
    refine G_iadd C dL_law_1095 ?_
    refine GW.topr (cI_add (a := i) (b := 1) rfl rfl) ?_
    refine G_sld C hX (j := (i + 1)) (by omega) (by omega) dL_law_1096 ?_
    refine GW.topr (y := nI d) (q90) ?_
    refine G_callV C (As := [.int (nI d)]) (rest := []) (c_X9_yOfR ((a9 40 (by decide)).trans ((ag9 40 (by decide)).trans g40)) ((a9 41 (by decide)).trans ((ag9 41 (by decide)).trans g41)) q91 q92 q93 q94 hf) ca_X9_yOf km_L_174 (by decide) ((a9 40 (by decide)).trans ((ag9 40 (by decide)).trans g40)) rfl rfl rfl rfl (by decide) (Nat.le_of_ble_eq_true rfl) ⟨by show cs + 2 + 0 ≤ 601024; omega, by show ss + 12 + 0 ≤ 7293034; omega⟩ dL_law_1097 (fun vv3 gg4 qq5 => ?_)
    obtain ⟨j_6, j_7, j_8, j_9, j_10, j_11, j_12, u_13, u_14, u_15, p_16, p_17, rfl, hh18, aa19⟩ := qq5
    have AA20 : Agr [8, 48, 40] G gg4 := AA1.tr aa19 (by simp) (by simp)
    have BB21 : Agr [48, 40] G1 gg4 := BB2.tr aa19 (by simp) (by simp)
    refine G_lstore C (lo' := [(7, .long ((pwr d h).2)), (6, .int 0), (5, .int (nI i)), (4, .ref (ad 49)), (3, .ref (ad 48)), (2, .ref (ad 40)), (1, .ref (ad 0)), (0, .ref b)]) dL_law_1100 (by decide) rfl ?_
    refine G_aload_n C 2 dL_law_1102 rfl rfl ?_
    refine G_callV C (As := []) (rest := []) (c_X9_thrown hh18) ca_X9_thrown km_L_122 (by decide) hh18 rfl rfl rfl rfl (by decide) (Nat.le_of_ble_eq_true rfl) ⟨by show cs + 2 + 0 + 0 ≤ 601024; omega, by show ss + 12 + 0 + 0 ≤ 7293034; omega⟩ dL_law_1103 (fun vv22 gg23 qq24 => ?_)
    obtain ⟨rfl, rfl⟩ := qq24
    refine G_iload C dL_law_1106 rfl ?_
    refine G_icmp_eq C 1113 dL_law_1108 (by decide) (fun _ => ?_) (fun h => absurd h (by decide))
    refine G_iload C dL_law_1113 rfl ?_
    refine G_if_ne C 1129 dL_law_1115 (by decide) (fun h => absurd h (by decide)) (fun _ => ?_)
    refine G_aload_n C 3 dL_law_1118 rfl rfl ?_
    refine G_iconst C (v := 0) dL_law_1119 (by decide) ?_
    refine G_laldN C 48 (by decide) 0 ((aa19 48 (by decide)).trans k9) rfl (by decide) (by omega) dL_law_1120 ?_
    refine GW.toprl (y := (pwr d h).2) (pk_uLs) ?_
    refine G_lload C dL_law_1121 rfl ?_
    refine G_lc_eq C 1129 dL_law_1123 dL_law_1124 (by decide) (fun c1123 => ?_) (fun c1123 => False.elim (c1123 (rfl)))
    refine G_goto C 1974 dL_law_1129 (by decide) ?_
    refine GW.pick [2, 3, 4, 5, 6, 7] [(5, .int (nI i)), (4, .ref (ad 49)), (3, .ref (ad 48)), (2, .ref (ad 40)), (1, .ref (ad 0)), (0, .ref b)] rfl ?_
    refine GW.widen (c1 := cs + 3) (s1 := ss + 18) (by show cs + 2 + 0 + 0 ≤ cs + 3; omega) (by show ss + 12 + 0 + 0 ≤ ss + 18; omega) ?_
    exact K _ (LI_mk  ((aa19 0 (by decide)).trans ((a9 0 (by decide)).trans ((ag9 0 (by decide)).trans g0))) ((aa19 1 (by decide)).trans ((a9 1 (by decide)).trans ((ag9 1 (by decide)).trans g1))) ((aa19 2 (by decide)).trans ((a9 2 (by decide)).trans ((ag9 2 (by decide)).trans g2))) ((aa19 3 (by decide)).trans ((a9 3 (by decide)).trans ((ag9 3 (by decide)).trans g3))) ((aa19 4 (by decide)).trans ((a9 4 (by decide)).trans ((ag9 4 (by decide)).trans g4))) ((aa19 5 (by decide)).trans ((a9 5 (by decide)).trans ((ag9 5 (by decide)).trans g5))) ((aa19 6 (by decide)).trans ((a9 6 (by decide)).trans ((ag9 6 (by decide)).trans g6))) ((aa19 8 (by decide)).trans ((a9 8 (by decide)).trans o98)) ((aa19 19 (by decide)).trans ((a9 19 (by decide)).trans ((ag9 19 (by decide)).trans g19))) ((aa19 20 (by decide)).trans ((a9 20 (by decide)).trans ((ag9 20 (by decide)).trans g20))) ((aa19 21 (by decide)).trans ((a9 21 (by decide)).trans ((ag9 21 (by decide)).trans g21))) ((aa19 22 (by decide)).trans ((a9 22 (by decide)).trans ((ag9 22 (by decide)).trans g22))) ((aa19 23 (by decide)).trans ((a9 23 (by decide)).trans ((ag9 23 (by decide)).trans g23))) ((aa19 24 (by decide)).trans ((a9 24 (by decide)).trans ((ag9 24 (by decide)).trans g24))) ((aa19 25 (by decide)).trans ((a9 25 (by decide)).trans ((ag9 25 (by decide)).trans g25))) ((aa19 26 (by decide)).trans ((a9 26 (by decide)).trans ((ag9 26 (by decide)).trans g26))) ((aa19 27 (by decide)).trans ((a9 27 (by decide)).trans ((ag9 27 (by decide)).trans g27))) ((aa19 38 (by decide)).trans ((a9 38 (by decide)).trans ((ag9 38 (by decide)).trans g38))) ((aa19 39 (by decide)).trans ((a9 39 (by decide)).trans ((ag9 39 (by decide)).trans g39))) hh18 ((aa19 41 (by decide)).trans ((a9 41 (by decide)).trans ((ag9 41 (by decide)).trans g41))) ((aa19 42 (by decide)).trans ((a9 42 (by decide)).trans ((ag9 42 (by decide)).trans g42))) ((aa19 43 (by decide)).trans ((a9 43 (by decide)).trans ((ag9 43 (by decide)).trans g43))) ((aa19 44 (by decide)).trans ((a9 44 (by decide)).trans ((ag9 44 (by decide)).trans g44))) ((aa19 45 (by decide)).trans ((a9 45 (by decide)).trans ((ag9 45 (by decide)).trans g45))) ((aa19 46 (by decide)).trans ((a9 46 (by decide)).trans ((ag9 46 (by decide)).trans g46))) ((aa19 47 (by decide)).trans ((a9 47 (by decide)).trans ((ag9 47 (by decide)).trans g47))) ((aa19 48 (by decide)).trans k9) ((aa19 49 (by decide)).trans ((a9 49 (by decide)).trans ((ag9 49 (by decide)).trans g49))) (hH.keep AA20 (by decide)) (qp_keep hQ AA20 (by decide)) (hk) (hL) (hsg) (hP) (h4) (hn6) (htx) (he) (hkp))
  · obtain ⟨z9, rfl⟩ := hx1
    have hPx := z9.elim (fun y => y.2) (fun y => absurd y.1 ne_AN)
    refine G_istore C (lo' := [(6, .int 1), (5, .int (nI i)), (4, .ref (ad 49)), (3, .ref (ad 48)), (2, .ref (ad 40)), (1, .ref (ad 0)), (0, .ref b)]) dL_law_1088 (by decide) rfl ?_
    refine G_aload_n C 2 dL_law_1090 rfl rfl ?_
    refine G_aload_n C 0 dL_law_1091 rfl rfl ?_
    refine G_iload C dL_law_1092 rfl ?_
    refine G_iconst C (v := 1) dL_law_1094 (by decide) ?_
    refine G_iadd C dL_law_1095 ?_
    refine GW.topr (cI_add (a := i) (b := 1) rfl rfl) ?_
    refine G_sld C hX (j := (i + 1)) (by omega) (by omega) dL_law_1096 ?_
    refine G_callV C (As := [.int (xs (i + 1))]) (rest := []) (c_X9_yOfA g40 hPx) ca_X9_yOf km_L_174 (by decide) g40 rfl rfl rfl rfl (by decide) (Nat.le_of_ble_eq_true rfl) ⟨by show cs + 2 + 0 ≤ 601024; omega, by show ss + 12 + 0 ≤ 7293034; omega⟩ dL_law_1097 (fun vv25 gg26 qq27 => ?_)
    obtain ⟨rfl, hh28, aa29⟩ := qq27
    have AA30 : Agr [40] G gg26 := aa29.wk (by simp)
    refine G_lstore C (lo' := [(7, .long 0), (6, .int 1), (5, .int (nI i)), (4, .ref (ad 49)), (3, .ref (ad 48)), (2, .ref (ad 40)), (1, .ref (ad 0)), (0, .ref b)]) dL_law_1100 (by decide) rfl ?_
    refine G_aload_n C 2 dL_law_1102 rfl rfl ?_
    refine G_callV C (As := []) (rest := []) (c_X9_thrown hh28) ca_X9_thrown km_L_122 (by decide) hh28 rfl rfl rfl rfl (by decide) (Nat.le_of_ble_eq_true rfl) ⟨by show cs + 2 + 0 + 0 ≤ 601024; omega, by show ss + 12 + 0 + 0 ≤ 7293034; omega⟩ dL_law_1103 (fun vv31 gg32 qq33 => ?_)
    obtain ⟨rfl, rfl⟩ := qq33
    refine G_iload C dL_law_1106 rfl ?_
    refine G_icmp_eq C 1113 dL_law_1108 (by decide) (fun _ => ?_) (fun h => absurd h (by decide))
    refine G_iload C dL_law_1113 rfl ?_
    refine G_if_ne C 1129 dL_law_1115 (by decide) (fun _ => ?_) (fun h => absurd h (by decide))
    refine G_goto C 1974 dL_law_1129 (by decide) ?_
    refine GW.pick [2, 3, 4, 5, 6, 7] [(5, .int (nI i)), (4, .ref (ad 49)), (3, .ref (ad 48)), (2, .ref (ad 40)), (1, .ref (ad 0)), (0, .ref b)] rfl ?_
    refine GW.widen (c1 := cs + 3) (s1 := ss + 18) (by show cs + 2 + 0 + 0 ≤ cs + 3; omega) (by show ss + 12 + 0 + 0 ≤ ss + 18; omega) ?_
    exact K _ (LI_mk  ((aa29 0 (by decide)).trans g0) ((aa29 1 (by decide)).trans g1) ((aa29 2 (by decide)).trans g2) ((aa29 3 (by decide)).trans g3) ((aa29 4 (by decide)).trans g4) ((aa29 5 (by decide)).trans g5) ((aa29 6 (by decide)).trans g6) ((aa29 8 (by decide)).trans g8) ((aa29 19 (by decide)).trans g19) ((aa29 20 (by decide)).trans g20) ((aa29 21 (by decide)).trans g21) ((aa29 22 (by decide)).trans g22) ((aa29 23 (by decide)).trans g23) ((aa29 24 (by decide)).trans g24) ((aa29 25 (by decide)).trans g25) ((aa29 26 (by decide)).trans g26) ((aa29 27 (by decide)).trans g27) ((aa29 38 (by decide)).trans g38) ((aa29 39 (by decide)).trans g39) hh28 ((aa29 41 (by decide)).trans g41) ((aa29 42 (by decide)).trans g42) ((aa29 43 (by decide)).trans g43) ((aa29 44 (by decide)).trans g44) ((aa29 45 (by decide)).trans g45) ((aa29 46 (by decide)).trans g46) ((aa29 47 (by decide)).trans g47) ((aa29 48 (by decide)).trans g48) ((aa29 49 (by decide)).trans g49) (hH.keep AA30 (by decide)) (qp_keep hQ AA30 (by decide)) (hk) (hL) (hsg) (hP) (h4) (hn6) (htx) (he) (hkp))
  · obtain ⟨z9, rfl⟩ := hx1
    have hPx := z9.elim (fun y => absurd y.1 ne_NA) (fun y => y.2)
    obtain ⟨d, h2, h60, hn⟩ := num_nat (n := xs (i + 1)) hPx.1
    have hro := (has_lt hk h2 h60).mp (by rw [← hn]; exact hPx.2)
    refine G_istore C (lo' := [(6, .int 2), (5, .int (nI i)), (4, .ref (ad 49)), (3, .ref (ad 48)), (2, .ref (ad 40)), (1, .ref (ad 0)), (0, .ref b)]) dL_law_1088 (by decide) rfl ?_
    refine G_aload_n C 2 dL_law_1090 rfl rfl ?_
    refine G_aload_n C 0 dL_law_1091 rfl rfl ?_
    refine G_iload C dL_law_1092 rfl ?_
    refine G_iconst C (v := 1) dL_law_1094 (by decide) ?_
    refine G_iadd C dL_law_1095 ?_
    refine GW.topr (cI_add (a := i) (b := 1) rfl rfl) ?_
    refine G_sld C hX (j := (i + 1)) (by omega) (by omega) dL_law_1096 ?_
    refine GW.topr (y := nI d) (hn) ?_
    refine G_callV C (As := [.int (nI d)]) (rest := []) (c_X9_yOfS g40 g41 h2 h60 hro) ca_X9_yOf km_L_174 (by decide) g40 rfl rfl rfl rfl (by decide) (Nat.le_of_ble_eq_true rfl) ⟨by show cs + 2 + 0 ≤ 601024; omega, by show ss + 12 + 0 ≤ 7293034; omega⟩ dL_law_1097 (fun vv34 gg35 qq36 => ?_)
    obtain ⟨rfl, hh37, aa38⟩ := qq36
    have AA39 : Agr [40] G gg35 := aa38.wk (by simp)
    refine G_lstore C (lo' := [(7, .long 0), (6, .int 2), (5, .int (nI i)), (4, .ref (ad 49)), (3, .ref (ad 48)), (2, .ref (ad 40)), (1, .ref (ad 0)), (0, .ref b)]) dL_law_1100 (by decide) rfl ?_
    refine G_aload_n C 2 dL_law_1102 rfl rfl ?_
    refine G_callV C (As := []) (rest := []) (c_X9_thrown hh37) ca_X9_thrown km_L_122 (by decide) hh37 rfl rfl rfl rfl (by decide) (Nat.le_of_ble_eq_true rfl) ⟨by show cs + 2 + 0 + 0 ≤ 601024; omega, by show ss + 12 + 0 + 0 ≤ 7293034; omega⟩ dL_law_1103 (fun vv40 gg41 qq42 => ?_)
    obtain ⟨rfl, rfl⟩ := qq42
    refine G_iload C dL_law_1106 rfl ?_
    refine G_icmp_eq C 1113 dL_law_1108 (by decide) (fun _ => ?_) (fun h => absurd h (by decide))
    refine G_iload C dL_law_1113 rfl ?_
    refine G_if_ne C 1129 dL_law_1115 (by decide) (fun _ => ?_) (fun h => absurd h (by decide))
    refine G_goto C 1974 dL_law_1129 (by decide) ?_
    refine GW.pick [2, 3, 4, 5, 6, 7] [(5, .int (nI i)), (4, .ref (ad 49)), (3, .ref (ad 48)), (2, .ref (ad 40)), (1, .ref (ad 0)), (0, .ref b)] rfl ?_
    refine GW.widen (c1 := cs + 3) (s1 := ss + 18) (by show cs + 2 + 0 + 0 ≤ cs + 3; omega) (by show ss + 12 + 0 + 0 ≤ ss + 18; omega) ?_
    exact K _ (LI_mk  ((aa38 0 (by decide)).trans g0) ((aa38 1 (by decide)).trans g1) ((aa38 2 (by decide)).trans g2) ((aa38 3 (by decide)).trans g3) ((aa38 4 (by decide)).trans g4) ((aa38 5 (by decide)).trans g5) ((aa38 6 (by decide)).trans g6) ((aa38 8 (by decide)).trans g8) ((aa38 19 (by decide)).trans g19) ((aa38 20 (by decide)).trans g20) ((aa38 21 (by decide)).trans g21) ((aa38 22 (by decide)).trans g22) ((aa38 23 (by decide)).trans g23) ((aa38 24 (by decide)).trans g24) ((aa38 25 (by decide)).trans g25) ((aa38 26 (by decide)).trans g26) ((aa38 27 (by decide)).trans g27) ((aa38 38 (by decide)).trans g38) ((aa38 39 (by decide)).trans g39) hh37 ((aa38 41 (by decide)).trans g41) ((aa38 42 (by decide)).trans g42) ((aa38 43 (by decide)).trans g43) ((aa38 44 (by decide)).trans g44) ((aa38 45 (by decide)).trans g45) ((aa38 46 (by decide)).trans g46) ((aa38 47 (by decide)).trans g47) ((aa38 48 (by decide)).trans g48) ((aa38 49 (by decide)).trans g49) (hH.keep AA39 (by decide)) (qp_keep hQ AA39 (by decide)) (hk) (hL) (hsg) (hP) (h4) (hn6) (htx) (he) (hkp))

set_option maxRecDepth 100000 in
set_option maxHeartbeats 4000000 in
theorem LC_18 {L : GL} {E : GE} {ad : Nat → Nat} {G : Nat → va_E} {cs ss b Ls i : Nat} {xs : Nat → Int32} (C : gC L E cL_law RL 9 room_1) (hX : LWx L E b Ls xs) (hi : i + 3 ≤ Ls) (hLs : Ls ≤ 1536) (hcs : cs + 3 ≤ 601024 ∧ ss + 18 ≤ 7293034) (hI : LI L ad G) (K : ∀ G', LI L ad G' → GW L E 50 ad G' (cs + 3) (ss + 18) 1974 [(5, .int (nI i)), (4, .ref (ad 49)), (3, .ref (ad 48)), (2, .ref (ad 40)), (1, .ref (ad 0)), (0, .ref b)] []) : GW L E 50 ad G cs ss 1188 [(5, .int (nI i)), (4, .ref (ad 49)), (3, .ref (ad 48)), (2, .ref (ad 40)), (1, .ref (ad 0)), (0, .ref b)] [] := by
  refine LI_elim hI (fun sn t1 t2 t3 t4 t5 b1 b2 b3 b4 b5 s0 q1 q2 q3 q4 q5 xz l ml f l2 ml2 f2 l3 ml3 f3 hs len od ps rs cu tx ik th m q te fx fy nx ny ux uy us px py sp bg fo le fi re ca f42 f43 pf tm xx yy ov ow g0 g1 g2 g3 g4 g5 g6 g8 g19 g20 g21 g22 g23 g24 g25 g26 g27 g38 g39 g40 g41 g42 g43 g44 g45 g46 g47 g48 g49 hH hQ hk hL hsg hP h4 hn6 htx he hkp => ?_)
  refine G_aload_n C 1 dL_law_1188 rfl rfl ?_
  refine G_aload_n C 0 dL_law_1189 rfl rfl ?_
  refine G_iload C dL_law_1190 rfl ?_
  refine G_iconst C (v := 1) dL_law_1192 (by decide) ?_
  refine G_iadd C dL_law_1193 ?_
  refine GW.topr (cI_add (a := i) (b := 1) rfl rfl) ?_
  refine G_sld C hX (j := (i + 1)) (by omega) (by omega) dL_law_1194 ?_
  refine G_aload_n C 3 dL_law_1195 rfl rfl ?_
  refine G_callSH C (As := [.ref (ad 0), .int (xs (i + 1)), .ref (ad 48)]) (rest := []) (w_signByRemainders (c_X8_signByRemainders g0 g1 g4 g5 g8 g22 g23 hk) g0 (fun v G2 hq => by obtain ⟨d, h, rfl, _, _, _, _, _, _, _, ag⟩ := hq; exact ⟨⟨_, rfl⟩, (ag 48 (by decide)).trans g48⟩) (fun e G2 h => h.1.elim (fun z => Or.inl z.1) (fun z => Or.inr z.1))) ca_L_signByRemainders km_L_178 rfl rfl (by decide) (Nat.le_of_ble_eq_true rfl) ⟨by show cs + 2 ≤ 601024; omega, by show ss + 12 ≤ 7293034; omega⟩ dL_law_1196 (fun vv G9 hq9 => ?_)
  rcases hq9 with ⟨r, G1, hq1, rfl, k9, a9⟩ | ⟨hx1, rfl⟩ | ⟨hx1, rfl⟩
  · obtain ⟨d, h, h9, q90, q91, q92, q93, q94, q95, o98, ag9⟩ := hq1
    obtain rfl := (sint_inj h9).symm
    have AA0 : Agr [8] G G1 := ag9
    have AA1 : Agr [8, 48] G G9 := AA0.tr a9 (by simp) (by simp)
    have BB2 : Agr [48] G1 G9 := a9.wk (by simp)
    have hf : f d = nI h := by rw [← hOf_d f (by have := q92; omega), ← q90]; exact q95
    refine G_istore C (lo' := [(6, .int 0), (5, .int (nI i)), (4, .ref (ad 49)), (3, .ref (ad 48)), (2, .ref (ad 40)), (1, .ref (ad 0)), (0, .ref b)]) dL_law_1199 (by decide) rfl ?_
    refine G_aload_n C 2 dL_law_1201 rfl rfl ?_
    refine G_aload_n C 0 dL_law_1202 rfl rfl ?_
    refine G_iload C dL_law_1203 rfl ?_
    refine G_iconst C (v := 1) dL_law_1205 (by decide) ?_
    refine G_iadd C dL_law_1206 ?_
    refine GW.topr (cI_add (a := i) (b := 1) rfl rfl) ?_
    refine G_sld C hX (j := (i + 1)) (by omega) (by omega) dL_law_1207 ?_
    refine GW.topr (y := nI d) (q90) ?_
    refine G_callV C (As := [.int (nI d)]) (rest := []) (c_X9_signByRemaindersR ((a9 40 (by decide)).trans ((ag9 40 (by decide)).trans g40)) ((a9 41 (by decide)).trans ((ag9 41 (by decide)).trans g41)) q91 q92 q93 q94 hf) ca_X9_signByRemainders km_L_180 (by decide) ((a9 40 (by decide)).trans ((ag9 40 (by decide)).trans g40)) rfl rfl rfl rfl (by decide) (Nat.le_of_ble_eq_true rfl) ⟨by show cs + 2 + 0 ≤ 601024; omega, by show ss + 12 + 0 ≤ 7293034; omega⟩ dL_law_1208 (fun vv3 gg4 qq5 => ?_)
    obtain ⟨j_6, j_7, j_8, j_9, j_10, j_11, j_12, u_13, u_14, u_15, p_16, p_17, rfl, hh18, aa19⟩ := qq5
    have AA20 : Agr [8, 48, 40] G gg4 := AA1.tr aa19 (by simp) (by simp)
    have BB21 : Agr [48, 40] G1 gg4 := BB2.tr aa19 (by simp) (by simp)
    refine G_istore C (lo' := [(7, .int (sgM f d)), (6, .int 0), (5, .int (nI i)), (4, .ref (ad 49)), (3, .ref (ad 48)), (2, .ref (ad 40)), (1, .ref (ad 0)), (0, .ref b)]) dL_law_1211 (by decide) rfl ?_
    refine G_aload_n C 2 dL_law_1213 rfl rfl ?_
    refine G_callV C (As := []) (rest := []) (c_X9_thrown hh18) ca_X9_thrown km_L_122 (by decide) hh18 rfl rfl rfl rfl (by decide) (Nat.le_of_ble_eq_true rfl) ⟨by show cs + 2 + 0 + 0 ≤ 601024; omega, by show ss + 12 + 0 + 0 ≤ 7293034; omega⟩ dL_law_1214 (fun vv22 gg23 qq24 => ?_)
    obtain ⟨rfl, rfl⟩ := qq24
    refine G_iload C dL_law_1217 rfl ?_
    refine G_icmp_eq C 1224 dL_law_1219 (by decide) (fun _ => ?_) (fun h => absurd h (by decide))
    refine G_iload C dL_law_1224 rfl ?_
    refine G_if_ne C 1241 dL_law_1226 (by decide) (fun h => absurd h (by decide)) (fun _ => ?_)
    refine G_aload_n C 3 dL_law_1229 rfl rfl ?_
    refine G_iconst C (v := 0) dL_law_1230 (by decide) ?_
    refine G_laldN C 48 (by decide) 0 ((aa19 48 (by decide)).trans k9) rfl (by decide) (by omega) dL_law_1231 ?_
    refine GW.toprl (y := (srF (nI d) (pwr d h).1 (pwr d h).2).toInt64) (pk_uLs) ?_
    refine G_iload C dL_law_1232 rfl ?_
    refine G_i2l C dL_law_1234 rfl ?_
    refine G_lc_eq C 1241 dL_law_1235 dL_law_1236 (by decide) (fun c1235 => ?_) (fun c1235 => False.elim (c1235 (by rw [sr_eq q92 q93 q94 hf])))
    refine G_goto C 1974 dL_law_1241 (by decide) ?_
    refine GW.pick [2, 3, 4, 5, 6, 7] [(5, .int (nI i)), (4, .ref (ad 49)), (3, .ref (ad 48)), (2, .ref (ad 40)), (1, .ref (ad 0)), (0, .ref b)] rfl ?_
    refine GW.widen (c1 := cs + 3) (s1 := ss + 18) (by show cs + 2 + 0 + 0 ≤ cs + 3; omega) (by show ss + 12 + 0 + 0 ≤ ss + 18; omega) ?_
    exact K _ (LI_mk  ((aa19 0 (by decide)).trans ((a9 0 (by decide)).trans ((ag9 0 (by decide)).trans g0))) ((aa19 1 (by decide)).trans ((a9 1 (by decide)).trans ((ag9 1 (by decide)).trans g1))) ((aa19 2 (by decide)).trans ((a9 2 (by decide)).trans ((ag9 2 (by decide)).trans g2))) ((aa19 3 (by decide)).trans ((a9 3 (by decide)).trans ((ag9 3 (by decide)).trans g3))) ((aa19 4 (by decide)).trans ((a9 4 (by decide)).trans ((ag9 4 (by decide)).trans g4))) ((aa19 5 (by decide)).trans ((a9 5 (by decide)).trans ((ag9 5 (by decide)).trans g5))) ((aa19 6 (by decide)).trans ((a9 6 (by decide)).trans ((ag9 6 (by decide)).trans g6))) ((aa19 8 (by decide)).trans ((a9 8 (by decide)).trans o98)) ((aa19 19 (by decide)).trans ((a9 19 (by decide)).trans ((ag9 19 (by decide)).trans g19))) ((aa19 20 (by decide)).trans ((a9 20 (by decide)).trans ((ag9 20 (by decide)).trans g20))) ((aa19 21 (by decide)).trans ((a9 21 (by decide)).trans ((ag9 21 (by decide)).trans g21))) ((aa19 22 (by decide)).trans ((a9 22 (by decide)).trans ((ag9 22 (by decide)).trans g22))) ((aa19 23 (by decide)).trans ((a9 23 (by decide)).trans ((ag9 23 (by decide)).trans g23))) ((aa19 24 (by decide)).trans ((a9 24 (by decide)).trans ((ag9 24 (by decide)).trans g24))) ((aa19 25 (by decide)).trans ((a9 25 (by decide)).trans ((ag9 25 (by decide)).trans g25))) ((aa19 26 (by decide)).trans ((a9 26 (by decide)).trans ((ag9 26 (by decide)).trans g26))) ((aa19 27 (by decide)).trans ((a9 27 (by decide)).trans ((ag9 27 (by decide)).trans g27))) ((aa19 38 (by decide)).trans ((a9 38 (by decide)).trans ((ag9 38 (by decide)).trans g38))) ((aa19 39 (by decide)).trans ((a9 39 (by decide)).trans ((ag9 39 (by decide)).trans g39))) hh18 ((aa19 41 (by decide)).trans ((a9 41 (by decide)).trans ((ag9 41 (by decide)).trans g41))) ((aa19 42 (by decide)).trans ((a9 42 (by decide)).trans ((ag9 42 (by decide)).trans g42))) ((aa19 43 (by decide)).trans ((a9 43 (by decide)).trans ((ag9 43 (by decide)).trans g43))) ((aa19 44 (by decide)).trans ((a9 44 (by decide)).trans ((ag9 44 (by decide)).trans g44))) ((aa19 45 (by decide)).trans ((a9 45 (by decide)).trans ((ag9 45 (by decide)).trans g45))) ((aa19 46 (by decide)).trans ((a9 46 (by decide)).trans ((ag9 46 (by decide)).trans g46))) ((aa19 47 (by decide)).trans ((a9 47 (by decide)).trans ((ag9 47 (by decide)).trans g47))) ((aa19 48 (by decide)).trans k9) ((aa19 49 (by decide)).trans ((a9 49 (by decide)).trans ((ag9 49 (by decide)).trans g49))) (hH.keep AA20 (by decide)) (qp_keep hQ AA20 (by decide)) (hk) (hL) (hsg) (hP) (h4) (hn6) (htx) (he) (hkp))
  · obtain ⟨z9, rfl⟩ := hx1
    have hPx := z9.elim (fun y => y.2) (fun y => absurd y.1 ne_AN)
    refine G_istore C (lo' := [(6, .int 1), (5, .int (nI i)), (4, .ref (ad 49)), (3, .ref (ad 48)), (2, .ref (ad 40)), (1, .ref (ad 0)), (0, .ref b)]) dL_law_1199 (by decide) rfl ?_
    refine G_aload_n C 2 dL_law_1201 rfl rfl ?_
    refine G_aload_n C 0 dL_law_1202 rfl rfl ?_
    refine G_iload C dL_law_1203 rfl ?_
    refine G_iconst C (v := 1) dL_law_1205 (by decide) ?_
    refine G_iadd C dL_law_1206 ?_
    refine GW.topr (cI_add (a := i) (b := 1) rfl rfl) ?_
    refine G_sld C hX (j := (i + 1)) (by omega) (by omega) dL_law_1207 ?_
    refine G_callV C (As := [.int (xs (i + 1))]) (rest := []) (c_X9_signByRemaindersA g40 hPx) ca_X9_signByRemainders km_L_180 (by decide) g40 rfl rfl rfl rfl (by decide) (Nat.le_of_ble_eq_true rfl) ⟨by show cs + 2 + 0 ≤ 601024; omega, by show ss + 12 + 0 ≤ 7293034; omega⟩ dL_law_1208 (fun vv25 gg26 qq27 => ?_)
    obtain ⟨rfl, hh28, aa29⟩ := qq27
    have AA30 : Agr [40] G gg26 := aa29.wk (by simp)
    refine G_istore C (lo' := [(7, .int 0), (6, .int 1), (5, .int (nI i)), (4, .ref (ad 49)), (3, .ref (ad 48)), (2, .ref (ad 40)), (1, .ref (ad 0)), (0, .ref b)]) dL_law_1211 (by decide) rfl ?_
    refine G_aload_n C 2 dL_law_1213 rfl rfl ?_
    refine G_callV C (As := []) (rest := []) (c_X9_thrown hh28) ca_X9_thrown km_L_122 (by decide) hh28 rfl rfl rfl rfl (by decide) (Nat.le_of_ble_eq_true rfl) ⟨by show cs + 2 + 0 + 0 ≤ 601024; omega, by show ss + 12 + 0 + 0 ≤ 7293034; omega⟩ dL_law_1214 (fun vv31 gg32 qq33 => ?_)
    obtain ⟨rfl, rfl⟩ := qq33
    refine G_iload C dL_law_1217 rfl ?_
    refine G_icmp_eq C 1224 dL_law_1219 (by decide) (fun _ => ?_) (fun h => absurd h (by decide))
    refine G_iload C dL_law_1224 rfl ?_
    refine G_if_ne C 1241 dL_law_1226 (by decide) (fun _ => ?_) (fun h => absurd h (by decide))
    refine G_goto C 1974 dL_law_1241 (by decide) ?_
    refine GW.pick [2, 3, 4, 5, 6, 7] [(5, .int (nI i)), (4, .ref (ad 49)), (3, .ref (ad 48)), (2, .ref (ad 40)), (1, .ref (ad 0)), (0, .ref b)] rfl ?_
    refine GW.widen (c1 := cs + 3) (s1 := ss + 18) (by show cs + 2 + 0 + 0 ≤ cs + 3; omega) (by show ss + 12 + 0 + 0 ≤ ss + 18; omega) ?_
    exact K _ (LI_mk  ((aa29 0 (by decide)).trans g0) ((aa29 1 (by decide)).trans g1) ((aa29 2 (by decide)).trans g2) ((aa29 3 (by decide)).trans g3) ((aa29 4 (by decide)).trans g4) ((aa29 5 (by decide)).trans g5) ((aa29 6 (by decide)).trans g6) ((aa29 8 (by decide)).trans g8) ((aa29 19 (by decide)).trans g19) ((aa29 20 (by decide)).trans g20) ((aa29 21 (by decide)).trans g21) ((aa29 22 (by decide)).trans g22) ((aa29 23 (by decide)).trans g23) ((aa29 24 (by decide)).trans g24) ((aa29 25 (by decide)).trans g25) ((aa29 26 (by decide)).trans g26) ((aa29 27 (by decide)).trans g27) ((aa29 38 (by decide)).trans g38) ((aa29 39 (by decide)).trans g39) hh28 ((aa29 41 (by decide)).trans g41) ((aa29 42 (by decide)).trans g42) ((aa29 43 (by decide)).trans g43) ((aa29 44 (by decide)).trans g44) ((aa29 45 (by decide)).trans g45) ((aa29 46 (by decide)).trans g46) ((aa29 47 (by decide)).trans g47) ((aa29 48 (by decide)).trans g48) ((aa29 49 (by decide)).trans g49) (hH.keep AA30 (by decide)) (qp_keep hQ AA30 (by decide)) (hk) (hL) (hsg) (hP) (h4) (hn6) (htx) (he) (hkp))
  · obtain ⟨z9, rfl⟩ := hx1
    have hPx := z9.elim (fun y => absurd y.1 ne_NA) (fun y => y.2)
    obtain ⟨d, h2, h60, hn⟩ := num_nat (n := xs (i + 1)) hPx.1
    have hro := (has_lt hk h2 h60).mp (by rw [← hn]; exact hPx.2)
    refine G_istore C (lo' := [(6, .int 2), (5, .int (nI i)), (4, .ref (ad 49)), (3, .ref (ad 48)), (2, .ref (ad 40)), (1, .ref (ad 0)), (0, .ref b)]) dL_law_1199 (by decide) rfl ?_
    refine G_aload_n C 2 dL_law_1201 rfl rfl ?_
    refine G_aload_n C 0 dL_law_1202 rfl rfl ?_
    refine G_iload C dL_law_1203 rfl ?_
    refine G_iconst C (v := 1) dL_law_1205 (by decide) ?_
    refine G_iadd C dL_law_1206 ?_
    refine GW.topr (cI_add (a := i) (b := 1) rfl rfl) ?_
    refine G_sld C hX (j := (i + 1)) (by omega) (by omega) dL_law_1207 ?_
    refine GW.topr (y := nI d) (hn) ?_
    refine G_callV C (As := [.int (nI d)]) (rest := []) (c_X9_signByRemaindersS g40 g41 h2 h60 hro) ca_X9_signByRemainders km_L_180 (by decide) g40 rfl rfl rfl rfl (by decide) (Nat.le_of_ble_eq_true rfl) ⟨by show cs + 2 + 0 ≤ 601024; omega, by show ss + 12 + 0 ≤ 7293034; omega⟩ dL_law_1208 (fun vv34 gg35 qq36 => ?_)
    obtain ⟨rfl, hh37, aa38⟩ := qq36
    have AA39 : Agr [40] G gg35 := aa38.wk (by simp)
    refine G_istore C (lo' := [(7, .int 0), (6, .int 2), (5, .int (nI i)), (4, .ref (ad 49)), (3, .ref (ad 48)), (2, .ref (ad 40)), (1, .ref (ad 0)), (0, .ref b)]) dL_law_1211 (by decide) rfl ?_
    refine G_aload_n C 2 dL_law_1213 rfl rfl ?_
    refine G_callV C (As := []) (rest := []) (c_X9_thrown hh37) ca_X9_thrown km_L_122 (by decide) hh37 rfl rfl rfl rfl (by decide) (Nat.le_of_ble_eq_true rfl) ⟨by show cs + 2 + 0 + 0 ≤ 601024; omega, by show ss + 12 + 0 + 0 ≤ 7293034; omega⟩ dL_law_1214 (fun vv40 gg41 qq42 => ?_)
    obtain ⟨rfl, rfl⟩ := qq42
    refine G_iload C dL_law_1217 rfl ?_
    refine G_icmp_eq C 1224 dL_law_1219 (by decide) (fun _ => ?_) (fun h => absurd h (by decide))
    refine G_iload C dL_law_1224 rfl ?_
    refine G_if_ne C 1241 dL_law_1226 (by decide) (fun _ => ?_) (fun h => absurd h (by decide))
    refine G_goto C 1974 dL_law_1241 (by decide) ?_
    refine GW.pick [2, 3, 4, 5, 6, 7] [(5, .int (nI i)), (4, .ref (ad 49)), (3, .ref (ad 48)), (2, .ref (ad 40)), (1, .ref (ad 0)), (0, .ref b)] rfl ?_
    refine GW.widen (c1 := cs + 3) (s1 := ss + 18) (by show cs + 2 + 0 + 0 ≤ cs + 3; omega) (by show ss + 12 + 0 + 0 ≤ ss + 18; omega) ?_
    exact K _ (LI_mk  ((aa38 0 (by decide)).trans g0) ((aa38 1 (by decide)).trans g1) ((aa38 2 (by decide)).trans g2) ((aa38 3 (by decide)).trans g3) ((aa38 4 (by decide)).trans g4) ((aa38 5 (by decide)).trans g5) ((aa38 6 (by decide)).trans g6) ((aa38 8 (by decide)).trans g8) ((aa38 19 (by decide)).trans g19) ((aa38 20 (by decide)).trans g20) ((aa38 21 (by decide)).trans g21) ((aa38 22 (by decide)).trans g22) ((aa38 23 (by decide)).trans g23) ((aa38 24 (by decide)).trans g24) ((aa38 25 (by decide)).trans g25) ((aa38 26 (by decide)).trans g26) ((aa38 27 (by decide)).trans g27) ((aa38 38 (by decide)).trans g38) ((aa38 39 (by decide)).trans g39) hh37 ((aa38 41 (by decide)).trans g41) ((aa38 42 (by decide)).trans g42) ((aa38 43 (by decide)).trans g43) ((aa38 44 (by decide)).trans g44) ((aa38 45 (by decide)).trans g45) ((aa38 46 (by decide)).trans g46) ((aa38 47 (by decide)).trans g47) ((aa38 48 (by decide)).trans g48) ((aa38 49 (by decide)).trans g49) (hH.keep AA39 (by decide)) (qp_keep hQ AA39 (by decide)) (hk) (hL) (hsg) (hP) (h4) (hn6) (htx) (he) (hkp))

