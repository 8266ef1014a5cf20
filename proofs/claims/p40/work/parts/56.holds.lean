abbrev rm_L_holds : Room := ({ frames := 11, cells := 31000, slots := 190000, locals := 214 } : Room)
set_option maxRecDepth 100000 in
set_option maxHeartbeats 4000000 in
theorem c_L_holds {L : GL} {ad : Nat → Nat} {G : Nat → va_E} {s : HE} {sn : Int32} {k : HE} {hs : List HE} {len : Nat} {tx : Nat → Int32} {x : Int32}   (hI : PI L ad G s sn k hs len tx) : GM L yL_holds cL_holds 22 ((some .boolean)) rm_L_holds 40 ad G [.ref (ad 0), .int x] (fun vo G' => vo = some (.int 1) ∧ PI L ad G' s sn k hs len tx) := by
  refine GM.of (own := RL) (lo := [(0, .ref (ad 0)), (1, .int x)]) (by decide +kernel) rfl rfl (Nat.le_of_ble_eq_true rfl) (fun E C hr => ?_)
  refine G_iconst C (v := 0) dL_holds_0 (by decide) ?_
  refine G_istore_n C 2 (lo' := [(2, .int 0), (0, .ref (ad 0)), (1, .int x)]) dL_holds_1 rfl (by decide) rfl ?_
  refine G_iconst C (v := 0) dL_holds_2 (by decide) ?_
  refine G_istore_n C 3 (lo' := [(3, .int 0), (2, .int 0), (0, .ref (ad 0)), (1, .int x)]) dL_holds_3 rfl (by decide) rfl ?_
  refine G_bipush C (v := (-104)) dL_holds_4 (by decide) ?_
  refine G_istore C (lo' := [(4, .int (-104)), (3, .int 0), (2, .int 0), (0, .ref (ad 0)), (1, .int x)]) dL_holds_6 (by decide) rfl ?_
  refine G_aload_n C 0 dL_holds_8 rfl rfl ?_
  refine G_pcM C hI.h0 (As := []) (rest := []) (p_solutions  hI ) ca_X8_solutions km_L_159 rfl rfl (by decide) (Nat.le_of_ble_eq_true rfl) (by decide) dL_holds_9 (fun vv2 gg1 qq3 => ?_)
  obtain ⟨rfl, hI4⟩ := qq3
  refine GW.topr (y := nI (tA s.1)) (cu_e hI.g.1) ?_
  refine G_istore C (lo' := [(5, .int (nI (tA s.1))), (4, .int (-104)), (3, .int 0), (2, .int 0), (0, .ref (ad 0)), (1, .int x)]) dL_holds_12 (by decide) rfl ?_
  refine G_iconst C (v := 0) dL_holds_14 (by decide) ?_
  refine G_istore C (lo' := [(6, .int 0), (5, .int (nI (tA s.1))), (4, .int (-104)), (3, .int 0), (2, .int 0), (0, .ref (ad 0)), (1, .int x)]) dL_holds_15 (by decide) rfl ?_
  refine G_aload_n C 0 dL_holds_17 rfl rfl ?_
  have hk := hI.g.1
  have hL := hI.g.2.1
  have h4 := hI.g.2.2.2.1
  have hA : tA s.1 ≤ 2301 := cns_le s.1 1000000000000000
  refine G_pcM C hI4.h0 (As := []) (rest := []) (p_states  hI4 ) ca_X8_states km_L_162 rfl rfl (by decide) (Nat.le_of_ble_eq_true rfl) (by decide) dL_holds_18 (fun vv6 gg5 qq7 => ?_)
  obtain ⟨rfl, hI8⟩ := qq7
  refine G_if_lt C 118 dL_holds_21 (by decide) (fun c21 => False.elim (nI_pos (by omega) c21)) (fun c21 => ?_)
  refine G_aload_n C 0 dL_holds_24 rfl rfl ?_
  refine G_pcM C hI8.h0 (As := []) (rest := []) (p_states  hI8 ) ca_X8_states km_L_162 rfl rfl (by decide) (Nat.le_of_ble_eq_true rfl) (by decide) dL_holds_25 (fun vv10 gg9 qq11 => ?_)
  obtain ⟨rfl, hI12⟩ := qq11
  refine G_iconst C (v := 4) dL_holds_28 (by decide) ?_
  refine G_icmp_gt C 118 dL_holds_29 (by decide) (fun c29 => False.elim (nI_nlt2 (a := hs.length) (b := 4) (by omega) (by omega) h4 c29)) (fun c29 => ?_)
  refine G_aload_n C 0 dL_holds_32 rfl rfl ?_
  refine G_bipush C (v := 61) dL_holds_33 (by decide) ?_
  refine G_callSH C (As := [.ref (ad 0), .int 61]) (rest := []) (v_whyNotO  hI12 (by decide)) ca_L_whyNot km_L_165 rfl rfl (by decide) (Nat.le_of_ble_eq_true rfl) (by decide) dL_holds_35 (fun vv14 gg13 qq15 => ?_)
  obtain ⟨rfl, hI16⟩ := qq15
  refine G_bipush C (v := (-102)) dL_holds_38 (by decide) ?_
  refine G_icmp_ne C 118 dL_holds_40 (by decide) (fun h => absurd h (by decide)) (fun _ => ?_)
  refine G_aload_n C 0 dL_holds_43 rfl rfl ?_
  refine G_iconst C (v := 1) dL_holds_44 (by decide) ?_
  refine G_callSH C (As := [.ref (ad 0), .int 1]) (rest := []) (v_stoneFromO  hI16 (by decide)) ca_L_stoneFrom km_L_167 rfl rfl (by decide) (Nat.le_of_ble_eq_true rfl) (by decide) dL_holds_45 (fun vv18 gg17 qq19 => ?_)
  obtain ⟨rfl, hI20⟩ := qq19
  refine G_bipush C (v := (-102)) dL_holds_48 (by decide) ?_
  refine G_icmp_ne C 118 dL_holds_50 (by decide) (fun h => absurd h (by decide)) (fun _ => ?_)
  refine G_aload_n C 0 dL_holds_53 rfl rfl ?_
  refine G_bipush C (v := 61) dL_holds_54 (by decide) ?_
  refine G_callSH C (As := [.ref (ad 0), .int 61]) (rest := []) (v_xOfO  hI20 (by decide)) ca_L_xOf km_L_169 rfl rfl (by decide) (Nat.le_of_ble_eq_true rfl) (by decide) dL_holds_56 (fun vv22 gg21 qq23 => ?_)
  obtain ⟨rfl, hI24⟩ := qq23
  refine G_ldc2 C dL_holds_59 kl_L_26 ?_
  refine G_lc_ne C 118 dL_holds_62 dL_holds_63 (by decide) (fun h => absurd h (by decide)) (fun _ => ?_)
  refine G_aload_n C 0 dL_holds_66 rfl rfl ?_
  refine G_iconst C (v := (-1)) dL_holds_67 (by decide) ?_
  refine G_callSH C (As := [.ref (ad 0), .int (-1)]) (rest := []) (v_xAtO  hI24 (by decide)) ca_L_xAt km_L_172 rfl rfl (by decide) (Nat.le_of_ble_eq_true rfl) (by decide) dL_holds_68 (fun vv26 gg25 qq27 => ?_)
  obtain ⟨rfl, hI28⟩ := qq27
  refine G_ldc2 C dL_holds_71 kl_L_26 ?_
  refine G_lc_ne C 118 dL_holds_74 dL_holds_75 (by decide) (fun h => absurd h (by decide)) (fun _ => ?_)
  refine G_aload_n C 0 dL_holds_78 rfl rfl ?_
  refine G_iload C dL_holds_79 rfl ?_
  refine G_callSH C (As := [.ref (ad 0), .int (nI (tA s.1))]) (rest := []) (v_stoneAtO (c := (tA s.1)) hI28 (by omega) (tA_z hk)) ca_L_stoneAt km_L_174 rfl rfl (by decide) (Nat.le_of_ble_eq_true rfl) (by decide) dL_holds_81 (fun vv30 gg29 qq31 => ?_)
  obtain ⟨rfl, hI32⟩ := qq31
  refine G_bipush C (v := (-104)) dL_holds_84 (by decide) ?_
  refine G_icmp_ne C 118 dL_holds_86 (by decide) (fun h => absurd h (by decide)) (fun _ => ?_)
  refine G_aload_n C 0 dL_holds_89 rfl rfl ?_
  refine G_iload C dL_holds_90 rfl ?_
  refine G_callSH C (As := [.ref (ad 0), .int (nI (tA s.1))]) (rest := []) (v_xAtBySetO (c := (tA s.1)) hI32 (by omega) (tA_z hk)) ca_L_xAtBySet km_L_176 rfl rfl (by decide) (Nat.le_of_ble_eq_true rfl) (by decide) dL_holds_92 (fun vv34 gg33 qq35 => ?_)
  obtain ⟨rfl, hI36⟩ := qq35
  refine G_ldc2 C dL_holds_95 kl_L_53 ?_
  refine G_lc_ne C 118 dL_holds_98 dL_holds_99 (by decide) (fun h => absurd h (by decide)) (fun _ => ?_)
  refine G_aload_n C 0 dL_holds_102 rfl rfl ?_
  refine G_ldc2 C dL_holds_103 kl_L_136 ?_
  refine G_callSH C (As := [.ref (ad 0), .long (-1)]) (rest := []) (v_solutionsUpToO  hI36 (by decide)) ca_L_solutionsUpTo km_L_178 rfl rfl (by decide) (Nat.le_of_ble_eq_true rfl) (by decide) dL_holds_106 (fun vv38 gg37 qq39 => ?_)
  obtain ⟨rfl, hI40⟩ := qq39
  refine G_bipush C (v := (-102)) dL_holds_109 (by decide) ?_
  refine G_icmp_ne C 118 dL_holds_111 (by decide) (fun h => absurd h (by decide)) (fun _ => ?_)
  refine G_iconst C (v := 1) dL_holds_114 (by decide) ?_
  refine G_goto C 119 dL_holds_115 (by decide) ?_
  refine G_istore C (lo' := [(7, .int 1), (6, .int 0), (5, .int (nI (tA s.1))), (4, .int (-104)), (3, .int 0), (2, .int 0), (0, .ref (ad 0)), (1, .int x)]) dL_holds_119 (by decide) rfl ?_
  refine G_iload_n C 1 dL_holds_121 rfl rfl ?_
  refine G_iconst C (v := 5) dL_holds_122 (by decide) ?_
  refine G_callS C (As := [.int x, .int 5]) (rest := []) (c_L_low (n := 5)  (by omega) (by omega)) ca_L_low km_L_156 rfl rfl (by decide) (Nat.le_of_ble_eq_true rfl) (by decide) dL_holds_123 (fun vv42 gg41 qq43 => ?_)
  obtain ⟨b1, hb1, rfl, rfl⟩ := qq43
  have jn126 : ∀ (bd : Int64) (gj44 : Nat → va_E) (hj45 : PI L ad gj44 s sn k hs len tx) (hb0 : ¬ bd < 0) (hb1 : bd ≤ 1000000000000000), GW L E 40 ad gj44 28 180 142 [(7, .int 1), (6, .int 0), (5, .int (nI (tA s.1))), (4, .int (-104)), (3, .int 0), (2, .int 0), (0, .ref (ad 0)), (1, .int x)] [.long bd] := by
    intro bd gj44 hj45 hb0 hb1
    refine G_lstore C (lo' := [(8, .long bd), (7, .int 1), (6, .int 0), (5, .int (nI (tA s.1))), (4, .int (-104)), (3, .int 0), (2, .int 0), (0, .ref (ad 0)), (1, .int x)]) dL_holds_142 (by decide) rfl ?_
    refine G_iconst C (v := 0) dL_holds_144 (by decide) ?_
    refine G_istore C (lo' := [(10, .int 0), (8, .long bd), (7, .int 1), (6, .int 0), (5, .int (nI (tA s.1))), (4, .int (-104)), (3, .int 0), (2, .int 0), (0, .ref (ad 0)), (1, .int x)]) dL_holds_145 (by decide) rfl ?_
    refine G_bipush C (v := 60) dL_holds_147 (by decide) ?_
    refine G_istore C (lo' := [(11, .int 60), (10, .int 0), (8, .long bd), (7, .int 1), (6, .int 0), (5, .int (nI (tA s.1))), (4, .int (-104)), (3, .int 0), (2, .int 0), (0, .ref (ad 0)), (1, .int x)]) dL_holds_149 (by decide) rfl ?_
    have key151 : ∀ (n : Nat) (j u : Nat) (mn mi nx du ut : Int32) (G151 : Nat → va_E) (hI151 : PI L ad G151 s sn k hs len tx) (hn : j < n) (hju : j + u = 59) (hmn : mn = manyF s.1 59 - manyF s.1 j) (hmi : mi = msF s.1 59 - msF s.1 j) (hnx : nx = nxS s.1 (j + 2)) (hdu : du = cuF s.1 1000000000000000 59 - cuF s.1 1000000000000000 j) (hut : ut = cuF s.1 bd 59 - cuF s.1 bd j), GW L E 40 ad G151 (30 + 520 * u) (200 + 3120 * u) 151 [(11, .int (nI (j + 1))), (10, .int ut), (8, .long bd), (7, .int 1), (6, .int du), (5, .int (nI (tA s.1))), (4, .int nx), (3, .int mi), (2, .int mn), (0, .ref (ad 0)), (1, .int x)] [] := by
      intro n
      induction n with
      | zero =>
        intro j u mn mi nx du ut G151 hI151 hn hju hmn hmi hnx hdu hut
        exact absurd hn (Nat.not_lt_zero _)
      | succ n ih151 =>
        intro j u mn mi nx du ut G151 hI151 hn hju hmn hmi hnx hdu hut
        refine G_iload C dL_holds_151 rfl ?_
        refine G_iconst C (v := 1) dL_holds_153 (by decide) ?_
        refine G_icmp_le C 574 dL_holds_154 (by decide) (fun c154 => ?_) (fun c154 => ?_)
        · have c154n : (j + 1) ≤ 1 := (cI_le (a := (j + 1)) (b := 1) rfl rfl (by omega) (by omega)).mp c154
          have hj0 : j = 0 := by omega
          subst hj0
          obtain rfl := sb_z hmn
          obtain rfl := sb_z hmi
          obtain rfl := sb_z hdu
          obtain rfl := sb_z hut
          have hu : u = 59 := by omega
          refine G_iload C dL_holds_574 rfl ?_
          have jn576 : ∀ (at9 : Nat) (gj46 : Nat → va_E) (hj47 : PI L ad gj46 s sn k hs len tx) (hat : (tA s.1) = 0 ∨ at9 < (tA s.1)) (hat9 : at9 ≤ 2301), GW L E 40 ad gj46 30720 184600 591 [(11, .int (nI (0 + 1))), (10, .int (cuF s.1 bd 59)), (8, .long bd), (7, .int 1), (6, .int (cuF s.1 1000000000000000 59)), (5, .int (nI (tA s.1))), (4, .int nx), (3, .int (msF s.1 59)), (2, .int (manyF s.1 59)), (0, .ref (ad 0)), (1, .int x)] [.int (nI at9)] := by
            intro at9 gj46 hj47 hat hat9
            refine G_istore C (lo' := [(11, .int (nI at9)), (10, .int (cuF s.1 bd 59)), (8, .long bd), (7, .int 1), (6, .int (cuF s.1 1000000000000000 59)), (5, .int (nI (tA s.1))), (4, .int nx), (3, .int (msF s.1 59)), (2, .int (manyF s.1 59)), (0, .ref (ad 0)), (1, .int x)]) dL_holds_591 (by decide) rfl ?_
            refine G_iload C dL_holds_593 rfl ?_
            refine G_if_eq C 721 dL_holds_595 (by decide) (fun h => absurd h (by decide)) (fun _ => ?_)
            refine G_iload C dL_holds_598 rfl ?_
            have jn600 : ∀  (gj48 : Nat → va_E) (hj49 : PI L ad gj48 s sn k hs len tx) , GW L E 40 ad gj48 30770 184900 721 [(11, .int (nI at9)), (10, .int (cuF s.1 bd 59)), (8, .long bd), (7, .int 1), (6, .int (cuF s.1 1000000000000000 59)), (5, .int (nI (tA s.1))), (4, .int nx), (3, .int (msF s.1 59)), (2, .int (manyF s.1 59)), (0, .ref (ad 0)), (1, .int x)] [] := by
              intro  gj48 hj49
              refine G_iconst C (v := 2) dL_holds_721 (by decide) ?_
              refine G_iload_n C 1 dL_holds_722 rfl rfl ?_
              refine G_iconst C (v := 3) dL_holds_723 (by decide) ?_
              refine G_ishr C dL_holds_724 ?_
              refine G_bipush C (v := 59) dL_holds_725 (by decide) ?_
              refine G_callS C (As := [.int (x >>> ((3 : Int32) &&& 31)), .int 59]) (rest := [.int 2]) (c_L_low (n := 59)  (by omega) (by omega)) ca_L_low km_L_156 rfl rfl (by decide) (Nat.le_of_ble_eq_true rfl) (by decide) dL_holds_727 (fun vv51 gg50 qq52 => ?_)
              obtain ⟨d9, hd9, rfl, rfl⟩ := qq52
              refine G_iadd C dL_holds_730 ?_
              refine GW.topr (cI_add (a := 2) (b := d9) rfl rfl) ?_
              refine G_istore C (lo' := [(12, .int (nI (2 + d9))), (11, .int (nI at9)), (10, .int (cuF s.1 bd 59)), (8, .long bd), (7, .int 1), (6, .int (cuF s.1 1000000000000000 59)), (5, .int (nI (tA s.1))), (4, .int nx), (3, .int (msF s.1 59)), (2, .int (manyF s.1 59)), (0, .ref (ad 0)), (1, .int x)]) dL_holds_731 (by decide) rfl ?_
              refine G_iload C dL_holds_733 rfl ?_
              refine G_if_eq C 849 dL_holds_735 (by decide) (fun h => absurd h (by decide)) (fun _ => ?_)
              refine G_iload C dL_holds_738 rfl ?_
              refine G_iload C dL_holds_740 rfl ?_
              refine G_icmp_ne C 849 dL_holds_742 (by decide) (fun c742 => False.elim (c742 (cu_e hk).symm)) (fun c742 => ?_)
              refine G_aload_n C 0 dL_holds_745 rfl rfl ?_
              refine G_lload C dL_holds_746 rfl ?_
              refine G_pcX C hj49.h0 (As := [.long bd]) (rest := []) (q_solutionsUpTo  hj49 hb0 hb1) ca_X8_solutionsUpTo km_L_46 rfl rfl (by decide) (Nat.le_of_ble_eq_true rfl) (by decide) dL_holds_748 (fun vv54 gg53 qq55 => ?_)
              obtain ⟨rfl, hI56⟩ := qq55
              refine G_iload C dL_holds_751 rfl ?_
              refine G_icmp_ne C 849 dL_holds_753 (by decide) (fun c753 => False.elim (c753 rfl)) (fun c753 => ?_)
              refine G_aload_n C 0 dL_holds_756 rfl rfl ?_
              refine G_ldc2 C dL_holds_757 kl_L_134 ?_
              refine G_pcX C hI56.h0 (As := [.long 1000000000000000]) (rest := []) (q_solutionsUpTo  hI56 (by decide) (by decide)) ca_X8_solutionsUpTo km_L_46 rfl rfl (by decide) (Nat.le_of_ble_eq_true rfl) (by decide) dL_holds_760 (fun vv58 gg57 qq59 => ?_)
              obtain ⟨rfl, hI60⟩ := qq59
              refine GW.topr (y := nI (tA s.1)) (cu_e hk) ?_
              refine G_iload C dL_holds_763 rfl ?_
              refine G_icmp_ne C 849 dL_holds_765 (by decide) (fun c765 => False.elim (c765 rfl)) (fun c765 => ?_)
              refine G_iload_n C 2 dL_holds_768 rfl rfl ?_
              refine G_aload_n C 0 dL_holds_769 rfl rfl ?_
              refine G_pcM C hI60.h0 (As := []) (rest := [.int (manyF s.1 59)]) (p_stones  hI60 ) ca_X8_stones km_L_189 rfl rfl (by decide) (Nat.le_of_ble_eq_true rfl) (by decide) dL_holds_770 (fun vv62 gg61 qq63 => ?_)
              obtain ⟨rfl, hI64⟩ := qq63
              refine GW.topr (y := (manyF s.1 59)) (hL.1) ?_
              refine G_icmp_ne C 849 dL_holds_773 (by decide) (fun c773 => False.elim (c773 rfl)) (fun c773 => ?_)
              refine G_iload_n C 2 dL_holds_776 rfl rfl ?_
              refine G_bipush C (v := 8) dL_holds_777 (by decide) ?_
              refine G_icmp_gt C 849 dL_holds_779 (by decide) (fun c779 => False.elim ((by obtain ⟨hl1, cc8, h8, hlc⟩ := hL; exact lN_8 (hl1.symm.trans hlc) h8 c779))) (fun c779 => ?_)
              refine G_iload_n C 3 dL_holds_782 rfl rfl ?_
              refine G_aload_n C 0 dL_holds_783 rfl rfl ?_
              refine G_pcM C hI64.h0 (As := []) (rest := [.int (msF s.1 59)]) (p_minusStones  hI64 ) ca_X8_minusStones km_L_192 rfl rfl (by decide) (Nat.le_of_ble_eq_true rfl) (by decide) dL_holds_784 (fun vv66 gg65 qq67 => ?_)
              obtain ⟨rfl, hI68⟩ := qq67
              refine GW.topr (y := (msF s.1 59)) (mn_eq hk 59 (Nat.le_refl _)) ?_
              refine G_icmp_ne C 849 dL_holds_787 (by decide) (fun c787 => False.elim (c787 rfl)) (fun c787 => ?_)
              refine G_aload_n C 0 dL_holds_790 rfl rfl ?_
              refine G_iload C dL_holds_791 rfl ?_
              refine G_pcX C hI68.h0 (As := [.int (nI (2 + d9))]) (rest := []) (q_whyNot (d := 2 + d9) hI68 (by omega) (by omega)) ca_X8_whyNot km_L_33 rfl rfl (by decide) (Nat.le_of_ble_eq_true rfl) (by decide) dL_holds_793 (fun vv70 gg69 qq71 => ?_)
              obtain ⟨rfl, hI72⟩ := qq71
              refine G_iload C dL_holds_796 rfl ?_
              refine G_callS C (As := [.int (nI (2 + d9))]) (rest := [.int (rsnF s.1 s.2.1 (nI (2 + d9)))]) (c_L_square (d := 2 + d9)  (by omega) (by omega)) ca_L_square km_L_138 rfl rfl (by decide) (Nat.le_of_ble_eq_true rfl) (by decide) dL_holds_798 (fun vv74 gg73 qq75 => ?_)
              obtain ⟨rfl, rfl⟩ := qq75
              have jn801 : ∀  (gj76 : Nat → va_E) (hj77 : PI L ad gj76 s sn k hs len tx) , GW L E 40 ad gj76 30790 185060 832 [(12, .int (nI (2 + d9))), (11, .int (nI at9)), (10, .int (cuF s.1 bd 59)), (8, .long bd), (7, .int 1), (6, .int (cuF s.1 1000000000000000 59)), (5, .int (nI (tA s.1))), (4, .int nx), (3, .int (msF s.1 59)), (2, .int (manyF s.1 59)), (0, .ref (ad 0)), (1, .int x)] [.int (rsnF s.1 s.2.1 (nI (2 + d9))), .int (rsnF s.1 s.2.1 (nI (2 + d9)))] := by
                intro  gj76 hj77
                refine G_icmp_ne C 849 dL_holds_832 (by decide) (fun c832 => False.elim (c832 rfl)) (fun c832 => ?_)
                refine G_aload_n C 0 dL_holds_835 rfl rfl ?_
                refine G_iload C dL_holds_836 rfl ?_
                refine G_iload_n C 1 dL_holds_838 rfl rfl ?_
                refine G_callS C (As := [.ref (ad 0), .int (nI (2 + d9)), .int x]) (rest := []) (c_L_root (d := 2 + d9) hj77 (by omega) (by omega)) ca_L_root km_L_195 rfl rfl (by decide) (Nat.le_of_ble_eq_true rfl) (by decide) dL_holds_839 (fun vv79 gg78 qq80 => ?_)
                obtain ⟨rfl, hI81⟩ := qq80
                refine G_if_eq C 849 dL_holds_842 (by decide) (fun h => absurd h (by decide)) (fun _ => ?_)
                refine G_iconst C (v := 1) dL_holds_845 (by decide) ?_
                refine G_goto C 850 dL_holds_846 (by decide) ?_
                refine GW.widen (c1 := 31000) (s1 := 190000) (by decide) (by decide) ?_
                exact G_zret C hr rfl dL_holds_850 ⟨rfl, hI81⟩
              refine G_if_eq C 808 dL_holds_801 (by decide) (fun c801 => ?_) (fun c801 => ?_)
              · refine G_aload_n C 0 dL_holds_808 rfl rfl ?_
                refine G_iload C dL_holds_809 rfl ?_
                refine G_pcX C hI72.h0 (As := [.int (nI (2 + d9))]) (rest := [.int (rsnF s.1 s.2.1 (nI (2 + d9)))]) (q_isLaid (d := 2 + d9) hI72 (by omega) (by omega)) ca_X8_isLaid km_L_42 rfl rfl (by decide) (Nat.le_of_ble_eq_true rfl) (by decide) dL_holds_811 (fun vv83 gg82 qq84 => ?_)
                obtain ⟨rfl, hI85⟩ := qq84
                refine G_if_eq C 821 dL_holds_814 (by decide) (fun c814 => ?_) (fun c814 => ?_)
                · refine G_iload_n C 2 dL_holds_821 rfl rfl ?_
                  refine G_bipush C (v := 8) dL_holds_822 (by decide) ?_
                  refine G_icmp_ne C 831 dL_holds_824 (by decide) (fun c824 => ?_) (fun c824 => ?_)
                  · refine G_iconst C (v := 0) dL_holds_831 (by decide) ?_
                    refine GW.topr (y := (rsnF s.1 s.2.1 (nI (2 + d9)))) (by rw [rs_all hk hL (by omega) (by omega), rsF, if_neg (i10 c801), if_pos (Classical.byContradiction fun z => absurd ((if_neg z).symm.trans c814) (by decide)), if_neg c824]) ?_
                    refine GW.widen (c1 := 30790) (s1 := 185060) (by decide) (by decide) ?_
                    exact jn801 gg82 hI85
                  · refine G_iconst C (v := 3) dL_holds_827 (by decide) ?_
                    refine G_goto C 832 dL_holds_828 (by decide) ?_
                    refine GW.topr (y := (rsnF s.1 s.2.1 (nI (2 + d9)))) (by rw [rs_all hk hL (by omega) (by omega), rsF, if_neg (i10 c801), if_pos (Classical.byContradiction fun z => absurd ((if_neg z).symm.trans c814) (by decide)), if_pos c824]) ?_
                    refine GW.widen (c1 := 30790) (s1 := 185060) (by decide) (by decide) ?_
                    exact jn801 gg82 hI85
                · refine G_iconst C (v := 2) dL_holds_817 (by decide) ?_
                  refine G_goto C 832 dL_holds_818 (by decide) ?_
                  refine GW.topr (y := (rsnF s.1 s.2.1 (nI (2 + d9)))) (by rw [rs_all hk hL (by omega) (by omega), rsF, if_neg (i10 c801), if_neg (fun z => c814 (if_pos z))]) ?_
                  refine GW.widen (c1 := 30790) (s1 := 185060) (by decide) (by decide) ?_
                  exact jn801 gg82 hI85
              · refine G_iconst C (v := 1) dL_holds_804 (by decide) ?_
                refine G_goto C 832 dL_holds_805 (by decide) ?_
                refine GW.topr (y := (rsnF s.1 s.2.1 (nI (2 + d9)))) ((rs_sq (by omega) (i11 c801)).symm) ?_
                refine GW.widen (c1 := 30790) (s1 := 185060) (by decide) (by decide) ?_
                exact jn801 gg69 hI72
            refine G_if_le C 721 dL_holds_600 (by decide) (fun c600 => ?_) (fun c600 => ?_)
            · refine GW.widen (c1 := 30770) (s1 := 184900) (by decide) (by decide) ?_
              exact jn600 gj46 hj47
            · have hat2 : at9 < (tA s.1) := hat.resolve_left (fun z => c600 (by rw [z]; decide))
              have hl9 := tA_n hk hat2
              have hx9 := xa_b hk hl9
              have hx1 := x_m1 hx9.1 hx9.2
              have hs9 := lst_s (okK_p hk at9) hl9
              have hr9 := hs9.2.1
              refine G_aload_n C 0 dL_holds_603 rfl rfl ?_
              refine G_iload C dL_holds_604 rfl ?_
              refine G_pcX C hj47.h0 (As := [.int (nI at9)]) (rest := []) (q_xAt  hj47 (by omega) hl9) ca_X8_xAt km_L_50 rfl rfl (by decide) (Nat.le_of_ble_eq_true rfl) (by decide) dL_holds_606 (fun vv87 gg86 qq88 => ?_)
              obtain ⟨rfl, hI89⟩ := qq88
              refine G_lstore C (lo' := [(12, .long (xa (kp s.1 at9) (lst (kp s.1 at9)))), (11, .int (nI at9)), (10, .int (cuF s.1 bd 59)), (8, .long bd), (7, .int 1), (6, .int (cuF s.1 1000000000000000 59)), (5, .int (nI (tA s.1))), (4, .int nx), (3, .int (msF s.1 59)), (2, .int (manyF s.1 59)), (0, .ref (ad 0)), (1, .int x)]) dL_holds_609 (by decide) rfl ?_
              refine G_lload C dL_holds_611 rfl ?_
              refine G_aload_n C 0 dL_holds_613 rfl rfl ?_
              refine G_iload C dL_holds_614 rfl ?_
              refine G_pcX C hI89.h0 (As := [.int (nI at9)]) (rest := [.long (xa (kp s.1 at9) (lst (kp s.1 at9)))]) (q_xAtBySet  hI89 (by omega) hl9) ca_X8_xAtBySet km_L_55 rfl rfl (by decide) (Nat.le_of_ble_eq_true rfl) (by decide) dL_holds_616 (fun vv91 gg90 qq92 => ?_)
              obtain ⟨rfl, hI93⟩ := qq92
              refine G_lc_ne C 718 dL_holds_619 dL_holds_620 (by decide) (fun c619 => False.elim (c619 rfl)) (fun c619 => ?_)
              refine G_aload_n C 0 dL_holds_623 rfl rfl ?_
              refine G_aload_n C 0 dL_holds_624 rfl rfl ?_
              refine G_iload C dL_holds_625 rfl ?_
              refine G_pcX C hI93.h0 (As := [.int (nI at9)]) (rest := [.ref (ad 0)]) (q_stoneAt  hI93 (by omega) hl9) ca_X8_stoneAt km_L_58 rfl rfl (by decide) (Nat.le_of_ble_eq_true rfl) (by decide) dL_holds_627 (fun vv95 gg94 qq96 => ?_)
              obtain ⟨rfl, hI97⟩ := qq96
              refine G_pcX C hI97.h0 (As := [.int (nI (lst (kp s.1 at9)))]) (rest := []) (q_isLaid  hI97 hs9.1 (by omega)) ca_X8_isLaid km_L_42 rfl rfl (by decide) (Nat.le_of_ble_eq_true rfl) (by decide) dL_holds_630 (fun vv99 gg98 qq100 => ?_)
              obtain ⟨rfl, hI101⟩ := qq100
              refine GW.topr (y := 1) (if_neg (kp_laid hk at9 _ hs9.1 (by omega) hs9.2.2.1)) ?_
              refine G_if_eq C 718 dL_holds_633 (by decide) (fun h => absurd h (by decide)) (fun _ => ?_)
              refine G_aload_n C 0 dL_holds_636 rfl rfl ?_
              refine G_lload C dL_holds_637 rfl ?_
              refine G_pcX C hI101.h0 (As := [.long (xa (kp s.1 at9) (lst (kp s.1 at9)))]) (rest := []) (q_solutionsUpTo  hI101 hx1.1 hx9.2) ca_X8_solutionsUpTo km_L_46 rfl rfl (by decide) (Nat.le_of_ble_eq_true rfl) (by decide) dL_holds_639 (fun vv103 gg102 qq104 => ?_)
              obtain ⟨rfl, hI105⟩ := qq104
              refine GW.topr (y := nI (cnS (xa (kp s.1 at9) (lst (kp s.1 at9))) (k0 s.1))) (cu_e hk) ?_
              refine G_iload C dL_holds_642 rfl ?_
              refine G_icmp_le C 718 dL_holds_644 (by decide) (fun c644 => False.elim (nI_nle2 (a := at9) (b := cnS (xa (kp s.1 at9) (lst (kp s.1 at9))) (k0 s.1)) (by have := cns_le s.1 (xa (kp s.1 at9) (lst (kp s.1 at9))); omega) (by omega) ((ord_3 hk hl9 _).mp (Int64.le_refl _)) c644)) (fun c644 => ?_)
              refine G_aload_n C 0 dL_holds_647 rfl rfl ?_
              refine G_lload C dL_holds_648 rfl ?_
              refine G_lconst C (v := 1) dL_holds_650 (by decide) ?_
              refine G_lsub C dL_holds_651 ?_
              refine G_pcX C hI105.h0 (As := [.long ((xa (kp s.1 at9) (lst (kp s.1 at9))) - 1)]) (rest := []) (q_solutionsUpTo  hI105 hx1.2.1 hx1.2.2.1) ca_X8_solutionsUpTo km_L_46 rfl rfl (by decide) (Nat.le_of_ble_eq_true rfl) (by decide) dL_holds_652 (fun vv107 gg106 qq108 => ?_)
              obtain ⟨rfl, hI109⟩ := qq108
              refine GW.topr (y := nI (cnS ((xa (kp s.1 at9) (lst (kp s.1 at9))) - 1) (k0 s.1))) (cu_e hk) ?_
              refine G_iload C dL_holds_655 rfl ?_
              refine G_icmp_gt C 718 dL_holds_657 (by decide) (fun c657 => False.elim (hx1.2.2.2 ((ord_3 hk hl9 _).mpr (nI_ltp (a := cnS ((xa (kp s.1 at9) (lst (kp s.1 at9))) - 1) (k0 s.1)) (b := at9) (by omega) (by have := cns_le s.1 ((xa (kp s.1 at9) (lst (kp s.1 at9))) - 1); omega) c657)))) (fun c657 => ?_)
              refine G_iload C dL_holds_660 rfl ?_
              refine G_iload C dL_holds_662 rfl ?_
              refine G_iconst C (v := 1) dL_holds_664 (by decide) ?_
              refine G_isub C dL_holds_665 ?_
              have jn666 : ∀  (gj110 : Nat → va_E) (hj111 : PI L ad gj110 s sn k hs len tx) , GW L E 40 ad gj110 30760 184800 714 [(12, .long (xa (kp s.1 at9) (lst (kp s.1 at9)))), (11, .int (nI at9)), (10, .int (cuF s.1 bd 59)), (8, .long bd), (7, .int 1), (6, .int (cuF s.1 1000000000000000 59)), (5, .int (nI (tA s.1))), (4, .int nx), (3, .int (msF s.1 59)), (2, .int (manyF s.1 59)), (0, .ref (ad 0)), (1, .int x)] [] := by
                intro  gj110 hj111
                refine G_iconst C (v := 1) dL_holds_714 (by decide) ?_
                refine G_goto C 719 dL_holds_715 (by decide) ?_
                refine G_istore C (lo' := [(7, .int 1), (12, .long (xa (kp s.1 at9) (lst (kp s.1 at9)))), (11, .int (nI at9)), (10, .int (cuF s.1 bd 59)), (8, .long bd), (6, .int (cuF s.1 1000000000000000 59)), (5, .int (nI (tA s.1))), (4, .int nx), (3, .int (msF s.1 59)), (2, .int (manyF s.1 59)), (0, .ref (ad 0)), (1, .int x)]) dL_holds_719 (by decide) rfl ?_
                refine GW.pick [2, 3, 4, 0, 5, 6, 7, 8, 9, 10, 11] [(11, .int (nI at9)), (10, .int (cuF s.1 bd 59)), (8, .long bd), (7, .int 1), (6, .int (cuF s.1 1000000000000000 59)), (5, .int (nI (tA s.1))), (4, .int nx), (3, .int (msF s.1 59)), (2, .int (manyF s.1 59)), (0, .ref (ad 0)), (1, .int x)] rfl ?_
                refine GW.widen (c1 := 30770) (s1 := 184900) (by decide) (by decide) ?_
                exact jn600 gj110 hj111
              refine G_icmp_eq C 714 dL_holds_666 (by decide) (fun c666 => ?_) (fun c666 => ?_)
              · refine GW.widen (c1 := 30760) (s1 := 184800) (by decide) (by decide) ?_
                exact jn666 gg106 hI109
              · have hat3 : at9 + 1 < (tA s.1) := by have : ¬ at9 = (tA s.1) - 1 := fun z => c666 (by rw [nI_m1 (show 0 < (tA s.1) by omega), ← z]); omega
                have hl10 := tA_n hk hat3
                have ho := ord_nx hk hl9 hl10
                refine G_aload_n C 0 dL_holds_669 rfl rfl ?_
                refine G_iload C dL_holds_670 rfl ?_
                refine G_iconst C (v := 1) dL_holds_672 (by decide) ?_
                refine G_iadd C dL_holds_673 ?_
                refine GW.topr (cI_add (a := at9) (b := 1) rfl rfl) ?_
                refine G_pcX C hI109.h0 (As := [.int (nI (at9 + 1))]) (rest := []) (q_xAt (c := at9 + 1) hI109 (by omega) hl10) ca_X8_xAt km_L_50 rfl rfl (by decide) (Nat.le_of_ble_eq_true rfl) (by decide) dL_holds_674 (fun vv113 gg112 qq114 => ?_)
                obtain ⟨rfl, hI115⟩ := qq114
                refine G_lload C dL_holds_677 rfl ?_
                refine G_lc_gt C 714 dL_holds_679 dL_holds_680 (by decide) (fun c679 => ?_) (fun c679 => ?_)
                · refine GW.widen (c1 := 30760) (s1 := 184800) (by decide) (by decide) ?_
                  exact jn666 gg112 hI115
                · refine G_aload_n C 0 dL_holds_683 rfl rfl ?_
                  refine G_iload C dL_holds_684 rfl ?_
                  refine G_iconst C (v := 1) dL_holds_686 (by decide) ?_
                  refine G_iadd C dL_holds_687 ?_
                  refine GW.topr (cI_add (a := at9) (b := 1) rfl rfl) ?_
                  refine G_pcX C hI115.h0 (As := [.int (nI (at9 + 1))]) (rest := []) (q_xAt (c := at9 + 1) hI115 (by omega) hl10) ca_X8_xAt km_L_50 rfl rfl (by decide) (Nat.le_of_ble_eq_true rfl) (by decide) dL_holds_688 (fun vv117 gg116 qq118 => ?_)
                  obtain ⟨rfl, hI119⟩ := qq118
                  refine G_lload C dL_holds_691 rfl ?_
                  refine G_lc_ne C 718 dL_holds_693 dL_holds_694 (by decide) (fun c693 => False.elim (c693 (Int64.le_antisymm (Int64.not_lt.mp c679) ho.1))) (fun c693 => ?_)
                  refine G_aload_n C 0 dL_holds_697 rfl rfl ?_
                  refine G_iload C dL_holds_698 rfl ?_
                  refine G_iconst C (v := 1) dL_holds_700 (by decide) ?_
                  refine G_iadd C dL_holds_701 ?_
                  refine GW.topr (cI_add (a := at9) (b := 1) rfl rfl) ?_
                  refine G_pcX C hI119.h0 (As := [.int (nI (at9 + 1))]) (rest := []) (q_stoneAt (c := at9 + 1) hI119 (by omega) hl10) ca_X8_stoneAt km_L_58 rfl rfl (by decide) (Nat.le_of_ble_eq_true rfl) (by decide) dL_holds_702 (fun vv121 gg120 qq122 => ?_)
                  obtain ⟨rfl, hI123⟩ := qq122
                  refine G_aload_n C 0 dL_holds_705 rfl rfl ?_
                  refine G_iload C dL_holds_706 rfl ?_
                  refine G_pcX C hI123.h0 (As := [.int (nI at9)]) (rest := [.int (nI (lst (kp s.1 (at9 + 1))))]) (q_stoneAt  hI123 (by omega) hl9) ca_X8_stoneAt km_L_58 rfl rfl (by decide) (Nat.le_of_ble_eq_true rfl) (by decide) dL_holds_708 (fun vv125 gg124 qq126 => ?_)
                  obtain ⟨rfl, hI127⟩ := qq126
                  refine G_icmp_le C 718 dL_holds_711 (by decide) (fun c711 => False.elim (absurd (nI_lep (a := lst (kp s.1 at9)) (b := lst (kp s.1 (at9 + 1))) (by have := (lst_s (okK_p hk (at9 + 1)) hl10).2.1; omega) (by omega) c711) (Nat.not_le.mpr (ho.2 c693.symm)))) (fun c711 => ?_)
                  refine GW.widen (c1 := 30760) (s1 := 184800) (by decide) (by decide) ?_
                  exact jn666 gg124 hI127
          refine G_if_ne C 583 dL_holds_576 (by decide) (fun c576 => ?_) (fun c576 => ?_)
          · refine G_iload_n C 1 dL_holds_583 rfl rfl ?_
            refine G_iconst C (v := 5) dL_holds_584 (by decide) ?_
            refine G_ishr C dL_holds_585 ?_
            refine G_iload C dL_holds_586 rfl ?_
            refine G_callS C (As := [.int (x >>> ((5 : Int32) &&& 31)), .int (nI (tA s.1))]) (rest := []) (c_L_low (n := (tA s.1))  (Nat.pos_of_ne_zero (fun z => c576 (by rw [z]; rfl))) (by omega)) ca_L_low km_L_156 rfl rfl (by decide) (Nat.le_of_ble_eq_true rfl) ⟨by show 30 + 520 * u + 0 ≤ 31000; omega, by show 200 + 3120 * u + 0 ≤ 190000; omega⟩ dL_holds_588 (fun vv129 gg128 qq130 => ?_)
            obtain ⟨at9, hat9, rfl, rfl⟩ := qq130
            refine GW.widen (c1 := 30720) (s1 := 184600) (by show 30 + 520 * u + 0 ≤ 30720; omega) (by show 200 + 3120 * u + 0 ≤ 184600; omega) ?_
            exact jn576 at9 G151 hI151 (Or.inr hat9) (by omega)
          · refine G_iconst C (v := 0) dL_holds_579 (by decide) ?_
            refine G_goto C 591 dL_holds_580 (by decide) ?_
            refine GW.widen (c1 := 30720) (s1 := 184600) (by show 30 + 520 * u ≤ 30720; omega) (by show 200 + 3120 * u ≤ 184600; omega) ?_
            exact jn576 0 G151 hI151 (Or.inl (nI_eqp (by omega) (by omega) c576)) (by omega)
        · have c154n : ¬ (j + 1) ≤ 1 := fun z => c154 ((cI_le (a := (j + 1)) (b := 1) rfl rfl (by omega) (by omega)).mpr z)
          obtain ⟨i, rfl⟩ : ∃ i, j = i + 1 := ⟨j - 1, by omega⟩
          refine G_iload C dL_holds_157 rfl ?_
          refine G_if_eq C 574 dL_holds_159 (by decide) (fun h => absurd h (by decide)) (fun _ => ?_)
          refine G_aload_n C 0 dL_holds_162 rfl rfl ?_
          refine G_iload C dL_holds_163 rfl ?_
          refine G_pcX C hI151.h0 (As := [.int (nI (i + 2))]) (rest := []) (q_isLaid (d := i + 2) hI151 (by omega) (by omega)) ca_X8_isLaid km_L_42 rfl rfl (by decide) (Nat.le_of_ble_eq_true rfl) ⟨by show 30 + 520 * u + 1 ≤ 31000; omega, by show 200 + 3120 * u + 6 ≤ 190000; omega⟩ dL_holds_165 (fun vv132 gg131 qq133 => ?_)
          obtain ⟨rfl, hI134⟩ := qq133
          by_cases hf : s.1 (i + 2) < 0
          · refine GW.topr (y := 0) (if_pos hf) ?_
            refine G_istore C (lo' := [(12, .int 0), (11, .int (nI (i + 2))), (10, .int ut), (8, .long bd), (7, .int 1), (6, .int du), (5, .int (nI (tA s.1))), (4, .int nx), (3, .int mi), (2, .int mn), (0, .ref (ad 0)), (1, .int x)]) dL_holds_168 (by decide) rfl ?_
            refine G_iload C dL_holds_170 rfl ?_
            refine G_if_eq C 180 dL_holds_172 (by decide) (fun _ => ?_) (fun h => absurd h (by decide))
            refine G_iload C dL_holds_180 rfl ?_
            refine G_istore C (lo' := [(4, .int nx), (12, .int 0), (11, .int (nI (i + 2))), (10, .int ut), (8, .long bd), (7, .int 1), (6, .int du), (5, .int (nI (tA s.1))), (3, .int mi), (2, .int mn), (0, .ref (ad 0)), (1, .int x)]) dL_holds_182 (by decide) rfl ?_
            refine G_iload_n C 2 dL_holds_184 rfl rfl ?_
            refine G_iload C dL_holds_185 rfl ?_
            refine G_if_eq C 194 dL_holds_187 (by decide) (fun _ => ?_) (fun h => absurd h (by decide))
            refine G_iconst C (v := 0) dL_holds_194 (by decide) ?_
            refine G_iadd C dL_holds_195 ?_
            refine G_istore_n C 2 (lo' := [(2, .int (mn + 0)), (4, .int nx), (12, .int 0), (11, .int (nI (i + 2))), (10, .int ut), (8, .long bd), (7, .int 1), (6, .int du), (5, .int (nI (tA s.1))), (3, .int mi), (0, .ref (ad 0)), (1, .int x)]) dL_holds_196 rfl (by decide) rfl ?_
            refine G_aload_n C 0 dL_holds_197 rfl rfl ?_
            refine G_iload C dL_holds_198 rfl ?_
            refine G_callSH C (As := [.ref (ad 0), .int (nI (i + 2))]) (rest := []) (v_stoneFrom (d := i + 2) hI134 (by omega) (by omega)) ca_L_stoneFrom km_L_167 rfl rfl (by decide) (Nat.le_of_ble_eq_true rfl) ⟨by show 30 + 520 * u + 1 + 2 ≤ 31000; omega, by show 200 + 3120 * u + 6 + 12 ≤ 190000; omega⟩ dL_holds_200 (fun vv136 gg135 qq137 => ?_)
            obtain ⟨rfl, hI138⟩ := qq137
            refine GW.topr (y := nx) (by rw [hnx, ← nx_n hk (by omega) (by omega) hf]; rfl) ?_
            refine G_iload C dL_holds_203 rfl ?_
            refine G_icmp_ne C 241 dL_holds_205 (by decide) (fun c205 => False.elim (c205 rfl)) (fun c205 => ?_)
            refine G_iload C dL_holds_208 rfl ?_
            refine G_if_ne C 224 dL_holds_210 (by decide) (fun h => absurd h (by decide)) (fun _ => ?_)
            refine G_aload_n C 0 dL_holds_213 rfl rfl ?_
            refine G_iload C dL_holds_214 rfl ?_
            refine G_callSH C (As := [.ref (ad 0), .int (nI (i + 2))]) (rest := []) (v_powerOf (d := i + 2) hI138 (by omega) (by omega)) ca_L_powerOf km_L_129 rfl rfl (by decide) (Nat.le_of_ble_eq_true rfl) ⟨by show 30 + 520 * u + 1 + 2 + 2 ≤ 31000; omega, by show 200 + 3120 * u + 6 + 12 + 12 ≤ 190000; omega⟩ dL_holds_216 (fun vv140 gg139 qq141 => ?_)
            obtain ⟨rfl, hI142⟩ := qq141
            refine GW.topr (y := (-104)) (if_pos hf) ?_
            refine G_bipush C (v := (-104)) dL_holds_219 (by decide) ?_
            refine G_icmp_ne C 241 dL_holds_221 (by decide) (fun h => absurd h (by decide)) (fun _ => ?_)
            refine G_iload C dL_holds_224 rfl ?_
            refine G_callS C (As := [.int (nI (i + 2))]) (rest := []) (c_L_square (d := i + 2)  (by omega) (by omega)) ca_L_square km_L_138 rfl rfl (by decide) (Nat.le_of_ble_eq_true rfl) ⟨by show 30 + 520 * u + 1 + 2 + 2 + 0 ≤ 31000; omega, by show 200 + 3120 * u + 6 + 12 + 12 + 0 ≤ 190000; omega⟩ dL_holds_226 (fun vv144 gg143 qq145 => ?_)
            obtain ⟨rfl, rfl⟩ := qq145
            have jn229 : ∀  (gj146 : Nat → va_E) (hj147 : PI L ad gj146 s sn k hs len tx) , GW L E 40 ad gj146 (30 + 520 * u + 6) (200 + 3120 * u + 36) 237 [(2, .int (mn + 0)), (4, .int nx), (12, .int 0), (11, .int (nI (i + 2))), (10, .int ut), (8, .long bd), (7, .int 1), (6, .int du), (5, .int (nI (tA s.1))), (3, .int mi), (0, .ref (ad 0)), (1, .int x)] [] := by
              intro  gj146 hj147
              refine G_iconst C (v := 1) dL_holds_237 (by decide) ?_
              refine G_goto C 242 dL_holds_238 (by decide) ?_
              refine G_istore C (lo' := [(7, .int 1), (2, .int (mn + 0)), (4, .int nx), (12, .int 0), (11, .int (nI (i + 2))), (10, .int ut), (8, .long bd), (6, .int du), (5, .int (nI (tA s.1))), (3, .int mi), (0, .ref (ad 0)), (1, .int x)]) dL_holds_242 (by decide) rfl ?_
              refine G_iload C dL_holds_244 rfl ?_
              refine G_if_eq C 568 dL_holds_246 (by decide) (fun h => absurd h (by decide)) (fun _ => ?_)
              refine G_iload C dL_holds_249 rfl ?_
              refine G_if_eq C 568 dL_holds_251 (by decide) (fun _ => ?_) (fun h => absurd h (by decide))
              refine G_iinc C (v := nI (i + 1)) (lo' := [(11, .int (nI (i + 1))), (7, .int 1), (2, .int (mn + 0)), (4, .int nx), (12, .int 0), (10, .int ut), (8, .long bd), (6, .int du), (5, .int (nI (tA s.1))), (3, .int mi), (0, .ref (ad 0)), (1, .int x)]) dL_holds_568 rfl (pk_m1 _) (by decide) rfl ?_
              refine G_goto C 151 dL_holds_571 (by decide) ?_
              refine GW.pick [0, 5, 6, 1, 7, 8, 3, 9, 2, 10, 11] [(11, .int (nI (i + 1))), (10, .int ut), (8, .long bd), (7, .int 1), (6, .int du), (5, .int (nI (tA s.1))), (4, .int nx), (3, .int mi), (2, .int (mn + 0)), (0, .ref (ad 0)), (1, .int x)] rfl ?_
              refine GW.widen (c1 := 30 + 520 * (u + 1)) (s1 := 200 + 3120 * (u + 1)) (by show 30 + 520 * u + 6 ≤ 30 + 520 * (u + 1); omega) (by show 200 + 3120 * u + 36 ≤ 200 + 3120 * (u + 1); omega) ?_
              exact ih151 i (u + 1) (mn + 0) mi nx du ut gj146 hj147 (by omega) (by omega) (sb_v hmn (by rw [manyF, if_pos hf])) (sb_0 hmi (by rw [msF, if_pos hf]; exact Int32.add_zero _)) (hnx.trans (nx_n hk (by omega) (by omega) hf).symm) (sb_0 hdu (cu_n hk (by omega) hf)) (sb_0 hut (cu_n hk (by omega) hf))
            refine G_if_eq C 237 dL_holds_229 (by decide) (fun c229 => ?_) (fun c229 => ?_)
            · refine GW.widen (c1 := 30 + 520 * u + 6) (s1 := 200 + 3120 * u + 36) (by show 30 + 520 * u + 1 + 2 + 2 + 0 ≤ 30 + 520 * u + 6; omega) (by show 200 + 3120 * u + 6 + 12 + 12 + 0 ≤ 200 + 3120 * u + 36; omega) ?_
              exact jn229 gg139 hI142
            · refine G_iload C dL_holds_232 rfl ?_
              refine G_if_ne C 241 dL_holds_234 (by decide) (fun h => absurd h (by decide)) (fun _ => ?_)
              refine GW.widen (c1 := 30 + 520 * u + 6) (s1 := 200 + 3120 * u + 36) (by show 30 + 520 * u + 1 + 2 + 2 + 0 ≤ 30 + 520 * u + 6; omega) (by show 200 + 3120 * u + 6 + 12 + 12 + 0 ≤ 200 + 3120 * u + 36; omega) ?_
              exact jn229 gg139 hI142
          · obtain ⟨h9, hp, hg, hf9⟩ := cs_1of hk (by omega) (by omega) hf
            have h39 := gp_lt (i + 2) (by omega)
            refine GW.topr (y := 1) (if_neg hf) ?_
            refine G_istore C (lo' := [(12, .int 1), (11, .int (nI (i + 2))), (10, .int ut), (8, .long bd), (7, .int 1), (6, .int du), (5, .int (nI (tA s.1))), (4, .int nx), (3, .int mi), (2, .int mn), (0, .ref (ad 0)), (1, .int x)]) dL_holds_168 (by decide) rfl ?_
            refine G_iload C dL_holds_170 rfl ?_
            refine G_if_eq C 180 dL_holds_172 (by decide) (fun h => absurd h (by decide)) (fun _ => ?_)
            refine G_iload C dL_holds_175 rfl ?_
            refine G_goto C 182 dL_holds_177 (by decide) ?_
            refine G_istore C (lo' := [(4, .int (nI (i + 2))), (12, .int 1), (11, .int (nI (i + 2))), (10, .int ut), (8, .long bd), (7, .int 1), (6, .int du), (5, .int (nI (tA s.1))), (3, .int mi), (2, .int mn), (0, .ref (ad 0)), (1, .int x)]) dL_holds_182 (by decide) rfl ?_
            refine G_iload_n C 2 dL_holds_184 rfl rfl ?_
            refine G_iload C dL_holds_185 rfl ?_
            refine G_if_eq C 194 dL_holds_187 (by decide) (fun h => absurd h (by decide)) (fun _ => ?_)
            refine G_iconst C (v := 1) dL_holds_190 (by decide) ?_
            refine G_goto C 195 dL_holds_191 (by decide) ?_
            refine G_iadd C dL_holds_195 ?_
            refine G_istore_n C 2 (lo' := [(2, .int (mn + 1)), (4, .int (nI (i + 2))), (12, .int 1), (11, .int (nI (i + 2))), (10, .int ut), (8, .long bd), (7, .int 1), (6, .int du), (5, .int (nI (tA s.1))), (3, .int mi), (0, .ref (ad 0)), (1, .int x)]) dL_holds_196 rfl (by decide) rfl ?_
            refine G_aload_n C 0 dL_holds_197 rfl rfl ?_
            refine G_iload C dL_holds_198 rfl ?_
            refine G_callSH C (As := [.ref (ad 0), .int (nI (i + 2))]) (rest := []) (v_stoneFrom (d := i + 2) hI134 (by omega) (by omega)) ca_L_stoneFrom km_L_167 rfl rfl (by decide) (Nat.le_of_ble_eq_true rfl) ⟨by show 30 + 520 * u + 1 + 2 ≤ 31000; omega, by show 200 + 3120 * u + 6 + 12 ≤ 190000; omega⟩ dL_holds_200 (fun vv149 gg148 qq150 => ?_)
            obtain ⟨rfl, hI151⟩ := qq150
            refine GW.topr (y := nI (i + 2)) (nx_y hk (by omega) (by omega) hf9 hg) ?_
            refine G_iload C dL_holds_203 rfl ?_
            refine G_icmp_ne C 241 dL_holds_205 (by decide) (fun c205 => False.elim (c205 rfl)) (fun c205 => ?_)
            refine G_iload C dL_holds_208 rfl ?_
            refine G_if_ne C 224 dL_holds_210 (by decide) (fun _ => ?_) (fun h => absurd h (by decide))
            refine G_iload C dL_holds_224 rfl ?_
            refine G_callS C (As := [.int (nI (i + 2))]) (rest := []) (c_L_square (d := i + 2)  (by omega) (by omega)) ca_L_square km_L_138 rfl rfl (by decide) (Nat.le_of_ble_eq_true rfl) ⟨by show 30 + 520 * u + 1 + 2 + 0 ≤ 31000; omega, by show 200 + 3120 * u + 6 + 12 + 0 ≤ 190000; omega⟩ dL_holds_226 (fun vv153 gg152 qq154 => ?_)
            obtain ⟨rfl, rfl⟩ := qq154
            have jn229 : ∀  (gj155 : Nat → va_E) (hj156 : PI L ad gj155 s sn k hs len tx) , GW L E 40 ad gj155 (30 + 520 * u + 6) (200 + 3120 * u + 36) 237 [(2, .int (mn + 1)), (4, .int (nI (i + 2))), (12, .int 1), (11, .int (nI (i + 2))), (10, .int ut), (8, .long bd), (7, .int 1), (6, .int du), (5, .int (nI (tA s.1))), (3, .int mi), (0, .ref (ad 0)), (1, .int x)] [] := by
              intro  gj155 hj156
              refine G_iconst C (v := 1) dL_holds_237 (by decide) ?_
              refine G_goto C 242 dL_holds_238 (by decide) ?_
              refine G_istore C (lo' := [(7, .int 1), (2, .int (mn + 1)), (4, .int (nI (i + 2))), (12, .int 1), (11, .int (nI (i + 2))), (10, .int ut), (8, .long bd), (6, .int du), (5, .int (nI (tA s.1))), (3, .int mi), (0, .ref (ad 0)), (1, .int x)]) dL_holds_242 (by decide) rfl ?_
              refine G_iload C dL_holds_244 rfl ?_
              refine G_if_eq C 568 dL_holds_246 (by decide) (fun h => absurd h (by decide)) (fun _ => ?_)
              refine G_iload C dL_holds_249 rfl ?_
              refine G_if_eq C 568 dL_holds_251 (by decide) (fun h => absurd h (by decide)) (fun _ => ?_)
              refine G_aload_n C 0 dL_holds_254 rfl rfl ?_
              refine G_iload C dL_holds_255 rfl ?_
              refine G_pcX C hj156.h0 (As := [.int (nI (i + 2))]) (rest := []) (q_powerOf (d := i + 2) (h := h9) hj156 (by omega) (by omega) hf9 hg) ca_X8_powerOf km_L_101 rfl rfl (by decide) (Nat.le_of_ble_eq_true rfl) ⟨by show 30 + 520 * u + 6 + 2 ≤ 31000; omega, by show 200 + 3120 * u + 36 + 12 ≤ 190000; omega⟩ dL_holds_257 (fun vv158 gg157 qq159 => ?_)
              obtain ⟨rfl, hI160⟩ := qq159
              refine G_istore C (lo' := [(13, .int (nI h9)), (7, .int 1), (2, .int (mn + 1)), (4, .int (nI (i + 2))), (12, .int 1), (11, .int (nI (i + 2))), (10, .int ut), (8, .long bd), (6, .int du), (5, .int (nI (tA s.1))), (3, .int mi), (0, .ref (ad 0)), (1, .int x)]) dL_holds_260 (by decide) rfl ?_
              refine G_lconst C (v := 1) dL_holds_262 (by decide) ?_
              refine G_lstore C (lo' := [(14, .long 1), (13, .int (nI h9)), (7, .int 1), (2, .int (mn + 1)), (4, .int (nI (i + 2))), (12, .int 1), (11, .int (nI (i + 2))), (10, .int ut), (8, .long bd), (6, .int du), (5, .int (nI (tA s.1))), (3, .int mi), (0, .ref (ad 0)), (1, .int x)]) dL_holds_263 (by decide) rfl ?_
              refine G_lconst C (v := 0) dL_holds_265 (by decide) ?_
              refine G_lstore C (lo' := [(16, .long 0), (14, .long 1), (13, .int (nI h9)), (7, .int 1), (2, .int (mn + 1)), (4, .int (nI (i + 2))), (12, .int 1), (11, .int (nI (i + 2))), (10, .int ut), (8, .long bd), (6, .int du), (5, .int (nI (tA s.1))), (3, .int mi), (0, .ref (ad 0)), (1, .int x)]) dL_holds_266 (by decide) rfl ?_
              refine G_iconst C (v := 0) dL_holds_268 (by decide) ?_
              refine G_istore C (lo' := [(18, .int 0), (16, .long 0), (14, .long 1), (13, .int (nI h9)), (7, .int 1), (2, .int (mn + 1)), (4, .int (nI (i + 2))), (12, .int 1), (11, .int (nI (i + 2))), (10, .int ut), (8, .long bd), (6, .int du), (5, .int (nI (tA s.1))), (3, .int mi), (0, .ref (ad 0)), (1, .int x)]) dL_holds_269 (by decide) rfl ?_
              refine G_lconst C (v := 1) dL_holds_271 (by decide) ?_
              refine G_lstore C (lo' := [(19, .long 1), (18, .int 0), (16, .long 0), (14, .long 1), (13, .int (nI h9)), (7, .int 1), (2, .int (mn + 1)), (4, .int (nI (i + 2))), (12, .int 1), (11, .int (nI (i + 2))), (10, .int ut), (8, .long bd), (6, .int du), (5, .int (nI (tA s.1))), (3, .int mi), (0, .ref (ad 0)), (1, .int x)]) dL_holds_272 (by decide) rfl ?_
              have key274 : ∀ (n : Nat) (q v : Nat) (c9 : Int64) (du1 ut1 : Int32) (G274 : Nat → va_E) (hI274 : PI L ad G274 s sn k hs len tx) (hc : (c9 = (pwr (i + 2) q).1 ∧ q ≤ gpn (i + 2) ∧ gpn (i + 2) + 1 - q < n ∧ v ≤ q) ∨ (c9 = -1 ∧ q = gpn (i + 2) ∧ 0 < n ∧ v ≤ q + 1)) (hdu1 : du1 = du + nI q) (hut1 : ut1 = ut + nI (cSm (i + 2) bd q)), GW L E 40 ad G274 (30 + 520 * u + 8 + 12 * v) (200 + 3120 * u + 48 + 72 * v) 274 [(19, .long c9), (18, .int (nI q)), (16, .long ((pwr (i + 2) q).2)), (14, .long ((pwr (i + 2) q).1)), (13, .int (nI h9)), (7, .int 1), (2, .int (mn + 1)), (4, .int (nI (i + 2))), (12, .int 1), (11, .int (nI (i + 2))), (10, .int ut1), (8, .long bd), (6, .int du1), (5, .int (nI (tA s.1))), (3, .int mi), (0, .ref (ad 0)), (1, .int x)] [] := by
                intro n
                induction n with
                | zero =>
                  intro q v c9 du1 ut1 G274 hI274 hc hdu1 hut1
                  exact hc.elim (fun z => absurd z.2.2.1 (Nat.not_lt_zero _)) (fun z => absurd z.2.2.1 (Nat.not_lt_zero _))
                | succ n ih274 =>
                  intro q v c9 du1 ut1 G274 hI274 hc hdu1 hut1
                  refine G_lload C dL_holds_274 rfl ?_
                  refine G_lconst C (v := 0) dL_holds_276 (by decide) ?_
                  refine G_lc_lt C 449 dL_holds_277 dL_holds_278 (by decide) (fun c277 => ?_) (fun c277 => ?_)
                  · have hq : q = gpn (i + 2) := hc.elim (fun z => absurd (z.1 ▸ c277) (Int64.not_lt.mpr (pw_0 (by omega) hp z.2.1))) (fun z => z.2.1)
                    have hvq : v ≤ q + 1 := hc.elim (fun z => by have := z.2.2.2; omega) (fun z => z.2.2.2)
                    refine G_iload C dL_holds_449 rfl ?_
                    refine G_iconst C (v := 2) dL_holds_451 (by decide) ?_
                    refine G_irem C dL_holds_452 (by decide) ?_
                    have jn453 : ∀  (gj161 : Nat → va_E) (hj162 : PI L ad gj161 s sn k hs len tx) , GW L E 40 ad gj161 (30 + 520 * u + 504) (200 + 3120 * u + 3024) 472 [(19, .long c9), (18, .int (nI q)), (16, .long ((pwr (i + 2) q).2)), (14, .long ((pwr (i + 2) q).1)), (13, .int (nI h9)), (7, .int 1), (2, .int (mn + 1)), (4, .int (nI (i + 2))), (12, .int 1), (11, .int (nI (i + 2))), (10, .int ut1), (8, .long bd), (6, .int du1), (5, .int (nI (tA s.1))), (3, .int mi), (0, .ref (ad 0)), (1, .int x)] [.int (sgM s.1 (i + 2))] := by
                      intro  gj161 hj162
                      refine G_istore C (lo' := [(21, .int (sgM s.1 (i + 2))), (19, .long c9), (18, .int (nI q)), (16, .long ((pwr (i + 2) q).2)), (14, .long ((pwr (i + 2) q).1)), (13, .int (nI h9)), (7, .int 1), (2, .int (mn + 1)), (4, .int (nI (i + 2))), (12, .int 1), (11, .int (nI (i + 2))), (10, .int ut1), (8, .long bd), (6, .int du1), (5, .int (nI (tA s.1))), (3, .int mi), (0, .ref (ad 0)), (1, .int x)]) dL_holds_472 (by decide) rfl ?_
                      refine G_iload_n C 3 dL_holds_474 rfl rfl ?_
                      refine G_iload C dL_holds_475 rfl ?_
                      have jn477 : ∀  (gj163 : Nat → va_E) (hj164 : PI L ad gj163 s sn k hs len tx) , GW L E 40 ad gj163 (30 + 520 * u + 504) (200 + 3120 * u + 3024) 485 [(21, .int (sgM s.1 (i + 2))), (19, .long c9), (18, .int (nI q)), (16, .long ((pwr (i + 2) q).2)), (14, .long ((pwr (i + 2) q).1)), (13, .int (nI h9)), (7, .int 1), (2, .int (mn + 1)), (4, .int (nI (i + 2))), (12, .int 1), (11, .int (nI (i + 2))), (10, .int ut1), (8, .long bd), (6, .int du1), (5, .int (nI (tA s.1))), (3, .int mi), (0, .ref (ad 0)), (1, .int x)] [.int (if 0 ≤ sgM s.1 (i + 2) then 0 else 1), .int mi] := by
                        intro  gj163 hj164
                        refine G_iadd C dL_holds_485 ?_
                        refine G_istore_n C 3 (lo' := [(3, .int (mi + (if 0 ≤ sgM s.1 (i + 2) then 0 else 1))), (21, .int (sgM s.1 (i + 2))), (19, .long c9), (18, .int (nI q)), (16, .long ((pwr (i + 2) q).2)), (14, .long ((pwr (i + 2) q).1)), (13, .int (nI h9)), (7, .int 1), (2, .int (mn + 1)), (4, .int (nI (i + 2))), (12, .int 1), (11, .int (nI (i + 2))), (10, .int ut1), (8, .long bd), (6, .int du1), (5, .int (nI (tA s.1))), (0, .ref (ad 0)), (1, .int x)]) dL_holds_486 rfl (by decide) rfl ?_
                        refine G_iload C dL_holds_487 rfl ?_
                        refine G_if_eq C 565 dL_holds_489 (by decide) (fun h => absurd h (by decide)) (fun _ => ?_)
                        refine G_iload C dL_holds_492 rfl ?_
                        refine G_iload C dL_holds_494 rfl ?_
                        refine G_icmp_gt C 565 dL_holds_496 (by decide) (fun c496 => False.elim (nI_nlt2 (a := h9) (b := q) (by omega) (by omega) (by omega) c496)) (fun c496 => ?_)
                        refine G_iload C dL_holds_499 rfl ?_
                        refine G_if_lt C 565 dL_holds_501 (by decide) (fun c501 => False.elim (nI_pos (by omega) c501)) (fun c501 => ?_)
                        refine G_aload_n C 0 dL_holds_504 rfl rfl ?_
                        refine G_iload C dL_holds_505 rfl ?_
                        refine G_pcX C hj164.h0 (As := [.int (nI (i + 2))]) (rest := []) (q_signOf (d := i + 2) hj164 (by omega) (by omega) hf9 hg) ca_X8_signOf km_L_104 rfl rfl (by decide) (Nat.le_of_ble_eq_true rfl) ⟨by show 30 + 520 * u + 504 + 2 ≤ 31000; omega, by show 200 + 3120 * u + 3024 + 12 ≤ 190000; omega⟩ dL_holds_507 (fun vv166 gg165 qq167 => ?_)
                        obtain ⟨rfl, hI168⟩ := qq167
                        refine G_iload C dL_holds_510 rfl ?_
                        refine G_icmp_ne C 565 dL_holds_512 (by decide) (fun c512 => False.elim (c512 rfl)) (fun c512 => ?_)
                        refine G_aload_n C 0 dL_holds_515 rfl rfl ?_
                        refine G_iload C dL_holds_516 rfl ?_
                        refine G_pcX C hI168.h0 (As := [.int (nI (i + 2))]) (rest := []) (q_signByRemainders (d := i + 2) hI168 (by omega) (by omega) hp hf9 hg) ca_X8_signByRemainders km_L_107 rfl rfl (by decide) (Nat.le_of_ble_eq_true rfl) ⟨by show 30 + 520 * u + 504 + 2 + 2 ≤ 31000; omega, by show 200 + 3120 * u + 3024 + 12 + 12 ≤ 190000; omega⟩ dL_holds_518 (fun vv170 gg169 qq171 => ?_)
                        obtain ⟨rfl, hI172⟩ := qq171
                        refine G_iload C dL_holds_521 rfl ?_
                        refine G_icmp_ne C 565 dL_holds_523 (by decide) (fun c523 => False.elim (c523 rfl)) (fun c523 => ?_)
                        refine G_aload_n C 0 dL_holds_526 rfl rfl ?_
                        refine G_iload C dL_holds_527 rfl ?_
                        refine G_callSH C (As := [.ref (ad 0), .int (nI (i + 2))]) (rest := []) (v_nearRoot (d := i + 2) hI172 (by omega) (by omega) hf9 hg) ca_L_nearRoot km_L_186 rfl rfl (by decide) (Nat.le_of_ble_eq_true rfl) ⟨by show 30 + 520 * u + 504 + 2 + 2 + 3 ≤ 31000; omega, by show 200 + 3120 * u + 3024 + 12 + 12 + 18 ≤ 190000; omega⟩ dL_holds_529 (fun vv174 gg173 qq175 => ?_)
                        obtain ⟨rfl, hI176⟩ := qq175
                        by_cases h90 : h9 = 0
                        · refine GW.toprf (y := 3268411392) (if_pos h90) ?_
                          refine G_iload C dL_holds_532 rfl ?_
                          refine G_if_ne C 542 dL_holds_534 (by decide) (fun c534 => False.elim (c534 (by rw [h90]; rfl))) (fun c534 => ?_)
                          refine G_ldcf C (v := 3268411392) kq_L_121 dL_holds_537 ?_
                          refine G_goto C 557 dL_holds_539 (by decide) ?_
                          refine G_fcmp C dL_holds_557 ?_
                          refine GW.topr (y := 0) (nr_104) ?_
                          refine G_if_ne C 565 dL_holds_558 (by decide) (fun h => absurd h (by decide)) (fun _ => ?_)
                          refine G_iconst C (v := 1) dL_holds_561 (by decide) ?_
                          refine G_goto C 566 dL_holds_562 (by decide) ?_
                          refine G_istore C (lo' := [(7, .int 1), (3, .int (mi + (if 0 ≤ sgM s.1 (i + 2) then 0 else 1))), (21, .int (sgM s.1 (i + 2))), (19, .long c9), (18, .int (nI q)), (16, .long ((pwr (i + 2) q).2)), (14, .long ((pwr (i + 2) q).1)), (13, .int (nI h9)), (2, .int (mn + 1)), (4, .int (nI (i + 2))), (12, .int 1), (11, .int (nI (i + 2))), (10, .int ut1), (8, .long bd), (6, .int du1), (5, .int (nI (tA s.1))), (0, .ref (ad 0)), (1, .int x)]) dL_holds_566 (by decide) rfl ?_
                          refine G_iinc C (v := nI (i + 1)) (lo' := [(11, .int (nI (i + 1))), (7, .int 1), (3, .int (mi + (if 0 ≤ sgM s.1 (i + 2) then 0 else 1))), (21, .int (sgM s.1 (i + 2))), (19, .long c9), (18, .int (nI q)), (16, .long ((pwr (i + 2) q).2)), (14, .long ((pwr (i + 2) q).1)), (13, .int (nI h9)), (2, .int (mn + 1)), (4, .int (nI (i + 2))), (12, .int 1), (10, .int ut1), (8, .long bd), (6, .int du1), (5, .int (nI (tA s.1))), (0, .ref (ad 0)), (1, .int x)]) dL_holds_568 rfl (pk_m1 _) (by decide) rfl ?_
                          refine G_goto C 151 dL_holds_571 (by decide) ?_
                          refine GW.pick [0, 12, 13, 1, 14, 15, 10, 2, 9, 16, 17] [(11, .int (nI (i + 1))), (10, .int ut1), (8, .long bd), (7, .int 1), (6, .int du1), (5, .int (nI (tA s.1))), (4, .int (nI (i + 2))), (3, .int (mi + (if 0 ≤ sgM s.1 (i + 2) then 0 else 1))), (2, .int (mn + 1)), (0, .ref (ad 0)), (1, .int x)] rfl ?_
                          refine GW.widen (c1 := 30 + 520 * (u + 1)) (s1 := 200 + 3120 * (u + 1)) (by show 30 + 520 * u + 504 + 2 + 2 + 3 ≤ 30 + 520 * (u + 1); omega) (by show 200 + 3120 * u + 3024 + 12 + 12 + 18 ≤ 200 + 3120 * (u + 1); omega) ?_
                          exact ih151 i (u + 1) (mn + 1) (mi + (if 0 ≤ sgM s.1 (i + 2) then 0 else 1)) (nI (i + 2)) du1 ut1 gg173 hI176 (by omega) (by omega) (sb_v hmn (by rw [manyF, if_neg hf])) (sb_v hmi (by rw [msF, if_neg hf])) ((nx_y hk (by omega) (by omega) hf9 hg).symm) (by rw [hdu1, hq]; exact sb_v hdu (cu_a hk (by omega) hf9 hg hp)) (by rw [hut1, hq]; exact sb_v hut (cu_y hk (by omega) hf9 hg hp))
                        · refine GW.toprf (y := (FP.fdiv (FP.l2f (pwr (i + 2) h9).1) (FP.l2f (pwr (i + 2) h9).2))) (if_neg h90) ?_
                          refine G_iload C dL_holds_532 rfl ?_
                          refine G_if_ne C 542 dL_holds_534 (by decide) (fun c534 => ?_) (fun c534 => False.elim (h90 (nI_eqp (a := 0) (b := h9) (by omega) (by omega) c534)))
                          refine G_aload_n C 0 dL_holds_542 rfl rfl ?_
                          refine G_iload C dL_holds_543 rfl ?_
                          refine G_pcX C hI176.h0 (As := [.int (nI (i + 2))]) (rest := [.float (FP.fdiv (FP.l2f (pwr (i + 2) h9).1) (FP.l2f (pwr (i + 2) h9).2))]) (q_xOf (d := i + 2) hI176 (by omega) (by omega) hf9 hg) ca_X8_xOf km_L_110 rfl rfl (by decide) (Nat.le_of_ble_eq_true rfl) ⟨by show 30 + 520 * u + 504 + 2 + 2 + 3 + 2 ≤ 31000; omega, by show 200 + 3120 * u + 3024 + 12 + 12 + 18 + 12 ≤ 190000; omega⟩ dL_holds_545 (fun vv178 gg177 qq179 => ?_)
                          obtain ⟨rfl, hI180⟩ := qq179
                          refine G_l2f C dL_holds_548 ?_
                          refine G_aload_n C 0 dL_holds_549 rfl rfl ?_
                          refine G_iload C dL_holds_550 rfl ?_
                          refine G_pcX C hI180.h0 (As := [.int (nI (i + 2))]) (rest := [.float (FP.l2f ((pwr (i + 2) h9).1)), .float (FP.fdiv (FP.l2f (pwr (i + 2) h9).1) (FP.l2f (pwr (i + 2) h9).2))]) (q_yOf (d := i + 2) hI180 (by omega) (by omega) hf9 hg) ca_X8_yOf km_L_113 rfl rfl (by decide) (Nat.le_of_ble_eq_true rfl) ⟨by show 30 + 520 * u + 504 + 2 + 2 + 3 + 2 + 2 ≤ 31000; omega, by show 200 + 3120 * u + 3024 + 12 + 12 + 18 + 12 + 12 ≤ 190000; omega⟩ dL_holds_552 (fun vv182 gg181 qq183 => ?_)
                          obtain ⟨rfl, hI184⟩ := qq183
                          refine G_l2f C dL_holds_555 ?_
                          refine G_fdiv C dL_holds_556 (nr_ok (by omega) hp hg (by omega)).2 ?_
                          refine G_fcmp C dL_holds_557 ?_
                          refine GW.topr (y := 0) (nr_f (by omega) hp hg h90) ?_
                          refine G_if_ne C 565 dL_holds_558 (by decide) (fun h => absurd h (by decide)) (fun _ => ?_)
                          refine G_iconst C (v := 1) dL_holds_561 (by decide) ?_
                          refine G_goto C 566 dL_holds_562 (by decide) ?_
                          refine G_istore C (lo' := [(7, .int 1), (3, .int (mi + (if 0 ≤ sgM s.1 (i + 2) then 0 else 1))), (21, .int (sgM s.1 (i + 2))), (19, .long c9), (18, .int (nI q)), (16, .long ((pwr (i + 2) q).2)), (14, .long ((pwr (i + 2) q).1)), (13, .int (nI h9)), (2, .int (mn + 1)), (4, .int (nI (i + 2))), (12, .int 1), (11, .int (nI (i + 2))), (10, .int ut1), (8, .long bd), (6, .int du1), (5, .int (nI (tA s.1))), (0, .ref (ad 0)), (1, .int x)]) dL_holds_566 (by decide) rfl ?_
                          refine G_iinc C (v := nI (i + 1)) (lo' := [(11, .int (nI (i + 1))), (7, .int 1), (3, .int (mi + (if 0 ≤ sgM s.1 (i + 2) then 0 else 1))), (21, .int (sgM s.1 (i + 2))), (19, .long c9), (18, .int (nI q)), (16, .long ((pwr (i + 2) q).2)), (14, .long ((pwr (i + 2) q).1)), (13, .int (nI h9)), (2, .int (mn + 1)), (4, .int (nI (i + 2))), (12, .int 1), (10, .int ut1), (8, .long bd), (6, .int du1), (5, .int (nI (tA s.1))), (0, .ref (ad 0)), (1, .int x)]) dL_holds_568 rfl (pk_m1 _) (by decide) rfl ?_
                          refine G_goto C 151 dL_holds_571 (by decide) ?_
                          refine GW.pick [0, 12, 13, 1, 14, 15, 10, 2, 9, 16, 17] [(11, .int (nI (i + 1))), (10, .int ut1), (8, .long bd), (7, .int 1), (6, .int du1), (5, .int (nI (tA s.1))), (4, .int (nI (i + 2))), (3, .int (mi + (if 0 ≤ sgM s.1 (i + 2) then 0 else 1))), (2, .int (mn + 1)), (0, .ref (ad 0)), (1, .int x)] rfl ?_
                          refine GW.widen (c1 := 30 + 520 * (u + 1)) (s1 := 200 + 3120 * (u + 1)) (by show 30 + 520 * u + 504 + 2 + 2 + 3 + 2 + 2 ≤ 30 + 520 * (u + 1); omega) (by show 200 + 3120 * u + 3024 + 12 + 12 + 18 + 12 + 12 ≤ 200 + 3120 * (u + 1); omega) ?_
                          exact ih151 i (u + 1) (mn + 1) (mi + (if 0 ≤ sgM s.1 (i + 2) then 0 else 1)) (nI (i + 2)) du1 ut1 gg181 hI184 (by omega) (by omega) (sb_v hmn (by rw [manyF, if_neg hf])) (sb_v hmi (by rw [msF, if_neg hf])) ((nx_y hk (by omega) (by omega) hf9 hg).symm) (by rw [hdu1, hq]; exact sb_v hdu (cu_a hk (by omega) hf9 hg hp)) (by rw [hut1, hq]; exact sb_v hut (cu_y hk (by omega) hf9 hg hp))
                      refine G_if_ge C 484 dL_holds_477 (by decide) (fun c477 => ?_) (fun c477 => ?_)
                      · refine G_iconst C (v := 0) dL_holds_484 (by decide) ?_
                        refine GW.topr (y := (if 0 ≤ sgM s.1 (i + 2) then 0 else 1)) ((if_pos c477).symm) ?_
                        exact jn477 gj161 hj162
                      · refine G_iconst C (v := 1) dL_holds_480 (by decide) ?_
                        refine G_goto C 485 dL_holds_481 (by decide) ?_
                        refine GW.topr (y := (if 0 ≤ sgM s.1 (i + 2) then 0 else 1)) ((if_neg c477).symm) ?_
                        exact jn477 gj161 hj162
                    refine G_if_eq C 467 dL_holds_453 (by decide) (fun c453 => ?_) (fun c453 => ?_)
                    · refine G_iconst C (v := 1) dL_holds_467 (by decide) ?_
                      refine G_goto C 472 dL_holds_468 (by decide) ?_
                      refine GW.topr (y := (sgM s.1 (i + 2))) (sg_a hf9 c453) ?_
                      refine GW.widen (c1 := 30 + 520 * u + 504) (s1 := 200 + 3120 * u + 3024) (by show 30 + 520 * u + 8 + 12 * v ≤ 30 + 520 * u + 504; omega) (by show 200 + 3120 * u + 48 + 72 * v ≤ 200 + 3120 * u + 3024; omega) ?_
                      exact jn453 G274 hI274
                    · refine G_aload_n C 0 dL_holds_456 rfl rfl ?_
                      refine G_iload C dL_holds_457 rfl ?_
                      refine G_pcX C hI274.h0 (As := [.int (nI (i + 2))]) (rest := []) (q_periodOf (d := i + 2) hI274 (by omega) (by omega) hp) ca_X8_periodOf km_L_83 rfl rfl (by decide) (Nat.le_of_ble_eq_true rfl) ⟨by show 30 + 520 * u + 8 + 12 * v + 2 ≤ 31000; omega, by show 200 + 3120 * u + 48 + 72 * v + 12 ≤ 190000; omega⟩ dL_holds_459 (fun vv186 gg185 qq187 => ?_)
                      obtain ⟨rfl, hI188⟩ := qq187
                      refine G_iconst C (v := 2) dL_holds_462 (by decide) ?_
                      refine G_irem C dL_holds_463 (by decide) ?_
                      refine G_if_ne C 471 dL_holds_464 (by decide) (fun c464 => ?_) (fun c464 => ?_)
                      · refine G_iconst C (v := (-1)) dL_holds_471 (by decide) ?_
                        refine GW.topr (y := (sgM s.1 (i + 2))) (sg_c (by omega) hf9 c453 c464) ?_
                        refine GW.widen (c1 := 30 + 520 * u + 504) (s1 := 200 + 3120 * u + 3024) (by show 30 + 520 * u + 8 + 12 * v + 2 ≤ 30 + 520 * u + 504; omega) (by show 200 + 3120 * u + 48 + 72 * v + 12 ≤ 200 + 3120 * u + 3024; omega) ?_
                        exact jn453 gg185 hI188
                      · refine G_iconst C (v := 1) dL_holds_467 (by decide) ?_
                        refine G_goto C 472 dL_holds_468 (by decide) ?_
                        refine GW.topr (y := (sgM s.1 (i + 2))) (sg_b (by omega) hf9 c453 c464) ?_
                        refine GW.widen (c1 := 30 + 520 * u + 504) (s1 := 200 + 3120 * u + 3024) (by show 30 + 520 * u + 8 + 12 * v + 2 ≤ 30 + 520 * u + 504; omega) (by show 200 + 3120 * u + 48 + 72 * v + 12 ≤ 200 + 3120 * u + 3024; omega) ?_
                        exact jn453 gg185 hI188
                  · obtain ⟨hc1, hcq, hcn, hcv⟩ := hc.resolve_right (fun z => c277 (by rw [z.1]; decide))
                    refine G_iload C dL_holds_281 rfl ?_
                    refine G_if_eq C 321 dL_holds_283 (by decide) (fun h => absurd h (by decide)) (fun _ => ?_)
                    refine G_iload C dL_holds_286 rfl ?_
                    refine G_iload C dL_holds_288 rfl ?_
                    have jn290 : ∀  (gj189 : Nat → va_E) (hj190 : PI L ad gj189 s sn k hs len tx) , GW L E 40 ad gj189 (30 + 520 * u + 8 + 12 * v + 4) (200 + 3120 * u + 48 + 72 * v + 24) 317 [(19, .long c9), (18, .int (nI q)), (16, .long ((pwr (i + 2) q).2)), (14, .long ((pwr (i + 2) q).1)), (13, .int (nI h9)), (7, .int 1), (2, .int (mn + 1)), (4, .int (nI (i + 2))), (12, .int 1), (11, .int (nI (i + 2))), (10, .int ut1), (8, .long bd), (6, .int du1), (5, .int (nI (tA s.1))), (3, .int mi), (0, .ref (ad 0)), (1, .int x)] [] := by
                      intro  gj189 hj190
                      refine G_iconst C (v := 1) dL_holds_317 (by decide) ?_
                      refine G_goto C 322 dL_holds_318 (by decide) ?_
                      refine G_istore C (lo' := [(7, .int 1), (19, .long c9), (18, .int (nI q)), (16, .long ((pwr (i + 2) q).2)), (14, .long ((pwr (i + 2) q).1)), (13, .int (nI h9)), (2, .int (mn + 1)), (4, .int (nI (i + 2))), (12, .int 1), (11, .int (nI (i + 2))), (10, .int ut1), (8, .long bd), (6, .int du1), (5, .int (nI (tA s.1))), (3, .int mi), (0, .ref (ad 0)), (1, .int x)]) dL_holds_322 (by decide) rfl ?_
                      refine G_aload_n C 0 dL_holds_324 rfl rfl ?_
                      refine G_iload C dL_holds_325 rfl ?_
                      refine G_lload C dL_holds_327 rfl ?_
                      refine G_lload C dL_holds_329 rfl ?_
                      refine G_callS C (As := [.ref (ad 0), .int (nI (i + 2)), .long ((pwr (i + 2) q).1), .long ((pwr (i + 2) q).2)]) (rest := []) (c_L_next (d := i + 2) (k9 := q) hj190 (by omega) (by omega) hp hcq) ca_L_next km_L_182 rfl rfl (by decide) (Nat.le_of_ble_eq_true rfl) ⟨by show 30 + 520 * u + 8 + 12 * v + 4 + 4 ≤ 31000; omega, by show 200 + 3120 * u + 48 + 72 * v + 24 + 24 ≤ 190000; omega⟩ dL_holds_331 (fun vv192 gg191 qq193 => ?_)
                      obtain ⟨rfl, hI194⟩ := qq193
                      by_cases hq : q < gpn (i + 2)
                      · have p0 := pw_0 (k := q + 1) (show i + 2 ≤ 60 by omega) hp hq
                        refine GW.toprl (y := (pwr (i + 2) (q + 1)).1) (if_pos hq) ?_
                        refine G_lstore C (lo' := [(19, .long ((pwr (i + 2) (q + 1)).1)), (7, .int 1), (18, .int (nI q)), (16, .long ((pwr (i + 2) q).2)), (14, .long ((pwr (i + 2) q).1)), (13, .int (nI h9)), (2, .int (mn + 1)), (4, .int (nI (i + 2))), (12, .int 1), (11, .int (nI (i + 2))), (10, .int ut1), (8, .long bd), (6, .int du1), (5, .int (nI (tA s.1))), (3, .int mi), (0, .ref (ad 0)), (1, .int x)]) dL_holds_334 (by decide) rfl ?_
                        refine G_lload C dL_holds_336 rfl ?_
                        refine G_lconst C (v := 0) dL_holds_338 (by decide) ?_
                        refine G_lc_ge C 348 dL_holds_339 dL_holds_340 (by decide) (fun c339 => ?_) (fun c339 => False.elim (c339 p0))
                        refine G_lload C dL_holds_348 rfl ?_
                        refine G_aload_n C 0 dL_holds_350 rfl rfl ?_
                        refine G_iload C dL_holds_351 rfl ?_
                        refine G_pcX C hI194.h0 (As := [.int (nI (i + 2))]) (rest := [.long ((pwr (i + 2) q).1)]) (q_unitY (d := i + 2) hI194 (by omega) (by omega) hp) ca_X8_unitY km_L_89 rfl rfl (by decide) (Nat.le_of_ble_eq_true rfl) ⟨by show 30 + 520 * u + 8 + 12 * v + 4 + 4 + 2 ≤ 31000; omega, by show 200 + 3120 * u + 48 + 72 * v + 24 + 24 + 12 ≤ 190000; omega⟩ dL_holds_353 (fun vv196 gg195 qq197 => ?_)
                        obtain ⟨rfl, hI198⟩ := qq197
                        refine G_i2l C dL_holds_356 rfl ?_
                        refine G_lmul C dL_holds_357 ?_
                        refine G_lload C dL_holds_358 rfl ?_
                        refine G_aload_n C 0 dL_holds_360 rfl rfl ?_
                        refine G_iload C dL_holds_361 rfl ?_
                        refine G_pcX C hI198.h0 (As := [.int (nI (i + 2))]) (rest := [.long ((pwr (i + 2) q).2), .long (((pwr (i + 2) q).1) * ((tUy (i + 2)).toInt64))]) (q_unitX (d := i + 2) hI198 (by omega) (by omega) hp) ca_X8_unitX km_L_86 rfl rfl (by decide) (Nat.le_of_ble_eq_true rfl) ⟨by show 30 + 520 * u + 8 + 12 * v + 4 + 4 + 2 + 2 ≤ 31000; omega, by show 200 + 3120 * u + 48 + 72 * v + 24 + 24 + 12 + 12 ≤ 190000; omega⟩ dL_holds_363 (fun vv200 gg199 qq201 => ?_)
                        obtain ⟨rfl, hI202⟩ := qq201
                        refine G_i2l C dL_holds_366 rfl ?_
                        refine G_lmul C dL_holds_367 ?_
                        refine G_ladd C dL_holds_368 ?_
                        refine GW.toprl (y := (pwr (i + 2) (q + 1)).2) ((nx_Y (by omega) hp hq).symm) ?_
                        refine G_lstore C (lo' := [(16, .long ((pwr (i + 2) (q + 1)).2)), (19, .long ((pwr (i + 2) (q + 1)).1)), (7, .int 1), (18, .int (nI q)), (14, .long ((pwr (i + 2) q).1)), (13, .int (nI h9)), (2, .int (mn + 1)), (4, .int (nI (i + 2))), (12, .int 1), (11, .int (nI (i + 2))), (10, .int ut1), (8, .long bd), (6, .int du1), (5, .int (nI (tA s.1))), (3, .int mi), (0, .ref (ad 0)), (1, .int x)]) dL_holds_369 (by decide) rfl ?_
                        refine G_lload C dL_holds_371 rfl ?_
                        refine G_lconst C (v := 0) dL_holds_373 (by decide) ?_
                        refine G_lc_ge C 383 dL_holds_374 dL_holds_375 (by decide) (fun c374 => ?_) (fun c374 => False.elim (c374 p0))
                        refine G_lload C dL_holds_383 rfl ?_
                        refine G_lstore C (lo' := [(14, .long ((pwr (i + 2) (q + 1)).1)), (16, .long ((pwr (i + 2) (q + 1)).2)), (19, .long ((pwr (i + 2) (q + 1)).1)), (7, .int 1), (18, .int (nI q)), (13, .int (nI h9)), (2, .int (mn + 1)), (4, .int (nI (i + 2))), (12, .int 1), (11, .int (nI (i + 2))), (10, .int ut1), (8, .long bd), (6, .int du1), (5, .int (nI (tA s.1))), (3, .int mi), (0, .ref (ad 0)), (1, .int x)]) dL_holds_385 (by decide) rfl ?_
                        refine G_iload C dL_holds_387 rfl ?_
                        refine G_lload C dL_holds_389 rfl ?_
                        refine G_lconst C (v := 0) dL_holds_391 (by decide) ?_
                        refine G_lc_ge C 400 dL_holds_392 dL_holds_393 (by decide) (fun c392 => ?_) (fun c392 => False.elim (c392 p0))
                        refine G_iconst C (v := 1) dL_holds_400 (by decide) ?_
                        refine G_iadd C dL_holds_401 ?_
                        refine GW.topr (cI_add (a := q) (b := 1) rfl rfl) ?_
                        refine G_istore C (lo' := [(18, .int (nI (q + 1))), (14, .long ((pwr (i + 2) (q + 1)).1)), (16, .long ((pwr (i + 2) (q + 1)).2)), (19, .long ((pwr (i + 2) (q + 1)).1)), (7, .int 1), (13, .int (nI h9)), (2, .int (mn + 1)), (4, .int (nI (i + 2))), (12, .int 1), (11, .int (nI (i + 2))), (10, .int ut1), (8, .long bd), (6, .int du1), (5, .int (nI (tA s.1))), (3, .int mi), (0, .ref (ad 0)), (1, .int x)]) dL_holds_402 (by decide) rfl ?_
                        refine G_iload C dL_holds_404 rfl ?_
                        refine G_lload C dL_holds_406 rfl ?_
                        refine G_lconst C (v := 0) dL_holds_408 (by decide) ?_
                        refine G_lc_ge C 417 dL_holds_409 dL_holds_410 (by decide) (fun c409 => ?_) (fun c409 => False.elim (c409 p0))
                        refine G_iconst C (v := 1) dL_holds_417 (by decide) ?_
                        refine G_iadd C dL_holds_418 ?_
                        refine G_istore C (lo' := [(6, .int (du1 + 1)), (18, .int (nI (q + 1))), (14, .long ((pwr (i + 2) (q + 1)).1)), (16, .long ((pwr (i + 2) (q + 1)).2)), (19, .long ((pwr (i + 2) (q + 1)).1)), (7, .int 1), (13, .int (nI h9)), (2, .int (mn + 1)), (4, .int (nI (i + 2))), (12, .int 1), (11, .int (nI (i + 2))), (10, .int ut1), (8, .long bd), (5, .int (nI (tA s.1))), (3, .int mi), (0, .ref (ad 0)), (1, .int x)]) dL_holds_419 (by decide) rfl ?_
                        refine G_iload C dL_holds_421 rfl ?_
                        refine G_lload C dL_holds_423 rfl ?_
                        refine G_lconst C (v := 0) dL_holds_425 (by decide) ?_
                        refine G_lc_lt C 442 dL_holds_426 dL_holds_427 (by decide) (fun c426 => False.elim (absurd c426 (Int64.not_lt.mpr p0))) (fun c426 => ?_)
                        refine G_lload C dL_holds_430 rfl ?_
                        refine G_lload C dL_holds_432 rfl ?_
                        have jn434 : ∀  (gj203 : Nat → va_E) (hj204 : PI L ad gj203 s sn k hs len tx) , GW L E 40 ad gj203 (30 + 520 * u + 8 + 12 * v + 12) (200 + 3120 * u + 48 + 72 * v + 72) 443 [(6, .int (du1 + 1)), (18, .int (nI (q + 1))), (14, .long ((pwr (i + 2) (q + 1)).1)), (16, .long ((pwr (i + 2) (q + 1)).2)), (19, .long ((pwr (i + 2) (q + 1)).1)), (7, .int 1), (13, .int (nI h9)), (2, .int (mn + 1)), (4, .int (nI (i + 2))), (12, .int 1), (11, .int (nI (i + 2))), (10, .int ut1), (8, .long bd), (5, .int (nI (tA s.1))), (3, .int mi), (0, .ref (ad 0)), (1, .int x)] [.int (if (pwr (i + 2) (q + 1)).1 ≤ bd then 1 else 0), .int ut1] := by
                          intro  gj203 hj204
                          refine G_iadd C dL_holds_443 ?_
                          refine G_istore C (lo' := [(10, .int (ut1 + (if (pwr (i + 2) (q + 1)).1 ≤ bd then 1 else 0))), (6, .int (du1 + 1)), (18, .int (nI (q + 1))), (14, .long ((pwr (i + 2) (q + 1)).1)), (16, .long ((pwr (i + 2) (q + 1)).2)), (19, .long ((pwr (i + 2) (q + 1)).1)), (7, .int 1), (13, .int (nI h9)), (2, .int (mn + 1)), (4, .int (nI (i + 2))), (12, .int 1), (11, .int (nI (i + 2))), (8, .long bd), (5, .int (nI (tA s.1))), (3, .int mi), (0, .ref (ad 0)), (1, .int x)]) dL_holds_444 (by decide) rfl ?_
                          refine G_goto C 274 dL_holds_446 (by decide) ?_
                          refine GW.pick [5, 2, 4, 3, 7, 6, 8, 9, 10, 11, 0, 12, 1, 13, 14, 15, 16] [(19, .long ((pwr (i + 2) (q + 1)).1)), (18, .int (nI (q + 1))), (16, .long ((pwr (i + 2) (q + 1)).2)), (14, .long ((pwr (i + 2) (q + 1)).1)), (13, .int (nI h9)), (7, .int 1), (2, .int (mn + 1)), (4, .int (nI (i + 2))), (12, .int 1), (11, .int (nI (i + 2))), (10, .int (ut1 + (if (pwr (i + 2) (q + 1)).1 ≤ bd then 1 else 0))), (8, .long bd), (6, .int (du1 + 1)), (5, .int (nI (tA s.1))), (3, .int mi), (0, .ref (ad 0)), (1, .int x)] rfl ?_
                          refine GW.widen (c1 := 30 + 520 * u + 8 + 12 * (v + 1)) (s1 := 200 + 3120 * u + 48 + 72 * (v + 1)) (by show 30 + 520 * u + 8 + 12 * v + 12 ≤ 30 + 520 * u + 8 + 12 * (v + 1); omega) (by show 200 + 3120 * u + 48 + 72 * v + 72 ≤ 200 + 3120 * u + 48 + 72 * (v + 1); omega) ?_
                          exact ih274 (q + 1) (v + 1) ((pwr (i + 2) (q + 1)).1) (du1 + 1) (ut1 + (if (pwr (i + 2) (q + 1)).1 ≤ bd then 1 else 0)) gj203 hj204 (Or.inl ⟨rfl, hq, by omega, by omega⟩) (du_s hdu1) (ut_s hut1)
                        refine G_lc_gt C 442 dL_holds_434 dL_holds_435 (by decide) (fun c434 => ?_) (fun c434 => ?_)
                        · refine G_iconst C (v := 0) dL_holds_442 (by decide) ?_
                          refine GW.topr (y := (if (pwr (i + 2) (q + 1)).1 ≤ bd then 1 else 0)) ((if_neg (Int64.not_le.mpr c434)).symm) ?_
                          refine GW.widen (c1 := 30 + 520 * u + 8 + 12 * v + 12) (s1 := 200 + 3120 * u + 48 + 72 * v + 72) (by show 30 + 520 * u + 8 + 12 * v + 4 + 4 + 2 + 2 ≤ 30 + 520 * u + 8 + 12 * v + 12; omega) (by show 200 + 3120 * u + 48 + 72 * v + 24 + 24 + 12 + 12 ≤ 200 + 3120 * u + 48 + 72 * v + 72; omega) ?_
                          exact jn434 gg199 hI202
                        · refine G_iconst C (v := 1) dL_holds_438 (by decide) ?_
                          refine G_goto C 443 dL_holds_439 (by decide) ?_
                          refine GW.topr (y := (if (pwr (i + 2) (q + 1)).1 ≤ bd then 1 else 0)) ((if_pos (Int64.not_lt.mp c434)).symm) ?_
                          refine GW.widen (c1 := 30 + 520 * u + 8 + 12 * v + 12) (s1 := 200 + 3120 * u + 48 + 72 * v + 72) (by show 30 + 520 * u + 8 + 12 * v + 4 + 4 + 2 + 2 ≤ 30 + 520 * u + 8 + 12 * v + 12; omega) (by show 200 + 3120 * u + 48 + 72 * v + 24 + 24 + 12 + 12 ≤ 200 + 3120 * u + 48 + 72 * v + 72; omega) ?_
                          exact jn434 gg199 hI202
                      · refine GW.toprl (y := (-1)) (if_neg hq) ?_
                        refine G_lstore C (lo' := [(19, .long (-1)), (7, .int 1), (18, .int (nI q)), (16, .long ((pwr (i + 2) q).2)), (14, .long ((pwr (i + 2) q).1)), (13, .int (nI h9)), (2, .int (mn + 1)), (4, .int (nI (i + 2))), (12, .int 1), (11, .int (nI (i + 2))), (10, .int ut1), (8, .long bd), (6, .int du1), (5, .int (nI (tA s.1))), (3, .int mi), (0, .ref (ad 0)), (1, .int x)]) dL_holds_334 (by decide) rfl ?_
                        refine G_lload C dL_holds_336 rfl ?_
                        refine G_lconst C (v := 0) dL_holds_338 (by decide) ?_
                        refine G_lc_ge C 348 dL_holds_339 dL_holds_340 (by decide) (fun h => absurd h (by decide)) (fun _ => ?_)
                        refine G_lload C dL_holds_343 rfl ?_
                        refine G_goto C 369 dL_holds_345 (by decide) ?_
                        refine G_lstore C (lo' := [(16, .long ((pwr (i + 2) q).2)), (19, .long (-1)), (7, .int 1), (18, .int (nI q)), (14, .long ((pwr (i + 2) q).1)), (13, .int (nI h9)), (2, .int (mn + 1)), (4, .int (nI (i + 2))), (12, .int 1), (11, .int (nI (i + 2))), (10, .int ut1), (8, .long bd), (6, .int du1), (5, .int (nI (tA s.1))), (3, .int mi), (0, .ref (ad 0)), (1, .int x)]) dL_holds_369 (by decide) rfl ?_
                        refine G_lload C dL_holds_371 rfl ?_
                        refine G_lconst C (v := 0) dL_holds_373 (by decide) ?_
                        refine G_lc_ge C 383 dL_holds_374 dL_holds_375 (by decide) (fun h => absurd h (by decide)) (fun _ => ?_)
                        refine G_lload C dL_holds_378 rfl ?_
                        refine G_goto C 385 dL_holds_380 (by decide) ?_
                        refine G_lstore C (lo' := [(14, .long ((pwr (i + 2) q).1)), (16, .long ((pwr (i + 2) q).2)), (19, .long (-1)), (7, .int 1), (18, .int (nI q)), (13, .int (nI h9)), (2, .int (mn + 1)), (4, .int (nI (i + 2))), (12, .int 1), (11, .int (nI (i + 2))), (10, .int ut1), (8, .long bd), (6, .int du1), (5, .int (nI (tA s.1))), (3, .int mi), (0, .ref (ad 0)), (1, .int x)]) dL_holds_385 (by decide) rfl ?_
                        refine G_iload C dL_holds_387 rfl ?_
                        refine G_lload C dL_holds_389 rfl ?_
                        refine G_lconst C (v := 0) dL_holds_391 (by decide) ?_
                        refine G_lc_ge C 400 dL_holds_392 dL_holds_393 (by decide) (fun h => absurd h (by decide)) (fun _ => ?_)
                        refine G_iconst C (v := 0) dL_holds_396 (by decide) ?_
                        refine G_goto C 401 dL_holds_397 (by decide) ?_
                        refine G_iadd C dL_holds_401 ?_
                        refine GW.topr (cI_add (a := q) (b := 0) rfl rfl) ?_
                        refine G_istore C (lo' := [(18, .int (nI (q + 0))), (14, .long ((pwr (i + 2) q).1)), (16, .long ((pwr (i + 2) q).2)), (19, .long (-1)), (7, .int 1), (13, .int (nI h9)), (2, .int (mn + 1)), (4, .int (nI (i + 2))), (12, .int 1), (11, .int (nI (i + 2))), (10, .int ut1), (8, .long bd), (6, .int du1), (5, .int (nI (tA s.1))), (3, .int mi), (0, .ref (ad 0)), (1, .int x)]) dL_holds_402 (by decide) rfl ?_
                        refine G_iload C dL_holds_404 rfl ?_
                        refine G_lload C dL_holds_406 rfl ?_
                        refine G_lconst C (v := 0) dL_holds_408 (by decide) ?_
                        refine G_lc_ge C 417 dL_holds_409 dL_holds_410 (by decide) (fun h => absurd h (by decide)) (fun _ => ?_)
                        refine G_iconst C (v := 0) dL_holds_413 (by decide) ?_
                        refine G_goto C 418 dL_holds_414 (by decide) ?_
                        refine G_iadd C dL_holds_418 ?_
                        refine G_istore C (lo' := [(6, .int (du1 + 0)), (18, .int (nI (q + 0))), (14, .long ((pwr (i + 2) q).1)), (16, .long ((pwr (i + 2) q).2)), (19, .long (-1)), (7, .int 1), (13, .int (nI h9)), (2, .int (mn + 1)), (4, .int (nI (i + 2))), (12, .int 1), (11, .int (nI (i + 2))), (10, .int ut1), (8, .long bd), (5, .int (nI (tA s.1))), (3, .int mi), (0, .ref (ad 0)), (1, .int x)]) dL_holds_419 (by decide) rfl ?_
                        refine G_iload C dL_holds_421 rfl ?_
                        refine G_lload C dL_holds_423 rfl ?_
                        refine G_lconst C (v := 0) dL_holds_425 (by decide) ?_
                        refine G_lc_lt C 442 dL_holds_426 dL_holds_427 (by decide) (fun _ => ?_) (fun h => absurd h (by decide))
                        refine G_iconst C (v := 0) dL_holds_442 (by decide) ?_
                        refine G_iadd C dL_holds_443 ?_
                        refine G_istore C (lo' := [(10, .int (ut1 + 0)), (6, .int (du1 + 0)), (18, .int (nI (q + 0))), (14, .long ((pwr (i + 2) q).1)), (16, .long ((pwr (i + 2) q).2)), (19, .long (-1)), (7, .int 1), (13, .int (nI h9)), (2, .int (mn + 1)), (4, .int (nI (i + 2))), (12, .int 1), (11, .int (nI (i + 2))), (8, .long bd), (5, .int (nI (tA s.1))), (3, .int mi), (0, .ref (ad 0)), (1, .int x)]) dL_holds_444 (by decide) rfl ?_
                        refine G_goto C 274 dL_holds_446 (by decide) ?_
                        refine GW.pick [5, 2, 4, 3, 7, 6, 8, 9, 10, 11, 0, 12, 1, 13, 14, 15, 16] [(19, .long (-1)), (18, .int (nI (q + 0))), (16, .long ((pwr (i + 2) q).2)), (14, .long ((pwr (i + 2) q).1)), (13, .int (nI h9)), (7, .int 1), (2, .int (mn + 1)), (4, .int (nI (i + 2))), (12, .int 1), (11, .int (nI (i + 2))), (10, .int (ut1 + 0)), (8, .long bd), (6, .int (du1 + 0)), (5, .int (nI (tA s.1))), (3, .int mi), (0, .ref (ad 0)), (1, .int x)] rfl ?_
                        refine GW.widen (c1 := 30 + 520 * u + 8 + 12 * (v + 1)) (s1 := 200 + 3120 * u + 48 + 72 * (v + 1)) (by show 30 + 520 * u + 8 + 12 * v + 4 + 4 ≤ 30 + 520 * u + 8 + 12 * (v + 1); omega) (by show 200 + 3120 * u + 48 + 72 * v + 24 + 24 ≤ 200 + 3120 * u + 48 + 72 * (v + 1); omega) ?_
                        exact ih274 q (v + 1) (-1) (du1 + 0) (ut1 + 0) gg191 hI194 (Or.inr ⟨rfl, by omega, by omega, by omega⟩) ((Int32.add_zero _).trans hdu1) ((Int32.add_zero _).trans hut1)
                    refine G_icmp_ne C 317 dL_holds_290 (by decide) (fun c290 => ?_) (fun c290 => ?_)
                    · refine GW.widen (c1 := 30 + 520 * u + 8 + 12 * v + 4) (s1 := 200 + 3120 * u + 48 + 72 * v + 24) (by show 30 + 520 * u + 8 + 12 * v ≤ 30 + 520 * u + 8 + 12 * v + 4; omega) (by show 200 + 3120 * u + 48 + 72 * v ≤ 200 + 3120 * u + 48 + 72 * v + 24; omega) ?_
                      exact jn290 G274 hI274
                    · refine G_aload_n C 0 dL_holds_293 rfl rfl ?_
                      refine G_iload C dL_holds_294 rfl ?_
                      refine G_pcX C hI274.h0 (As := [.int (nI (i + 2))]) (rest := []) (q_xOf (d := i + 2) hI274 (by omega) (by omega) hf9 hg) ca_X8_xOf km_L_110 rfl rfl (by decide) (Nat.le_of_ble_eq_true rfl) ⟨by show 30 + 520 * u + 8 + 12 * v + 2 ≤ 31000; omega, by show 200 + 3120 * u + 48 + 72 * v + 12 ≤ 190000; omega⟩ dL_holds_296 (fun vv206 gg205 qq207 => ?_)
                      obtain ⟨rfl, hI208⟩ := qq207
                      refine G_lload C dL_holds_299 rfl ?_
                      refine G_lc_ne C 321 dL_holds_301 dL_holds_302 (by decide) (fun c301 => False.elim (c301 (by rw [nI_eqp (a := h9) (b := q) (by omega) (by omega) c290]))) (fun c301 => ?_)
                      refine G_aload_n C 0 dL_holds_305 rfl rfl ?_
                      refine G_iload C dL_holds_306 rfl ?_
                      refine G_pcX C hI208.h0 (As := [.int (nI (i + 2))]) (rest := []) (q_yOf (d := i + 2) hI208 (by omega) (by omega) hf9 hg) ca_X8_yOf km_L_113 rfl rfl (by decide) (Nat.le_of_ble_eq_true rfl) ⟨by show 30 + 520 * u + 8 + 12 * v + 2 + 2 ≤ 31000; omega, by show 200 + 3120 * u + 48 + 72 * v + 12 + 12 ≤ 190000; omega⟩ dL_holds_308 (fun vv210 gg209 qq211 => ?_)
                      obtain ⟨rfl, hI212⟩ := qq211
                      refine G_lload C dL_holds_311 rfl ?_
                      refine G_lc_ne C 321 dL_holds_313 dL_holds_314 (by decide) (fun c313 => False.elim (c313 (by rw [nI_eqp (a := h9) (b := q) (by omega) (by omega) c290]))) (fun c313 => ?_)
                      refine GW.widen (c1 := 30 + 520 * u + 8 + 12 * v + 4) (s1 := 200 + 3120 * u + 48 + 72 * v + 24) (by show 30 + 520 * u + 8 + 12 * v + 2 + 2 ≤ 30 + 520 * u + 8 + 12 * v + 4; omega) (by show 200 + 3120 * u + 48 + 72 * v + 12 + 12 ≤ 200 + 3120 * u + 48 + 72 * v + 24; omega) ?_
                      exact jn290 gg209 hI212
              refine GW.widen (c1 := 30 + 520 * u + 8 + 12 * 0) (s1 := 200 + 3120 * u + 48 + 72 * 0) (by show 30 + 520 * u + 6 + 2 ≤ 30 + 520 * u + 8 + 12 * 0; omega) (by show 200 + 3120 * u + 36 + 12 ≤ 200 + 3120 * u + 48 + 72 * 0; omega) ?_
              exact key274 (gpn (i + 2) + 2) 0 0 1 du ut gg157 hI160 (Or.inl ⟨rfl, Nat.zero_le _, by omega, Nat.zero_le _⟩) (du_0) (du_0)
            refine G_if_eq C 237 dL_holds_229 (by decide) (fun c229 => ?_) (fun c229 => False.elim (c229 (if_neg hp)))
            refine GW.widen (c1 := 30 + 520 * u + 6) (s1 := 200 + 3120 * u + 36) (by show 30 + 520 * u + 1 + 2 + 0 ≤ 30 + 520 * u + 6; omega) (by show 200 + 3120 * u + 6 + 12 + 0 ≤ 200 + 3120 * u + 36; omega) ?_
            exact jn229 gg148 hI151
    refine GW.widen (c1 := 30 + 520 * 0) (s1 := 200 + 3120 * 0) (by show 28 ≤ 30 + 520 * 0; omega) (by show 180 ≤ 200 + 3120 * 0; omega) ?_
    exact key151 60 59 0 0 0 (-104) 0 0 gj44 hj45 (by omega) (by omega) (sb_s) (sb_s) (nx_61 _) (sb_s) (sb_s)
  refine G_if_ne C 135 dL_holds_126 (by decide) (fun c126 => ?_) (fun c126 => ?_)
  · refine G_iload_n C 1 dL_holds_135 rfl rfl ?_
    refine G_ldc C dL_holds_136 ki_L_181 ?_
    refine G_callS C (As := [.int x, .int 2000000000]) (rest := []) (c_L_low (n := 2000000000)  (by omega) (by omega)) ca_L_low km_L_156 rfl rfl (by decide) (Nat.le_of_ble_eq_true rfl) (by decide) dL_holds_138 (fun vv214 gg213 qq215 => ?_)
    obtain ⟨b2, hb2, rfl, rfl⟩ := qq215
    refine G_i2l C dL_holds_141 rfl ?_
    refine GW.widen (c1 := 28) (s1 := 180) (by decide) (by decide) ?_
    exact jn126 ((nI b2).toInt64) gg37 hI40 ((lo_b hb2).1) ((lo_b hb2).2)
  · refine G_ldc2 C dL_holds_129 kl_L_134 ?_
    refine G_goto C 142 dL_holds_132 (by decide) ?_
    refine GW.widen (c1 := 28) (s1 := 180) (by decide) (by decide) ?_
    exact jn126 1000000000000000 gg37 hI40 (by decide) (by decide)

