abbrev rm_L_acts : Room := ({ frames := 10, cells := 300, slots := 1800, locals := 215 } : Room)
set_option maxRecDepth 100000 in
set_option maxHeartbeats 4000000 in
theorem c_L_acts {L : GL} {ad : Nat → Nat} {G : Nat → va_E} {s : HE} {sn : Int32} {k : HE} {hs : List HE} {len : Nat} {tx : Nat → Int32} {x y : Int32}   (hI : PI L ad G s sn k hs len tx) : GM L yL_acts cL_acts 20 ((some .boolean)) rm_L_acts 40 ad G [.ref (ad 0), .int x, .int y] (fun vo G' => ∃ (s2 : HE) (hs2 : List HE) (l2 : Nat) (t2 : Nat → Int32), ((s = s2 ∧ hs = hs2) ∨ hs2 = hpush hs s) ∧ vo = some (.int 1) ∧ PI L ad G' s2 sn k hs2 l2 t2) := by
  refine GM.of (own := RL) (lo := [(0, .ref (ad 0)), (1, .int x), (2, .int y)]) (by decide +kernel) rfl rfl (Nat.le_of_ble_eq_true rfl) (fun E C hr => ?_)
  refine G_iload_n C 1 dL_acts_0 rfl rfl ?_
  refine G_bipush C (v := 40) dL_acts_1 (by decide) ?_
  have hk := hI.g.1
  have hL := hI.g.2.1
  obtain ⟨c8, hc8, hlc⟩ : ∃ c, c ≤ 8 ∧ s.2.1 = nI c := hL.2
  have hA : tA s.1 ≤ 2301 := cns_le s.1 1000000000000000
  refine G_callS C (As := [.int x, .int 40]) (rest := []) (c_L_low (n := 40)  (by omega) (by omega)) ca_L_low km_L_156 rfl rfl (by decide) (Nat.le_of_ble_eq_true rfl) (by decide) dL_acts_3 (fun vv2 gg1 qq3 => ?_)
  obtain ⟨w9, hw9, rfl, rfl⟩ := qq3
  refine G_istore_n C 3 (lo' := [(3, .int (nI w9)), (0, .ref (ad 0)), (1, .int x), (2, .int y)]) dL_acts_6 rfl (by decide) rfl ?_
  refine G_iload_n C 2 dL_acts_7 rfl rfl ?_
  refine G_bipush C (v := 9) dL_acts_8 (by decide) ?_
  refine G_ishr C dL_acts_10 ?_
  refine G_bipush C (v := 22) dL_acts_11 (by decide) ?_
  refine G_callS C (As := [.int (y >>> ((9 : Int32) &&& 31)), .int 22]) (rest := []) (c_L_low (n := 22)  (by omega) (by omega)) ca_L_low km_L_156 rfl rfl (by decide) (Nat.le_of_ble_eq_true rfl) (by decide) dL_acts_13 (fun vv5 gg4 qq6 => ?_)
  obtain ⟨a9, ha9, rfl, rfl⟩ := qq6
  have jn16 : ∀ (d9 : Nat) (gj7 : Nat → va_E) (hj8 : PI L ad gj7 s sn k hs len tx) (hd9 : d9 < 64), GW L E 40 ad gj7 4 24 36 [(3, .int (nI w9)), (0, .ref (ad 0)), (1, .int x), (2, .int y)] [.int (nI d9)] := by
    intro d9 gj7 hj8 hd9
    refine G_istore C (lo' := [(4, .int (nI d9)), (3, .int (nI w9)), (0, .ref (ad 0)), (1, .int x), (2, .int y)]) dL_acts_36 (by decide) rfl ?_
    by_cases hin : 2 ≤ d9 ∧ d9 ≤ 60
    · obtain ⟨h2, h60⟩ := hin
      refine G_iload C dL_acts_38 rfl ?_
      refine G_iconst C (v := 2) dL_acts_40 (by decide) ?_
      refine G_icmp_lt C 51 dL_acts_41 (by decide) (fun c41 => False.elim (absurd (nI_ltp (a := 2) (b := d9) (by omega) (by omega) c41) (by omega))) (fun c41 => ?_)
      refine G_iload C dL_acts_44 rfl ?_
      refine G_bipush C (v := 60) dL_acts_46 (by decide) ?_
      refine G_icmp_le C 55 dL_acts_48 (by decide) (fun c48 => ?_) (fun c48 => False.elim (c48 ((cI_le (a := d9) (b := 60) rfl rfl (by omega) (by omega)).mpr h60)))
      refine G_iconst C (v := 0) dL_acts_55 (by decide) ?_
      refine G_istore C (lo' := [(5, .int 0), (4, .int (nI d9)), (3, .int (nI w9)), (0, .ref (ad 0)), (1, .int x), (2, .int y)]) dL_acts_56 (by decide) rfl ?_
      refine G_aload_n C 0 dL_acts_58 rfl rfl ?_
      refine G_pcM C hj8.h0 (As := []) (rest := []) (p_stones  hj8 ) ca_X8_stones km_L_189 rfl rfl (by decide) (Nat.le_of_ble_eq_true rfl) (by decide) dL_acts_59 (fun vv10 gg9 qq11 => ?_)
      obtain ⟨rfl, hI12⟩ := qq11
      refine GW.topr (y := nI c8) (hlc) ?_
      refine G_istore C (lo' := [(6, .int (nI c8)), (5, .int 0), (4, .int (nI d9)), (3, .int (nI w9)), (0, .ref (ad 0)), (1, .int x), (2, .int y)]) dL_acts_62 (by decide) rfl ?_
      refine G_aload_n C 0 dL_acts_64 rfl rfl ?_
      refine G_pcM C hI12.h0 (As := []) (rest := []) (p_milled  hI12 ) ca_X8_milled km_L_124 rfl rfl (by decide) (Nat.le_of_ble_eq_true rfl) (by decide) dL_acts_65 (fun vv14 gg13 qq15 => ?_)
      obtain ⟨rfl, hI16⟩ := qq15
      refine G_istore C (lo' := [(7, .int s.2.2), (6, .int (nI c8)), (5, .int 0), (4, .int (nI d9)), (3, .int (nI w9)), (0, .ref (ad 0)), (1, .int x), (2, .int y)]) dL_acts_68 (by decide) rfl ?_
      refine G_aload_n C 0 dL_acts_70 rfl rfl ?_
      refine G_pcM C hI16.h0 (As := []) (rest := []) (p_solutions  hI16 ) ca_X8_solutions km_L_159 rfl rfl (by decide) (Nat.le_of_ble_eq_true rfl) (by decide) dL_acts_71 (fun vv18 gg17 qq19 => ?_)
      obtain ⟨rfl, hI20⟩ := qq19
      refine GW.topr (y := nI (tA s.1)) (cu_e hk) ?_
      refine G_istore C (lo' := [(8, .int (nI (tA s.1))), (7, .int s.2.2), (6, .int (nI c8)), (5, .int 0), (4, .int (nI d9)), (3, .int (nI w9)), (0, .ref (ad 0)), (1, .int x), (2, .int y)]) dL_acts_74 (by decide) rfl ?_
      refine G_iload_n C 3 dL_acts_76 rfl rfl ?_
      have jn77 : ∀  (gj21 : Nat → va_E) (hj22 : PI L ad gj21 s sn k hs len tx) , GW L E 40 ad gj21 20 120 222 [(8, .int (nI (tA s.1))), (7, .int s.2.2), (6, .int (nI c8)), (5, .int 0), (4, .int (nI d9)), (3, .int (nI w9)), (0, .ref (ad 0)), (1, .int x), (2, .int y)] [] := by
        intro  gj21 hj22
        refine G_iconst C (v := 0) dL_acts_222 (by decide) ?_
        have jn223 : ∀ (d1 : Nat) (gj23 : Nat → va_E) (hj24 : PI L ad gj23 s sn k hs len tx) (h2 : 2 ≤ d1) (h60 : d1 ≤ 60), GW L E 40 ad gj23 100 600 285 [(8, .int (nI (tA s.1))), (7, .int s.2.2), (6, .int (nI c8)), (5, .int 0), (4, .int (nI d1)), (3, .int (nI w9)), (0, .ref (ad 0)), (1, .int x), (2, .int y)] [] := by
          intro d1 gj23 hj24 h2 h60
          refine G_iload C dL_acts_285 rfl ?_
          refine G_if_ne C 303 dL_acts_287 (by decide) (fun h => absurd h (by decide)) (fun _ => ?_)
          refine G_aload_n C 0 dL_acts_290 rfl rfl ?_
          refine G_iload C dL_acts_291 rfl ?_
          refine G_pcX C hj24.h0 (As := [.int (nI d1)]) (rest := []) (q_isLaid (d := d1) hj24 h2 h60) ca_X8_isLaid km_L_42 rfl rfl (by decide) (Nat.le_of_ble_eq_true rfl) (by decide) dL_acts_293 (fun vv26 gg25 qq27 => ?_)
          obtain ⟨rfl, hI28⟩ := qq27
          by_cases hf : s.1 d1 < 0
          · refine GW.topr (y := 0) (if_pos hf) ?_
            refine G_if_eq C 303 dL_acts_296 (by decide) (fun _ => ?_) (fun h => absurd h (by decide))
            refine G_iconst C (v := 0) dL_acts_303 (by decide) ?_
            refine G_istore C (lo' := [(9, .int 0), (8, .int (nI (tA s.1))), (7, .int s.2.2), (6, .int (nI c8)), (5, .int 0), (4, .int (nI d1)), (3, .int (nI w9)), (0, .ref (ad 0)), (1, .int x), (2, .int y)]) dL_acts_304 (by decide) rfl ?_
            refine G_iload C dL_acts_306 rfl ?_
            refine G_if_eq C 320 dL_acts_308 (by decide) (fun _ => ?_) (fun h => absurd h (by decide))
            refine G_iconst C (v := 0) dL_acts_320 (by decide) ?_
            refine G_istore C (lo' := [(10, .int 0), (9, .int 0), (8, .int (nI (tA s.1))), (7, .int s.2.2), (6, .int (nI c8)), (5, .int 0), (4, .int (nI d1)), (3, .int (nI w9)), (0, .ref (ad 0)), (1, .int x), (2, .int y)]) dL_acts_321 (by decide) rfl ?_
            refine G_iload_n C 3 dL_acts_323 rfl rfl ?_
            refine G_bipush C (v := 13) dL_acts_324 (by decide) ?_
            refine G_icmp_ge C 413 dL_acts_326 (by decide) (fun c326 => ?_) (fun c326 => ?_)
            · refine G_iload_n C 3 dL_acts_413 rfl rfl ?_
              refine G_bipush C (v := 32) dL_acts_414 (by decide) ?_
              refine G_icmp_ge C 738 dL_acts_416 (by decide) (fun c416 => ?_) (fun c416 => ?_)
              · refine G_aload_n C 0 dL_acts_738 rfl rfl ?_
                refine G_iload_n C 1 dL_acts_739 rfl rfl ?_
                refine G_iconst C (v := 5) dL_acts_740 (by decide) ?_
                refine G_ishr C dL_acts_741 ?_
                refine G_iload_n C 2 dL_acts_742 rfl rfl ?_
                refine G_callS C (As := [.ref (ad 0), .int (x >>> ((5 : Int32) &&& 31)), .int y]) (rest := []) (c_L_reads  hI28 ) ca_L_reads km_L_219 rfl rfl (by decide) (Nat.le_of_ble_eq_true rfl) (by decide) dL_acts_743 (fun vv30 gg29 qq31 => ?_)
                obtain ⟨s2, hs2, t2, hrd, rfl, hI32⟩ := qq31
                refine GW.widen (c1 := 300) (s1 := 1800) (by decide) (by decide) ?_
                exact G_zret C hr rfl dL_acts_746 ⟨_, _, _, _, hrd, rfl, hI32⟩
              · refine G_iload_n C 3 dL_acts_419 rfl rfl ?_
                refine G_bipush C (v := 26) dL_acts_420 (by decide) ?_
                refine G_icmp_ge C 429 dL_acts_422 (by decide) (fun c422 => ?_) (fun c422 => ?_)
                · refine G_iconst C (v := 0) dL_acts_429 (by decide) ?_
                  refine G_istore C (lo' := [(11, .int 0), (10, .int 0), (9, .int 0), (8, .int (nI (tA s.1))), (7, .int s.2.2), (6, .int (nI c8)), (5, .int 0), (4, .int (nI d1)), (3, .int (nI w9)), (0, .ref (ad 0)), (1, .int x), (2, .int y)]) dL_acts_430 (by decide) rfl ?_
                  refine G_iload C dL_acts_432 rfl ?_
                  refine G_if_eq C 446 dL_acts_434 (by decide) (fun _ => ?_) (fun h => absurd h (by decide))
                  refine G_lconst C (v := 0) dL_acts_446 (by decide) ?_
                  refine G_lstore C (lo' := [(12, .long 0), (11, .int 0), (10, .int 0), (9, .int 0), (8, .int (nI (tA s.1))), (7, .int s.2.2), (6, .int (nI c8)), (5, .int 0), (4, .int (nI d1)), (3, .int (nI w9)), (0, .ref (ad 0)), (1, .int x), (2, .int y)]) dL_acts_447 (by decide) rfl ?_
                  refine G_iload C dL_acts_449 rfl ?_
                  refine G_if_eq C 463 dL_acts_451 (by decide) (fun _ => ?_) (fun h => absurd h (by decide))
                  refine G_lconst C (v := 0) dL_acts_463 (by decide) ?_
                  refine G_lstore C (lo' := [(14, .long 0), (12, .long 0), (11, .int 0), (10, .int 0), (9, .int 0), (8, .int (nI (tA s.1))), (7, .int s.2.2), (6, .int (nI c8)), (5, .int 0), (4, .int (nI d1)), (3, .int (nI w9)), (0, .ref (ad 0)), (1, .int x), (2, .int y)]) dL_acts_464 (by decide) rfl ?_
                  refine G_iload C dL_acts_466 rfl ?_
                  refine G_if_ne C 477 dL_acts_468 (by decide) (fun h => absurd h (by decide)) (fun _ => ?_)
                  refine G_ldc2 C dL_acts_471 kl_L_136 ?_
                  refine G_goto C 507 dL_acts_474 (by decide) ?_
                  refine G_lstore C (lo' := [(16, .long (-1)), (14, .long 0), (12, .long 0), (11, .int 0), (10, .int 0), (9, .int 0), (8, .int (nI (tA s.1))), (7, .int s.2.2), (6, .int (nI c8)), (5, .int 0), (4, .int (nI d1)), (3, .int (nI w9)), (0, .ref (ad 0)), (1, .int x), (2, .int y)]) dL_acts_507 (by decide) rfl ?_
                  refine G_iload C dL_acts_509 rfl ?_
                  refine G_if_eq C 523 dL_acts_511 (by decide) (fun _ => ?_) (fun h => absurd h (by decide))
                  refine G_aload_n C 0 dL_acts_523 rfl rfl ?_
                  refine G_iload C dL_acts_524 rfl ?_
                  refine G_callSH C (As := [.ref (ad 0), .int (nI d1)]) (rest := []) (v_millBackN  hI28 h2 h60 (hc_bN hk h2 h60 hf)) ca_L_millBack km_L_217 rfl rfl (by decide) (Nat.le_of_ble_eq_true rfl) (by decide) dL_acts_526 (fun vv34 gg33 qq35 => ?_)
                  obtain ⟨rfl, hI36⟩ := qq35
                  refine G_lstore C (lo' := [(18, .long (-103)), (16, .long (-1)), (14, .long 0), (12, .long 0), (11, .int 0), (10, .int 0), (9, .int 0), (8, .int (nI (tA s.1))), (7, .int s.2.2), (6, .int (nI c8)), (5, .int 0), (4, .int (nI d1)), (3, .int (nI w9)), (0, .ref (ad 0)), (1, .int x), (2, .int y)]) dL_acts_529 (by decide) rfl ?_
                  refine G_iload C dL_acts_531 rfl ?_
                  refine G_if_ne C 543 dL_acts_533 (by decide) (fun h => absurd h (by decide)) (fun _ => ?_)
                  refine G_lload C dL_acts_536 rfl ?_
                  refine G_lconst C (v := 0) dL_acts_538 (by decide) ?_
                  refine G_lc_ge C 593 dL_acts_539 dL_acts_540 (by decide) (fun h => absurd h (by decide)) (fun _ => ?_)
                  refine G_lload C dL_acts_543 rfl ?_
                  refine G_iload C dL_acts_545 rfl ?_
                  refine G_if_eq C 555 dL_acts_547 (by decide) (fun _ => ?_) (fun h => absurd h (by decide))
                  refine G_bipush C (v := (-103)) dL_acts_555 (by decide) ?_
                  refine G_i2l C (v := (-103)) dL_acts_557 (by decide) ?_
                  refine G_lc_ne C 591 dL_acts_558 dL_acts_559 (by decide) (fun h => absurd h (by decide)) (fun _ => ?_)
                  refine G_aload_n C 0 dL_acts_562 rfl rfl ?_
                  refine G_pcM C hI36.h0 (As := []) (rest := []) (p_milled  hI36 ) ca_X8_milled km_L_124 rfl rfl (by decide) (Nat.le_of_ble_eq_true rfl) (by decide) dL_acts_563 (fun vv38 gg37 qq39 => ?_)
                  obtain ⟨rfl, hI40⟩ := qq39
                  refine G_iload C dL_acts_566 rfl ?_
                  refine G_icmp_ne C 591 dL_acts_568 (by decide) (fun c568 => False.elim (c568 rfl)) (fun c568 => ?_)
                  refine G_iload C dL_acts_571 rfl ?_
                  refine G_if_eq C 587 dL_acts_573 (by decide) (fun _ => ?_) (fun h => absurd h (by decide))
                  refine G_iconst C (v := 1) dL_acts_587 (by decide) ?_
                  refine G_goto C 592 dL_acts_588 (by decide) ?_
                  refine GW.widen (c1 := 300) (s1 := 1800) (by decide) (by decide) ?_
                  exact G_zret C hr rfl dL_acts_592 ⟨_, _, _, _, Or.inl ⟨rfl, rfl⟩, rfl, hI40⟩
                · refine G_iconst C (v := 1) dL_acts_425 (by decide) ?_
                  refine G_goto C 430 dL_acts_426 (by decide) ?_
                  refine G_istore C (lo' := [(11, .int 1), (10, .int 0), (9, .int 0), (8, .int (nI (tA s.1))), (7, .int s.2.2), (6, .int (nI c8)), (5, .int 0), (4, .int (nI d1)), (3, .int (nI w9)), (0, .ref (ad 0)), (1, .int x), (2, .int y)]) dL_acts_430 (by decide) rfl ?_
                  refine G_iload C dL_acts_432 rfl ?_
                  refine G_if_eq C 446 dL_acts_434 (by decide) (fun _ => ?_) (fun h => absurd h (by decide))
                  refine G_lconst C (v := 0) dL_acts_446 (by decide) ?_
                  refine G_lstore C (lo' := [(12, .long 0), (11, .int 1), (10, .int 0), (9, .int 0), (8, .int (nI (tA s.1))), (7, .int s.2.2), (6, .int (nI c8)), (5, .int 0), (4, .int (nI d1)), (3, .int (nI w9)), (0, .ref (ad 0)), (1, .int x), (2, .int y)]) dL_acts_447 (by decide) rfl ?_
                  refine G_iload C dL_acts_449 rfl ?_
                  refine G_if_eq C 463 dL_acts_451 (by decide) (fun _ => ?_) (fun h => absurd h (by decide))
                  refine G_lconst C (v := 0) dL_acts_463 (by decide) ?_
                  refine G_lstore C (lo' := [(14, .long 0), (12, .long 0), (11, .int 1), (10, .int 0), (9, .int 0), (8, .int (nI (tA s.1))), (7, .int s.2.2), (6, .int (nI c8)), (5, .int 0), (4, .int (nI d1)), (3, .int (nI w9)), (0, .ref (ad 0)), (1, .int x), (2, .int y)]) dL_acts_464 (by decide) rfl ?_
                  refine G_iload C dL_acts_466 rfl ?_
                  refine G_if_ne C 477 dL_acts_468 (by decide) (fun h => absurd h (by decide)) (fun _ => ?_)
                  refine G_ldc2 C dL_acts_471 kl_L_136 ?_
                  refine G_goto C 507 dL_acts_474 (by decide) ?_
                  refine G_lstore C (lo' := [(16, .long (-1)), (14, .long 0), (12, .long 0), (11, .int 1), (10, .int 0), (9, .int 0), (8, .int (nI (tA s.1))), (7, .int s.2.2), (6, .int (nI c8)), (5, .int 0), (4, .int (nI d1)), (3, .int (nI w9)), (0, .ref (ad 0)), (1, .int x), (2, .int y)]) dL_acts_507 (by decide) rfl ?_
                  refine G_iload C dL_acts_509 rfl ?_
                  refine G_if_eq C 523 dL_acts_511 (by decide) (fun h => absurd h (by decide)) (fun _ => ?_)
                  refine G_aload_n C 0 dL_acts_514 rfl rfl ?_
                  refine G_iload C dL_acts_515 rfl ?_
                  refine G_callSH C (As := [.ref (ad 0), .int (nI d1)]) (rest := []) (v_millN  hI28 h2 h60 (hc_mN hk h2 h60 hf)) ca_L_mill km_L_215 rfl rfl (by decide) (Nat.le_of_ble_eq_true rfl) (by decide) dL_acts_517 (fun vv42 gg41 qq43 => ?_)
                  obtain ⟨rfl, hI44⟩ := qq43
                  refine G_goto C 529 dL_acts_520 (by decide) ?_
                  refine G_lstore C (lo' := [(18, .long (-103)), (16, .long (-1)), (14, .long 0), (12, .long 0), (11, .int 1), (10, .int 0), (9, .int 0), (8, .int (nI (tA s.1))), (7, .int s.2.2), (6, .int (nI c8)), (5, .int 0), (4, .int (nI d1)), (3, .int (nI w9)), (0, .ref (ad 0)), (1, .int x), (2, .int y)]) dL_acts_529 (by decide) rfl ?_
                  refine G_iload C dL_acts_531 rfl ?_
                  refine G_if_ne C 543 dL_acts_533 (by decide) (fun h => absurd h (by decide)) (fun _ => ?_)
                  refine G_lload C dL_acts_536 rfl ?_
                  refine G_lconst C (v := 0) dL_acts_538 (by decide) ?_
                  refine G_lc_ge C 593 dL_acts_539 dL_acts_540 (by decide) (fun h => absurd h (by decide)) (fun _ => ?_)
                  refine G_lload C dL_acts_543 rfl ?_
                  refine G_iload C dL_acts_545 rfl ?_
                  refine G_if_eq C 555 dL_acts_547 (by decide) (fun _ => ?_) (fun h => absurd h (by decide))
                  refine G_bipush C (v := (-103)) dL_acts_555 (by decide) ?_
                  refine G_i2l C (v := (-103)) dL_acts_557 (by decide) ?_
                  refine G_lc_ne C 591 dL_acts_558 dL_acts_559 (by decide) (fun h => absurd h (by decide)) (fun _ => ?_)
                  refine G_aload_n C 0 dL_acts_562 rfl rfl ?_
                  refine G_pcM C hI44.h0 (As := []) (rest := []) (p_milled  hI44 ) ca_X8_milled km_L_124 rfl rfl (by decide) (Nat.le_of_ble_eq_true rfl) (by decide) dL_acts_563 (fun vv46 gg45 qq47 => ?_)
                  obtain ⟨rfl, hI48⟩ := qq47
                  refine G_iload C dL_acts_566 rfl ?_
                  refine G_icmp_ne C 591 dL_acts_568 (by decide) (fun c568 => False.elim (c568 rfl)) (fun c568 => ?_)
                  refine G_iload C dL_acts_571 rfl ?_
                  refine G_if_eq C 587 dL_acts_573 (by decide) (fun _ => ?_) (fun h => absurd h (by decide))
                  refine G_iconst C (v := 1) dL_acts_587 (by decide) ?_
                  refine G_goto C 592 dL_acts_588 (by decide) ?_
                  refine GW.widen (c1 := 300) (s1 := 1800) (by decide) (by decide) ?_
                  exact G_zret C hr rfl dL_acts_592 ⟨_, _, _, _, Or.inl ⟨rfl, rfl⟩, rfl, hI48⟩
            · refine G_aload_n C 0 dL_acts_329 rfl rfl ?_
              refine G_iload C dL_acts_330 rfl ?_
              refine G_callSH C (As := [.ref (ad 0), .int (nI d1)]) (rest := []) (v_takeN  hI28 h2 h60 (hc_tN hk h2 h60 hf)) ca_L_take km_L_213 rfl rfl (by decide) (Nat.le_of_ble_eq_true rfl) (by decide) dL_acts_332 (fun vv50 gg49 qq51 => ?_)
              obtain ⟨rfl, hI52⟩ := qq51
              refine G_istore C (lo' := [(11, .int (-103)), (10, .int 0), (9, .int 0), (8, .int (nI (tA s.1))), (7, .int s.2.2), (6, .int (nI c8)), (5, .int 0), (4, .int (nI d1)), (3, .int (nI w9)), (0, .ref (ad 0)), (1, .int x), (2, .int y)]) dL_acts_335 (by decide) rfl ?_
              refine G_iload C dL_acts_337 rfl ?_
              refine G_iload C dL_acts_339 rfl ?_
              refine G_if_eq C 349 dL_acts_341 (by decide) (fun _ => ?_) (fun h => absurd h (by decide))
              refine G_iload C dL_acts_349 rfl ?_
              refine G_if_eq C 359 dL_acts_351 (by decide) (fun _ => ?_) (fun h => absurd h (by decide))
              refine G_bipush C (v := (-103)) dL_acts_359 (by decide) ?_
              refine G_icmp_ne C 411 dL_acts_361 (by decide) (fun h => absurd h (by decide)) (fun _ => ?_)
              refine G_aload_n C 0 dL_acts_364 rfl rfl ?_
              refine G_pcM C hI52.h0 (As := []) (rest := []) (p_stones  hI52 ) ca_X8_stones km_L_189 rfl rfl (by decide) (Nat.le_of_ble_eq_true rfl) (by decide) dL_acts_365 (fun vv54 gg53 qq55 => ?_)
              obtain ⟨rfl, hI56⟩ := qq55
              refine GW.topr (y := nI c8) (hlc) ?_
              refine G_iload C dL_acts_368 rfl ?_
              refine G_iload C dL_acts_370 rfl ?_
              refine G_if_eq C 379 dL_acts_372 (by decide) (fun _ => ?_) (fun h => absurd h (by decide))
              refine G_iconst C (v := 0) dL_acts_379 (by decide) ?_
              refine G_isub C dL_acts_380 ?_
              refine G_icmp_ne C 411 dL_acts_381 (by decide) (fun c381 => False.elim (c381 (Int32.sub_zero _).symm)) (fun c381 => ?_)
              refine G_iload C dL_acts_384 rfl ?_
              refine G_if_eq C 407 dL_acts_386 (by decide) (fun _ => ?_) (fun h => absurd h (by decide))
              refine G_iconst C (v := 1) dL_acts_407 (by decide) ?_
              refine G_goto C 412 dL_acts_408 (by decide) ?_
              refine GW.widen (c1 := 300) (s1 := 1800) (by decide) (by decide) ?_
              exact G_zret C hr rfl dL_acts_412 ⟨_, _, _, _, Or.inl ⟨rfl, rfl⟩, rfl, hI56⟩
          · obtain ⟨h9, hp, hg, hf9⟩ := cs_1of hk h2 h60 hf
            have h39 := gp_lt d1 (by omega)
            refine GW.topr (y := 1) (if_neg hf) ?_
            refine G_if_eq C 303 dL_acts_296 (by decide) (fun h => absurd h (by decide)) (fun _ => ?_)
            refine G_iconst C (v := 1) dL_acts_299 (by decide) ?_
            refine G_goto C 304 dL_acts_300 (by decide) ?_
            refine G_istore C (lo' := [(9, .int 1), (8, .int (nI (tA s.1))), (7, .int s.2.2), (6, .int (nI c8)), (5, .int 0), (4, .int (nI d1)), (3, .int (nI w9)), (0, .ref (ad 0)), (1, .int x), (2, .int y)]) dL_acts_304 (by decide) rfl ?_
            refine G_iload C dL_acts_306 rfl ?_
            refine G_if_eq C 320 dL_acts_308 (by decide) (fun h => absurd h (by decide)) (fun _ => ?_)
            refine G_aload_n C 0 dL_acts_311 rfl rfl ?_
            refine G_iload C dL_acts_312 rfl ?_
            refine G_pcX C hI28.h0 (As := [.int (nI d1)]) (rest := []) (q_powerOf  hI28 h2 h60 hf9 hg) ca_X8_powerOf km_L_101 rfl rfl (by decide) (Nat.le_of_ble_eq_true rfl) (by decide) dL_acts_314 (fun vv58 gg57 qq59 => ?_)
            obtain ⟨rfl, hI60⟩ := qq59
            refine G_goto C 321 dL_acts_317 (by decide) ?_
            refine G_istore C (lo' := [(10, .int (nI h9)), (9, .int 1), (8, .int (nI (tA s.1))), (7, .int s.2.2), (6, .int (nI c8)), (5, .int 0), (4, .int (nI d1)), (3, .int (nI w9)), (0, .ref (ad 0)), (1, .int x), (2, .int y)]) dL_acts_321 (by decide) rfl ?_
            refine G_iload_n C 3 dL_acts_323 rfl rfl ?_
            refine G_bipush C (v := 13) dL_acts_324 (by decide) ?_
            refine G_icmp_ge C 413 dL_acts_326 (by decide) (fun c326 => ?_) (fun c326 => ?_)
            · refine G_iload_n C 3 dL_acts_413 rfl rfl ?_
              refine G_bipush C (v := 32) dL_acts_414 (by decide) ?_
              refine G_icmp_ge C 738 dL_acts_416 (by decide) (fun c416 => ?_) (fun c416 => ?_)
              · refine G_aload_n C 0 dL_acts_738 rfl rfl ?_
                refine G_iload_n C 1 dL_acts_739 rfl rfl ?_
                refine G_iconst C (v := 5) dL_acts_740 (by decide) ?_
                refine G_ishr C dL_acts_741 ?_
                refine G_iload_n C 2 dL_acts_742 rfl rfl ?_
                refine G_callS C (As := [.ref (ad 0), .int (x >>> ((5 : Int32) &&& 31)), .int y]) (rest := []) (c_L_reads  hI60 ) ca_L_reads km_L_219 rfl rfl (by decide) (Nat.le_of_ble_eq_true rfl) (by decide) dL_acts_743 (fun vv62 gg61 qq63 => ?_)
                obtain ⟨s2, hs2, t2, hrd, rfl, hI64⟩ := qq63
                refine GW.widen (c1 := 300) (s1 := 1800) (by decide) (by decide) ?_
                exact G_zret C hr rfl dL_acts_746 ⟨_, _, _, _, hrd, rfl, hI64⟩
              · refine G_iload_n C 3 dL_acts_419 rfl rfl ?_
                refine G_bipush C (v := 26) dL_acts_420 (by decide) ?_
                refine G_icmp_ge C 429 dL_acts_422 (by decide) (fun c422 => ?_) (fun c422 => ?_)
                · refine G_iconst C (v := 0) dL_acts_429 (by decide) ?_
                  refine G_istore C (lo' := [(11, .int 0), (10, .int (nI h9)), (9, .int 1), (8, .int (nI (tA s.1))), (7, .int s.2.2), (6, .int (nI c8)), (5, .int 0), (4, .int (nI d1)), (3, .int (nI w9)), (0, .ref (ad 0)), (1, .int x), (2, .int y)]) dL_acts_430 (by decide) rfl ?_
                  refine G_iload C dL_acts_432 rfl ?_
                  refine G_if_eq C 446 dL_acts_434 (by decide) (fun h => absurd h (by decide)) (fun _ => ?_)
                  refine G_aload_n C 0 dL_acts_437 rfl rfl ?_
                  refine G_iload C dL_acts_438 rfl ?_
                  refine G_pcX C hI60.h0 (As := [.int (nI d1)]) (rest := []) (q_xOf (d := d1) hI60 h2 h60 hf9 hg) ca_X8_xOf km_L_110 rfl rfl (by decide) (Nat.le_of_ble_eq_true rfl) (by decide) dL_acts_440 (fun vv66 gg65 qq67 => ?_)
                  obtain ⟨rfl, hI68⟩ := qq67
                  refine G_goto C 447 dL_acts_443 (by decide) ?_
                  refine G_lstore C (lo' := [(12, .long ((pwr d1 h9).1)), (11, .int 0), (10, .int (nI h9)), (9, .int 1), (8, .int (nI (tA s.1))), (7, .int s.2.2), (6, .int (nI c8)), (5, .int 0), (4, .int (nI d1)), (3, .int (nI w9)), (0, .ref (ad 0)), (1, .int x), (2, .int y)]) dL_acts_447 (by decide) rfl ?_
                  refine G_iload C dL_acts_449 rfl ?_
                  refine G_if_eq C 463 dL_acts_451 (by decide) (fun h => absurd h (by decide)) (fun _ => ?_)
                  refine G_aload_n C 0 dL_acts_454 rfl rfl ?_
                  refine G_iload C dL_acts_455 rfl ?_
                  refine G_pcX C hI68.h0 (As := [.int (nI d1)]) (rest := []) (q_yOf (d := d1) hI68 h2 h60 hf9 hg) ca_X8_yOf km_L_113 rfl rfl (by decide) (Nat.le_of_ble_eq_true rfl) (by decide) dL_acts_457 (fun vv70 gg69 qq71 => ?_)
                  obtain ⟨rfl, hI72⟩ := qq71
                  refine G_goto C 464 dL_acts_460 (by decide) ?_
                  refine G_lstore C (lo' := [(14, .long ((pwr d1 h9).2)), (12, .long ((pwr d1 h9).1)), (11, .int 0), (10, .int (nI h9)), (9, .int 1), (8, .int (nI (tA s.1))), (7, .int s.2.2), (6, .int (nI c8)), (5, .int 0), (4, .int (nI d1)), (3, .int (nI w9)), (0, .ref (ad 0)), (1, .int x), (2, .int y)]) dL_acts_464 (by decide) rfl ?_
                  refine G_iload C dL_acts_466 rfl ?_
                  refine G_if_ne C 477 dL_acts_468 (by decide) (fun _ => ?_) (fun h => absurd h (by decide))
                  refine G_iload C dL_acts_477 rfl ?_
                  refine G_if_eq C 495 dL_acts_479 (by decide) (fun _ => ?_) (fun h => absurd h (by decide))
                  refine G_iload C dL_acts_495 rfl ?_
                  by_cases h90 : h9 = 0
                  · subst h90
                    refine G_if_ne C 506 dL_acts_497 (by decide) (fun c497 => False.elim (c497 rfl)) (fun c497 => ?_)
                    refine G_ldc2 C dL_acts_500 kl_L_136 ?_
                    refine G_goto C 507 dL_acts_503 (by decide) ?_
                    refine G_lstore C (lo' := [(16, .long (-1)), (14, .long ((pwr d1 0).2)), (12, .long ((pwr d1 0).1)), (11, .int 0), (10, .int (nI 0)), (9, .int 1), (8, .int (nI (tA s.1))), (7, .int s.2.2), (6, .int (nI c8)), (5, .int 0), (4, .int (nI d1)), (3, .int (nI w9)), (0, .ref (ad 0)), (1, .int x), (2, .int y)]) dL_acts_507 (by decide) rfl ?_
                    refine G_iload C dL_acts_509 rfl ?_
                    refine G_if_eq C 523 dL_acts_511 (by decide) (fun _ => ?_) (fun h => absurd h (by decide))
                    refine G_aload_n C 0 dL_acts_523 rfl rfl ?_
                    refine G_iload C dL_acts_524 rfl ?_
                    refine G_callSH C (As := [.ref (ad 0), .int (nI d1)]) (rest := []) (v_millBackN  hI72 h2 h60 (hc_bZ h2 h60 hf9)) ca_L_millBack km_L_217 rfl rfl (by decide) (Nat.le_of_ble_eq_true rfl) (by decide) dL_acts_526 (fun vv74 gg73 qq75 => ?_)
                    obtain ⟨rfl, hI76⟩ := qq75
                    refine G_lstore C (lo' := [(18, .long (-103)), (16, .long (-1)), (14, .long ((pwr d1 0).2)), (12, .long ((pwr d1 0).1)), (11, .int 0), (10, .int (nI 0)), (9, .int 1), (8, .int (nI (tA s.1))), (7, .int s.2.2), (6, .int (nI c8)), (5, .int 0), (4, .int (nI d1)), (3, .int (nI w9)), (0, .ref (ad 0)), (1, .int x), (2, .int y)]) dL_acts_529 (by decide) rfl ?_
                    refine G_iload C dL_acts_531 rfl ?_
                    refine G_if_ne C 543 dL_acts_533 (by decide) (fun h => absurd h (by decide)) (fun _ => ?_)
                    refine G_lload C dL_acts_536 rfl ?_
                    refine G_lconst C (v := 0) dL_acts_538 (by decide) ?_
                    refine G_lc_ge C 593 dL_acts_539 dL_acts_540 (by decide) (fun h => absurd h (by decide)) (fun _ => ?_)
                    refine G_lload C dL_acts_543 rfl ?_
                    refine G_iload C dL_acts_545 rfl ?_
                    refine G_if_eq C 555 dL_acts_547 (by decide) (fun _ => ?_) (fun h => absurd h (by decide))
                    refine G_bipush C (v := (-103)) dL_acts_555 (by decide) ?_
                    refine G_i2l C (v := (-103)) dL_acts_557 (by decide) ?_
                    refine G_lc_ne C 591 dL_acts_558 dL_acts_559 (by decide) (fun h => absurd h (by decide)) (fun _ => ?_)
                    refine G_aload_n C 0 dL_acts_562 rfl rfl ?_
                    refine G_pcM C hI76.h0 (As := []) (rest := []) (p_milled  hI76 ) ca_X8_milled km_L_124 rfl rfl (by decide) (Nat.le_of_ble_eq_true rfl) (by decide) dL_acts_563 (fun vv78 gg77 qq79 => ?_)
                    obtain ⟨rfl, hI80⟩ := qq79
                    refine G_iload C dL_acts_566 rfl ?_
                    refine G_icmp_ne C 591 dL_acts_568 (by decide) (fun c568 => False.elim (c568 rfl)) (fun c568 => ?_)
                    refine G_iload C dL_acts_571 rfl ?_
                    refine G_if_eq C 587 dL_acts_573 (by decide) (fun h => absurd h (by decide)) (fun _ => ?_)
                    refine G_aload_n C 0 dL_acts_576 rfl rfl ?_
                    refine G_iload C dL_acts_577 rfl ?_
                    refine G_pcX C hI80.h0 (As := [.int (nI d1)]) (rest := []) (q_powerOf (d := d1) hI80 h2 h60 hf9 hg) ca_X8_powerOf km_L_101 rfl rfl (by decide) (Nat.le_of_ble_eq_true rfl) (by decide) dL_acts_579 (fun vv82 gg81 qq83 => ?_)
                    obtain ⟨rfl, hI84⟩ := qq83
                    refine G_iload C dL_acts_582 rfl ?_
                    refine G_icmp_ne C 591 dL_acts_584 (by decide) (fun c584 => False.elim (c584 rfl)) (fun c584 => ?_)
                    refine G_iconst C (v := 1) dL_acts_587 (by decide) ?_
                    refine G_goto C 592 dL_acts_588 (by decide) ?_
                    refine GW.widen (c1 := 300) (s1 := 1800) (by decide) (by decide) ?_
                    exact G_zret C hr rfl dL_acts_592 ⟨_, _, _, _, Or.inl ⟨rfl, rfl⟩, rfl, hI84⟩
                  · obtain ⟨g9, rfl⟩ : ∃ g, h9 = g + 1 := ⟨h9 - 1, by omega⟩
                    refine G_if_ne C 506 dL_acts_497 (by decide) (fun c497 => ?_) (fun c497 => False.elim (absurd (nj_0 (j := g9 + 1) (by omega) c497) (by omega)))
                    refine G_lconst C (v := 1) dL_acts_506 (by decide) ?_
                    refine G_lstore C (lo' := [(16, .long 1), (14, .long ((pwr d1 (g9 + 1)).2)), (12, .long ((pwr d1 (g9 + 1)).1)), (11, .int 0), (10, .int (nI (g9 + 1))), (9, .int 1), (8, .int (nI (tA s.1))), (7, .int s.2.2), (6, .int (nI c8)), (5, .int 0), (4, .int (nI d1)), (3, .int (nI w9)), (0, .ref (ad 0)), (1, .int x), (2, .int y)]) dL_acts_507 (by decide) rfl ?_
                    refine G_iload C dL_acts_509 rfl ?_
                    refine G_if_eq C 523 dL_acts_511 (by decide) (fun _ => ?_) (fun h => absurd h (by decide))
                    refine G_aload_n C 0 dL_acts_523 rfl rfl ?_
                    refine G_iload C dL_acts_524 rfl ?_
                    refine G_callSH C (As := [.ref (ad 0), .int (nI d1)]) (rest := []) (v_millBackY  hI72 h2 h60 hf9 hg (hc_bY h2 h60 hf9 hg)) ca_L_millBack km_L_217 rfl rfl (by decide) (Nat.le_of_ble_eq_true rfl) (by decide) dL_acts_526 (fun vv86 gg85 qq87 => ?_)
                    obtain ⟨rfl, hI88⟩ := qq87
                    refine G_lstore C (lo' := [(18, .long ((pwr d1 g9).1)), (16, .long 1), (14, .long ((pwr d1 (g9 + 1)).2)), (12, .long ((pwr d1 (g9 + 1)).1)), (11, .int 0), (10, .int (nI (g9 + 1))), (9, .int 1), (8, .int (nI (tA s.1))), (7, .int s.2.2), (6, .int (nI c8)), (5, .int 0), (4, .int (nI d1)), (3, .int (nI w9)), (0, .ref (ad 0)), (1, .int x), (2, .int y)]) dL_acts_529 (by decide) rfl ?_
                    refine G_iload C dL_acts_531 rfl ?_
                    refine G_if_ne C 543 dL_acts_533 (by decide) (fun h => absurd h (by decide)) (fun _ => ?_)
                    refine G_lload C dL_acts_536 rfl ?_
                    refine G_lconst C (v := 0) dL_acts_538 (by decide) ?_
                    refine G_lc_ge C 593 dL_acts_539 dL_acts_540 (by decide) (fun _ => ?_) (fun h => absurd h (by decide))
                    refine G_iload C dL_acts_593 rfl ?_
                    refine G_if_eq C 640 dL_acts_595 (by decide) (fun _ => ?_) (fun h => absurd h (by decide))
                    refine G_aload_n C 0 dL_acts_640 rfl rfl ?_
                    refine G_iload C dL_acts_641 rfl ?_
                    refine G_lload C dL_acts_643 rfl ?_
                    refine G_aload_n C 0 dL_acts_645 rfl rfl ?_
                    refine G_iload C dL_acts_646 rfl ?_
                    refine G_pcX C hI88.h0 (As := [.int (nI d1)]) (rest := [.long ((pwr d1 g9).1), .int (nI d1), .ref (ad 0)]) (q_yOf (d := d1) (h := g9) hI88 h2 h60 (upd_d (f := s.1) (v := nI (g9))) (by omega)) ca_X8_yOf km_L_113 rfl rfl (by decide) (Nat.le_of_ble_eq_true rfl) (by decide) dL_acts_648 (fun vv90 gg89 qq91 => ?_)
                    obtain ⟨rfl, hI92⟩ := qq91
                    refine G_callS C (As := [.ref (ad 0), .int (nI d1), .long ((pwr d1 g9).1), .long ((pwr d1 g9).2)]) (rest := []) (c_L_next (d := d1) (k9 := g9) hI92 h2 h60 hp (by omega)) ca_L_next km_L_182 rfl rfl (by decide) (Nat.le_of_ble_eq_true rfl) (by decide) dL_acts_651 (fun vv94 gg93 qq95 => ?_)
                    obtain ⟨rfl, hI96⟩ := qq95
                    refine GW.toprl (y := (pwr d1 (g9 + 1)).1) (if_pos (show g9 < gpn d1 by omega)) ?_
                    refine G_lload C dL_acts_654 rfl ?_
                    refine G_lc_ne C 736 dL_acts_656 dL_acts_657 (by decide) (fun c656 => False.elim (c656 rfl)) (fun c656 => ?_)
                    refine G_aload_n C 0 dL_acts_660 rfl rfl ?_
                    refine G_iload C dL_acts_661 rfl ?_
                    refine G_pcX C hI96.h0 (As := [.int (nI d1)]) (rest := []) (q_xOf (d := d1) (h := g9) hI96 h2 h60 (upd_d (f := s.1) (v := nI (g9))) (by omega)) ca_X8_xOf km_L_110 rfl rfl (by decide) (Nat.le_of_ble_eq_true rfl) (by decide) dL_acts_663 (fun vv98 gg97 qq99 => ?_)
                    obtain ⟨rfl, hI100⟩ := qq99
                    refine G_lload C dL_acts_666 rfl ?_
                    refine G_lc_ne C 736 dL_acts_668 dL_acts_669 (by decide) (fun c668 => False.elim (c668 rfl)) (fun c668 => ?_)
                    refine G_aload_n C 0 dL_acts_672 rfl rfl ?_
                    refine G_iload C dL_acts_673 rfl ?_
                    refine G_pcX C hI100.h0 (As := [.int (nI d1)]) (rest := []) (q_powerOf (d := d1) (h := g9) hI100 h2 h60 (upd_d (f := s.1) (v := nI (g9))) (by omega)) ca_X8_powerOf km_L_101 rfl rfl (by decide) (Nat.le_of_ble_eq_true rfl) (by decide) dL_acts_675 (fun vv102 gg101 qq103 => ?_)
                    obtain ⟨rfl, hI104⟩ := qq103
                    refine G_iload C dL_acts_678 rfl ?_
                    refine G_iload C dL_acts_680 rfl ?_
                    refine G_if_eq C 689 dL_acts_682 (by decide) (fun _ => ?_) (fun h => absurd h (by decide))
                    refine G_iconst C (v := (-1)) dL_acts_689 (by decide) ?_
                    refine G_iadd C dL_acts_690 ?_
                    refine G_icmp_ne C 736 dL_acts_691 (by decide) (fun c691 => False.elim (c691 (pk_m1 g9).symm)) (fun c691 => ?_)
                    refine G_aload_n C 0 dL_acts_694 rfl rfl ?_
                    refine G_pcM C hI104.h0 (As := []) (rest := []) (p_milled  hI104 ) ca_X8_milled km_L_124 rfl rfl (by decide) (Nat.le_of_ble_eq_true rfl) (by decide) dL_acts_695 (fun vv106 gg105 qq107 => ?_)
                    obtain ⟨rfl, hI108⟩ := qq107
                    refine G_iload C dL_acts_698 rfl ?_
                    refine G_iload C dL_acts_700 rfl ?_
                    refine G_if_eq C 709 dL_acts_702 (by decide) (fun _ => ?_) (fun h => absurd h (by decide))
                    refine G_iconst C (v := 0) dL_acts_709 (by decide) ?_
                    refine G_iadd C dL_acts_710 ?_
                    refine G_icmp_ne C 736 dL_acts_711 (by decide) (fun c711 => False.elim (c711 (Int32.add_zero _).symm)) (fun c711 => ?_)
                    refine G_aload_n C 0 dL_acts_714 rfl rfl ?_
                    refine G_pcM C hI108.h0 (As := []) (rest := []) (p_solutions  hI108 ) ca_X8_solutions km_L_159 rfl rfl (by decide) (Nat.le_of_ble_eq_true rfl) (by decide) dL_acts_715 (fun vv110 gg109 qq111 => ?_)
                    obtain ⟨rfl, hI112⟩ := qq111
                    refine GW.topr (y := nI (tA s.1)) ((cu_e hI108.g.1).trans (congrArg nI (tA_same (h := g9) h2 h60 hp hf (by omega)))) ?_
                    refine G_iload C dL_acts_718 rfl ?_
                    refine G_icmp_ne C 736 dL_acts_720 (by decide) (fun c720 => False.elim (c720 rfl)) (fun c720 => ?_)
                    refine G_aload_n C 0 dL_acts_723 rfl rfl ?_
                    refine G_pcM C hI112.h0 (As := []) (rest := []) (p_stones  hI112 ) ca_X8_stones km_L_189 rfl rfl (by decide) (Nat.le_of_ble_eq_true rfl) (by decide) dL_acts_724 (fun vv114 gg113 qq115 => ?_)
                    obtain ⟨rfl, hI116⟩ := qq115
                    refine GW.topr (y := nI c8) (hlc) ?_
                    refine G_iload C dL_acts_727 rfl ?_
                    refine G_icmp_ne C 736 dL_acts_729 (by decide) (fun c729 => False.elim (c729 rfl)) (fun c729 => ?_)
                    refine G_iconst C (v := 1) dL_acts_732 (by decide) ?_
                    refine G_goto C 737 dL_acts_733 (by decide) ?_
                    refine GW.widen (c1 := 300) (s1 := 1800) (by decide) (by decide) ?_
                    exact G_zret C hr rfl dL_acts_737 ⟨_, _, _, _, Or.inr rfl, rfl, hI116⟩
                · refine G_iconst C (v := 1) dL_acts_425 (by decide) ?_
                  refine G_goto C 430 dL_acts_426 (by decide) ?_
                  refine G_istore C (lo' := [(11, .int 1), (10, .int (nI h9)), (9, .int 1), (8, .int (nI (tA s.1))), (7, .int s.2.2), (6, .int (nI c8)), (5, .int 0), (4, .int (nI d1)), (3, .int (nI w9)), (0, .ref (ad 0)), (1, .int x), (2, .int y)]) dL_acts_430 (by decide) rfl ?_
                  refine G_iload C dL_acts_432 rfl ?_
                  refine G_if_eq C 446 dL_acts_434 (by decide) (fun h => absurd h (by decide)) (fun _ => ?_)
                  refine G_aload_n C 0 dL_acts_437 rfl rfl ?_
                  refine G_iload C dL_acts_438 rfl ?_
                  refine G_pcX C hI60.h0 (As := [.int (nI d1)]) (rest := []) (q_xOf (d := d1) hI60 h2 h60 hf9 hg) ca_X8_xOf km_L_110 rfl rfl (by decide) (Nat.le_of_ble_eq_true rfl) (by decide) dL_acts_440 (fun vv118 gg117 qq119 => ?_)
                  obtain ⟨rfl, hI120⟩ := qq119
                  refine G_goto C 447 dL_acts_443 (by decide) ?_
                  refine G_lstore C (lo' := [(12, .long ((pwr d1 h9).1)), (11, .int 1), (10, .int (nI h9)), (9, .int 1), (8, .int (nI (tA s.1))), (7, .int s.2.2), (6, .int (nI c8)), (5, .int 0), (4, .int (nI d1)), (3, .int (nI w9)), (0, .ref (ad 0)), (1, .int x), (2, .int y)]) dL_acts_447 (by decide) rfl ?_
                  refine G_iload C dL_acts_449 rfl ?_
                  refine G_if_eq C 463 dL_acts_451 (by decide) (fun h => absurd h (by decide)) (fun _ => ?_)
                  refine G_aload_n C 0 dL_acts_454 rfl rfl ?_
                  refine G_iload C dL_acts_455 rfl ?_
                  refine G_pcX C hI120.h0 (As := [.int (nI d1)]) (rest := []) (q_yOf (d := d1) hI120 h2 h60 hf9 hg) ca_X8_yOf km_L_113 rfl rfl (by decide) (Nat.le_of_ble_eq_true rfl) (by decide) dL_acts_457 (fun vv122 gg121 qq123 => ?_)
                  obtain ⟨rfl, hI124⟩ := qq123
                  refine G_goto C 464 dL_acts_460 (by decide) ?_
                  refine G_lstore C (lo' := [(14, .long ((pwr d1 h9).2)), (12, .long ((pwr d1 h9).1)), (11, .int 1), (10, .int (nI h9)), (9, .int 1), (8, .int (nI (tA s.1))), (7, .int s.2.2), (6, .int (nI c8)), (5, .int 0), (4, .int (nI d1)), (3, .int (nI w9)), (0, .ref (ad 0)), (1, .int x), (2, .int y)]) dL_acts_464 (by decide) rfl ?_
                  refine G_iload C dL_acts_466 rfl ?_
                  refine G_if_ne C 477 dL_acts_468 (by decide) (fun _ => ?_) (fun h => absurd h (by decide))
                  refine G_iload C dL_acts_477 rfl ?_
                  refine G_if_eq C 495 dL_acts_479 (by decide) (fun h => absurd h (by decide)) (fun _ => ?_)
                  refine G_aload_n C 0 dL_acts_482 rfl rfl ?_
                  refine G_iload C dL_acts_483 rfl ?_
                  refine G_lload C dL_acts_485 rfl ?_
                  refine G_lload C dL_acts_487 rfl ?_
                  refine G_callS C (As := [.ref (ad 0), .int (nI d1), .long ((pwr d1 h9).1), .long ((pwr d1 h9).2)]) (rest := []) (c_L_next (d := d1) (k9 := h9) hI124 h2 h60 hp hg) ca_L_next km_L_182 rfl rfl (by decide) (Nat.le_of_ble_eq_true rfl) (by decide) dL_acts_489 (fun vv126 gg125 qq127 => ?_)
                  obtain ⟨rfl, hI128⟩ := qq127
                  by_cases hq : h9 < gpn d1
                  · have p0 := pw_0 (k := h9 + 1) h60 hp hq
                    refine GW.toprl (y := (pwr d1 (h9 + 1)).1) (if_pos hq) ?_
                    refine G_goto C 507 dL_acts_492 (by decide) ?_
                    refine G_lstore C (lo' := [(16, .long ((pwr d1 (h9 + 1)).1)), (14, .long ((pwr d1 h9).2)), (12, .long ((pwr d1 h9).1)), (11, .int 1), (10, .int (nI h9)), (9, .int 1), (8, .int (nI (tA s.1))), (7, .int s.2.2), (6, .int (nI c8)), (5, .int 0), (4, .int (nI d1)), (3, .int (nI w9)), (0, .ref (ad 0)), (1, .int x), (2, .int y)]) dL_acts_507 (by decide) rfl ?_
                    refine G_iload C dL_acts_509 rfl ?_
                    refine G_if_eq C 523 dL_acts_511 (by decide) (fun h => absurd h (by decide)) (fun _ => ?_)
                    refine G_aload_n C 0 dL_acts_514 rfl rfl ?_
                    refine G_iload C dL_acts_515 rfl ?_
                    refine G_callSH C (As := [.ref (ad 0), .int (nI d1)]) (rest := []) (v_millY  hI128 h2 h60 hf9 hq (hc_mY h2 h60 hf9 hq)) ca_L_mill km_L_215 rfl rfl (by decide) (Nat.le_of_ble_eq_true rfl) (by decide) dL_acts_517 (fun vv130 gg129 qq131 => ?_)
                    obtain ⟨rfl, hI132⟩ := qq131
                    refine G_goto C 529 dL_acts_520 (by decide) ?_
                    refine G_lstore C (lo' := [(18, .long ((pwr d1 (h9 + 1)).1)), (16, .long ((pwr d1 (h9 + 1)).1)), (14, .long ((pwr d1 h9).2)), (12, .long ((pwr d1 h9).1)), (11, .int 1), (10, .int (nI h9)), (9, .int 1), (8, .int (nI (tA s.1))), (7, .int s.2.2), (6, .int (nI c8)), (5, .int 0), (4, .int (nI d1)), (3, .int (nI w9)), (0, .ref (ad 0)), (1, .int x), (2, .int y)]) dL_acts_529 (by decide) rfl ?_
                    refine G_iload C dL_acts_531 rfl ?_
                    refine G_if_ne C 543 dL_acts_533 (by decide) (fun h => absurd h (by decide)) (fun _ => ?_)
                    refine G_lload C dL_acts_536 rfl ?_
                    refine G_lconst C (v := 0) dL_acts_538 (by decide) ?_
                    refine G_lc_ge C 593 dL_acts_539 dL_acts_540 (by decide) (fun c539 => ?_) (fun c539 => False.elim (c539 p0))
                    refine G_iload C dL_acts_593 rfl ?_
                    refine G_if_eq C 640 dL_acts_595 (by decide) (fun h => absurd h (by decide)) (fun _ => ?_)
                    refine G_lload C dL_acts_598 rfl ?_
                    refine G_lload C dL_acts_600 rfl ?_
                    refine G_lc_ne C 736 dL_acts_602 dL_acts_603 (by decide) (fun c602 => False.elim (c602 rfl)) (fun c602 => ?_)
                    refine G_aload_n C 0 dL_acts_606 rfl rfl ?_
                    refine G_iload C dL_acts_607 rfl ?_
                    refine G_pcX C hI132.h0 (As := [.int (nI d1)]) (rest := []) (q_yOf (d := d1) (h := h9 + 1) hI132 h2 h60 (upd_d (f := s.1) (v := nI (h9 + 1))) hq) ca_X8_yOf km_L_113 rfl rfl (by decide) (Nat.le_of_ble_eq_true rfl) (by decide) dL_acts_609 (fun vv134 gg133 qq135 => ?_)
                    obtain ⟨rfl, hI136⟩ := qq135
                    refine G_lload C dL_acts_612 rfl ?_
                    refine G_aload_n C 0 dL_acts_614 rfl rfl ?_
                    refine G_iload C dL_acts_615 rfl ?_
                    refine G_pcX C hI136.h0 (As := [.int (nI d1)]) (rest := [.long ((pwr d1 h9).1), .long ((pwr d1 (h9 + 1)).2)]) (q_unitY (d := d1) hI136 h2 h60 hp) ca_X8_unitY km_L_89 rfl rfl (by decide) (Nat.le_of_ble_eq_true rfl) (by decide) dL_acts_617 (fun vv138 gg137 qq139 => ?_)
                    obtain ⟨rfl, hI140⟩ := qq139
                    refine G_i2l C dL_acts_620 rfl ?_
                    refine G_lmul C dL_acts_621 ?_
                    refine G_lload C dL_acts_622 rfl ?_
                    refine G_aload_n C 0 dL_acts_624 rfl rfl ?_
                    refine G_iload C dL_acts_625 rfl ?_
                    refine G_pcX C hI140.h0 (As := [.int (nI d1)]) (rest := [.long ((pwr d1 h9).2), .long (((pwr d1 h9).1) * ((tUy d1).toInt64)), .long ((pwr d1 (h9 + 1)).2)]) (q_unitX (d := d1) hI140 h2 h60 hp) ca_X8_unitX km_L_86 rfl rfl (by decide) (Nat.le_of_ble_eq_true rfl) (by decide) dL_acts_627 (fun vv142 gg141 qq143 => ?_)
                    obtain ⟨rfl, hI144⟩ := qq143
                    refine G_i2l C dL_acts_630 rfl ?_
                    refine G_lmul C dL_acts_631 ?_
                    refine G_ladd C dL_acts_632 ?_
                    refine GW.toprl (y := (pwr d1 (h9 + 1)).2) ((nx_Y h60 hp hq).symm) ?_
                    refine G_lc_ne C 736 dL_acts_633 dL_acts_634 (by decide) (fun c633 => False.elim (c633 rfl)) (fun c633 => ?_)
                    refine G_goto C 660 dL_acts_637 (by decide) ?_
                    refine G_aload_n C 0 dL_acts_660 rfl rfl ?_
                    refine G_iload C dL_acts_661 rfl ?_
                    refine G_pcX C hI144.h0 (As := [.int (nI d1)]) (rest := []) (q_xOf (d := d1) (h := h9 + 1) hI144 h2 h60 (upd_d (f := s.1) (v := nI (h9 + 1))) hq) ca_X8_xOf km_L_110 rfl rfl (by decide) (Nat.le_of_ble_eq_true rfl) (by decide) dL_acts_663 (fun vv146 gg145 qq147 => ?_)
                    obtain ⟨rfl, hI148⟩ := qq147
                    refine G_lload C dL_acts_666 rfl ?_
                    refine G_lc_ne C 736 dL_acts_668 dL_acts_669 (by decide) (fun c668 => False.elim (c668 rfl)) (fun c668 => ?_)
                    refine G_aload_n C 0 dL_acts_672 rfl rfl ?_
                    refine G_iload C dL_acts_673 rfl ?_
                    refine G_pcX C hI148.h0 (As := [.int (nI d1)]) (rest := []) (q_powerOf (d := d1) (h := h9 + 1) hI148 h2 h60 (upd_d (f := s.1) (v := nI (h9 + 1))) hq) ca_X8_powerOf km_L_101 rfl rfl (by decide) (Nat.le_of_ble_eq_true rfl) (by decide) dL_acts_675 (fun vv150 gg149 qq151 => ?_)
                    obtain ⟨rfl, hI152⟩ := qq151
                    refine G_iload C dL_acts_678 rfl ?_
                    refine G_iload C dL_acts_680 rfl ?_
                    refine G_if_eq C 689 dL_acts_682 (by decide) (fun h => absurd h (by decide)) (fun _ => ?_)
                    refine G_iconst C (v := 1) dL_acts_685 (by decide) ?_
                    refine G_goto C 690 dL_acts_686 (by decide) ?_
                    refine G_iadd C dL_acts_690 ?_
                    refine GW.topr (cI_add (a := h9) (b := 1) rfl rfl) ?_
                    refine G_icmp_ne C 736 dL_acts_691 (by decide) (fun c691 => False.elim (c691 rfl)) (fun c691 => ?_)
                    refine G_aload_n C 0 dL_acts_694 rfl rfl ?_
                    refine G_pcM C hI152.h0 (As := []) (rest := []) (p_milled  hI152 ) ca_X8_milled km_L_124 rfl rfl (by decide) (Nat.le_of_ble_eq_true rfl) (by decide) dL_acts_695 (fun vv154 gg153 qq155 => ?_)
                    obtain ⟨rfl, hI156⟩ := qq155
                    refine G_iload C dL_acts_698 rfl ?_
                    refine G_iload C dL_acts_700 rfl ?_
                    refine G_if_eq C 709 dL_acts_702 (by decide) (fun h => absurd h (by decide)) (fun _ => ?_)
                    refine G_iconst C (v := 1) dL_acts_705 (by decide) ?_
                    refine G_goto C 710 dL_acts_706 (by decide) ?_
                    refine G_iadd C dL_acts_710 ?_
                    refine G_icmp_ne C 736 dL_acts_711 (by decide) (fun c711 => False.elim (c711 rfl)) (fun c711 => ?_)
                    refine G_aload_n C 0 dL_acts_714 rfl rfl ?_
                    refine G_pcM C hI156.h0 (As := []) (rest := []) (p_solutions  hI156 ) ca_X8_solutions km_L_159 rfl rfl (by decide) (Nat.le_of_ble_eq_true rfl) (by decide) dL_acts_715 (fun vv158 gg157 qq159 => ?_)
                    obtain ⟨rfl, hI160⟩ := qq159
                    refine GW.topr (y := nI (tA s.1)) ((cu_e hI156.g.1).trans (congrArg nI (tA_same (h := (h9 + 1)) h2 h60 hp hf (by omega)))) ?_
                    refine G_iload C dL_acts_718 rfl ?_
                    refine G_icmp_ne C 736 dL_acts_720 (by decide) (fun c720 => False.elim (c720 rfl)) (fun c720 => ?_)
                    refine G_aload_n C 0 dL_acts_723 rfl rfl ?_
                    refine G_pcM C hI160.h0 (As := []) (rest := []) (p_stones  hI160 ) ca_X8_stones km_L_189 rfl rfl (by decide) (Nat.le_of_ble_eq_true rfl) (by decide) dL_acts_724 (fun vv162 gg161 qq163 => ?_)
                    obtain ⟨rfl, hI164⟩ := qq163
                    refine GW.topr (y := nI c8) (hlc) ?_
                    refine G_iload C dL_acts_727 rfl ?_
                    refine G_icmp_ne C 736 dL_acts_729 (by decide) (fun c729 => False.elim (c729 rfl)) (fun c729 => ?_)
                    refine G_iconst C (v := 1) dL_acts_732 (by decide) ?_
                    refine G_goto C 737 dL_acts_733 (by decide) ?_
                    refine GW.widen (c1 := 300) (s1 := 1800) (by decide) (by decide) ?_
                    exact G_zret C hr rfl dL_acts_737 ⟨_, _, _, _, Or.inr rfl, rfl, hI164⟩
                  · refine GW.toprl (y := (-1)) (if_neg hq) ?_
                    refine G_goto C 507 dL_acts_492 (by decide) ?_
                    refine G_lstore C (lo' := [(16, .long (-1)), (14, .long ((pwr d1 h9).2)), (12, .long ((pwr d1 h9).1)), (11, .int 1), (10, .int (nI h9)), (9, .int 1), (8, .int (nI (tA s.1))), (7, .int s.2.2), (6, .int (nI c8)), (5, .int 0), (4, .int (nI d1)), (3, .int (nI w9)), (0, .ref (ad 0)), (1, .int x), (2, .int y)]) dL_acts_507 (by decide) rfl ?_
                    refine G_iload C dL_acts_509 rfl ?_
                    refine G_if_eq C 523 dL_acts_511 (by decide) (fun h => absurd h (by decide)) (fun _ => ?_)
                    refine G_aload_n C 0 dL_acts_514 rfl rfl ?_
                    refine G_iload C dL_acts_515 rfl ?_
                    refine G_callSH C (As := [.ref (ad 0), .int (nI d1)]) (rest := []) (v_millN  hI128 h2 h60 (hc_mZ h2 h60 hf9 hg hq)) ca_L_mill km_L_215 rfl rfl (by decide) (Nat.le_of_ble_eq_true rfl) (by decide) dL_acts_517 (fun vv166 gg165 qq167 => ?_)
                    obtain ⟨rfl, hI168⟩ := qq167
                    refine G_goto C 529 dL_acts_520 (by decide) ?_
                    refine G_lstore C (lo' := [(18, .long (-103)), (16, .long (-1)), (14, .long ((pwr d1 h9).2)), (12, .long ((pwr d1 h9).1)), (11, .int 1), (10, .int (nI h9)), (9, .int 1), (8, .int (nI (tA s.1))), (7, .int s.2.2), (6, .int (nI c8)), (5, .int 0), (4, .int (nI d1)), (3, .int (nI w9)), (0, .ref (ad 0)), (1, .int x), (2, .int y)]) dL_acts_529 (by decide) rfl ?_
                    refine G_iload C dL_acts_531 rfl ?_
                    refine G_if_ne C 543 dL_acts_533 (by decide) (fun h => absurd h (by decide)) (fun _ => ?_)
                    refine G_lload C dL_acts_536 rfl ?_
                    refine G_lconst C (v := 0) dL_acts_538 (by decide) ?_
                    refine G_lc_ge C 593 dL_acts_539 dL_acts_540 (by decide) (fun h => absurd h (by decide)) (fun _ => ?_)
                    refine G_lload C dL_acts_543 rfl ?_
                    refine G_iload C dL_acts_545 rfl ?_
                    refine G_if_eq C 555 dL_acts_547 (by decide) (fun _ => ?_) (fun h => absurd h (by decide))
                    refine G_bipush C (v := (-103)) dL_acts_555 (by decide) ?_
                    refine G_i2l C (v := (-103)) dL_acts_557 (by decide) ?_
                    refine G_lc_ne C 591 dL_acts_558 dL_acts_559 (by decide) (fun h => absurd h (by decide)) (fun _ => ?_)
                    refine G_aload_n C 0 dL_acts_562 rfl rfl ?_
                    refine G_pcM C hI168.h0 (As := []) (rest := []) (p_milled  hI168 ) ca_X8_milled km_L_124 rfl rfl (by decide) (Nat.le_of_ble_eq_true rfl) (by decide) dL_acts_563 (fun vv170 gg169 qq171 => ?_)
                    obtain ⟨rfl, hI172⟩ := qq171
                    refine G_iload C dL_acts_566 rfl ?_
                    refine G_icmp_ne C 591 dL_acts_568 (by decide) (fun c568 => False.elim (c568 rfl)) (fun c568 => ?_)
                    refine G_iload C dL_acts_571 rfl ?_
                    refine G_if_eq C 587 dL_acts_573 (by decide) (fun h => absurd h (by decide)) (fun _ => ?_)
                    refine G_aload_n C 0 dL_acts_576 rfl rfl ?_
                    refine G_iload C dL_acts_577 rfl ?_
                    refine G_pcX C hI172.h0 (As := [.int (nI d1)]) (rest := []) (q_powerOf (d := d1) hI172 h2 h60 hf9 hg) ca_X8_powerOf km_L_101 rfl rfl (by decide) (Nat.le_of_ble_eq_true rfl) (by decide) dL_acts_579 (fun vv174 gg173 qq175 => ?_)
                    obtain ⟨rfl, hI176⟩ := qq175
                    refine G_iload C dL_acts_582 rfl ?_
                    refine G_icmp_ne C 591 dL_acts_584 (by decide) (fun c584 => False.elim (c584 rfl)) (fun c584 => ?_)
                    refine G_iconst C (v := 1) dL_acts_587 (by decide) ?_
                    refine G_goto C 592 dL_acts_588 (by decide) ?_
                    refine GW.widen (c1 := 300) (s1 := 1800) (by decide) (by decide) ?_
                    exact G_zret C hr rfl dL_acts_592 ⟨_, _, _, _, Or.inl ⟨rfl, rfl⟩, rfl, hI176⟩
            · refine G_aload_n C 0 dL_acts_329 rfl rfl ?_
              refine G_iload C dL_acts_330 rfl ?_
              refine G_callSH C (As := [.ref (ad 0), .int (nI d1)]) (rest := []) (v_takeY  hI60 h2 h60 hf9 hg (hc_tY h2 h60 hf9 hg)) ca_L_take km_L_213 rfl rfl (by decide) (Nat.le_of_ble_eq_true rfl) (by decide) dL_acts_332 (fun vv178 gg177 qq179 => ?_)
              obtain ⟨rfl, hI180⟩ := qq179
              refine G_istore C (lo' := [(11, .int (nI h9)), (10, .int (nI h9)), (9, .int 1), (8, .int (nI (tA s.1))), (7, .int s.2.2), (6, .int (nI c8)), (5, .int 0), (4, .int (nI d1)), (3, .int (nI w9)), (0, .ref (ad 0)), (1, .int x), (2, .int y)]) dL_acts_335 (by decide) rfl ?_
              refine G_iload C dL_acts_337 rfl ?_
              refine G_iload C dL_acts_339 rfl ?_
              refine G_if_eq C 349 dL_acts_341 (by decide) (fun _ => ?_) (fun h => absurd h (by decide))
              refine G_iload C dL_acts_349 rfl ?_
              refine G_if_eq C 359 dL_acts_351 (by decide) (fun h => absurd h (by decide)) (fun _ => ?_)
              refine G_iload C dL_acts_354 rfl ?_
              refine G_goto C 361 dL_acts_356 (by decide) ?_
              refine G_icmp_ne C 411 dL_acts_361 (by decide) (fun c361 => False.elim (c361 rfl)) (fun c361 => ?_)
              refine G_aload_n C 0 dL_acts_364 rfl rfl ?_
              refine G_pcM C hI180.h0 (As := []) (rest := []) (p_stones  hI180 ) ca_X8_stones km_L_189 rfl rfl (by decide) (Nat.le_of_ble_eq_true rfl) (by decide) dL_acts_365 (fun vv182 gg181 qq183 => ?_)
              obtain ⟨rfl, hI184⟩ := qq183
              refine GW.topr (y := (nI c8 - 1)) (by rw [hlc]) ?_
              refine G_iload C dL_acts_368 rfl ?_
              refine G_iload C dL_acts_370 rfl ?_
              refine G_if_eq C 379 dL_acts_372 (by decide) (fun h => absurd h (by decide)) (fun _ => ?_)
              refine G_iconst C (v := 1) dL_acts_375 (by decide) ?_
              refine G_goto C 380 dL_acts_376 (by decide) ?_
              refine G_isub C dL_acts_380 ?_
              refine G_icmp_ne C 411 dL_acts_381 (by decide) (fun c381 => False.elim (c381 rfl)) (fun c381 => ?_)
              refine G_iload C dL_acts_384 rfl ?_
              refine G_if_eq C 407 dL_acts_386 (by decide) (fun h => absurd h (by decide)) (fun _ => ?_)
              refine G_aload_n C 0 dL_acts_389 rfl rfl ?_
              refine G_iload C dL_acts_390 rfl ?_
              refine G_pcX C hI184.h0 (As := [.int (nI d1)]) (rest := []) (q_isLaid (d := d1) hI184 h2 h60) ca_X8_isLaid km_L_42 rfl rfl (by decide) (Nat.le_of_ble_eq_true rfl) (by decide) dL_acts_392 (fun vv186 gg185 qq187 => ?_)
              obtain ⟨rfl, hI188⟩ := qq187
              refine GW.topr (y := 0) (if_pos (by show upd s.1 d1 (-1) d1 < 0; rw [upd_d]; decide)) ?_
              refine G_if_ne C 411 dL_acts_395 (by decide) (fun h => absurd h (by decide)) (fun _ => ?_)
              refine G_aload_n C 0 dL_acts_398 rfl rfl ?_
              refine G_pcM C hI188.h0 (As := []) (rest := []) (p_solutions  hI188 ) ca_X8_solutions km_L_159 rfl rfl (by decide) (Nat.le_of_ble_eq_true rfl) (by decide) dL_acts_399 (fun vv190 gg189 qq191 => ?_)
              obtain ⟨rfl, hI192⟩ := qq191
              refine GW.topr (y := nI (tA (upd s.1 d1 (-1)))) (cu_e hI188.g.1) ?_
              refine G_iload C dL_acts_402 rfl ?_
              refine G_icmp_ge C 411 dL_acts_404 (by decide) (fun c404 => False.elim (absurd (nI_lep (a := tA (upd s.1 d1 (-1))) (b := tA s.1) (by omega) (by have : tA (upd s.1 d1 (-1)) ≤ 2301 := cns_le (upd s.1 d1 (-1)) 1000000000000000; omega) c404) (Nat.not_le.mpr (tA_take h2 h60 hp hf)))) (fun c404 => ?_)
              refine G_iconst C (v := 1) dL_acts_407 (by decide) ?_
              refine G_goto C 412 dL_acts_408 (by decide) ?_
              refine GW.widen (c1 := 300) (s1 := 1800) (by decide) (by decide) ?_
              exact G_zret C hr rfl dL_acts_412 ⟨_, _, _, _, Or.inr rfl, rfl, hI192⟩
        refine G_istore C (lo' := [(9, .int 0), (8, .int (nI (tA s.1))), (7, .int s.2.2), (6, .int (nI c8)), (5, .int 0), (4, .int (nI d9)), (3, .int (nI w9)), (0, .ref (ad 0)), (1, .int x), (2, .int y)]) dL_acts_223 (by decide) rfl ?_
        have key225 : ∀ (n : Nat) (kk dd : Nat) (G225 : Nat → va_E) (hI225 : PI L ad G225 s sn k hs len tx) (hn : 59 - kk < n) (hkk : kk ≤ 59) (hd1 : 2 ≤ dd) (hd2 : dd ≤ 60), GW L E 40 ad G225 (24 + kk) (144 + 6 * kk) 225 [(9, .int (nI kk)), (8, .int (nI (tA s.1))), (7, .int s.2.2), (6, .int (nI c8)), (5, .int 0), (4, .int (nI dd)), (3, .int (nI w9)), (0, .ref (ad 0)), (1, .int x), (2, .int y)] [] := by
          intro n
          induction n with
          | zero =>
            intro kk dd G225 hI225 hn hkk hd1 hd2
            exact absurd hn (Nat.not_lt_zero _)
          | succ n ih225 =>
            intro kk dd G225 hI225 hn hkk hd1 hd2
            refine G_iload C dL_acts_225 rfl ?_
            refine G_bipush C (v := 59) dL_acts_227 (by decide) ?_
            refine G_icmp_ge C 285 dL_acts_229 (by decide) (fun c229 => ?_) (fun c229 => ?_)
            · have c229n : 59 ≤ kk := (cI_le (a := 59) (b := kk) rfl rfl (by omega) (by omega)).mp c229
              refine GW.pick [1, 2, 3, 4, 5, 6, 7, 8, 9] [(8, .int (nI (tA s.1))), (7, .int s.2.2), (6, .int (nI c8)), (5, .int 0), (4, .int (nI dd)), (3, .int (nI w9)), (0, .ref (ad 0)), (1, .int x), (2, .int y)] rfl ?_
              refine GW.widen (c1 := 100) (s1 := 600) (by show 24 + kk ≤ 100; omega) (by show 144 + 6 * kk ≤ 600; omega) ?_
              exact jn223 dd G225 hI225 (by omega) (by omega)
            · have c229n : ¬ 59 ≤ kk := fun z => c229 ((cI_le (a := 59) (b := kk) rfl rfl (by omega) (by omega)).mpr z)
              refine G_iload C dL_acts_232 rfl ?_
              refine G_if_ne C 285 dL_acts_234 (by decide) (fun h => absurd h (by decide)) (fun _ => ?_)
              refine G_iload_n C 2 dL_acts_237 rfl rfl ?_
              refine G_iconst C (v := 5) dL_acts_238 (by decide) ?_
              refine G_ishr C dL_acts_239 ?_
              refine G_bipush C (v := 9) dL_acts_240 (by decide) ?_
              refine G_callS C (As := [.int (y >>> ((5 : Int32) &&& 31)), .int 9]) (rest := []) (c_L_low (n := 9)  (by omega) (by omega)) ca_L_low km_L_156 rfl rfl (by decide) (Nat.le_of_ble_eq_true rfl) ⟨by show 24 + kk + 0 ≤ 300; omega, by show 144 + 6 * kk + 0 ≤ 1800; omega⟩ dL_acts_242 (fun vv194 gg193 qq195 => ?_)
              obtain ⟨f9, hf9, rfl, rfl⟩ := qq195
              refine G_if_le C 285 dL_acts_245 (by decide) (fun c245 => ?_) (fun c245 => ?_)
              · refine GW.pick [1, 2, 3, 4, 5, 6, 7, 8, 9] [(8, .int (nI (tA s.1))), (7, .int s.2.2), (6, .int (nI c8)), (5, .int 0), (4, .int (nI dd)), (3, .int (nI w9)), (0, .ref (ad 0)), (1, .int x), (2, .int y)] rfl ?_
                refine GW.widen (c1 := 100) (s1 := 600) (by show 24 + kk + 0 ≤ 100; omega) (by show 144 + 6 * kk + 0 ≤ 600; omega) ?_
                exact jn223 dd G225 hI225 (by omega) (by omega)
              · refine G_aload_n C 0 dL_acts_248 rfl rfl ?_
                refine G_iload C dL_acts_249 rfl ?_
                refine G_pcX C hI225.h0 (As := [.int (nI dd)]) (rest := []) (q_isLaid (d := dd) hI225 hd1 hd2) ca_X8_isLaid km_L_42 rfl rfl (by decide) (Nat.le_of_ble_eq_true rfl) ⟨by show 24 + kk + 0 + 1 ≤ 300; omega, by show 144 + 6 * kk + 0 + 6 ≤ 1800; omega⟩ dL_acts_251 (fun vv197 gg196 qq198 => ?_)
                obtain ⟨rfl, hI199⟩ := qq198
                refine G_if_eq C 262 dL_acts_254 (by decide) (fun c254 => ?_) (fun c254 => ?_)
                · refine G_iload C dL_acts_262 rfl ?_
                  refine G_bipush C (v := 60) dL_acts_264 (by decide) ?_
                  refine G_icmp_ne C 273 dL_acts_266 (by decide) (fun c266 => ?_) (fun c266 => ?_)
                  · have c266n : ¬ dd = 60 := fun z => c266 ((cI_eq (a := dd) (b := 60) rfl rfl (by omega) (by omega)).mpr z)
                    refine G_iload C dL_acts_273 rfl ?_
                    refine G_iconst C (v := 1) dL_acts_275 (by decide) ?_
                    refine G_iadd C dL_acts_276 ?_
                    refine GW.topr (cI_add (a := dd) (b := 1) rfl rfl) ?_
                    refine G_istore C (lo' := [(4, .int (nI (dd + 1))), (9, .int (nI kk)), (8, .int (nI (tA s.1))), (7, .int s.2.2), (6, .int (nI c8)), (5, .int 0), (3, .int (nI w9)), (0, .ref (ad 0)), (1, .int x), (2, .int y)]) dL_acts_277 (by decide) rfl ?_
                    refine G_iinc C (v := nI (kk + 1)) (lo' := [(9, .int (nI (kk + 1))), (4, .int (nI (dd + 1))), (8, .int (nI (tA s.1))), (7, .int s.2.2), (6, .int (nI c8)), (5, .int 0), (3, .int (nI w9)), (0, .ref (ad 0)), (1, .int x), (2, .int y)]) dL_acts_279 rfl (nI_add _ _) (by decide) rfl ?_
                    refine G_goto C 225 dL_acts_282 (by decide) ?_
                    refine GW.pick [0, 2, 3, 4, 5, 1, 6, 7, 8, 9] [(9, .int (nI (kk + 1))), (8, .int (nI (tA s.1))), (7, .int s.2.2), (6, .int (nI c8)), (5, .int 0), (4, .int (nI (dd + 1))), (3, .int (nI w9)), (0, .ref (ad 0)), (1, .int x), (2, .int y)] rfl ?_
                    refine GW.widen (c1 := 24 + (kk + 1)) (s1 := 144 + 6 * (kk + 1)) (by show 24 + kk + 0 + 1 ≤ 24 + (kk + 1); omega) (by show 144 + 6 * kk + 0 + 6 ≤ 144 + 6 * (kk + 1); omega) ?_
                    exact ih225 (kk + 1) (dd + 1) gg196 hI199 (by omega) (by omega) (by omega) (by omega)
                  · have c266n : dd = 60 := (cI_eq (a := dd) (b := 60) rfl rfl (by omega) (by omega)).mp c266
                    refine G_iconst C (v := 2) dL_acts_269 (by decide) ?_
                    refine G_goto C 277 dL_acts_270 (by decide) ?_
                    refine G_istore C (lo' := [(4, .int 2), (9, .int (nI kk)), (8, .int (nI (tA s.1))), (7, .int s.2.2), (6, .int (nI c8)), (5, .int 0), (3, .int (nI w9)), (0, .ref (ad 0)), (1, .int x), (2, .int y)]) dL_acts_277 (by decide) rfl ?_
                    refine G_iinc C (v := nI (kk + 1)) (lo' := [(9, .int (nI (kk + 1))), (4, .int 2), (8, .int (nI (tA s.1))), (7, .int s.2.2), (6, .int (nI c8)), (5, .int 0), (3, .int (nI w9)), (0, .ref (ad 0)), (1, .int x), (2, .int y)]) dL_acts_279 rfl (nI_add _ _) (by decide) rfl ?_
                    refine G_goto C 225 dL_acts_282 (by decide) ?_
                    refine GW.pick [0, 2, 3, 4, 5, 1, 6, 7, 8, 9] [(9, .int (nI (kk + 1))), (8, .int (nI (tA s.1))), (7, .int s.2.2), (6, .int (nI c8)), (5, .int 0), (4, .int 2), (3, .int (nI w9)), (0, .ref (ad 0)), (1, .int x), (2, .int y)] rfl ?_
                    refine GW.widen (c1 := 24 + (kk + 1)) (s1 := 144 + 6 * (kk + 1)) (by show 24 + kk + 0 + 1 ≤ 24 + (kk + 1); omega) (by show 144 + 6 * kk + 0 + 6 ≤ 144 + 6 * (kk + 1); omega) ?_
                    exact ih225 (kk + 1) 2 gg196 hI199 (by omega) (by omega) (by omega) (by omega)
                · refine G_iload C dL_acts_257 rfl ?_
                  refine G_goto C 277 dL_acts_259 (by decide) ?_
                  refine G_istore C (lo' := [(4, .int (nI dd)), (9, .int (nI kk)), (8, .int (nI (tA s.1))), (7, .int s.2.2), (6, .int (nI c8)), (5, .int 0), (3, .int (nI w9)), (0, .ref (ad 0)), (1, .int x), (2, .int y)]) dL_acts_277 (by decide) rfl ?_
                  refine G_iinc C (v := nI (kk + 1)) (lo' := [(9, .int (nI (kk + 1))), (4, .int (nI dd)), (8, .int (nI (tA s.1))), (7, .int s.2.2), (6, .int (nI c8)), (5, .int 0), (3, .int (nI w9)), (0, .ref (ad 0)), (1, .int x), (2, .int y)]) dL_acts_279 rfl (nI_add _ _) (by decide) rfl ?_
                  refine G_goto C 225 dL_acts_282 (by decide) ?_
                  refine GW.pick [0, 2, 3, 4, 5, 1, 6, 7, 8, 9] [(9, .int (nI (kk + 1))), (8, .int (nI (tA s.1))), (7, .int s.2.2), (6, .int (nI c8)), (5, .int 0), (4, .int (nI dd)), (3, .int (nI w9)), (0, .ref (ad 0)), (1, .int x), (2, .int y)] rfl ?_
                  refine GW.widen (c1 := 24 + (kk + 1)) (s1 := 144 + 6 * (kk + 1)) (by show 24 + kk + 0 + 1 ≤ 24 + (kk + 1); omega) (by show 144 + 6 * kk + 0 + 6 ≤ 144 + 6 * (kk + 1); omega) ?_
                  exact ih225 (kk + 1) dd gg196 hI199 (by omega) (by omega) (by omega) (by omega)
        refine GW.widen (c1 := 24 + 0) (s1 := 144 + 6 * 0) (by show 20 ≤ 24 + 0; omega) (by show 120 ≤ 144 + 6 * 0; omega) ?_
        exact key225 60 0 d9 gj21 hj22 (by omega) (by omega) (h2) (h60)
      refine G_bipush C (v := 10) dL_acts_77 (by decide) ?_
      have jn79 : ∀  (gj200 : Nat → va_E) (hj201 : PI L ad gj200 s sn k hs len tx) , GW L E 40 ad gj200 20 120 93 [(8, .int (nI (tA s.1))), (7, .int s.2.2), (6, .int (nI c8)), (5, .int 0), (4, .int (nI d9)), (3, .int (nI w9)), (0, .ref (ad 0)), (1, .int x), (2, .int y)] [] := by
        intro  gj200 hj201
        refine G_iload C dL_acts_93 rfl ?_
        refine G_if_eq C 102 dL_acts_95 (by decide) (fun _ => ?_) (fun h => absurd h (by decide))
        refine G_aload_n C 0 dL_acts_102 rfl rfl ?_
        refine G_iload C dL_acts_103 rfl ?_
        refine G_pcX C hj201.h0 (As := [.int (nI d9)]) (rest := []) (q_whyNot  hj201 h2 h60) ca_X8_whyNot km_L_33 rfl rfl (by decide) (Nat.le_of_ble_eq_true rfl) (by decide) dL_acts_105 (fun vv203 gg202 qq204 => ?_)
        obtain ⟨rfl, hI205⟩ := qq204
        by_cases hr0 : rsnF s.1 s.2.1 (nI d9) = 0
        · obtain ⟨hp, hf⟩ := rs_0 hk hL h2 h60 hr0
          refine GW.topr (y := 0) (hr0) ?_
          refine G_istore C (lo' := [(9, .int 0), (8, .int (nI (tA s.1))), (7, .int s.2.2), (6, .int (nI c8)), (5, .int 0), (4, .int (nI d9)), (3, .int (nI w9)), (0, .ref (ad 0)), (1, .int x), (2, .int y)]) dL_acts_108 (by decide) rfl ?_
          refine G_aload_n C 0 dL_acts_110 rfl rfl ?_
          refine G_iload C dL_acts_111 rfl ?_
          refine G_callSH C (As := [.ref (ad 0), .int (nI d9)]) (rest := []) (v_layY  hI205 h2 h60 (by rw [cs_l h2 h60, if_pos hr0])) ca_L_lay km_L_211 rfl rfl (by decide) (Nat.le_of_ble_eq_true rfl) (by decide) dL_acts_113 (fun vv207 gg206 qq208 => ?_)
          obtain ⟨rfl, hI209⟩ := qq208
          refine GW.topr (y := (nI c8 + 1)) (by rw [hlc]) ?_
          refine G_istore C (lo' := [(10, .int (nI c8 + 1)), (9, .int 0), (8, .int (nI (tA s.1))), (7, .int s.2.2), (6, .int (nI c8)), (5, .int 0), (4, .int (nI d9)), (3, .int (nI w9)), (0, .ref (ad 0)), (1, .int x), (2, .int y)]) dL_acts_116 (by decide) rfl ?_
          refine G_iload C dL_acts_118 rfl ?_
          refine G_if_ne C 132 dL_acts_120 (by decide) (fun h => absurd h (by decide)) (fun _ => ?_)
          refine G_iload C dL_acts_123 rfl ?_
          refine G_if_ne C 132 dL_acts_125 (by decide) (fun h => absurd h (by decide)) (fun _ => ?_)
          refine G_iconst C (v := 1) dL_acts_128 (by decide) ?_
          refine G_goto C 133 dL_acts_129 (by decide) ?_
          refine G_istore C (lo' := [(11, .int 1), (10, .int (nI c8 + 1)), (9, .int 0), (8, .int (nI (tA s.1))), (7, .int s.2.2), (6, .int (nI c8)), (5, .int 0), (4, .int (nI d9)), (3, .int (nI w9)), (0, .ref (ad 0)), (1, .int x), (2, .int y)]) dL_acts_133 (by decide) rfl ?_
          refine G_iload C dL_acts_135 rfl ?_
          refine G_iload C dL_acts_137 rfl ?_
          refine G_if_eq C 147 dL_acts_139 (by decide) (fun _ => ?_) (fun h => absurd h (by decide))
          refine G_iload C dL_acts_147 rfl ?_
          refine G_if_eq C 159 dL_acts_149 (by decide) (fun h => absurd h (by decide)) (fun _ => ?_)
          refine G_iload C dL_acts_152 rfl ?_
          refine G_iconst C (v := 1) dL_acts_154 (by decide) ?_
          refine G_iadd C dL_acts_155 ?_
          refine G_goto C 161 dL_acts_156 (by decide) ?_
          refine G_icmp_ne C 220 dL_acts_161 (by decide) (fun c161 => False.elim (c161 rfl)) (fun c161 => ?_)
          refine G_aload_n C 0 dL_acts_164 rfl rfl ?_
          refine G_pcM C hI209.h0 (As := []) (rest := []) (p_stones  hI209 ) ca_X8_stones km_L_189 rfl rfl (by decide) (Nat.le_of_ble_eq_true rfl) (by decide) dL_acts_165 (fun vv211 gg210 qq212 => ?_)
          obtain ⟨rfl, hI213⟩ := qq212
          refine GW.topr (y := (nI c8 + 1)) (by rw [hlc]) ?_
          refine G_iload C dL_acts_168 rfl ?_
          refine G_iload C dL_acts_170 rfl ?_
          refine G_if_eq C 179 dL_acts_172 (by decide) (fun h => absurd h (by decide)) (fun _ => ?_)
          refine G_iconst C (v := 1) dL_acts_175 (by decide) ?_
          refine G_goto C 180 dL_acts_176 (by decide) ?_
          refine G_iadd C dL_acts_180 ?_
          refine G_icmp_ne C 220 dL_acts_181 (by decide) (fun c181 => False.elim (c181 rfl)) (fun c181 => ?_)
          refine G_iload C dL_acts_184 rfl ?_
          refine G_if_eq C 207 dL_acts_186 (by decide) (fun h => absurd h (by decide)) (fun _ => ?_)
          refine G_aload_n C 0 dL_acts_189 rfl rfl ?_
          refine G_iload C dL_acts_190 rfl ?_
          refine G_pcX C hI213.h0 (As := [.int (nI d9)]) (rest := []) (q_powerOf (d := d9) (h := 0) hI213 h2 h60 (upd_d (f := s.1) (v := 0)) (Nat.zero_le _)) ca_X8_powerOf km_L_101 rfl rfl (by decide) (Nat.le_of_ble_eq_true rfl) (by decide) dL_acts_192 (fun vv215 gg214 qq216 => ?_)
          obtain ⟨rfl, hI217⟩ := qq216
          refine GW.topr (y := 0) (rfl) ?_
          refine G_if_ne C 220 dL_acts_195 (by decide) (fun h => absurd h (by decide)) (fun _ => ?_)
          refine G_aload_n C 0 dL_acts_198 rfl rfl ?_
          refine G_pcM C hI217.h0 (As := []) (rest := []) (p_solutions  hI217 ) ca_X8_solutions km_L_159 rfl rfl (by decide) (Nat.le_of_ble_eq_true rfl) (by decide) dL_acts_199 (fun vv219 gg218 qq220 => ?_)
          obtain ⟨rfl, hI221⟩ := qq220
          refine GW.topr (y := nI (tA (upd s.1 d9 0))) (cu_e hI217.g.1) ?_
          refine G_iload C dL_acts_202 rfl ?_
          refine G_icmp_le C 220 dL_acts_204 (by decide) (fun c204 => False.elim (nI_nle2 (a := tA s.1) (b := tA (upd s.1 d9 0)) (by have : tA (upd s.1 d9 0) ≤ 2301 := cns_le (upd s.1 d9 0) 1000000000000000; omega) (by omega) (tA_lay h2 h60 hp hf) c204)) (fun c204 => ?_)
          refine G_aload_n C 0 dL_acts_207 rfl rfl ?_
          refine G_pcM C hI221.h0 (As := []) (rest := []) (p_milled  hI221 ) ca_X8_milled km_L_124 rfl rfl (by decide) (Nat.le_of_ble_eq_true rfl) (by decide) dL_acts_208 (fun vv223 gg222 qq224 => ?_)
          obtain ⟨rfl, hI225⟩ := qq224
          refine G_iload C dL_acts_211 rfl ?_
          refine G_icmp_ne C 220 dL_acts_213 (by decide) (fun c213 => False.elim (c213 rfl)) (fun c213 => ?_)
          refine G_iconst C (v := 1) dL_acts_216 (by decide) ?_
          refine G_goto C 221 dL_acts_217 (by decide) ?_
          refine GW.widen (c1 := 300) (s1 := 1800) (by decide) (by decide) ?_
          exact G_zret C hr rfl dL_acts_221 ⟨_, _, _, _, Or.inr rfl, rfl, hI225⟩
        · refine G_istore C (lo' := [(9, .int (rsnF s.1 s.2.1 (nI d9))), (8, .int (nI (tA s.1))), (7, .int s.2.2), (6, .int (nI c8)), (5, .int 0), (4, .int (nI d9)), (3, .int (nI w9)), (0, .ref (ad 0)), (1, .int x), (2, .int y)]) dL_acts_108 (by decide) rfl ?_
          refine G_aload_n C 0 dL_acts_110 rfl rfl ?_
          refine G_iload C dL_acts_111 rfl ?_
          refine G_callSH C (As := [.ref (ad 0), .int (nI d9)]) (rest := []) (v_layN  hI205 h2 h60 (by rw [cs_l h2 h60, if_neg hr0]; decide)) ca_L_lay km_L_211 rfl rfl (by decide) (Nat.le_of_ble_eq_true rfl) (by decide) dL_acts_113 (fun vv227 gg226 qq228 => ?_)
          obtain ⟨rfl, hI229⟩ := qq228
          refine G_istore C (lo' := [(10, .int (-103)), (9, .int (rsnF s.1 s.2.1 (nI d9))), (8, .int (nI (tA s.1))), (7, .int s.2.2), (6, .int (nI c8)), (5, .int 0), (4, .int (nI d9)), (3, .int (nI w9)), (0, .ref (ad 0)), (1, .int x), (2, .int y)]) dL_acts_116 (by decide) rfl ?_
          refine G_iload C dL_acts_118 rfl ?_
          refine G_if_ne C 132 dL_acts_120 (by decide) (fun h => absurd h (by decide)) (fun _ => ?_)
          refine G_iload C dL_acts_123 rfl ?_
          refine G_if_ne C 132 dL_acts_125 (by decide) (fun c125 => ?_) (fun c125 => False.elim (hr0 c125))
          refine G_iconst C (v := 0) dL_acts_132 (by decide) ?_
          refine G_istore C (lo' := [(11, .int 0), (10, .int (-103)), (9, .int (rsnF s.1 s.2.1 (nI d9))), (8, .int (nI (tA s.1))), (7, .int s.2.2), (6, .int (nI c8)), (5, .int 0), (4, .int (nI d9)), (3, .int (nI w9)), (0, .ref (ad 0)), (1, .int x), (2, .int y)]) dL_acts_133 (by decide) rfl ?_
          refine G_iload C dL_acts_135 rfl ?_
          refine G_iload C dL_acts_137 rfl ?_
          refine G_if_eq C 147 dL_acts_139 (by decide) (fun _ => ?_) (fun h => absurd h (by decide))
          refine G_iload C dL_acts_147 rfl ?_
          refine G_if_eq C 159 dL_acts_149 (by decide) (fun _ => ?_) (fun h => absurd h (by decide))
          refine G_bipush C (v := (-103)) dL_acts_159 (by decide) ?_
          refine G_icmp_ne C 220 dL_acts_161 (by decide) (fun h => absurd h (by decide)) (fun _ => ?_)
          refine G_aload_n C 0 dL_acts_164 rfl rfl ?_
          refine G_pcM C hI229.h0 (As := []) (rest := []) (p_stones  hI229 ) ca_X8_stones km_L_189 rfl rfl (by decide) (Nat.le_of_ble_eq_true rfl) (by decide) dL_acts_165 (fun vv231 gg230 qq232 => ?_)
          obtain ⟨rfl, hI233⟩ := qq232
          refine GW.topr (y := nI c8) (hlc) ?_
          refine G_iload C dL_acts_168 rfl ?_
          refine G_iload C dL_acts_170 rfl ?_
          refine G_if_eq C 179 dL_acts_172 (by decide) (fun _ => ?_) (fun h => absurd h (by decide))
          refine G_iconst C (v := 0) dL_acts_179 (by decide) ?_
          refine G_iadd C dL_acts_180 ?_
          refine G_icmp_ne C 220 dL_acts_181 (by decide) (fun c181 => False.elim (c181 (Int32.add_zero _).symm)) (fun c181 => ?_)
          refine G_iload C dL_acts_184 rfl ?_
          refine G_if_eq C 207 dL_acts_186 (by decide) (fun _ => ?_) (fun h => absurd h (by decide))
          refine G_aload_n C 0 dL_acts_207 rfl rfl ?_
          refine G_pcM C hI233.h0 (As := []) (rest := []) (p_milled  hI233 ) ca_X8_milled km_L_124 rfl rfl (by decide) (Nat.le_of_ble_eq_true rfl) (by decide) dL_acts_208 (fun vv235 gg234 qq236 => ?_)
          obtain ⟨rfl, hI237⟩ := qq236
          refine G_iload C dL_acts_211 rfl ?_
          refine G_icmp_ne C 220 dL_acts_213 (by decide) (fun c213 => False.elim (c213 rfl)) (fun c213 => ?_)
          refine G_iconst C (v := 1) dL_acts_216 (by decide) ?_
          refine G_goto C 221 dL_acts_217 (by decide) ?_
          refine GW.widen (c1 := 300) (s1 := 1800) (by decide) (by decide) ?_
          exact G_zret C hr rfl dL_acts_221 ⟨_, _, _, _, Or.inl ⟨rfl, rfl⟩, rfl, hI237⟩
      refine G_icmp_lt C 93 dL_acts_79 (by decide) (fun c79 => ?_) (fun c79 => ?_)
      · refine GW.widen (c1 := 20) (s1 := 120) (by decide) (by decide) ?_
        exact jn79 gg17 hI20
      · refine G_iload C dL_acts_82 rfl ?_
        refine G_if_ne C 222 dL_acts_84 (by decide) (fun c84 => ?_) (fun c84 => ?_)
        · refine GW.widen (c1 := 20) (s1 := 120) (by decide) (by decide) ?_
          exact jn77 gg17 hI20
        · refine G_iload_n C 3 dL_acts_87 rfl rfl ?_
          refine G_bipush C (v := 30) dL_acts_88 (by decide) ?_
          refine G_icmp_ge C 222 dL_acts_90 (by decide) (fun c90 => ?_) (fun c90 => ?_)
          · refine GW.widen (c1 := 20) (s1 := 120) (by decide) (by decide) ?_
            exact jn77 gg17 hI20
          · refine GW.widen (c1 := 20) (s1 := 120) (by decide) (by decide) ?_
            exact jn79 gg17 hI20
    · have hno : numF (nI d9) = 0 := num_off d9 hd9 (by omega)
      refine G_iload C dL_acts_38 rfl ?_
      refine G_iconst C (v := 2) dL_acts_40 (by decide) ?_
      have jn41 : ∀  (gj238 : Nat → va_E) (hj239 : PI L ad gj238 s sn k hs len tx) , GW L E 40 ad gj238 4 24 56 [(4, .int (nI d9)), (3, .int (nI w9)), (0, .ref (ad 0)), (1, .int x), (2, .int y)] [.int 1] := by
        intro  gj238 hj239
        refine G_istore C (lo' := [(5, .int 1), (4, .int (nI d9)), (3, .int (nI w9)), (0, .ref (ad 0)), (1, .int x), (2, .int y)]) dL_acts_56 (by decide) rfl ?_
        refine G_aload_n C 0 dL_acts_58 rfl rfl ?_
        refine G_pcM C hj239.h0 (As := []) (rest := []) (p_stones  hj239 ) ca_X8_stones km_L_189 rfl rfl (by decide) (Nat.le_of_ble_eq_true rfl) (by decide) dL_acts_59 (fun vv241 gg240 qq242 => ?_)
        obtain ⟨rfl, hI243⟩ := qq242
        refine GW.topr (y := nI c8) (hlc) ?_
        refine G_istore C (lo' := [(6, .int (nI c8)), (5, .int 1), (4, .int (nI d9)), (3, .int (nI w9)), (0, .ref (ad 0)), (1, .int x), (2, .int y)]) dL_acts_62 (by decide) rfl ?_
        refine G_aload_n C 0 dL_acts_64 rfl rfl ?_
        refine G_pcM C hI243.h0 (As := []) (rest := []) (p_milled  hI243 ) ca_X8_milled km_L_124 rfl rfl (by decide) (Nat.le_of_ble_eq_true rfl) (by decide) dL_acts_65 (fun vv245 gg244 qq246 => ?_)
        obtain ⟨rfl, hI247⟩ := qq246
        refine G_istore C (lo' := [(7, .int s.2.2), (6, .int (nI c8)), (5, .int 1), (4, .int (nI d9)), (3, .int (nI w9)), (0, .ref (ad 0)), (1, .int x), (2, .int y)]) dL_acts_68 (by decide) rfl ?_
        refine G_aload_n C 0 dL_acts_70 rfl rfl ?_
        refine G_pcM C hI247.h0 (As := []) (rest := []) (p_solutions  hI247 ) ca_X8_solutions km_L_159 rfl rfl (by decide) (Nat.le_of_ble_eq_true rfl) (by decide) dL_acts_71 (fun vv249 gg248 qq250 => ?_)
        obtain ⟨rfl, hI251⟩ := qq250
        refine GW.topr (y := nI (tA s.1)) (cu_e hk) ?_
        refine G_istore C (lo' := [(8, .int (nI (tA s.1))), (7, .int s.2.2), (6, .int (nI c8)), (5, .int 1), (4, .int (nI d9)), (3, .int (nI w9)), (0, .ref (ad 0)), (1, .int x), (2, .int y)]) dL_acts_74 (by decide) rfl ?_
        refine G_iload_n C 3 dL_acts_76 rfl rfl ?_
        have jn77 : ∀  (gj252 : Nat → va_E) (hj253 : PI L ad gj252 s sn k hs len tx) , GW L E 40 ad gj252 20 120 222 [(8, .int (nI (tA s.1))), (7, .int s.2.2), (6, .int (nI c8)), (5, .int 1), (4, .int (nI d9)), (3, .int (nI w9)), (0, .ref (ad 0)), (1, .int x), (2, .int y)] [] := by
          intro  gj252 hj253
          refine G_iconst C (v := 0) dL_acts_222 (by decide) ?_
          refine G_istore C (lo' := [(9, .int 0), (8, .int (nI (tA s.1))), (7, .int s.2.2), (6, .int (nI c8)), (5, .int 1), (4, .int (nI d9)), (3, .int (nI w9)), (0, .ref (ad 0)), (1, .int x), (2, .int y)]) dL_acts_223 (by decide) rfl ?_
          refine G_iload C dL_acts_225 rfl ?_
          refine G_bipush C (v := 59) dL_acts_227 (by decide) ?_
          refine G_icmp_ge C 285 dL_acts_229 (by decide) (fun h => absurd h (by decide)) (fun _ => ?_)
          refine G_iload C dL_acts_232 rfl ?_
          refine G_if_ne C 285 dL_acts_234 (by decide) (fun _ => ?_) (fun h => absurd h (by decide))
          refine G_iload C dL_acts_285 rfl ?_
          refine G_if_ne C 303 dL_acts_287 (by decide) (fun _ => ?_) (fun h => absurd h (by decide))
          refine G_iconst C (v := 0) dL_acts_303 (by decide) ?_
          refine G_istore C (lo' := [(9, .int 0), (8, .int (nI (tA s.1))), (7, .int s.2.2), (6, .int (nI c8)), (5, .int 1), (4, .int (nI d9)), (3, .int (nI w9)), (0, .ref (ad 0)), (1, .int x), (2, .int y)]) dL_acts_304 (by decide) rfl ?_
          refine G_iload C dL_acts_306 rfl ?_
          refine G_if_eq C 320 dL_acts_308 (by decide) (fun _ => ?_) (fun h => absurd h (by decide))
          refine G_iconst C (v := 0) dL_acts_320 (by decide) ?_
          refine G_istore C (lo' := [(10, .int 0), (9, .int 0), (8, .int (nI (tA s.1))), (7, .int s.2.2), (6, .int (nI c8)), (5, .int 1), (4, .int (nI d9)), (3, .int (nI w9)), (0, .ref (ad 0)), (1, .int x), (2, .int y)]) dL_acts_321 (by decide) rfl ?_
          refine G_iload_n C 3 dL_acts_323 rfl rfl ?_
          refine G_bipush C (v := 13) dL_acts_324 (by decide) ?_
          refine G_icmp_ge C 413 dL_acts_326 (by decide) (fun c326 => ?_) (fun c326 => ?_)
          · refine G_iload_n C 3 dL_acts_413 rfl rfl ?_
            refine G_bipush C (v := 32) dL_acts_414 (by decide) ?_
            refine G_icmp_ge C 738 dL_acts_416 (by decide) (fun c416 => ?_) (fun c416 => ?_)
            · refine G_aload_n C 0 dL_acts_738 rfl rfl ?_
              refine G_iload_n C 1 dL_acts_739 rfl rfl ?_
              refine G_iconst C (v := 5) dL_acts_740 (by decide) ?_
              refine G_ishr C dL_acts_741 ?_
              refine G_iload_n C 2 dL_acts_742 rfl rfl ?_
              refine G_callS C (As := [.ref (ad 0), .int (x >>> ((5 : Int32) &&& 31)), .int y]) (rest := []) (c_L_reads  hj253 ) ca_L_reads km_L_219 rfl rfl (by decide) (Nat.le_of_ble_eq_true rfl) (by decide) dL_acts_743 (fun vv255 gg254 qq256 => ?_)
              obtain ⟨s2, hs2, t2, hrd, rfl, hI257⟩ := qq256
              refine GW.widen (c1 := 300) (s1 := 1800) (by decide) (by decide) ?_
              exact G_zret C hr rfl dL_acts_746 ⟨_, _, _, _, hrd, rfl, hI257⟩
            · refine G_iload_n C 3 dL_acts_419 rfl rfl ?_
              refine G_bipush C (v := 26) dL_acts_420 (by decide) ?_
              refine G_icmp_ge C 429 dL_acts_422 (by decide) (fun c422 => ?_) (fun c422 => ?_)
              · refine G_iconst C (v := 0) dL_acts_429 (by decide) ?_
                refine G_istore C (lo' := [(11, .int 0), (10, .int 0), (9, .int 0), (8, .int (nI (tA s.1))), (7, .int s.2.2), (6, .int (nI c8)), (5, .int 1), (4, .int (nI d9)), (3, .int (nI w9)), (0, .ref (ad 0)), (1, .int x), (2, .int y)]) dL_acts_430 (by decide) rfl ?_
                refine G_iload C dL_acts_432 rfl ?_
                refine G_if_eq C 446 dL_acts_434 (by decide) (fun _ => ?_) (fun h => absurd h (by decide))
                refine G_lconst C (v := 0) dL_acts_446 (by decide) ?_
                refine G_lstore C (lo' := [(12, .long 0), (11, .int 0), (10, .int 0), (9, .int 0), (8, .int (nI (tA s.1))), (7, .int s.2.2), (6, .int (nI c8)), (5, .int 1), (4, .int (nI d9)), (3, .int (nI w9)), (0, .ref (ad 0)), (1, .int x), (2, .int y)]) dL_acts_447 (by decide) rfl ?_
                refine G_iload C dL_acts_449 rfl ?_
                refine G_if_eq C 463 dL_acts_451 (by decide) (fun _ => ?_) (fun h => absurd h (by decide))
                refine G_lconst C (v := 0) dL_acts_463 (by decide) ?_
                refine G_lstore C (lo' := [(14, .long 0), (12, .long 0), (11, .int 0), (10, .int 0), (9, .int 0), (8, .int (nI (tA s.1))), (7, .int s.2.2), (6, .int (nI c8)), (5, .int 1), (4, .int (nI d9)), (3, .int (nI w9)), (0, .ref (ad 0)), (1, .int x), (2, .int y)]) dL_acts_464 (by decide) rfl ?_
                refine G_iload C dL_acts_466 rfl ?_
                refine G_if_ne C 477 dL_acts_468 (by decide) (fun h => absurd h (by decide)) (fun _ => ?_)
                refine G_ldc2 C dL_acts_471 kl_L_136 ?_
                refine G_goto C 507 dL_acts_474 (by decide) ?_
                refine G_lstore C (lo' := [(16, .long (-1)), (14, .long 0), (12, .long 0), (11, .int 0), (10, .int 0), (9, .int 0), (8, .int (nI (tA s.1))), (7, .int s.2.2), (6, .int (nI c8)), (5, .int 1), (4, .int (nI d9)), (3, .int (nI w9)), (0, .ref (ad 0)), (1, .int x), (2, .int y)]) dL_acts_507 (by decide) rfl ?_
                refine G_iload C dL_acts_509 rfl ?_
                refine G_if_eq C 523 dL_acts_511 (by decide) (fun _ => ?_) (fun h => absurd h (by decide))
                refine G_aload_n C 0 dL_acts_523 rfl rfl ?_
                refine G_iload C dL_acts_524 rfl ?_
                refine G_callSH C (As := [.ref (ad 0), .int (nI d9)]) (rest := []) (v_millBackO  hj253 hno) ca_L_millBack km_L_217 rfl rfl (by decide) (Nat.le_of_ble_eq_true rfl) (by decide) dL_acts_526 (fun vv259 gg258 qq260 => ?_)
                obtain ⟨rfl, hI261⟩ := qq260
                refine G_lstore C (lo' := [(18, .long (-102)), (16, .long (-1)), (14, .long 0), (12, .long 0), (11, .int 0), (10, .int 0), (9, .int 0), (8, .int (nI (tA s.1))), (7, .int s.2.2), (6, .int (nI c8)), (5, .int 1), (4, .int (nI d9)), (3, .int (nI w9)), (0, .ref (ad 0)), (1, .int x), (2, .int y)]) dL_acts_529 (by decide) rfl ?_
                refine G_iload C dL_acts_531 rfl ?_
                refine G_if_ne C 543 dL_acts_533 (by decide) (fun _ => ?_) (fun h => absurd h (by decide))
                refine G_lload C dL_acts_543 rfl ?_
                refine G_iload C dL_acts_545 rfl ?_
                refine G_if_eq C 555 dL_acts_547 (by decide) (fun h => absurd h (by decide)) (fun _ => ?_)
                refine G_bipush C (v := (-102)) dL_acts_550 (by decide) ?_
                refine G_goto C 557 dL_acts_552 (by decide) ?_
                refine G_i2l C (v := (-102)) dL_acts_557 (by decide) ?_
                refine G_lc_ne C 591 dL_acts_558 dL_acts_559 (by decide) (fun h => absurd h (by decide)) (fun _ => ?_)
                refine G_aload_n C 0 dL_acts_562 rfl rfl ?_
                refine G_pcM C hI261.h0 (As := []) (rest := []) (p_milled  hI261 ) ca_X8_milled km_L_124 rfl rfl (by decide) (Nat.le_of_ble_eq_true rfl) (by decide) dL_acts_563 (fun vv263 gg262 qq264 => ?_)
                obtain ⟨rfl, hI265⟩ := qq264
                refine G_iload C dL_acts_566 rfl ?_
                refine G_icmp_ne C 591 dL_acts_568 (by decide) (fun c568 => False.elim (c568 rfl)) (fun c568 => ?_)
                refine G_iload C dL_acts_571 rfl ?_
                refine G_if_eq C 587 dL_acts_573 (by decide) (fun _ => ?_) (fun h => absurd h (by decide))
                refine G_iconst C (v := 1) dL_acts_587 (by decide) ?_
                refine G_goto C 592 dL_acts_588 (by decide) ?_
                refine GW.widen (c1 := 300) (s1 := 1800) (by decide) (by decide) ?_
                exact G_zret C hr rfl dL_acts_592 ⟨_, _, _, _, Or.inl ⟨rfl, rfl⟩, rfl, hI265⟩
              · refine G_iconst C (v := 1) dL_acts_425 (by decide) ?_
                refine G_goto C 430 dL_acts_426 (by decide) ?_
                refine G_istore C (lo' := [(11, .int 1), (10, .int 0), (9, .int 0), (8, .int (nI (tA s.1))), (7, .int s.2.2), (6, .int (nI c8)), (5, .int 1), (4, .int (nI d9)), (3, .int (nI w9)), (0, .ref (ad 0)), (1, .int x), (2, .int y)]) dL_acts_430 (by decide) rfl ?_
                refine G_iload C dL_acts_432 rfl ?_
                refine G_if_eq C 446 dL_acts_434 (by decide) (fun _ => ?_) (fun h => absurd h (by decide))
                refine G_lconst C (v := 0) dL_acts_446 (by decide) ?_
                refine G_lstore C (lo' := [(12, .long 0), (11, .int 1), (10, .int 0), (9, .int 0), (8, .int (nI (tA s.1))), (7, .int s.2.2), (6, .int (nI c8)), (5, .int 1), (4, .int (nI d9)), (3, .int (nI w9)), (0, .ref (ad 0)), (1, .int x), (2, .int y)]) dL_acts_447 (by decide) rfl ?_
                refine G_iload C dL_acts_449 rfl ?_
                refine G_if_eq C 463 dL_acts_451 (by decide) (fun _ => ?_) (fun h => absurd h (by decide))
                refine G_lconst C (v := 0) dL_acts_463 (by decide) ?_
                refine G_lstore C (lo' := [(14, .long 0), (12, .long 0), (11, .int 1), (10, .int 0), (9, .int 0), (8, .int (nI (tA s.1))), (7, .int s.2.2), (6, .int (nI c8)), (5, .int 1), (4, .int (nI d9)), (3, .int (nI w9)), (0, .ref (ad 0)), (1, .int x), (2, .int y)]) dL_acts_464 (by decide) rfl ?_
                refine G_iload C dL_acts_466 rfl ?_
                refine G_if_ne C 477 dL_acts_468 (by decide) (fun h => absurd h (by decide)) (fun _ => ?_)
                refine G_ldc2 C dL_acts_471 kl_L_136 ?_
                refine G_goto C 507 dL_acts_474 (by decide) ?_
                refine G_lstore C (lo' := [(16, .long (-1)), (14, .long 0), (12, .long 0), (11, .int 1), (10, .int 0), (9, .int 0), (8, .int (nI (tA s.1))), (7, .int s.2.2), (6, .int (nI c8)), (5, .int 1), (4, .int (nI d9)), (3, .int (nI w9)), (0, .ref (ad 0)), (1, .int x), (2, .int y)]) dL_acts_507 (by decide) rfl ?_
                refine G_iload C dL_acts_509 rfl ?_
                refine G_if_eq C 523 dL_acts_511 (by decide) (fun h => absurd h (by decide)) (fun _ => ?_)
                refine G_aload_n C 0 dL_acts_514 rfl rfl ?_
                refine G_iload C dL_acts_515 rfl ?_
                refine G_callSH C (As := [.ref (ad 0), .int (nI d9)]) (rest := []) (v_millO  hj253 hno) ca_L_mill km_L_215 rfl rfl (by decide) (Nat.le_of_ble_eq_true rfl) (by decide) dL_acts_517 (fun vv267 gg266 qq268 => ?_)
                obtain ⟨rfl, hI269⟩ := qq268
                refine G_goto C 529 dL_acts_520 (by decide) ?_
                refine G_lstore C (lo' := [(18, .long (-102)), (16, .long (-1)), (14, .long 0), (12, .long 0), (11, .int 1), (10, .int 0), (9, .int 0), (8, .int (nI (tA s.1))), (7, .int s.2.2), (6, .int (nI c8)), (5, .int 1), (4, .int (nI d9)), (3, .int (nI w9)), (0, .ref (ad 0)), (1, .int x), (2, .int y)]) dL_acts_529 (by decide) rfl ?_
                refine G_iload C dL_acts_531 rfl ?_
                refine G_if_ne C 543 dL_acts_533 (by decide) (fun _ => ?_) (fun h => absurd h (by decide))
                refine G_lload C dL_acts_543 rfl ?_
                refine G_iload C dL_acts_545 rfl ?_
                refine G_if_eq C 555 dL_acts_547 (by decide) (fun h => absurd h (by decide)) (fun _ => ?_)
                refine G_bipush C (v := (-102)) dL_acts_550 (by decide) ?_
                refine G_goto C 557 dL_acts_552 (by decide) ?_
                refine G_i2l C (v := (-102)) dL_acts_557 (by decide) ?_
                refine G_lc_ne C 591 dL_acts_558 dL_acts_559 (by decide) (fun h => absurd h (by decide)) (fun _ => ?_)
                refine G_aload_n C 0 dL_acts_562 rfl rfl ?_
                refine G_pcM C hI269.h0 (As := []) (rest := []) (p_milled  hI269 ) ca_X8_milled km_L_124 rfl rfl (by decide) (Nat.le_of_ble_eq_true rfl) (by decide) dL_acts_563 (fun vv271 gg270 qq272 => ?_)
                obtain ⟨rfl, hI273⟩ := qq272
                refine G_iload C dL_acts_566 rfl ?_
                refine G_icmp_ne C 591 dL_acts_568 (by decide) (fun c568 => False.elim (c568 rfl)) (fun c568 => ?_)
                refine G_iload C dL_acts_571 rfl ?_
                refine G_if_eq C 587 dL_acts_573 (by decide) (fun _ => ?_) (fun h => absurd h (by decide))
                refine G_iconst C (v := 1) dL_acts_587 (by decide) ?_
                refine G_goto C 592 dL_acts_588 (by decide) ?_
                refine GW.widen (c1 := 300) (s1 := 1800) (by decide) (by decide) ?_
                exact G_zret C hr rfl dL_acts_592 ⟨_, _, _, _, Or.inl ⟨rfl, rfl⟩, rfl, hI273⟩
          · refine G_aload_n C 0 dL_acts_329 rfl rfl ?_
            refine G_iload C dL_acts_330 rfl ?_
            refine G_callSH C (As := [.ref (ad 0), .int (nI d9)]) (rest := []) (v_takeO  hj253 hno) ca_L_take km_L_213 rfl rfl (by decide) (Nat.le_of_ble_eq_true rfl) (by decide) dL_acts_332 (fun vv275 gg274 qq276 => ?_)
            obtain ⟨rfl, hI277⟩ := qq276
            refine G_istore C (lo' := [(11, .int (-102)), (10, .int 0), (9, .int 0), (8, .int (nI (tA s.1))), (7, .int s.2.2), (6, .int (nI c8)), (5, .int 1), (4, .int (nI d9)), (3, .int (nI w9)), (0, .ref (ad 0)), (1, .int x), (2, .int y)]) dL_acts_335 (by decide) rfl ?_
            refine G_iload C dL_acts_337 rfl ?_
            refine G_iload C dL_acts_339 rfl ?_
            refine G_if_eq C 349 dL_acts_341 (by decide) (fun h => absurd h (by decide)) (fun _ => ?_)
            refine G_bipush C (v := (-102)) dL_acts_344 (by decide) ?_
            refine G_goto C 361 dL_acts_346 (by decide) ?_
            refine G_icmp_ne C 411 dL_acts_361 (by decide) (fun h => absurd h (by decide)) (fun _ => ?_)
            refine G_aload_n C 0 dL_acts_364 rfl rfl ?_
            refine G_pcM C hI277.h0 (As := []) (rest := []) (p_stones  hI277 ) ca_X8_stones km_L_189 rfl rfl (by decide) (Nat.le_of_ble_eq_true rfl) (by decide) dL_acts_365 (fun vv279 gg278 qq280 => ?_)
            obtain ⟨rfl, hI281⟩ := qq280
            refine GW.topr (y := nI c8) (hlc) ?_
            refine G_iload C dL_acts_368 rfl ?_
            refine G_iload C dL_acts_370 rfl ?_
            refine G_if_eq C 379 dL_acts_372 (by decide) (fun _ => ?_) (fun h => absurd h (by decide))
            refine G_iconst C (v := 0) dL_acts_379 (by decide) ?_
            refine G_isub C dL_acts_380 ?_
            refine G_icmp_ne C 411 dL_acts_381 (by decide) (fun c381 => False.elim (c381 (Int32.sub_zero _).symm)) (fun c381 => ?_)
            refine G_iload C dL_acts_384 rfl ?_
            refine G_if_eq C 407 dL_acts_386 (by decide) (fun _ => ?_) (fun h => absurd h (by decide))
            refine G_iconst C (v := 1) dL_acts_407 (by decide) ?_
            refine G_goto C 412 dL_acts_408 (by decide) ?_
            refine GW.widen (c1 := 300) (s1 := 1800) (by decide) (by decide) ?_
            exact G_zret C hr rfl dL_acts_412 ⟨_, _, _, _, Or.inl ⟨rfl, rfl⟩, rfl, hI281⟩
        refine G_bipush C (v := 10) dL_acts_77 (by decide) ?_
        have jn79 : ∀  (gj282 : Nat → va_E) (hj283 : PI L ad gj282 s sn k hs len tx) , GW L E 40 ad gj282 20 120 93 [(8, .int (nI (tA s.1))), (7, .int s.2.2), (6, .int (nI c8)), (5, .int 1), (4, .int (nI d9)), (3, .int (nI w9)), (0, .ref (ad 0)), (1, .int x), (2, .int y)] [] := by
          intro  gj282 hj283
          refine G_iload C dL_acts_93 rfl ?_
          refine G_if_eq C 102 dL_acts_95 (by decide) (fun h => absurd h (by decide)) (fun _ => ?_)
          refine G_iconst C (v := 0) dL_acts_98 (by decide) ?_
          refine G_goto C 108 dL_acts_99 (by decide) ?_
          refine G_istore C (lo' := [(9, .int 0), (8, .int (nI (tA s.1))), (7, .int s.2.2), (6, .int (nI c8)), (5, .int 1), (4, .int (nI d9)), (3, .int (nI w9)), (0, .ref (ad 0)), (1, .int x), (2, .int y)]) dL_acts_108 (by decide) rfl ?_
          refine G_aload_n C 0 dL_acts_110 rfl rfl ?_
          refine G_iload C dL_acts_111 rfl ?_
          refine G_callSH C (As := [.ref (ad 0), .int (nI d9)]) (rest := []) (v_layO  hj283 hno) ca_L_lay km_L_211 rfl rfl (by decide) (Nat.le_of_ble_eq_true rfl) (by decide) dL_acts_113 (fun vv285 gg284 qq286 => ?_)
          obtain ⟨rfl, hI287⟩ := qq286
          refine G_istore C (lo' := [(10, .int (-102)), (9, .int 0), (8, .int (nI (tA s.1))), (7, .int s.2.2), (6, .int (nI c8)), (5, .int 1), (4, .int (nI d9)), (3, .int (nI w9)), (0, .ref (ad 0)), (1, .int x), (2, .int y)]) dL_acts_116 (by decide) rfl ?_
          refine G_iload C dL_acts_118 rfl ?_
          refine G_if_ne C 132 dL_acts_120 (by decide) (fun _ => ?_) (fun h => absurd h (by decide))
          refine G_iconst C (v := 0) dL_acts_132 (by decide) ?_
          refine G_istore C (lo' := [(11, .int 0), (10, .int (-102)), (9, .int 0), (8, .int (nI (tA s.1))), (7, .int s.2.2), (6, .int (nI c8)), (5, .int 1), (4, .int (nI d9)), (3, .int (nI w9)), (0, .ref (ad 0)), (1, .int x), (2, .int y)]) dL_acts_133 (by decide) rfl ?_
          refine G_iload C dL_acts_135 rfl ?_
          refine G_iload C dL_acts_137 rfl ?_
          refine G_if_eq C 147 dL_acts_139 (by decide) (fun h => absurd h (by decide)) (fun _ => ?_)
          refine G_bipush C (v := (-102)) dL_acts_142 (by decide) ?_
          refine G_goto C 161 dL_acts_144 (by decide) ?_
          refine G_icmp_ne C 220 dL_acts_161 (by decide) (fun h => absurd h (by decide)) (fun _ => ?_)
          refine G_aload_n C 0 dL_acts_164 rfl rfl ?_
          refine G_pcM C hI287.h0 (As := []) (rest := []) (p_stones  hI287 ) ca_X8_stones km_L_189 rfl rfl (by decide) (Nat.le_of_ble_eq_true rfl) (by decide) dL_acts_165 (fun vv289 gg288 qq290 => ?_)
          obtain ⟨rfl, hI291⟩ := qq290
          refine GW.topr (y := nI c8) (hlc) ?_
          refine G_iload C dL_acts_168 rfl ?_
          refine G_iload C dL_acts_170 rfl ?_
          refine G_if_eq C 179 dL_acts_172 (by decide) (fun _ => ?_) (fun h => absurd h (by decide))
          refine G_iconst C (v := 0) dL_acts_179 (by decide) ?_
          refine G_iadd C dL_acts_180 ?_
          refine G_icmp_ne C 220 dL_acts_181 (by decide) (fun c181 => False.elim (c181 (Int32.add_zero _).symm)) (fun c181 => ?_)
          refine G_iload C dL_acts_184 rfl ?_
          refine G_if_eq C 207 dL_acts_186 (by decide) (fun _ => ?_) (fun h => absurd h (by decide))
          refine G_aload_n C 0 dL_acts_207 rfl rfl ?_
          refine G_pcM C hI291.h0 (As := []) (rest := []) (p_milled  hI291 ) ca_X8_milled km_L_124 rfl rfl (by decide) (Nat.le_of_ble_eq_true rfl) (by decide) dL_acts_208 (fun vv293 gg292 qq294 => ?_)
          obtain ⟨rfl, hI295⟩ := qq294
          refine G_iload C dL_acts_211 rfl ?_
          refine G_icmp_ne C 220 dL_acts_213 (by decide) (fun c213 => False.elim (c213 rfl)) (fun c213 => ?_)
          refine G_iconst C (v := 1) dL_acts_216 (by decide) ?_
          refine G_goto C 221 dL_acts_217 (by decide) ?_
          refine GW.widen (c1 := 300) (s1 := 1800) (by decide) (by decide) ?_
          exact G_zret C hr rfl dL_acts_221 ⟨_, _, _, _, Or.inl ⟨rfl, rfl⟩, rfl, hI295⟩
        refine G_icmp_lt C 93 dL_acts_79 (by decide) (fun c79 => ?_) (fun c79 => ?_)
        · refine GW.widen (c1 := 20) (s1 := 120) (by decide) (by decide) ?_
          exact jn79 gg248 hI251
        · refine G_iload C dL_acts_82 rfl ?_
          refine G_if_ne C 222 dL_acts_84 (by decide) (fun c84 => ?_) (fun c84 => ?_)
          · refine GW.widen (c1 := 20) (s1 := 120) (by decide) (by decide) ?_
            exact jn77 gg248 hI251
          · refine G_iload_n C 3 dL_acts_87 rfl rfl ?_
            refine G_bipush C (v := 30) dL_acts_88 (by decide) ?_
            refine G_icmp_ge C 222 dL_acts_90 (by decide) (fun c90 => ?_) (fun c90 => ?_)
            · refine GW.widen (c1 := 20) (s1 := 120) (by decide) (by decide) ?_
              exact jn77 gg248 hI251
            · refine GW.widen (c1 := 20) (s1 := 120) (by decide) (by decide) ?_
              exact jn79 gg248 hI251
      refine G_icmp_lt C 51 dL_acts_41 (by decide) (fun c41 => ?_) (fun c41 => ?_)
      · refine G_iconst C (v := 1) dL_acts_51 (by decide) ?_
        refine G_goto C 56 dL_acts_52 (by decide) ?_
        exact jn41 gj7 hj8
      · refine G_iload C dL_acts_44 rfl ?_
        refine G_bipush C (v := 60) dL_acts_46 (by decide) ?_
        refine G_icmp_le C 55 dL_acts_48 (by decide) (fun c48 => False.elim (hin ⟨Nat.le_of_not_lt fun z => c41 ((cI_lt (a := d9) (b := 2) rfl rfl (by omega) (by omega)).mpr z), nI_lep (a := 60) (b := d9) (by omega) (by omega) c48⟩)) (fun c48 => ?_)
        refine G_iconst C (v := 1) dL_acts_51 (by decide) ?_
        refine G_goto C 56 dL_acts_52 (by decide) ?_
        exact jn41 gj7 hj8
  refine G_if_ne C 28 dL_acts_16 (by decide) (fun c16 => ?_) (fun c16 => ?_)
  · refine G_iconst C (v := 2) dL_acts_28 (by decide) ?_
    refine G_iload_n C 2 dL_acts_29 rfl rfl ?_
    refine G_bipush C (v := 59) dL_acts_30 (by decide) ?_
    refine G_callS C (As := [.int y, .int 59]) (rest := [.int 2]) (c_L_low (n := 59)  (by omega) (by omega)) ca_L_low km_L_156 rfl rfl (by decide) (Nat.le_of_ble_eq_true rfl) (by decide) dL_acts_32 (fun vv297 gg296 qq298 => ?_)
    obtain ⟨e9, he9, rfl, rfl⟩ := qq298
    refine G_iadd C dL_acts_35 ?_
    refine GW.topr (cI_add (a := 2) (b := e9) rfl rfl) ?_
    refine GW.widen (c1 := 4) (s1 := 24) (by decide) (by decide) ?_
    exact jn16 (2 + e9) G hI (by omega)
  · refine G_iload_n C 2 dL_acts_19 rfl rfl ?_
    refine G_bipush C (v := 64) dL_acts_20 (by decide) ?_
    refine G_callS C (As := [.int y, .int 64]) (rest := []) (c_L_low (n := 64)  (by omega) (by omega)) ca_L_low km_L_156 rfl rfl (by decide) (Nat.le_of_ble_eq_true rfl) (by decide) dL_acts_22 (fun vv300 gg299 qq301 => ?_)
    obtain ⟨b9, hb9, rfl, rfl⟩ := qq301
    refine G_goto C 36 dL_acts_25 (by decide) ?_
    refine GW.widen (c1 := 4) (s1 := 24) (by decide) (by decide) ?_
    exact jn16 b9 G hI (by omega)

