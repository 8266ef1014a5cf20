abbrev rm_L_reads : Room := ({ frames := 9, cells := 170, slots := 1020, locals := 182 } : Room)
set_option maxRecDepth 100000 in
set_option maxHeartbeats 4000000 in
theorem c_L_reads {L : GL} {ad : Nat → Nat} {G : Nat → va_E} {s : HE} {sn : Int32} {k : HE} {hs : List HE} {len : Nat} {tx : Nat → Int32} {x y : Int32}   (hI : PI L ad G s sn k hs len tx) : GM L yL_reads cL_reads 14 ((some .boolean)) rm_L_reads 40 ad G [.ref (ad 0), .int x, .int y] (fun vo G' => ∃ (s2 : HE) (hs2 : List HE) (t2 : Nat → Int32), ((s = s2 ∧ hs = hs2) ∨ hs2 = hpush hs s) ∧ vo = some (.int 1) ∧ PI L ad G' s2 sn k hs2 0 t2) := by
  refine GM.of (own := RL) (lo := [(0, .ref (ad 0)), (1, .int x), (2, .int y)]) (by decide +kernel) rfl rfl (Nat.le_of_ble_eq_true rfl) (fun E C hr => ?_)
  refine G_iload_n C 1 dL_reads_0 rfl rfl ?_
  refine G_bipush C (v := 13) dL_reads_1 (by decide) ?_
  have hk := hI.g.1
  have hL := hI.g.2.1
  have h4 := hI.g.2.2.2.1
  have h60 := hI.g.2.2.2.2.1
  refine G_callS C (As := [.int x, .int 13]) (rest := []) (c_L_low (n := 13)  (by omega) (by omega)) ca_L_low km_L_156 rfl rfl (by decide) (Nat.le_of_ble_eq_true rfl) (by decide) dL_reads_3 (fun vv2 gg1 qq3 => ?_)
  obtain ⟨n9, hn9, rfl, rfl⟩ := qq3
  refine G_istore_n C 3 (lo' := [(3, .int (nI n9)), (0, .ref (ad 0)), (1, .int x), (2, .int y)]) dL_reads_6 rfl (by decide) rfl ?_
  refine G_aload_n C 0 dL_reads_7 rfl rfl ?_
  refine G_pcM C hI.h0 (As := []) (rest := []) (p_clearText  hI ) ca_X8_clearText km_L_199 rfl rfl (by decide) (Nat.le_of_ble_eq_true rfl) (by decide) dL_reads_8 (fun vv5 gg4 qq6 => ?_)
  obtain ⟨rfl, hI7⟩ := qq6
  refine G_if_lt C 18 dL_reads_11 (by decide) (fun c11 => False.elim (nI_pos (by omega) c11)) (fun c11 => ?_)
  refine G_iconst C (v := 1) dL_reads_14 (by decide) ?_
  refine G_goto C 19 dL_reads_15 (by decide) ?_
  refine G_istore C (lo' := [(4, .int 1), (3, .int (nI n9)), (0, .ref (ad 0)), (1, .int x), (2, .int y)]) dL_reads_19 (by decide) rfl ?_
  refine G_iload_n C 1 dL_reads_21 rfl rfl ?_
  refine G_bipush C (v := 21) dL_reads_22 (by decide) ?_
  refine G_ishr C dL_reads_24 ?_
  refine G_bipush C (v := 9) dL_reads_25 (by decide) ?_
  refine G_callS C (As := [.int (x >>> ((21 : Int32) &&& 31)), .int 9]) (rest := []) (c_L_low (n := 9)  (by omega) (by omega)) ca_L_low km_L_156 rfl rfl (by decide) (Nat.le_of_ble_eq_true rfl) (by decide) dL_reads_27 (fun vv9 gg8 qq10 => ?_)
  obtain ⟨b9, hb9, rfl, rfl⟩ := qq10
  have jn30 : ∀ (od : Int32) (gj11 : Nat → va_E) (hj12 : PI L ad gj11 s sn k hs 0 tx) , GW L E 40 ad gj11 4 24 38 [(4, .int 1), (3, .int (nI n9)), (0, .ref (ad 0)), (1, .int x), (2, .int y)] [.int od] := by
    intro od gj11 hj12
    refine G_istore C (lo' := [(5, .int od), (4, .int 1), (3, .int (nI n9)), (0, .ref (ad 0)), (1, .int x), (2, .int y)]) dL_reads_38 (by decide) rfl ?_
    refine G_iconst C (v := 2) dL_reads_40 (by decide) ?_
    refine G_iload_n C 2 dL_reads_41 rfl rfl ?_
    refine G_bipush C (v := 59) dL_reads_42 (by decide) ?_
    refine G_callS C (As := [.int y, .int 59]) (rest := [.int 2]) (c_L_low (n := 59)  (by omega) (by omega)) ca_L_low km_L_156 rfl rfl (by decide) (Nat.le_of_ble_eq_true rfl) (by decide) dL_reads_44 (fun vv14 gg13 qq15 => ?_)
    obtain ⟨e9, he9, rfl, rfl⟩ := qq15
    refine G_iadd C dL_reads_47 ?_
    refine GW.topr (cI_add (a := 2) (b := e9) rfl rfl) ?_
    refine G_istore C (lo' := [(6, .int (nI (2 + e9))), (5, .int od), (4, .int 1), (3, .int (nI n9)), (0, .ref (ad 0)), (1, .int x), (2, .int y)]) dL_reads_48 (by decide) rfl ?_
    refine G_iconst C (v := 0) dL_reads_50 (by decide) ?_
    refine G_istore C (lo' := [(7, .int 0), (6, .int (nI (2 + e9))), (5, .int od), (4, .int 1), (3, .int (nI n9)), (0, .ref (ad 0)), (1, .int x), (2, .int y)]) dL_reads_51 (by decide) rfl ?_
    have key53 : ∀ (n : Nat) (kk dd m : Nat) (t9 : Nat → Int32) (G53 : Nat → va_E) (hI53 : PI L ad G53 s sn k hs m t9) (hn : n9 - kk < n) (hkk : kk ≤ n9) (hdd : dd < 64) (ht : txN t9 kk m), GW L E 40 ad G53 (10 + 10 * kk) (60 + 60 * kk) 53 [(7, .int (nI kk)), (6, .int (nI dd)), (5, .int od), (4, .int 1), (3, .int (nI n9)), (0, .ref (ad 0)), (1, .int x), (2, .int y)] [] := by
      intro n
      induction n with
      | zero =>
        intro kk dd m t9 G53 hI53 hn hkk hdd ht
        exact absurd hn (Nat.not_lt_zero _)
      | succ n ih53 =>
        intro kk dd m t9 G53 hI53 hn hkk hdd ht
        have hm4 := txN_le kk m ht
        refine G_iload C dL_reads_53 rfl ?_
        refine G_iload_n C 3 dL_reads_55 rfl rfl ?_
        refine G_icmp_ge C 304 dL_reads_56 (by decide) (fun c56 => ?_) (fun c56 => ?_)
        · have c56n : n9 ≤ kk := (cI_le (a := n9) (b := kk) rfl rfl (by omega) (by omega)).mp c56
          have hkn : kk = n9 := by omega
          subst hkn
          by_cases h0 : (rdR s m t9).2.2.1 = 0
          · have hrn := rd_n (s := s) (by omega) ht h0
            refine G_aload_n C 0 dL_reads_304 rfl rfl ?_
            refine G_pcM C hI53.h0 (As := []) (rest := []) (p_states  hI53 ) ca_X8_states km_L_162 rfl rfl (by decide) (Nat.le_of_ble_eq_true rfl) ⟨by show 10 + 10 * kk + 0 ≤ 170; omega, by show 60 + 60 * kk + 0 ≤ 1020; omega⟩ dL_reads_305 (fun vv17 gg16 qq18 => ?_)
            obtain ⟨rfl, hI19⟩ := qq18
            refine G_istore C (lo' := [(7, .int (nI hs.length)), (6, .int (nI dd)), (5, .int od), (4, .int 1), (3, .int (nI kk)), (0, .ref (ad 0)), (1, .int x), (2, .int y)]) dL_reads_308 (by decide) rfl ?_
            refine G_aload_n C 0 dL_reads_310 rfl rfl ?_
            refine G_callSH C (As := [.ref (ad 0)]) (rest := []) (v_faultPositionN  hI19 h0) ca_L_faultPosition km_L_202 rfl rfl (by decide) (Nat.le_of_ble_eq_true rfl) ⟨by show 10 + 10 * kk + 0 + 1 ≤ 170; omega, by show 60 + 60 * kk + 0 + 6 ≤ 1020; omega⟩ dL_reads_311 (fun vv21 gg20 qq22 => ?_)
            obtain ⟨rfl, hI23⟩ := qq22
            refine G_istore C (lo' := [(8, .int (-104)), (7, .int (nI hs.length)), (6, .int (nI dd)), (5, .int od), (4, .int 1), (3, .int (nI kk)), (0, .ref (ad 0)), (1, .int x), (2, .int y)]) dL_reads_314 (by decide) rfl ?_
            refine G_aload_n C 0 dL_reads_316 rfl rfl ?_
            refine G_callSH C (As := [.ref (ad 0)]) (rest := []) (v_faultReasonN  hI23 h0) ca_L_faultReason km_L_205 rfl rfl (by decide) (Nat.le_of_ble_eq_true rfl) ⟨by show 10 + 10 * kk + 0 + 1 + 1 ≤ 170; omega, by show 60 + 60 * kk + 0 + 6 + 6 ≤ 1020; omega⟩ dL_reads_317 (fun vv25 gg24 qq26 => ?_)
            obtain ⟨rfl, hI27⟩ := qq26
            refine G_istore C (lo' := [(9, .int (-104)), (8, .int (-104)), (7, .int (nI hs.length)), (6, .int (nI dd)), (5, .int od), (4, .int 1), (3, .int (nI kk)), (0, .ref (ad 0)), (1, .int x), (2, .int y)]) dL_reads_320 (by decide) rfl ?_
            refine G_aload_n C 0 dL_reads_322 rfl rfl ?_
            refine G_callSH C (As := [.ref (ad 0)]) (rest := []) (v_faultCauseN  hI27 h0) ca_L_faultCause km_L_207 rfl rfl (by decide) (Nat.le_of_ble_eq_true rfl) ⟨by show 10 + 10 * kk + 0 + 1 + 1 + 1 ≤ 170; omega, by show 60 + 60 * kk + 0 + 6 + 6 + 6 ≤ 1020; omega⟩ dL_reads_323 (fun vv29 gg28 qq30 => ?_)
            obtain ⟨rfl, hI31⟩ := qq30
            refine G_istore C (lo' := [(10, .int (-104)), (9, .int (-104)), (8, .int (-104)), (7, .int (nI hs.length)), (6, .int (nI dd)), (5, .int od), (4, .int 1), (3, .int (nI kk)), (0, .ref (ad 0)), (1, .int x), (2, .int y)]) dL_reads_326 (by decide) rfl ?_
            refine G_aload_n C 0 dL_reads_328 rfl rfl ?_
            refine G_callSH C (As := [.ref (ad 0)]) (rest := []) (v_playY  hI31 h0) ca_L_play km_L_209 rfl rfl (by decide) (Nat.le_of_ble_eq_true rfl) ⟨by show 10 + 10 * kk + 0 + 1 + 1 + 1 + 1 ≤ 170; omega, by show 60 + 60 * kk + 0 + 6 + 6 + 6 + 6 ≤ 1020; omega⟩ dL_reads_329 (fun vv33 gg32 qq34 => ?_)
            obtain ⟨rfl, hI35⟩ := qq34
            refine GW.topr (y := nI kk) (hrn) ?_
            refine G_istore C (lo' := [(11, .int (nI kk)), (10, .int (-104)), (9, .int (-104)), (8, .int (-104)), (7, .int (nI hs.length)), (6, .int (nI dd)), (5, .int od), (4, .int 1), (3, .int (nI kk)), (0, .ref (ad 0)), (1, .int x), (2, .int y)]) dL_reads_332 (by decide) rfl ?_
            refine G_aload_n C 0 dL_reads_334 rfl rfl ?_
            refine G_pcM C hI35.h0 (As := []) (rest := []) (p_clearText  hI35 ) ca_X8_clearText km_L_199 rfl rfl (by decide) (Nat.le_of_ble_eq_true rfl) ⟨by show 10 + 10 * kk + 0 + 1 + 1 + 1 + 1 + 0 ≤ 170; omega, by show 60 + 60 * kk + 0 + 6 + 6 + 6 + 6 + 0 ≤ 1020; omega⟩ dL_reads_335 (fun vv37 gg36 qq38 => ?_)
            obtain ⟨rfl, hI39⟩ := qq38
            refine G_istore C (lo' := [(12, .int (nI m)), (11, .int (nI kk)), (10, .int (-104)), (9, .int (-104)), (8, .int (-104)), (7, .int (nI hs.length)), (6, .int (nI dd)), (5, .int od), (4, .int 1), (3, .int (nI kk)), (0, .ref (ad 0)), (1, .int x), (2, .int y)]) dL_reads_338 (by decide) rfl ?_
            refine G_iload C dL_reads_340 rfl ?_
            refine G_if_eq C 428 dL_reads_342 (by decide) (fun h => absurd h (by decide)) (fun _ => ?_)
            refine G_iload C dL_reads_345 rfl ?_
            refine G_bipush C (v := (-104)) dL_reads_347 (by decide) ?_
            refine G_icmp_ne C 356 dL_reads_349 (by decide) (fun h => absurd h (by decide)) (fun _ => ?_)
            refine G_iconst C (v := 1) dL_reads_352 (by decide) ?_
            refine G_goto C 357 dL_reads_353 (by decide) ?_
            refine G_iload C dL_reads_357 rfl ?_
            refine G_bipush C (v := (-104)) dL_reads_359 (by decide) ?_
            refine G_icmp_ne C 368 dL_reads_361 (by decide) (fun h => absurd h (by decide)) (fun _ => ?_)
            refine G_iconst C (v := 1) dL_reads_364 (by decide) ?_
            refine G_goto C 369 dL_reads_365 (by decide) ?_
            refine G_icmp_ne C 428 dL_reads_369 (by decide) (fun h => absurd h (by decide)) (fun _ => ?_)
            refine G_iload C dL_reads_372 rfl ?_
            refine G_bipush C (v := (-104)) dL_reads_374 (by decide) ?_
            refine G_icmp_ne C 383 dL_reads_376 (by decide) (fun h => absurd h (by decide)) (fun _ => ?_)
            refine G_iconst C (v := 1) dL_reads_379 (by decide) ?_
            refine G_goto C 384 dL_reads_380 (by decide) ?_
            refine G_iload C dL_reads_384 rfl ?_
            refine G_bipush C (v := (-104)) dL_reads_386 (by decide) ?_
            refine G_icmp_ne C 395 dL_reads_388 (by decide) (fun h => absurd h (by decide)) (fun _ => ?_)
            refine G_iconst C (v := 1) dL_reads_391 (by decide) ?_
            refine G_goto C 396 dL_reads_392 (by decide) ?_
            refine G_icmp_ne C 428 dL_reads_396 (by decide) (fun h => absurd h (by decide)) (fun _ => ?_)
            refine G_iload C dL_reads_399 rfl ?_
            refine G_bipush C (v := (-103)) dL_reads_401 (by decide) ?_
            refine G_icmp_ne C 410 dL_reads_403 (by decide) (fun c403 => ?_) (fun c403 => False.elim (nI_m103 (by omega) c403))
            refine G_iconst C (v := 0) dL_reads_410 (by decide) ?_
            refine G_iload C dL_reads_411 rfl ?_
            refine G_if_lt C 420 dL_reads_413 (by decide) (fun _ => ?_) (fun h => absurd h (by decide))
            refine G_iconst C (v := 0) dL_reads_420 (by decide) ?_
            refine G_icmp_ne C 428 dL_reads_421 (by decide) (fun h => absurd h (by decide)) (fun _ => ?_)
            refine G_iconst C (v := 1) dL_reads_424 (by decide) ?_
            refine G_goto C 429 dL_reads_425 (by decide) ?_
            refine G_istore C (lo' := [(13, .int 1), (12, .int (nI m)), (11, .int (nI kk)), (10, .int (-104)), (9, .int (-104)), (8, .int (-104)), (7, .int (nI hs.length)), (6, .int (nI dd)), (5, .int od), (4, .int 1), (3, .int (nI kk)), (0, .ref (ad 0)), (1, .int x), (2, .int y)]) dL_reads_429 (by decide) rfl ?_
            refine G_iload C dL_reads_431 rfl ?_
            refine G_if_eq C 533 dL_reads_433 (by decide) (fun h => absurd h (by decide)) (fun _ => ?_)
            refine G_iload C dL_reads_436 rfl ?_
            refine G_if_lt C 502 dL_reads_438 (by decide) (fun _ => ?_) (fun h => absurd h (by decide))
            refine G_iload C dL_reads_502 rfl ?_
            refine G_iload_n C 3 dL_reads_504 rfl rfl ?_
            refine G_icmp_ne C 533 dL_reads_505 (by decide) (fun c505 => False.elim (c505 rfl)) (fun c505 => ?_)
            refine G_aload_n C 0 dL_reads_508 rfl rfl ?_
            refine G_pcM C hI39.h0 (As := []) (rest := []) (p_states  hI39 ) ca_X8_states km_L_162 rfl rfl (by decide) (Nat.le_of_ble_eq_true rfl) ⟨by show 10 + 10 * kk + 0 + 1 + 1 + 1 + 1 + 0 + 0 ≤ 170; omega, by show 60 + 60 * kk + 0 + 6 + 6 + 6 + 6 + 0 + 0 ≤ 1020; omega⟩ dL_reads_509 (fun vv41 gg40 qq42 => ?_)
            obtain ⟨rfl, hI43⟩ := qq42
            refine G_iload C dL_reads_512 rfl ?_
            refine G_iconst C (v := 4) dL_reads_514 (by decide) ?_
            refine G_icmp_ge C 525 dL_reads_515 (by decide) (fun c515 => ?_) (fun c515 => ?_)
            · have c515n : 4 ≤ hs.length := (cI_le (a := 4) (b := hs.length) rfl rfl (by omega) (by omega)).mp c515
              refine G_iconst C (v := 4) dL_reads_525 (by decide) ?_
              refine G_icmp_ne C 533 dL_reads_526 (by decide) (fun c526 => False.elim (c526 (by rw [hp_l4 h4 (by omega)]; rfl))) (fun c526 => ?_)
              refine G_iconst C (v := 1) dL_reads_529 (by decide) ?_
              refine G_goto C 534 dL_reads_530 (by decide) ?_
              refine GW.widen (c1 := 170) (s1 := 1020) (by show 10 + 10 * kk + 0 + 1 + 1 + 1 + 1 + 0 + 0 ≤ 170; omega) (by show 60 + 60 * kk + 0 + 6 + 6 + 6 + 6 + 0 + 0 ≤ 1020; omega) ?_
              exact G_zret C hr rfl dL_reads_534 ⟨_, _, _, Or.inr rfl, rfl, hI43⟩
            · have c515n : ¬ 4 ≤ hs.length := fun z => c515 ((cI_le (a := 4) (b := hs.length) rfl rfl (by omega) (by omega)).mpr z)
              refine G_iload C dL_reads_518 rfl ?_
              refine G_iconst C (v := 1) dL_reads_520 (by decide) ?_
              refine G_iadd C dL_reads_521 ?_
              refine GW.topr (cI_add (a := hs.length) (b := 1) rfl rfl) ?_
              refine G_goto C 526 dL_reads_522 (by decide) ?_
              refine G_icmp_ne C 533 dL_reads_526 (by decide) (fun c526 => False.elim (c526 (by rw [hp_l1 (by omega)]))) (fun c526 => ?_)
              refine G_iconst C (v := 1) dL_reads_529 (by decide) ?_
              refine G_goto C 534 dL_reads_530 (by decide) ?_
              refine GW.widen (c1 := 170) (s1 := 1020) (by show 10 + 10 * kk + 0 + 1 + 1 + 1 + 1 + 0 + 0 ≤ 170; omega) (by show 60 + 60 * kk + 0 + 6 + 6 + 6 + 6 + 0 + 0 ≤ 1020; omega) ?_
              exact G_zret C hr rfl dL_reads_534 ⟨_, _, _, Or.inr rfl, rfl, hI43⟩
          · obtain ⟨hf1, hf2⟩ := rd_f (by omega) h0
            rcases hf2 with ⟨hr1, q9, hq1, hq2⟩ | ⟨hr2, hc2⟩
            · refine G_aload_n C 0 dL_reads_304 rfl rfl ?_
              refine G_pcM C hI53.h0 (As := []) (rest := []) (p_states  hI53 ) ca_X8_states km_L_162 rfl rfl (by decide) (Nat.le_of_ble_eq_true rfl) ⟨by show 10 + 10 * kk + 0 ≤ 170; omega, by show 60 + 60 * kk + 0 ≤ 1020; omega⟩ dL_reads_305 (fun vv45 gg44 qq46 => ?_)
              obtain ⟨rfl, hI47⟩ := qq46
              refine G_istore C (lo' := [(7, .int (nI hs.length)), (6, .int (nI dd)), (5, .int od), (4, .int 1), (3, .int (nI kk)), (0, .ref (ad 0)), (1, .int x), (2, .int y)]) dL_reads_308 (by decide) rfl ?_
              refine G_aload_n C 0 dL_reads_310 rfl rfl ?_
              refine G_callSH C (As := [.ref (ad 0)]) (rest := []) (v_faultPositionY  hI47 h0) ca_L_faultPosition km_L_202 rfl rfl (by decide) (Nat.le_of_ble_eq_true rfl) ⟨by show 10 + 10 * kk + 0 + 1 ≤ 170; omega, by show 60 + 60 * kk + 0 + 6 ≤ 1020; omega⟩ dL_reads_311 (fun vv49 gg48 qq50 => ?_)
              obtain ⟨rfl, hI51⟩ := qq50
              refine G_istore C (lo' := [(8, .int (nI ((rdR s m t9).2.1))), (7, .int (nI hs.length)), (6, .int (nI dd)), (5, .int od), (4, .int 1), (3, .int (nI kk)), (0, .ref (ad 0)), (1, .int x), (2, .int y)]) dL_reads_314 (by decide) rfl ?_
              refine G_aload_n C 0 dL_reads_316 rfl rfl ?_
              refine G_callSH C (As := [.ref (ad 0)]) (rest := []) (v_faultReasonY  hI51 h0) ca_L_faultReason km_L_205 rfl rfl (by decide) (Nat.le_of_ble_eq_true rfl) ⟨by show 10 + 10 * kk + 0 + 1 + 1 ≤ 170; omega, by show 60 + 60 * kk + 0 + 6 + 6 ≤ 1020; omega⟩ dL_reads_317 (fun vv53 gg52 qq54 => ?_)
              obtain ⟨rfl, hI55⟩ := qq54
              refine GW.topr (y := 1) (hr1) ?_
              refine G_istore C (lo' := [(9, .int 1), (8, .int (nI ((rdR s m t9).2.1))), (7, .int (nI hs.length)), (6, .int (nI dd)), (5, .int od), (4, .int 1), (3, .int (nI kk)), (0, .ref (ad 0)), (1, .int x), (2, .int y)]) dL_reads_320 (by decide) rfl ?_
              refine G_aload_n C 0 dL_reads_322 rfl rfl ?_
              refine G_callSH C (As := [.ref (ad 0)]) (rest := []) (v_faultCauseY  hI55 h0) ca_L_faultCause km_L_207 rfl rfl (by decide) (Nat.le_of_ble_eq_true rfl) ⟨by show 10 + 10 * kk + 0 + 1 + 1 + 1 ≤ 170; omega, by show 60 + 60 * kk + 0 + 6 + 6 + 6 ≤ 1020; omega⟩ dL_reads_323 (fun vv57 gg56 qq58 => ?_)
              obtain ⟨rfl, hI59⟩ := qq58
              refine GW.topr (y := nI q9) (hq1) ?_
              refine G_istore C (lo' := [(10, .int (nI q9)), (9, .int 1), (8, .int (nI ((rdR s m t9).2.1))), (7, .int (nI hs.length)), (6, .int (nI dd)), (5, .int od), (4, .int 1), (3, .int (nI kk)), (0, .ref (ad 0)), (1, .int x), (2, .int y)]) dL_reads_326 (by decide) rfl ?_
              refine G_aload_n C 0 dL_reads_328 rfl rfl ?_
              refine G_callSH C (As := [.ref (ad 0)]) (rest := []) (v_playN  hI59 h0) ca_L_play km_L_209 rfl rfl (by decide) (Nat.le_of_ble_eq_true rfl) ⟨by show 10 + 10 * kk + 0 + 1 + 1 + 1 + 1 ≤ 170; omega, by show 60 + 60 * kk + 0 + 6 + 6 + 6 + 6 ≤ 1020; omega⟩ dL_reads_329 (fun vv61 gg60 qq62 => ?_)
              obtain ⟨rfl, hI63⟩ := qq62
              refine G_istore C (lo' := [(11, .int (-103)), (10, .int (nI q9)), (9, .int 1), (8, .int (nI ((rdR s m t9).2.1))), (7, .int (nI hs.length)), (6, .int (nI dd)), (5, .int od), (4, .int 1), (3, .int (nI kk)), (0, .ref (ad 0)), (1, .int x), (2, .int y)]) dL_reads_332 (by decide) rfl ?_
              refine G_aload_n C 0 dL_reads_334 rfl rfl ?_
              refine G_pcM C hI63.h0 (As := []) (rest := []) (p_clearText  hI63 ) ca_X8_clearText km_L_199 rfl rfl (by decide) (Nat.le_of_ble_eq_true rfl) ⟨by show 10 + 10 * kk + 0 + 1 + 1 + 1 + 1 + 0 ≤ 170; omega, by show 60 + 60 * kk + 0 + 6 + 6 + 6 + 6 + 0 ≤ 1020; omega⟩ dL_reads_335 (fun vv65 gg64 qq66 => ?_)
              obtain ⟨rfl, hI67⟩ := qq66
              refine G_istore C (lo' := [(12, .int (nI m)), (11, .int (-103)), (10, .int (nI q9)), (9, .int 1), (8, .int (nI ((rdR s m t9).2.1))), (7, .int (nI hs.length)), (6, .int (nI dd)), (5, .int od), (4, .int 1), (3, .int (nI kk)), (0, .ref (ad 0)), (1, .int x), (2, .int y)]) dL_reads_338 (by decide) rfl ?_
              refine G_iload C dL_reads_340 rfl ?_
              refine G_if_eq C 428 dL_reads_342 (by decide) (fun h => absurd h (by decide)) (fun _ => ?_)
              refine G_iload C dL_reads_345 rfl ?_
              refine G_bipush C (v := (-104)) dL_reads_347 (by decide) ?_
              refine G_icmp_ne C 356 dL_reads_349 (by decide) (fun c349 => ?_) (fun c349 => False.elim (nI_m104 (by omega) c349))
              refine G_iconst C (v := 0) dL_reads_356 (by decide) ?_
              refine G_iload C dL_reads_357 rfl ?_
              refine G_bipush C (v := (-104)) dL_reads_359 (by decide) ?_
              refine G_icmp_ne C 368 dL_reads_361 (by decide) (fun _ => ?_) (fun h => absurd h (by decide))
              refine G_iconst C (v := 0) dL_reads_368 (by decide) ?_
              refine G_icmp_ne C 428 dL_reads_369 (by decide) (fun h => absurd h (by decide)) (fun _ => ?_)
              refine G_iload C dL_reads_372 rfl ?_
              refine G_bipush C (v := (-104)) dL_reads_374 (by decide) ?_
              refine G_icmp_ne C 383 dL_reads_376 (by decide) (fun c376 => ?_) (fun c376 => False.elim (nI_m104 (by omega) c376))
              refine G_iconst C (v := 0) dL_reads_383 (by decide) ?_
              refine G_iload C dL_reads_384 rfl ?_
              refine G_bipush C (v := (-104)) dL_reads_386 (by decide) ?_
              refine G_icmp_ne C 395 dL_reads_388 (by decide) (fun c388 => ?_) (fun c388 => False.elim (nI_m104 (by omega) c388))
              refine G_iconst C (v := 0) dL_reads_395 (by decide) ?_
              refine G_icmp_ne C 428 dL_reads_396 (by decide) (fun h => absurd h (by decide)) (fun _ => ?_)
              refine G_iload C dL_reads_399 rfl ?_
              refine G_bipush C (v := (-103)) dL_reads_401 (by decide) ?_
              refine G_icmp_ne C 410 dL_reads_403 (by decide) (fun h => absurd h (by decide)) (fun _ => ?_)
              refine G_iconst C (v := 1) dL_reads_406 (by decide) ?_
              refine G_goto C 411 dL_reads_407 (by decide) ?_
              refine G_iload C dL_reads_411 rfl ?_
              refine G_if_lt C 420 dL_reads_413 (by decide) (fun c413 => False.elim (nI_pos (by omega) c413)) (fun c413 => ?_)
              refine G_iconst C (v := 1) dL_reads_416 (by decide) ?_
              refine G_goto C 421 dL_reads_417 (by decide) ?_
              refine G_icmp_ne C 428 dL_reads_421 (by decide) (fun h => absurd h (by decide)) (fun _ => ?_)
              refine G_iconst C (v := 1) dL_reads_424 (by decide) ?_
              refine G_goto C 429 dL_reads_425 (by decide) ?_
              refine G_istore C (lo' := [(13, .int 1), (12, .int (nI m)), (11, .int (-103)), (10, .int (nI q9)), (9, .int 1), (8, .int (nI ((rdR s m t9).2.1))), (7, .int (nI hs.length)), (6, .int (nI dd)), (5, .int od), (4, .int 1), (3, .int (nI kk)), (0, .ref (ad 0)), (1, .int x), (2, .int y)]) dL_reads_429 (by decide) rfl ?_
              refine G_iload C dL_reads_431 rfl ?_
              refine G_if_eq C 533 dL_reads_433 (by decide) (fun h => absurd h (by decide)) (fun _ => ?_)
              refine G_iload C dL_reads_436 rfl ?_
              refine G_if_lt C 502 dL_reads_438 (by decide) (fun c438 => False.elim (nI_pos (by omega) c438)) (fun c438 => ?_)
              refine G_iload C dL_reads_441 rfl ?_
              refine G_iload C dL_reads_443 rfl ?_
              refine G_icmp_ge C 533 dL_reads_445 (by decide) (fun c445 => False.elim (nI_nle2 (a := (rdR s m t9).2.1) (b := m) (by omega) (by omega) hf1 c445)) (fun c445 => ?_)
              refine G_iload C dL_reads_448 rfl ?_
              refine G_iconst C (v := 1) dL_reads_450 (by decide) ?_
              refine G_icmp_ne C 472 dL_reads_451 (by decide) (fun h => absurd h (by decide)) (fun _ => ?_)
              refine G_iload C dL_reads_454 rfl ?_
              refine G_if_lt C 533 dL_reads_456 (by decide) (fun c456 => False.elim (nI_pos (by omega) c456)) (fun c456 => ?_)
              refine G_iload C dL_reads_459 rfl ?_
              refine G_iload C dL_reads_461 rfl ?_
              refine G_iadd C dL_reads_463 ?_
              refine GW.topr (cI_add (a := ((rdR s m t9).2.1)) (b := q9) rfl rfl) ?_
              refine G_iload C dL_reads_464 rfl ?_
              refine G_icmp_gt C 533 dL_reads_466 (by decide) (fun c466 => False.elim (nI_nlt2 (a := (rdR s m t9).2.1 + q9) (b := m) (by omega) (by omega) hq2 c466)) (fun c466 => ?_)
              refine G_goto C 490 dL_reads_469 (by decide) ?_
              refine G_aload_n C 0 dL_reads_490 rfl rfl ?_
              refine G_pcM C hI67.h0 (As := []) (rest := []) (p_states  hI67 ) ca_X8_states km_L_162 rfl rfl (by decide) (Nat.le_of_ble_eq_true rfl) ⟨by show 10 + 10 * kk + 0 + 1 + 1 + 1 + 1 + 0 + 0 ≤ 170; omega, by show 60 + 60 * kk + 0 + 6 + 6 + 6 + 6 + 0 + 0 ≤ 1020; omega⟩ dL_reads_491 (fun vv69 gg68 qq70 => ?_)
              obtain ⟨rfl, hI71⟩ := qq70
              refine G_iload C dL_reads_494 rfl ?_
              refine G_icmp_ne C 533 dL_reads_496 (by decide) (fun c496 => False.elim (c496 rfl)) (fun c496 => ?_)
              refine G_goto C 529 dL_reads_499 (by decide) ?_
              refine G_iconst C (v := 1) dL_reads_529 (by decide) ?_
              refine G_goto C 534 dL_reads_530 (by decide) ?_
              refine GW.widen (c1 := 170) (s1 := 1020) (by show 10 + 10 * kk + 0 + 1 + 1 + 1 + 1 + 0 + 0 ≤ 170; omega) (by show 60 + 60 * kk + 0 + 6 + 6 + 6 + 6 + 0 + 0 ≤ 1020; omega) ?_
              exact G_zret C hr rfl dL_reads_534 ⟨_, _, _, Or.inl ⟨rfl, rfl⟩, rfl, hI71⟩
            · rcases hc2 with hc2 | hc2
              · refine G_aload_n C 0 dL_reads_304 rfl rfl ?_
                refine G_pcM C hI53.h0 (As := []) (rest := []) (p_states  hI53 ) ca_X8_states km_L_162 rfl rfl (by decide) (Nat.le_of_ble_eq_true rfl) ⟨by show 10 + 10 * kk + 0 ≤ 170; omega, by show 60 + 60 * kk + 0 ≤ 1020; omega⟩ dL_reads_305 (fun vv73 gg72 qq74 => ?_)
                obtain ⟨rfl, hI75⟩ := qq74
                refine G_istore C (lo' := [(7, .int (nI hs.length)), (6, .int (nI dd)), (5, .int od), (4, .int 1), (3, .int (nI kk)), (0, .ref (ad 0)), (1, .int x), (2, .int y)]) dL_reads_308 (by decide) rfl ?_
                refine G_aload_n C 0 dL_reads_310 rfl rfl ?_
                refine G_callSH C (As := [.ref (ad 0)]) (rest := []) (v_faultPositionY  hI75 h0) ca_L_faultPosition km_L_202 rfl rfl (by decide) (Nat.le_of_ble_eq_true rfl) ⟨by show 10 + 10 * kk + 0 + 1 ≤ 170; omega, by show 60 + 60 * kk + 0 + 6 ≤ 1020; omega⟩ dL_reads_311 (fun vv77 gg76 qq78 => ?_)
                obtain ⟨rfl, hI79⟩ := qq78
                refine G_istore C (lo' := [(8, .int (nI ((rdR s m t9).2.1))), (7, .int (nI hs.length)), (6, .int (nI dd)), (5, .int od), (4, .int 1), (3, .int (nI kk)), (0, .ref (ad 0)), (1, .int x), (2, .int y)]) dL_reads_314 (by decide) rfl ?_
                refine G_aload_n C 0 dL_reads_316 rfl rfl ?_
                refine G_callSH C (As := [.ref (ad 0)]) (rest := []) (v_faultReasonY  hI79 h0) ca_L_faultReason km_L_205 rfl rfl (by decide) (Nat.le_of_ble_eq_true rfl) ⟨by show 10 + 10 * kk + 0 + 1 + 1 ≤ 170; omega, by show 60 + 60 * kk + 0 + 6 + 6 ≤ 1020; omega⟩ dL_reads_317 (fun vv81 gg80 qq82 => ?_)
                obtain ⟨rfl, hI83⟩ := qq82
                refine GW.topr (y := 2) (hr2) ?_
                refine G_istore C (lo' := [(9, .int 2), (8, .int (nI ((rdR s m t9).2.1))), (7, .int (nI hs.length)), (6, .int (nI dd)), (5, .int od), (4, .int 1), (3, .int (nI kk)), (0, .ref (ad 0)), (1, .int x), (2, .int y)]) dL_reads_320 (by decide) rfl ?_
                refine G_aload_n C 0 dL_reads_322 rfl rfl ?_
                refine G_callSH C (As := [.ref (ad 0)]) (rest := []) (v_faultCauseY  hI83 h0) ca_L_faultCause km_L_207 rfl rfl (by decide) (Nat.le_of_ble_eq_true rfl) ⟨by show 10 + 10 * kk + 0 + 1 + 1 + 1 ≤ 170; omega, by show 60 + 60 * kk + 0 + 6 + 6 + 6 ≤ 1020; omega⟩ dL_reads_323 (fun vv85 gg84 qq86 => ?_)
                obtain ⟨rfl, hI87⟩ := qq86
                refine GW.topr (y := 1) (hc2) ?_
                refine G_istore C (lo' := [(10, .int 1), (9, .int 2), (8, .int (nI ((rdR s m t9).2.1))), (7, .int (nI hs.length)), (6, .int (nI dd)), (5, .int od), (4, .int 1), (3, .int (nI kk)), (0, .ref (ad 0)), (1, .int x), (2, .int y)]) dL_reads_326 (by decide) rfl ?_
                refine G_aload_n C 0 dL_reads_328 rfl rfl ?_
                refine G_callSH C (As := [.ref (ad 0)]) (rest := []) (v_playN  hI87 h0) ca_L_play km_L_209 rfl rfl (by decide) (Nat.le_of_ble_eq_true rfl) ⟨by show 10 + 10 * kk + 0 + 1 + 1 + 1 + 1 ≤ 170; omega, by show 60 + 60 * kk + 0 + 6 + 6 + 6 + 6 ≤ 1020; omega⟩ dL_reads_329 (fun vv89 gg88 qq90 => ?_)
                obtain ⟨rfl, hI91⟩ := qq90
                refine G_istore C (lo' := [(11, .int (-103)), (10, .int 1), (9, .int 2), (8, .int (nI ((rdR s m t9).2.1))), (7, .int (nI hs.length)), (6, .int (nI dd)), (5, .int od), (4, .int 1), (3, .int (nI kk)), (0, .ref (ad 0)), (1, .int x), (2, .int y)]) dL_reads_332 (by decide) rfl ?_
                refine G_aload_n C 0 dL_reads_334 rfl rfl ?_
                refine G_pcM C hI91.h0 (As := []) (rest := []) (p_clearText  hI91 ) ca_X8_clearText km_L_199 rfl rfl (by decide) (Nat.le_of_ble_eq_true rfl) ⟨by show 10 + 10 * kk + 0 + 1 + 1 + 1 + 1 + 0 ≤ 170; omega, by show 60 + 60 * kk + 0 + 6 + 6 + 6 + 6 + 0 ≤ 1020; omega⟩ dL_reads_335 (fun vv93 gg92 qq94 => ?_)
                obtain ⟨rfl, hI95⟩ := qq94
                refine G_istore C (lo' := [(12, .int (nI m)), (11, .int (-103)), (10, .int 1), (9, .int 2), (8, .int (nI ((rdR s m t9).2.1))), (7, .int (nI hs.length)), (6, .int (nI dd)), (5, .int od), (4, .int 1), (3, .int (nI kk)), (0, .ref (ad 0)), (1, .int x), (2, .int y)]) dL_reads_338 (by decide) rfl ?_
                refine G_iload C dL_reads_340 rfl ?_
                refine G_if_eq C 428 dL_reads_342 (by decide) (fun h => absurd h (by decide)) (fun _ => ?_)
                refine G_iload C dL_reads_345 rfl ?_
                refine G_bipush C (v := (-104)) dL_reads_347 (by decide) ?_
                refine G_icmp_ne C 356 dL_reads_349 (by decide) (fun c349 => ?_) (fun c349 => False.elim (nI_m104 (by omega) c349))
                refine G_iconst C (v := 0) dL_reads_356 (by decide) ?_
                refine G_iload C dL_reads_357 rfl ?_
                refine G_bipush C (v := (-104)) dL_reads_359 (by decide) ?_
                refine G_icmp_ne C 368 dL_reads_361 (by decide) (fun _ => ?_) (fun h => absurd h (by decide))
                refine G_iconst C (v := 0) dL_reads_368 (by decide) ?_
                refine G_icmp_ne C 428 dL_reads_369 (by decide) (fun h => absurd h (by decide)) (fun _ => ?_)
                refine G_iload C dL_reads_372 rfl ?_
                refine G_bipush C (v := (-104)) dL_reads_374 (by decide) ?_
                refine G_icmp_ne C 383 dL_reads_376 (by decide) (fun c376 => ?_) (fun c376 => False.elim (nI_m104 (by omega) c376))
                refine G_iconst C (v := 0) dL_reads_383 (by decide) ?_
                refine G_iload C dL_reads_384 rfl ?_
                refine G_bipush C (v := (-104)) dL_reads_386 (by decide) ?_
                refine G_icmp_ne C 395 dL_reads_388 (by decide) (fun _ => ?_) (fun h => absurd h (by decide))
                refine G_iconst C (v := 0) dL_reads_395 (by decide) ?_
                refine G_icmp_ne C 428 dL_reads_396 (by decide) (fun h => absurd h (by decide)) (fun _ => ?_)
                refine G_iload C dL_reads_399 rfl ?_
                refine G_bipush C (v := (-103)) dL_reads_401 (by decide) ?_
                refine G_icmp_ne C 410 dL_reads_403 (by decide) (fun h => absurd h (by decide)) (fun _ => ?_)
                refine G_iconst C (v := 1) dL_reads_406 (by decide) ?_
                refine G_goto C 411 dL_reads_407 (by decide) ?_
                refine G_iload C dL_reads_411 rfl ?_
                refine G_if_lt C 420 dL_reads_413 (by decide) (fun c413 => False.elim (nI_pos (by omega) c413)) (fun c413 => ?_)
                refine G_iconst C (v := 1) dL_reads_416 (by decide) ?_
                refine G_goto C 421 dL_reads_417 (by decide) ?_
                refine G_icmp_ne C 428 dL_reads_421 (by decide) (fun h => absurd h (by decide)) (fun _ => ?_)
                refine G_iconst C (v := 1) dL_reads_424 (by decide) ?_
                refine G_goto C 429 dL_reads_425 (by decide) ?_
                refine G_istore C (lo' := [(13, .int 1), (12, .int (nI m)), (11, .int (-103)), (10, .int 1), (9, .int 2), (8, .int (nI ((rdR s m t9).2.1))), (7, .int (nI hs.length)), (6, .int (nI dd)), (5, .int od), (4, .int 1), (3, .int (nI kk)), (0, .ref (ad 0)), (1, .int x), (2, .int y)]) dL_reads_429 (by decide) rfl ?_
                refine G_iload C dL_reads_431 rfl ?_
                refine G_if_eq C 533 dL_reads_433 (by decide) (fun h => absurd h (by decide)) (fun _ => ?_)
                refine G_iload C dL_reads_436 rfl ?_
                refine G_if_lt C 502 dL_reads_438 (by decide) (fun c438 => False.elim (nI_pos (by omega) c438)) (fun c438 => ?_)
                refine G_iload C dL_reads_441 rfl ?_
                refine G_iload C dL_reads_443 rfl ?_
                refine G_icmp_ge C 533 dL_reads_445 (by decide) (fun c445 => False.elim (nI_nle2 (a := (rdR s m t9).2.1) (b := m) (by omega) (by omega) hf1 c445)) (fun c445 => ?_)
                refine G_iload C dL_reads_448 rfl ?_
                refine G_iconst C (v := 1) dL_reads_450 (by decide) ?_
                refine G_icmp_ne C 472 dL_reads_451 (by decide) (fun _ => ?_) (fun h => absurd h (by decide))
                refine G_iload C dL_reads_472 rfl ?_
                refine G_iconst C (v := 2) dL_reads_474 (by decide) ?_
                refine G_icmp_ne C 533 dL_reads_475 (by decide) (fun h => absurd h (by decide)) (fun _ => ?_)
                refine G_iload C dL_reads_478 rfl ?_
                refine G_iconst C (v := 1) dL_reads_480 (by decide) ?_
                refine G_icmp_eq C 490 dL_reads_481 (by decide) (fun _ => ?_) (fun h => absurd h (by decide))
                refine G_aload_n C 0 dL_reads_490 rfl rfl ?_
                refine G_pcM C hI95.h0 (As := []) (rest := []) (p_states  hI95 ) ca_X8_states km_L_162 rfl rfl (by decide) (Nat.le_of_ble_eq_true rfl) ⟨by show 10 + 10 * kk + 0 + 1 + 1 + 1 + 1 + 0 + 0 ≤ 170; omega, by show 60 + 60 * kk + 0 + 6 + 6 + 6 + 6 + 0 + 0 ≤ 1020; omega⟩ dL_reads_491 (fun vv97 gg96 qq98 => ?_)
                obtain ⟨rfl, hI99⟩ := qq98
                refine G_iload C dL_reads_494 rfl ?_
                refine G_icmp_ne C 533 dL_reads_496 (by decide) (fun c496 => False.elim (c496 rfl)) (fun c496 => ?_)
                refine G_goto C 529 dL_reads_499 (by decide) ?_
                refine G_iconst C (v := 1) dL_reads_529 (by decide) ?_
                refine G_goto C 534 dL_reads_530 (by decide) ?_
                refine GW.widen (c1 := 170) (s1 := 1020) (by show 10 + 10 * kk + 0 + 1 + 1 + 1 + 1 + 0 + 0 ≤ 170; omega) (by show 60 + 60 * kk + 0 + 6 + 6 + 6 + 6 + 0 + 0 ≤ 1020; omega) ?_
                exact G_zret C hr rfl dL_reads_534 ⟨_, _, _, Or.inl ⟨rfl, rfl⟩, rfl, hI99⟩
              · refine G_aload_n C 0 dL_reads_304 rfl rfl ?_
                refine G_pcM C hI53.h0 (As := []) (rest := []) (p_states  hI53 ) ca_X8_states km_L_162 rfl rfl (by decide) (Nat.le_of_ble_eq_true rfl) ⟨by show 10 + 10 * kk + 0 ≤ 170; omega, by show 60 + 60 * kk + 0 ≤ 1020; omega⟩ dL_reads_305 (fun vv101 gg100 qq102 => ?_)
                obtain ⟨rfl, hI103⟩ := qq102
                refine G_istore C (lo' := [(7, .int (nI hs.length)), (6, .int (nI dd)), (5, .int od), (4, .int 1), (3, .int (nI kk)), (0, .ref (ad 0)), (1, .int x), (2, .int y)]) dL_reads_308 (by decide) rfl ?_
                refine G_aload_n C 0 dL_reads_310 rfl rfl ?_
                refine G_callSH C (As := [.ref (ad 0)]) (rest := []) (v_faultPositionY  hI103 h0) ca_L_faultPosition km_L_202 rfl rfl (by decide) (Nat.le_of_ble_eq_true rfl) ⟨by show 10 + 10 * kk + 0 + 1 ≤ 170; omega, by show 60 + 60 * kk + 0 + 6 ≤ 1020; omega⟩ dL_reads_311 (fun vv105 gg104 qq106 => ?_)
                obtain ⟨rfl, hI107⟩ := qq106
                refine G_istore C (lo' := [(8, .int (nI ((rdR s m t9).2.1))), (7, .int (nI hs.length)), (6, .int (nI dd)), (5, .int od), (4, .int 1), (3, .int (nI kk)), (0, .ref (ad 0)), (1, .int x), (2, .int y)]) dL_reads_314 (by decide) rfl ?_
                refine G_aload_n C 0 dL_reads_316 rfl rfl ?_
                refine G_callSH C (As := [.ref (ad 0)]) (rest := []) (v_faultReasonY  hI107 h0) ca_L_faultReason km_L_205 rfl rfl (by decide) (Nat.le_of_ble_eq_true rfl) ⟨by show 10 + 10 * kk + 0 + 1 + 1 ≤ 170; omega, by show 60 + 60 * kk + 0 + 6 + 6 ≤ 1020; omega⟩ dL_reads_317 (fun vv109 gg108 qq110 => ?_)
                obtain ⟨rfl, hI111⟩ := qq110
                refine GW.topr (y := 2) (hr2) ?_
                refine G_istore C (lo' := [(9, .int 2), (8, .int (nI ((rdR s m t9).2.1))), (7, .int (nI hs.length)), (6, .int (nI dd)), (5, .int od), (4, .int 1), (3, .int (nI kk)), (0, .ref (ad 0)), (1, .int x), (2, .int y)]) dL_reads_320 (by decide) rfl ?_
                refine G_aload_n C 0 dL_reads_322 rfl rfl ?_
                refine G_callSH C (As := [.ref (ad 0)]) (rest := []) (v_faultCauseY  hI111 h0) ca_L_faultCause km_L_207 rfl rfl (by decide) (Nat.le_of_ble_eq_true rfl) ⟨by show 10 + 10 * kk + 0 + 1 + 1 + 1 ≤ 170; omega, by show 60 + 60 * kk + 0 + 6 + 6 + 6 ≤ 1020; omega⟩ dL_reads_323 (fun vv113 gg112 qq114 => ?_)
                obtain ⟨rfl, hI115⟩ := qq114
                refine GW.topr (y := 2) (hc2) ?_
                refine G_istore C (lo' := [(10, .int 2), (9, .int 2), (8, .int (nI ((rdR s m t9).2.1))), (7, .int (nI hs.length)), (6, .int (nI dd)), (5, .int od), (4, .int 1), (3, .int (nI kk)), (0, .ref (ad 0)), (1, .int x), (2, .int y)]) dL_reads_326 (by decide) rfl ?_
                refine G_aload_n C 0 dL_reads_328 rfl rfl ?_
                refine G_callSH C (As := [.ref (ad 0)]) (rest := []) (v_playN  hI115 h0) ca_L_play km_L_209 rfl rfl (by decide) (Nat.le_of_ble_eq_true rfl) ⟨by show 10 + 10 * kk + 0 + 1 + 1 + 1 + 1 ≤ 170; omega, by show 60 + 60 * kk + 0 + 6 + 6 + 6 + 6 ≤ 1020; omega⟩ dL_reads_329 (fun vv117 gg116 qq118 => ?_)
                obtain ⟨rfl, hI119⟩ := qq118
                refine G_istore C (lo' := [(11, .int (-103)), (10, .int 2), (9, .int 2), (8, .int (nI ((rdR s m t9).2.1))), (7, .int (nI hs.length)), (6, .int (nI dd)), (5, .int od), (4, .int 1), (3, .int (nI kk)), (0, .ref (ad 0)), (1, .int x), (2, .int y)]) dL_reads_332 (by decide) rfl ?_
                refine G_aload_n C 0 dL_reads_334 rfl rfl ?_
                refine G_pcM C hI119.h0 (As := []) (rest := []) (p_clearText  hI119 ) ca_X8_clearText km_L_199 rfl rfl (by decide) (Nat.le_of_ble_eq_true rfl) ⟨by show 10 + 10 * kk + 0 + 1 + 1 + 1 + 1 + 0 ≤ 170; omega, by show 60 + 60 * kk + 0 + 6 + 6 + 6 + 6 + 0 ≤ 1020; omega⟩ dL_reads_335 (fun vv121 gg120 qq122 => ?_)
                obtain ⟨rfl, hI123⟩ := qq122
                refine G_istore C (lo' := [(12, .int (nI m)), (11, .int (-103)), (10, .int 2), (9, .int 2), (8, .int (nI ((rdR s m t9).2.1))), (7, .int (nI hs.length)), (6, .int (nI dd)), (5, .int od), (4, .int 1), (3, .int (nI kk)), (0, .ref (ad 0)), (1, .int x), (2, .int y)]) dL_reads_338 (by decide) rfl ?_
                refine G_iload C dL_reads_340 rfl ?_
                refine G_if_eq C 428 dL_reads_342 (by decide) (fun h => absurd h (by decide)) (fun _ => ?_)
                refine G_iload C dL_reads_345 rfl ?_
                refine G_bipush C (v := (-104)) dL_reads_347 (by decide) ?_
                refine G_icmp_ne C 356 dL_reads_349 (by decide) (fun c349 => ?_) (fun c349 => False.elim (nI_m104 (by omega) c349))
                refine G_iconst C (v := 0) dL_reads_356 (by decide) ?_
                refine G_iload C dL_reads_357 rfl ?_
                refine G_bipush C (v := (-104)) dL_reads_359 (by decide) ?_
                refine G_icmp_ne C 368 dL_reads_361 (by decide) (fun _ => ?_) (fun h => absurd h (by decide))
                refine G_iconst C (v := 0) dL_reads_368 (by decide) ?_
                refine G_icmp_ne C 428 dL_reads_369 (by decide) (fun h => absurd h (by decide)) (fun _ => ?_)
                refine G_iload C dL_reads_372 rfl ?_
                refine G_bipush C (v := (-104)) dL_reads_374 (by decide) ?_
                refine G_icmp_ne C 383 dL_reads_376 (by decide) (fun c376 => ?_) (fun c376 => False.elim (nI_m104 (by omega) c376))
                refine G_iconst C (v := 0) dL_reads_383 (by decide) ?_
                refine G_iload C dL_reads_384 rfl ?_
                refine G_bipush C (v := (-104)) dL_reads_386 (by decide) ?_
                refine G_icmp_ne C 395 dL_reads_388 (by decide) (fun _ => ?_) (fun h => absurd h (by decide))
                refine G_iconst C (v := 0) dL_reads_395 (by decide) ?_
                refine G_icmp_ne C 428 dL_reads_396 (by decide) (fun h => absurd h (by decide)) (fun _ => ?_)
                refine G_iload C dL_reads_399 rfl ?_
                refine G_bipush C (v := (-103)) dL_reads_401 (by decide) ?_
                refine G_icmp_ne C 410 dL_reads_403 (by decide) (fun h => absurd h (by decide)) (fun _ => ?_)
                refine G_iconst C (v := 1) dL_reads_406 (by decide) ?_
                refine G_goto C 411 dL_reads_407 (by decide) ?_
                refine G_iload C dL_reads_411 rfl ?_
                refine G_if_lt C 420 dL_reads_413 (by decide) (fun c413 => False.elim (nI_pos (by omega) c413)) (fun c413 => ?_)
                refine G_iconst C (v := 1) dL_reads_416 (by decide) ?_
                refine G_goto C 421 dL_reads_417 (by decide) ?_
                refine G_icmp_ne C 428 dL_reads_421 (by decide) (fun h => absurd h (by decide)) (fun _ => ?_)
                refine G_iconst C (v := 1) dL_reads_424 (by decide) ?_
                refine G_goto C 429 dL_reads_425 (by decide) ?_
                refine G_istore C (lo' := [(13, .int 1), (12, .int (nI m)), (11, .int (-103)), (10, .int 2), (9, .int 2), (8, .int (nI ((rdR s m t9).2.1))), (7, .int (nI hs.length)), (6, .int (nI dd)), (5, .int od), (4, .int 1), (3, .int (nI kk)), (0, .ref (ad 0)), (1, .int x), (2, .int y)]) dL_reads_429 (by decide) rfl ?_
                refine G_iload C dL_reads_431 rfl ?_
                refine G_if_eq C 533 dL_reads_433 (by decide) (fun h => absurd h (by decide)) (fun _ => ?_)
                refine G_iload C dL_reads_436 rfl ?_
                refine G_if_lt C 502 dL_reads_438 (by decide) (fun c438 => False.elim (nI_pos (by omega) c438)) (fun c438 => ?_)
                refine G_iload C dL_reads_441 rfl ?_
                refine G_iload C dL_reads_443 rfl ?_
                refine G_icmp_ge C 533 dL_reads_445 (by decide) (fun c445 => False.elim (nI_nle2 (a := (rdR s m t9).2.1) (b := m) (by omega) (by omega) hf1 c445)) (fun c445 => ?_)
                refine G_iload C dL_reads_448 rfl ?_
                refine G_iconst C (v := 1) dL_reads_450 (by decide) ?_
                refine G_icmp_ne C 472 dL_reads_451 (by decide) (fun _ => ?_) (fun h => absurd h (by decide))
                refine G_iload C dL_reads_472 rfl ?_
                refine G_iconst C (v := 2) dL_reads_474 (by decide) ?_
                refine G_icmp_ne C 533 dL_reads_475 (by decide) (fun h => absurd h (by decide)) (fun _ => ?_)
                refine G_iload C dL_reads_478 rfl ?_
                refine G_iconst C (v := 1) dL_reads_480 (by decide) ?_
                refine G_icmp_eq C 490 dL_reads_481 (by decide) (fun h => absurd h (by decide)) (fun _ => ?_)
                refine G_iload C dL_reads_484 rfl ?_
                refine G_iconst C (v := 2) dL_reads_486 (by decide) ?_
                refine G_icmp_ne C 533 dL_reads_487 (by decide) (fun h => absurd h (by decide)) (fun _ => ?_)
                refine G_aload_n C 0 dL_reads_490 rfl rfl ?_
                refine G_pcM C hI123.h0 (As := []) (rest := []) (p_states  hI123 ) ca_X8_states km_L_162 rfl rfl (by decide) (Nat.le_of_ble_eq_true rfl) ⟨by show 10 + 10 * kk + 0 + 1 + 1 + 1 + 1 + 0 + 0 ≤ 170; omega, by show 60 + 60 * kk + 0 + 6 + 6 + 6 + 6 + 0 + 0 ≤ 1020; omega⟩ dL_reads_491 (fun vv125 gg124 qq126 => ?_)
                obtain ⟨rfl, hI127⟩ := qq126
                refine G_iload C dL_reads_494 rfl ?_
                refine G_icmp_ne C 533 dL_reads_496 (by decide) (fun c496 => False.elim (c496 rfl)) (fun c496 => ?_)
                refine G_goto C 529 dL_reads_499 (by decide) ?_
                refine G_iconst C (v := 1) dL_reads_529 (by decide) ?_
                refine G_goto C 534 dL_reads_530 (by decide) ?_
                refine GW.widen (c1 := 170) (s1 := 1020) (by show 10 + 10 * kk + 0 + 1 + 1 + 1 + 1 + 0 + 0 ≤ 170; omega) (by show 60 + 60 * kk + 0 + 6 + 6 + 6 + 6 + 0 + 0 ≤ 1020; omega) ?_
                exact G_zret C hr rfl dL_reads_534 ⟨_, _, _, Or.inl ⟨rfl, rfl⟩, rfl, hI127⟩
        · have c56n : ¬ n9 ≤ kk := fun z => c56 ((cI_le (a := n9) (b := kk) rfl rfl (by omega) (by omega)).mpr z)
          refine G_iload C dL_reads_59 rfl ?_
          refine G_if_eq C 304 dL_reads_61 (by decide) (fun h => absurd h (by decide)) (fun _ => ?_)
          refine G_iload_n C 1 dL_reads_64 rfl rfl ?_
          refine G_iload C dL_reads_65 rfl ?_
          refine G_ishr C dL_reads_67 ?_
          refine G_iload_n C 2 dL_reads_68 rfl rfl ?_
          refine G_bipush C (v := 13) dL_reads_69 (by decide) ?_
          refine G_iload C dL_reads_71 rfl ?_
          refine G_isub C dL_reads_73 ?_
          refine G_ishr C dL_reads_74 ?_
          refine G_iadd C dL_reads_75 ?_
          refine G_sipush C (v := 16383) dL_reads_76 (by decide) ?_
          refine G_iand C dL_reads_79 ?_
          obtain ⟨z9, hz9, ez9⟩ := pk_andE ((x >>> ((nI kk : Int32) &&& 31)) + (y >>> (((13 - (nI kk)) : Int32) &&& 31))) (m := 16383) 14 (by decide)
          refine GW.topr (y := nI z9) (ez9) ?_
          refine G_istore C (lo' := [(8, .int (nI z9)), (7, .int (nI kk)), (6, .int (nI dd)), (5, .int od), (4, .int 1), (3, .int (nI n9)), (0, .ref (ad 0)), (1, .int x), (2, .int y)]) dL_reads_80 (by decide) rfl ?_
          refine G_iload C dL_reads_82 rfl ?_
          refine G_bipush C (v := 13) dL_reads_84 (by decide) ?_
          refine G_irem C dL_reads_86 (by decide) ?_
          refine GW.topr (y := nI (z9 % 13)) (pk_rem (d := 13) (by omega) (by omega) (by omega)) ?_
          refine G_istore C (lo' := [(9, .int (nI (z9 % 13))), (8, .int (nI z9)), (7, .int (nI kk)), (6, .int (nI dd)), (5, .int od), (4, .int 1), (3, .int (nI n9)), (0, .ref (ad 0)), (1, .int x), (2, .int y)]) dL_reads_87 (by decide) rfl ?_
          refine G_iload C dL_reads_89 rfl ?_
          refine G_iconst C (v := 5) dL_reads_91 (by decide) ?_
          refine G_irem C dL_reads_92 (by decide) ?_
          refine GW.topr (y := nI (z9 % 5)) (pk_rem (d := 5) (by omega) (by omega) (by omega)) ?_
          have jn93 : ∀ (d2 : Nat) (gj128 : Nat → va_E) (hj129 : PI L ad gj128 s sn k hs m t9) (hd2 : d2 < 64), GW L E 40 ad gj128 (10 + 10 * kk + 4) (60 + 60 * kk + 24) 175 [(9, .int (nI (z9 % 13))), (8, .int (nI z9)), (7, .int (nI kk)), (6, .int (nI dd)), (5, .int od), (4, .int 1), (3, .int (nI n9)), (0, .ref (ad 0)), (1, .int x), (2, .int y)] [.int (nI d2)] := by
            intro d2 gj128 hj129 hd2
            refine G_istore C (lo' := [(6, .int (nI d2)), (9, .int (nI (z9 % 13))), (8, .int (nI z9)), (7, .int (nI kk)), (5, .int od), (4, .int 1), (3, .int (nI n9)), (0, .ref (ad 0)), (1, .int x), (2, .int y)]) dL_reads_175 (by decide) rfl ?_
            refine G_aload_n C 0 dL_reads_177 rfl rfl ?_
            refine G_iload C dL_reads_178 rfl ?_
            refine G_iconst C (v := 3) dL_reads_180 (by decide) ?_
            have jn181 : ∀ (lc : Int32) (gj130 : Nat → va_E) (hj131 : PI L ad gj130 s sn k hs m t9) (hlc : lc = 108 ∨ lc = 116 ∨ lc = 109 ∨ lc = 98), GW L E 40 ad gj130 (10 + 10 * kk + 4) (60 + 60 * kk + 24) 214 [(6, .int (nI d2)), (9, .int (nI (z9 % 13))), (8, .int (nI z9)), (7, .int (nI kk)), (5, .int od), (4, .int 1), (3, .int (nI n9)), (0, .ref (ad 0)), (1, .int x), (2, .int y)] [.int lc, .ref (ad 0)] := by
              intro lc gj130 hj131 hlc
              refine G_pcX C hj131.h0 (As := [.int lc]) (rest := []) (p_type  hj131 (by omega) (lc_ok hlc).1 (lc_ok hlc).2.1) ca_X8_type km_L_68 rfl rfl (by decide) (Nat.le_of_ble_eq_true rfl) ⟨by show 10 + 10 * kk + 4 + 1 ≤ 170; omega, by show 60 + 60 * kk + 24 + 6 ≤ 1020; omega⟩ dL_reads_214 (fun vv133 gg132 qq134 => ?_)
              obtain ⟨rfl, hI135⟩ := qq134
              refine GW.topr (y := nI (m + 1)) (rfl) ?_
              refine G_if_le C 295 dL_reads_217 (by decide) (fun c217 => False.elim (nI_nle2 (a := 0) (by omega) (by omega) (by omega) c217)) (fun c217 => ?_)
              refine G_iload C dL_reads_220 rfl ?_
              refine G_bipush C (v := 10) dL_reads_222 (by decide) ?_
              refine G_icmp_lt C 242 dL_reads_224 (by decide) (fun c224 => ?_) (fun c224 => ?_)
              · refine G_aload_n C 0 dL_reads_242 rfl rfl ?_
                refine G_bipush C (v := 48) dL_reads_243 (by decide) ?_
                refine G_iload C dL_reads_245 rfl ?_
                refine G_bipush C (v := 10) dL_reads_247 (by decide) ?_
                refine G_irem C dL_reads_249 (by decide) ?_
                refine GW.topr (y := nI (d2 % 10)) (pk_rem (d := 10) (by omega) (by omega) (by omega)) ?_
                refine G_iadd C dL_reads_250 ?_
                refine GW.topr (cI_add (a := 48) (b := (d2 % 10)) rfl rfl) ?_
                refine G_pcX C hI135.h0 (As := [.int (nI (48 + (d2 % 10)))]) (rest := []) (p_type  hI135 (by omega) (dg_ok (d2 % 10) (by omega)).1 (dg_ok (d2 % 10) (by omega)).2.1) ca_X8_type km_L_68 rfl rfl (by decide) (Nat.le_of_ble_eq_true rfl) ⟨by show 10 + 10 * kk + 4 + 1 + 1 ≤ 170; omega, by show 60 + 60 * kk + 24 + 6 + 6 ≤ 1020; omega⟩ dL_reads_251 (fun vv137 gg136 qq138 => ?_)
                obtain ⟨rfl, hI139⟩ := qq138
                refine GW.topr (y := nI (m + 1 + 1)) (rfl) ?_
                refine G_if_le C 295 dL_reads_254 (by decide) (fun c254 => False.elim (nI_nle2 (a := 0) (by omega) (by omega) (by omega) c254)) (fun c254 => ?_)
                refine G_aload_n C 0 dL_reads_257 rfl rfl ?_
                refine G_iload C dL_reads_258 rfl ?_
                refine G_iload_n C 3 dL_reads_260 rfl rfl ?_
                refine G_iconst C (v := 1) dL_reads_261 (by decide) ?_
                refine G_isub C dL_reads_262 ?_
                have jn263 : ∀ (ec : Int32) (gj140 : Nat → va_E) (hj141 : PI L ad gj140 s sn k hs (m + 1 + 1) (upd (upd t9 m lc) (m + 1) (nI (48 + d2 % 10)))) (hec : ec = 46 ∨ ec = 59), GW L E 40 ad gj140 (10 + 10 * kk + 8) (60 + 60 * kk + 48) 285 [(6, .int (nI d2)), (9, .int (nI (z9 % 13))), (8, .int (nI z9)), (7, .int (nI kk)), (5, .int od), (4, .int 1), (3, .int (nI n9)), (0, .ref (ad 0)), (1, .int x), (2, .int y)] [.int ec, .ref (ad 0)] := by
                  intro ec gj140 hj141 hec
                  refine G_pcX C hj141.h0 (As := [.int ec]) (rest := []) (p_type  hj141 (by omega) (ec_ok hec).1 (ec_ok hec).2.1) ca_X8_type km_L_68 rfl rfl (by decide) (Nat.le_of_ble_eq_true rfl) ⟨by show 10 + 10 * kk + 8 + 1 ≤ 170; omega, by show 60 + 60 * kk + 48 + 6 ≤ 1020; omega⟩ dL_reads_285 (fun vv143 gg142 qq144 => ?_)
                  obtain ⟨rfl, hI145⟩ := qq144
                  refine GW.topr (y := nI (m + 1 + 1 + 1)) (rfl) ?_
                  refine G_if_le C 295 dL_reads_288 (by decide) (fun c288 => False.elim (nI_nle2 (a := 0) (by omega) (by omega) (by omega) c288)) (fun c288 => ?_)
                  refine G_iconst C (v := 1) dL_reads_291 (by decide) ?_
                  refine G_goto C 296 dL_reads_292 (by decide) ?_
                  refine G_istore C (lo' := [(4, .int 1), (6, .int (nI d2)), (9, .int (nI (z9 % 13))), (8, .int (nI z9)), (7, .int (nI kk)), (5, .int od), (3, .int (nI n9)), (0, .ref (ad 0)), (1, .int x), (2, .int y)]) dL_reads_296 (by decide) rfl ?_
                  refine G_iinc C (v := nI (kk + 1)) (lo' := [(7, .int (nI (kk + 1))), (4, .int 1), (6, .int (nI d2)), (9, .int (nI (z9 % 13))), (8, .int (nI z9)), (5, .int od), (3, .int (nI n9)), (0, .ref (ad 0)), (1, .int x), (2, .int y)]) dL_reads_298 rfl (nI_add _ _) (by decide) rfl ?_
                  refine G_goto C 53 dL_reads_301 (by decide) ?_
                  refine GW.pick [0, 2, 5, 1, 6, 7, 8, 9] [(7, .int (nI (kk + 1))), (6, .int (nI d2)), (5, .int od), (4, .int 1), (3, .int (nI n9)), (0, .ref (ad 0)), (1, .int x), (2, .int y)] rfl ?_
                  refine GW.widen (c1 := 10 + 10 * (kk + 1)) (s1 := 60 + 60 * (kk + 1)) (by show 10 + 10 * kk + 8 + 1 ≤ 10 + 10 * (kk + 1); omega) (by show 60 + 60 * kk + 48 + 6 ≤ 60 + 60 * (kk + 1); omega) ?_
                  exact ih53 (kk + 1) d2 (m + 1 + 1 + 1) (upd (upd (upd t9 m lc) (m + 1) (nI (48 + d2 % 10))) (m + 1 + 1) ec) gg142 hI145 (by omega) (by omega) (hd2) (txN_1 ht (lc_ok hlc).2.2 (dg_ok (d2 % 10) (by omega)).2.2 (ec_ok hec).2.2)
                refine G_icmp_ne C 283 dL_reads_263 (by decide) (fun c263 => ?_) (fun c263 => ?_)
                · refine G_bipush C (v := 59) dL_reads_283 (by decide) ?_
                  refine GW.widen (c1 := 10 + 10 * kk + 8) (s1 := 60 + 60 * kk + 48) (by show 10 + 10 * kk + 4 + 1 + 1 ≤ 10 + 10 * kk + 8; omega) (by show 60 + 60 * kk + 24 + 6 + 6 ≤ 60 + 60 * kk + 48; omega) ?_
                  exact jn263 59 gg136 hI139 (by decide)
                · refine G_iload_n C 1 dL_reads_266 rfl rfl ?_
                  refine G_bipush C (v := 26) dL_reads_267 (by decide) ?_
                  refine G_ishr C dL_reads_269 ?_
                  refine G_bipush C (v := 7) dL_reads_270 (by decide) ?_
                  refine G_callS C (As := [.int (x >>> ((26 : Int32) &&& 31)), .int 7]) (rest := [.ref (ad 0)]) (c_L_low (n := 7)  (by omega) (by omega)) ca_L_low km_L_156 rfl rfl (by decide) (Nat.le_of_ble_eq_true rfl) ⟨by show 10 + 10 * kk + 4 + 1 + 1 + 0 ≤ 170; omega, by show 60 + 60 * kk + 24 + 6 + 6 + 0 ≤ 1020; omega⟩ dL_reads_272 (fun vv147 gg146 qq148 => ?_)
                  obtain ⟨g9, hg9, rfl, rfl⟩ := qq148
                  refine G_if_ne C 283 dL_reads_275 (by decide) (fun c275 => ?_) (fun c275 => ?_)
                  · refine G_bipush C (v := 59) dL_reads_283 (by decide) ?_
                    refine GW.widen (c1 := 10 + 10 * kk + 8) (s1 := 60 + 60 * kk + 48) (by show 10 + 10 * kk + 4 + 1 + 1 + 0 ≤ 10 + 10 * kk + 8; omega) (by show 60 + 60 * kk + 24 + 6 + 6 + 0 ≤ 60 + 60 * kk + 48; omega) ?_
                    exact jn263 59 gg136 hI139 (by decide)
                  · refine G_bipush C (v := 46) dL_reads_278 (by decide) ?_
                    refine G_goto C 285 dL_reads_280 (by decide) ?_
                    refine GW.widen (c1 := 10 + 10 * kk + 8) (s1 := 60 + 60 * kk + 48) (by show 10 + 10 * kk + 4 + 1 + 1 + 0 ≤ 10 + 10 * kk + 8; omega) (by show 60 + 60 * kk + 24 + 6 + 6 + 0 ≤ 60 + 60 * kk + 48; omega) ?_
                    exact jn263 46 gg136 hI139 (by decide)
              · refine G_aload_n C 0 dL_reads_227 rfl rfl ?_
                refine G_bipush C (v := 48) dL_reads_228 (by decide) ?_
                refine G_iload C dL_reads_230 rfl ?_
                refine G_bipush C (v := 10) dL_reads_232 (by decide) ?_
                refine G_idiv C dL_reads_234 (by decide) ?_
                refine GW.topr (y := nI (d2 / 10)) (pk_div (d := 10) (by omega) (by omega) (by omega)) ?_
                refine G_iadd C dL_reads_235 ?_
                refine GW.topr (cI_add (a := 48) (b := (d2 / 10)) rfl rfl) ?_
                refine G_pcX C hI135.h0 (As := [.int (nI (48 + (d2 / 10)))]) (rest := []) (p_type  hI135 (by omega) (dg_ok (d2 / 10) (by omega)).1 (dg_ok (d2 / 10) (by omega)).2.1) ca_X8_type km_L_68 rfl rfl (by decide) (Nat.le_of_ble_eq_true rfl) ⟨by show 10 + 10 * kk + 4 + 1 + 1 ≤ 170; omega, by show 60 + 60 * kk + 24 + 6 + 6 ≤ 1020; omega⟩ dL_reads_236 (fun vv150 gg149 qq151 => ?_)
                obtain ⟨rfl, hI152⟩ := qq151
                refine GW.topr (y := nI (m + 1 + 1)) (rfl) ?_
                refine G_if_le C 295 dL_reads_239 (by decide) (fun c239 => False.elim (nI_nle2 (a := 0) (by omega) (by omega) (by omega) c239)) (fun c239 => ?_)
                refine G_aload_n C 0 dL_reads_242 rfl rfl ?_
                refine G_bipush C (v := 48) dL_reads_243 (by decide) ?_
                refine G_iload C dL_reads_245 rfl ?_
                refine G_bipush C (v := 10) dL_reads_247 (by decide) ?_
                refine G_irem C dL_reads_249 (by decide) ?_
                refine GW.topr (y := nI (d2 % 10)) (pk_rem (d := 10) (by omega) (by omega) (by omega)) ?_
                refine G_iadd C dL_reads_250 ?_
                refine GW.topr (cI_add (a := 48) (b := (d2 % 10)) rfl rfl) ?_
                refine G_pcX C hI152.h0 (As := [.int (nI (48 + (d2 % 10)))]) (rest := []) (p_type  hI152 (by omega) (dg_ok (d2 % 10) (by omega)).1 (dg_ok (d2 % 10) (by omega)).2.1) ca_X8_type km_L_68 rfl rfl (by decide) (Nat.le_of_ble_eq_true rfl) ⟨by show 10 + 10 * kk + 4 + 1 + 1 + 1 ≤ 170; omega, by show 60 + 60 * kk + 24 + 6 + 6 + 6 ≤ 1020; omega⟩ dL_reads_251 (fun vv154 gg153 qq155 => ?_)
                obtain ⟨rfl, hI156⟩ := qq155
                refine GW.topr (y := nI (m + 1 + 1 + 1)) (rfl) ?_
                refine G_if_le C 295 dL_reads_254 (by decide) (fun c254 => False.elim (nI_nle2 (a := 0) (by omega) (by omega) (by omega) c254)) (fun c254 => ?_)
                refine G_aload_n C 0 dL_reads_257 rfl rfl ?_
                refine G_iload C dL_reads_258 rfl ?_
                refine G_iload_n C 3 dL_reads_260 rfl rfl ?_
                refine G_iconst C (v := 1) dL_reads_261 (by decide) ?_
                refine G_isub C dL_reads_262 ?_
                have jn263 : ∀ (ec : Int32) (gj157 : Nat → va_E) (hj158 : PI L ad gj157 s sn k hs (m + 1 + 1 + 1) (upd (upd (upd t9 m lc) (m + 1) (nI (48 + d2 / 10))) (m + 1 + 1) (nI (48 + d2 % 10)))) (hec : ec = 46 ∨ ec = 59), GW L E 40 ad gj157 (10 + 10 * kk + 8) (60 + 60 * kk + 48) 285 [(6, .int (nI d2)), (9, .int (nI (z9 % 13))), (8, .int (nI z9)), (7, .int (nI kk)), (5, .int od), (4, .int 1), (3, .int (nI n9)), (0, .ref (ad 0)), (1, .int x), (2, .int y)] [.int ec, .ref (ad 0)] := by
                  intro ec gj157 hj158 hec
                  refine G_pcX C hj158.h0 (As := [.int ec]) (rest := []) (p_type  hj158 (by omega) (ec_ok hec).1 (ec_ok hec).2.1) ca_X8_type km_L_68 rfl rfl (by decide) (Nat.le_of_ble_eq_true rfl) ⟨by show 10 + 10 * kk + 8 + 1 ≤ 170; omega, by show 60 + 60 * kk + 48 + 6 ≤ 1020; omega⟩ dL_reads_285 (fun vv160 gg159 qq161 => ?_)
                  obtain ⟨rfl, hI162⟩ := qq161
                  refine GW.topr (y := nI (m + 1 + 1 + 1 + 1)) (rfl) ?_
                  refine G_if_le C 295 dL_reads_288 (by decide) (fun c288 => False.elim (nI_nle2 (a := 0) (by omega) (by omega) (by omega) c288)) (fun c288 => ?_)
                  refine G_iconst C (v := 1) dL_reads_291 (by decide) ?_
                  refine G_goto C 296 dL_reads_292 (by decide) ?_
                  refine G_istore C (lo' := [(4, .int 1), (6, .int (nI d2)), (9, .int (nI (z9 % 13))), (8, .int (nI z9)), (7, .int (nI kk)), (5, .int od), (3, .int (nI n9)), (0, .ref (ad 0)), (1, .int x), (2, .int y)]) dL_reads_296 (by decide) rfl ?_
                  refine G_iinc C (v := nI (kk + 1)) (lo' := [(7, .int (nI (kk + 1))), (4, .int 1), (6, .int (nI d2)), (9, .int (nI (z9 % 13))), (8, .int (nI z9)), (5, .int od), (3, .int (nI n9)), (0, .ref (ad 0)), (1, .int x), (2, .int y)]) dL_reads_298 rfl (nI_add _ _) (by decide) rfl ?_
                  refine G_goto C 53 dL_reads_301 (by decide) ?_
                  refine GW.pick [0, 2, 5, 1, 6, 7, 8, 9] [(7, .int (nI (kk + 1))), (6, .int (nI d2)), (5, .int od), (4, .int 1), (3, .int (nI n9)), (0, .ref (ad 0)), (1, .int x), (2, .int y)] rfl ?_
                  refine GW.widen (c1 := 10 + 10 * (kk + 1)) (s1 := 60 + 60 * (kk + 1)) (by show 10 + 10 * kk + 8 + 1 ≤ 10 + 10 * (kk + 1); omega) (by show 60 + 60 * kk + 48 + 6 ≤ 60 + 60 * (kk + 1); omega) ?_
                  exact ih53 (kk + 1) d2 (m + 1 + 1 + 1 + 1) (upd (upd (upd (upd t9 m lc) (m + 1) (nI (48 + d2 / 10))) (m + 1 + 1) (nI (48 + d2 % 10))) (m + 1 + 1 + 1) ec) gg159 hI162 (by omega) (by omega) (hd2) (txN_2 ht (lc_ok hlc).2.2 (dg_ok (d2 / 10) (by omega)).2.2 (dg_ok (d2 % 10) (by omega)).2.2)
                refine G_icmp_ne C 283 dL_reads_263 (by decide) (fun c263 => ?_) (fun c263 => ?_)
                · refine G_bipush C (v := 59) dL_reads_283 (by decide) ?_
                  refine GW.widen (c1 := 10 + 10 * kk + 8) (s1 := 60 + 60 * kk + 48) (by show 10 + 10 * kk + 4 + 1 + 1 + 1 ≤ 10 + 10 * kk + 8; omega) (by show 60 + 60 * kk + 24 + 6 + 6 + 6 ≤ 60 + 60 * kk + 48; omega) ?_
                  exact jn263 59 gg153 hI156 (by decide)
                · refine G_iload_n C 1 dL_reads_266 rfl rfl ?_
                  refine G_bipush C (v := 26) dL_reads_267 (by decide) ?_
                  refine G_ishr C dL_reads_269 ?_
                  refine G_bipush C (v := 7) dL_reads_270 (by decide) ?_
                  refine G_callS C (As := [.int (x >>> ((26 : Int32) &&& 31)), .int 7]) (rest := [.ref (ad 0)]) (c_L_low (n := 7)  (by omega) (by omega)) ca_L_low km_L_156 rfl rfl (by decide) (Nat.le_of_ble_eq_true rfl) ⟨by show 10 + 10 * kk + 4 + 1 + 1 + 1 + 0 ≤ 170; omega, by show 60 + 60 * kk + 24 + 6 + 6 + 6 + 0 ≤ 1020; omega⟩ dL_reads_272 (fun vv164 gg163 qq165 => ?_)
                  obtain ⟨g9, hg9, rfl, rfl⟩ := qq165
                  refine G_if_ne C 283 dL_reads_275 (by decide) (fun c275 => ?_) (fun c275 => ?_)
                  · refine G_bipush C (v := 59) dL_reads_283 (by decide) ?_
                    refine GW.widen (c1 := 10 + 10 * kk + 8) (s1 := 60 + 60 * kk + 48) (by show 10 + 10 * kk + 4 + 1 + 1 + 1 + 0 ≤ 10 + 10 * kk + 8; omega) (by show 60 + 60 * kk + 24 + 6 + 6 + 6 + 0 ≤ 60 + 60 * kk + 48; omega) ?_
                    exact jn263 59 gg153 hI156 (by decide)
                  · refine G_bipush C (v := 46) dL_reads_278 (by decide) ?_
                    refine G_goto C 285 dL_reads_280 (by decide) ?_
                    refine GW.widen (c1 := 10 + 10 * kk + 8) (s1 := 60 + 60 * kk + 48) (by show 10 + 10 * kk + 4 + 1 + 1 + 1 + 0 ≤ 10 + 10 * kk + 8; omega) (by show 60 + 60 * kk + 24 + 6 + 6 + 6 + 0 ≤ 60 + 60 * kk + 48; omega) ?_
                    exact jn263 46 gg153 hI156 (by decide)
            refine G_icmp_ge C 189 dL_reads_181 (by decide) (fun c181 => ?_) (fun c181 => ?_)
            · refine G_iload C dL_reads_189 rfl ?_
              refine G_iconst C (v := 4) dL_reads_191 (by decide) ?_
              refine G_icmp_ge C 200 dL_reads_192 (by decide) (fun c192 => ?_) (fun c192 => ?_)
              · refine G_iload C dL_reads_200 rfl ?_
                refine G_bipush C (v := 10) dL_reads_202 (by decide) ?_
                refine G_icmp_ge C 212 dL_reads_204 (by decide) (fun c204 => ?_) (fun c204 => ?_)
                · refine G_bipush C (v := 98) dL_reads_212 (by decide) ?_
                  exact jn181 98 gj128 hj129 (by decide)
                · refine G_bipush C (v := 109) dL_reads_207 (by decide) ?_
                  refine G_goto C 214 dL_reads_209 (by decide) ?_
                  exact jn181 109 gj128 hj129 (by decide)
              · refine G_bipush C (v := 116) dL_reads_195 (by decide) ?_
                refine G_goto C 214 dL_reads_197 (by decide) ?_
                exact jn181 116 gj128 hj129 (by decide)
            · refine G_bipush C (v := 108) dL_reads_184 (by decide) ?_
              refine G_goto C 214 dL_reads_186 (by decide) ?_
              exact jn181 108 gj128 hj129 (by decide)
          refine G_if_ne C 119 dL_reads_93 (by decide) (fun c93 => ?_) (fun c93 => ?_)
          · by_cases hdA : dd < 2
            · refine G_aload_n C 0 dL_reads_119 rfl rfl ?_
              refine G_iload C dL_reads_120 rfl ?_
              refine G_iconst C (v := 2) dL_reads_122 (by decide) ?_
              refine G_icmp_lt C 133 dL_reads_123 (by decide) (fun c123 => ?_) (fun c123 => False.elim (c123 ((cI_lt (a := dd) (b := 2) rfl rfl (by omega) (by omega)).mpr hdA)))
              refine G_iconst C (v := 2) dL_reads_133 (by decide) ?_
              refine G_goto C 139 dL_reads_134 (by decide) ?_
              refine G_callSH C (As := [.ref (ad 0), .int 2]) (rest := []) (v_stoneFrom (d := 2) hI53 (by omega) (by omega)) ca_L_stoneFrom km_L_167 rfl rfl (by decide) (Nat.le_of_ble_eq_true rfl) ⟨by show 10 + 10 * kk + 2 ≤ 170; omega, by show 60 + 60 * kk + 12 ≤ 1020; omega⟩ dL_reads_139 (fun vv167 gg166 qq168 => ?_)
              obtain ⟨rfl, hI169⟩ := qq168
              by_cases hsf : sfF s.1 (61 - 2) 2 ≤ 60
              · refine GW.topr (y := nI (sfF s.1 (61 - 2) 2)) (if_pos hsf) ?_
                refine G_bipush C (v := (-104)) dL_reads_142 (by decide) ?_
                refine G_icmp_ne C 152 dL_reads_144 (by decide) (fun c144 => ?_) (fun c144 => False.elim (nI_m104 (by omega) c144))
                refine G_aload_n C 0 dL_reads_152 rfl rfl ?_
                refine G_iload C dL_reads_153 rfl ?_
                refine G_iconst C (v := 2) dL_reads_155 (by decide) ?_
                refine G_icmp_lt C 166 dL_reads_156 (by decide) (fun c156 => ?_) (fun c156 => False.elim (c156 ((cI_lt (a := dd) (b := 2) rfl rfl (by omega) (by omega)).mpr hdA)))
                refine G_iconst C (v := 2) dL_reads_166 (by decide) ?_
                refine G_goto C 172 dL_reads_167 (by decide) ?_
                refine G_pcX C hI169.h0 (As := [.int 2]) (rest := []) (q_stoneFrom (d := 2) hI169 (by omega) (by omega) hsf) ca_X8_stoneFrom km_L_98 rfl rfl (by decide) (Nat.le_of_ble_eq_true rfl) ⟨by show 10 + 10 * kk + 2 + 2 ≤ 170; omega, by show 60 + 60 * kk + 12 + 12 ≤ 1020; omega⟩ dL_reads_172 (fun vv171 gg170 qq172 => ?_)
                obtain ⟨rfl, hI173⟩ := qq172
                refine GW.widen (c1 := 10 + 10 * kk + 4) (s1 := 60 + 60 * kk + 24) (by show 10 + 10 * kk + 2 + 2 ≤ 10 + 10 * kk + 4; omega) (by show 60 + 60 * kk + 12 + 12 ≤ 60 + 60 * kk + 24; omega) ?_
                exact jn93 (sfF s.1 (61 - 2) 2) gg170 hI173 (by omega)
              · refine GW.topr (y := (-104)) (if_neg hsf) ?_
                refine G_bipush C (v := (-104)) dL_reads_142 (by decide) ?_
                refine G_icmp_ne C 152 dL_reads_144 (by decide) (fun h => absurd h (by decide)) (fun _ => ?_)
                refine G_iload C dL_reads_147 rfl ?_
                refine G_goto C 175 dL_reads_149 (by decide) ?_
                refine GW.widen (c1 := 10 + 10 * kk + 4) (s1 := 60 + 60 * kk + 24) (by show 10 + 10 * kk + 2 ≤ 10 + 10 * kk + 4; omega) (by show 60 + 60 * kk + 12 ≤ 60 + 60 * kk + 24; omega) ?_
                exact jn93 dd gg166 hI169 (by omega)
            · by_cases hdB : 60 < dd
              · refine G_aload_n C 0 dL_reads_119 rfl rfl ?_
                refine G_iload C dL_reads_120 rfl ?_
                refine G_iconst C (v := 2) dL_reads_122 (by decide) ?_
                refine G_icmp_lt C 133 dL_reads_123 (by decide) (fun c123 => False.elim (hdA (nI_ltp (a := 2) (b := dd) (by omega) (by omega) c123))) (fun c123 => ?_)
                refine G_iload C dL_reads_126 rfl ?_
                refine G_bipush C (v := 60) dL_reads_128 (by decide) ?_
                refine G_icmp_le C 137 dL_reads_130 (by decide) (fun c130 => False.elim (nI_nle2 (a := 60) (b := dd) (by omega) (by omega) hdB c130)) (fun c130 => ?_)
                refine G_iconst C (v := 2) dL_reads_133 (by decide) ?_
                refine G_goto C 139 dL_reads_134 (by decide) ?_
                refine G_callSH C (As := [.ref (ad 0), .int 2]) (rest := []) (v_stoneFrom (d := 2) hI53 (by omega) (by omega)) ca_L_stoneFrom km_L_167 rfl rfl (by decide) (Nat.le_of_ble_eq_true rfl) ⟨by show 10 + 10 * kk + 2 ≤ 170; omega, by show 60 + 60 * kk + 12 ≤ 1020; omega⟩ dL_reads_139 (fun vv175 gg174 qq176 => ?_)
                obtain ⟨rfl, hI177⟩ := qq176
                by_cases hsf : sfF s.1 (61 - 2) 2 ≤ 60
                · refine GW.topr (y := nI (sfF s.1 (61 - 2) 2)) (if_pos hsf) ?_
                  refine G_bipush C (v := (-104)) dL_reads_142 (by decide) ?_
                  refine G_icmp_ne C 152 dL_reads_144 (by decide) (fun c144 => ?_) (fun c144 => False.elim (nI_m104 (by omega) c144))
                  refine G_aload_n C 0 dL_reads_152 rfl rfl ?_
                  refine G_iload C dL_reads_153 rfl ?_
                  refine G_iconst C (v := 2) dL_reads_155 (by decide) ?_
                  refine G_icmp_lt C 166 dL_reads_156 (by decide) (fun c156 => False.elim (hdA (nI_ltp (a := 2) (b := dd) (by omega) (by omega) c156))) (fun c156 => ?_)
                  refine G_iload C dL_reads_159 rfl ?_
                  refine G_bipush C (v := 60) dL_reads_161 (by decide) ?_
                  refine G_icmp_le C 170 dL_reads_163 (by decide) (fun c163 => False.elim (nI_nle2 (a := 60) (b := dd) (by omega) (by omega) hdB c163)) (fun c163 => ?_)
                  refine G_iconst C (v := 2) dL_reads_166 (by decide) ?_
                  refine G_goto C 172 dL_reads_167 (by decide) ?_
                  refine G_pcX C hI177.h0 (As := [.int 2]) (rest := []) (q_stoneFrom (d := 2) hI177 (by omega) (by omega) hsf) ca_X8_stoneFrom km_L_98 rfl rfl (by decide) (Nat.le_of_ble_eq_true rfl) ⟨by show 10 + 10 * kk + 2 + 2 ≤ 170; omega, by show 60 + 60 * kk + 12 + 12 ≤ 1020; omega⟩ dL_reads_172 (fun vv179 gg178 qq180 => ?_)
                  obtain ⟨rfl, hI181⟩ := qq180
                  refine GW.widen (c1 := 10 + 10 * kk + 4) (s1 := 60 + 60 * kk + 24) (by show 10 + 10 * kk + 2 + 2 ≤ 10 + 10 * kk + 4; omega) (by show 60 + 60 * kk + 12 + 12 ≤ 60 + 60 * kk + 24; omega) ?_
                  exact jn93 (sfF s.1 (61 - 2) 2) gg178 hI181 (by omega)
                · refine GW.topr (y := (-104)) (if_neg hsf) ?_
                  refine G_bipush C (v := (-104)) dL_reads_142 (by decide) ?_
                  refine G_icmp_ne C 152 dL_reads_144 (by decide) (fun h => absurd h (by decide)) (fun _ => ?_)
                  refine G_iload C dL_reads_147 rfl ?_
                  refine G_goto C 175 dL_reads_149 (by decide) ?_
                  refine GW.widen (c1 := 10 + 10 * kk + 4) (s1 := 60 + 60 * kk + 24) (by show 10 + 10 * kk + 2 ≤ 10 + 10 * kk + 4; omega) (by show 60 + 60 * kk + 12 ≤ 60 + 60 * kk + 24; omega) ?_
                  exact jn93 dd gg174 hI177 (by omega)
              · refine G_aload_n C 0 dL_reads_119 rfl rfl ?_
                refine G_iload C dL_reads_120 rfl ?_
                refine G_iconst C (v := 2) dL_reads_122 (by decide) ?_
                refine G_icmp_lt C 133 dL_reads_123 (by decide) (fun c123 => False.elim (hdA (nI_ltp (a := 2) (b := dd) (by omega) (by omega) c123))) (fun c123 => ?_)
                refine G_iload C dL_reads_126 rfl ?_
                refine G_bipush C (v := 60) dL_reads_128 (by decide) ?_
                refine G_icmp_le C 137 dL_reads_130 (by decide) (fun c130 => ?_) (fun c130 => False.elim (hdB (Nat.lt_of_not_le fun z => c130 ((cI_le (a := dd) (b := 60) rfl rfl (by omega) (by omega)).mpr z))))
                refine G_iload C dL_reads_137 rfl ?_
                refine G_callSH C (As := [.ref (ad 0), .int (nI dd)]) (rest := []) (v_stoneFrom (d := dd) hI53 (by omega) (by omega)) ca_L_stoneFrom km_L_167 rfl rfl (by decide) (Nat.le_of_ble_eq_true rfl) ⟨by show 10 + 10 * kk + 2 ≤ 170; omega, by show 60 + 60 * kk + 12 ≤ 1020; omega⟩ dL_reads_139 (fun vv183 gg182 qq184 => ?_)
                obtain ⟨rfl, hI185⟩ := qq184
                by_cases hsf : sfF s.1 (61 - dd) dd ≤ 60
                · refine GW.topr (y := nI (sfF s.1 (61 - dd) dd)) (if_pos hsf) ?_
                  refine G_bipush C (v := (-104)) dL_reads_142 (by decide) ?_
                  refine G_icmp_ne C 152 dL_reads_144 (by decide) (fun c144 => ?_) (fun c144 => False.elim (nI_m104 (by omega) c144))
                  refine G_aload_n C 0 dL_reads_152 rfl rfl ?_
                  refine G_iload C dL_reads_153 rfl ?_
                  refine G_iconst C (v := 2) dL_reads_155 (by decide) ?_
                  refine G_icmp_lt C 166 dL_reads_156 (by decide) (fun c156 => False.elim (hdA (nI_ltp (a := 2) (b := dd) (by omega) (by omega) c156))) (fun c156 => ?_)
                  refine G_iload C dL_reads_159 rfl ?_
                  refine G_bipush C (v := 60) dL_reads_161 (by decide) ?_
                  refine G_icmp_le C 170 dL_reads_163 (by decide) (fun c163 => ?_) (fun c163 => False.elim (hdB (Nat.lt_of_not_le fun z => c163 ((cI_le (a := dd) (b := 60) rfl rfl (by omega) (by omega)).mpr z))))
                  refine G_iload C dL_reads_170 rfl ?_
                  refine G_pcX C hI185.h0 (As := [.int (nI dd)]) (rest := []) (q_stoneFrom (d := dd) hI185 (by omega) (by omega) hsf) ca_X8_stoneFrom km_L_98 rfl rfl (by decide) (Nat.le_of_ble_eq_true rfl) ⟨by show 10 + 10 * kk + 2 + 2 ≤ 170; omega, by show 60 + 60 * kk + 12 + 12 ≤ 1020; omega⟩ dL_reads_172 (fun vv187 gg186 qq188 => ?_)
                  obtain ⟨rfl, hI189⟩ := qq188
                  refine GW.widen (c1 := 10 + 10 * kk + 4) (s1 := 60 + 60 * kk + 24) (by show 10 + 10 * kk + 2 + 2 ≤ 10 + 10 * kk + 4; omega) (by show 60 + 60 * kk + 12 + 12 ≤ 60 + 60 * kk + 24; omega) ?_
                  exact jn93 (sfF s.1 (61 - dd) dd) gg186 hI189 (by omega)
                · refine GW.topr (y := (-104)) (if_neg hsf) ?_
                  refine G_bipush C (v := (-104)) dL_reads_142 (by decide) ?_
                  refine G_icmp_ne C 152 dL_reads_144 (by decide) (fun h => absurd h (by decide)) (fun _ => ?_)
                  refine G_iload C dL_reads_147 rfl ?_
                  refine G_goto C 175 dL_reads_149 (by decide) ?_
                  refine GW.widen (c1 := 10 + 10 * kk + 4) (s1 := 60 + 60 * kk + 24) (by show 10 + 10 * kk + 2 ≤ 10 + 10 * kk + 4; omega) (by show 60 + 60 * kk + 12 ≤ 60 + 60 * kk + 24; omega) ?_
                  exact jn93 dd gg182 hI185 (by omega)
          · refine G_iload C dL_reads_96 rfl ?_
            refine G_if_eq C 109 dL_reads_98 (by decide) (fun c98 => ?_) (fun c98 => ?_)
            · refine G_iconst C (v := 2) dL_reads_109 (by decide) ?_
              refine G_iload C dL_reads_110 rfl ?_
              refine G_bipush C (v := 59) dL_reads_112 (by decide) ?_
              refine G_irem C dL_reads_114 (by decide) ?_
              refine GW.topr (y := nI (z9 % 59)) (pk_rem (d := 59) (by omega) (by omega) (by omega)) ?_
              refine G_iadd C dL_reads_115 ?_
              refine GW.topr (cI_add (a := 2) (b := (z9 % 59)) rfl rfl) ?_
              refine G_goto C 175 dL_reads_116 (by decide) ?_
              refine GW.widen (c1 := 10 + 10 * kk + 4) (s1 := 60 + 60 * kk + 24) (by show 10 + 10 * kk ≤ 10 + 10 * kk + 4; omega) (by show 60 + 60 * kk ≤ 60 + 60 * kk + 24; omega) ?_
              exact jn93 (2 + (z9 % 59)) G53 hI53 (by omega)
            · refine G_iload C dL_reads_101 rfl ?_
              refine G_bipush C (v := 64) dL_reads_103 (by decide) ?_
              refine G_irem C dL_reads_105 (by decide) ?_
              refine GW.topr (y := nI (z9 % 64)) (pk_rem (d := 64) (by omega) (by omega) (by omega)) ?_
              refine G_goto C 175 dL_reads_106 (by decide) ?_
              refine GW.widen (c1 := 10 + 10 * kk + 4) (s1 := 60 + 60 * kk + 24) (by show 10 + 10 * kk ≤ 10 + 10 * kk + 4; omega) (by show 60 + 60 * kk ≤ 60 + 60 * kk + 24; omega) ?_
              exact jn93 (z9 % 64) G53 hI53 (by omega)
    refine GW.widen (c1 := 10 + 10 * 0) (s1 := 60 + 60 * 0) (by show 4 + 0 ≤ 10 + 10 * 0; omega) (by show 24 + 0 ≤ 60 + 60 * 0; omega) ?_
    exact key53 (n9 + 1) 0 (2 + e9) 0 tx gj11 hj12 (by omega) (Nat.zero_le _) (by omega) ((rfl : (0 : Nat) = 0))
  refine G_if_ne C 37 dL_reads_30 (by decide) (fun c30 => ?_) (fun c30 => ?_)
  · refine G_iconst C (v := 0) dL_reads_37 (by decide) ?_
    refine GW.widen (c1 := 4) (s1 := 24) (by decide) (by decide) ?_
    exact jn30 0 gg4 hI7
  · refine G_iconst C (v := 1) dL_reads_33 (by decide) ?_
    refine G_goto C 38 dL_reads_34 (by decide) ?_
    refine GW.widen (c1 := 4) (s1 := 24) (by decide) (by decide) ?_
    exact jn30 1 gg4 hI7

