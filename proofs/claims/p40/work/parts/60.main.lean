set_option maxRecDepth 100000 in
set_option maxHeartbeats 4000000 in
theorem law_main {L : GL} {E : GE} {ad : Nat → Nat} {G : Nat → va_E} {s0 k0 : HE} {tx0 : Nat → Int32} (C : gC L E cL_law RL 13 room_1) (h31 : L.scr.2.1 < 1000) (hEnd : ∀ (G : Nat → va_E) (cs ss : Nat) (lo : List (Nat × Value)), cs ≤ 691481 → ss ≤ 7026739 → GW L E 40 ad G cs ss 384 lo [.int 1]) (hI : PI L ad G s0 0 k0 [] 0 tx0) : GW L E 40 ad G 40 1800 8 [(1, .ref (ad 0)), (0, .ref L.scr.1)] [] := by
  refine G_lconst C (v := 0) dL_law_8 (by decide) ?_
  refine G_lstore_n C 2 (lo' := [(2, .long 0), (1, .ref (ad 0)), (0, .ref L.scr.1)]) dL_law_9 rfl (by decide) rfl ?_
  refine G_aload_n C 1 dL_law_10 rfl rfl ?_
  refine G_iconst C (v := 0) dL_law_11 (by decide) ?_
  refine G_callS C (As := [.ref (ad 0), .int 0]) (rest := []) (c_L_holds  hI ) ca_L_holds km_L_223 rfl rfl (by decide) (Nat.le_of_ble_eq_true rfl) (by decide) dL_law_12 (fun vv2 gg1 qq3 => ?_)
  obtain ⟨rfl, hI4⟩ := qq3
  refine G_if_eq C 40 dL_law_15 (by decide) (fun h => absurd h (by decide)) (fun _ => ?_)
  refine G_aload_n C 1 dL_law_18 rfl rfl ?_
  refine G_callSH C (As := [.ref (ad 0)]) (rest := []) (v_undo0  hI4 ) ca_L_undo km_L_227 rfl rfl (by decide) (Nat.le_of_ble_eq_true rfl) (by decide) dL_law_19 (fun vv6 gg5 qq7 => ?_)
  obtain ⟨rfl, hI8⟩ := qq7
  refine G_bipush C (v := (-103)) dL_law_22 (by decide) ?_
  refine G_icmp_ne C 40 dL_law_24 (by decide) (fun h => absurd h (by decide)) (fun _ => ?_)
  refine G_aload_n C 1 dL_law_27 rfl rfl ?_
  refine G_callSH C (As := [.ref (ad 0)]) (rest := []) (v_goBackN  hI8 rfl) ca_L_goBack km_L_229 rfl rfl (by decide) (Nat.le_of_ble_eq_true rfl) (by decide) dL_law_28 (fun vv10 gg9 qq11 => ?_)
  obtain ⟨rfl, hI12⟩ := qq11
  refine G_bipush C (v := (-103)) dL_law_31 (by decide) ?_
  refine G_icmp_ne C 40 dL_law_33 (by decide) (fun h => absurd h (by decide)) (fun _ => ?_)
  refine G_iconst C (v := 1) dL_law_36 (by decide) ?_
  refine G_goto C 41 dL_law_37 (by decide) ?_
  refine G_istore C (lo' := [(4, .int 1), (2, .long 0), (1, .ref (ad 0)), (0, .ref L.scr.1)]) dL_law_41 (by decide) rfl ?_
  refine G_iconst C (v := 0) dL_law_43 (by decide) ?_
  refine G_istore C (lo' := [(5, .int 0), (4, .int 1), (2, .long 0), (1, .ref (ad 0)), (0, .ref L.scr.1)]) dL_law_44 (by decide) rfl ?_
  have key46 : ∀ (n : Nat) (i : Nat) (s : HE) (sn : Int32) (k : HE) (hs : List HE) (len : Nat) (tx : Nat → Int32) (kp9 : Int64) (G46 : Nat → va_E) (hI46 : PI L ad G46 s sn k hs len tx) (hn : 58 - i < n) (hi : i ≤ 58) (hsn : 9 < i → ¬ sn = 0 ∧ kp9 = lookS k), GW L E 40 ad G46 (31100 + 1600 * i + 31000 * ((i + 5) / 6)) (192000 + 9600 * i + 190000 * ((i + 5) / 6)) 46 [(5, .int (nI i)), (4, .int 1), (2, .long kp9), (1, .ref (ad 0)), (0, .ref L.scr.1)] [] := by
    intro n
    induction n with
    | zero =>
      intro i s sn k hs len tx kp9 G46 hI46 hn hi hsn
      exact absurd hn (Nat.not_lt_zero _)
    | succ n ih46 =>
      intro i s sn k hs len tx kp9 G46 hI46 hn hi hsn
      refine G_iload C dL_law_46 rfl ?_
      refine G_bipush C (v := 58) dL_law_48 (by decide) ?_
      refine G_icmp_ge C 366 dL_law_50 (by decide) (fun c50 => ?_) (fun c50 => ?_)
      · have c50n : 58 ≤ i := (cI_le (a := 58) (b := i) rfl rfl (by omega) (by omega)).mp c50
        refine G_iload C dL_law_366 rfl ?_
        refine G_if_eq C 383 dL_law_368 (by decide) (fun h => absurd h (by decide)) (fun _ => ?_)
        refine G_aload_n C 1 dL_law_371 rfl rfl ?_
        refine G_iconst C (v := 5) dL_law_372 (by decide) ?_
        refine G_callS C (As := [.ref (ad 0), .int 5]) (rest := []) (c_L_holds  hI46 ) ca_L_holds km_L_223 rfl rfl (by decide) (Nat.le_of_ble_eq_true rfl) ⟨by show 31100 + 1600 * i + 31000 * ((i + 5) / 6) + 31000 ≤ 691481; omega, by show 192000 + 9600 * i + 190000 * ((i + 5) / 6) + 190000 ≤ 7026739; omega⟩ dL_law_373 (fun vv14 gg13 qq15 => ?_)
        obtain ⟨rfl, hI16⟩ := qq15
        refine G_if_eq C 383 dL_law_376 (by decide) (fun h => absurd h (by decide)) (fun _ => ?_)
        refine G_iconst C (v := 1) dL_law_379 (by decide) ?_
        refine G_goto C 384 dL_law_380 (by decide) ?_
        exact hEnd _ _ _ _ (by show 31100 + 1600 * i + 31000 * ((i + 5) / 6) + 31000 ≤ 691481; omega) (by show 192000 + 9600 * i + 190000 * ((i + 5) / 6) + 190000 ≤ 7026739; omega)
      · have c50n : ¬ 58 ≤ i := fun z => c50 ((cI_le (a := 58) (b := i) rfl rfl (by omega) (by omega)).mpr z)
        refine G_iload C dL_law_53 rfl ?_
        refine G_if_eq C 366 dL_law_55 (by decide) (fun h => absurd h (by decide)) (fun _ => ?_)
        refine G_aload_n C 0 dL_law_58 rfl rfl ?_
        refine G_iconst C (v := 2) dL_law_59 (by decide) ?_
        refine G_iload C dL_law_60 rfl ?_
        refine G_imul C dL_law_62 ?_
        refine GW.topr (cI_mul (a := 2) (b := i) rfl rfl) ?_
        refine G_callS C (As := [.ref L.scr.1, .int (nI (2 * i))]) (rest := []) (c_L_lot (i := 2 * i)  (by omega) h31) ca_L_lot km_L_231 rfl rfl (by decide) (Nat.le_of_ble_eq_true rfl) ⟨by show 31100 + 1600 * i + 31000 * ((i + 5) / 6) + 0 ≤ 691481; omega, by show 192000 + 9600 * i + 190000 * ((i + 5) / 6) + 0 ≤ 7026739; omega⟩ dL_law_63 (fun vv18 gg17 qq19 => ?_)
        obtain ⟨r6, rfl, rfl⟩ := qq19
        refine G_istore C (lo' := [(6, .int r6), (5, .int (nI i)), (4, .int 1), (2, .long kp9), (1, .ref (ad 0)), (0, .ref L.scr.1)]) dL_law_66 (by decide) rfl ?_
        refine G_aload_n C 0 dL_law_68 rfl rfl ?_
        refine G_iconst C (v := 2) dL_law_69 (by decide) ?_
        refine G_iload C dL_law_70 rfl ?_
        refine G_imul C dL_law_72 ?_
        refine GW.topr (cI_mul (a := 2) (b := i) rfl rfl) ?_
        refine G_iconst C (v := 1) dL_law_73 (by decide) ?_
        refine G_iadd C dL_law_74 ?_
        refine GW.topr (cI_add (a := (2 * i)) (b := 1) rfl rfl) ?_
        refine G_callS C (As := [.ref L.scr.1, .int (nI ((2 * i) + 1))]) (rest := []) (c_L_lot (i := 2 * i + 1)  (by omega) h31) ca_L_lot km_L_231 rfl rfl (by decide) (Nat.le_of_ble_eq_true rfl) ⟨by show 31100 + 1600 * i + 31000 * ((i + 5) / 6) + 0 + 0 ≤ 691481; omega, by show 192000 + 9600 * i + 190000 * ((i + 5) / 6) + 0 + 0 ≤ 7026739; omega⟩ dL_law_75 (fun vv21 gg20 qq22 => ?_)
        obtain ⟨r7, rfl, rfl⟩ := qq22
        refine G_istore C (lo' := [(7, .int r7), (6, .int r6), (5, .int (nI i)), (4, .int 1), (2, .long kp9), (1, .ref (ad 0)), (0, .ref L.scr.1)]) dL_law_78 (by decide) rfl ?_
        refine G_aload_n C 1 dL_law_80 rfl rfl ?_
        refine G_callS C (As := [.ref (ad 0)]) (rest := []) (c_L_look  hI46 ) ca_L_look km_L_235 rfl rfl (by decide) (Nat.le_of_ble_eq_true rfl) ⟨by show 31100 + 1600 * i + 31000 * ((i + 5) / 6) + 0 + 0 + 200 ≤ 691481; omega, by show 192000 + 9600 * i + 190000 * ((i + 5) / 6) + 0 + 0 + 1200 ≤ 7026739; omega⟩ dL_law_81 (fun vv24 gg23 qq25 => ?_)
        obtain ⟨rfl, hI26⟩ := qq25
        refine G_lstore C (lo' := [(8, .long (lookS s)), (7, .int r7), (6, .int r6), (5, .int (nI i)), (4, .int 1), (2, .long kp9), (1, .ref (ad 0)), (0, .ref L.scr.1)]) dL_law_84 (by decide) rfl ?_
        refine G_aload_n C 1 dL_law_86 rfl rfl ?_
        refine G_pcM C hI26.h0 (As := []) (rest := []) (p_states  hI26 ) ca_X8_states km_L_162 rfl rfl (by decide) (Nat.le_of_ble_eq_true rfl) ⟨by show 31100 + 1600 * i + 31000 * ((i + 5) / 6) + 0 + 0 + 200 + 0 ≤ 691481; omega, by show 192000 + 9600 * i + 190000 * ((i + 5) / 6) + 0 + 0 + 1200 + 0 ≤ 7026739; omega⟩ dL_law_87 (fun vv28 gg27 qq29 => ?_)
        obtain ⟨rfl, hI30⟩ := qq29
        refine G_istore C (lo' := [(10, .int (nI hs.length)), (8, .long (lookS s)), (7, .int r7), (6, .int r6), (5, .int (nI i)), (4, .int 1), (2, .long kp9), (1, .ref (ad 0)), (0, .ref L.scr.1)]) dL_law_90 (by decide) rfl ?_
        refine G_aload_n C 1 dL_law_92 rfl rfl ?_
        refine G_iload C dL_law_93 rfl ?_
        refine G_iload C dL_law_95 rfl ?_
        refine G_callS C (As := [.ref (ad 0), .int r6, .int r7]) (rest := []) (c_L_acts  hI30 ) ca_L_acts km_L_239 rfl rfl (by decide) (Nat.le_of_ble_eq_true rfl) ⟨by show 31100 + 1600 * i + 31000 * ((i + 5) / 6) + 0 + 0 + 200 + 0 + 300 ≤ 691481; omega, by show 192000 + 9600 * i + 190000 * ((i + 5) / 6) + 0 + 0 + 1200 + 0 + 1800 ≤ 7026739; omega⟩ dL_law_97 (fun vv32 gg31 qq33 => ?_)
        obtain ⟨s2, hs2, l2, t2, hac, rfl, hI34⟩ := qq33
        refine G_if_eq C 126 dL_law_100 (by decide) (fun h => absurd h (by decide)) (fun _ => ?_)
        have jn103 : ∀  (gj35 : Nat → va_E) (hj36 : PI L ad gj35 s2 sn k hs2 l2 t2) , GW L E 40 ad gj35 (31100 + 1600 * i + 31000 * ((i + 6) / 6) + 520) (192000 + 9600 * i + 190000 * ((i + 6) / 6) + 3120) 122 [(10, .int (nI hs.length)), (8, .long (lookS s)), (7, .int r7), (6, .int r6), (5, .int (nI i)), (4, .int 1), (2, .long kp9), (1, .ref (ad 0)), (0, .ref L.scr.1)] [] := by
          intro  gj35 hj36
          have h40 := hI46.g.2.2.2.1
          have jn122 : ∀ (s3 : HE) (hs3 : List HE) (gj37 : Nat → va_E) (hj38 : PI L ad gj37 s3 sn k hs3 l2 t2) , GW L E 40 ad gj37 (31100 + 1600 * i + 31000 * ((i + 6) / 6) + 1000) (192000 + 9600 * i + 190000 * ((i + 6) / 6) + 6000) 231 [(5, .int (nI i)), (4, .int 1), (2, .long kp9), (1, .ref (ad 0)), (0, .ref L.scr.1)] [] := by
            intro s3 hs3 gj37 hj38
            have jn231 : ∀ (sn4 : Int32) (k4 : HE) (kept4 : Int64) (gj39 : Nat → va_E) (hj40 : PI L ad gj39 s3 sn4 k4 hs3 l2 t2) (hs4 : 9 ≤ i → ¬ sn4 = 0 ∧ kept4 = lookS k4), GW L E 40 ad gj39 (31100 + 1600 * i + 31000 * ((i + 6) / 6) + 1210) (192000 + 9600 * i + 190000 * ((i + 6) / 6) + 7300) 269 [(5, .int (nI i)), (4, .int 1), (2, .long kept4), (1, .ref (ad 0)), (0, .ref L.scr.1)] [] := by
              intro sn4 k4 kept4 gj39 hj40 hs4
              have jn269 : ∀ (s5 : HE) (hs5 : List HE) (gj41 : Nat → va_E) (hj42 : PI L ad gj41 s5 sn4 k4 hs5 l2 t2) , GW L E 40 ad gj41 (31100 + 1600 * i + 31000 * ((i + 6) / 6) + 1430) (192000 + 9600 * i + 190000 * ((i + 6) / 6) + 8600) 311 [(5, .int (nI i)), (4, .int 1), (2, .long kept4), (1, .ref (ad 0)), (0, .ref L.scr.1)] [] := by
                intro s5 hs5 gj41 hj42
                have jn311 : ∀ (s6 : HE) (hs6 : List HE) (gj43 : Nat → va_E) (hj44 : PI L ad gj43 s6 sn4 k4 hs6 l2 t2) , GW L E 40 ad gj43 (31100 + 1600 * i + 31000 * ((i + 6) / 6) + 1500) (192000 + 9600 * i + 190000 * ((i + 6) / 6) + 9000) 360 [(5, .int (nI i)), (4, .int 1), (2, .long kept4), (1, .ref (ad 0)), (0, .ref L.scr.1)] [] := by
                  intro s6 hs6 gj43 hj44
                  refine G_iinc C (v := nI (i + 1)) (lo' := [(5, .int (nI (i + 1))), (4, .int 1), (2, .long kept4), (1, .ref (ad 0)), (0, .ref L.scr.1)]) dL_law_360 rfl (nI_add _ _) (by decide) rfl ?_
                  refine G_goto C 46 dL_law_363 (by decide) ?_
                  refine GW.widen (c1 := 31100 + 1600 * (i + 1) + 31000 * ((i + 1 + 5) / 6)) (s1 := 192000 + 9600 * (i + 1) + 190000 * ((i + 1 + 5) / 6)) (by show 31100 + 1600 * i + 31000 * ((i + 6) / 6) + 1500 ≤ 31100 + 1600 * (i + 1) + 31000 * ((i + 1 + 5) / 6); omega) (by show 192000 + 9600 * i + 190000 * ((i + 6) / 6) + 9000 ≤ 192000 + 9600 * (i + 1) + 190000 * ((i + 1 + 5) / 6); omega) ?_
                  exact ih46 (i + 1) s6 sn4 k4 hs6 l2 t2 kept4 gj43 hj44 (by omega) (by omega) (fun h => hs4 (by omega))
                refine G_iload C dL_law_311 rfl ?_
                refine G_if_eq C 360 dL_law_313 (by decide) (fun h => absurd h (by decide)) (fun _ => ?_)
                refine G_iload C dL_law_316 rfl ?_
                refine G_bipush C (v := 9) dL_law_318 (by decide) ?_
                refine G_irem C dL_law_320 (by decide) ?_
                refine GW.topr (y := nI (i % 9)) (pk_rem (d := 9) (by omega) (by omega) (by omega)) ?_
                refine G_bipush C (v := 8) dL_law_321 (by decide) ?_
                refine G_icmp_ne C 360 dL_law_323 (by decide) (fun c323 => ?_) (fun c323 => ?_)
                · have c323n : ¬ (i % 9) = 8 := fun z => c323 ((cI_eq (a := (i % 9)) (b := 8) rfl rfl (by omega) (by omega)).mpr z)
                  refine GW.widen (c1 := 31100 + 1600 * i + 31000 * ((i + 6) / 6) + 1500) (s1 := 192000 + 9600 * i + 190000 * ((i + 6) / 6) + 9000) (by show 31100 + 1600 * i + 31000 * ((i + 6) / 6) + 1430 ≤ 31100 + 1600 * i + 31000 * ((i + 6) / 6) + 1500; omega) (by show 192000 + 9600 * i + 190000 * ((i + 6) / 6) + 8600 ≤ 192000 + 9600 * i + 190000 * ((i + 6) / 6) + 9000; omega) ?_
                  exact jn311 s5 hs5 gj41 hj42
                · have c323n : (i % 9) = 8 := (cI_eq (a := (i % 9)) (b := 8) rfl rfl (by omega) (by omega)).mp c323
                  rcases hs_cases hs5 with rfl | ⟨h0, e0, rfl⟩
                  · refine G_aload_n C 1 dL_law_326 rfl rfl ?_
                    refine G_pcM C hj42.h0 (As := []) (rest := []) (p_states  hj42 ) ca_X8_states km_L_162 rfl rfl (by decide) (Nat.le_of_ble_eq_true rfl) ⟨by show 31100 + 1600 * i + 31000 * ((i + 6) / 6) + 1430 + 0 ≤ 691481; omega, by show 192000 + 9600 * i + 190000 * ((i + 6) / 6) + 8600 + 0 ≤ 7026739; omega⟩ dL_law_327 (fun vv46 gg45 qq47 => ?_)
                    obtain ⟨rfl, hI48⟩ := qq47
                    refine GW.topr (y := 0) (rfl) ?_
                    refine G_istore C (lo' := [(12, .int 0), (5, .int (nI i)), (4, .int 1), (2, .long kept4), (1, .ref (ad 0)), (0, .ref L.scr.1)]) dL_law_330 (by decide) rfl ?_
                    refine G_aload_n C 1 dL_law_332 rfl rfl ?_
                    refine G_callSH C (As := [.ref (ad 0)]) (rest := []) (v_undo0  hI48 ) ca_L_undo km_L_227 rfl rfl (by decide) (Nat.le_of_ble_eq_true rfl) ⟨by show 31100 + 1600 * i + 31000 * ((i + 6) / 6) + 1430 + 0 + 1 ≤ 691481; omega, by show 192000 + 9600 * i + 190000 * ((i + 6) / 6) + 8600 + 0 + 6 ≤ 7026739; omega⟩ dL_law_333 (fun vv50 gg49 qq51 => ?_)
                    obtain ⟨rfl, hI52⟩ := qq51
                    refine G_iload C dL_law_336 rfl ?_
                    refine G_if_ne C 346 dL_law_338 (by decide) (fun h => absurd h (by decide)) (fun _ => ?_)
                    refine G_bipush C (v := (-103)) dL_law_341 (by decide) ?_
                    refine G_goto C 350 dL_law_343 (by decide) ?_
                    refine G_icmp_ne C 357 dL_law_350 (by decide) (fun h => absurd h (by decide)) (fun _ => ?_)
                    refine G_iconst C (v := 1) dL_law_353 (by decide) ?_
                    refine G_goto C 358 dL_law_354 (by decide) ?_
                    refine G_istore C (lo' := [(4, .int 1), (12, .int 0), (5, .int (nI i)), (2, .long kept4), (1, .ref (ad 0)), (0, .ref L.scr.1)]) dL_law_358 (by decide) rfl ?_
                    refine GW.pick [2, 0, 3, 4, 5] [(5, .int (nI i)), (4, .int 1), (2, .long kept4), (1, .ref (ad 0)), (0, .ref L.scr.1)] rfl ?_
                    refine GW.widen (c1 := 31100 + 1600 * i + 31000 * ((i + 6) / 6) + 1500) (s1 := 192000 + 9600 * i + 190000 * ((i + 6) / 6) + 9000) (by show 31100 + 1600 * i + 31000 * ((i + 6) / 6) + 1430 + 0 + 1 ≤ 31100 + 1600 * i + 31000 * ((i + 6) / 6) + 1500; omega) (by show 192000 + 9600 * i + 190000 * ((i + 6) / 6) + 8600 + 0 + 6 ≤ 192000 + 9600 * i + 190000 * ((i + 6) / 6) + 9000; omega) ?_
                    exact jn311 s5 ([]) gg49 hI52
                  · have h04 : h0.length + 1 ≤ 4 := by have h9 := hj42.g.2.2.2.1; rw [List.length_append] at h9; exact h9
                    refine G_aload_n C 1 dL_law_326 rfl rfl ?_
                    refine G_pcM C hj42.h0 (As := []) (rest := []) (p_states  hj42 ) ca_X8_states km_L_162 rfl rfl (by decide) (Nat.le_of_ble_eq_true rfl) ⟨by show 31100 + 1600 * i + 31000 * ((i + 6) / 6) + 1430 + 0 ≤ 691481; omega, by show 192000 + 9600 * i + 190000 * ((i + 6) / 6) + 8600 + 0 ≤ 7026739; omega⟩ dL_law_327 (fun vv54 gg53 qq55 => ?_)
                    obtain ⟨rfl, hI56⟩ := qq55
                    refine GW.topr (y := nI (h0.length + 1)) (by rw [List.length_append]; rfl) ?_
                    refine G_istore C (lo' := [(12, .int (nI (h0.length + 1))), (5, .int (nI i)), (4, .int 1), (2, .long kept4), (1, .ref (ad 0)), (0, .ref L.scr.1)]) dL_law_330 (by decide) rfl ?_
                    refine G_aload_n C 1 dL_law_332 rfl rfl ?_
                    refine G_callSH C (As := [.ref (ad 0)]) (rest := []) (v_undoY  hI56 ) ca_L_undo km_L_227 rfl rfl (by decide) (Nat.le_of_ble_eq_true rfl) ⟨by show 31100 + 1600 * i + 31000 * ((i + 6) / 6) + 1430 + 0 + 1 ≤ 691481; omega, by show 192000 + 9600 * i + 190000 * ((i + 6) / 6) + 8600 + 0 + 6 ≤ 7026739; omega⟩ dL_law_333 (fun vv58 gg57 qq59 => ?_)
                    obtain ⟨rfl, hI60⟩ := qq59
                    refine G_iload C dL_law_336 rfl ?_
                    refine G_if_ne C 346 dL_law_338 (by decide) (fun c338 => ?_) (fun c338 => False.elim (absurd (nI_eqp (b := h0.length + 1) (a := 0) (by omega) (by omega) c338) (by omega)))
                    refine G_iload C dL_law_346 rfl ?_
                    refine G_iconst C (v := 1) dL_law_348 (by decide) ?_
                    refine G_isub C dL_law_349 ?_
                    refine GW.topr (y := nI h0.length) (nI_m1 (q := h0.length + 1) (by omega)) ?_
                    refine G_icmp_ne C 357 dL_law_350 (by decide) (fun c350 => False.elim (c350 rfl)) (fun c350 => ?_)
                    refine G_iconst C (v := 1) dL_law_353 (by decide) ?_
                    refine G_goto C 358 dL_law_354 (by decide) ?_
                    refine G_istore C (lo' := [(4, .int 1), (12, .int (nI (h0.length + 1))), (5, .int (nI i)), (2, .long kept4), (1, .ref (ad 0)), (0, .ref L.scr.1)]) dL_law_358 (by decide) rfl ?_
                    refine GW.pick [2, 0, 3, 4, 5] [(5, .int (nI i)), (4, .int 1), (2, .long kept4), (1, .ref (ad 0)), (0, .ref L.scr.1)] rfl ?_
                    refine GW.widen (c1 := 31100 + 1600 * i + 31000 * ((i + 6) / 6) + 1500) (s1 := 192000 + 9600 * i + 190000 * ((i + 6) / 6) + 9000) (by show 31100 + 1600 * i + 31000 * ((i + 6) / 6) + 1430 + 0 + 1 ≤ 31100 + 1600 * i + 31000 * ((i + 6) / 6) + 1500; omega) (by show 192000 + 9600 * i + 190000 * ((i + 6) / 6) + 8600 + 0 + 6 ≤ 192000 + 9600 * i + 190000 * ((i + 6) / 6) + 9000; omega) ?_
                    exact jn311 e0 h0 gg57 hI60
              refine G_iload C dL_law_269 rfl ?_
              refine G_if_eq C 311 dL_law_271 (by decide) (fun h => absurd h (by decide)) (fun _ => ?_)
              refine G_iload C dL_law_274 rfl ?_
              refine G_bipush C (v := 20) dL_law_276 (by decide) ?_
              refine G_irem C dL_law_278 (by decide) ?_
              refine GW.topr (y := nI (i % 20)) (pk_rem (d := 20) (by omega) (by omega) (by omega)) ?_
              refine G_bipush C (v := 19) dL_law_279 (by decide) ?_
              refine G_icmp_ne C 311 dL_law_281 (by decide) (fun c281 => ?_) (fun c281 => ?_)
              · have c281n : ¬ (i % 20) = 19 := fun z => c281 ((cI_eq (a := (i % 20)) (b := 19) rfl rfl (by omega) (by omega)).mpr z)
                refine GW.widen (c1 := 31100 + 1600 * i + 31000 * ((i + 6) / 6) + 1430) (s1 := 192000 + 9600 * i + 190000 * ((i + 6) / 6) + 8600) (by show 31100 + 1600 * i + 31000 * ((i + 6) / 6) + 1210 ≤ 31100 + 1600 * i + 31000 * ((i + 6) / 6) + 1430; omega) (by show 192000 + 9600 * i + 190000 * ((i + 6) / 6) + 7300 ≤ 192000 + 9600 * i + 190000 * ((i + 6) / 6) + 8600; omega) ?_
                exact jn269 s3 hs3 gj39 hj40
              · have c281n : (i % 20) = 19 := (cI_eq (a := (i % 20)) (b := 19) rfl rfl (by omega) (by omega)).mp c281
                refine G_aload_n C 1 dL_law_284 rfl rfl ?_
                refine G_callSH C (As := [.ref (ad 0)]) (rest := []) (v_goBackY  hj40 (hs4 (by omega)).1) ca_L_goBack km_L_229 rfl rfl (by decide) (Nat.le_of_ble_eq_true rfl) ⟨by show 31100 + 1600 * i + 31000 * ((i + 6) / 6) + 1210 + 1 ≤ 691481; omega, by show 192000 + 9600 * i + 190000 * ((i + 6) / 6) + 7300 + 6 ≤ 7026739; omega⟩ dL_law_285 (fun vv62 gg61 qq63 => ?_)
                obtain ⟨rfl, hI64⟩ := qq63
                refine G_aload_n C 1 dL_law_288 rfl rfl ?_
                refine G_pcM C hI64.h0 (As := []) (rest := [.int k4.2.1]) (p_stones  hI64 ) ca_X8_stones km_L_189 rfl rfl (by decide) (Nat.le_of_ble_eq_true rfl) ⟨by show 31100 + 1600 * i + 31000 * ((i + 6) / 6) + 1210 + 1 + 0 ≤ 691481; omega, by show 192000 + 9600 * i + 190000 * ((i + 6) / 6) + 7300 + 6 + 0 ≤ 7026739; omega⟩ dL_law_289 (fun vv66 gg65 qq67 => ?_)
                obtain ⟨rfl, hI68⟩ := qq67
                refine G_icmp_ne C 308 dL_law_292 (by decide) (fun c292 => False.elim (c292 rfl)) (fun c292 => ?_)
                refine G_aload_n C 1 dL_law_295 rfl rfl ?_
                refine G_callS C (As := [.ref (ad 0)]) (rest := []) (c_L_look  hI68 ) ca_L_look km_L_235 rfl rfl (by decide) (Nat.le_of_ble_eq_true rfl) ⟨by show 31100 + 1600 * i + 31000 * ((i + 6) / 6) + 1210 + 1 + 0 + 200 ≤ 691481; omega, by show 192000 + 9600 * i + 190000 * ((i + 6) / 6) + 7300 + 6 + 0 + 1200 ≤ 7026739; omega⟩ dL_law_296 (fun vv70 gg69 qq71 => ?_)
                obtain ⟨rfl, hI72⟩ := qq71
                refine G_lload_n C 2 dL_law_299 rfl rfl ?_
                refine G_lc_ne C 308 dL_law_300 dL_law_301 (by decide) (fun c300 => False.elim (c300 (hs4 (by omega)).2.symm)) (fun c300 => ?_)
                refine G_iconst C (v := 1) dL_law_304 (by decide) ?_
                refine G_goto C 309 dL_law_305 (by decide) ?_
                refine G_istore C (lo' := [(4, .int 1), (5, .int (nI i)), (2, .long kept4), (1, .ref (ad 0)), (0, .ref L.scr.1)]) dL_law_309 (by decide) rfl ?_
                refine GW.pick [1, 0, 2, 3, 4] [(5, .int (nI i)), (4, .int 1), (2, .long kept4), (1, .ref (ad 0)), (0, .ref L.scr.1)] rfl ?_
                refine GW.widen (c1 := 31100 + 1600 * i + 31000 * ((i + 6) / 6) + 1430) (s1 := 192000 + 9600 * i + 190000 * ((i + 6) / 6) + 8600) (by show 31100 + 1600 * i + 31000 * ((i + 6) / 6) + 1210 + 1 + 0 + 200 ≤ 31100 + 1600 * i + 31000 * ((i + 6) / 6) + 1430; omega) (by show 192000 + 9600 * i + 190000 * ((i + 6) / 6) + 7300 + 6 + 0 + 1200 ≤ 192000 + 9600 * i + 190000 * ((i + 6) / 6) + 8600; omega) ?_
                exact jn269 k4 (hpush hs3 s3) gg69 hI72
            refine G_iload C dL_law_231 rfl ?_
            refine G_if_eq C 269 dL_law_233 (by decide) (fun h => absurd h (by decide)) (fun _ => ?_)
            refine G_iload C dL_law_236 rfl ?_
            refine G_bipush C (v := 20) dL_law_238 (by decide) ?_
            refine G_irem C dL_law_240 (by decide) ?_
            refine GW.topr (y := nI (i % 20)) (pk_rem (d := 20) (by omega) (by omega) (by omega)) ?_
            refine G_bipush C (v := 9) dL_law_241 (by decide) ?_
            refine G_icmp_ne C 269 dL_law_243 (by decide) (fun c243 => ?_) (fun c243 => ?_)
            · have c243n : ¬ (i % 20) = 9 := fun z => c243 ((cI_eq (a := (i % 20)) (b := 9) rfl rfl (by omega) (by omega)).mpr z)
              refine GW.widen (c1 := 31100 + 1600 * i + 31000 * ((i + 6) / 6) + 1210) (s1 := 192000 + 9600 * i + 190000 * ((i + 6) / 6) + 7300) (by show 31100 + 1600 * i + 31000 * ((i + 6) / 6) + 1000 ≤ 31100 + 1600 * i + 31000 * ((i + 6) / 6) + 1210; omega) (by show 192000 + 9600 * i + 190000 * ((i + 6) / 6) + 6000 ≤ 192000 + 9600 * i + 190000 * ((i + 6) / 6) + 7300; omega) ?_
              exact jn231 sn k kp9 gj37 hj38 (fun h => hsn (by omega))
            · have c243n : (i % 20) = 9 := (cI_eq (a := (i % 20)) (b := 9) rfl rfl (by omega) (by omega)).mp c243
              refine G_aload_n C 1 dL_law_246 rfl rfl ?_
              refine G_pcM C hj38.h0 (As := []) (rest := []) (p_keep  hj38 ) ca_X8_keep km_L_242 rfl rfl (by decide) (Nat.le_of_ble_eq_true rfl) ⟨by show 31100 + 1600 * i + 31000 * ((i + 6) / 6) + 1000 + 0 ≤ 691481; omega, by show 192000 + 9600 * i + 190000 * ((i + 6) / 6) + 6000 + 0 ≤ 7026739; omega⟩ dL_law_247 (fun vv74 gg73 qq75 => ?_)
              obtain ⟨rfl, hI76⟩ := qq75
              refine G_aload_n C 1 dL_law_250 rfl rfl ?_
              refine G_pcM C hI76.h0 (As := []) (rest := [.int s3.2.1]) (p_stones  hI76 ) ca_X8_stones km_L_189 rfl rfl (by decide) (Nat.le_of_ble_eq_true rfl) ⟨by show 31100 + 1600 * i + 31000 * ((i + 6) / 6) + 1000 + 0 + 0 ≤ 691481; omega, by show 192000 + 9600 * i + 190000 * ((i + 6) / 6) + 6000 + 0 + 0 ≤ 7026739; omega⟩ dL_law_251 (fun vv78 gg77 qq79 => ?_)
              obtain ⟨rfl, hI80⟩ := qq79
              refine G_icmp_ne C 261 dL_law_254 (by decide) (fun c254 => False.elim (c254 rfl)) (fun c254 => ?_)
              refine G_iconst C (v := 1) dL_law_257 (by decide) ?_
              refine G_goto C 262 dL_law_258 (by decide) ?_
              refine G_istore C (lo' := [(4, .int 1), (5, .int (nI i)), (2, .long kp9), (1, .ref (ad 0)), (0, .ref L.scr.1)]) dL_law_262 (by decide) rfl ?_
              refine G_aload_n C 1 dL_law_264 rfl rfl ?_
              refine G_callS C (As := [.ref (ad 0)]) (rest := []) (c_L_look  hI80 ) ca_L_look km_L_235 rfl rfl (by decide) (Nat.le_of_ble_eq_true rfl) ⟨by show 31100 + 1600 * i + 31000 * ((i + 6) / 6) + 1000 + 0 + 0 + 200 ≤ 691481; omega, by show 192000 + 9600 * i + 190000 * ((i + 6) / 6) + 6000 + 0 + 0 + 1200 ≤ 7026739; omega⟩ dL_law_265 (fun vv82 gg81 qq83 => ?_)
              obtain ⟨rfl, hI84⟩ := qq83
              refine G_lstore_n C 2 (lo' := [(2, .long (lookS s3)), (4, .int 1), (5, .int (nI i)), (1, .ref (ad 0)), (0, .ref L.scr.1)]) dL_law_268 rfl (by decide) rfl ?_
              refine GW.pick [2, 1, 0, 3, 4] [(5, .int (nI i)), (4, .int 1), (2, .long (lookS s3)), (1, .ref (ad 0)), (0, .ref L.scr.1)] rfl ?_
              refine GW.widen (c1 := 31100 + 1600 * i + 31000 * ((i + 6) / 6) + 1210) (s1 := 192000 + 9600 * i + 190000 * ((i + 6) / 6) + 7300) (by show 31100 + 1600 * i + 31000 * ((i + 6) / 6) + 1000 + 0 + 0 + 200 ≤ 31100 + 1600 * i + 31000 * ((i + 6) / 6) + 1210; omega) (by show 192000 + 9600 * i + 190000 * ((i + 6) / 6) + 6000 + 0 + 0 + 1200 ≤ 192000 + 9600 * i + 190000 * ((i + 6) / 6) + 7300; omega) ?_
              exact jn231 1 s3 (lookS s3) gg81 hI84 (fun _ => ⟨by decide, rfl⟩)
          refine G_iconst C (v := 1) dL_law_122 (by decide) ?_
          refine G_goto C 127 dL_law_123 (by decide) ?_
          refine G_istore C (lo' := [(4, .int 1), (10, .int (nI hs.length)), (8, .long (lookS s)), (7, .int r7), (6, .int r6), (5, .int (nI i)), (2, .long kp9), (1, .ref (ad 0)), (0, .ref L.scr.1)]) dL_law_127 (by decide) rfl ?_
          rcases hac with ⟨rfl, rfl⟩ | hac
          · have h4 := hj36.g.2.2.2.1
            refine G_aload_n C 1 dL_law_129 rfl rfl ?_
            refine G_pcM C hj36.h0 (As := []) (rest := []) (p_states  hj36 ) ca_X8_states km_L_162 rfl rfl (by decide) (Nat.le_of_ble_eq_true rfl) ⟨by show 31100 + 1600 * i + 31000 * ((i + 6) / 6) + 520 + 0 ≤ 691481; omega, by show 192000 + 9600 * i + 190000 * ((i + 6) / 6) + 3120 + 0 ≤ 7026739; omega⟩ dL_law_130 (fun vv86 gg85 qq87 => ?_)
            obtain ⟨rfl, hI88⟩ := qq87
            refine G_istore C (lo' := [(11, .int (nI hs.length)), (4, .int 1), (10, .int (nI hs.length)), (8, .long (lookS s)), (7, .int r7), (6, .int r6), (5, .int (nI i)), (2, .long kp9), (1, .ref (ad 0)), (0, .ref L.scr.1)]) dL_law_133 (by decide) rfl ?_
            refine G_iload C dL_law_135 rfl ?_
            refine G_if_eq C 176 dL_law_137 (by decide) (fun h => absurd h (by decide)) (fun _ => ?_)
            refine G_iload C dL_law_140 rfl ?_
            refine G_iload C dL_law_142 rfl ?_
            refine G_icmp_ne C 163 dL_law_144 (by decide) (fun c144 => False.elim (c144 rfl)) (fun c144 => ?_)
            refine G_iload C dL_law_147 rfl ?_
            refine G_iconst C (v := 4) dL_law_149 (by decide) ?_
            refine G_icmp_eq C 172 dL_law_150 (by decide) (fun c150 => ?_) (fun c150 => ?_)
            · refine G_iconst C (v := 1) dL_law_172 (by decide) ?_
              refine G_goto C 177 dL_law_173 (by decide) ?_
              refine G_istore C (lo' := [(4, .int 1), (11, .int (nI hs.length)), (10, .int (nI hs.length)), (8, .long (lookS s)), (7, .int r7), (6, .int r6), (5, .int (nI i)), (2, .long kp9), (1, .ref (ad 0)), (0, .ref L.scr.1)]) dL_law_177 (by decide) rfl ?_
              refine G_iload C dL_law_179 rfl ?_
              refine G_if_eq C 231 dL_law_181 (by decide) (fun h => absurd h (by decide)) (fun _ => ?_)
              refine G_iload C dL_law_184 rfl ?_
              refine G_iload C dL_law_186 rfl ?_
              refine G_iconst C (v := 1) dL_law_188 (by decide) ?_
              refine G_iadd C dL_law_189 ?_
              refine GW.topr (cI_add (a := hs.length) (b := 1) rfl rfl) ?_
              refine G_icmp_ne C 231 dL_law_190 (by decide) (fun c190 => ?_) (fun c190 => False.elim (absurd (nI_eqp (b := hs.length) (a := hs.length + 1) (by omega) (by omega) c190) (by omega)))
              refine GW.pick [6, 0, 7, 8, 9] [(5, .int (nI i)), (4, .int 1), (2, .long kp9), (1, .ref (ad 0)), (0, .ref L.scr.1)] rfl ?_
              refine GW.widen (c1 := 31100 + 1600 * i + 31000 * ((i + 6) / 6) + 1000) (s1 := 192000 + 9600 * i + 190000 * ((i + 6) / 6) + 6000) (by show 31100 + 1600 * i + 31000 * ((i + 6) / 6) + 520 + 0 ≤ 31100 + 1600 * i + 31000 * ((i + 6) / 6) + 1000; omega) (by show 192000 + 9600 * i + 190000 * ((i + 6) / 6) + 3120 + 0 ≤ 192000 + 9600 * i + 190000 * ((i + 6) / 6) + 6000; omega) ?_
              exact jn122 s hs gg85 hI88
            · refine G_aload_n C 1 dL_law_153 rfl rfl ?_
              refine G_callS C (As := [.ref (ad 0)]) (rest := []) (c_L_look  hI88 ) ca_L_look km_L_235 rfl rfl (by decide) (Nat.le_of_ble_eq_true rfl) ⟨by show 31100 + 1600 * i + 31000 * ((i + 6) / 6) + 520 + 0 + 200 ≤ 691481; omega, by show 192000 + 9600 * i + 190000 * ((i + 6) / 6) + 3120 + 0 + 1200 ≤ 7026739; omega⟩ dL_law_154 (fun vv90 gg89 qq91 => ?_)
              obtain ⟨rfl, hI92⟩ := qq91
              refine G_lload C dL_law_157 rfl ?_
              refine G_lc_eq C 172 dL_law_159 dL_law_160 (by decide) (fun c159 => ?_) (fun c159 => False.elim (c159 rfl))
              refine G_iconst C (v := 1) dL_law_172 (by decide) ?_
              refine G_goto C 177 dL_law_173 (by decide) ?_
              refine G_istore C (lo' := [(4, .int 1), (11, .int (nI hs.length)), (10, .int (nI hs.length)), (8, .long (lookS s)), (7, .int r7), (6, .int r6), (5, .int (nI i)), (2, .long kp9), (1, .ref (ad 0)), (0, .ref L.scr.1)]) dL_law_177 (by decide) rfl ?_
              refine G_iload C dL_law_179 rfl ?_
              refine G_if_eq C 231 dL_law_181 (by decide) (fun h => absurd h (by decide)) (fun _ => ?_)
              refine G_iload C dL_law_184 rfl ?_
              refine G_iload C dL_law_186 rfl ?_
              refine G_iconst C (v := 1) dL_law_188 (by decide) ?_
              refine G_iadd C dL_law_189 ?_
              refine GW.topr (cI_add (a := hs.length) (b := 1) rfl rfl) ?_
              refine G_icmp_ne C 231 dL_law_190 (by decide) (fun c190 => ?_) (fun c190 => False.elim (absurd (nI_eqp (b := hs.length) (a := hs.length + 1) (by omega) (by omega) c190) (by omega)))
              refine GW.pick [6, 0, 7, 8, 9] [(5, .int (nI i)), (4, .int 1), (2, .long kp9), (1, .ref (ad 0)), (0, .ref L.scr.1)] rfl ?_
              refine GW.widen (c1 := 31100 + 1600 * i + 31000 * ((i + 6) / 6) + 1000) (s1 := 192000 + 9600 * i + 190000 * ((i + 6) / 6) + 6000) (by show 31100 + 1600 * i + 31000 * ((i + 6) / 6) + 520 + 0 + 200 ≤ 31100 + 1600 * i + 31000 * ((i + 6) / 6) + 1000; omega) (by show 192000 + 9600 * i + 190000 * ((i + 6) / 6) + 3120 + 0 + 1200 ≤ 192000 + 9600 * i + 190000 * ((i + 6) / 6) + 6000; omega) ?_
              exact jn122 s hs gg89 hI92
          · by_cases hl4 : hs.length < 4
            · rw [hp_1 hl4] at hac
              subst hac
              refine G_aload_n C 1 dL_law_129 rfl rfl ?_
              refine G_pcM C hj36.h0 (As := []) (rest := []) (p_states  hj36 ) ca_X8_states km_L_162 rfl rfl (by decide) (Nat.le_of_ble_eq_true rfl) ⟨by show 31100 + 1600 * i + 31000 * ((i + 6) / 6) + 520 + 0 ≤ 691481; omega, by show 192000 + 9600 * i + 190000 * ((i + 6) / 6) + 3120 + 0 ≤ 7026739; omega⟩ dL_law_130 (fun vv94 gg93 qq95 => ?_)
              obtain ⟨rfl, hI96⟩ := qq95
              refine GW.topr (y := nI (hs.length + 1)) (by rw [List.length_append]; rfl) ?_
              refine G_istore C (lo' := [(11, .int (nI (hs.length + 1))), (4, .int 1), (10, .int (nI hs.length)), (8, .long (lookS s)), (7, .int r7), (6, .int r6), (5, .int (nI i)), (2, .long kp9), (1, .ref (ad 0)), (0, .ref L.scr.1)]) dL_law_133 (by decide) rfl ?_
              refine G_iload C dL_law_135 rfl ?_
              refine G_if_eq C 176 dL_law_137 (by decide) (fun h => absurd h (by decide)) (fun _ => ?_)
              refine G_iload C dL_law_140 rfl ?_
              refine G_iload C dL_law_142 rfl ?_
              refine G_icmp_ne C 163 dL_law_144 (by decide) (fun c144 => ?_) (fun c144 => False.elim (absurd (nI_eqp (b := hs.length + 1) (a := hs.length) (by omega) (by omega) c144) (by omega)))
              refine G_iload C dL_law_163 rfl ?_
              refine G_iload C dL_law_165 rfl ?_
              refine G_iconst C (v := 1) dL_law_167 (by decide) ?_
              refine G_iadd C dL_law_168 ?_
              refine GW.topr (cI_add (a := hs.length) (b := 1) rfl rfl) ?_
              refine G_icmp_ne C 176 dL_law_169 (by decide) (fun c169 => False.elim (c169 rfl)) (fun c169 => ?_)
              refine G_iconst C (v := 1) dL_law_172 (by decide) ?_
              refine G_goto C 177 dL_law_173 (by decide) ?_
              refine G_istore C (lo' := [(4, .int 1), (11, .int (nI (hs.length + 1))), (10, .int (nI hs.length)), (8, .long (lookS s)), (7, .int r7), (6, .int r6), (5, .int (nI i)), (2, .long kp9), (1, .ref (ad 0)), (0, .ref L.scr.1)]) dL_law_177 (by decide) rfl ?_
              refine G_iload C dL_law_179 rfl ?_
              refine G_if_eq C 231 dL_law_181 (by decide) (fun h => absurd h (by decide)) (fun _ => ?_)
              refine G_iload C dL_law_184 rfl ?_
              refine G_iload C dL_law_186 rfl ?_
              refine G_iconst C (v := 1) dL_law_188 (by decide) ?_
              refine G_iadd C dL_law_189 ?_
              refine GW.topr (cI_add (a := hs.length) (b := 1) rfl rfl) ?_
              refine G_icmp_ne C 231 dL_law_190 (by decide) (fun c190 => False.elim (c190 rfl)) (fun c190 => ?_)
              refine G_iload C dL_law_193 rfl ?_
              refine G_bipush C (v := 8) dL_law_195 (by decide) ?_
              refine G_ishr C dL_law_197 ?_
              refine G_iconst C (v := 4) dL_law_198 (by decide) ?_
              refine G_callS C (As := [.int (r7 >>> ((8 : Int32) &&& 31)), .int 4]) (rest := []) (c_L_low (n := 4)  (by omega) (by omega)) ca_L_low km_L_156 rfl rfl (by decide) (Nat.le_of_ble_eq_true rfl) ⟨by show 31100 + 1600 * i + 31000 * ((i + 6) / 6) + 520 + 0 + 0 ≤ 691481; omega, by show 192000 + 9600 * i + 190000 * ((i + 6) / 6) + 3120 + 0 + 0 ≤ 7026739; omega⟩ dL_law_199 (fun vv98 gg97 qq99 => ?_)
              obtain ⟨b9, hb9, rfl, rfl⟩ := qq99
              refine G_if_ne C 231 dL_law_202 (by decide) (fun c202 => ?_) (fun c202 => ?_)
              · refine GW.pick [6, 0, 7, 8, 9] [(5, .int (nI i)), (4, .int 1), (2, .long kp9), (1, .ref (ad 0)), (0, .ref L.scr.1)] rfl ?_
                refine GW.widen (c1 := 31100 + 1600 * i + 31000 * ((i + 6) / 6) + 1000) (s1 := 192000 + 9600 * i + 190000 * ((i + 6) / 6) + 6000) (by show 31100 + 1600 * i + 31000 * ((i + 6) / 6) + 520 + 0 + 0 ≤ 31100 + 1600 * i + 31000 * ((i + 6) / 6) + 1000; omega) (by show 192000 + 9600 * i + 190000 * ((i + 6) / 6) + 3120 + 0 + 0 ≤ 192000 + 9600 * i + 190000 * ((i + 6) / 6) + 6000; omega) ?_
                exact jn122 s2 (hs ++ [s]) gg93 hI96
              · refine G_aload_n C 1 dL_law_205 rfl rfl ?_
                refine G_callSH C (As := [.ref (ad 0)]) (rest := []) (v_undoY  hI96 ) ca_L_undo km_L_227 rfl rfl (by decide) (Nat.le_of_ble_eq_true rfl) ⟨by show 31100 + 1600 * i + 31000 * ((i + 6) / 6) + 520 + 0 + 0 + 1 ≤ 691481; omega, by show 192000 + 9600 * i + 190000 * ((i + 6) / 6) + 3120 + 0 + 0 + 6 ≤ 7026739; omega⟩ dL_law_206 (fun vv101 gg100 qq102 => ?_)
                obtain ⟨rfl, hI103⟩ := qq102
                refine G_iload C dL_law_209 rfl ?_
                refine G_icmp_ne C 228 dL_law_211 (by decide) (fun c211 => False.elim (c211 rfl)) (fun c211 => ?_)
                refine G_aload_n C 1 dL_law_214 rfl rfl ?_
                refine G_callS C (As := [.ref (ad 0)]) (rest := []) (c_L_look  hI103 ) ca_L_look km_L_235 rfl rfl (by decide) (Nat.le_of_ble_eq_true rfl) ⟨by show 31100 + 1600 * i + 31000 * ((i + 6) / 6) + 520 + 0 + 0 + 1 + 200 ≤ 691481; omega, by show 192000 + 9600 * i + 190000 * ((i + 6) / 6) + 3120 + 0 + 0 + 6 + 1200 ≤ 7026739; omega⟩ dL_law_215 (fun vv105 gg104 qq106 => ?_)
                obtain ⟨rfl, hI107⟩ := qq106
                refine G_lload C dL_law_218 rfl ?_
                refine G_lc_ne C 228 dL_law_220 dL_law_221 (by decide) (fun c220 => False.elim (c220 rfl)) (fun c220 => ?_)
                refine G_iconst C (v := 1) dL_law_224 (by decide) ?_
                refine G_goto C 229 dL_law_225 (by decide) ?_
                refine G_istore C (lo' := [(4, .int 1), (11, .int (nI (hs.length + 1))), (10, .int (nI hs.length)), (8, .long (lookS s)), (7, .int r7), (6, .int r6), (5, .int (nI i)), (2, .long kp9), (1, .ref (ad 0)), (0, .ref L.scr.1)]) dL_law_229 (by decide) rfl ?_
                refine GW.pick [6, 0, 7, 8, 9] [(5, .int (nI i)), (4, .int 1), (2, .long kp9), (1, .ref (ad 0)), (0, .ref L.scr.1)] rfl ?_
                refine GW.widen (c1 := 31100 + 1600 * i + 31000 * ((i + 6) / 6) + 1000) (s1 := 192000 + 9600 * i + 190000 * ((i + 6) / 6) + 6000) (by show 31100 + 1600 * i + 31000 * ((i + 6) / 6) + 520 + 0 + 0 + 1 + 200 ≤ 31100 + 1600 * i + 31000 * ((i + 6) / 6) + 1000; omega) (by show 192000 + 9600 * i + 190000 * ((i + 6) / 6) + 3120 + 0 + 0 + 6 + 1200 ≤ 192000 + 9600 * i + 190000 * ((i + 6) / 6) + 6000; omega) ?_
                exact jn122 s hs gg104 hI107
            · have e4 : hs.length = 4 := by omega
              subst hac
              refine G_aload_n C 1 dL_law_129 rfl rfl ?_
              refine G_pcM C hj36.h0 (As := []) (rest := []) (p_states  hj36 ) ca_X8_states km_L_162 rfl rfl (by decide) (Nat.le_of_ble_eq_true rfl) ⟨by show 31100 + 1600 * i + 31000 * ((i + 6) / 6) + 520 + 0 ≤ 691481; omega, by show 192000 + 9600 * i + 190000 * ((i + 6) / 6) + 3120 + 0 ≤ 7026739; omega⟩ dL_law_130 (fun vv109 gg108 qq110 => ?_)
              obtain ⟨rfl, hI111⟩ := qq110
              refine GW.topr (y := nI hs.length) (by rw [hp_l4 h40 hl4, e4]) ?_
              refine G_istore C (lo' := [(11, .int (nI hs.length)), (4, .int 1), (10, .int (nI hs.length)), (8, .long (lookS s)), (7, .int r7), (6, .int r6), (5, .int (nI i)), (2, .long kp9), (1, .ref (ad 0)), (0, .ref L.scr.1)]) dL_law_133 (by decide) rfl ?_
              refine G_iload C dL_law_135 rfl ?_
              refine G_if_eq C 176 dL_law_137 (by decide) (fun h => absurd h (by decide)) (fun _ => ?_)
              refine G_iload C dL_law_140 rfl ?_
              refine G_iload C dL_law_142 rfl ?_
              refine G_icmp_ne C 163 dL_law_144 (by decide) (fun c144 => False.elim (c144 rfl)) (fun c144 => ?_)
              refine G_iload C dL_law_147 rfl ?_
              refine G_iconst C (v := 4) dL_law_149 (by decide) ?_
              refine G_icmp_eq C 172 dL_law_150 (by decide) (fun c150 => ?_) (fun c150 => False.elim (c150 (by rw [e4]; rfl)))
              refine G_iconst C (v := 1) dL_law_172 (by decide) ?_
              refine G_goto C 177 dL_law_173 (by decide) ?_
              refine G_istore C (lo' := [(4, .int 1), (11, .int (nI hs.length)), (10, .int (nI hs.length)), (8, .long (lookS s)), (7, .int r7), (6, .int r6), (5, .int (nI i)), (2, .long kp9), (1, .ref (ad 0)), (0, .ref L.scr.1)]) dL_law_177 (by decide) rfl ?_
              refine G_iload C dL_law_179 rfl ?_
              refine G_if_eq C 231 dL_law_181 (by decide) (fun h => absurd h (by decide)) (fun _ => ?_)
              refine G_iload C dL_law_184 rfl ?_
              refine G_iload C dL_law_186 rfl ?_
              refine G_iconst C (v := 1) dL_law_188 (by decide) ?_
              refine G_iadd C dL_law_189 ?_
              refine GW.topr (cI_add (a := hs.length) (b := 1) rfl rfl) ?_
              refine G_icmp_ne C 231 dL_law_190 (by decide) (fun c190 => ?_) (fun c190 => False.elim (absurd (nI_eqp (b := hs.length) (a := hs.length + 1) (by omega) (by omega) c190) (by omega)))
              refine GW.pick [6, 0, 7, 8, 9] [(5, .int (nI i)), (4, .int 1), (2, .long kp9), (1, .ref (ad 0)), (0, .ref L.scr.1)] rfl ?_
              refine GW.widen (c1 := 31100 + 1600 * i + 31000 * ((i + 6) / 6) + 1000) (s1 := 192000 + 9600 * i + 190000 * ((i + 6) / 6) + 6000) (by show 31100 + 1600 * i + 31000 * ((i + 6) / 6) + 520 + 0 ≤ 31100 + 1600 * i + 31000 * ((i + 6) / 6) + 1000; omega) (by show 192000 + 9600 * i + 190000 * ((i + 6) / 6) + 3120 + 0 ≤ 192000 + 9600 * i + 190000 * ((i + 6) / 6) + 6000; omega) ?_
              exact jn122 s2 (hpush hs s) gg108 hI111
        refine G_iload C dL_law_103 rfl ?_
        refine G_bipush C (v := 6) dL_law_105 (by decide) ?_
        refine G_irem C dL_law_107 (by decide) ?_
        refine GW.topr (y := nI (i % 6)) (pk_rem (d := 6) (by omega) (by omega) (by omega)) ?_
        refine G_if_gt C 122 dL_law_108 (by decide) (fun c108 => ?_) (fun c108 => ?_)
        · have c108n : 0 < (i % 6) := (cI_lt (a := 0) (b := (i % 6)) rfl rfl (by omega) (by omega)).mp c108
          refine GW.widen (c1 := 31100 + 1600 * i + 31000 * ((i + 6) / 6) + 520) (s1 := 192000 + 9600 * i + 190000 * ((i + 6) / 6) + 3120) (by show 31100 + 1600 * i + 31000 * ((i + 5) / 6) + 0 + 0 + 200 + 0 + 300 ≤ 31100 + 1600 * i + 31000 * ((i + 6) / 6) + 520; omega) (by show 192000 + 9600 * i + 190000 * ((i + 5) / 6) + 0 + 0 + 1200 + 0 + 1800 ≤ 192000 + 9600 * i + 190000 * ((i + 6) / 6) + 3120; omega) ?_
          exact jn103 gg31 hI34
        · have c108n : ¬ 0 < (i % 6) := fun z => c108 ((cI_lt (a := 0) (b := (i % 6)) rfl rfl (by omega) (by omega)).mpr z)
          refine G_aload_n C 1 dL_law_111 rfl rfl ?_
          refine G_iload C dL_law_112 rfl ?_
          refine G_iconst C (v := 2) dL_law_114 (by decide) ?_
          refine G_ishr C dL_law_115 ?_
          refine G_callS C (As := [.ref (ad 0), .int (r7 >>> ((2 : Int32) &&& 31))]) (rest := []) (c_L_holds  hI34 ) ca_L_holds km_L_223 rfl rfl (by decide) (Nat.le_of_ble_eq_true rfl) ⟨by show 31100 + 1600 * i + 31000 * ((i + 5) / 6) + 0 + 0 + 200 + 0 + 300 + 31000 ≤ 691481; omega, by show 192000 + 9600 * i + 190000 * ((i + 5) / 6) + 0 + 0 + 1200 + 0 + 1800 + 190000 ≤ 7026739; omega⟩ dL_law_116 (fun vv113 gg112 qq114 => ?_)
          obtain ⟨rfl, hI115⟩ := qq114
          refine G_if_eq C 126 dL_law_119 (by decide) (fun h => absurd h (by decide)) (fun _ => ?_)
          refine GW.widen (c1 := 31100 + 1600 * i + 31000 * ((i + 6) / 6) + 520) (s1 := 192000 + 9600 * i + 190000 * ((i + 6) / 6) + 3120) (by show 31100 + 1600 * i + 31000 * ((i + 5) / 6) + 0 + 0 + 200 + 0 + 300 + 31000 ≤ 31100 + 1600 * i + 31000 * ((i + 6) / 6) + 520; omega) (by show 192000 + 9600 * i + 190000 * ((i + 5) / 6) + 0 + 0 + 1200 + 0 + 1800 + 190000 ≤ 192000 + 9600 * i + 190000 * ((i + 6) / 6) + 3120; omega) ?_
          exact jn103 gg112 hI115
  refine GW.widen (c1 := 31100 + 1600 * 0 + 31000 * ((0 + 5) / 6)) (s1 := 192000 + 9600 * 0 + 190000 * ((0 + 5) / 6)) (by show 40 + 31000 + 1 + 1 ≤ 31100 + 1600 * 0 + 31000 * ((0 + 5) / 6); omega) (by show 1800 + 190000 + 6 + 6 ≤ 192000 + 9600 * 0 + 190000 * ((0 + 5) / 6); omega) ?_
  exact key46 59 0 s0 0 k0 ([]) 0 tx0 0 gg9 hI12 (by omega) (by omega) (fun h => absurd h (by omega))

