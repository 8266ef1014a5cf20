theorem w_castIAE : Cond.castable eIAE eIAE ∈ BW := BW_of 456 (by decide +kernel) rfl
theorem w_castISE : Cond.castable eISE eISE ∈ BW := BW_of 524 (by decide +kernel) rfl
theorem w_castNSE : Cond.castable eNSE eNSE ∈ BW := BW_of 608 (by decide +kernel) rfl
theorem ca_L_lay : CalH yL_lay cL_lay 4 (some .int) [(0, 9, 12, 13), (0, 9, 15, 15)] 3 := ⟨AW_of 423 (by decide +kernel) rfl, AW_of 59 (by decide +kernel) rfl, AW_of 424 (by decide +kernel) rfl, by decide +kernel⟩
theorem ca_L_take : CalH yL_take cL_take 4 (some .int) [(0, 9, 12, 13), (0, 9, 15, 15)] 3 := ⟨AW_of 556 (by decide +kernel) rfl, AW_of 59 (by decide +kernel) rfl, AW_of 557 (by decide +kernel) rfl, by decide +kernel⟩
theorem ca_L_mill : CalH yL_mill cL_mill 4 (some .int) [(0, 8, 11, 13), (0, 8, 14, 15)] 3 := ⟨AW_of 564 (by decide +kernel) rfl, AW_of 59 (by decide +kernel) rfl, AW_of 565 (by decide +kernel) rfl, by decide +kernel⟩
theorem ca_L_millBack : CalH yL_millBack cL_millBack 4 (some .int) [(0, 8, 11, 13), (0, 8, 14, 15)] 3 := ⟨AW_of 575 (by decide +kernel) rfl, AW_of 59 (by decide +kernel) rfl, AW_of 576 (by decide +kernel) rfl, by decide +kernel⟩
theorem ca_L_whyNot : CalH yL_whyNot cL_whyNot 4 (some .int) [(0, 9, 12, 13)] 3 := ⟨AW_of 582 (by decide +kernel) rfl, AW_of 59 (by decide +kernel) rfl, AW_of 583 (by decide +kernel) rfl, by decide +kernel⟩
theorem ca_L_periodOf : CalH yL_periodOf cL_periodOf 4 (some .int) [(0, 9, 12, 13), (0, 9, 15, 33)] 3 := ⟨AW_of 594 (by decide +kernel) rfl, AW_of 59 (by decide +kernel) rfl, AW_of 595 (by decide +kernel) rfl, by decide +kernel⟩
theorem ca_L_termAt : CalH yL_termAt cL_termAt 5 (some .int) [(0, 10, 13, 13), (0, 10, 17, 33)] 4 := ⟨AW_of 624 (by decide +kernel) rfl, AW_of 59 (by decide +kernel) rfl, AW_of 625 (by decide +kernel) rfl, by decide +kernel⟩
theorem ca_L_unitX : CalH yL_unitX cL_unitX 4 (some .int) [(0, 9, 12, 13), (0, 9, 15, 33)] 3 := ⟨AW_of 636 (by decide +kernel) rfl, AW_of 59 (by decide +kernel) rfl, AW_of 637 (by decide +kernel) rfl, by decide +kernel⟩
theorem ca_L_unitY : CalH yL_unitY cL_unitY 4 (some .int) [(0, 9, 12, 13), (0, 9, 15, 33)] 3 := ⟨AW_of 644 (by decide +kernel) rfl, AW_of 59 (by decide +kernel) rfl, AW_of 645 (by decide +kernel) rfl, by decide +kernel⟩
theorem ca_L_leastY : CalH yL_leastY cL_leastY 4 (some .int) [(0, 9, 12, 13), (0, 9, 15, 33)] 3 := ⟨AW_of 652 (by decide +kernel) rfl, AW_of 59 (by decide +kernel) rfl, AW_of 653 (by decide +kernel) rfl, by decide +kernel⟩
theorem ca_L_leastYBySearch : CalH yL_leastYBySearch cL_leastYBySearch 4 (some .int) [(0, 9, 12, 13), (0, 9, 15, 33)] 3 := ⟨AW_of 660 (by decide +kernel) rfl, AW_of 59 (by decide +kernel) rfl, AW_of 661 (by decide +kernel) rfl, by decide +kernel⟩
theorem ca_L_isLaid : CalH yL_isLaid cL_isLaid 4 (some .int) [(0, 16, 19, 13)] 3 := ⟨AW_of 671 (by decide +kernel) rfl, AW_of 59 (by decide +kernel) rfl, AW_of 672 (by decide +kernel) rfl, by decide +kernel⟩
theorem ca_L_stoneFrom : CalH yL_stoneFrom cL_stoneFrom 4 (some .int) [(0, 9, 12, 13), (0, 9, 15, 33)] 3 := ⟨AW_of 678 (by decide +kernel) rfl, AW_of 59 (by decide +kernel) rfl, AW_of 679 (by decide +kernel) rfl, by decide +kernel⟩
theorem ca_L_powerOf : CalH yL_powerOf cL_powerOf 4 (some .int) [(0, 9, 12, 13), (0, 9, 15, 33)] 3 := ⟨AW_of 686 (by decide +kernel) rfl, AW_of 59 (by decide +kernel) rfl, AW_of 687 (by decide +kernel) rfl, by decide +kernel⟩
theorem ca_L_xOf : CalH yL_xOf cL_xOf 4 (some .int) [(0, 8, 11, 13), (0, 8, 14, 33)] 3 := ⟨AW_of 698 (by decide +kernel) rfl, AW_of 59 (by decide +kernel) rfl, AW_of 699 (by decide +kernel) rfl, by decide +kernel⟩
theorem ca_L_yOf : CalH yL_yOf cL_yOf 4 (some .int) [(0, 8, 11, 13), (0, 8, 14, 33)] 3 := ⟨AW_of 705 (by decide +kernel) rfl, AW_of 59 (by decide +kernel) rfl, AW_of 706 (by decide +kernel) rfl, by decide +kernel⟩
theorem ca_L_signOf : CalH yL_signOf cL_signOf 4 (some .int) [(0, 9, 12, 13), (0, 9, 15, 33)] 3 := ⟨AW_of 712 (by decide +kernel) rfl, AW_of 59 (by decide +kernel) rfl, AW_of 713 (by decide +kernel) rfl, by decide +kernel⟩
theorem ca_L_signByRemainders : CalH yL_signByRemainders cL_signByRemainders 4 (some .int) [(0, 9, 12, 13), (0, 9, 15, 33)] 3 := ⟨AW_of 719 (by decide +kernel) rfl, AW_of 59 (by decide +kernel) rfl, AW_of 720 (by decide +kernel) rfl, by decide +kernel⟩
theorem ca_L_nearRoot : CalH yL_nearRoot cL_nearRoot 4 (some .int) [(0, 9, 12, 13), (0, 9, 15, 33)] 3 := ⟨AW_of 730 (by decide +kernel) rfl, AW_of 59 (by decide +kernel) rfl, AW_of 731 (by decide +kernel) rfl, by decide +kernel⟩
theorem ca_L_xAt : CalH yL_xAt cL_xAt 4 (some .int) [(0, 8, 11, 13), (0, 8, 14, 33)] 3 := ⟨AW_of 738 (by decide +kernel) rfl, AW_of 59 (by decide +kernel) rfl, AW_of 739 (by decide +kernel) rfl, by decide +kernel⟩
theorem ca_L_xAtBySet : CalH yL_xAtBySet cL_xAtBySet 4 (some .int) [(0, 8, 11, 13), (0, 8, 14, 33)] 3 := ⟨AW_of 779 (by decide +kernel) rfl, AW_of 59 (by decide +kernel) rfl, AW_of 780 (by decide +kernel) rfl, by decide +kernel⟩
theorem ca_L_stoneAt : CalH yL_stoneAt cL_stoneAt 4 (some .int) [(0, 9, 12, 13), (0, 9, 15, 33)] 3 := ⟨AW_of 806 (by decide +kernel) rfl, AW_of 59 (by decide +kernel) rfl, AW_of 807 (by decide +kernel) rfl, by decide +kernel⟩
theorem ca_L_solutionsUpTo : CalH yL_solutionsUpTo cL_solutionsUpTo 5 (some .int) [(0, 9, 12, 13)] 3 := ⟨AW_of 813 (by decide +kernel) rfl, AW_of 59 (by decide +kernel) rfl, AW_of 814 (by decide +kernel) rfl, by decide +kernel⟩
theorem ca_L_goBack : CalH yL_goBack cL_goBack 3 (some .int) [(0, 8, 11, 15)] 2 := ⟨AW_of 821 (by decide +kernel) rfl, AW_of 59 (by decide +kernel) rfl, AW_of 822 (by decide +kernel) rfl, by decide +kernel⟩
theorem ca_L_undo : CalH yL_undo cL_undo 3 (some .int) [(0, 8, 11, 15)] 2 := ⟨AW_of 829 (by decide +kernel) rfl, AW_of 59 (by decide +kernel) rfl, AW_of 830 (by decide +kernel) rfl, by decide +kernel⟩
theorem ca_L_type : CalH yL_type cL_type 4 (some .int) [(0, 9, 12, 13), (0, 9, 15, 15)] 3 := ⟨AW_of 841 (by decide +kernel) rfl, AW_of 59 (by decide +kernel) rfl, AW_of 842 (by decide +kernel) rfl, by decide +kernel⟩
theorem ca_L_faultPosition : CalH yL_faultPosition cL_faultPosition 3 (some .int) [(0, 8, 11, 33)] 2 := ⟨AW_of 854 (by decide +kernel) rfl, AW_of 59 (by decide +kernel) rfl, AW_of 855 (by decide +kernel) rfl, by decide +kernel⟩
theorem ca_L_faultReason : CalH yL_faultReason cL_faultReason 3 (some .int) [(0, 8, 11, 33)] 2 := ⟨AW_of 896 (by decide +kernel) rfl, AW_of 59 (by decide +kernel) rfl, AW_of 897 (by decide +kernel) rfl, by decide +kernel⟩
theorem ca_L_faultCause : CalH yL_faultCause cL_faultCause 3 (some .int) [(0, 8, 11, 33)] 2 := ⟨AW_of 903 (by decide +kernel) rfl, AW_of 59 (by decide +kernel) rfl, AW_of 904 (by decide +kernel) rfl, by decide +kernel⟩
theorem ca_L_play : CalH yL_play cL_play 3 (some .int) [(0, 8, 11, 15)] 2 := ⟨AW_of 910 (by decide +kernel) rfl, AW_of 59 (by decide +kernel) rfl, AW_of 911 (by decide +kernel) rfl, by decide +kernel⟩
abbrev rm_lay : Room := ({ frames := 8, cells := 1, slots := 6, locals := 185 } : Room)
set_option maxRecDepth 100000 in
set_option maxHeartbeats 4000000 in
theorem w_lay {L : GL} {ad : Nat → Nat} {G : Nat → va_E} {Q : Option Value → (Nat → va_E) → Prop} {X : String → (Nat → va_E) → Prop} {fs : List Value} {od : Nat → Int64} {n : Int32} (hM : GX L yX8_lay cX8_lay 2 ((some .int)) rm_X8_lay 50 ad G [.ref (ad 0), .int n] Q X) (g0 : G 0 = .inr (8, fs)) (hQ : ∀ v G', Q v G' → (∃ r : Int32, v = some (.int r)) ∧ G' 48 = .inl (L.ac 1, 1, .inr (.inl od))) (hX : ∀ e G', X e G' → e = eIAE ∨ e = eISE) : GH L yL_lay cL_lay 4 (some .int) [(0, 9, 12, 13), (0, 9, 15, 15)] rm_lay 50 ad G [.ref (ad 0), .int n, .ref (ad 48)] (fun vo G' => (∃ (r : Int32) (G1 : Nat → va_E), Q (some (.int r)) G1 ∧ vo = some (.int 0) ∧ G' 48 = .inl (L.ac 1, 1, .inr (.inl (vp_updL od 0 r.toInt64))) ∧ Agr [48] G1 G') ∨ (X eIAE G' ∧ vo = some (.int 1)) ∨ (X eISE G' ∧ vo = some (.int 2))) := by
  refine GH.of (own := RL) (lo := [(0, .ref (ad 0)), (1, .int n), (2, .ref (ad 48))]) (by decide +kernel) rfl rfl (Nat.le_of_ble_eq_true rfl) (fun E C ht hr => ?_)
  refine G_aload_n C 2 dL_lay_0 rfl rfl ?_
  refine G_iconst C (v := 0) dL_lay_1 (by decide) ?_
  refine G_aload_n C 0 dL_lay_2 rfl rfl ?_
  refine G_iload_n C 1 dL_lay_3 rfl rfl ?_
  refine G_callVXC C (As := [.int n]) (rest := [.int 0, .ref (ad 48)]) hM ca_X8_lay km_L_7 (by decide) g0 rfl rfl rfl rfl (by decide) (Nat.le_of_ble_eq_true rfl) (by decide) dL_lay_4 (fun e G2 hX2 => ?_) (fun vv G2 hQ2 => ?_)
  · rcases hX e G2 hX2 with rfl | rfl
    · refine ⟨12, ctch1 C ht (by decide) (by decide) kc_L_13 w_castIAE, fun q9 => ?_⟩
      refine G_astore_n C 3 (lo' := [(3, .ref q9), (0, .ref (ad 0)), (1, .int n), (2, .ref (ad 48))]) dL_lay_12 rfl (by decide) rfl ?_
      refine G_iconst C (v := 1) dL_lay_13 (by decide) ?_
      refine GW.widen (c1 := 1) (s1 := 6) (by decide) (by decide) ?_
      exact G_iret C hr dL_lay_14 (Or.inr (Or.inl ⟨hX2, rfl⟩))
    · refine ⟨15, ctch2 C ht (by decide) kc_L_13 C.2.2.2.2.2.2.2.1.2.2.2.2.2.1.1 (by decide) (by decide) kc_L_15 w_castISE, fun q9 => ?_⟩
      refine G_astore_n C 3 (lo' := [(3, .ref q9), (0, .ref (ad 0)), (1, .int n), (2, .ref (ad 48))]) dL_lay_15 rfl (by decide) rfl ?_
      refine G_iconst C (v := 2) dL_lay_16 (by decide) ?_
      refine GW.widen (c1 := 1) (s1 := 6) (by decide) (by decide) ?_
      exact G_iret C hr dL_lay_17 (Or.inr (Or.inr ⟨hX2, rfl⟩))
  · obtain ⟨⟨r, rfl⟩, k48⟩ := hQ vv G2 hQ2
    refine G_i2l C dL_lay_7 rfl ?_
    refine G_lastN C 48 (by decide) 0 k48 rfl (by decide) (by omega) dL_lay_8 (fun gg1 hh2 aa3 => ?_)
    have BB5 : Agr [48] G2 gg1 := aa3.wk (by simp)
    refine G_goto C 18 dL_lay_9 (by decide) ?_
    refine G_iconst C (v := 0) dL_lay_18 (by decide) ?_
    refine GW.widen (c1 := 1) (s1 := 6) (by decide) (by decide) ?_
    exact G_iret C hr dL_lay_19 (Or.inl ⟨r, G2, hQ2, rfl, hh2, BB5⟩)

abbrev rm_take : Room := ({ frames := 8, cells := 1, slots := 6, locals := 186 } : Room)
set_option maxRecDepth 100000 in
set_option maxHeartbeats 4000000 in
theorem w_take {L : GL} {ad : Nat → Nat} {G : Nat → va_E} {Q : Option Value → (Nat → va_E) → Prop} {X : String → (Nat → va_E) → Prop} {fs : List Value} {od : Nat → Int64} {n : Int32} (hM : GX L yX8_take cX8_take 3 ((some .int)) rm_X8_take 50 ad G [.ref (ad 0), .int n] Q X) (g0 : G 0 = .inr (8, fs)) (hQ : ∀ v G', Q v G' → (∃ r : Int32, v = some (.int r)) ∧ G' 48 = .inl (L.ac 1, 1, .inr (.inl od))) (hX : ∀ e G', X e G' → e = eIAE ∨ e = eISE) : GH L yL_take cL_take 4 (some .int) [(0, 9, 12, 13), (0, 9, 15, 15)] rm_take 50 ad G [.ref (ad 0), .int n, .ref (ad 48)] (fun vo G' => (∃ (r : Int32) (G1 : Nat → va_E), Q (some (.int r)) G1 ∧ vo = some (.int 0) ∧ G' 48 = .inl (L.ac 1, 1, .inr (.inl (vp_updL od 0 r.toInt64))) ∧ Agr [48] G1 G') ∨ (X eIAE G' ∧ vo = some (.int 1)) ∨ (X eISE G' ∧ vo = some (.int 2))) := by
  refine GH.of (own := RL) (lo := [(0, .ref (ad 0)), (1, .int n), (2, .ref (ad 48))]) (by decide +kernel) rfl rfl (Nat.le_of_ble_eq_true rfl) (fun E C ht hr => ?_)
  refine G_aload_n C 2 dL_take_0 rfl rfl ?_
  refine G_iconst C (v := 0) dL_take_1 (by decide) ?_
  refine G_aload_n C 0 dL_take_2 rfl rfl ?_
  refine G_iload_n C 1 dL_take_3 rfl rfl ?_
  refine G_callVXC C (As := [.int n]) (rest := [.int 0, .ref (ad 48)]) hM ca_X8_take km_L_17 (by decide) g0 rfl rfl rfl rfl (by decide) (Nat.le_of_ble_eq_true rfl) (by decide) dL_take_4 (fun e G2 hX2 => ?_) (fun vv G2 hQ2 => ?_)
  · rcases hX e G2 hX2 with rfl | rfl
    · refine ⟨12, ctch1 C ht (by decide) (by decide) kc_L_13 w_castIAE, fun q9 => ?_⟩
      refine G_astore_n C 3 (lo' := [(3, .ref q9), (0, .ref (ad 0)), (1, .int n), (2, .ref (ad 48))]) dL_take_12 rfl (by decide) rfl ?_
      refine G_iconst C (v := 1) dL_take_13 (by decide) ?_
      refine GW.widen (c1 := 1) (s1 := 6) (by decide) (by decide) ?_
      exact G_iret C hr dL_take_14 (Or.inr (Or.inl ⟨hX2, rfl⟩))
    · refine ⟨15, ctch2 C ht (by decide) kc_L_13 C.2.2.2.2.2.2.2.1.2.2.2.2.2.1.1 (by decide) (by decide) kc_L_15 w_castISE, fun q9 => ?_⟩
      refine G_astore_n C 3 (lo' := [(3, .ref q9), (0, .ref (ad 0)), (1, .int n), (2, .ref (ad 48))]) dL_take_15 rfl (by decide) rfl ?_
      refine G_iconst C (v := 2) dL_take_16 (by decide) ?_
      refine GW.widen (c1 := 1) (s1 := 6) (by decide) (by decide) ?_
      exact G_iret C hr dL_take_17 (Or.inr (Or.inr ⟨hX2, rfl⟩))
  · obtain ⟨⟨r, rfl⟩, k48⟩ := hQ vv G2 hQ2
    refine G_i2l C dL_take_7 rfl ?_
    refine G_lastN C 48 (by decide) 0 k48 rfl (by decide) (by omega) dL_take_8 (fun gg1 hh2 aa3 => ?_)
    have BB5 : Agr [48] G2 gg1 := aa3.wk (by simp)
    refine G_goto C 18 dL_take_9 (by decide) ?_
    refine G_iconst C (v := 0) dL_take_18 (by decide) ?_
    refine GW.widen (c1 := 1) (s1 := 6) (by decide) (by decide) ?_
    exact G_iret C hr dL_take_19 (Or.inl ⟨r, G2, hQ2, rfl, hh2, BB5⟩)

abbrev rm_mill : Room := ({ frames := 8, cells := 1, slots := 6, locals := 185 } : Room)
set_option maxRecDepth 100000 in
set_option maxHeartbeats 4000000 in
theorem w_mill {L : GL} {ad : Nat → Nat} {G : Nat → va_E} {Q : Option Value → (Nat → va_E) → Prop} {X : String → (Nat → va_E) → Prop} {fs : List Value} {od : Nat → Int64} {n : Int32} (hM : GX L yX8_mill cX8_mill 2 ((some .long)) rm_X8_mill 50 ad G [.ref (ad 0), .int n] Q X) (g0 : G 0 = .inr (8, fs)) (hQ : ∀ v G', Q v G' → (∃ r : Int64, v = some (.long r)) ∧ G' 48 = .inl (L.ac 1, 1, .inr (.inl od))) (hX : ∀ e G', X e G' → e = eIAE ∨ e = eISE) : GH L yL_mill cL_mill 4 (some .int) [(0, 8, 11, 13), (0, 8, 14, 15)] rm_mill 50 ad G [.ref (ad 0), .int n, .ref (ad 48)] (fun vo G' => (∃ (r : Int64) (G1 : Nat → va_E), Q (some (.long r)) G1 ∧ vo = some (.int 0) ∧ G' 48 = .inl (L.ac 1, 1, .inr (.inl (vp_updL od 0 r))) ∧ Agr [48] G1 G') ∨ (X eIAE G' ∧ vo = some (.int 1)) ∨ (X eISE G' ∧ vo = some (.int 2))) := by
  refine GH.of (own := RL) (lo := [(0, .ref (ad 0)), (1, .int n), (2, .ref (ad 48))]) (by decide +kernel) rfl rfl (Nat.le_of_ble_eq_true rfl) (fun E C ht hr => ?_)
  refine G_aload_n C 2 dL_mill_0 rfl rfl ?_
  refine G_iconst C (v := 0) dL_mill_1 (by decide) ?_
  refine G_aload_n C 0 dL_mill_2 rfl rfl ?_
  refine G_iload_n C 1 dL_mill_3 rfl rfl ?_
  refine G_callVXC C (As := [.int n]) (rest := [.int 0, .ref (ad 48)]) hM ca_X8_mill km_L_20 (by decide) g0 rfl rfl rfl rfl (by decide) (Nat.le_of_ble_eq_true rfl) (by decide) dL_mill_4 (fun e G2 hX2 => ?_) (fun vv G2 hQ2 => ?_)
  · rcases hX e G2 hX2 with rfl | rfl
    · refine ⟨11, ctch1 C ht (by decide) (by decide) kc_L_13 w_castIAE, fun q9 => ?_⟩
      refine G_astore_n C 3 (lo' := [(3, .ref q9), (0, .ref (ad 0)), (1, .int n), (2, .ref (ad 48))]) dL_mill_11 rfl (by decide) rfl ?_
      refine G_iconst C (v := 1) dL_mill_12 (by decide) ?_
      refine GW.widen (c1 := 1) (s1 := 6) (by decide) (by decide) ?_
      exact G_iret C hr dL_mill_13 (Or.inr (Or.inl ⟨hX2, rfl⟩))
    · refine ⟨14, ctch2 C ht (by decide) kc_L_13 C.2.2.2.2.2.2.2.1.2.2.2.2.2.1.1 (by decide) (by decide) kc_L_15 w_castISE, fun q9 => ?_⟩
      refine G_astore_n C 3 (lo' := [(3, .ref q9), (0, .ref (ad 0)), (1, .int n), (2, .ref (ad 48))]) dL_mill_14 rfl (by decide) rfl ?_
      refine G_iconst C (v := 2) dL_mill_15 (by decide) ?_
      refine GW.widen (c1 := 1) (s1 := 6) (by decide) (by decide) ?_
      exact G_iret C hr dL_mill_16 (Or.inr (Or.inr ⟨hX2, rfl⟩))
  · obtain ⟨⟨r, rfl⟩, k48⟩ := hQ vv G2 hQ2
    refine G_lastN C 48 (by decide) 0 k48 rfl (by decide) (by omega) dL_mill_7 (fun gg1 hh2 aa3 => ?_)
    have BB5 : Agr [48] G2 gg1 := aa3.wk (by simp)
    refine G_goto C 17 dL_mill_8 (by decide) ?_
    refine G_iconst C (v := 0) dL_mill_17 (by decide) ?_
    refine GW.widen (c1 := 1) (s1 := 6) (by decide) (by decide) ?_
    exact G_iret C hr dL_mill_18 (Or.inl ⟨r, G2, hQ2, rfl, hh2, BB5⟩)

abbrev rm_millBack : Room := ({ frames := 8, cells := 1, slots := 6, locals := 185 } : Room)
set_option maxRecDepth 100000 in
set_option maxHeartbeats 4000000 in
theorem w_millBack {L : GL} {ad : Nat → Nat} {G : Nat → va_E} {Q : Option Value → (Nat → va_E) → Prop} {X : String → (Nat → va_E) → Prop} {fs : List Value} {od : Nat → Int64} {n : Int32} (hM : GX L yX8_millBack cX8_millBack 2 ((some .long)) rm_X8_millBack 50 ad G [.ref (ad 0), .int n] Q X) (g0 : G 0 = .inr (8, fs)) (hQ : ∀ v G', Q v G' → (∃ r : Int64, v = some (.long r)) ∧ G' 48 = .inl (L.ac 1, 1, .inr (.inl od))) (hX : ∀ e G', X e G' → e = eIAE ∨ e = eISE) : GH L yL_millBack cL_millBack 4 (some .int) [(0, 8, 11, 13), (0, 8, 14, 15)] rm_millBack 50 ad G [.ref (ad 0), .int n, .ref (ad 48)] (fun vo G' => (∃ (r : Int64) (G1 : Nat → va_E), Q (some (.long r)) G1 ∧ vo = some (.int 0) ∧ G' 48 = .inl (L.ac 1, 1, .inr (.inl (vp_updL od 0 r))) ∧ Agr [48] G1 G') ∨ (X eIAE G' ∧ vo = some (.int 1)) ∨ (X eISE G' ∧ vo = some (.int 2))) := by
  refine GH.of (own := RL) (lo := [(0, .ref (ad 0)), (1, .int n), (2, .ref (ad 48))]) (by decide +kernel) rfl rfl (Nat.le_of_ble_eq_true rfl) (fun E C ht hr => ?_)
  refine G_aload_n C 2 dL_millBack_0 rfl rfl ?_
  refine G_iconst C (v := 0) dL_millBack_1 (by decide) ?_
  refine G_aload_n C 0 dL_millBack_2 rfl rfl ?_
  refine G_iload_n C 1 dL_millBack_3 rfl rfl ?_
  refine G_callVXC C (As := [.int n]) (rest := [.int 0, .ref (ad 48)]) hM ca_X8_millBack km_L_24 (by decide) g0 rfl rfl rfl rfl (by decide) (Nat.le_of_ble_eq_true rfl) (by decide) dL_millBack_4 (fun e G2 hX2 => ?_) (fun vv G2 hQ2 => ?_)
  · rcases hX e G2 hX2 with rfl | rfl
    · refine ⟨11, ctch1 C ht (by decide) (by decide) kc_L_13 w_castIAE, fun q9 => ?_⟩
      refine G_astore_n C 3 (lo' := [(3, .ref q9), (0, .ref (ad 0)), (1, .int n), (2, .ref (ad 48))]) dL_millBack_11 rfl (by decide) rfl ?_
      refine G_iconst C (v := 1) dL_millBack_12 (by decide) ?_
      refine GW.widen (c1 := 1) (s1 := 6) (by decide) (by decide) ?_
      exact G_iret C hr dL_millBack_13 (Or.inr (Or.inl ⟨hX2, rfl⟩))
    · refine ⟨14, ctch2 C ht (by decide) kc_L_13 C.2.2.2.2.2.2.2.1.2.2.2.2.2.1.1 (by decide) (by decide) kc_L_15 w_castISE, fun q9 => ?_⟩
      refine G_astore_n C 3 (lo' := [(3, .ref q9), (0, .ref (ad 0)), (1, .int n), (2, .ref (ad 48))]) dL_millBack_14 rfl (by decide) rfl ?_
      refine G_iconst C (v := 2) dL_millBack_15 (by decide) ?_
      refine GW.widen (c1 := 1) (s1 := 6) (by decide) (by decide) ?_
      exact G_iret C hr dL_millBack_16 (Or.inr (Or.inr ⟨hX2, rfl⟩))
  · obtain ⟨⟨r, rfl⟩, k48⟩ := hQ vv G2 hQ2
    refine G_lastN C 48 (by decide) 0 k48 rfl (by decide) (by omega) dL_millBack_7 (fun gg1 hh2 aa3 => ?_)
    have BB5 : Agr [48] G2 gg1 := aa3.wk (by simp)
    refine G_goto C 17 dL_millBack_8 (by decide) ?_
    refine G_iconst C (v := 0) dL_millBack_17 (by decide) ?_
    refine GW.widen (c1 := 1) (s1 := 6) (by decide) (by decide) ?_
    exact G_iret C hr dL_millBack_18 (Or.inl ⟨r, G2, hQ2, rfl, hh2, BB5⟩)

abbrev rm_whyNot : Room := ({ frames := 8, cells := 1, slots := 6, locals := 123 } : Room)
set_option maxRecDepth 100000 in
set_option maxHeartbeats 4000000 in
theorem w_whyNot {L : GL} {ad : Nat → Nat} {G : Nat → va_E} {Q : Option Value → (Nat → va_E) → Prop} {X : String → (Nat → va_E) → Prop} {fs : List Value} {od : Nat → Int64} {n : Int32} (hM : GX L yX8_whyNot cX8_whyNot 2 ((some .int)) rm_X8_whyNot 50 ad G [.ref (ad 0), .int n] Q X) (g0 : G 0 = .inr (8, fs)) (hQ : ∀ v G', Q v G' → (∃ r : Int32, v = some (.int r)) ∧ G' 48 = .inl (L.ac 1, 1, .inr (.inl od))) (hX : ∀ e G', X e G' → e = eIAE) : GH L yL_whyNot cL_whyNot 4 (some .int) [(0, 9, 12, 13)] rm_whyNot 50 ad G [.ref (ad 0), .int n, .ref (ad 48)] (fun vo G' => (∃ (r : Int32) (G1 : Nat → va_E), Q (some (.int r)) G1 ∧ vo = some (.int 0) ∧ G' 48 = .inl (L.ac 1, 1, .inr (.inl (vp_updL od 0 r.toInt64))) ∧ Agr [48] G1 G') ∨ (X eIAE G' ∧ vo = some (.int 1))) := by
  refine GH.of (own := RL) (lo := [(0, .ref (ad 0)), (1, .int n), (2, .ref (ad 48))]) (by decide +kernel) rfl rfl (Nat.le_of_ble_eq_true rfl) (fun E C ht hr => ?_)
  refine G_aload_n C 2 dL_whyNot_0 rfl rfl ?_
  refine G_iconst C (v := 0) dL_whyNot_1 (by decide) ?_
  refine G_aload_n C 0 dL_whyNot_2 rfl rfl ?_
  refine G_iload_n C 1 dL_whyNot_3 rfl rfl ?_
  refine G_callVXC C (As := [.int n]) (rest := [.int 0, .ref (ad 48)]) hM ca_X8_whyNot km_L_27 (by decide) g0 rfl rfl rfl rfl (by decide) (Nat.le_of_ble_eq_true rfl) (by decide) dL_whyNot_4 (fun e G2 hX2 => ?_) (fun vv G2 hQ2 => ?_)
  · obtain rfl := hX e G2 hX2
    refine ⟨12, ctch1 C ht (by decide) (by decide) kc_L_13 w_castIAE, fun q9 => ?_⟩
    refine G_astore_n C 3 (lo' := [(3, .ref q9), (0, .ref (ad 0)), (1, .int n), (2, .ref (ad 48))]) dL_whyNot_12 rfl (by decide) rfl ?_
    refine G_iconst C (v := 1) dL_whyNot_13 (by decide) ?_
    refine GW.widen (c1 := 1) (s1 := 6) (by decide) (by decide) ?_
    exact G_iret C hr dL_whyNot_14 (Or.inr ⟨hX2, rfl⟩)
  · obtain ⟨⟨r, rfl⟩, k48⟩ := hQ vv G2 hQ2
    refine G_i2l C dL_whyNot_7 rfl ?_
    refine G_lastN C 48 (by decide) 0 k48 rfl (by decide) (by omega) dL_whyNot_8 (fun gg1 hh2 aa3 => ?_)
    have BB5 : Agr [48] G2 gg1 := aa3.wk (by simp)
    refine G_goto C 15 dL_whyNot_9 (by decide) ?_
    refine G_iconst C (v := 0) dL_whyNot_15 (by decide) ?_
    refine GW.widen (c1 := 1) (s1 := 6) (by decide) (by decide) ?_
    exact G_iret C hr dL_whyNot_16 (Or.inl ⟨r, G2, hQ2, rfl, hh2, BB5⟩)

abbrev rm_periodOf : Room := ({ frames := 9, cells := 2, slots := 12, locals := 144 } : Room)
set_option maxRecDepth 100000 in
set_option maxHeartbeats 4000000 in
theorem w_periodOf {L : GL} {ad : Nat → Nat} {G : Nat → va_E} {Q : Option Value → (Nat → va_E) → Prop} {X : String → (Nat → va_E) → Prop} {fs : List Value} {od : Nat → Int64} {n : Int32} (hM : GX L yX8_periodOf cX8_periodOf 2 ((some .int)) rm_X8_periodOf 50 ad G [.ref (ad 0), .int n] Q X) (g0 : G 0 = .inr (8, fs)) (hQ : ∀ v G', Q v G' → (∃ r : Int32, v = some (.int r)) ∧ G' 48 = .inl (L.ac 1, 1, .inr (.inl od))) (hX : ∀ e G', X e G' → e = eIAE ∨ e = eNSE) : GH L yL_periodOf cL_periodOf 4 (some .int) [(0, 9, 12, 13), (0, 9, 15, 33)] rm_periodOf 50 ad G [.ref (ad 0), .int n, .ref (ad 48)] (fun vo G' => (∃ (r : Int32) (G1 : Nat → va_E), Q (some (.int r)) G1 ∧ vo = some (.int 0) ∧ G' 48 = .inl (L.ac 1, 1, .inr (.inl (vp_updL od 0 r.toInt64))) ∧ Agr [48] G1 G') ∨ (X eIAE G' ∧ vo = some (.int 1)) ∨ (X eNSE G' ∧ vo = some (.int 2))) := by
  refine GH.of (own := RL) (lo := [(0, .ref (ad 0)), (1, .int n), (2, .ref (ad 48))]) (by decide +kernel) rfl rfl (Nat.le_of_ble_eq_true rfl) (fun E C ht hr => ?_)
  refine G_aload_n C 2 dL_periodOf_0 rfl rfl ?_
  refine G_iconst C (v := 0) dL_periodOf_1 (by decide) ?_
  refine G_aload_n C 0 dL_periodOf_2 rfl rfl ?_
  refine G_iload_n C 1 dL_periodOf_3 rfl rfl ?_
  refine G_callVXC C (As := [.int n]) (rest := [.int 0, .ref (ad 48)]) hM ca_X8_periodOf km_L_30 (by decide) g0 rfl rfl rfl rfl (by decide) (Nat.le_of_ble_eq_true rfl) (by decide) dL_periodOf_4 (fun e G2 hX2 => ?_) (fun vv G2 hQ2 => ?_)
  · rcases hX e G2 hX2 with rfl | rfl
    · refine ⟨12, ctch1 C ht (by decide) (by decide) kc_L_13 w_castIAE, fun q9 => ?_⟩
      refine G_astore_n C 3 (lo' := [(3, .ref q9), (0, .ref (ad 0)), (1, .int n), (2, .ref (ad 48))]) dL_periodOf_12 rfl (by decide) rfl ?_
      refine G_iconst C (v := 1) dL_periodOf_13 (by decide) ?_
      refine GW.widen (c1 := 2) (s1 := 12) (by decide) (by decide) ?_
      exact G_iret C hr dL_periodOf_14 (Or.inr (Or.inl ⟨hX2, rfl⟩))
    · refine ⟨15, ctch2 C ht (by decide) kc_L_13 C.2.2.2.2.2.2.2.1.2.2.2.2.2.1.2 (by decide) (by decide) kc_L_33 w_castNSE, fun q9 => ?_⟩
      refine G_astore_n C 3 (lo' := [(3, .ref q9), (0, .ref (ad 0)), (1, .int n), (2, .ref (ad 48))]) dL_periodOf_15 rfl (by decide) rfl ?_
      refine G_iconst C (v := 2) dL_periodOf_16 (by decide) ?_
      refine GW.widen (c1 := 2) (s1 := 12) (by decide) (by decide) ?_
      exact G_iret C hr dL_periodOf_17 (Or.inr (Or.inr ⟨hX2, rfl⟩))
  · obtain ⟨⟨r, rfl⟩, k48⟩ := hQ vv G2 hQ2
    refine G_i2l C dL_periodOf_7 rfl ?_
    refine G_lastN C 48 (by decide) 0 k48 rfl (by decide) (by omega) dL_periodOf_8 (fun gg1 hh2 aa3 => ?_)
    have BB5 : Agr [48] G2 gg1 := aa3.wk (by simp)
    refine G_goto C 18 dL_periodOf_9 (by decide) ?_
    refine G_iconst C (v := 0) dL_periodOf_18 (by decide) ?_
    refine GW.widen (c1 := 2) (s1 := 12) (by decide) (by decide) ?_
    exact G_iret C hr dL_periodOf_19 (Or.inl ⟨r, G2, hQ2, rfl, hh2, BB5⟩)

abbrev rm_termAt : Room := ({ frames := 9, cells := 2, slots := 12, locals := 145 } : Room)
set_option maxRecDepth 100000 in
set_option maxHeartbeats 4000000 in
theorem w_termAt {L : GL} {ad : Nat → Nat} {G : Nat → va_E} {Q : Option Value → (Nat → va_E) → Prop} {X : String → (Nat → va_E) → Prop} {fs : List Value} {od : Nat → Int64} {n pl : Int32} (hM : GX L yX8_termAt cX8_termAt 3 ((some .int)) rm_X8_termAt 50 ad G [.ref (ad 0), .int n, .int pl] Q X) (g0 : G 0 = .inr (8, fs)) (hQ : ∀ v G', Q v G' → (∃ r : Int32, v = some (.int r)) ∧ G' 48 = .inl (L.ac 1, 1, .inr (.inl od))) (hX : ∀ e G', X e G' → e = eIAE ∨ e = eNSE) : GH L yL_termAt cL_termAt 5 (some .int) [(0, 10, 13, 13), (0, 10, 17, 33)] rm_termAt 50 ad G [.ref (ad 0), .int n, .int pl, .ref (ad 48)] (fun vo G' => (∃ (r : Int32) (G1 : Nat → va_E), Q (some (.int r)) G1 ∧ vo = some (.int 0) ∧ G' 48 = .inl (L.ac 1, 1, .inr (.inl (vp_updL od 0 r.toInt64))) ∧ Agr [48] G1 G') ∨ (X eIAE G' ∧ vo = some (.int 1)) ∨ (X eNSE G' ∧ vo = some (.int 2))) := by
  refine GH.of (own := RL) (lo := [(0, .ref (ad 0)), (1, .int n), (2, .int pl), (3, .ref (ad 48))]) (by decide +kernel) rfl rfl (Nat.le_of_ble_eq_true rfl) (fun E C ht hr => ?_)
  refine G_aload_n C 3 dL_termAt_0 rfl rfl ?_
  refine G_iconst C (v := 0) dL_termAt_1 (by decide) ?_
  refine G_aload_n C 0 dL_termAt_2 rfl rfl ?_
  refine G_iload_n C 1 dL_termAt_3 rfl rfl ?_
  refine G_iload_n C 2 dL_termAt_4 rfl rfl ?_
  refine G_callVXC C (As := [.int n, .int pl]) (rest := [.int 0, .ref (ad 48)]) hM ca_X8_termAt km_L_35 (by decide) g0 rfl rfl rfl rfl (by decide) (Nat.le_of_ble_eq_true rfl) (by decide) dL_termAt_5 (fun e G2 hX2 => ?_) (fun vv G2 hQ2 => ?_)
  · rcases hX e G2 hX2 with rfl | rfl
    · refine ⟨13, ctch1 C ht (by decide) (by decide) kc_L_13 w_castIAE, fun q9 => ?_⟩
      refine G_astore C (lo' := [(4, .ref q9), (0, .ref (ad 0)), (1, .int n), (2, .int pl), (3, .ref (ad 48))]) dL_termAt_13 (by decide) rfl ?_
      refine G_iconst C (v := 1) dL_termAt_15 (by decide) ?_
      refine GW.widen (c1 := 2) (s1 := 12) (by decide) (by decide) ?_
      exact G_iret C hr dL_termAt_16 (Or.inr (Or.inl ⟨hX2, rfl⟩))
    · refine ⟨17, ctch2 C ht (by decide) kc_L_13 C.2.2.2.2.2.2.2.1.2.2.2.2.2.1.2 (by decide) (by decide) kc_L_33 w_castNSE, fun q9 => ?_⟩
      refine G_astore C (lo' := [(4, .ref q9), (0, .ref (ad 0)), (1, .int n), (2, .int pl), (3, .ref (ad 48))]) dL_termAt_17 (by decide) rfl ?_
      refine G_iconst C (v := 2) dL_termAt_19 (by decide) ?_
      refine GW.widen (c1 := 2) (s1 := 12) (by decide) (by decide) ?_
      exact G_iret C hr dL_termAt_20 (Or.inr (Or.inr ⟨hX2, rfl⟩))
  · obtain ⟨⟨r, rfl⟩, k48⟩ := hQ vv G2 hQ2
    refine G_i2l C dL_termAt_8 rfl ?_
    refine G_lastN C 48 (by decide) 0 k48 rfl (by decide) (by omega) dL_termAt_9 (fun gg1 hh2 aa3 => ?_)
    have BB5 : Agr [48] G2 gg1 := aa3.wk (by simp)
    refine G_goto C 21 dL_termAt_10 (by decide) ?_
    refine G_iconst C (v := 0) dL_termAt_21 (by decide) ?_
    refine GW.widen (c1 := 2) (s1 := 12) (by decide) (by decide) ?_
    exact G_iret C hr dL_termAt_22 (Or.inl ⟨r, G2, hQ2, rfl, hh2, BB5⟩)

abbrev rm_unitX : Room := ({ frames := 9, cells := 2, slots := 12, locals := 144 } : Room)
set_option maxRecDepth 100000 in
set_option maxHeartbeats 4000000 in
theorem w_unitX {L : GL} {ad : Nat → Nat} {G : Nat → va_E} {Q : Option Value → (Nat → va_E) → Prop} {X : String → (Nat → va_E) → Prop} {fs : List Value} {od : Nat → Int64} {n : Int32} (hM : GX L yX8_unitX cX8_unitX 2 ((some .int)) rm_X8_unitX 50 ad G [.ref (ad 0), .int n] Q X) (g0 : G 0 = .inr (8, fs)) (hQ : ∀ v G', Q v G' → (∃ r : Int32, v = some (.int r)) ∧ G' 48 = .inl (L.ac 1, 1, .inr (.inl od))) (hX : ∀ e G', X e G' → e = eIAE ∨ e = eNSE) : GH L yL_unitX cL_unitX 4 (some .int) [(0, 9, 12, 13), (0, 9, 15, 33)] rm_unitX 50 ad G [.ref (ad 0), .int n, .ref (ad 48)] (fun vo G' => (∃ (r : Int32) (G1 : Nat → va_E), Q (some (.int r)) G1 ∧ vo = some (.int 0) ∧ G' 48 = .inl (L.ac 1, 1, .inr (.inl (vp_updL od 0 r.toInt64))) ∧ Agr [48] G1 G') ∨ (X eIAE G' ∧ vo = some (.int 1)) ∨ (X eNSE G' ∧ vo = some (.int 2))) := by
  refine GH.of (own := RL) (lo := [(0, .ref (ad 0)), (1, .int n), (2, .ref (ad 48))]) (by decide +kernel) rfl rfl (Nat.le_of_ble_eq_true rfl) (fun E C ht hr => ?_)
  refine G_aload_n C 2 dL_unitX_0 rfl rfl ?_
  refine G_iconst C (v := 0) dL_unitX_1 (by decide) ?_
  refine G_aload_n C 0 dL_unitX_2 rfl rfl ?_
  refine G_iload_n C 1 dL_unitX_3 rfl rfl ?_
  refine G_callVXC C (As := [.int n]) (rest := [.int 0, .ref (ad 48)]) hM ca_X8_unitX km_L_39 (by decide) g0 rfl rfl rfl rfl (by decide) (Nat.le_of_ble_eq_true rfl) (by decide) dL_unitX_4 (fun e G2 hX2 => ?_) (fun vv G2 hQ2 => ?_)
  · rcases hX e G2 hX2 with rfl | rfl
    · refine ⟨12, ctch1 C ht (by decide) (by decide) kc_L_13 w_castIAE, fun q9 => ?_⟩
      refine G_astore_n C 3 (lo' := [(3, .ref q9), (0, .ref (ad 0)), (1, .int n), (2, .ref (ad 48))]) dL_unitX_12 rfl (by decide) rfl ?_
      refine G_iconst C (v := 1) dL_unitX_13 (by decide) ?_
      refine GW.widen (c1 := 2) (s1 := 12) (by decide) (by decide) ?_
      exact G_iret C hr dL_unitX_14 (Or.inr (Or.inl ⟨hX2, rfl⟩))
    · refine ⟨15, ctch2 C ht (by decide) kc_L_13 C.2.2.2.2.2.2.2.1.2.2.2.2.2.1.2 (by decide) (by decide) kc_L_33 w_castNSE, fun q9 => ?_⟩
      refine G_astore_n C 3 (lo' := [(3, .ref q9), (0, .ref (ad 0)), (1, .int n), (2, .ref (ad 48))]) dL_unitX_15 rfl (by decide) rfl ?_
      refine G_iconst C (v := 2) dL_unitX_16 (by decide) ?_
      refine GW.widen (c1 := 2) (s1 := 12) (by decide) (by decide) ?_
      exact G_iret C hr dL_unitX_17 (Or.inr (Or.inr ⟨hX2, rfl⟩))
  · obtain ⟨⟨r, rfl⟩, k48⟩ := hQ vv G2 hQ2
    refine G_i2l C dL_unitX_7 rfl ?_
    refine G_lastN C 48 (by decide) 0 k48 rfl (by decide) (by omega) dL_unitX_8 (fun gg1 hh2 aa3 => ?_)
    have BB5 : Agr [48] G2 gg1 := aa3.wk (by simp)
    refine G_goto C 18 dL_unitX_9 (by decide) ?_
    refine G_iconst C (v := 0) dL_unitX_18 (by decide) ?_
    refine GW.widen (c1 := 2) (s1 := 12) (by decide) (by decide) ?_
    exact G_iret C hr dL_unitX_19 (Or.inl ⟨r, G2, hQ2, rfl, hh2, BB5⟩)

abbrev rm_unitY : Room := ({ frames := 9, cells := 2, slots := 12, locals := 144 } : Room)
set_option maxRecDepth 100000 in
set_option maxHeartbeats 4000000 in
theorem w_unitY {L : GL} {ad : Nat → Nat} {G : Nat → va_E} {Q : Option Value → (Nat → va_E) → Prop} {X : String → (Nat → va_E) → Prop} {fs : List Value} {od : Nat → Int64} {n : Int32} (hM : GX L yX8_unitY cX8_unitY 2 ((some .int)) rm_X8_unitY 50 ad G [.ref (ad 0), .int n] Q X) (g0 : G 0 = .inr (8, fs)) (hQ : ∀ v G', Q v G' → (∃ r : Int32, v = some (.int r)) ∧ G' 48 = .inl (L.ac 1, 1, .inr (.inl od))) (hX : ∀ e G', X e G' → e = eIAE ∨ e = eNSE) : GH L yL_unitY cL_unitY 4 (some .int) [(0, 9, 12, 13), (0, 9, 15, 33)] rm_unitY 50 ad G [.ref (ad 0), .int n, .ref (ad 48)] (fun vo G' => (∃ (r : Int32) (G1 : Nat → va_E), Q (some (.int r)) G1 ∧ vo = some (.int 0) ∧ G' 48 = .inl (L.ac 1, 1, .inr (.inl (vp_updL od 0 r.toInt64))) ∧ Agr [48] G1 G') ∨ (X eIAE G' ∧ vo = some (.int 1)) ∨ (X eNSE G' ∧ vo = some (.int 2))) := by
  refine GH.of (own := RL) (lo := [(0, .ref (ad 0)), (1, .int n), (2, .ref (ad 48))]) (by decide +kernel) rfl rfl (Nat.le_of_ble_eq_true rfl) (fun E C ht hr => ?_)
  refine G_aload_n C 2 dL_unitY_0 rfl rfl ?_
  refine G_iconst C (v := 0) dL_unitY_1 (by decide) ?_
  refine G_aload_n C 0 dL_unitY_2 rfl rfl ?_
  refine G_iload_n C 1 dL_unitY_3 rfl rfl ?_
  refine G_callVXC C (As := [.int n]) (rest := [.int 0, .ref (ad 48)]) hM ca_X8_unitY km_L_42 (by decide) g0 rfl rfl rfl rfl (by decide) (Nat.le_of_ble_eq_true rfl) (by decide) dL_unitY_4 (fun e G2 hX2 => ?_) (fun vv G2 hQ2 => ?_)
  · rcases hX e G2 hX2 with rfl | rfl
    · refine ⟨12, ctch1 C ht (by decide) (by decide) kc_L_13 w_castIAE, fun q9 => ?_⟩
      refine G_astore_n C 3 (lo' := [(3, .ref q9), (0, .ref (ad 0)), (1, .int n), (2, .ref (ad 48))]) dL_unitY_12 rfl (by decide) rfl ?_
      refine G_iconst C (v := 1) dL_unitY_13 (by decide) ?_
      refine GW.widen (c1 := 2) (s1 := 12) (by decide) (by decide) ?_
      exact G_iret C hr dL_unitY_14 (Or.inr (Or.inl ⟨hX2, rfl⟩))
    · refine ⟨15, ctch2 C ht (by decide) kc_L_13 C.2.2.2.2.2.2.2.1.2.2.2.2.2.1.2 (by decide) (by decide) kc_L_33 w_castNSE, fun q9 => ?_⟩
      refine G_astore_n C 3 (lo' := [(3, .ref q9), (0, .ref (ad 0)), (1, .int n), (2, .ref (ad 48))]) dL_unitY_15 rfl (by decide) rfl ?_
      refine G_iconst C (v := 2) dL_unitY_16 (by decide) ?_
      refine GW.widen (c1 := 2) (s1 := 12) (by decide) (by decide) ?_
      exact G_iret C hr dL_unitY_17 (Or.inr (Or.inr ⟨hX2, rfl⟩))
  · obtain ⟨⟨r, rfl⟩, k48⟩ := hQ vv G2 hQ2
    refine G_i2l C dL_unitY_7 rfl ?_
    refine G_lastN C 48 (by decide) 0 k48 rfl (by decide) (by omega) dL_unitY_8 (fun gg1 hh2 aa3 => ?_)
    have BB5 : Agr [48] G2 gg1 := aa3.wk (by simp)
    refine G_goto C 18 dL_unitY_9 (by decide) ?_
    refine G_iconst C (v := 0) dL_unitY_18 (by decide) ?_
    refine GW.widen (c1 := 2) (s1 := 12) (by decide) (by decide) ?_
    exact G_iret C hr dL_unitY_19 (Or.inl ⟨r, G2, hQ2, rfl, hh2, BB5⟩)

abbrev rm_leastY : Room := ({ frames := 9, cells := 2, slots := 12, locals := 146 } : Room)
set_option maxRecDepth 100000 in
set_option maxHeartbeats 4000000 in
theorem w_leastY {L : GL} {ad : Nat → Nat} {G : Nat → va_E} {Q : Option Value → (Nat → va_E) → Prop} {X : String → (Nat → va_E) → Prop} {fs : List Value} {od : Nat → Int64} {n : Int32} (hM : GX L yX8_leastY cX8_leastY 4 ((some .int)) rm_X8_leastY 50 ad G [.ref (ad 0), .int n] Q X) (g0 : G 0 = .inr (8, fs)) (hQ : ∀ v G', Q v G' → (∃ r : Int32, v = some (.int r)) ∧ G' 48 = .inl (L.ac 1, 1, .inr (.inl od))) (hX : ∀ e G', X e G' → e = eIAE ∨ e = eNSE) : GH L yL_leastY cL_leastY 4 (some .int) [(0, 9, 12, 13), (0, 9, 15, 33)] rm_leastY 50 ad G [.ref (ad 0), .int n, .ref (ad 48)] (fun vo G' => (∃ (r : Int32) (G1 : Nat → va_E), Q (some (.int r)) G1 ∧ vo = some (.int 0) ∧ G' 48 = .inl (L.ac 1, 1, .inr (.inl (vp_updL od 0 r.toInt64))) ∧ Agr [48] G1 G') ∨ (X eIAE G' ∧ vo = some (.int 1)) ∨ (X eNSE G' ∧ vo = some (.int 2))) := by
  refine GH.of (own := RL) (lo := [(0, .ref (ad 0)), (1, .int n), (2, .ref (ad 48))]) (by decide +kernel) rfl rfl (Nat.le_of_ble_eq_true rfl) (fun E C ht hr => ?_)
  refine G_aload_n C 2 dL_leastY_0 rfl rfl ?_
  refine G_iconst C (v := 0) dL_leastY_1 (by decide) ?_
  refine G_aload_n C 0 dL_leastY_2 rfl rfl ?_
  refine G_iload_n C 1 dL_leastY_3 rfl rfl ?_
  refine G_callVXC C (As := [.int n]) (rest := [.int 0, .ref (ad 48)]) hM ca_X8_leastY km_L_45 (by decide) g0 rfl rfl rfl rfl (by decide) (Nat.le_of_ble_eq_true rfl) (by decide) dL_leastY_4 (fun e G2 hX2 => ?_) (fun vv G2 hQ2 => ?_)
  · rcases hX e G2 hX2 with rfl | rfl
    · refine ⟨12, ctch1 C ht (by decide) (by decide) kc_L_13 w_castIAE, fun q9 => ?_⟩
      refine G_astore_n C 3 (lo' := [(3, .ref q9), (0, .ref (ad 0)), (1, .int n), (2, .ref (ad 48))]) dL_leastY_12 rfl (by decide) rfl ?_
      refine G_iconst C (v := 1) dL_leastY_13 (by decide) ?_
      refine GW.widen (c1 := 2) (s1 := 12) (by decide) (by decide) ?_
      exact G_iret C hr dL_leastY_14 (Or.inr (Or.inl ⟨hX2, rfl⟩))
    · refine ⟨15, ctch2 C ht (by decide) kc_L_13 C.2.2.2.2.2.2.2.1.2.2.2.2.2.1.2 (by decide) (by decide) kc_L_33 w_castNSE, fun q9 => ?_⟩
      refine G_astore_n C 3 (lo' := [(3, .ref q9), (0, .ref (ad 0)), (1, .int n), (2, .ref (ad 48))]) dL_leastY_15 rfl (by decide) rfl ?_
      refine G_iconst C (v := 2) dL_leastY_16 (by decide) ?_
      refine GW.widen (c1 := 2) (s1 := 12) (by decide) (by decide) ?_
      exact G_iret C hr dL_leastY_17 (Or.inr (Or.inr ⟨hX2, rfl⟩))
  · obtain ⟨⟨r, rfl⟩, k48⟩ := hQ vv G2 hQ2
    refine G_i2l C dL_leastY_7 rfl ?_
    refine G_lastN C 48 (by decide) 0 k48 rfl (by decide) (by omega) dL_leastY_8 (fun gg1 hh2 aa3 => ?_)
    have BB5 : Agr [48] G2 gg1 := aa3.wk (by simp)
    refine G_goto C 18 dL_leastY_9 (by decide) ?_
    refine G_iconst C (v := 0) dL_leastY_18 (by decide) ?_
    refine GW.widen (c1 := 2) (s1 := 12) (by decide) (by decide) ?_
    exact G_iret C hr dL_leastY_19 (Or.inl ⟨r, G2, hQ2, rfl, hh2, BB5⟩)

abbrev rm_leastYBySearch : Room := ({ frames := 9, cells := 2, slots := 12, locals := 144 } : Room)
set_option maxRecDepth 100000 in
set_option maxHeartbeats 4000000 in
theorem w_leastYBySearch {L : GL} {ad : Nat → Nat} {G : Nat → va_E} {Q : Option Value → (Nat → va_E) → Prop} {X : String → (Nat → va_E) → Prop} {fs : List Value} {od : Nat → Int64} {n : Int32} (hM : GX L yX8_leastYBySearch cX8_leastYBySearch 2 ((some .int)) rm_X8_leastYBySearch 50 ad G [.ref (ad 0), .int n] Q X) (g0 : G 0 = .inr (8, fs)) (hQ : ∀ v G', Q v G' → (∃ r : Int32, v = some (.int r)) ∧ G' 48 = .inl (L.ac 1, 1, .inr (.inl od))) (hX : ∀ e G', X e G' → e = eIAE ∨ e = eNSE) : GH L yL_leastYBySearch cL_leastYBySearch 4 (some .int) [(0, 9, 12, 13), (0, 9, 15, 33)] rm_leastYBySearch 50 ad G [.ref (ad 0), .int n, .ref (ad 48)] (fun vo G' => (∃ (r : Int32) (G1 : Nat → va_E), Q (some (.int r)) G1 ∧ vo = some (.int 0) ∧ G' 48 = .inl (L.ac 1, 1, .inr (.inl (vp_updL od 0 r.toInt64))) ∧ Agr [48] G1 G') ∨ (X eIAE G' ∧ vo = some (.int 1)) ∨ (X eNSE G' ∧ vo = some (.int 2))) := by
  refine GH.of (own := RL) (lo := [(0, .ref (ad 0)), (1, .int n), (2, .ref (ad 48))]) (by decide +kernel) rfl rfl (Nat.le_of_ble_eq_true rfl) (fun E C ht hr => ?_)
  refine G_aload_n C 2 dL_leastYBySearch_0 rfl rfl ?_
  refine G_iconst C (v := 0) dL_leastYBySearch_1 (by decide) ?_
  refine G_aload_n C 0 dL_leastYBySearch_2 rfl rfl ?_
  refine G_iload_n C 1 dL_leastYBySearch_3 rfl rfl ?_
  refine G_callVXC C (As := [.int n]) (rest := [.int 0, .ref (ad 48)]) hM ca_X8_leastYBySearch km_L_48 (by decide) g0 rfl rfl rfl rfl (by decide) (Nat.le_of_ble_eq_true rfl) (by decide) dL_leastYBySearch_4 (fun e G2 hX2 => ?_) (fun vv G2 hQ2 => ?_)
  · rcases hX e G2 hX2 with rfl | rfl
    · refine ⟨12, ctch1 C ht (by decide) (by decide) kc_L_13 w_castIAE, fun q9 => ?_⟩
      refine G_astore_n C 3 (lo' := [(3, .ref q9), (0, .ref (ad 0)), (1, .int n), (2, .ref (ad 48))]) dL_leastYBySearch_12 rfl (by decide) rfl ?_
      refine G_iconst C (v := 1) dL_leastYBySearch_13 (by decide) ?_
      refine GW.widen (c1 := 2) (s1 := 12) (by decide) (by decide) ?_
      exact G_iret C hr dL_leastYBySearch_14 (Or.inr (Or.inl ⟨hX2, rfl⟩))
    · refine ⟨15, ctch2 C ht (by decide) kc_L_13 C.2.2.2.2.2.2.2.1.2.2.2.2.2.1.2 (by decide) (by decide) kc_L_33 w_castNSE, fun q9 => ?_⟩
      refine G_astore_n C 3 (lo' := [(3, .ref q9), (0, .ref (ad 0)), (1, .int n), (2, .ref (ad 48))]) dL_leastYBySearch_15 rfl (by decide) rfl ?_
      refine G_iconst C (v := 2) dL_leastYBySearch_16 (by decide) ?_
      refine GW.widen (c1 := 2) (s1 := 12) (by decide) (by decide) ?_
      exact G_iret C hr dL_leastYBySearch_17 (Or.inr (Or.inr ⟨hX2, rfl⟩))
  · obtain ⟨⟨r, rfl⟩, k48⟩ := hQ vv G2 hQ2
    refine G_i2l C dL_leastYBySearch_7 rfl ?_
    refine G_lastN C 48 (by decide) 0 k48 rfl (by decide) (by omega) dL_leastYBySearch_8 (fun gg1 hh2 aa3 => ?_)
    have BB5 : Agr [48] G2 gg1 := aa3.wk (by simp)
    refine G_goto C 18 dL_leastYBySearch_9 (by decide) ?_
    refine G_iconst C (v := 0) dL_leastYBySearch_18 (by decide) ?_
    refine GW.widen (c1 := 2) (s1 := 12) (by decide) (by decide) ?_
    exact G_iret C hr dL_leastYBySearch_19 (Or.inl ⟨r, G2, hQ2, rfl, hh2, BB5⟩)

abbrev rm_isLaid : Room := ({ frames := 8, cells := 1, slots := 6, locals := 123 } : Room)
set_option maxRecDepth 100000 in
set_option maxHeartbeats 4000000 in
theorem w_isLaid {L : GL} {ad : Nat → Nat} {G : Nat → va_E} {Q : Option Value → (Nat → va_E) → Prop} {X : String → (Nat → va_E) → Prop} {fs : List Value} {od : Nat → Int64} {n : Int32} (hM : GX L yX8_isLaid cX8_isLaid 2 ((some .boolean)) rm_X8_isLaid 50 ad G [.ref (ad 0), .int n] Q X) (g0 : G 0 = .inr (8, fs)) (hQ : ∀ v G', Q v G' → (∃ r : Int32, v = some (.int r)) ∧ G' 48 = .inl (L.ac 1, 1, .inr (.inl od))) (hX : ∀ e G', X e G' → e = eIAE) : GH L yL_isLaid cL_isLaid 4 (some .int) [(0, 16, 19, 13)] rm_isLaid 50 ad G [.ref (ad 0), .int n, .ref (ad 48)] (fun vo G' => (∃ (r : Int32) (G1 : Nat → va_E), Q (some (.int r)) G1 ∧ vo = some (.int 0) ∧ G' 48 = .inl (L.ac 1, 1, .inr (.inl (vp_updL od 0 (if r = 0 then 0 else 1)))) ∧ Agr [48] G1 G') ∨ (X eIAE G' ∧ vo = some (.int 1))) := by
  refine GH.of (own := RL) (lo := [(0, .ref (ad 0)), (1, .int n), (2, .ref (ad 48))]) (by decide +kernel) rfl rfl (Nat.le_of_ble_eq_true rfl) (fun E C ht hr => ?_)
  refine G_aload_n C 2 dL_isLaid_0 rfl rfl ?_
  refine G_iconst C (v := 0) dL_isLaid_1 (by decide) ?_
  refine G_aload_n C 0 dL_isLaid_2 rfl rfl ?_
  refine G_iload_n C 1 dL_isLaid_3 rfl rfl ?_
  refine G_callVXC C (As := [.int n]) (rest := [.int 0, .ref (ad 48)]) hM ca_X8_isLaid km_L_51 (by decide) g0 rfl rfl rfl rfl (by decide) (Nat.le_of_ble_eq_true rfl) (by decide) dL_isLaid_4 (fun e G2 hX2 => ?_) (fun vv G2 hQ2 => ?_)
  · obtain rfl := hX e G2 hX2
    refine ⟨19, ctch1 C ht (by decide) (by decide) kc_L_13 w_castIAE, fun q9 => ?_⟩
    refine G_astore_n C 3 (lo' := [(3, .ref q9), (0, .ref (ad 0)), (1, .int n), (2, .ref (ad 48))]) dL_isLaid_19 rfl (by decide) rfl ?_
    refine G_iconst C (v := 1) dL_isLaid_20 (by decide) ?_
    refine GW.widen (c1 := 1) (s1 := 6) (by decide) (by decide) ?_
    exact G_iret C hr dL_isLaid_21 (Or.inr ⟨hX2, rfl⟩)
  · obtain ⟨⟨r, rfl⟩, k48⟩ := hQ vv G2 hQ2
    refine G_if_eq C 14 dL_isLaid_7 (by decide) (fun c7 => ?_) (fun c7 => ?_)
    · refine G_lconst C (v := 0) dL_isLaid_14 (by decide) ?_
      refine G_lastN C 48 (by decide) 0 k48 rfl (by decide) (by omega) dL_isLaid_15 (fun gg1 hh2 aa3 => ?_)
      have BB5 : Agr [48] G2 gg1 := aa3.wk (by simp)
      refine G_goto C 22 dL_isLaid_16 (by decide) ?_
      refine G_iconst C (v := 0) dL_isLaid_22 (by decide) ?_
      refine GW.widen (c1 := 1) (s1 := 6) (by decide) (by decide) ?_
      exact G_iret C hr dL_isLaid_23 (Or.inl ⟨r, G2, hQ2, rfl, (hh2.trans (by rw [if_pos c7])), BB5⟩)
    · refine G_lconst C (v := 1) dL_isLaid_10 (by decide) ?_
      refine G_goto C 15 dL_isLaid_11 (by decide) ?_
      refine G_lastN C 48 (by decide) 0 k48 rfl (by decide) (by omega) dL_isLaid_15 (fun gg6 hh7 aa8 => ?_)
      have BB10 : Agr [48] G2 gg6 := aa8.wk (by simp)
      refine G_goto C 22 dL_isLaid_16 (by decide) ?_
      refine G_iconst C (v := 0) dL_isLaid_22 (by decide) ?_
      refine GW.widen (c1 := 1) (s1 := 6) (by decide) (by decide) ?_
      exact G_iret C hr dL_isLaid_23 (Or.inl ⟨r, G2, hQ2, rfl, (hh7.trans (by rw [if_neg c7])), BB10⟩)

abbrev rm_stoneFrom : Room := ({ frames := 8, cells := 2, slots := 12, locals := 124 } : Room)
set_option maxRecDepth 100000 in
set_option maxHeartbeats 4000000 in
theorem w_stoneFrom {L : GL} {ad : Nat → Nat} {G : Nat → va_E} {Q : Option Value → (Nat → va_E) → Prop} {X : String → (Nat → va_E) → Prop} {fs : List Value} {od : Nat → Int64} {n : Int32} (hM : GX L yX8_stoneFrom cX8_stoneFrom 3 ((some .int)) rm_X8_stoneFrom 50 ad G [.ref (ad 0), .int n] Q X) (g0 : G 0 = .inr (8, fs)) (hQ : ∀ v G', Q v G' → (∃ r : Int32, v = some (.int r)) ∧ G' 48 = .inl (L.ac 1, 1, .inr (.inl od))) (hX : ∀ e G', X e G' → e = eIAE ∨ e = eNSE) : GH L yL_stoneFrom cL_stoneFrom 4 (some .int) [(0, 9, 12, 13), (0, 9, 15, 33)] rm_stoneFrom 50 ad G [.ref (ad 0), .int n, .ref (ad 48)] (fun vo G' => (∃ (r : Int32) (G1 : Nat → va_E), Q (some (.int r)) G1 ∧ vo = some (.int 0) ∧ G' 48 = .inl (L.ac 1, 1, .inr (.inl (vp_updL od 0 r.toInt64))) ∧ Agr [48] G1 G') ∨ (X eIAE G' ∧ vo = some (.int 1)) ∨ (X eNSE G' ∧ vo = some (.int 2))) := by
  refine GH.of (own := RL) (lo := [(0, .ref (ad 0)), (1, .int n), (2, .ref (ad 48))]) (by decide +kernel) rfl rfl (Nat.le_of_ble_eq_true rfl) (fun E C ht hr => ?_)
  refine G_aload_n C 2 dL_stoneFrom_0 rfl rfl ?_
  refine G_iconst C (v := 0) dL_stoneFrom_1 (by decide) ?_
  refine G_aload_n C 0 dL_stoneFrom_2 rfl rfl ?_
  refine G_iload_n C 1 dL_stoneFrom_3 rfl rfl ?_
  refine G_callVXC C (As := [.int n]) (rest := [.int 0, .ref (ad 48)]) hM ca_X8_stoneFrom km_L_55 (by decide) g0 rfl rfl rfl rfl (by decide) (Nat.le_of_ble_eq_true rfl) (by decide) dL_stoneFrom_4 (fun e G2 hX2 => ?_) (fun vv G2 hQ2 => ?_)
  · rcases hX e G2 hX2 with rfl | rfl
    · refine ⟨12, ctch1 C ht (by decide) (by decide) kc_L_13 w_castIAE, fun q9 => ?_⟩
      refine G_astore_n C 3 (lo' := [(3, .ref q9), (0, .ref (ad 0)), (1, .int n), (2, .ref (ad 48))]) dL_stoneFrom_12 rfl (by decide) rfl ?_
      refine G_iconst C (v := 1) dL_stoneFrom_13 (by decide) ?_
      refine GW.widen (c1 := 2) (s1 := 12) (by decide) (by decide) ?_
      exact G_iret C hr dL_stoneFrom_14 (Or.inr (Or.inl ⟨hX2, rfl⟩))
    · refine ⟨15, ctch2 C ht (by decide) kc_L_13 C.2.2.2.2.2.2.2.1.2.2.2.2.2.1.2 (by decide) (by decide) kc_L_33 w_castNSE, fun q9 => ?_⟩
      refine G_astore_n C 3 (lo' := [(3, .ref q9), (0, .ref (ad 0)), (1, .int n), (2, .ref (ad 48))]) dL_stoneFrom_15 rfl (by decide) rfl ?_
      refine G_iconst C (v := 2) dL_stoneFrom_16 (by decide) ?_
      refine GW.widen (c1 := 2) (s1 := 12) (by decide) (by decide) ?_
      exact G_iret C hr dL_stoneFrom_17 (Or.inr (Or.inr ⟨hX2, rfl⟩))
  · obtain ⟨⟨r, rfl⟩, k48⟩ := hQ vv G2 hQ2
    refine G_i2l C dL_stoneFrom_7 rfl ?_
    refine G_lastN C 48 (by decide) 0 k48 rfl (by decide) (by omega) dL_stoneFrom_8 (fun gg1 hh2 aa3 => ?_)
    have BB5 : Agr [48] G2 gg1 := aa3.wk (by simp)
    refine G_goto C 18 dL_stoneFrom_9 (by decide) ?_
    refine G_iconst C (v := 0) dL_stoneFrom_18 (by decide) ?_
    refine GW.widen (c1 := 2) (s1 := 12) (by decide) (by decide) ?_
    exact G_iret C hr dL_stoneFrom_19 (Or.inl ⟨r, G2, hQ2, rfl, hh2, BB5⟩)

abbrev rm_powerOf : Room := ({ frames := 9, cells := 2, slots := 12, locals := 144 } : Room)
set_option maxRecDepth 100000 in
set_option maxHeartbeats 4000000 in
theorem w_powerOf {L : GL} {ad : Nat → Nat} {G : Nat → va_E} {Q : Option Value → (Nat → va_E) → Prop} {X : String → (Nat → va_E) → Prop} {fs : List Value} {od : Nat → Int64} {n : Int32} (hM : GX L yX8_powerOf cX8_powerOf 2 ((some .int)) rm_X8_powerOf 50 ad G [.ref (ad 0), .int n] Q X) (g0 : G 0 = .inr (8, fs)) (hQ : ∀ v G', Q v G' → (∃ r : Int32, v = some (.int r)) ∧ G' 48 = .inl (L.ac 1, 1, .inr (.inl od))) (hX : ∀ e G', X e G' → e = eIAE ∨ e = eNSE) : GH L yL_powerOf cL_powerOf 4 (some .int) [(0, 9, 12, 13), (0, 9, 15, 33)] rm_powerOf 50 ad G [.ref (ad 0), .int n, .ref (ad 48)] (fun vo G' => (∃ (r : Int32) (G1 : Nat → va_E), Q (some (.int r)) G1 ∧ vo = some (.int 0) ∧ G' 48 = .inl (L.ac 1, 1, .inr (.inl (vp_updL od 0 r.toInt64))) ∧ Agr [48] G1 G') ∨ (X eIAE G' ∧ vo = some (.int 1)) ∨ (X eNSE G' ∧ vo = some (.int 2))) := by
  refine GH.of (own := RL) (lo := [(0, .ref (ad 0)), (1, .int n), (2, .ref (ad 48))]) (by decide +kernel) rfl rfl (Nat.le_of_ble_eq_true rfl) (fun E C ht hr => ?_)
  refine G_aload_n C 2 dL_powerOf_0 rfl rfl ?_
  refine G_iconst C (v := 0) dL_powerOf_1 (by decide) ?_
  refine G_aload_n C 0 dL_powerOf_2 rfl rfl ?_
  refine G_iload_n C 1 dL_powerOf_3 rfl rfl ?_
  refine G_callVXC C (As := [.int n]) (rest := [.int 0, .ref (ad 48)]) hM ca_X8_powerOf km_L_58 (by decide) g0 rfl rfl rfl rfl (by decide) (Nat.le_of_ble_eq_true rfl) (by decide) dL_powerOf_4 (fun e G2 hX2 => ?_) (fun vv G2 hQ2 => ?_)
  · rcases hX e G2 hX2 with rfl | rfl
    · refine ⟨12, ctch1 C ht (by decide) (by decide) kc_L_13 w_castIAE, fun q9 => ?_⟩
      refine G_astore_n C 3 (lo' := [(3, .ref q9), (0, .ref (ad 0)), (1, .int n), (2, .ref (ad 48))]) dL_powerOf_12 rfl (by decide) rfl ?_
      refine G_iconst C (v := 1) dL_powerOf_13 (by decide) ?_
      refine GW.widen (c1 := 2) (s1 := 12) (by decide) (by decide) ?_
      exact G_iret C hr dL_powerOf_14 (Or.inr (Or.inl ⟨hX2, rfl⟩))
    · refine ⟨15, ctch2 C ht (by decide) kc_L_13 C.2.2.2.2.2.2.2.1.2.2.2.2.2.1.2 (by decide) (by decide) kc_L_33 w_castNSE, fun q9 => ?_⟩
      refine G_astore_n C 3 (lo' := [(3, .ref q9), (0, .ref (ad 0)), (1, .int n), (2, .ref (ad 48))]) dL_powerOf_15 rfl (by decide) rfl ?_
      refine G_iconst C (v := 2) dL_powerOf_16 (by decide) ?_
      refine GW.widen (c1 := 2) (s1 := 12) (by decide) (by decide) ?_
      exact G_iret C hr dL_powerOf_17 (Or.inr (Or.inr ⟨hX2, rfl⟩))
  · obtain ⟨⟨r, rfl⟩, k48⟩ := hQ vv G2 hQ2
    refine G_i2l C dL_powerOf_7 rfl ?_
    refine G_lastN C 48 (by decide) 0 k48 rfl (by decide) (by omega) dL_powerOf_8 (fun gg1 hh2 aa3 => ?_)
    have BB5 : Agr [48] G2 gg1 := aa3.wk (by simp)
    refine G_goto C 18 dL_powerOf_9 (by decide) ?_
    refine G_iconst C (v := 0) dL_powerOf_18 (by decide) ?_
    refine GW.widen (c1 := 2) (s1 := 12) (by decide) (by decide) ?_
    exact G_iret C hr dL_powerOf_19 (Or.inl ⟨r, G2, hQ2, rfl, hh2, BB5⟩)

abbrev rm_xOf : Room := ({ frames := 9, cells := 2, slots := 12, locals := 144 } : Room)
set_option maxRecDepth 100000 in
set_option maxHeartbeats 4000000 in
theorem w_xOf {L : GL} {ad : Nat → Nat} {G : Nat → va_E} {Q : Option Value → (Nat → va_E) → Prop} {X : String → (Nat → va_E) → Prop} {fs : List Value} {od : Nat → Int64} {n : Int32} (hM : GX L yX8_xOf cX8_xOf 2 ((some .long)) rm_X8_xOf 50 ad G [.ref (ad 0), .int n] Q X) (g0 : G 0 = .inr (8, fs)) (hQ : ∀ v G', Q v G' → (∃ r : Int64, v = some (.long r)) ∧ G' 48 = .inl (L.ac 1, 1, .inr (.inl od))) (hX : ∀ e G', X e G' → e = eIAE ∨ e = eNSE) : GH L yL_xOf cL_xOf 4 (some .int) [(0, 8, 11, 13), (0, 8, 14, 33)] rm_xOf 50 ad G [.ref (ad 0), .int n, .ref (ad 48)] (fun vo G' => (∃ (r : Int64) (G1 : Nat → va_E), Q (some (.long r)) G1 ∧ vo = some (.int 0) ∧ G' 48 = .inl (L.ac 1, 1, .inr (.inl (vp_updL od 0 r))) ∧ Agr [48] G1 G') ∨ (X eIAE G' ∧ vo = some (.int 1)) ∨ (X eNSE G' ∧ vo = some (.int 2))) := by
  refine GH.of (own := RL) (lo := [(0, .ref (ad 0)), (1, .int n), (2, .ref (ad 48))]) (by decide +kernel) rfl rfl (Nat.le_of_ble_eq_true rfl) (fun E C ht hr => ?_)
  refine G_aload_n C 2 dL_xOf_0 rfl rfl ?_
  refine G_iconst C (v := 0) dL_xOf_1 (by decide) ?_
  refine G_aload_n C 0 dL_xOf_2 rfl rfl ?_
  refine G_iload_n C 1 dL_xOf_3 rfl rfl ?_
  refine G_callVXC C (As := [.int n]) (rest := [.int 0, .ref (ad 48)]) hM ca_X8_xOf km_L_61 (by decide) g0 rfl rfl rfl rfl (by decide) (Nat.le_of_ble_eq_true rfl) (by decide) dL_xOf_4 (fun e G2 hX2 => ?_) (fun vv G2 hQ2 => ?_)
  · rcases hX e G2 hX2 with rfl | rfl
    · refine ⟨11, ctch1 C ht (by decide) (by decide) kc_L_13 w_castIAE, fun q9 => ?_⟩
      refine G_astore_n C 3 (lo' := [(3, .ref q9), (0, .ref (ad 0)), (1, .int n), (2, .ref (ad 48))]) dL_xOf_11 rfl (by decide) rfl ?_
      refine G_iconst C (v := 1) dL_xOf_12 (by decide) ?_
      refine GW.widen (c1 := 2) (s1 := 12) (by decide) (by decide) ?_
      exact G_iret C hr dL_xOf_13 (Or.inr (Or.inl ⟨hX2, rfl⟩))
    · refine ⟨14, ctch2 C ht (by decide) kc_L_13 C.2.2.2.2.2.2.2.1.2.2.2.2.2.1.2 (by decide) (by decide) kc_L_33 w_castNSE, fun q9 => ?_⟩
      refine G_astore_n C 3 (lo' := [(3, .ref q9), (0, .ref (ad 0)), (1, .int n), (2, .ref (ad 48))]) dL_xOf_14 rfl (by decide) rfl ?_
      refine G_iconst C (v := 2) dL_xOf_15 (by decide) ?_
      refine GW.widen (c1 := 2) (s1 := 12) (by decide) (by decide) ?_
      exact G_iret C hr dL_xOf_16 (Or.inr (Or.inr ⟨hX2, rfl⟩))
  · obtain ⟨⟨r, rfl⟩, k48⟩ := hQ vv G2 hQ2
    refine G_lastN C 48 (by decide) 0 k48 rfl (by decide) (by omega) dL_xOf_7 (fun gg1 hh2 aa3 => ?_)
    have BB5 : Agr [48] G2 gg1 := aa3.wk (by simp)
    refine G_goto C 17 dL_xOf_8 (by decide) ?_
    refine G_iconst C (v := 0) dL_xOf_17 (by decide) ?_
    refine GW.widen (c1 := 2) (s1 := 12) (by decide) (by decide) ?_
    exact G_iret C hr dL_xOf_18 (Or.inl ⟨r, G2, hQ2, rfl, hh2, BB5⟩)

abbrev rm_yOf : Room := ({ frames := 9, cells := 2, slots := 12, locals := 144 } : Room)
set_option maxRecDepth 100000 in
set_option maxHeartbeats 4000000 in
theorem w_yOf {L : GL} {ad : Nat → Nat} {G : Nat → va_E} {Q : Option Value → (Nat → va_E) → Prop} {X : String → (Nat → va_E) → Prop} {fs : List Value} {od : Nat → Int64} {n : Int32} (hM : GX L yX8_yOf cX8_yOf 2 ((some .long)) rm_X8_yOf 50 ad G [.ref (ad 0), .int n] Q X) (g0 : G 0 = .inr (8, fs)) (hQ : ∀ v G', Q v G' → (∃ r : Int64, v = some (.long r)) ∧ G' 48 = .inl (L.ac 1, 1, .inr (.inl od))) (hX : ∀ e G', X e G' → e = eIAE ∨ e = eNSE) : GH L yL_yOf cL_yOf 4 (some .int) [(0, 8, 11, 13), (0, 8, 14, 33)] rm_yOf 50 ad G [.ref (ad 0), .int n, .ref (ad 48)] (fun vo G' => (∃ (r : Int64) (G1 : Nat → va_E), Q (some (.long r)) G1 ∧ vo = some (.int 0) ∧ G' 48 = .inl (L.ac 1, 1, .inr (.inl (vp_updL od 0 r))) ∧ Agr [48] G1 G') ∨ (X eIAE G' ∧ vo = some (.int 1)) ∨ (X eNSE G' ∧ vo = some (.int 2))) := by
  refine GH.of (own := RL) (lo := [(0, .ref (ad 0)), (1, .int n), (2, .ref (ad 48))]) (by decide +kernel) rfl rfl (Nat.le_of_ble_eq_true rfl) (fun E C ht hr => ?_)
  refine G_aload_n C 2 dL_yOf_0 rfl rfl ?_
  refine G_iconst C (v := 0) dL_yOf_1 (by decide) ?_
  refine G_aload_n C 0 dL_yOf_2 rfl rfl ?_
  refine G_iload_n C 1 dL_yOf_3 rfl rfl ?_
  refine G_callVXC C (As := [.int n]) (rest := [.int 0, .ref (ad 48)]) hM ca_X8_yOf km_L_64 (by decide) g0 rfl rfl rfl rfl (by decide) (Nat.le_of_ble_eq_true rfl) (by decide) dL_yOf_4 (fun e G2 hX2 => ?_) (fun vv G2 hQ2 => ?_)
  · rcases hX e G2 hX2 with rfl | rfl
    · refine ⟨11, ctch1 C ht (by decide) (by decide) kc_L_13 w_castIAE, fun q9 => ?_⟩
      refine G_astore_n C 3 (lo' := [(3, .ref q9), (0, .ref (ad 0)), (1, .int n), (2, .ref (ad 48))]) dL_yOf_11 rfl (by decide) rfl ?_
      refine G_iconst C (v := 1) dL_yOf_12 (by decide) ?_
      refine GW.widen (c1 := 2) (s1 := 12) (by decide) (by decide) ?_
      exact G_iret C hr dL_yOf_13 (Or.inr (Or.inl ⟨hX2, rfl⟩))
    · refine ⟨14, ctch2 C ht (by decide) kc_L_13 C.2.2.2.2.2.2.2.1.2.2.2.2.2.1.2 (by decide) (by decide) kc_L_33 w_castNSE, fun q9 => ?_⟩
      refine G_astore_n C 3 (lo' := [(3, .ref q9), (0, .ref (ad 0)), (1, .int n), (2, .ref (ad 48))]) dL_yOf_14 rfl (by decide) rfl ?_
      refine G_iconst C (v := 2) dL_yOf_15 (by decide) ?_
      refine GW.widen (c1 := 2) (s1 := 12) (by decide) (by decide) ?_
      exact G_iret C hr dL_yOf_16 (Or.inr (Or.inr ⟨hX2, rfl⟩))
  · obtain ⟨⟨r, rfl⟩, k48⟩ := hQ vv G2 hQ2
    refine G_lastN C 48 (by decide) 0 k48 rfl (by decide) (by omega) dL_yOf_7 (fun gg1 hh2 aa3 => ?_)
    have BB5 : Agr [48] G2 gg1 := aa3.wk (by simp)
    refine G_goto C 17 dL_yOf_8 (by decide) ?_
    refine G_iconst C (v := 0) dL_yOf_17 (by decide) ?_
    refine GW.widen (c1 := 2) (s1 := 12) (by decide) (by decide) ?_
    exact G_iret C hr dL_yOf_18 (Or.inl ⟨r, G2, hQ2, rfl, hh2, BB5⟩)

abbrev rm_signOf : Room := ({ frames := 9, cells := 2, slots := 12, locals := 144 } : Room)
set_option maxRecDepth 100000 in
set_option maxHeartbeats 4000000 in
theorem w_signOf {L : GL} {ad : Nat → Nat} {G : Nat → va_E} {Q : Option Value → (Nat → va_E) → Prop} {X : String → (Nat → va_E) → Prop} {fs : List Value} {od : Nat → Int64} {n : Int32} (hM : GX L yX8_signOf cX8_signOf 2 ((some .int)) rm_X8_signOf 50 ad G [.ref (ad 0), .int n] Q X) (g0 : G 0 = .inr (8, fs)) (hQ : ∀ v G', Q v G' → (∃ r : Int32, v = some (.int r)) ∧ G' 48 = .inl (L.ac 1, 1, .inr (.inl od))) (hX : ∀ e G', X e G' → e = eIAE ∨ e = eNSE) : GH L yL_signOf cL_signOf 4 (some .int) [(0, 9, 12, 13), (0, 9, 15, 33)] rm_signOf 50 ad G [.ref (ad 0), .int n, .ref (ad 48)] (fun vo G' => (∃ (r : Int32) (G1 : Nat → va_E), Q (some (.int r)) G1 ∧ vo = some (.int 0) ∧ G' 48 = .inl (L.ac 1, 1, .inr (.inl (vp_updL od 0 r.toInt64))) ∧ Agr [48] G1 G') ∨ (X eIAE G' ∧ vo = some (.int 1)) ∨ (X eNSE G' ∧ vo = some (.int 2))) := by
  refine GH.of (own := RL) (lo := [(0, .ref (ad 0)), (1, .int n), (2, .ref (ad 48))]) (by decide +kernel) rfl rfl (Nat.le_of_ble_eq_true rfl) (fun E C ht hr => ?_)
  refine G_aload_n C 2 dL_signOf_0 rfl rfl ?_
  refine G_iconst C (v := 0) dL_signOf_1 (by decide) ?_
  refine G_aload_n C 0 dL_signOf_2 rfl rfl ?_
  refine G_iload_n C 1 dL_signOf_3 rfl rfl ?_
  refine G_callVXC C (As := [.int n]) (rest := [.int 0, .ref (ad 48)]) hM ca_X8_signOf km_L_67 (by decide) g0 rfl rfl rfl rfl (by decide) (Nat.le_of_ble_eq_true rfl) (by decide) dL_signOf_4 (fun e G2 hX2 => ?_) (fun vv G2 hQ2 => ?_)
  · rcases hX e G2 hX2 with rfl | rfl
    · refine ⟨12, ctch1 C ht (by decide) (by decide) kc_L_13 w_castIAE, fun q9 => ?_⟩
      refine G_astore_n C 3 (lo' := [(3, .ref q9), (0, .ref (ad 0)), (1, .int n), (2, .ref (ad 48))]) dL_signOf_12 rfl (by decide) rfl ?_
      refine G_iconst C (v := 1) dL_signOf_13 (by decide) ?_
      refine GW.widen (c1 := 2) (s1 := 12) (by decide) (by decide) ?_
      exact G_iret C hr dL_signOf_14 (Or.inr (Or.inl ⟨hX2, rfl⟩))
    · refine ⟨15, ctch2 C ht (by decide) kc_L_13 C.2.2.2.2.2.2.2.1.2.2.2.2.2.1.2 (by decide) (by decide) kc_L_33 w_castNSE, fun q9 => ?_⟩
      refine G_astore_n C 3 (lo' := [(3, .ref q9), (0, .ref (ad 0)), (1, .int n), (2, .ref (ad 48))]) dL_signOf_15 rfl (by decide) rfl ?_
      refine G_iconst C (v := 2) dL_signOf_16 (by decide) ?_
      refine GW.widen (c1 := 2) (s1 := 12) (by decide) (by decide) ?_
      exact G_iret C hr dL_signOf_17 (Or.inr (Or.inr ⟨hX2, rfl⟩))
  · obtain ⟨⟨r, rfl⟩, k48⟩ := hQ vv G2 hQ2
    refine G_i2l C dL_signOf_7 rfl ?_
    refine G_lastN C 48 (by decide) 0 k48 rfl (by decide) (by omega) dL_signOf_8 (fun gg1 hh2 aa3 => ?_)
    have BB5 : Agr [48] G2 gg1 := aa3.wk (by simp)
    refine G_goto C 18 dL_signOf_9 (by decide) ?_
    refine G_iconst C (v := 0) dL_signOf_18 (by decide) ?_
    refine GW.widen (c1 := 2) (s1 := 12) (by decide) (by decide) ?_
    exact G_iret C hr dL_signOf_19 (Or.inl ⟨r, G2, hQ2, rfl, hh2, BB5⟩)

abbrev rm_signByRemainders : Room := ({ frames := 9, cells := 2, slots := 12, locals := 151 } : Room)
set_option maxRecDepth 100000 in
set_option maxHeartbeats 4000000 in
theorem w_signByRemainders {L : GL} {ad : Nat → Nat} {G : Nat → va_E} {Q : Option Value → (Nat → va_E) → Prop} {X : String → (Nat → va_E) → Prop} {fs : List Value} {od : Nat → Int64} {n : Int32} (hM : GX L yX8_signByRemainders cX8_signByRemainders 9 ((some .int)) rm_X8_signByRemainders 50 ad G [.ref (ad 0), .int n] Q X) (g0 : G 0 = .inr (8, fs)) (hQ : ∀ v G', Q v G' → (∃ r : Int32, v = some (.int r)) ∧ G' 48 = .inl (L.ac 1, 1, .inr (.inl od))) (hX : ∀ e G', X e G' → e = eIAE ∨ e = eNSE) : GH L yL_signByRemainders cL_signByRemainders 4 (some .int) [(0, 9, 12, 13), (0, 9, 15, 33)] rm_signByRemainders 50 ad G [.ref (ad 0), .int n, .ref (ad 48)] (fun vo G' => (∃ (r : Int32) (G1 : Nat → va_E), Q (some (.int r)) G1 ∧ vo = some (.int 0) ∧ G' 48 = .inl (L.ac 1, 1, .inr (.inl (vp_updL od 0 r.toInt64))) ∧ Agr [48] G1 G') ∨ (X eIAE G' ∧ vo = some (.int 1)) ∨ (X eNSE G' ∧ vo = some (.int 2))) := by
  refine GH.of (own := RL) (lo := [(0, .ref (ad 0)), (1, .int n), (2, .ref (ad 48))]) (by decide +kernel) rfl rfl (Nat.le_of_ble_eq_true rfl) (fun E C ht hr => ?_)
  refine G_aload_n C 2 dL_signByRemainders_0 rfl rfl ?_
  refine G_iconst C (v := 0) dL_signByRemainders_1 (by decide) ?_
  refine G_aload_n C 0 dL_signByRemainders_2 rfl rfl ?_
  refine G_iload_n C 1 dL_signByRemainders_3 rfl rfl ?_
  refine G_callVXC C (As := [.int n]) (rest := [.int 0, .ref (ad 48)]) hM ca_X8_signByRemainders km_L_70 (by decide) g0 rfl rfl rfl rfl (by decide) (Nat.le_of_ble_eq_true rfl) (by decide) dL_signByRemainders_4 (fun e G2 hX2 => ?_) (fun vv G2 hQ2 => ?_)
  · rcases hX e G2 hX2 with rfl | rfl
    · refine ⟨12, ctch1 C ht (by decide) (by decide) kc_L_13 w_castIAE, fun q9 => ?_⟩
      refine G_astore_n C 3 (lo' := [(3, .ref q9), (0, .ref (ad 0)), (1, .int n), (2, .ref (ad 48))]) dL_signByRemainders_12 rfl (by decide) rfl ?_
      refine G_iconst C (v := 1) dL_signByRemainders_13 (by decide) ?_
      refine GW.widen (c1 := 2) (s1 := 12) (by decide) (by decide) ?_
      exact G_iret C hr dL_signByRemainders_14 (Or.inr (Or.inl ⟨hX2, rfl⟩))
    · refine ⟨15, ctch2 C ht (by decide) kc_L_13 C.2.2.2.2.2.2.2.1.2.2.2.2.2.1.2 (by decide) (by decide) kc_L_33 w_castNSE, fun q9 => ?_⟩
      refine G_astore_n C 3 (lo' := [(3, .ref q9), (0, .ref (ad 0)), (1, .int n), (2, .ref (ad 48))]) dL_signByRemainders_15 rfl (by decide) rfl ?_
      refine G_iconst C (v := 2) dL_signByRemainders_16 (by decide) ?_
      refine GW.widen (c1 := 2) (s1 := 12) (by decide) (by decide) ?_
      exact G_iret C hr dL_signByRemainders_17 (Or.inr (Or.inr ⟨hX2, rfl⟩))
  · obtain ⟨⟨r, rfl⟩, k48⟩ := hQ vv G2 hQ2
    refine G_i2l C dL_signByRemainders_7 rfl ?_
    refine G_lastN C 48 (by decide) 0 k48 rfl (by decide) (by omega) dL_signByRemainders_8 (fun gg1 hh2 aa3 => ?_)
    have BB5 : Agr [48] G2 gg1 := aa3.wk (by simp)
    refine G_goto C 18 dL_signByRemainders_9 (by decide) ?_
    refine G_iconst C (v := 0) dL_signByRemainders_18 (by decide) ?_
    refine GW.widen (c1 := 2) (s1 := 12) (by decide) (by decide) ?_
    exact G_iret C hr dL_signByRemainders_19 (Or.inl ⟨r, G2, hQ2, rfl, hh2, BB5⟩)

abbrev rm_nearRoot : Room := ({ frames := 9, cells := 3, slots := 18, locals := 145 } : Room)
set_option maxRecDepth 100000 in
set_option maxHeartbeats 4000000 in
theorem w_nearRoot {L : GL} {ad : Nat → Nat} {G : Nat → va_E} {Q : Option Value → (Nat → va_E) → Prop} {X : String → (Nat → va_E) → Prop} {fs : List Value} {od : Nat → UInt64} {n : Int32} (hM : GX L yX8_nearRoot cX8_nearRoot 3 ((some .float)) rm_X8_nearRoot 50 ad G [.ref (ad 0), .int n] Q X) (g0 : G 0 = .inr (8, fs)) (hQ : ∀ v G', Q v G' → (∃ r : UInt32, v = some (.float r) ∧ vf_n64 (FP.f2d r)) ∧ G' 49 = .inl (L.ac 3, 1, .inr (.inr (.inr (.inl od))))) (hX : ∀ e G', X e G' → e = eIAE ∨ e = eNSE) : GH L yL_nearRoot cL_nearRoot 4 (some .int) [(0, 9, 12, 13), (0, 9, 15, 33)] rm_nearRoot 50 ad G [.ref (ad 0), .int n, .ref (ad 49)] (fun vo G' => (∃ (r : UInt32) (G1 : Nat → va_E), Q (some (.float r)) G1 ∧ vo = some (.int 0) ∧ G' 49 = .inl (L.ac 3, 1, .inr (.inr (.inr (.inl (vf_upd od 0 (FP.f2d r)))))) ∧ Agr [49] G1 G') ∨ (X eIAE G' ∧ vo = some (.int 1)) ∨ (X eNSE G' ∧ vo = some (.int 2))) := by
  refine GH.of (own := RL) (lo := [(0, .ref (ad 0)), (1, .int n), (2, .ref (ad 49))]) (by decide +kernel) rfl rfl (Nat.le_of_ble_eq_true rfl) (fun E C ht hr => ?_)
  refine G_aload_n C 2 dL_nearRoot_0 rfl rfl ?_
  refine G_iconst C (v := 0) dL_nearRoot_1 (by decide) ?_
  refine G_aload_n C 0 dL_nearRoot_2 rfl rfl ?_
  refine G_iload_n C 1 dL_nearRoot_3 rfl rfl ?_
  refine G_callVXC C (As := [.int n]) (rest := [.int 0, .ref (ad 49)]) hM ca_X8_nearRoot km_L_73 (by decide) g0 rfl rfl rfl rfl (by decide) (Nat.le_of_ble_eq_true rfl) (by decide) dL_nearRoot_4 (fun e G2 hX2 => ?_) (fun vv G2 hQ2 => ?_)
  · rcases hX e G2 hX2 with rfl | rfl
    · refine ⟨12, ctch1 C ht (by decide) (by decide) kc_L_13 w_castIAE, fun q9 => ?_⟩
      refine G_astore_n C 3 (lo' := [(3, .ref q9), (0, .ref (ad 0)), (1, .int n), (2, .ref (ad 49))]) dL_nearRoot_12 rfl (by decide) rfl ?_
      refine G_iconst C (v := 1) dL_nearRoot_13 (by decide) ?_
      refine GW.widen (c1 := 3) (s1 := 18) (by decide) (by decide) ?_
      exact G_iret C hr dL_nearRoot_14 (Or.inr (Or.inl ⟨hX2, rfl⟩))
    · refine ⟨15, ctch2 C ht (by decide) kc_L_13 C.2.2.2.2.2.2.2.1.2.2.2.2.2.1.2 (by decide) (by decide) kc_L_33 w_castNSE, fun q9 => ?_⟩
      refine G_astore_n C 3 (lo' := [(3, .ref q9), (0, .ref (ad 0)), (1, .int n), (2, .ref (ad 49))]) dL_nearRoot_15 rfl (by decide) rfl ?_
      refine G_iconst C (v := 2) dL_nearRoot_16 (by decide) ?_
      refine GW.widen (c1 := 3) (s1 := 18) (by decide) (by decide) ?_
      exact G_iret C hr dL_nearRoot_17 (Or.inr (Or.inr ⟨hX2, rfl⟩))
  · obtain ⟨⟨r, rfl, hne⟩, k49⟩ := hQ vv G2 hQ2
    refine G_f2d C dL_nearRoot_7 hne ?_
    refine G_dastN C 49 (by decide) 0 k49 rfl (by decide) (by omega) dL_nearRoot_8 (fun gg1 hh2 aa3 => ?_)
    have BB5 : Agr [49] G2 gg1 := aa3.wk (by simp)
    refine G_goto C 18 dL_nearRoot_9 (by decide) ?_
    refine G_iconst C (v := 0) dL_nearRoot_18 (by decide) ?_
    refine GW.widen (c1 := 3) (s1 := 18) (by decide) (by decide) ?_
    exact G_iret C hr dL_nearRoot_19 (Or.inl ⟨r, G2, hQ2, rfl, hh2, BB5⟩)

abbrev rm_xAt : Room := ({ frames := 8, cells := 1, slots := 6, locals := 130 } : Room)
set_option maxRecDepth 100000 in
set_option maxHeartbeats 4000000 in
theorem w_xAt {L : GL} {ad : Nat → Nat} {G : Nat → va_E} {Q : Option Value → (Nat → va_E) → Prop} {X : String → (Nat → va_E) → Prop} {fs : List Value} {od : Nat → Int64} {n : Int32} (hM : GX L yX8_xAt cX8_xAt 2 ((some .long)) rm_X8_xAt 50 ad G [.ref (ad 0), .int n] Q X) (g0 : G 0 = .inr (8, fs)) (hQ : ∀ v G', Q v G' → (∃ r : Int64, v = some (.long r)) ∧ G' 48 = .inl (L.ac 1, 1, .inr (.inl od))) (hX : ∀ e G', X e G' → e = eIAE ∨ e = eNSE) : GH L yL_xAt cL_xAt 4 (some .int) [(0, 8, 11, 13), (0, 8, 14, 33)] rm_xAt 50 ad G [.ref (ad 0), .int n, .ref (ad 48)] (fun vo G' => (∃ (r : Int64) (G1 : Nat → va_E), Q (some (.long r)) G1 ∧ vo = some (.int 0) ∧ G' 48 = .inl (L.ac 1, 1, .inr (.inl (vp_updL od 0 r))) ∧ Agr [48] G1 G') ∨ (X eIAE G' ∧ vo = some (.int 1)) ∨ (X eNSE G' ∧ vo = some (.int 2))) := by
  refine GH.of (own := RL) (lo := [(0, .ref (ad 0)), (1, .int n), (2, .ref (ad 48))]) (by decide +kernel) rfl rfl (Nat.le_of_ble_eq_true rfl) (fun E C ht hr => ?_)
  refine G_aload_n C 2 dL_xAt_0 rfl rfl ?_
  refine G_iconst C (v := 0) dL_xAt_1 (by decide) ?_
  refine G_aload_n C 0 dL_xAt_2 rfl rfl ?_
  refine G_iload_n C 1 dL_xAt_3 rfl rfl ?_
  refine G_callVXC C (As := [.int n]) (rest := [.int 0, .ref (ad 48)]) hM ca_X8_xAt km_L_77 (by decide) g0 rfl rfl rfl rfl (by decide) (Nat.le_of_ble_eq_true rfl) (by decide) dL_xAt_4 (fun e G2 hX2 => ?_) (fun vv G2 hQ2 => ?_)
  · rcases hX e G2 hX2 with rfl | rfl
    · refine ⟨11, ctch1 C ht (by decide) (by decide) kc_L_13 w_castIAE, fun q9 => ?_⟩
      refine G_astore_n C 3 (lo' := [(3, .ref q9), (0, .ref (ad 0)), (1, .int n), (2, .ref (ad 48))]) dL_xAt_11 rfl (by decide) rfl ?_
      refine G_iconst C (v := 1) dL_xAt_12 (by decide) ?_
      refine GW.widen (c1 := 1) (s1 := 6) (by decide) (by decide) ?_
      exact G_iret C hr dL_xAt_13 (Or.inr (Or.inl ⟨hX2, rfl⟩))
    · refine ⟨14, ctch2 C ht (by decide) kc_L_13 C.2.2.2.2.2.2.2.1.2.2.2.2.2.1.2 (by decide) (by decide) kc_L_33 w_castNSE, fun q9 => ?_⟩
      refine G_astore_n C 3 (lo' := [(3, .ref q9), (0, .ref (ad 0)), (1, .int n), (2, .ref (ad 48))]) dL_xAt_14 rfl (by decide) rfl ?_
      refine G_iconst C (v := 2) dL_xAt_15 (by decide) ?_
      refine GW.widen (c1 := 1) (s1 := 6) (by decide) (by decide) ?_
      exact G_iret C hr dL_xAt_16 (Or.inr (Or.inr ⟨hX2, rfl⟩))
  · obtain ⟨⟨r, rfl⟩, k48⟩ := hQ vv G2 hQ2
    refine G_lastN C 48 (by decide) 0 k48 rfl (by decide) (by omega) dL_xAt_7 (fun gg1 hh2 aa3 => ?_)
    have BB5 : Agr [48] G2 gg1 := aa3.wk (by simp)
    refine G_goto C 17 dL_xAt_8 (by decide) ?_
    refine G_iconst C (v := 0) dL_xAt_17 (by decide) ?_
    refine GW.widen (c1 := 1) (s1 := 6) (by decide) (by decide) ?_
    exact G_iret C hr dL_xAt_18 (Or.inl ⟨r, G2, hQ2, rfl, hh2, BB5⟩)

abbrev rm_xAtBySet : Room := ({ frames := 7, cells := 1, slots := 6, locals := 110 } : Room)
set_option maxRecDepth 100000 in
set_option maxHeartbeats 4000000 in
theorem w_xAtBySet {L : GL} {ad : Nat → Nat} {G : Nat → va_E} {Q : Option Value → (Nat → va_E) → Prop} {X : String → (Nat → va_E) → Prop} {fs : List Value} {od : Nat → Int64} {n : Int32} (hM : GX L yX8_xAtBySet cX8_xAtBySet 2 ((some .long)) rm_X8_xAtBySet 50 ad G [.ref (ad 0), .int n] Q X) (g0 : G 0 = .inr (8, fs)) (hQ : ∀ v G', Q v G' → (∃ r : Int64, v = some (.long r)) ∧ G' 48 = .inl (L.ac 1, 1, .inr (.inl od))) (hX : ∀ e G', X e G' → e = eIAE ∨ e = eNSE) : GH L yL_xAtBySet cL_xAtBySet 4 (some .int) [(0, 8, 11, 13), (0, 8, 14, 33)] rm_xAtBySet 50 ad G [.ref (ad 0), .int n, .ref (ad 48)] (fun vo G' => (∃ (r : Int64) (G1 : Nat → va_E), Q (some (.long r)) G1 ∧ vo = some (.int 0) ∧ G' 48 = .inl (L.ac 1, 1, .inr (.inl (vp_updL od 0 r))) ∧ Agr [48] G1 G') ∨ (X eIAE G' ∧ vo = some (.int 1)) ∨ (X eNSE G' ∧ vo = some (.int 2))) := by
  refine GH.of (own := RL) (lo := [(0, .ref (ad 0)), (1, .int n), (2, .ref (ad 48))]) (by decide +kernel) rfl rfl (Nat.le_of_ble_eq_true rfl) (fun E C ht hr => ?_)
  refine G_aload_n C 2 dL_xAtBySet_0 rfl rfl ?_
  refine G_iconst C (v := 0) dL_xAtBySet_1 (by decide) ?_
  refine G_aload_n C 0 dL_xAtBySet_2 rfl rfl ?_
  refine G_iload_n C 1 dL_xAtBySet_3 rfl rfl ?_
  refine G_callVXC C (As := [.int n]) (rest := [.int 0, .ref (ad 48)]) hM ca_X8_xAtBySet km_L_80 (by decide) g0 rfl rfl rfl rfl (by decide) (Nat.le_of_ble_eq_true rfl) (by decide) dL_xAtBySet_4 (fun e G2 hX2 => ?_) (fun vv G2 hQ2 => ?_)
  · rcases hX e G2 hX2 with rfl | rfl
    · refine ⟨11, ctch1 C ht (by decide) (by decide) kc_L_13 w_castIAE, fun q9 => ?_⟩
      refine G_astore_n C 3 (lo' := [(3, .ref q9), (0, .ref (ad 0)), (1, .int n), (2, .ref (ad 48))]) dL_xAtBySet_11 rfl (by decide) rfl ?_
      refine G_iconst C (v := 1) dL_xAtBySet_12 (by decide) ?_
      refine GW.widen (c1 := 1) (s1 := 6) (by decide) (by decide) ?_
      exact G_iret C hr dL_xAtBySet_13 (Or.inr (Or.inl ⟨hX2, rfl⟩))
    · refine ⟨14, ctch2 C ht (by decide) kc_L_13 C.2.2.2.2.2.2.2.1.2.2.2.2.2.1.2 (by decide) (by decide) kc_L_33 w_castNSE, fun q9 => ?_⟩
      refine G_astore_n C 3 (lo' := [(3, .ref q9), (0, .ref (ad 0)), (1, .int n), (2, .ref (ad 48))]) dL_xAtBySet_14 rfl (by decide) rfl ?_
      refine G_iconst C (v := 2) dL_xAtBySet_15 (by decide) ?_
      refine GW.widen (c1 := 1) (s1 := 6) (by decide) (by decide) ?_
      exact G_iret C hr dL_xAtBySet_16 (Or.inr (Or.inr ⟨hX2, rfl⟩))
  · obtain ⟨⟨r, rfl⟩, k48⟩ := hQ vv G2 hQ2
    refine G_lastN C 48 (by decide) 0 k48 rfl (by decide) (by omega) dL_xAtBySet_7 (fun gg1 hh2 aa3 => ?_)
    have BB5 : Agr [48] G2 gg1 := aa3.wk (by simp)
    refine G_goto C 17 dL_xAtBySet_8 (by decide) ?_
    refine G_iconst C (v := 0) dL_xAtBySet_17 (by decide) ?_
    refine GW.widen (c1 := 1) (s1 := 6) (by decide) (by decide) ?_
    exact G_iret C hr dL_xAtBySet_18 (Or.inl ⟨r, G2, hQ2, rfl, hh2, BB5⟩)

abbrev rm_stoneAt : Room := ({ frames := 8, cells := 1, slots := 6, locals := 130 } : Room)
set_option maxRecDepth 100000 in
set_option maxHeartbeats 4000000 in
theorem w_stoneAt {L : GL} {ad : Nat → Nat} {G : Nat → va_E} {Q : Option Value → (Nat → va_E) → Prop} {X : String → (Nat → va_E) → Prop} {fs : List Value} {od : Nat → Int64} {n : Int32} (hM : GX L yX8_stoneAt cX8_stoneAt 2 ((some .int)) rm_X8_stoneAt 50 ad G [.ref (ad 0), .int n] Q X) (g0 : G 0 = .inr (8, fs)) (hQ : ∀ v G', Q v G' → (∃ r : Int32, v = some (.int r)) ∧ G' 48 = .inl (L.ac 1, 1, .inr (.inl od))) (hX : ∀ e G', X e G' → e = eIAE ∨ e = eNSE) : GH L yL_stoneAt cL_stoneAt 4 (some .int) [(0, 9, 12, 13), (0, 9, 15, 33)] rm_stoneAt 50 ad G [.ref (ad 0), .int n, .ref (ad 48)] (fun vo G' => (∃ (r : Int32) (G1 : Nat → va_E), Q (some (.int r)) G1 ∧ vo = some (.int 0) ∧ G' 48 = .inl (L.ac 1, 1, .inr (.inl (vp_updL od 0 r.toInt64))) ∧ Agr [48] G1 G') ∨ (X eIAE G' ∧ vo = some (.int 1)) ∨ (X eNSE G' ∧ vo = some (.int 2))) := by
  refine GH.of (own := RL) (lo := [(0, .ref (ad 0)), (1, .int n), (2, .ref (ad 48))]) (by decide +kernel) rfl rfl (Nat.le_of_ble_eq_true rfl) (fun E C ht hr => ?_)
  refine G_aload_n C 2 dL_stoneAt_0 rfl rfl ?_
  refine G_iconst C (v := 0) dL_stoneAt_1 (by decide) ?_
  refine G_aload_n C 0 dL_stoneAt_2 rfl rfl ?_
  refine G_iload_n C 1 dL_stoneAt_3 rfl rfl ?_
  refine G_callVXC C (As := [.int n]) (rest := [.int 0, .ref (ad 48)]) hM ca_X8_stoneAt km_L_83 (by decide) g0 rfl rfl rfl rfl (by decide) (Nat.le_of_ble_eq_true rfl) (by decide) dL_stoneAt_4 (fun e G2 hX2 => ?_) (fun vv G2 hQ2 => ?_)
  · rcases hX e G2 hX2 with rfl | rfl
    · refine ⟨12, ctch1 C ht (by decide) (by decide) kc_L_13 w_castIAE, fun q9 => ?_⟩
      refine G_astore_n C 3 (lo' := [(3, .ref q9), (0, .ref (ad 0)), (1, .int n), (2, .ref (ad 48))]) dL_stoneAt_12 rfl (by decide) rfl ?_
      refine G_iconst C (v := 1) dL_stoneAt_13 (by decide) ?_
      refine GW.widen (c1 := 1) (s1 := 6) (by decide) (by decide) ?_
      exact G_iret C hr dL_stoneAt_14 (Or.inr (Or.inl ⟨hX2, rfl⟩))
    · refine ⟨15, ctch2 C ht (by decide) kc_L_13 C.2.2.2.2.2.2.2.1.2.2.2.2.2.1.2 (by decide) (by decide) kc_L_33 w_castNSE, fun q9 => ?_⟩
      refine G_astore_n C 3 (lo' := [(3, .ref q9), (0, .ref (ad 0)), (1, .int n), (2, .ref (ad 48))]) dL_stoneAt_15 rfl (by decide) rfl ?_
      refine G_iconst C (v := 2) dL_stoneAt_16 (by decide) ?_
      refine GW.widen (c1 := 1) (s1 := 6) (by decide) (by decide) ?_
      exact G_iret C hr dL_stoneAt_17 (Or.inr (Or.inr ⟨hX2, rfl⟩))
  · obtain ⟨⟨r, rfl⟩, k48⟩ := hQ vv G2 hQ2
    refine G_i2l C dL_stoneAt_7 rfl ?_
    refine G_lastN C 48 (by decide) 0 k48 rfl (by decide) (by omega) dL_stoneAt_8 (fun gg1 hh2 aa3 => ?_)
    have BB5 : Agr [48] G2 gg1 := aa3.wk (by simp)
    refine G_goto C 18 dL_stoneAt_9 (by decide) ?_
    refine G_iconst C (v := 0) dL_stoneAt_18 (by decide) ?_
    refine GW.widen (c1 := 1) (s1 := 6) (by decide) (by decide) ?_
    exact G_iret C hr dL_stoneAt_19 (Or.inl ⟨r, G2, hQ2, rfl, hh2, BB5⟩)

abbrev rm_solutionsUpTo : Room := ({ frames := 7, cells := 1, slots := 6, locals := 115 } : Room)
set_option maxRecDepth 100000 in
set_option maxHeartbeats 4000000 in
theorem w_solutionsUpTo {L : GL} {ad : Nat → Nat} {G : Nat → va_E} {Q : Option Value → (Nat → va_E) → Prop} {X : String → (Nat → va_E) → Prop} {fs : List Value} {od : Nat → Int64} {b : Int64} (hM : GX L yX8_solutionsUpTo cX8_solutionsUpTo 3 ((some .int)) rm_X8_solutionsUpTo 50 ad G [.ref (ad 0), .long b] Q X) (g0 : G 0 = .inr (8, fs)) (hQ : ∀ v G', Q v G' → (∃ r : Int32, v = some (.int r)) ∧ G' 48 = .inl (L.ac 1, 1, .inr (.inl od))) (hX : ∀ e G', X e G' → e = eIAE) : GH L yL_solutionsUpTo cL_solutionsUpTo 5 (some .int) [(0, 9, 12, 13)] rm_solutionsUpTo 50 ad G [.ref (ad 0), .long b, .ref (ad 48)] (fun vo G' => (∃ (r : Int32) (G1 : Nat → va_E), Q (some (.int r)) G1 ∧ vo = some (.int 0) ∧ G' 48 = .inl (L.ac 1, 1, .inr (.inl (vp_updL od 0 r.toInt64))) ∧ Agr [48] G1 G') ∨ (X eIAE G' ∧ vo = some (.int 1))) := by
  refine GH.of (own := RL) (lo := [(0, .ref (ad 0)), (1, .long b), (3, .ref (ad 48))]) (by decide +kernel) rfl rfl (Nat.le_of_ble_eq_true rfl) (fun E C ht hr => ?_)
  refine G_aload_n C 3 dL_solutionsUpTo_0 rfl rfl ?_
  refine G_iconst C (v := 0) dL_solutionsUpTo_1 (by decide) ?_
  refine G_aload_n C 0 dL_solutionsUpTo_2 rfl rfl ?_
  refine G_lload_n C 1 dL_solutionsUpTo_3 rfl rfl ?_
  refine G_callVXC C (As := [.long b]) (rest := [.int 0, .ref (ad 48)]) hM ca_X8_solutionsUpTo km_L_86 (by decide) g0 rfl rfl rfl rfl (by decide) (Nat.le_of_ble_eq_true rfl) (by decide) dL_solutionsUpTo_4 (fun e G2 hX2 => ?_) (fun vv G2 hQ2 => ?_)
  · obtain rfl := hX e G2 hX2
    refine ⟨12, ctch1 C ht (by decide) (by decide) kc_L_13 w_castIAE, fun q9 => ?_⟩
    refine G_astore C (lo' := [(4, .ref q9), (0, .ref (ad 0)), (1, .long b), (3, .ref (ad 48))]) dL_solutionsUpTo_12 (by decide) rfl ?_
    refine G_iconst C (v := 1) dL_solutionsUpTo_14 (by decide) ?_
    refine GW.widen (c1 := 1) (s1 := 6) (by decide) (by decide) ?_
    exact G_iret C hr dL_solutionsUpTo_15 (Or.inr ⟨hX2, rfl⟩)
  · obtain ⟨⟨r, rfl⟩, k48⟩ := hQ vv G2 hQ2
    refine G_i2l C dL_solutionsUpTo_7 rfl ?_
    refine G_lastN C 48 (by decide) 0 k48 rfl (by decide) (by omega) dL_solutionsUpTo_8 (fun gg1 hh2 aa3 => ?_)
    have BB5 : Agr [48] G2 gg1 := aa3.wk (by simp)
    refine G_goto C 16 dL_solutionsUpTo_9 (by decide) ?_
    refine G_iconst C (v := 0) dL_solutionsUpTo_16 (by decide) ?_
    refine GW.widen (c1 := 1) (s1 := 6) (by decide) (by decide) ?_
    exact G_iret C hr dL_solutionsUpTo_17 (Or.inl ⟨r, G2, hQ2, rfl, hh2, BB5⟩)

abbrev rm_goBack : Room := ({ frames := 7, cells := 1, slots := 6, locals := 161 } : Room)
set_option maxRecDepth 100000 in
set_option maxHeartbeats 4000000 in
theorem w_goBack {L : GL} {ad : Nat → Nat} {G : Nat → va_E} {Q : Option Value → (Nat → va_E) → Prop} {X : String → (Nat → va_E) → Prop} {fs : List Value} {od : Nat → Int64}  (hM : GX L yX8_goBack cX8_goBack 1 ((some .int)) rm_X8_goBack 50 ad G [.ref (ad 0)] Q X) (g0 : G 0 = .inr (8, fs)) (hQ : ∀ v G', Q v G' → (∃ r : Int32, v = some (.int r)) ∧ G' 48 = .inl (L.ac 1, 1, .inr (.inl od))) (hX : ∀ e G', X e G' → e = eISE) : GH L yL_goBack cL_goBack 3 (some .int) [(0, 8, 11, 15)] rm_goBack 50 ad G [.ref (ad 0), .ref (ad 48)] (fun vo G' => (∃ (r : Int32) (G1 : Nat → va_E), Q (some (.int r)) G1 ∧ vo = some (.int 0) ∧ G' 48 = .inl (L.ac 1, 1, .inr (.inl (vp_updL od 0 r.toInt64))) ∧ Agr [48] G1 G') ∨ (X eISE G' ∧ vo = some (.int 1))) := by
  refine GH.of (own := RL) (lo := [(0, .ref (ad 0)), (1, .ref (ad 48))]) (by decide +kernel) rfl rfl (Nat.le_of_ble_eq_true rfl) (fun E C ht hr => ?_)
  refine G_aload_n C 1 dL_goBack_0 rfl rfl ?_
  refine G_iconst C (v := 0) dL_goBack_1 (by decide) ?_
  refine G_aload_n C 0 dL_goBack_2 rfl rfl ?_
  refine G_callVXC C (As := []) (rest := [.int 0, .ref (ad 48)]) hM ca_X8_goBack km_L_90 (by decide) g0 rfl rfl rfl rfl (by decide) (Nat.le_of_ble_eq_true rfl) (by decide) dL_goBack_3 (fun e G2 hX2 => ?_) (fun vv G2 hQ2 => ?_)
  · obtain rfl := hX e G2 hX2
    refine ⟨11, ctch1 C ht (by decide) (by decide) kc_L_15 w_castISE, fun q9 => ?_⟩
    refine G_astore_n C 2 (lo' := [(2, .ref q9), (0, .ref (ad 0)), (1, .ref (ad 48))]) dL_goBack_11 rfl (by decide) rfl ?_
    refine G_iconst C (v := 1) dL_goBack_12 (by decide) ?_
    refine GW.widen (c1 := 1) (s1 := 6) (by decide) (by decide) ?_
    exact G_iret C hr dL_goBack_13 (Or.inr ⟨hX2, rfl⟩)
  · obtain ⟨⟨r, rfl⟩, k48⟩ := hQ vv G2 hQ2
    refine G_i2l C dL_goBack_6 rfl ?_
    refine G_lastN C 48 (by decide) 0 k48 rfl (by decide) (by omega) dL_goBack_7 (fun gg1 hh2 aa3 => ?_)
    have BB5 : Agr [48] G2 gg1 := aa3.wk (by simp)
    refine G_goto C 14 dL_goBack_8 (by decide) ?_
    refine G_iconst C (v := 0) dL_goBack_14 (by decide) ?_
    refine GW.widen (c1 := 1) (s1 := 6) (by decide) (by decide) ?_
    exact G_iret C hr dL_goBack_15 (Or.inl ⟨r, G2, hQ2, rfl, hh2, BB5⟩)

abbrev rm_faultPosition : Room := ({ frames := 8, cells := 1, slots := 6, locals := 154 } : Room)
set_option maxRecDepth 100000 in
set_option maxHeartbeats 4000000 in
theorem w_faultPosition {L : GL} {ad : Nat → Nat} {G : Nat → va_E} {Q : Option Value → (Nat → va_E) → Prop} {X : String → (Nat → va_E) → Prop} {fs : List Value} {od : Nat → Int64}  (hM : GX L yX8_faultPosition cX8_faultPosition 1 ((some .int)) rm_X8_faultPosition 50 ad G [.ref (ad 0)] Q X) (g0 : G 0 = .inr (8, fs)) (hQ : ∀ v G', Q v G' → (∃ r : Int32, v = some (.int r)) ∧ G' 48 = .inl (L.ac 1, 1, .inr (.inl od))) (hX : ∀ e G', X e G' → e = eNSE) : GH L yL_faultPosition cL_faultPosition 3 (some .int) [(0, 8, 11, 33)] rm_faultPosition 50 ad G [.ref (ad 0), .ref (ad 48)] (fun vo G' => (∃ (r : Int32) (G1 : Nat → va_E), Q (some (.int r)) G1 ∧ vo = some (.int 0) ∧ G' 48 = .inl (L.ac 1, 1, .inr (.inl (vp_updL od 0 r.toInt64))) ∧ Agr [48] G1 G') ∨ (X eNSE G' ∧ vo = some (.int 1))) := by
  refine GH.of (own := RL) (lo := [(0, .ref (ad 0)), (1, .ref (ad 48))]) (by decide +kernel) rfl rfl (Nat.le_of_ble_eq_true rfl) (fun E C ht hr => ?_)
  refine G_aload_n C 1 dL_faultPosition_0 rfl rfl ?_
  refine G_iconst C (v := 0) dL_faultPosition_1 (by decide) ?_
  refine G_aload_n C 0 dL_faultPosition_2 rfl rfl ?_
  refine G_callVXC C (As := []) (rest := [.int 0, .ref (ad 48)]) hM ca_X8_faultPosition km_L_100 (by decide) g0 rfl rfl rfl rfl (by decide) (Nat.le_of_ble_eq_true rfl) (by decide) dL_faultPosition_3 (fun e G2 hX2 => ?_) (fun vv G2 hQ2 => ?_)
  · obtain rfl := hX e G2 hX2
    refine ⟨11, ctch1 C ht (by decide) (by decide) kc_L_33 w_castNSE, fun q9 => ?_⟩
    refine G_astore_n C 2 (lo' := [(2, .ref q9), (0, .ref (ad 0)), (1, .ref (ad 48))]) dL_faultPosition_11 rfl (by decide) rfl ?_
    refine G_iconst C (v := 1) dL_faultPosition_12 (by decide) ?_
    refine GW.widen (c1 := 1) (s1 := 6) (by decide) (by decide) ?_
    exact G_iret C hr dL_faultPosition_13 (Or.inr ⟨hX2, rfl⟩)
  · obtain ⟨⟨r, rfl⟩, k48⟩ := hQ vv G2 hQ2
    refine G_i2l C dL_faultPosition_6 rfl ?_
    refine G_lastN C 48 (by decide) 0 k48 rfl (by decide) (by omega) dL_faultPosition_7 (fun gg1 hh2 aa3 => ?_)
    have BB5 : Agr [48] G2 gg1 := aa3.wk (by simp)
    refine G_goto C 14 dL_faultPosition_8 (by decide) ?_
    refine G_iconst C (v := 0) dL_faultPosition_14 (by decide) ?_
    refine GW.widen (c1 := 1) (s1 := 6) (by decide) (by decide) ?_
    exact G_iret C hr dL_faultPosition_15 (Or.inl ⟨r, G2, hQ2, rfl, hh2, BB5⟩)

abbrev rm_faultReason : Room := ({ frames := 8, cells := 1, slots := 6, locals := 154 } : Room)
set_option maxRecDepth 100000 in
set_option maxHeartbeats 4000000 in
theorem w_faultReason {L : GL} {ad : Nat → Nat} {G : Nat → va_E} {Q : Option Value → (Nat → va_E) → Prop} {X : String → (Nat → va_E) → Prop} {fs : List Value} {od : Nat → Int64}  (hM : GX L yX8_faultReason cX8_faultReason 1 ((some .int)) rm_X8_faultReason 50 ad G [.ref (ad 0)] Q X) (g0 : G 0 = .inr (8, fs)) (hQ : ∀ v G', Q v G' → (∃ r : Int32, v = some (.int r)) ∧ G' 48 = .inl (L.ac 1, 1, .inr (.inl od))) (hX : ∀ e G', X e G' → e = eNSE) : GH L yL_faultReason cL_faultReason 3 (some .int) [(0, 8, 11, 33)] rm_faultReason 50 ad G [.ref (ad 0), .ref (ad 48)] (fun vo G' => (∃ (r : Int32) (G1 : Nat → va_E), Q (some (.int r)) G1 ∧ vo = some (.int 0) ∧ G' 48 = .inl (L.ac 1, 1, .inr (.inl (vp_updL od 0 r.toInt64))) ∧ Agr [48] G1 G') ∨ (X eNSE G' ∧ vo = some (.int 1))) := by
  refine GH.of (own := RL) (lo := [(0, .ref (ad 0)), (1, .ref (ad 48))]) (by decide +kernel) rfl rfl (Nat.le_of_ble_eq_true rfl) (fun E C ht hr => ?_)
  refine G_aload_n C 1 dL_faultReason_0 rfl rfl ?_
  refine G_iconst C (v := 0) dL_faultReason_1 (by decide) ?_
  refine G_aload_n C 0 dL_faultReason_2 rfl rfl ?_
  refine G_callVXC C (As := []) (rest := [.int 0, .ref (ad 48)]) hM ca_X8_faultReason km_L_103 (by decide) g0 rfl rfl rfl rfl (by decide) (Nat.le_of_ble_eq_true rfl) (by decide) dL_faultReason_3 (fun e G2 hX2 => ?_) (fun vv G2 hQ2 => ?_)
  · obtain rfl := hX e G2 hX2
    refine ⟨11, ctch1 C ht (by decide) (by decide) kc_L_33 w_castNSE, fun q9 => ?_⟩
    refine G_astore_n C 2 (lo' := [(2, .ref q9), (0, .ref (ad 0)), (1, .ref (ad 48))]) dL_faultReason_11 rfl (by decide) rfl ?_
    refine G_iconst C (v := 1) dL_faultReason_12 (by decide) ?_
    refine GW.widen (c1 := 1) (s1 := 6) (by decide) (by decide) ?_
    exact G_iret C hr dL_faultReason_13 (Or.inr ⟨hX2, rfl⟩)
  · obtain ⟨⟨r, rfl⟩, k48⟩ := hQ vv G2 hQ2
    refine G_i2l C dL_faultReason_6 rfl ?_
    refine G_lastN C 48 (by decide) 0 k48 rfl (by decide) (by omega) dL_faultReason_7 (fun gg1 hh2 aa3 => ?_)
    have BB5 : Agr [48] G2 gg1 := aa3.wk (by simp)
    refine G_goto C 14 dL_faultReason_8 (by decide) ?_
    refine G_iconst C (v := 0) dL_faultReason_14 (by decide) ?_
    refine GW.widen (c1 := 1) (s1 := 6) (by decide) (by decide) ?_
    exact G_iret C hr dL_faultReason_15 (Or.inl ⟨r, G2, hQ2, rfl, hh2, BB5⟩)

abbrev rm_faultCause : Room := ({ frames := 8, cells := 1, slots := 6, locals := 154 } : Room)
set_option maxRecDepth 100000 in
set_option maxHeartbeats 4000000 in
theorem w_faultCause {L : GL} {ad : Nat → Nat} {G : Nat → va_E} {Q : Option Value → (Nat → va_E) → Prop} {X : String → (Nat → va_E) → Prop} {fs : List Value} {od : Nat → Int64}  (hM : GX L yX8_faultCause cX8_faultCause 1 ((some .int)) rm_X8_faultCause 50 ad G [.ref (ad 0)] Q X) (g0 : G 0 = .inr (8, fs)) (hQ : ∀ v G', Q v G' → (∃ r : Int32, v = some (.int r)) ∧ G' 48 = .inl (L.ac 1, 1, .inr (.inl od))) (hX : ∀ e G', X e G' → e = eNSE) : GH L yL_faultCause cL_faultCause 3 (some .int) [(0, 8, 11, 33)] rm_faultCause 50 ad G [.ref (ad 0), .ref (ad 48)] (fun vo G' => (∃ (r : Int32) (G1 : Nat → va_E), Q (some (.int r)) G1 ∧ vo = some (.int 0) ∧ G' 48 = .inl (L.ac 1, 1, .inr (.inl (vp_updL od 0 r.toInt64))) ∧ Agr [48] G1 G') ∨ (X eNSE G' ∧ vo = some (.int 1))) := by
  refine GH.of (own := RL) (lo := [(0, .ref (ad 0)), (1, .ref (ad 48))]) (by decide +kernel) rfl rfl (Nat.le_of_ble_eq_true rfl) (fun E C ht hr => ?_)
  refine G_aload_n C 1 dL_faultCause_0 rfl rfl ?_
  refine G_iconst C (v := 0) dL_faultCause_1 (by decide) ?_
  refine G_aload_n C 0 dL_faultCause_2 rfl rfl ?_
  refine G_callVXC C (As := []) (rest := [.int 0, .ref (ad 48)]) hM ca_X8_faultCause km_L_106 (by decide) g0 rfl rfl rfl rfl (by decide) (Nat.le_of_ble_eq_true rfl) (by decide) dL_faultCause_3 (fun e G2 hX2 => ?_) (fun vv G2 hQ2 => ?_)
  · obtain rfl := hX e G2 hX2
    refine ⟨11, ctch1 C ht (by decide) (by decide) kc_L_33 w_castNSE, fun q9 => ?_⟩
    refine G_astore_n C 2 (lo' := [(2, .ref q9), (0, .ref (ad 0)), (1, .ref (ad 48))]) dL_faultCause_11 rfl (by decide) rfl ?_
    refine G_iconst C (v := 1) dL_faultCause_12 (by decide) ?_
    refine GW.widen (c1 := 1) (s1 := 6) (by decide) (by decide) ?_
    exact G_iret C hr dL_faultCause_13 (Or.inr ⟨hX2, rfl⟩)
  · obtain ⟨⟨r, rfl⟩, k48⟩ := hQ vv G2 hQ2
    refine G_i2l C dL_faultCause_6 rfl ?_
    refine G_lastN C 48 (by decide) 0 k48 rfl (by decide) (by omega) dL_faultCause_7 (fun gg1 hh2 aa3 => ?_)
    have BB5 : Agr [48] G2 gg1 := aa3.wk (by simp)
    refine G_goto C 14 dL_faultCause_8 (by decide) ?_
    refine G_iconst C (v := 0) dL_faultCause_14 (by decide) ?_
    refine GW.widen (c1 := 1) (s1 := 6) (by decide) (by decide) ?_
    exact G_iret C hr dL_faultCause_15 (Or.inl ⟨r, G2, hQ2, rfl, hh2, BB5⟩)

abbrev rm_play : Room := ({ frames := 7, cells := 1, slots := 6, locals := 161 } : Room)
set_option maxRecDepth 100000 in
set_option maxHeartbeats 4000000 in
theorem w_play {L : GL} {ad : Nat → Nat} {G : Nat → va_E} {Q : Option Value → (Nat → va_E) → Prop} {X : String → (Nat → va_E) → Prop} {fs : List Value} {od : Nat → Int64}  (hM : GX L yX8_play cX8_play 1 ((some .int)) rm_X8_play 50 ad G [.ref (ad 0)] Q X) (g0 : G 0 = .inr (8, fs)) (hQ : ∀ v G', Q v G' → (∃ r : Int32, v = some (.int r)) ∧ G' 48 = .inl (L.ac 1, 1, .inr (.inl od))) (hX : ∀ e G', X e G' → e = eISE) : GH L yL_play cL_play 3 (some .int) [(0, 8, 11, 15)] rm_play 50 ad G [.ref (ad 0), .ref (ad 48)] (fun vo G' => (∃ (r : Int32) (G1 : Nat → va_E), Q (some (.int r)) G1 ∧ vo = some (.int 0) ∧ G' 48 = .inl (L.ac 1, 1, .inr (.inl (vp_updL od 0 r.toInt64))) ∧ Agr [48] G1 G') ∨ (X eISE G' ∧ vo = some (.int 1))) := by
  refine GH.of (own := RL) (lo := [(0, .ref (ad 0)), (1, .ref (ad 48))]) (by decide +kernel) rfl rfl (Nat.le_of_ble_eq_true rfl) (fun E C ht hr => ?_)
  refine G_aload_n C 1 dL_play_0 rfl rfl ?_
  refine G_iconst C (v := 0) dL_play_1 (by decide) ?_
  refine G_aload_n C 0 dL_play_2 rfl rfl ?_
  refine G_callVXC C (As := []) (rest := [.int 0, .ref (ad 48)]) hM ca_X8_play km_L_109 (by decide) g0 rfl rfl rfl rfl (by decide) (Nat.le_of_ble_eq_true rfl) (by decide) dL_play_3 (fun e G2 hX2 => ?_) (fun vv G2 hQ2 => ?_)
  · obtain rfl := hX e G2 hX2
    refine ⟨11, ctch1 C ht (by decide) (by decide) kc_L_15 w_castISE, fun q9 => ?_⟩
    refine G_astore_n C 2 (lo' := [(2, .ref q9), (0, .ref (ad 0)), (1, .ref (ad 48))]) dL_play_11 rfl (by decide) rfl ?_
    refine G_iconst C (v := 1) dL_play_12 (by decide) ?_
    refine GW.widen (c1 := 1) (s1 := 6) (by decide) (by decide) ?_
    exact G_iret C hr dL_play_13 (Or.inr ⟨hX2, rfl⟩)
  · obtain ⟨⟨r, rfl⟩, k48⟩ := hQ vv G2 hQ2
    refine G_i2l C dL_play_6 rfl ?_
    refine G_lastN C 48 (by decide) 0 k48 rfl (by decide) (by omega) dL_play_7 (fun gg1 hh2 aa3 => ?_)
    have BB5 : Agr [48] G2 gg1 := aa3.wk (by simp)
    refine G_goto C 14 dL_play_8 (by decide) ?_
    refine G_iconst C (v := 0) dL_play_14 (by decide) ?_
    refine GW.widen (c1 := 1) (s1 := 6) (by decide) (by decide) ?_
    exact G_iret C hr dL_play_15 (Or.inl ⟨r, G2, hQ2, rfl, hh2, BB5⟩)

abbrev rm_undo0 : Room := ({ frames := 7, cells := 1, slots := 6, locals := 161 } : Room)
set_option maxRecDepth 100000 in
set_option maxHeartbeats 4000000 in
theorem w_undo0 {L : GL} {ad : Nat → Nat} {G : Nat → va_E} {Q : Option Value → (Nat → va_E) → Prop} {X : String → (Nat → va_E) → Prop} {fs : List Value} {od : Nat → Int64}  (hM : GX L yX8_undo cX8_undo 1 ((some .int)) rm_X8_undo0 50 ad G [.ref (ad 0)] Q X) (g0 : G 0 = .inr (8, fs)) (hQ : ∀ v G', Q v G' → (∃ r : Int32, v = some (.int r)) ∧ G' 48 = .inl (L.ac 1, 1, .inr (.inl od))) (hX : ∀ e G', X e G' → e = eISE) : GH L yL_undo cL_undo 3 (some .int) [(0, 8, 11, 15)] rm_undo0 50 ad G [.ref (ad 0), .ref (ad 48)] (fun vo G' => (∃ (r : Int32) (G1 : Nat → va_E), Q (some (.int r)) G1 ∧ vo = some (.int 0) ∧ G' 48 = .inl (L.ac 1, 1, .inr (.inl (vp_updL od 0 r.toInt64))) ∧ Agr [48] G1 G') ∨ (X eISE G' ∧ vo = some (.int 1))) := by
  refine GH.of (own := RL) (lo := [(0, .ref (ad 0)), (1, .ref (ad 48))]) (by decide +kernel) rfl rfl (Nat.le_of_ble_eq_true rfl) (fun E C ht hr => ?_)
  refine G_aload_n C 1 dL_undo_0 rfl rfl ?_
  refine G_iconst C (v := 0) dL_undo_1 (by decide) ?_
  refine G_aload_n C 0 dL_undo_2 rfl rfl ?_
  refine G_callVXC C (As := []) (rest := [.int 0, .ref (ad 48)]) hM ca_X8_undo km_L_94 (by decide) g0 rfl rfl rfl rfl (by decide) (Nat.le_of_ble_eq_true rfl) (by decide) dL_undo_3 (fun e G2 hX2 => ?_) (fun vv G2 hQ2 => ?_)
  · obtain rfl := hX e G2 hX2
    refine ⟨11, ctch1 C ht (by decide) (by decide) kc_L_15 w_castISE, fun q9 => ?_⟩
    refine G_astore_n C 2 (lo' := [(2, .ref q9), (0, .ref (ad 0)), (1, .ref (ad 48))]) dL_undo_11 rfl (by decide) rfl ?_
    refine G_iconst C (v := 1) dL_undo_12 (by decide) ?_
    refine GW.widen (c1 := 1) (s1 := 6) (by decide) (by decide) ?_
    exact G_iret C hr dL_undo_13 (Or.inr ⟨hX2, rfl⟩)
  · obtain ⟨⟨r, rfl⟩, k48⟩ := hQ vv G2 hQ2
    refine G_i2l C dL_undo_6 rfl ?_
    refine G_lastN C 48 (by decide) 0 k48 rfl (by decide) (by omega) dL_undo_7 (fun gg1 hh2 aa3 => ?_)
    have BB5 : Agr [48] G2 gg1 := aa3.wk (by simp)
    refine G_goto C 14 dL_undo_8 (by decide) ?_
    refine G_iconst C (v := 0) dL_undo_14 (by decide) ?_
    refine GW.widen (c1 := 1) (s1 := 6) (by decide) (by decide) ?_
    exact G_iret C hr dL_undo_15 (Or.inl ⟨r, G2, hQ2, rfl, hh2, BB5⟩)

abbrev rm_undo : Room := ({ frames := 4, cells := 1, slots := 6, locals := 161 } : Room)
set_option maxRecDepth 100000 in
set_option maxHeartbeats 4000000 in
theorem w_undo {L : GL} {ad : Nat → Nat} {G : Nat → va_E} {Q : Option Value → (Nat → va_E) → Prop} {X : String → (Nat → va_E) → Prop} {fs : List Value} {od : Nat → Int64}  (hM : GX L yX8_undo cX8_undo 1 ((some .int)) rm_X8_undo 50 ad G [.ref (ad 0)] Q X) (g0 : G 0 = .inr (8, fs)) (hQ : ∀ v G', Q v G' → (∃ r : Int32, v = some (.int r)) ∧ G' 48 = .inl (L.ac 1, 1, .inr (.inl od))) (hX : ∀ e G', X e G' → e = eISE) : GH L yL_undo cL_undo 3 (some .int) [(0, 8, 11, 15)] rm_undo 50 ad G [.ref (ad 0), .ref (ad 48)] (fun vo G' => (∃ (r : Int32) (G1 : Nat → va_E), Q (some (.int r)) G1 ∧ vo = some (.int 0) ∧ G' 48 = .inl (L.ac 1, 1, .inr (.inl (vp_updL od 0 r.toInt64))) ∧ Agr [48] G1 G') ∨ (X eISE G' ∧ vo = some (.int 1))) := by
  refine GH.of (own := RL) (lo := [(0, .ref (ad 0)), (1, .ref (ad 48))]) (by decide +kernel) rfl rfl (Nat.le_of_ble_eq_true rfl) (fun E C ht hr => ?_)
  refine G_aload_n C 1 dL_undo_0 rfl rfl ?_
  refine G_iconst C (v := 0) dL_undo_1 (by decide) ?_
  refine G_aload_n C 0 dL_undo_2 rfl rfl ?_
  refine G_callVXC C (As := []) (rest := [.int 0, .ref (ad 48)]) hM ca_X8_undo km_L_94 (by decide) g0 rfl rfl rfl rfl (by decide) (Nat.le_of_ble_eq_true rfl) (by decide) dL_undo_3 (fun e G2 hX2 => ?_) (fun vv G2 hQ2 => ?_)
  · obtain rfl := hX e G2 hX2
    refine ⟨11, ctch1 C ht (by decide) (by decide) kc_L_15 w_castISE, fun q9 => ?_⟩
    refine G_astore_n C 2 (lo' := [(2, .ref q9), (0, .ref (ad 0)), (1, .ref (ad 48))]) dL_undo_11 rfl (by decide) rfl ?_
    refine G_iconst C (v := 1) dL_undo_12 (by decide) ?_
    refine GW.widen (c1 := 1) (s1 := 6) (by decide) (by decide) ?_
    exact G_iret C hr dL_undo_13 (Or.inr ⟨hX2, rfl⟩)
  · obtain ⟨⟨r, rfl⟩, k48⟩ := hQ vv G2 hQ2
    refine G_i2l C dL_undo_6 rfl ?_
    refine G_lastN C 48 (by decide) 0 k48 rfl (by decide) (by omega) dL_undo_7 (fun gg1 hh2 aa3 => ?_)
    have BB5 : Agr [48] G2 gg1 := aa3.wk (by simp)
    refine G_goto C 14 dL_undo_8 (by decide) ?_
    refine G_iconst C (v := 0) dL_undo_14 (by decide) ?_
    refine GW.widen (c1 := 1) (s1 := 6) (by decide) (by decide) ?_
    exact G_iret C hr dL_undo_15 (Or.inl ⟨r, G2, hQ2, rfl, hh2, BB5⟩)

abbrev rm_type : Room := ({ frames := 7, cells := 1, slots := 6, locals := 103 } : Room)
set_option maxRecDepth 100000 in
set_option maxHeartbeats 4000000 in
theorem w_type {L : GL} {ad : Nat → Nat} {G : Nat → va_E} {Q : Option Value → (Nat → va_E) → Prop} {X : String → (Nat → va_E) → Prop} {fs : List Value} {od : Nat → Int64} {n : Int32} (hM : GX L yX8_type cX8_type 2 ((some .int)) rm_X8_type 50 ad G [.ref (ad 0), .int n] Q X) (g0 : G 0 = .inr (8, fs)) (hQ : ∀ v G', Q v G' → (∃ r : Int32, v = some (.int r)) ∧ G' 48 = .inl (L.ac 1, 1, .inr (.inl od))) (hX : ∀ e G', X e G' → e = eIAE ∨ e = eISE) : GH L yL_type cL_type 4 (some .int) [(0, 9, 12, 13), (0, 9, 15, 15)] rm_type 50 ad G [.ref (ad 0), .int n, .ref (ad 48)] (fun vo G' => (∃ (r : Int32) (G1 : Nat → va_E), Q (some (.int r)) G1 ∧ vo = some (.int 0) ∧ G' 48 = .inl (L.ac 1, 1, .inr (.inl (vp_updL od 0 r.toInt64))) ∧ Agr [48] G1 G') ∨ (X eIAE G' ∧ vo = some (.int 1)) ∨ (X eISE G' ∧ vo = some (.int 2))) := by
  refine GH.of (own := RL) (lo := [(0, .ref (ad 0)), (1, .int n), (2, .ref (ad 48))]) (by decide +kernel) rfl rfl (Nat.le_of_ble_eq_true rfl) (fun E C ht hr => ?_)
  refine G_aload_n C 2 dL_type_0 rfl rfl ?_
  refine G_iconst C (v := 0) dL_type_1 (by decide) ?_
  refine G_aload_n C 0 dL_type_2 rfl rfl ?_
  refine G_iload_n C 1 dL_type_3 rfl rfl ?_
  refine G_callVXC C (As := [.int n]) (rest := [.int 0, .ref (ad 48)]) hM ca_X8_type km_L_97 (by decide) g0 rfl rfl rfl rfl (by decide) (Nat.le_of_ble_eq_true rfl) (by decide) dL_type_4 (fun e G2 hX2 => ?_) (fun vv G2 hQ2 => ?_)
  · rcases hX e G2 hX2 with rfl | rfl
    · refine ⟨12, ctch1 C ht (by decide) (by decide) kc_L_13 w_castIAE, fun q9 => ?_⟩
      refine G_astore_n C 3 (lo' := [(3, .ref q9), (0, .ref (ad 0)), (1, .int n), (2, .ref (ad 48))]) dL_type_12 rfl (by decide) rfl ?_
      refine G_iconst C (v := 1) dL_type_13 (by decide) ?_
      refine GW.widen (c1 := 1) (s1 := 6) (by decide) (by decide) ?_
      exact G_iret C hr dL_type_14 (Or.inr (Or.inl ⟨hX2, rfl⟩))
    · refine ⟨15, ctch2 C ht (by decide) kc_L_13 C.2.2.2.2.2.2.2.1.2.2.2.2.2.1.1 (by decide) (by decide) kc_L_15 w_castISE, fun q9 => ?_⟩
      refine G_astore_n C 3 (lo' := [(3, .ref q9), (0, .ref (ad 0)), (1, .int n), (2, .ref (ad 48))]) dL_type_15 rfl (by decide) rfl ?_
      refine G_iconst C (v := 2) dL_type_16 (by decide) ?_
      refine GW.widen (c1 := 1) (s1 := 6) (by decide) (by decide) ?_
      exact G_iret C hr dL_type_17 (Or.inr (Or.inr ⟨hX2, rfl⟩))
  · obtain ⟨⟨r, rfl⟩, k48⟩ := hQ vv G2 hQ2
    refine G_i2l C dL_type_7 rfl ?_
    refine G_lastN C 48 (by decide) 0 k48 rfl (by decide) (by omega) dL_type_8 (fun gg1 hh2 aa3 => ?_)
    have BB5 : Agr [48] G2 gg1 := aa3.wk (by simp)
    refine G_goto C 18 dL_type_9 (by decide) ?_
    refine G_iconst C (v := 0) dL_type_18 (by decide) ?_
    refine GW.widen (c1 := 1) (s1 := 6) (by decide) (by decide) ?_
    exact G_iret C hr dL_type_19 (Or.inl ⟨r, G2, hQ2, rfl, hh2, BB5⟩)

abbrev rm_typeFull : Room := ({ frames := 7, cells := 1, slots := 6, locals := 103 } : Room)
set_option maxRecDepth 100000 in
set_option maxHeartbeats 4000000 in
theorem w_typeFull {L : GL} {ad : Nat → Nat} {G : Nat → va_E} {Q : Option Value → (Nat → va_E) → Prop} {X : String → (Nat → va_E) → Prop} {fs : List Value} {od : Nat → Int64} {n : Int32} (hM : GX L yX8_type cX8_type 2 ((some .int)) rm_X8_typeFull 50 ad G [.ref (ad 0), .int n] Q X) (g0 : G 0 = .inr (8, fs)) (hQ : ∀ v G', Q v G' → (∃ r : Int32, v = some (.int r)) ∧ G' 48 = .inl (L.ac 1, 1, .inr (.inl od))) (hX : ∀ e G', X e G' → e = eIAE ∨ e = eISE) : GH L yL_type cL_type 4 (some .int) [(0, 9, 12, 13), (0, 9, 15, 15)] rm_typeFull 50 ad G [.ref (ad 0), .int n, .ref (ad 48)] (fun vo G' => (∃ (r : Int32) (G1 : Nat → va_E), Q (some (.int r)) G1 ∧ vo = some (.int 0) ∧ G' 48 = .inl (L.ac 1, 1, .inr (.inl (vp_updL od 0 r.toInt64))) ∧ Agr [48] G1 G') ∨ (X eIAE G' ∧ vo = some (.int 1)) ∨ (X eISE G' ∧ vo = some (.int 2))) := by
  refine GH.of (own := RL) (lo := [(0, .ref (ad 0)), (1, .int n), (2, .ref (ad 48))]) (by decide +kernel) rfl rfl (Nat.le_of_ble_eq_true rfl) (fun E C ht hr => ?_)
  refine G_aload_n C 2 dL_type_0 rfl rfl ?_
  refine G_iconst C (v := 0) dL_type_1 (by decide) ?_
  refine G_aload_n C 0 dL_type_2 rfl rfl ?_
  refine G_iload_n C 1 dL_type_3 rfl rfl ?_
  refine G_callVXC C (As := [.int n]) (rest := [.int 0, .ref (ad 48)]) hM ca_X8_type km_L_97 (by decide) g0 rfl rfl rfl rfl (by decide) (Nat.le_of_ble_eq_true rfl) (by decide) dL_type_4 (fun e G2 hX2 => ?_) (fun vv G2 hQ2 => ?_)
  · rcases hX e G2 hX2 with rfl | rfl
    · refine ⟨12, ctch1 C ht (by decide) (by decide) kc_L_13 w_castIAE, fun q9 => ?_⟩
      refine G_astore_n C 3 (lo' := [(3, .ref q9), (0, .ref (ad 0)), (1, .int n), (2, .ref (ad 48))]) dL_type_12 rfl (by decide) rfl ?_
      refine G_iconst C (v := 1) dL_type_13 (by decide) ?_
      refine GW.widen (c1 := 1) (s1 := 6) (by decide) (by decide) ?_
      exact G_iret C hr dL_type_14 (Or.inr (Or.inl ⟨hX2, rfl⟩))
    · refine ⟨15, ctch2 C ht (by decide) kc_L_13 C.2.2.2.2.2.2.2.1.2.2.2.2.2.1.1 (by decide) (by decide) kc_L_15 w_castISE, fun q9 => ?_⟩
      refine G_astore_n C 3 (lo' := [(3, .ref q9), (0, .ref (ad 0)), (1, .int n), (2, .ref (ad 48))]) dL_type_15 rfl (by decide) rfl ?_
      refine G_iconst C (v := 2) dL_type_16 (by decide) ?_
      refine GW.widen (c1 := 1) (s1 := 6) (by decide) (by decide) ?_
      exact G_iret C hr dL_type_17 (Or.inr (Or.inr ⟨hX2, rfl⟩))
  · obtain ⟨⟨r, rfl⟩, k48⟩ := hQ vv G2 hQ2
    refine G_i2l C dL_type_7 rfl ?_
    refine G_lastN C 48 (by decide) 0 k48 rfl (by decide) (by omega) dL_type_8 (fun gg1 hh2 aa3 => ?_)
    have BB5 : Agr [48] G2 gg1 := aa3.wk (by simp)
    refine G_goto C 18 dL_type_9 (by decide) ?_
    refine G_iconst C (v := 0) dL_type_18 (by decide) ?_
    refine GW.widen (c1 := 1) (s1 := 6) (by decide) (by decide) ?_
    exact G_iret C hr dL_type_19 (Or.inl ⟨r, G2, hQ2, rfl, hh2, BB5⟩)

