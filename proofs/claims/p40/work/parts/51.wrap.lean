section RW
variable {L : GL} {E : GE} {cc : ByteArray} {own : String} {nL cs ss pc : Nat} {R : Room} {N : Nat} {ad : Nat → Nat} {G : Nat → va_E} {lo : List (Nat × Value)} {st : List Value} {y : MethodName} {cy : ByteArray} {mL n : Nat} {rt : Option FieldType} {rm : Room}
theorem G_ishr (C : gC L E cc own nL R) {x y : Int32} (hdg : decode cc pc = .ok (.ishr, 1)) (kk : GW L E N ad G cs ss (pc + 1) lo (.int (x >>> (y &&& 31)) :: st)) : GW L E N ad G cs ss pc lo (.int y :: .int x :: st) :=
  fun hD H locs ls hl hP hS => lv_ishr C.1 C.2.1 hdg (kk hD H locs ls hl hP hS)
theorem G_ldcf (C : gC L E cc own nL R) {index : Nat} {v : UInt32} (hw : Cond.constantFloat own index v ∈ AW) (hdg : decode cc pc = .ok (.ldc index, 2)) (kk : GW L E N ad G cs ss (pc + 2) lo (.float v :: st)) : GW L E N ad G cs ss pc lo st :=
  fun hD H locs ls hl hP hS => lv_ldcf C.1 C.2.1 C.2.2.2.2.2.1 (C.2.2.2.2.2.2.1 _ hw) hdg (kk hD H locs ls hl hP hS)
theorem GW.toprf {x y : UInt32} (h : x = y) (k : GW L E N ad G cs ss pc lo (.float y :: st)) : GW L E N ad G cs ss pc lo (.float x :: st) := h ▸ k
/-- the script's length and its ints -/
theorem G_scl (C : gC L E cc own nL R) (hdg : decode cc pc = .ok (.arraylength, 1)) (kk : GW L E N ad G cs ss (pc + 1) lo (.int (nI L.scr.2.1) :: st)) : GW L E N ad G cs ss pc lo (.ref L.scr.1 :: st) :=
  fun hD H locs ls hl hP hS => va_slen C.1 C.2.1 C.2.2.2.2.2.2.2.1.2.2.2.2.2.2.1.2.2 (Nat.lt_of_lt_of_le C.2.2.2.2.2.2.2.1.2.2.2.2.2.2.1.2.1 C.2.2.2.2.2.2.2.1.2.2.2.2.2.2.1.1) (fun h => absurd h (Nat.not_le.mpr C.2.2.2.2.2.2.2.1.2.2.2.2.2.2.1.2.1)) hS hdg (kk hD H locs ls hl hP hS)
theorem G_scd (C : gC L E cc own nL R) {j : Nat} (hj : j < L.scr.2.1) (h31 : L.scr.2.1 < 2 ^ 31) (hdg : decode cc pc = .ok (.iaload, 1)) (kk : GW L E N ad G cs ss (pc + 1) lo (.int (L.scr.2.2 j) :: st)) : GW L E N ad G cs ss pc lo (.int (nI j) :: .ref L.scr.1 :: st) :=
  fun hD H locs ls hl hP hS => va_sld C.1 C.2.1 C.2.2.2.2.2.2.2.1.2.2.2.2.2.2.1.2.2 (Nat.lt_of_lt_of_le C.2.2.2.2.2.2.2.1.2.2.2.2.2.2.1.2.1 C.2.2.2.2.2.2.2.1.2.2.2.2.2.2.1.1) (fun h => absurd h (Nat.not_le.mpr C.2.2.2.2.2.2.2.1.2.2.2.2.2.2.1.2.1)) hS (vp_in_nI hj h31) hdg (by rw [nI_clamp (by omega)]; exact kk hD H locs ls hl hP hS)
/-- a call of the class's object, where nothing is thrown -/
theorem G_pcX (C : gC L E cc own nL R) (h0 : ∃ fs, G 0 = .inr (8, fs)) {Q : Option Value → (Nat → va_E) → Prop} {index : Nat} {As rest : List Value} (hM : GX L y cy mL rt rm 40 ad G (.ref (ad 0) :: As) Q (fun _ _ => False)) (hcal : CalV RX8 y cy mL rt n) (hl : Cond.methodLink own index y ∈ AW) (hn : As.length = n) (hst : st = As.reverse ++ .ref (ad 0) :: rest) (hR : rm.frames + 1 ≤ R.frames ∧ 8 + (mL + 11) + rm.locals ≤ R.locals) (hcat : (rest.map fun v => v.category).sum ≤ 8) (hf : cs + rm.cells ≤ R.cells ∧ ss + rm.slots ≤ R.slots) (hdg : decode cc pc = .ok (.invokevirtual index, 3)) (kk : ∀ v G', Q v G' → GW L E 40 ad G' (cs + rm.cells) (ss + rm.slots) (pc + 3) lo (v.toList ++ rest)) : GW L E 40 ad G cs ss pc lo st := by
  obtain ⟨fs, h0⟩ := h0
  exact G_callVXC C hM hcal hl (by decide) h0 rfl rfl hn hst hR hcat hf hdg (fun e G' h => h.elim) kk
theorem G_pcM (C : gC L E cc own nL R) (h0 : ∃ fs, G 0 = .inr (8, fs)) {Q : Option Value → (Nat → va_E) → Prop} {index : Nat} {As rest : List Value} (hM : GM L y cy mL rt rm 40 ad G (.ref (ad 0) :: As) Q) (hcal : CalV RX8 y cy mL rt n) (hl : Cond.methodLink own index y ∈ AW) (hn : As.length = n) (hst : st = As.reverse ++ .ref (ad 0) :: rest) (hR : rm.frames + 1 ≤ R.frames ∧ 8 + (mL + 11) + rm.locals ≤ R.locals) (hcat : (rest.map fun v => v.category).sum ≤ 8) (hf : cs + rm.cells ≤ R.cells ∧ ss + rm.slots ≤ R.slots) (hdg : decode cc pc = .ok (.invokevirtual index, 3)) (kk : ∀ v G', Q v G' → GW L E 40 ad G' (cs + rm.cells) (ss + rm.slots) (pc + 3) lo (v.toList ++ rest)) : GW L E 40 ad G cs ss pc lo st := by
  obtain ⟨fs, h0⟩ := h0
  exact G_callV C hM hcal hl (by decide) h0 rfl rfl hn hst hR hcat hf hdg kk
end RW
theorem kq_L_120 : Cond.constantFloat RL 120 3268149248 ∈ AW := AW_of 718 (by decide +kernel) rfl
theorem kq_L_121 : Cond.constantFloat RL 121 3268411392 ∈ AW := AW_of 719 (by decide +kernel) rfl
theorem w_castIAE : Cond.castable eIAE eIAE ∈ BW := BW_of 471 (by decide +kernel) rfl
theorem w_castISE : Cond.castable eISE eISE ∈ BW := BW_of 354 (by decide +kernel) rfl
theorem w_castNSE : Cond.castable eNSE eNSE ∈ BW := BW_of 495 (by decide +kernel) rfl
theorem ca_L_goBack : CalH yL_goBack cL_goBack 2 (some .int) [(0, 4, 5, 17)] 1 := ⟨AW_of 345 (by decide +kernel) rfl, AW_of 22 (by decide +kernel) rfl, AW_of 346 (by decide +kernel) rfl, by decide +kernel⟩
theorem ca_L_undo : CalH yL_undo cL_undo 2 (some .int) [(0, 4, 5, 17)] 1 := ⟨AW_of 430 (by decide +kernel) rfl, AW_of 22 (by decide +kernel) rfl, AW_of 431 (by decide +kernel) rfl, by decide +kernel⟩
theorem ca_L_powerOf : CalH yL_powerOf cL_powerOf 3 (some .int) [(0, 5, 6, 15), (0, 5, 10, 40)] 2 := ⟨AW_of 451 (by decide +kernel) rfl, AW_of 22 (by decide +kernel) rfl, AW_of 452 (by decide +kernel) rfl, by decide +kernel⟩
theorem ca_L_whyNot : CalH yL_whyNot cL_whyNot 3 (some .int) [(0, 5, 6, 15)] 2 := ⟨AW_of 530 (by decide +kernel) rfl, AW_of 22 (by decide +kernel) rfl, AW_of 531 (by decide +kernel) rfl, by decide +kernel⟩
theorem ca_L_stoneFrom : CalH yL_stoneFrom cL_stoneFrom 3 (some .int) [(0, 5, 6, 15), (0, 5, 10, 40)] 2 := ⟨AW_of 545 (by decide +kernel) rfl, AW_of 22 (by decide +kernel) rfl, AW_of 546 (by decide +kernel) rfl, by decide +kernel⟩
theorem ca_L_xOf : CalH yL_xOf cL_xOf 3 (some .long) [(0, 5, 6, 15), (0, 5, 11, 40)] 2 := ⟨AW_of 553 (by decide +kernel) rfl, AW_of 22 (by decide +kernel) rfl, AW_of 554 (by decide +kernel) rfl, by decide +kernel⟩
theorem ca_L_xAt : CalH yL_xAt cL_xAt 3 (some .long) [(0, 5, 6, 15), (0, 5, 11, 40)] 2 := ⟨AW_of 566 (by decide +kernel) rfl, AW_of 22 (by decide +kernel) rfl, AW_of 567 (by decide +kernel) rfl, by decide +kernel⟩
theorem ca_L_stoneAt : CalH yL_stoneAt cL_stoneAt 3 (some .int) [(0, 5, 6, 15), (0, 5, 10, 40)] 2 := ⟨AW_of 607 (by decide +kernel) rfl, AW_of 22 (by decide +kernel) rfl, AW_of 608 (by decide +kernel) rfl, by decide +kernel⟩
theorem ca_L_xAtBySet : CalH yL_xAtBySet cL_xAtBySet 3 (some .long) [(0, 5, 6, 15), (0, 5, 11, 40)] 2 := ⟨AW_of 614 (by decide +kernel) rfl, AW_of 22 (by decide +kernel) rfl, AW_of 615 (by decide +kernel) rfl, by decide +kernel⟩
theorem ca_L_solutionsUpTo : CalH yL_solutionsUpTo cL_solutionsUpTo 4 (some .int) [(0, 5, 6, 15)] 2 := ⟨AW_of 642 (by decide +kernel) rfl, AW_of 22 (by decide +kernel) rfl, AW_of 643 (by decide +kernel) rfl, by decide +kernel⟩
theorem ca_L_nearRoot : CalH yL_nearRoot cL_nearRoot 3 (some .float) [(0, 5, 6, 15), (0, 5, 10, 40)] 2 := ⟨AW_of 711 (by decide +kernel) rfl, AW_of 22 (by decide +kernel) rfl, AW_of 712 (by decide +kernel) rfl, by decide +kernel⟩
theorem ca_L_periodOf : CalH yL_periodOf cL_periodOf 3 (some .int) [(0, 5, 6, 15), (0, 5, 10, 40)] 2 := ⟨AW_of 728 (by decide +kernel) rfl, AW_of 22 (by decide +kernel) rfl, AW_of 729 (by decide +kernel) rfl, by decide +kernel⟩
theorem ca_L_termAt : CalH yL_termAt cL_termAt 4 (some .int) [(0, 6, 7, 15), (0, 6, 11, 40)] 3 := ⟨AW_of 731 (by decide +kernel) rfl, AW_of 22 (by decide +kernel) rfl, AW_of 732 (by decide +kernel) rfl, by decide +kernel⟩
theorem ca_L_unitX : CalH yL_unitX cL_unitX 3 (some .int) [(0, 5, 6, 15), (0, 5, 10, 40)] 2 := ⟨AW_of 743 (by decide +kernel) rfl, AW_of 22 (by decide +kernel) rfl, AW_of 744 (by decide +kernel) rfl, by decide +kernel⟩
theorem ca_L_unitY : CalH yL_unitY cL_unitY 3 (some .int) [(0, 5, 6, 15), (0, 5, 10, 40)] 2 := ⟨AW_of 746 (by decide +kernel) rfl, AW_of 22 (by decide +kernel) rfl, AW_of 747 (by decide +kernel) rfl, by decide +kernel⟩
theorem ca_L_leastY : CalH yL_leastY cL_leastY 3 (some .int) [(0, 5, 6, 15), (0, 5, 10, 40)] 2 := ⟨AW_of 749 (by decide +kernel) rfl, AW_of 22 (by decide +kernel) rfl, AW_of 750 (by decide +kernel) rfl, by decide +kernel⟩
theorem ca_L_leastYBySearch : CalH yL_leastYBySearch cL_leastYBySearch 3 (some .int) [(0, 5, 6, 15), (0, 5, 10, 40)] 2 := ⟨AW_of 757 (by decide +kernel) rfl, AW_of 22 (by decide +kernel) rfl, AW_of 758 (by decide +kernel) rfl, by decide +kernel⟩
theorem ca_L_lay : CalH yL_lay cL_lay 3 (some .int) [(0, 5, 6, 15), (0, 5, 10, 17)] 2 := ⟨AW_of 772 (by decide +kernel) rfl, AW_of 22 (by decide +kernel) rfl, AW_of 773 (by decide +kernel) rfl, by decide +kernel⟩
theorem ca_L_take : CalH yL_take cL_take 3 (some .int) [(0, 5, 6, 15), (0, 5, 10, 17)] 2 := ⟨AW_of 802 (by decide +kernel) rfl, AW_of 22 (by decide +kernel) rfl, AW_of 803 (by decide +kernel) rfl, by decide +kernel⟩
theorem ca_L_mill : CalH yL_mill cL_mill 3 (some .long) [(0, 5, 6, 15), (0, 5, 11, 17)] 2 := ⟨AW_of 809 (by decide +kernel) rfl, AW_of 22 (by decide +kernel) rfl, AW_of 810 (by decide +kernel) rfl, by decide +kernel⟩
theorem ca_L_millBack : CalH yL_millBack cL_millBack 3 (some .long) [(0, 5, 6, 15), (0, 5, 11, 17)] 2 := ⟨AW_of 817 (by decide +kernel) rfl, AW_of 22 (by decide +kernel) rfl, AW_of 818 (by decide +kernel) rfl, by decide +kernel⟩
theorem ca_L_faultPosition : CalH yL_faultPosition cL_faultPosition 2 (some .int) [(0, 4, 5, 40)] 1 := ⟨AW_of 841 (by decide +kernel) rfl, AW_of 22 (by decide +kernel) rfl, AW_of 842 (by decide +kernel) rfl, by decide +kernel⟩
theorem ca_L_faultReason : CalH yL_faultReason cL_faultReason 2 (some .int) [(0, 4, 5, 40)] 1 := ⟨AW_of 883 (by decide +kernel) rfl, AW_of 22 (by decide +kernel) rfl, AW_of 884 (by decide +kernel) rfl, by decide +kernel⟩
theorem ca_L_faultCause : CalH yL_faultCause cL_faultCause 2 (some .int) [(0, 4, 5, 40)] 1 := ⟨AW_of 890 (by decide +kernel) rfl, AW_of 22 (by decide +kernel) rfl, AW_of 891 (by decide +kernel) rfl, by decide +kernel⟩
theorem ca_L_play : CalH yL_play cL_play 2 (some .int) [(0, 4, 5, 17)] 1 := ⟨AW_of 897 (by decide +kernel) rfl, AW_of 22 (by decide +kernel) rfl, AW_of 898 (by decide +kernel) rfl, by decide +kernel⟩
abbrev rm_goBack : Room := ({ frames := 7, cells := 1, slots := 6, locals := 161 } : Room)
set_option maxRecDepth 100000 in
set_option maxHeartbeats 4000000 in
theorem w_goBack {L : GL} {ad : Nat → Nat} {G : Nat → va_E} {Q : Option Value → (Nat → va_E) → Prop} {X : String → (Nat → va_E) → Prop}  (hM : GX L yX8_goBack cX8_goBack 1 ((some .int)) rm_X8_goBack 40 ad G [.ref (ad 0)] Q X) (h0 : ∃ fs, G 0 = .inr (8, fs)) (hQ : ∀ v G', Q v G' → ∃ r : Int32, v = some (.int r)) (hX : ∀ e G', X e G' → e = eISE) : GH L yL_goBack cL_goBack 2 (some .int) [(0, 4, 5, 17)] rm_goBack 40 ad G [.ref (ad 0)] (fun vo G' => Q vo G' ∨ (X eISE G' ∧ vo = some (.int (-103)))) := by
  refine GH.of (own := RL) (lo := [(0, .ref (ad 0))]) (by decide +kernel) rfl rfl (Nat.le_of_ble_eq_true rfl) (fun E C ht hr => ?_)
  refine G_aload_n C 0 dL_goBack_0 rfl rfl ?_
  obtain ⟨fs, h0⟩ := h0
  refine G_callVXC C (As := []) (rest := []) hM ca_X8_goBack km_L_61 (by decide) h0 rfl rfl rfl rfl (by decide) (Nat.le_of_ble_eq_true rfl) (by decide) dL_goBack_1 (fun e G2 hX2 => ?_) (fun vv G2 hQ2 => ?_)
  · obtain rfl := hX e G2 hX2
    refine ⟨5, ctch1 C ht (by decide) (by decide) kc_L_17 w_castISE, fun q9 => ?_⟩
    refine G_astore_n C 1 (lo' := [(1, .ref q9), (0, .ref (ad 0))]) dL_goBack_5 rfl (by decide) rfl ?_
    refine G_bipush C (v := (-103)) dL_goBack_6 (by decide) ?_
    refine GW.widen (c1 := 1) (s1 := 6) (by decide) (by decide) ?_
    exact G_iret C hr dL_goBack_8 (Or.inr ⟨hX2, rfl⟩)
  · obtain ⟨r, rfl⟩ := hQ vv G2 hQ2
    refine GW.widen (c1 := 1) (s1 := 6) (by decide) (by decide) ?_
    exact G_iret C hr dL_goBack_4 (Or.inl hQ2)

abbrev rm_undo : Room := ({ frames := 4, cells := 1, slots := 6, locals := 161 } : Room)
set_option maxRecDepth 100000 in
set_option maxHeartbeats 4000000 in
theorem w_undo {L : GL} {ad : Nat → Nat} {G : Nat → va_E} {Q : Option Value → (Nat → va_E) → Prop} {X : String → (Nat → va_E) → Prop}  (hM : GX L yX8_undo cX8_undo 1 ((some .int)) rm_X8_undo 40 ad G [.ref (ad 0)] Q X) (h0 : ∃ fs, G 0 = .inr (8, fs)) (hQ : ∀ v G', Q v G' → ∃ r : Int32, v = some (.int r)) (hX : ∀ e G', X e G' → e = eISE) : GH L yL_undo cL_undo 2 (some .int) [(0, 4, 5, 17)] rm_undo 40 ad G [.ref (ad 0)] (fun vo G' => Q vo G' ∨ (X eISE G' ∧ vo = some (.int (-103)))) := by
  refine GH.of (own := RL) (lo := [(0, .ref (ad 0))]) (by decide +kernel) rfl rfl (Nat.le_of_ble_eq_true rfl) (fun E C ht hr => ?_)
  refine G_aload_n C 0 dL_undo_0 rfl rfl ?_
  obtain ⟨fs, h0⟩ := h0
  refine G_callVXC C (As := []) (rest := []) hM ca_X8_undo km_L_65 (by decide) h0 rfl rfl rfl rfl (by decide) (Nat.le_of_ble_eq_true rfl) (by decide) dL_undo_1 (fun e G2 hX2 => ?_) (fun vv G2 hQ2 => ?_)
  · obtain rfl := hX e G2 hX2
    refine ⟨5, ctch1 C ht (by decide) (by decide) kc_L_17 w_castISE, fun q9 => ?_⟩
    refine G_astore_n C 1 (lo' := [(1, .ref q9), (0, .ref (ad 0))]) dL_undo_5 rfl (by decide) rfl ?_
    refine G_bipush C (v := (-103)) dL_undo_6 (by decide) ?_
    refine GW.widen (c1 := 1) (s1 := 6) (by decide) (by decide) ?_
    exact G_iret C hr dL_undo_8 (Or.inr ⟨hX2, rfl⟩)
  · obtain ⟨r, rfl⟩ := hQ vv G2 hQ2
    refine GW.widen (c1 := 1) (s1 := 6) (by decide) (by decide) ?_
    exact G_iret C hr dL_undo_4 (Or.inl hQ2)

abbrev rm_powerOf : Room := ({ frames := 9, cells := 2, slots := 12, locals := 144 } : Room)
set_option maxRecDepth 100000 in
set_option maxHeartbeats 4000000 in
theorem w_powerOf {L : GL} {ad : Nat → Nat} {G : Nat → va_E} {Q : Option Value → (Nat → va_E) → Prop} {X : String → (Nat → va_E) → Prop} {n : Int32} (hM : GX L yX8_powerOf cX8_powerOf 2 ((some .int)) rm_X8_powerOf 40 ad G [.ref (ad 0), .int n] Q X) (h0 : ∃ fs, G 0 = .inr (8, fs)) (hQ : ∀ v G', Q v G' → ∃ r : Int32, v = some (.int r)) (hX : ∀ e G', X e G' → e = eIAE ∨ e = eNSE) : GH L yL_powerOf cL_powerOf 3 (some .int) [(0, 5, 6, 15), (0, 5, 10, 40)] rm_powerOf 40 ad G [.ref (ad 0), .int n] (fun vo G' => Q vo G' ∨ (X eIAE G' ∧ vo = some (.int (-102))) ∨ (X eNSE G' ∧ vo = some (.int (-104)))) := by
  refine GH.of (own := RL) (lo := [(0, .ref (ad 0)), (1, .int n)]) (by decide +kernel) rfl rfl (Nat.le_of_ble_eq_true rfl) (fun E C ht hr => ?_)
  refine G_aload_n C 0 dL_powerOf_0 rfl rfl ?_
  refine G_iload_n C 1 dL_powerOf_1 rfl rfl ?_
  obtain ⟨fs, h0⟩ := h0
  refine G_callVXC C (As := [.int n]) (rest := []) hM ca_X8_powerOf km_L_101 (by decide) h0 rfl rfl rfl rfl (by decide) (Nat.le_of_ble_eq_true rfl) (by decide) dL_powerOf_2 (fun e G2 hX2 => ?_) (fun vv G2 hQ2 => ?_)
  · rcases hX e G2 hX2 with rfl | rfl
    · refine ⟨6, ctch1 C ht (by decide) (by decide) kc_L_15 w_castIAE, fun q9 => ?_⟩
      refine G_astore_n C 2 (lo' := [(2, .ref q9), (0, .ref (ad 0)), (1, .int n)]) dL_powerOf_6 rfl (by decide) rfl ?_
      refine G_bipush C (v := (-102)) dL_powerOf_7 (by decide) ?_
      refine GW.widen (c1 := 2) (s1 := 12) (by decide) (by decide) ?_
      exact G_iret C hr dL_powerOf_9 (Or.inr (Or.inl ⟨hX2, rfl⟩))
    · refine ⟨10, ctch2 C ht (by decide) kc_L_15 C.2.2.2.2.2.2.2.1.2.2.2.2.2.1.2 (by decide) (by decide) kc_L_40 w_castNSE, fun q9 => ?_⟩
      refine G_astore_n C 2 (lo' := [(2, .ref q9), (0, .ref (ad 0)), (1, .int n)]) dL_powerOf_10 rfl (by decide) rfl ?_
      refine G_bipush C (v := (-104)) dL_powerOf_11 (by decide) ?_
      refine GW.widen (c1 := 2) (s1 := 12) (by decide) (by decide) ?_
      exact G_iret C hr dL_powerOf_13 (Or.inr (Or.inr ⟨hX2, rfl⟩))
  · obtain ⟨r, rfl⟩ := hQ vv G2 hQ2
    refine GW.widen (c1 := 2) (s1 := 12) (by decide) (by decide) ?_
    exact G_iret C hr dL_powerOf_5 (Or.inl hQ2)

abbrev rm_whyNot : Room := ({ frames := 8, cells := 1, slots := 6, locals := 123 } : Room)
set_option maxRecDepth 100000 in
set_option maxHeartbeats 4000000 in
theorem w_whyNot {L : GL} {ad : Nat → Nat} {G : Nat → va_E} {Q : Option Value → (Nat → va_E) → Prop} {X : String → (Nat → va_E) → Prop} {n : Int32} (hM : GX L yX8_whyNot cX8_whyNot 2 ((some .int)) rm_X8_whyNot 40 ad G [.ref (ad 0), .int n] Q X) (h0 : ∃ fs, G 0 = .inr (8, fs)) (hQ : ∀ v G', Q v G' → ∃ r : Int32, v = some (.int r)) (hX : ∀ e G', X e G' → e = eIAE) : GH L yL_whyNot cL_whyNot 3 (some .int) [(0, 5, 6, 15)] rm_whyNot 40 ad G [.ref (ad 0), .int n] (fun vo G' => Q vo G' ∨ (X eIAE G' ∧ vo = some (.int (-102)))) := by
  refine GH.of (own := RL) (lo := [(0, .ref (ad 0)), (1, .int n)]) (by decide +kernel) rfl rfl (Nat.le_of_ble_eq_true rfl) (fun E C ht hr => ?_)
  refine G_aload_n C 0 dL_whyNot_0 rfl rfl ?_
  refine G_iload_n C 1 dL_whyNot_1 rfl rfl ?_
  obtain ⟨fs, h0⟩ := h0
  refine G_callVXC C (As := [.int n]) (rest := []) hM ca_X8_whyNot km_L_33 (by decide) h0 rfl rfl rfl rfl (by decide) (Nat.le_of_ble_eq_true rfl) (by decide) dL_whyNot_2 (fun e G2 hX2 => ?_) (fun vv G2 hQ2 => ?_)
  · obtain rfl := hX e G2 hX2
    refine ⟨6, ctch1 C ht (by decide) (by decide) kc_L_15 w_castIAE, fun q9 => ?_⟩
    refine G_astore_n C 2 (lo' := [(2, .ref q9), (0, .ref (ad 0)), (1, .int n)]) dL_whyNot_6 rfl (by decide) rfl ?_
    refine G_bipush C (v := (-102)) dL_whyNot_7 (by decide) ?_
    refine GW.widen (c1 := 1) (s1 := 6) (by decide) (by decide) ?_
    exact G_iret C hr dL_whyNot_9 (Or.inr ⟨hX2, rfl⟩)
  · obtain ⟨r, rfl⟩ := hQ vv G2 hQ2
    refine GW.widen (c1 := 1) (s1 := 6) (by decide) (by decide) ?_
    exact G_iret C hr dL_whyNot_5 (Or.inl hQ2)

abbrev rm_stoneFrom : Room := ({ frames := 8, cells := 2, slots := 12, locals := 124 } : Room)
set_option maxRecDepth 100000 in
set_option maxHeartbeats 4000000 in
theorem w_stoneFrom {L : GL} {ad : Nat → Nat} {G : Nat → va_E} {Q : Option Value → (Nat → va_E) → Prop} {X : String → (Nat → va_E) → Prop} {n : Int32} (hM : GX L yX8_stoneFrom cX8_stoneFrom 3 ((some .int)) rm_X8_stoneFrom 40 ad G [.ref (ad 0), .int n] Q X) (h0 : ∃ fs, G 0 = .inr (8, fs)) (hQ : ∀ v G', Q v G' → ∃ r : Int32, v = some (.int r)) (hX : ∀ e G', X e G' → e = eIAE ∨ e = eNSE) : GH L yL_stoneFrom cL_stoneFrom 3 (some .int) [(0, 5, 6, 15), (0, 5, 10, 40)] rm_stoneFrom 40 ad G [.ref (ad 0), .int n] (fun vo G' => Q vo G' ∨ (X eIAE G' ∧ vo = some (.int (-102))) ∨ (X eNSE G' ∧ vo = some (.int (-104)))) := by
  refine GH.of (own := RL) (lo := [(0, .ref (ad 0)), (1, .int n)]) (by decide +kernel) rfl rfl (Nat.le_of_ble_eq_true rfl) (fun E C ht hr => ?_)
  refine G_aload_n C 0 dL_stoneFrom_0 rfl rfl ?_
  refine G_iload_n C 1 dL_stoneFrom_1 rfl rfl ?_
  obtain ⟨fs, h0⟩ := h0
  refine G_callVXC C (As := [.int n]) (rest := []) hM ca_X8_stoneFrom km_L_98 (by decide) h0 rfl rfl rfl rfl (by decide) (Nat.le_of_ble_eq_true rfl) (by decide) dL_stoneFrom_2 (fun e G2 hX2 => ?_) (fun vv G2 hQ2 => ?_)
  · rcases hX e G2 hX2 with rfl | rfl
    · refine ⟨6, ctch1 C ht (by decide) (by decide) kc_L_15 w_castIAE, fun q9 => ?_⟩
      refine G_astore_n C 2 (lo' := [(2, .ref q9), (0, .ref (ad 0)), (1, .int n)]) dL_stoneFrom_6 rfl (by decide) rfl ?_
      refine G_bipush C (v := (-102)) dL_stoneFrom_7 (by decide) ?_
      refine GW.widen (c1 := 2) (s1 := 12) (by decide) (by decide) ?_
      exact G_iret C hr dL_stoneFrom_9 (Or.inr (Or.inl ⟨hX2, rfl⟩))
    · refine ⟨10, ctch2 C ht (by decide) kc_L_15 C.2.2.2.2.2.2.2.1.2.2.2.2.2.1.2 (by decide) (by decide) kc_L_40 w_castNSE, fun q9 => ?_⟩
      refine G_astore_n C 2 (lo' := [(2, .ref q9), (0, .ref (ad 0)), (1, .int n)]) dL_stoneFrom_10 rfl (by decide) rfl ?_
      refine G_bipush C (v := (-104)) dL_stoneFrom_11 (by decide) ?_
      refine GW.widen (c1 := 2) (s1 := 12) (by decide) (by decide) ?_
      exact G_iret C hr dL_stoneFrom_13 (Or.inr (Or.inr ⟨hX2, rfl⟩))
  · obtain ⟨r, rfl⟩ := hQ vv G2 hQ2
    refine GW.widen (c1 := 2) (s1 := 12) (by decide) (by decide) ?_
    exact G_iret C hr dL_stoneFrom_5 (Or.inl hQ2)

abbrev rm_xOf : Room := ({ frames := 9, cells := 2, slots := 12, locals := 144 } : Room)
set_option maxRecDepth 100000 in
set_option maxHeartbeats 4000000 in
theorem w_xOf {L : GL} {ad : Nat → Nat} {G : Nat → va_E} {Q : Option Value → (Nat → va_E) → Prop} {X : String → (Nat → va_E) → Prop} {n : Int32} (hM : GX L yX8_xOf cX8_xOf 2 ((some .long)) rm_X8_xOf 40 ad G [.ref (ad 0), .int n] Q X) (h0 : ∃ fs, G 0 = .inr (8, fs)) (hQ : ∀ v G', Q v G' → ∃ r : Int64, v = some (.long r)) (hX : ∀ e G', X e G' → e = eIAE ∨ e = eNSE) : GH L yL_xOf cL_xOf 3 (some .long) [(0, 5, 6, 15), (0, 5, 11, 40)] rm_xOf 40 ad G [.ref (ad 0), .int n] (fun vo G' => Q vo G' ∨ (X eIAE G' ∧ vo = some (.long (-102))) ∨ (X eNSE G' ∧ vo = some (.long (-104)))) := by
  refine GH.of (own := RL) (lo := [(0, .ref (ad 0)), (1, .int n)]) (by decide +kernel) rfl rfl (Nat.le_of_ble_eq_true rfl) (fun E C ht hr => ?_)
  refine G_aload_n C 0 dL_xOf_0 rfl rfl ?_
  refine G_iload_n C 1 dL_xOf_1 rfl rfl ?_
  obtain ⟨fs, h0⟩ := h0
  refine G_callVXC C (As := [.int n]) (rest := []) hM ca_X8_xOf km_L_110 (by decide) h0 rfl rfl rfl rfl (by decide) (Nat.le_of_ble_eq_true rfl) (by decide) dL_xOf_2 (fun e G2 hX2 => ?_) (fun vv G2 hQ2 => ?_)
  · rcases hX e G2 hX2 with rfl | rfl
    · refine ⟨6, ctch1 C ht (by decide) (by decide) kc_L_15 w_castIAE, fun q9 => ?_⟩
      refine G_astore_n C 2 (lo' := [(2, .ref q9), (0, .ref (ad 0)), (1, .int n)]) dL_xOf_6 rfl (by decide) rfl ?_
      refine G_ldc2 C dL_xOf_7 kl_L_26 ?_
      refine GW.widen (c1 := 2) (s1 := 12) (by decide) (by decide) ?_
      exact G_lret C hr dL_xOf_10 (Or.inr (Or.inl ⟨hX2, rfl⟩))
    · refine ⟨11, ctch2 C ht (by decide) kc_L_15 C.2.2.2.2.2.2.2.1.2.2.2.2.2.1.2 (by decide) (by decide) kc_L_40 w_castNSE, fun q9 => ?_⟩
      refine G_astore_n C 2 (lo' := [(2, .ref q9), (0, .ref (ad 0)), (1, .int n)]) dL_xOf_11 rfl (by decide) rfl ?_
      refine G_ldc2 C dL_xOf_12 kl_L_53 ?_
      refine GW.widen (c1 := 2) (s1 := 12) (by decide) (by decide) ?_
      exact G_lret C hr dL_xOf_15 (Or.inr (Or.inr ⟨hX2, rfl⟩))
  · obtain ⟨r, rfl⟩ := hQ vv G2 hQ2
    refine GW.widen (c1 := 2) (s1 := 12) (by decide) (by decide) ?_
    exact G_lret C hr dL_xOf_5 (Or.inl hQ2)

abbrev rm_xAt : Room := ({ frames := 8, cells := 1, slots := 6, locals := 130 } : Room)
set_option maxRecDepth 100000 in
set_option maxHeartbeats 4000000 in
theorem w_xAt {L : GL} {ad : Nat → Nat} {G : Nat → va_E} {Q : Option Value → (Nat → va_E) → Prop} {X : String → (Nat → va_E) → Prop} {n : Int32} (hM : GX L yX8_xAt cX8_xAt 2 ((some .long)) rm_X8_xAt 40 ad G [.ref (ad 0), .int n] Q X) (h0 : ∃ fs, G 0 = .inr (8, fs)) (hQ : ∀ v G', Q v G' → ∃ r : Int64, v = some (.long r)) (hX : ∀ e G', X e G' → e = eIAE ∨ e = eNSE) : GH L yL_xAt cL_xAt 3 (some .long) [(0, 5, 6, 15), (0, 5, 11, 40)] rm_xAt 40 ad G [.ref (ad 0), .int n] (fun vo G' => Q vo G' ∨ (X eIAE G' ∧ vo = some (.long (-102))) ∨ (X eNSE G' ∧ vo = some (.long (-104)))) := by
  refine GH.of (own := RL) (lo := [(0, .ref (ad 0)), (1, .int n)]) (by decide +kernel) rfl rfl (Nat.le_of_ble_eq_true rfl) (fun E C ht hr => ?_)
  refine G_aload_n C 0 dL_xAt_0 rfl rfl ?_
  refine G_iload_n C 1 dL_xAt_1 rfl rfl ?_
  obtain ⟨fs, h0⟩ := h0
  refine G_callVXC C (As := [.int n]) (rest := []) hM ca_X8_xAt km_L_50 (by decide) h0 rfl rfl rfl rfl (by decide) (Nat.le_of_ble_eq_true rfl) (by decide) dL_xAt_2 (fun e G2 hX2 => ?_) (fun vv G2 hQ2 => ?_)
  · rcases hX e G2 hX2 with rfl | rfl
    · refine ⟨6, ctch1 C ht (by decide) (by decide) kc_L_15 w_castIAE, fun q9 => ?_⟩
      refine G_astore_n C 2 (lo' := [(2, .ref q9), (0, .ref (ad 0)), (1, .int n)]) dL_xAt_6 rfl (by decide) rfl ?_
      refine G_ldc2 C dL_xAt_7 kl_L_26 ?_
      refine GW.widen (c1 := 1) (s1 := 6) (by decide) (by decide) ?_
      exact G_lret C hr dL_xAt_10 (Or.inr (Or.inl ⟨hX2, rfl⟩))
    · refine ⟨11, ctch2 C ht (by decide) kc_L_15 C.2.2.2.2.2.2.2.1.2.2.2.2.2.1.2 (by decide) (by decide) kc_L_40 w_castNSE, fun q9 => ?_⟩
      refine G_astore_n C 2 (lo' := [(2, .ref q9), (0, .ref (ad 0)), (1, .int n)]) dL_xAt_11 rfl (by decide) rfl ?_
      refine G_ldc2 C dL_xAt_12 kl_L_53 ?_
      refine GW.widen (c1 := 1) (s1 := 6) (by decide) (by decide) ?_
      exact G_lret C hr dL_xAt_15 (Or.inr (Or.inr ⟨hX2, rfl⟩))
  · obtain ⟨r, rfl⟩ := hQ vv G2 hQ2
    refine GW.widen (c1 := 1) (s1 := 6) (by decide) (by decide) ?_
    exact G_lret C hr dL_xAt_5 (Or.inl hQ2)

abbrev rm_stoneAt : Room := ({ frames := 8, cells := 1, slots := 6, locals := 130 } : Room)
set_option maxRecDepth 100000 in
set_option maxHeartbeats 4000000 in
theorem w_stoneAt {L : GL} {ad : Nat → Nat} {G : Nat → va_E} {Q : Option Value → (Nat → va_E) → Prop} {X : String → (Nat → va_E) → Prop} {n : Int32} (hM : GX L yX8_stoneAt cX8_stoneAt 2 ((some .int)) rm_X8_stoneAt 40 ad G [.ref (ad 0), .int n] Q X) (h0 : ∃ fs, G 0 = .inr (8, fs)) (hQ : ∀ v G', Q v G' → ∃ r : Int32, v = some (.int r)) (hX : ∀ e G', X e G' → e = eIAE ∨ e = eNSE) : GH L yL_stoneAt cL_stoneAt 3 (some .int) [(0, 5, 6, 15), (0, 5, 10, 40)] rm_stoneAt 40 ad G [.ref (ad 0), .int n] (fun vo G' => Q vo G' ∨ (X eIAE G' ∧ vo = some (.int (-102))) ∨ (X eNSE G' ∧ vo = some (.int (-104)))) := by
  refine GH.of (own := RL) (lo := [(0, .ref (ad 0)), (1, .int n)]) (by decide +kernel) rfl rfl (Nat.le_of_ble_eq_true rfl) (fun E C ht hr => ?_)
  refine G_aload_n C 0 dL_stoneAt_0 rfl rfl ?_
  refine G_iload_n C 1 dL_stoneAt_1 rfl rfl ?_
  obtain ⟨fs, h0⟩ := h0
  refine G_callVXC C (As := [.int n]) (rest := []) hM ca_X8_stoneAt km_L_58 (by decide) h0 rfl rfl rfl rfl (by decide) (Nat.le_of_ble_eq_true rfl) (by decide) dL_stoneAt_2 (fun e G2 hX2 => ?_) (fun vv G2 hQ2 => ?_)
  · rcases hX e G2 hX2 with rfl | rfl
    · refine ⟨6, ctch1 C ht (by decide) (by decide) kc_L_15 w_castIAE, fun q9 => ?_⟩
      refine G_astore_n C 2 (lo' := [(2, .ref q9), (0, .ref (ad 0)), (1, .int n)]) dL_stoneAt_6 rfl (by decide) rfl ?_
      refine G_bipush C (v := (-102)) dL_stoneAt_7 (by decide) ?_
      refine GW.widen (c1 := 1) (s1 := 6) (by decide) (by decide) ?_
      exact G_iret C hr dL_stoneAt_9 (Or.inr (Or.inl ⟨hX2, rfl⟩))
    · refine ⟨10, ctch2 C ht (by decide) kc_L_15 C.2.2.2.2.2.2.2.1.2.2.2.2.2.1.2 (by decide) (by decide) kc_L_40 w_castNSE, fun q9 => ?_⟩
      refine G_astore_n C 2 (lo' := [(2, .ref q9), (0, .ref (ad 0)), (1, .int n)]) dL_stoneAt_10 rfl (by decide) rfl ?_
      refine G_bipush C (v := (-104)) dL_stoneAt_11 (by decide) ?_
      refine GW.widen (c1 := 1) (s1 := 6) (by decide) (by decide) ?_
      exact G_iret C hr dL_stoneAt_13 (Or.inr (Or.inr ⟨hX2, rfl⟩))
  · obtain ⟨r, rfl⟩ := hQ vv G2 hQ2
    refine GW.widen (c1 := 1) (s1 := 6) (by decide) (by decide) ?_
    exact G_iret C hr dL_stoneAt_5 (Or.inl hQ2)

abbrev rm_xAtBySet : Room := ({ frames := 7, cells := 1, slots := 6, locals := 110 } : Room)
set_option maxRecDepth 100000 in
set_option maxHeartbeats 4000000 in
theorem w_xAtBySet {L : GL} {ad : Nat → Nat} {G : Nat → va_E} {Q : Option Value → (Nat → va_E) → Prop} {X : String → (Nat → va_E) → Prop} {n : Int32} (hM : GX L yX8_xAtBySet cX8_xAtBySet 2 ((some .long)) rm_X8_xAtBySet 40 ad G [.ref (ad 0), .int n] Q X) (h0 : ∃ fs, G 0 = .inr (8, fs)) (hQ : ∀ v G', Q v G' → ∃ r : Int64, v = some (.long r)) (hX : ∀ e G', X e G' → e = eIAE ∨ e = eNSE) : GH L yL_xAtBySet cL_xAtBySet 3 (some .long) [(0, 5, 6, 15), (0, 5, 11, 40)] rm_xAtBySet 40 ad G [.ref (ad 0), .int n] (fun vo G' => Q vo G' ∨ (X eIAE G' ∧ vo = some (.long (-102))) ∨ (X eNSE G' ∧ vo = some (.long (-104)))) := by
  refine GH.of (own := RL) (lo := [(0, .ref (ad 0)), (1, .int n)]) (by decide +kernel) rfl rfl (Nat.le_of_ble_eq_true rfl) (fun E C ht hr => ?_)
  refine G_aload_n C 0 dL_xAtBySet_0 rfl rfl ?_
  refine G_iload_n C 1 dL_xAtBySet_1 rfl rfl ?_
  obtain ⟨fs, h0⟩ := h0
  refine G_callVXC C (As := [.int n]) (rest := []) hM ca_X8_xAtBySet km_L_55 (by decide) h0 rfl rfl rfl rfl (by decide) (Nat.le_of_ble_eq_true rfl) (by decide) dL_xAtBySet_2 (fun e G2 hX2 => ?_) (fun vv G2 hQ2 => ?_)
  · rcases hX e G2 hX2 with rfl | rfl
    · refine ⟨6, ctch1 C ht (by decide) (by decide) kc_L_15 w_castIAE, fun q9 => ?_⟩
      refine G_astore_n C 2 (lo' := [(2, .ref q9), (0, .ref (ad 0)), (1, .int n)]) dL_xAtBySet_6 rfl (by decide) rfl ?_
      refine G_ldc2 C dL_xAtBySet_7 kl_L_26 ?_
      refine GW.widen (c1 := 1) (s1 := 6) (by decide) (by decide) ?_
      exact G_lret C hr dL_xAtBySet_10 (Or.inr (Or.inl ⟨hX2, rfl⟩))
    · refine ⟨11, ctch2 C ht (by decide) kc_L_15 C.2.2.2.2.2.2.2.1.2.2.2.2.2.1.2 (by decide) (by decide) kc_L_40 w_castNSE, fun q9 => ?_⟩
      refine G_astore_n C 2 (lo' := [(2, .ref q9), (0, .ref (ad 0)), (1, .int n)]) dL_xAtBySet_11 rfl (by decide) rfl ?_
      refine G_ldc2 C dL_xAtBySet_12 kl_L_53 ?_
      refine GW.widen (c1 := 1) (s1 := 6) (by decide) (by decide) ?_
      exact G_lret C hr dL_xAtBySet_15 (Or.inr (Or.inr ⟨hX2, rfl⟩))
  · obtain ⟨r, rfl⟩ := hQ vv G2 hQ2
    refine GW.widen (c1 := 1) (s1 := 6) (by decide) (by decide) ?_
    exact G_lret C hr dL_xAtBySet_5 (Or.inl hQ2)

abbrev rm_solutionsUpTo : Room := ({ frames := 7, cells := 1, slots := 6, locals := 115 } : Room)
set_option maxRecDepth 100000 in
set_option maxHeartbeats 4000000 in
theorem w_solutionsUpTo {L : GL} {ad : Nat → Nat} {G : Nat → va_E} {Q : Option Value → (Nat → va_E) → Prop} {X : String → (Nat → va_E) → Prop} {b : Int64} (hM : GX L yX8_solutionsUpTo cX8_solutionsUpTo 3 ((some .int)) rm_X8_solutionsUpTo 40 ad G [.ref (ad 0), .long b] Q X) (h0 : ∃ fs, G 0 = .inr (8, fs)) (hQ : ∀ v G', Q v G' → ∃ r : Int32, v = some (.int r)) (hX : ∀ e G', X e G' → e = eIAE) : GH L yL_solutionsUpTo cL_solutionsUpTo 4 (some .int) [(0, 5, 6, 15)] rm_solutionsUpTo 40 ad G [.ref (ad 0), .long b] (fun vo G' => Q vo G' ∨ (X eIAE G' ∧ vo = some (.int (-102)))) := by
  refine GH.of (own := RL) (lo := [(0, .ref (ad 0)), (1, .long b)]) (by decide +kernel) rfl rfl (Nat.le_of_ble_eq_true rfl) (fun E C ht hr => ?_)
  refine G_aload_n C 0 dL_solutionsUpTo_0 rfl rfl ?_
  refine G_lload_n C 1 dL_solutionsUpTo_1 rfl rfl ?_
  obtain ⟨fs, h0⟩ := h0
  refine G_callVXC C (As := [.long b]) (rest := []) hM ca_X8_solutionsUpTo km_L_46 (by decide) h0 rfl rfl rfl rfl (by decide) (Nat.le_of_ble_eq_true rfl) (by decide) dL_solutionsUpTo_2 (fun e G2 hX2 => ?_) (fun vv G2 hQ2 => ?_)
  · obtain rfl := hX e G2 hX2
    refine ⟨6, ctch1 C ht (by decide) (by decide) kc_L_15 w_castIAE, fun q9 => ?_⟩
    refine G_astore_n C 3 (lo' := [(3, .ref q9), (0, .ref (ad 0)), (1, .long b)]) dL_solutionsUpTo_6 rfl (by decide) rfl ?_
    refine G_bipush C (v := (-102)) dL_solutionsUpTo_7 (by decide) ?_
    refine GW.widen (c1 := 1) (s1 := 6) (by decide) (by decide) ?_
    exact G_iret C hr dL_solutionsUpTo_9 (Or.inr ⟨hX2, rfl⟩)
  · obtain ⟨r, rfl⟩ := hQ vv G2 hQ2
    refine GW.widen (c1 := 1) (s1 := 6) (by decide) (by decide) ?_
    exact G_iret C hr dL_solutionsUpTo_5 (Or.inl hQ2)

abbrev rm_nearRoot : Room := ({ frames := 9, cells := 3, slots := 18, locals := 145 } : Room)
set_option maxRecDepth 100000 in
set_option maxHeartbeats 4000000 in
theorem w_nearRoot {L : GL} {ad : Nat → Nat} {G : Nat → va_E} {Q : Option Value → (Nat → va_E) → Prop} {X : String → (Nat → va_E) → Prop} {n : Int32} (hM : GX L yX8_nearRoot cX8_nearRoot 3 ((some .float)) rm_X8_nearRoot 40 ad G [.ref (ad 0), .int n] Q X) (h0 : ∃ fs, G 0 = .inr (8, fs)) (hQ : ∀ v G', Q v G' → ∃ r : UInt32, v = some (.float r)) (hX : ∀ e G', X e G' → e = eIAE ∨ e = eNSE) : GH L yL_nearRoot cL_nearRoot 3 (some .float) [(0, 5, 6, 15), (0, 5, 10, 40)] rm_nearRoot 40 ad G [.ref (ad 0), .int n] (fun vo G' => Q vo G' ∨ (X eIAE G' ∧ vo = some (.float 3268149248)) ∨ (X eNSE G' ∧ vo = some (.float 3268411392))) := by
  refine GH.of (own := RL) (lo := [(0, .ref (ad 0)), (1, .int n)]) (by decide +kernel) rfl rfl (Nat.le_of_ble_eq_true rfl) (fun E C ht hr => ?_)
  refine G_aload_n C 0 dL_nearRoot_0 rfl rfl ?_
  refine G_iload_n C 1 dL_nearRoot_1 rfl rfl ?_
  obtain ⟨fs, h0⟩ := h0
  refine G_callVXC C (As := [.int n]) (rest := []) hM ca_X8_nearRoot km_L_116 (by decide) h0 rfl rfl rfl rfl (by decide) (Nat.le_of_ble_eq_true rfl) (by decide) dL_nearRoot_2 (fun e G2 hX2 => ?_) (fun vv G2 hQ2 => ?_)
  · rcases hX e G2 hX2 with rfl | rfl
    · refine ⟨6, ctch1 C ht (by decide) (by decide) kc_L_15 w_castIAE, fun q9 => ?_⟩
      refine G_astore_n C 2 (lo' := [(2, .ref q9), (0, .ref (ad 0)), (1, .int n)]) dL_nearRoot_6 rfl (by decide) rfl ?_
      refine G_ldcf C kq_L_120 dL_nearRoot_7 ?_
      refine GW.widen (c1 := 3) (s1 := 18) (by decide) (by decide) ?_
      exact G_fret C hr dL_nearRoot_9 (Or.inr (Or.inl ⟨hX2, rfl⟩))
    · refine ⟨10, ctch2 C ht (by decide) kc_L_15 C.2.2.2.2.2.2.2.1.2.2.2.2.2.1.2 (by decide) (by decide) kc_L_40 w_castNSE, fun q9 => ?_⟩
      refine G_astore_n C 2 (lo' := [(2, .ref q9), (0, .ref (ad 0)), (1, .int n)]) dL_nearRoot_10 rfl (by decide) rfl ?_
      refine G_ldcf C kq_L_121 dL_nearRoot_11 ?_
      refine GW.widen (c1 := 3) (s1 := 18) (by decide) (by decide) ?_
      exact G_fret C hr dL_nearRoot_13 (Or.inr (Or.inr ⟨hX2, rfl⟩))
  · obtain ⟨r, rfl⟩ := hQ vv G2 hQ2
    refine GW.widen (c1 := 3) (s1 := 18) (by decide) (by decide) ?_
    exact G_fret C hr dL_nearRoot_5 (Or.inl hQ2)

abbrev rm_periodOf : Room := ({ frames := 9, cells := 2, slots := 12, locals := 144 } : Room)
set_option maxRecDepth 100000 in
set_option maxHeartbeats 4000000 in
theorem w_periodOf {L : GL} {ad : Nat → Nat} {G : Nat → va_E} {Q : Option Value → (Nat → va_E) → Prop} {X : String → (Nat → va_E) → Prop} {n : Int32} (hM : GX L yX8_periodOf cX8_periodOf 2 ((some .int)) rm_X8_periodOf 40 ad G [.ref (ad 0), .int n] Q X) (h0 : ∃ fs, G 0 = .inr (8, fs)) (hQ : ∀ v G', Q v G' → ∃ r : Int32, v = some (.int r)) (hX : ∀ e G', X e G' → e = eIAE ∨ e = eNSE) : GH L yL_periodOf cL_periodOf 3 (some .int) [(0, 5, 6, 15), (0, 5, 10, 40)] rm_periodOf 40 ad G [.ref (ad 0), .int n] (fun vo G' => Q vo G' ∨ (X eIAE G' ∧ vo = some (.int (-102))) ∨ (X eNSE G' ∧ vo = some (.int (-104)))) := by
  refine GH.of (own := RL) (lo := [(0, .ref (ad 0)), (1, .int n)]) (by decide +kernel) rfl rfl (Nat.le_of_ble_eq_true rfl) (fun E C ht hr => ?_)
  refine G_aload_n C 0 dL_periodOf_0 rfl rfl ?_
  refine G_iload_n C 1 dL_periodOf_1 rfl rfl ?_
  obtain ⟨fs, h0⟩ := h0
  refine G_callVXC C (As := [.int n]) (rest := []) hM ca_X8_periodOf km_L_83 (by decide) h0 rfl rfl rfl rfl (by decide) (Nat.le_of_ble_eq_true rfl) (by decide) dL_periodOf_2 (fun e G2 hX2 => ?_) (fun vv G2 hQ2 => ?_)
  · rcases hX e G2 hX2 with rfl | rfl
    · refine ⟨6, ctch1 C ht (by decide) (by decide) kc_L_15 w_castIAE, fun q9 => ?_⟩
      refine G_astore_n C 2 (lo' := [(2, .ref q9), (0, .ref (ad 0)), (1, .int n)]) dL_periodOf_6 rfl (by decide) rfl ?_
      refine G_bipush C (v := (-102)) dL_periodOf_7 (by decide) ?_
      refine GW.widen (c1 := 2) (s1 := 12) (by decide) (by decide) ?_
      exact G_iret C hr dL_periodOf_9 (Or.inr (Or.inl ⟨hX2, rfl⟩))
    · refine ⟨10, ctch2 C ht (by decide) kc_L_15 C.2.2.2.2.2.2.2.1.2.2.2.2.2.1.2 (by decide) (by decide) kc_L_40 w_castNSE, fun q9 => ?_⟩
      refine G_astore_n C 2 (lo' := [(2, .ref q9), (0, .ref (ad 0)), (1, .int n)]) dL_periodOf_10 rfl (by decide) rfl ?_
      refine G_bipush C (v := (-104)) dL_periodOf_11 (by decide) ?_
      refine GW.widen (c1 := 2) (s1 := 12) (by decide) (by decide) ?_
      exact G_iret C hr dL_periodOf_13 (Or.inr (Or.inr ⟨hX2, rfl⟩))
  · obtain ⟨r, rfl⟩ := hQ vv G2 hQ2
    refine GW.widen (c1 := 2) (s1 := 12) (by decide) (by decide) ?_
    exact G_iret C hr dL_periodOf_5 (Or.inl hQ2)

abbrev rm_termAt : Room := ({ frames := 9, cells := 2, slots := 12, locals := 145 } : Room)
set_option maxRecDepth 100000 in
set_option maxHeartbeats 4000000 in
theorem w_termAt {L : GL} {ad : Nat → Nat} {G : Nat → va_E} {Q : Option Value → (Nat → va_E) → Prop} {X : String → (Nat → va_E) → Prop} {n pl : Int32} (hM : GX L yX8_termAt cX8_termAt 3 ((some .int)) rm_X8_termAt2 40 ad G [.ref (ad 0), .int n, .int pl] Q X) (h0 : ∃ fs, G 0 = .inr (8, fs)) (hQ : ∀ v G', Q v G' → ∃ r : Int32, v = some (.int r)) (hX : ∀ e G', X e G' → e = eIAE ∨ e = eNSE) : GH L yL_termAt cL_termAt 4 (some .int) [(0, 6, 7, 15), (0, 6, 11, 40)] rm_termAt 40 ad G [.ref (ad 0), .int n, .int pl] (fun vo G' => Q vo G' ∨ (X eIAE G' ∧ vo = some (.int (-102))) ∨ (X eNSE G' ∧ vo = some (.int (-104)))) := by
  refine GH.of (own := RL) (lo := [(0, .ref (ad 0)), (1, .int n), (2, .int pl)]) (by decide +kernel) rfl rfl (Nat.le_of_ble_eq_true rfl) (fun E C ht hr => ?_)
  refine G_aload_n C 0 dL_termAt_0 rfl rfl ?_
  refine G_iload_n C 1 dL_termAt_1 rfl rfl ?_
  refine G_iload_n C 2 dL_termAt_2 rfl rfl ?_
  obtain ⟨fs, h0⟩ := h0
  refine G_callVXC C (As := [.int n, .int pl]) (rest := []) hM ca_X8_termAt km_L_36 (by decide) h0 rfl rfl rfl rfl (by decide) (Nat.le_of_ble_eq_true rfl) (by decide) dL_termAt_3 (fun e G2 hX2 => ?_) (fun vv G2 hQ2 => ?_)
  · rcases hX e G2 hX2 with rfl | rfl
    · refine ⟨7, ctch1 C ht (by decide) (by decide) kc_L_15 w_castIAE, fun q9 => ?_⟩
      refine G_astore_n C 3 (lo' := [(3, .ref q9), (0, .ref (ad 0)), (1, .int n), (2, .int pl)]) dL_termAt_7 rfl (by decide) rfl ?_
      refine G_bipush C (v := (-102)) dL_termAt_8 (by decide) ?_
      refine GW.widen (c1 := 2) (s1 := 12) (by decide) (by decide) ?_
      exact G_iret C hr dL_termAt_10 (Or.inr (Or.inl ⟨hX2, rfl⟩))
    · refine ⟨11, ctch2 C ht (by decide) kc_L_15 C.2.2.2.2.2.2.2.1.2.2.2.2.2.1.2 (by decide) (by decide) kc_L_40 w_castNSE, fun q9 => ?_⟩
      refine G_astore_n C 3 (lo' := [(3, .ref q9), (0, .ref (ad 0)), (1, .int n), (2, .int pl)]) dL_termAt_11 rfl (by decide) rfl ?_
      refine G_bipush C (v := (-104)) dL_termAt_12 (by decide) ?_
      refine GW.widen (c1 := 2) (s1 := 12) (by decide) (by decide) ?_
      exact G_iret C hr dL_termAt_14 (Or.inr (Or.inr ⟨hX2, rfl⟩))
  · obtain ⟨r, rfl⟩ := hQ vv G2 hQ2
    refine GW.widen (c1 := 2) (s1 := 12) (by decide) (by decide) ?_
    exact G_iret C hr dL_termAt_6 (Or.inl hQ2)

abbrev rm_unitX : Room := ({ frames := 9, cells := 2, slots := 12, locals := 144 } : Room)
set_option maxRecDepth 100000 in
set_option maxHeartbeats 4000000 in
theorem w_unitX {L : GL} {ad : Nat → Nat} {G : Nat → va_E} {Q : Option Value → (Nat → va_E) → Prop} {X : String → (Nat → va_E) → Prop} {n : Int32} (hM : GX L yX8_unitX cX8_unitX 2 ((some .int)) rm_X8_unitX 40 ad G [.ref (ad 0), .int n] Q X) (h0 : ∃ fs, G 0 = .inr (8, fs)) (hQ : ∀ v G', Q v G' → ∃ r : Int32, v = some (.int r)) (hX : ∀ e G', X e G' → e = eIAE ∨ e = eNSE) : GH L yL_unitX cL_unitX 3 (some .int) [(0, 5, 6, 15), (0, 5, 10, 40)] rm_unitX 40 ad G [.ref (ad 0), .int n] (fun vo G' => Q vo G' ∨ (X eIAE G' ∧ vo = some (.int (-102))) ∨ (X eNSE G' ∧ vo = some (.int (-104)))) := by
  refine GH.of (own := RL) (lo := [(0, .ref (ad 0)), (1, .int n)]) (by decide +kernel) rfl rfl (Nat.le_of_ble_eq_true rfl) (fun E C ht hr => ?_)
  refine G_aload_n C 0 dL_unitX_0 rfl rfl ?_
  refine G_iload_n C 1 dL_unitX_1 rfl rfl ?_
  obtain ⟨fs, h0⟩ := h0
  refine G_callVXC C (As := [.int n]) (rest := []) hM ca_X8_unitX km_L_86 (by decide) h0 rfl rfl rfl rfl (by decide) (Nat.le_of_ble_eq_true rfl) (by decide) dL_unitX_2 (fun e G2 hX2 => ?_) (fun vv G2 hQ2 => ?_)
  · rcases hX e G2 hX2 with rfl | rfl
    · refine ⟨6, ctch1 C ht (by decide) (by decide) kc_L_15 w_castIAE, fun q9 => ?_⟩
      refine G_astore_n C 2 (lo' := [(2, .ref q9), (0, .ref (ad 0)), (1, .int n)]) dL_unitX_6 rfl (by decide) rfl ?_
      refine G_bipush C (v := (-102)) dL_unitX_7 (by decide) ?_
      refine GW.widen (c1 := 2) (s1 := 12) (by decide) (by decide) ?_
      exact G_iret C hr dL_unitX_9 (Or.inr (Or.inl ⟨hX2, rfl⟩))
    · refine ⟨10, ctch2 C ht (by decide) kc_L_15 C.2.2.2.2.2.2.2.1.2.2.2.2.2.1.2 (by decide) (by decide) kc_L_40 w_castNSE, fun q9 => ?_⟩
      refine G_astore_n C 2 (lo' := [(2, .ref q9), (0, .ref (ad 0)), (1, .int n)]) dL_unitX_10 rfl (by decide) rfl ?_
      refine G_bipush C (v := (-104)) dL_unitX_11 (by decide) ?_
      refine GW.widen (c1 := 2) (s1 := 12) (by decide) (by decide) ?_
      exact G_iret C hr dL_unitX_13 (Or.inr (Or.inr ⟨hX2, rfl⟩))
  · obtain ⟨r, rfl⟩ := hQ vv G2 hQ2
    refine GW.widen (c1 := 2) (s1 := 12) (by decide) (by decide) ?_
    exact G_iret C hr dL_unitX_5 (Or.inl hQ2)

abbrev rm_unitY : Room := ({ frames := 9, cells := 2, slots := 12, locals := 144 } : Room)
set_option maxRecDepth 100000 in
set_option maxHeartbeats 4000000 in
theorem w_unitY {L : GL} {ad : Nat → Nat} {G : Nat → va_E} {Q : Option Value → (Nat → va_E) → Prop} {X : String → (Nat → va_E) → Prop} {n : Int32} (hM : GX L yX8_unitY cX8_unitY 2 ((some .int)) rm_X8_unitY 40 ad G [.ref (ad 0), .int n] Q X) (h0 : ∃ fs, G 0 = .inr (8, fs)) (hQ : ∀ v G', Q v G' → ∃ r : Int32, v = some (.int r)) (hX : ∀ e G', X e G' → e = eIAE ∨ e = eNSE) : GH L yL_unitY cL_unitY 3 (some .int) [(0, 5, 6, 15), (0, 5, 10, 40)] rm_unitY 40 ad G [.ref (ad 0), .int n] (fun vo G' => Q vo G' ∨ (X eIAE G' ∧ vo = some (.int (-102))) ∨ (X eNSE G' ∧ vo = some (.int (-104)))) := by
  refine GH.of (own := RL) (lo := [(0, .ref (ad 0)), (1, .int n)]) (by decide +kernel) rfl rfl (Nat.le_of_ble_eq_true rfl) (fun E C ht hr => ?_)
  refine G_aload_n C 0 dL_unitY_0 rfl rfl ?_
  refine G_iload_n C 1 dL_unitY_1 rfl rfl ?_
  obtain ⟨fs, h0⟩ := h0
  refine G_callVXC C (As := [.int n]) (rest := []) hM ca_X8_unitY km_L_89 (by decide) h0 rfl rfl rfl rfl (by decide) (Nat.le_of_ble_eq_true rfl) (by decide) dL_unitY_2 (fun e G2 hX2 => ?_) (fun vv G2 hQ2 => ?_)
  · rcases hX e G2 hX2 with rfl | rfl
    · refine ⟨6, ctch1 C ht (by decide) (by decide) kc_L_15 w_castIAE, fun q9 => ?_⟩
      refine G_astore_n C 2 (lo' := [(2, .ref q9), (0, .ref (ad 0)), (1, .int n)]) dL_unitY_6 rfl (by decide) rfl ?_
      refine G_bipush C (v := (-102)) dL_unitY_7 (by decide) ?_
      refine GW.widen (c1 := 2) (s1 := 12) (by decide) (by decide) ?_
      exact G_iret C hr dL_unitY_9 (Or.inr (Or.inl ⟨hX2, rfl⟩))
    · refine ⟨10, ctch2 C ht (by decide) kc_L_15 C.2.2.2.2.2.2.2.1.2.2.2.2.2.1.2 (by decide) (by decide) kc_L_40 w_castNSE, fun q9 => ?_⟩
      refine G_astore_n C 2 (lo' := [(2, .ref q9), (0, .ref (ad 0)), (1, .int n)]) dL_unitY_10 rfl (by decide) rfl ?_
      refine G_bipush C (v := (-104)) dL_unitY_11 (by decide) ?_
      refine GW.widen (c1 := 2) (s1 := 12) (by decide) (by decide) ?_
      exact G_iret C hr dL_unitY_13 (Or.inr (Or.inr ⟨hX2, rfl⟩))
  · obtain ⟨r, rfl⟩ := hQ vv G2 hQ2
    refine GW.widen (c1 := 2) (s1 := 12) (by decide) (by decide) ?_
    exact G_iret C hr dL_unitY_5 (Or.inl hQ2)

abbrev rm_leastY : Room := ({ frames := 9, cells := 2, slots := 12, locals := 146 } : Room)
set_option maxRecDepth 100000 in
set_option maxHeartbeats 4000000 in
theorem w_leastY {L : GL} {ad : Nat → Nat} {G : Nat → va_E} {Q : Option Value → (Nat → va_E) → Prop} {X : String → (Nat → va_E) → Prop} {n : Int32} (hM : GX L yX8_leastY cX8_leastY 4 ((some .int)) rm_X8_leastY 40 ad G [.ref (ad 0), .int n] Q X) (h0 : ∃ fs, G 0 = .inr (8, fs)) (hQ : ∀ v G', Q v G' → ∃ r : Int32, v = some (.int r)) (hX : ∀ e G', X e G' → e = eIAE ∨ e = eNSE) : GH L yL_leastY cL_leastY 3 (some .int) [(0, 5, 6, 15), (0, 5, 10, 40)] rm_leastY 40 ad G [.ref (ad 0), .int n] (fun vo G' => Q vo G' ∨ (X eIAE G' ∧ vo = some (.int (-102))) ∨ (X eNSE G' ∧ vo = some (.int (-104)))) := by
  refine GH.of (own := RL) (lo := [(0, .ref (ad 0)), (1, .int n)]) (by decide +kernel) rfl rfl (Nat.le_of_ble_eq_true rfl) (fun E C ht hr => ?_)
  refine G_aload_n C 0 dL_leastY_0 rfl rfl ?_
  refine G_iload_n C 1 dL_leastY_1 rfl rfl ?_
  obtain ⟨fs, h0⟩ := h0
  refine G_callVXC C (As := [.int n]) (rest := []) hM ca_X8_leastY km_L_92 (by decide) h0 rfl rfl rfl rfl (by decide) (Nat.le_of_ble_eq_true rfl) (by decide) dL_leastY_2 (fun e G2 hX2 => ?_) (fun vv G2 hQ2 => ?_)
  · rcases hX e G2 hX2 with rfl | rfl
    · refine ⟨6, ctch1 C ht (by decide) (by decide) kc_L_15 w_castIAE, fun q9 => ?_⟩
      refine G_astore_n C 2 (lo' := [(2, .ref q9), (0, .ref (ad 0)), (1, .int n)]) dL_leastY_6 rfl (by decide) rfl ?_
      refine G_bipush C (v := (-102)) dL_leastY_7 (by decide) ?_
      refine GW.widen (c1 := 2) (s1 := 12) (by decide) (by decide) ?_
      exact G_iret C hr dL_leastY_9 (Or.inr (Or.inl ⟨hX2, rfl⟩))
    · refine ⟨10, ctch2 C ht (by decide) kc_L_15 C.2.2.2.2.2.2.2.1.2.2.2.2.2.1.2 (by decide) (by decide) kc_L_40 w_castNSE, fun q9 => ?_⟩
      refine G_astore_n C 2 (lo' := [(2, .ref q9), (0, .ref (ad 0)), (1, .int n)]) dL_leastY_10 rfl (by decide) rfl ?_
      refine G_bipush C (v := (-104)) dL_leastY_11 (by decide) ?_
      refine GW.widen (c1 := 2) (s1 := 12) (by decide) (by decide) ?_
      exact G_iret C hr dL_leastY_13 (Or.inr (Or.inr ⟨hX2, rfl⟩))
  · obtain ⟨r, rfl⟩ := hQ vv G2 hQ2
    refine GW.widen (c1 := 2) (s1 := 12) (by decide) (by decide) ?_
    exact G_iret C hr dL_leastY_5 (Or.inl hQ2)

abbrev rm_leastYBySearch : Room := ({ frames := 9, cells := 2, slots := 12, locals := 144 } : Room)
set_option maxRecDepth 100000 in
set_option maxHeartbeats 4000000 in
theorem w_leastYBySearch {L : GL} {ad : Nat → Nat} {G : Nat → va_E} {Q : Option Value → (Nat → va_E) → Prop} {X : String → (Nat → va_E) → Prop} {n : Int32} (hM : GX L yX8_leastYBySearch cX8_leastYBySearch 2 ((some .int)) rm_X8_leastYBySearch 40 ad G [.ref (ad 0), .int n] Q X) (h0 : ∃ fs, G 0 = .inr (8, fs)) (hQ : ∀ v G', Q v G' → ∃ r : Int32, v = some (.int r)) (hX : ∀ e G', X e G' → e = eIAE ∨ e = eNSE) : GH L yL_leastYBySearch cL_leastYBySearch 3 (some .int) [(0, 5, 6, 15), (0, 5, 10, 40)] rm_leastYBySearch 40 ad G [.ref (ad 0), .int n] (fun vo G' => Q vo G' ∨ (X eIAE G' ∧ vo = some (.int (-102))) ∨ (X eNSE G' ∧ vo = some (.int (-104)))) := by
  refine GH.of (own := RL) (lo := [(0, .ref (ad 0)), (1, .int n)]) (by decide +kernel) rfl rfl (Nat.le_of_ble_eq_true rfl) (fun E C ht hr => ?_)
  refine G_aload_n C 0 dL_leastYBySearch_0 rfl rfl ?_
  refine G_iload_n C 1 dL_leastYBySearch_1 rfl rfl ?_
  obtain ⟨fs, h0⟩ := h0
  refine G_callVXC C (As := [.int n]) (rest := []) hM ca_X8_leastYBySearch km_L_95 (by decide) h0 rfl rfl rfl rfl (by decide) (Nat.le_of_ble_eq_true rfl) (by decide) dL_leastYBySearch_2 (fun e G2 hX2 => ?_) (fun vv G2 hQ2 => ?_)
  · rcases hX e G2 hX2 with rfl | rfl
    · refine ⟨6, ctch1 C ht (by decide) (by decide) kc_L_15 w_castIAE, fun q9 => ?_⟩
      refine G_astore_n C 2 (lo' := [(2, .ref q9), (0, .ref (ad 0)), (1, .int n)]) dL_leastYBySearch_6 rfl (by decide) rfl ?_
      refine G_bipush C (v := (-102)) dL_leastYBySearch_7 (by decide) ?_
      refine GW.widen (c1 := 2) (s1 := 12) (by decide) (by decide) ?_
      exact G_iret C hr dL_leastYBySearch_9 (Or.inr (Or.inl ⟨hX2, rfl⟩))
    · refine ⟨10, ctch2 C ht (by decide) kc_L_15 C.2.2.2.2.2.2.2.1.2.2.2.2.2.1.2 (by decide) (by decide) kc_L_40 w_castNSE, fun q9 => ?_⟩
      refine G_astore_n C 2 (lo' := [(2, .ref q9), (0, .ref (ad 0)), (1, .int n)]) dL_leastYBySearch_10 rfl (by decide) rfl ?_
      refine G_bipush C (v := (-104)) dL_leastYBySearch_11 (by decide) ?_
      refine GW.widen (c1 := 2) (s1 := 12) (by decide) (by decide) ?_
      exact G_iret C hr dL_leastYBySearch_13 (Or.inr (Or.inr ⟨hX2, rfl⟩))
  · obtain ⟨r, rfl⟩ := hQ vv G2 hQ2
    refine GW.widen (c1 := 2) (s1 := 12) (by decide) (by decide) ?_
    exact G_iret C hr dL_leastYBySearch_5 (Or.inl hQ2)

abbrev rm_lay : Room := ({ frames := 8, cells := 1, slots := 6, locals := 185 } : Room)
set_option maxRecDepth 100000 in
set_option maxHeartbeats 4000000 in
theorem w_lay {L : GL} {ad : Nat → Nat} {G : Nat → va_E} {Q : Option Value → (Nat → va_E) → Prop} {X : String → (Nat → va_E) → Prop} {n : Int32} (hM : GX L yX8_lay cX8_lay 2 ((some .int)) rm_X8_lay 40 ad G [.ref (ad 0), .int n] Q X) (h0 : ∃ fs, G 0 = .inr (8, fs)) (hQ : ∀ v G', Q v G' → ∃ r : Int32, v = some (.int r)) (hX : ∀ e G', X e G' → e = eIAE ∨ e = eISE) : GH L yL_lay cL_lay 3 (some .int) [(0, 5, 6, 15), (0, 5, 10, 17)] rm_lay 40 ad G [.ref (ad 0), .int n] (fun vo G' => Q vo G' ∨ (X eIAE G' ∧ vo = some (.int (-102))) ∨ (X eISE G' ∧ vo = some (.int (-103)))) := by
  refine GH.of (own := RL) (lo := [(0, .ref (ad 0)), (1, .int n)]) (by decide +kernel) rfl rfl (Nat.le_of_ble_eq_true rfl) (fun E C ht hr => ?_)
  refine G_aload_n C 0 dL_lay_0 rfl rfl ?_
  refine G_iload_n C 1 dL_lay_1 rfl rfl ?_
  obtain ⟨fs, h0⟩ := h0
  refine G_callVXC C (As := [.int n]) (rest := []) hM ca_X8_lay km_L_9 (by decide) h0 rfl rfl rfl rfl (by decide) (Nat.le_of_ble_eq_true rfl) (by decide) dL_lay_2 (fun e G2 hX2 => ?_) (fun vv G2 hQ2 => ?_)
  · rcases hX e G2 hX2 with rfl | rfl
    · refine ⟨6, ctch1 C ht (by decide) (by decide) kc_L_15 w_castIAE, fun q9 => ?_⟩
      refine G_astore_n C 2 (lo' := [(2, .ref q9), (0, .ref (ad 0)), (1, .int n)]) dL_lay_6 rfl (by decide) rfl ?_
      refine G_bipush C (v := (-102)) dL_lay_7 (by decide) ?_
      refine GW.widen (c1 := 1) (s1 := 6) (by decide) (by decide) ?_
      exact G_iret C hr dL_lay_9 (Or.inr (Or.inl ⟨hX2, rfl⟩))
    · refine ⟨10, ctch2 C ht (by decide) kc_L_15 C.2.2.2.2.2.2.2.1.2.2.2.2.2.1.1 (by decide) (by decide) kc_L_17 w_castISE, fun q9 => ?_⟩
      refine G_astore_n C 2 (lo' := [(2, .ref q9), (0, .ref (ad 0)), (1, .int n)]) dL_lay_10 rfl (by decide) rfl ?_
      refine G_bipush C (v := (-103)) dL_lay_11 (by decide) ?_
      refine GW.widen (c1 := 1) (s1 := 6) (by decide) (by decide) ?_
      exact G_iret C hr dL_lay_13 (Or.inr (Or.inr ⟨hX2, rfl⟩))
  · obtain ⟨r, rfl⟩ := hQ vv G2 hQ2
    refine GW.widen (c1 := 1) (s1 := 6) (by decide) (by decide) ?_
    exact G_iret C hr dL_lay_5 (Or.inl hQ2)

abbrev rm_take : Room := ({ frames := 8, cells := 1, slots := 6, locals := 186 } : Room)
set_option maxRecDepth 100000 in
set_option maxHeartbeats 4000000 in
theorem w_take {L : GL} {ad : Nat → Nat} {G : Nat → va_E} {Q : Option Value → (Nat → va_E) → Prop} {X : String → (Nat → va_E) → Prop} {n : Int32} (hM : GX L yX8_take cX8_take 3 ((some .int)) rm_X8_take 40 ad G [.ref (ad 0), .int n] Q X) (h0 : ∃ fs, G 0 = .inr (8, fs)) (hQ : ∀ v G', Q v G' → ∃ r : Int32, v = some (.int r)) (hX : ∀ e G', X e G' → e = eIAE ∨ e = eISE) : GH L yL_take cL_take 3 (some .int) [(0, 5, 6, 15), (0, 5, 10, 17)] rm_take 40 ad G [.ref (ad 0), .int n] (fun vo G' => Q vo G' ∨ (X eIAE G' ∧ vo = some (.int (-102))) ∨ (X eISE G' ∧ vo = some (.int (-103)))) := by
  refine GH.of (own := RL) (lo := [(0, .ref (ad 0)), (1, .int n)]) (by decide +kernel) rfl rfl (Nat.le_of_ble_eq_true rfl) (fun E C ht hr => ?_)
  refine G_aload_n C 0 dL_take_0 rfl rfl ?_
  refine G_iload_n C 1 dL_take_1 rfl rfl ?_
  obtain ⟨fs, h0⟩ := h0
  refine G_callVXC C (As := [.int n]) (rest := []) hM ca_X8_take km_L_19 (by decide) h0 rfl rfl rfl rfl (by decide) (Nat.le_of_ble_eq_true rfl) (by decide) dL_take_2 (fun e G2 hX2 => ?_) (fun vv G2 hQ2 => ?_)
  · rcases hX e G2 hX2 with rfl | rfl
    · refine ⟨6, ctch1 C ht (by decide) (by decide) kc_L_15 w_castIAE, fun q9 => ?_⟩
      refine G_astore_n C 2 (lo' := [(2, .ref q9), (0, .ref (ad 0)), (1, .int n)]) dL_take_6 rfl (by decide) rfl ?_
      refine G_bipush C (v := (-102)) dL_take_7 (by decide) ?_
      refine GW.widen (c1 := 1) (s1 := 6) (by decide) (by decide) ?_
      exact G_iret C hr dL_take_9 (Or.inr (Or.inl ⟨hX2, rfl⟩))
    · refine ⟨10, ctch2 C ht (by decide) kc_L_15 C.2.2.2.2.2.2.2.1.2.2.2.2.2.1.1 (by decide) (by decide) kc_L_17 w_castISE, fun q9 => ?_⟩
      refine G_astore_n C 2 (lo' := [(2, .ref q9), (0, .ref (ad 0)), (1, .int n)]) dL_take_10 rfl (by decide) rfl ?_
      refine G_bipush C (v := (-103)) dL_take_11 (by decide) ?_
      refine GW.widen (c1 := 1) (s1 := 6) (by decide) (by decide) ?_
      exact G_iret C hr dL_take_13 (Or.inr (Or.inr ⟨hX2, rfl⟩))
  · obtain ⟨r, rfl⟩ := hQ vv G2 hQ2
    refine GW.widen (c1 := 1) (s1 := 6) (by decide) (by decide) ?_
    exact G_iret C hr dL_take_5 (Or.inl hQ2)

abbrev rm_mill : Room := ({ frames := 8, cells := 1, slots := 6, locals := 185 } : Room)
set_option maxRecDepth 100000 in
set_option maxHeartbeats 4000000 in
theorem w_mill {L : GL} {ad : Nat → Nat} {G : Nat → va_E} {Q : Option Value → (Nat → va_E) → Prop} {X : String → (Nat → va_E) → Prop} {n : Int32} (hM : GX L yX8_mill cX8_mill 2 ((some .long)) rm_X8_mill 40 ad G [.ref (ad 0), .int n] Q X) (h0 : ∃ fs, G 0 = .inr (8, fs)) (hQ : ∀ v G', Q v G' → ∃ r : Int64, v = some (.long r)) (hX : ∀ e G', X e G' → e = eIAE ∨ e = eISE) : GH L yL_mill cL_mill 3 (some .long) [(0, 5, 6, 15), (0, 5, 11, 17)] rm_mill 40 ad G [.ref (ad 0), .int n] (fun vo G' => Q vo G' ∨ (X eIAE G' ∧ vo = some (.long (-102))) ∨ (X eISE G' ∧ vo = some (.long (-103)))) := by
  refine GH.of (own := RL) (lo := [(0, .ref (ad 0)), (1, .int n)]) (by decide +kernel) rfl rfl (Nat.le_of_ble_eq_true rfl) (fun E C ht hr => ?_)
  refine G_aload_n C 0 dL_mill_0 rfl rfl ?_
  refine G_iload_n C 1 dL_mill_1 rfl rfl ?_
  obtain ⟨fs, h0⟩ := h0
  refine G_callVXC C (As := [.int n]) (rest := []) hM ca_X8_mill km_L_22 (by decide) h0 rfl rfl rfl rfl (by decide) (Nat.le_of_ble_eq_true rfl) (by decide) dL_mill_2 (fun e G2 hX2 => ?_) (fun vv G2 hQ2 => ?_)
  · rcases hX e G2 hX2 with rfl | rfl
    · refine ⟨6, ctch1 C ht (by decide) (by decide) kc_L_15 w_castIAE, fun q9 => ?_⟩
      refine G_astore_n C 2 (lo' := [(2, .ref q9), (0, .ref (ad 0)), (1, .int n)]) dL_mill_6 rfl (by decide) rfl ?_
      refine G_ldc2 C dL_mill_7 kl_L_26 ?_
      refine GW.widen (c1 := 1) (s1 := 6) (by decide) (by decide) ?_
      exact G_lret C hr dL_mill_10 (Or.inr (Or.inl ⟨hX2, rfl⟩))
    · refine ⟨11, ctch2 C ht (by decide) kc_L_15 C.2.2.2.2.2.2.2.1.2.2.2.2.2.1.1 (by decide) (by decide) kc_L_17 w_castISE, fun q9 => ?_⟩
      refine G_astore_n C 2 (lo' := [(2, .ref q9), (0, .ref (ad 0)), (1, .int n)]) dL_mill_11 rfl (by decide) rfl ?_
      refine G_ldc2 C dL_mill_12 kl_L_28 ?_
      refine GW.widen (c1 := 1) (s1 := 6) (by decide) (by decide) ?_
      exact G_lret C hr dL_mill_15 (Or.inr (Or.inr ⟨hX2, rfl⟩))
  · obtain ⟨r, rfl⟩ := hQ vv G2 hQ2
    refine GW.widen (c1 := 1) (s1 := 6) (by decide) (by decide) ?_
    exact G_lret C hr dL_mill_5 (Or.inl hQ2)

abbrev rm_millBack : Room := ({ frames := 8, cells := 1, slots := 6, locals := 185 } : Room)
set_option maxRecDepth 100000 in
set_option maxHeartbeats 4000000 in
theorem w_millBack {L : GL} {ad : Nat → Nat} {G : Nat → va_E} {Q : Option Value → (Nat → va_E) → Prop} {X : String → (Nat → va_E) → Prop} {n : Int32} (hM : GX L yX8_millBack cX8_millBack 2 ((some .long)) rm_X8_millBack 40 ad G [.ref (ad 0), .int n] Q X) (h0 : ∃ fs, G 0 = .inr (8, fs)) (hQ : ∀ v G', Q v G' → ∃ r : Int64, v = some (.long r)) (hX : ∀ e G', X e G' → e = eIAE ∨ e = eISE) : GH L yL_millBack cL_millBack 3 (some .long) [(0, 5, 6, 15), (0, 5, 11, 17)] rm_millBack 40 ad G [.ref (ad 0), .int n] (fun vo G' => Q vo G' ∨ (X eIAE G' ∧ vo = some (.long (-102))) ∨ (X eISE G' ∧ vo = some (.long (-103)))) := by
  refine GH.of (own := RL) (lo := [(0, .ref (ad 0)), (1, .int n)]) (by decide +kernel) rfl rfl (Nat.le_of_ble_eq_true rfl) (fun E C ht hr => ?_)
  refine G_aload_n C 0 dL_millBack_0 rfl rfl ?_
  refine G_iload_n C 1 dL_millBack_1 rfl rfl ?_
  obtain ⟨fs, h0⟩ := h0
  refine G_callVXC C (As := [.int n]) (rest := []) hM ca_X8_millBack km_L_30 (by decide) h0 rfl rfl rfl rfl (by decide) (Nat.le_of_ble_eq_true rfl) (by decide) dL_millBack_2 (fun e G2 hX2 => ?_) (fun vv G2 hQ2 => ?_)
  · rcases hX e G2 hX2 with rfl | rfl
    · refine ⟨6, ctch1 C ht (by decide) (by decide) kc_L_15 w_castIAE, fun q9 => ?_⟩
      refine G_astore_n C 2 (lo' := [(2, .ref q9), (0, .ref (ad 0)), (1, .int n)]) dL_millBack_6 rfl (by decide) rfl ?_
      refine G_ldc2 C dL_millBack_7 kl_L_26 ?_
      refine GW.widen (c1 := 1) (s1 := 6) (by decide) (by decide) ?_
      exact G_lret C hr dL_millBack_10 (Or.inr (Or.inl ⟨hX2, rfl⟩))
    · refine ⟨11, ctch2 C ht (by decide) kc_L_15 C.2.2.2.2.2.2.2.1.2.2.2.2.2.1.1 (by decide) (by decide) kc_L_17 w_castISE, fun q9 => ?_⟩
      refine G_astore_n C 2 (lo' := [(2, .ref q9), (0, .ref (ad 0)), (1, .int n)]) dL_millBack_11 rfl (by decide) rfl ?_
      refine G_ldc2 C dL_millBack_12 kl_L_28 ?_
      refine GW.widen (c1 := 1) (s1 := 6) (by decide) (by decide) ?_
      exact G_lret C hr dL_millBack_15 (Or.inr (Or.inr ⟨hX2, rfl⟩))
  · obtain ⟨r, rfl⟩ := hQ vv G2 hQ2
    refine GW.widen (c1 := 1) (s1 := 6) (by decide) (by decide) ?_
    exact G_lret C hr dL_millBack_5 (Or.inl hQ2)

abbrev rm_faultPosition : Room := ({ frames := 8, cells := 1, slots := 6, locals := 154 } : Room)
set_option maxRecDepth 100000 in
set_option maxHeartbeats 4000000 in
theorem w_faultPosition {L : GL} {ad : Nat → Nat} {G : Nat → va_E} {Q : Option Value → (Nat → va_E) → Prop} {X : String → (Nat → va_E) → Prop}  (hM : GX L yX8_faultPosition cX8_faultPosition 1 ((some .int)) rm_X8_faultPosition 40 ad G [.ref (ad 0)] Q X) (h0 : ∃ fs, G 0 = .inr (8, fs)) (hQ : ∀ v G', Q v G' → ∃ r : Int32, v = some (.int r)) (hX : ∀ e G', X e G' → e = eNSE) : GH L yL_faultPosition cL_faultPosition 2 (some .int) [(0, 4, 5, 40)] rm_faultPosition 40 ad G [.ref (ad 0)] (fun vo G' => Q vo G' ∨ (X eNSE G' ∧ vo = some (.int (-104)))) := by
  refine GH.of (own := RL) (lo := [(0, .ref (ad 0))]) (by decide +kernel) rfl rfl (Nat.le_of_ble_eq_true rfl) (fun E C ht hr => ?_)
  refine G_aload_n C 0 dL_faultPosition_0 rfl rfl ?_
  obtain ⟨fs, h0⟩ := h0
  refine G_callVXC C (As := []) (rest := []) hM ca_X8_faultPosition km_L_71 (by decide) h0 rfl rfl rfl rfl (by decide) (Nat.le_of_ble_eq_true rfl) (by decide) dL_faultPosition_1 (fun e G2 hX2 => ?_) (fun vv G2 hQ2 => ?_)
  · obtain rfl := hX e G2 hX2
    refine ⟨5, ctch1 C ht (by decide) (by decide) kc_L_40 w_castNSE, fun q9 => ?_⟩
    refine G_astore_n C 1 (lo' := [(1, .ref q9), (0, .ref (ad 0))]) dL_faultPosition_5 rfl (by decide) rfl ?_
    refine G_bipush C (v := (-104)) dL_faultPosition_6 (by decide) ?_
    refine GW.widen (c1 := 1) (s1 := 6) (by decide) (by decide) ?_
    exact G_iret C hr dL_faultPosition_8 (Or.inr ⟨hX2, rfl⟩)
  · obtain ⟨r, rfl⟩ := hQ vv G2 hQ2
    refine GW.widen (c1 := 1) (s1 := 6) (by decide) (by decide) ?_
    exact G_iret C hr dL_faultPosition_4 (Or.inl hQ2)

abbrev rm_faultReason : Room := ({ frames := 8, cells := 1, slots := 6, locals := 154 } : Room)
set_option maxRecDepth 100000 in
set_option maxHeartbeats 4000000 in
theorem w_faultReason {L : GL} {ad : Nat → Nat} {G : Nat → va_E} {Q : Option Value → (Nat → va_E) → Prop} {X : String → (Nat → va_E) → Prop}  (hM : GX L yX8_faultReason cX8_faultReason 1 ((some .int)) rm_X8_faultReason 40 ad G [.ref (ad 0)] Q X) (h0 : ∃ fs, G 0 = .inr (8, fs)) (hQ : ∀ v G', Q v G' → ∃ r : Int32, v = some (.int r)) (hX : ∀ e G', X e G' → e = eNSE) : GH L yL_faultReason cL_faultReason 2 (some .int) [(0, 4, 5, 40)] rm_faultReason 40 ad G [.ref (ad 0)] (fun vo G' => Q vo G' ∨ (X eNSE G' ∧ vo = some (.int (-104)))) := by
  refine GH.of (own := RL) (lo := [(0, .ref (ad 0))]) (by decide +kernel) rfl rfl (Nat.le_of_ble_eq_true rfl) (fun E C ht hr => ?_)
  refine G_aload_n C 0 dL_faultReason_0 rfl rfl ?_
  obtain ⟨fs, h0⟩ := h0
  refine G_callVXC C (As := []) (rest := []) hM ca_X8_faultReason km_L_74 (by decide) h0 rfl rfl rfl rfl (by decide) (Nat.le_of_ble_eq_true rfl) (by decide) dL_faultReason_1 (fun e G2 hX2 => ?_) (fun vv G2 hQ2 => ?_)
  · obtain rfl := hX e G2 hX2
    refine ⟨5, ctch1 C ht (by decide) (by decide) kc_L_40 w_castNSE, fun q9 => ?_⟩
    refine G_astore_n C 1 (lo' := [(1, .ref q9), (0, .ref (ad 0))]) dL_faultReason_5 rfl (by decide) rfl ?_
    refine G_bipush C (v := (-104)) dL_faultReason_6 (by decide) ?_
    refine GW.widen (c1 := 1) (s1 := 6) (by decide) (by decide) ?_
    exact G_iret C hr dL_faultReason_8 (Or.inr ⟨hX2, rfl⟩)
  · obtain ⟨r, rfl⟩ := hQ vv G2 hQ2
    refine GW.widen (c1 := 1) (s1 := 6) (by decide) (by decide) ?_
    exact G_iret C hr dL_faultReason_4 (Or.inl hQ2)

abbrev rm_faultCause : Room := ({ frames := 8, cells := 1, slots := 6, locals := 154 } : Room)
set_option maxRecDepth 100000 in
set_option maxHeartbeats 4000000 in
theorem w_faultCause {L : GL} {ad : Nat → Nat} {G : Nat → va_E} {Q : Option Value → (Nat → va_E) → Prop} {X : String → (Nat → va_E) → Prop}  (hM : GX L yX8_faultCause cX8_faultCause 1 ((some .int)) rm_X8_faultCause 40 ad G [.ref (ad 0)] Q X) (h0 : ∃ fs, G 0 = .inr (8, fs)) (hQ : ∀ v G', Q v G' → ∃ r : Int32, v = some (.int r)) (hX : ∀ e G', X e G' → e = eNSE) : GH L yL_faultCause cL_faultCause 2 (some .int) [(0, 4, 5, 40)] rm_faultCause 40 ad G [.ref (ad 0)] (fun vo G' => Q vo G' ∨ (X eNSE G' ∧ vo = some (.int (-104)))) := by
  refine GH.of (own := RL) (lo := [(0, .ref (ad 0))]) (by decide +kernel) rfl rfl (Nat.le_of_ble_eq_true rfl) (fun E C ht hr => ?_)
  refine G_aload_n C 0 dL_faultCause_0 rfl rfl ?_
  obtain ⟨fs, h0⟩ := h0
  refine G_callVXC C (As := []) (rest := []) hM ca_X8_faultCause km_L_77 (by decide) h0 rfl rfl rfl rfl (by decide) (Nat.le_of_ble_eq_true rfl) (by decide) dL_faultCause_1 (fun e G2 hX2 => ?_) (fun vv G2 hQ2 => ?_)
  · obtain rfl := hX e G2 hX2
    refine ⟨5, ctch1 C ht (by decide) (by decide) kc_L_40 w_castNSE, fun q9 => ?_⟩
    refine G_astore_n C 1 (lo' := [(1, .ref q9), (0, .ref (ad 0))]) dL_faultCause_5 rfl (by decide) rfl ?_
    refine G_bipush C (v := (-104)) dL_faultCause_6 (by decide) ?_
    refine GW.widen (c1 := 1) (s1 := 6) (by decide) (by decide) ?_
    exact G_iret C hr dL_faultCause_8 (Or.inr ⟨hX2, rfl⟩)
  · obtain ⟨r, rfl⟩ := hQ vv G2 hQ2
    refine GW.widen (c1 := 1) (s1 := 6) (by decide) (by decide) ?_
    exact G_iret C hr dL_faultCause_4 (Or.inl hQ2)

abbrev rm_play : Room := ({ frames := 7, cells := 1, slots := 6, locals := 161 } : Room)
set_option maxRecDepth 100000 in
set_option maxHeartbeats 4000000 in
theorem w_play {L : GL} {ad : Nat → Nat} {G : Nat → va_E} {Q : Option Value → (Nat → va_E) → Prop} {X : String → (Nat → va_E) → Prop}  (hM : GX L yX8_play cX8_play 1 ((some .int)) rm_X8_play 40 ad G [.ref (ad 0)] Q X) (h0 : ∃ fs, G 0 = .inr (8, fs)) (hQ : ∀ v G', Q v G' → ∃ r : Int32, v = some (.int r)) (hX : ∀ e G', X e G' → e = eISE) : GH L yL_play cL_play 2 (some .int) [(0, 4, 5, 17)] rm_play 40 ad G [.ref (ad 0)] (fun vo G' => Q vo G' ∨ (X eISE G' ∧ vo = some (.int (-103)))) := by
  refine GH.of (own := RL) (lo := [(0, .ref (ad 0))]) (by decide +kernel) rfl rfl (Nat.le_of_ble_eq_true rfl) (fun E C ht hr => ?_)
  refine G_aload_n C 0 dL_play_0 rfl rfl ?_
  obtain ⟨fs, h0⟩ := h0
  refine G_callVXC C (As := []) (rest := []) hM ca_X8_play km_L_80 (by decide) h0 rfl rfl rfl rfl (by decide) (Nat.le_of_ble_eq_true rfl) (by decide) dL_play_1 (fun e G2 hX2 => ?_) (fun vv G2 hQ2 => ?_)
  · obtain rfl := hX e G2 hX2
    refine ⟨5, ctch1 C ht (by decide) (by decide) kc_L_17 w_castISE, fun q9 => ?_⟩
    refine G_astore_n C 1 (lo' := [(1, .ref q9), (0, .ref (ad 0))]) dL_play_5 rfl (by decide) rfl ?_
    refine G_bipush C (v := (-103)) dL_play_6 (by decide) ?_
    refine GW.widen (c1 := 1) (s1 := 6) (by decide) (by decide) ?_
    exact G_iret C hr dL_play_8 (Or.inr ⟨hX2, rfl⟩)
  · obtain ⟨r, rfl⟩ := hQ vv G2 hQ2
    refine GW.widen (c1 := 1) (s1 := 6) (by decide) (by decide) ?_
    exact G_iret C hr dL_play_4 (Or.inl hQ2)

abbrev rm_undo0 : Room := ({ frames := 7, cells := 1, slots := 6, locals := 161 } : Room)
set_option maxRecDepth 100000 in
set_option maxHeartbeats 4000000 in
theorem w_undo0 {L : GL} {ad : Nat → Nat} {G : Nat → va_E} {Q : Option Value → (Nat → va_E) → Prop} {X : String → (Nat → va_E) → Prop}  (hM : GX L yX8_undo cX8_undo 1 ((some .int)) rm_X8_undo0 40 ad G [.ref (ad 0)] Q X) (h0 : ∃ fs, G 0 = .inr (8, fs)) (hQ : ∀ v G', Q v G' → ∃ r : Int32, v = some (.int r)) (hX : ∀ e G', X e G' → e = eISE) : GH L yL_undo cL_undo 2 (some .int) [(0, 4, 5, 17)] rm_undo0 40 ad G [.ref (ad 0)] (fun vo G' => Q vo G' ∨ (X eISE G' ∧ vo = some (.int (-103)))) := by
  refine GH.of (own := RL) (lo := [(0, .ref (ad 0))]) (by decide +kernel) rfl rfl (Nat.le_of_ble_eq_true rfl) (fun E C ht hr => ?_)
  refine G_aload_n C 0 dL_undo_0 rfl rfl ?_
  obtain ⟨fs, h0⟩ := h0
  refine G_callVXC C (As := []) (rest := []) hM ca_X8_undo km_L_65 (by decide) h0 rfl rfl rfl rfl (by decide) (Nat.le_of_ble_eq_true rfl) (by decide) dL_undo_1 (fun e G2 hX2 => ?_) (fun vv G2 hQ2 => ?_)
  · obtain rfl := hX e G2 hX2
    refine ⟨5, ctch1 C ht (by decide) (by decide) kc_L_17 w_castISE, fun q9 => ?_⟩
    refine G_astore_n C 1 (lo' := [(1, .ref q9), (0, .ref (ad 0))]) dL_undo_5 rfl (by decide) rfl ?_
    refine G_bipush C (v := (-103)) dL_undo_6 (by decide) ?_
    refine GW.widen (c1 := 1) (s1 := 6) (by decide) (by decide) ?_
    exact G_iret C hr dL_undo_8 (Or.inr ⟨hX2, rfl⟩)
  · obtain ⟨r, rfl⟩ := hQ vv G2 hQ2
    refine GW.widen (c1 := 1) (s1 := 6) (by decide) (by decide) ?_
    exact G_iret C hr dL_undo_4 (Or.inl hQ2)

