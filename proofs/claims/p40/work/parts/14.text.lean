abbrev rm_X7_append : Room := ({ frames := 0, cells := 0, slots := 0, locals := 0 } : Room)
set_option maxRecDepth 100000 in
set_option maxHeartbeats 4000000 in
theorem c_X7_append {L : GL} {N : Nat} {ad : Nat → Nat} {G : Nat → va_E} {t tc n : Nat} {od ps rs cs : Int32} {tx : Nat → Int32} {c : Int32} (lt_t : t < N) (lt_tc : tc < N) (gt : G t = .inr (7, [.ref (ad tc), .int (nI n), .int od, .int ps, .int rs, .int cs])) (gtc : G tc = .inl (L.ac 2, 60, .inl tx)) (hn : n < 60) : GM L yX7_append cX7_append 2 ((some .boolean)) rm_X7_append N ad G [.ref (ad t), .int c] (fun vo G' => vo = some (.int 1) ∧ G' t = .inr (7, [.ref (ad tc), .int (nI (n + 1)), .int od, .int ps, .int rs, .int cs]) ∧ G' tc = .inl (L.ac 2, 60, .inl (upd tx n (vp_nar .char c))) ∧ Agr [t, tc] G G') := by
  refine GM.of (own := RX7) (lo := [(0, .ref (ad t)), (1, .int c)]) (by decide +kernel) rfl rfl (Nat.le_of_ble_eq_true rfl) (fun E C hr => ?_)
  have ne_0_1 : t ≠ tc := fun h => by have h9 := gt; rw [h, gtc] at h9; first | cases h9 | simp at h9
  have ne_1_0 : tc ≠ t := Ne.symm ne_0_1
  refine G_aload_n C 0 dX7_append_0 rfl rfl ?_
  refine G_get C t lt_t gt rfl inA7 1 (by decide) rfl kf_X7_15 rfl dX7_append_1 ?_
  refine G_aload_n C 0 dX7_append_4 rfl rfl ?_
  refine G_get C t lt_t gt rfl inA7 0 (by decide) rfl kf_X7_9 rfl dX7_append_5 ?_
  refine G_alen C tc lt_tc 2 gtc rfl (v := 60) rfl dX7_append_8 ?_
  refine G_icmp_lt C 14 dX7_append_9 (by decide) (fun c9 => ?_) (fun c9 => False.elim (by have := (cI_lt (a := n) (b := 60) rfl rfl (by omega) (by omega)).mpr hn; exact c9 this))
  have c9n : n < 60 := (cI_lt (a := n) (b := 60) rfl rfl (by omega) (by omega)).mp c9
  refine G_aload_n C 0 dX7_append_14 rfl rfl ?_
  refine G_get C t lt_t gt rfl inA7 0 (by decide) rfl kf_X7_9 rfl dX7_append_15 ?_
  refine G_aload_n C 0 dX7_append_18 rfl rfl ?_
  refine G_get C t lt_t gt rfl inA7 1 (by decide) rfl kf_X7_15 rfl dX7_append_19 ?_
  refine G_iload_n C 1 dX7_append_22 rfl rfl ?_
  refine G_castN C tc lt_tc n gtc rfl (by omega) (by omega) dX7_append_23 (fun gg1 hh2 aa3 => ?_)
  have AA4 : Agr [tc] G gg1 := aa3.wk (by simp)
  refine G_aload_n C 0 dX7_append_24 rfl rfl ?_
  refine G_dup C dX7_append_25 rfl ?_
  refine G_get C t lt_t ((aa3 t (by simp [ne_0_1])).trans gt) rfl inA7 1 (by decide) rfl kf_X7_15 rfl dX7_append_26 ?_
  refine G_iconst C (v := 1) dX7_append_29 (by decide) ?_
  refine G_iadd C dX7_append_30 ?_
  refine GW.topr (cI_add (a := n) (b := 1) rfl rfl) ?_
  refine G_putp C t lt_t ((aa3 t (by simp [ne_0_1])).trans gt) rfl inA7 tyX7_ok nmX7 1 (by decide) rfl kf_X7_15 rfl rfl rfl (fs' := [.ref (ad tc), .int (nI (n + 1)), .int od, .int ps, .int rs, .int cs]) (Nat.le_of_ble_eq_true rfl) rfl dX7_append_31 (fun gg5 hh6 aa7 => ?_)
  have AA8 : Agr [tc, t] G gg5 := AA4.tr aa7 (by simp) (by simp)
  refine G_iconst C (v := 1) dX7_append_34 (by decide) ?_
  exact G_zret C hr rfl dX7_append_35 ⟨rfl, hh6, ((aa7 tc (by simp [ne_1_0])).trans hh2), (AA8.wk (by simp))⟩

abbrev rm_X7_appendFull : Room := ({ frames := 0, cells := 0, slots := 0, locals := 0 } : Room)
set_option maxRecDepth 100000 in
set_option maxHeartbeats 4000000 in
theorem c_X7_appendFull {L : GL} {N : Nat} {ad : Nat → Nat} {G : Nat → va_E} {t tc : Nat} {od ps rs cs : Int32} {tx : Nat → Int32} {c : Int32} (lt_t : t < N) (lt_tc : tc < N) (gt : G t = .inr (7, [.ref (ad tc), .int 60, .int od, .int ps, .int rs, .int cs])) (gtc : G tc = .inl (L.ac 2, 60, .inl tx))  : GM L yX7_append cX7_append 2 ((some .boolean)) rm_X7_appendFull N ad G [.ref (ad t), .int c] (fun vo G' => vo = some (.int 0) ∧ G = G') := by
  refine GM.of (own := RX7) (lo := [(0, .ref (ad t)), (1, .int c)]) (by decide +kernel) rfl rfl (Nat.le_of_ble_eq_true rfl) (fun E C hr => ?_)
  refine G_aload_n C 0 dX7_append_0 rfl rfl ?_
  refine G_get C t lt_t gt rfl inA7 1 (by decide) rfl kf_X7_15 rfl dX7_append_1 ?_
  refine G_aload_n C 0 dX7_append_4 rfl rfl ?_
  refine G_get C t lt_t gt rfl inA7 0 (by decide) rfl kf_X7_9 rfl dX7_append_5 ?_
  refine G_alen C tc lt_tc 2 gtc rfl (v := 60) rfl dX7_append_8 ?_
  refine G_icmp_lt C 14 dX7_append_9 (by decide) (fun h => absurd h (by decide)) (fun _ => ?_)
  refine G_iconst C (v := 0) dX7_append_12 (by decide) ?_
  exact G_zret C hr rfl dX7_append_13 ⟨rfl, rfl⟩

abbrev rm_X7_characterAt : Room := ({ frames := 0, cells := 0, slots := 0, locals := 0 } : Room)
set_option maxRecDepth 100000 in
set_option maxHeartbeats 4000000 in
theorem c_X7_characterAt {L : GL} {N : Nat} {ad : Nat → Nat} {G : Nat → va_E} {t tc : Nat} {ln od ps rs cs : Int32} {tx : Nat → Int32} {i : Int32} (lt_t : t < N) (lt_tc : tc < N) (gt : G t = .inr (7, [.ref (ad tc), .int ln, .int od, .int ps, .int rs, .int cs])) (gtc : G tc = .inl (L.ac 2, 60, .inl tx)) (htx : ∀ j : Nat, narrow .char (.int (tx j)) = .int (tx j)) : GM L yX7_characterAt cX7_characterAt 2 ((some .char)) rm_X7_characterAt N ad G [.ref (ad t), .int i] (fun vo G' => vo = some (.int (chF tx ln i)) ∧ G = G') := by
  refine GM.of (own := RX7) (lo := [(0, .ref (ad t)), (1, .int i)]) (by decide +kernel) rfl rfl (Nat.le_of_ble_eq_true rfl) (fun E C hr => ?_)
  refine G_iload_n C 1 dX7_characterAt_0 rfl rfl ?_
  refine G_if_lt C 30 dX7_characterAt_1 (by decide) (fun c1 => ?_) (fun c1 => ?_)
  · refine G_iconst C (v := 0) dX7_characterAt_30 (by decide) ?_
    exact G_zret C hr rfl dX7_characterAt_31 ⟨(by simp only [chF, if_pos c1]), rfl⟩
  · refine G_iload_n C 1 dX7_characterAt_4 rfl rfl ?_
    refine G_aload_n C 0 dX7_characterAt_5 rfl rfl ?_
    refine G_get C t lt_t gt rfl inA7 1 (by decide) rfl kf_X7_15 rfl dX7_characterAt_6 ?_
    refine G_icmp_ge C 30 dX7_characterAt_9 (by decide) (fun c9 => ?_) (fun c9 => ?_)
    · refine G_iconst C (v := 0) dX7_characterAt_30 (by decide) ?_
      exact G_zret C hr rfl dX7_characterAt_31 ⟨(by simp only [chF, if_neg c1, if_pos c9]), rfl⟩
    · refine G_iload_n C 1 dX7_characterAt_12 rfl rfl ?_
      refine G_aload_n C 0 dX7_characterAt_13 rfl rfl ?_
      refine G_get C t lt_t gt rfl inA7 0 (by decide) rfl kf_X7_9 rfl dX7_characterAt_14 ?_
      refine G_alen C tc lt_tc 2 gtc rfl (v := 60) rfl dX7_characterAt_17 ?_
      refine G_icmp_ge C 30 dX7_characterAt_18 (by decide) (fun c18 => ?_) (fun c18 => ?_)
      · refine G_iconst C (v := 0) dX7_characterAt_30 (by decide) ?_
        exact G_zret C hr rfl dX7_characterAt_31 ⟨(by simp only [chF, if_neg c1, if_neg c9, if_pos c18]), rfl⟩
      · refine G_aload_n C 0 dX7_characterAt_21 rfl rfl ?_
        refine G_get C t lt_t gt rfl inA7 0 (by decide) rfl kf_X7_9 rfl dX7_characterAt_22 ?_
        refine G_iload_n C 1 dX7_characterAt_25 rfl rfl ?_
        refine G_cald C tc lt_tc gtc (vin (M := 60) rfl (by decide) c1 c18) dX7_characterAt_26 ?_
        refine G_goto C 31 dX7_characterAt_27 (by decide) ?_
        exact G_zret C hr (htx _) dX7_characterAt_31 ⟨(by simp only [chF, if_neg c1, if_neg c9, if_neg c18]), rfl⟩

abbrev rm_X7_isDigit : Room := ({ frames := 1, cells := 0, slots := 0, locals := 21 } : Room)
set_option maxRecDepth 100000 in
set_option maxHeartbeats 4000000 in
theorem c_X7_isDigit {L : GL} {N : Nat} {ad : Nat → Nat} {G : Nat → va_E} {t tc : Nat} {ln od ps rs cs : Int32} {tx : Nat → Int32} {i : Int32} (lt_t : t < N) (lt_tc : tc < N) (gt : G t = .inr (7, [.ref (ad tc), .int ln, .int od, .int ps, .int rs, .int cs])) (gtc : G tc = .inl (L.ac 2, 60, .inl tx)) (htx : ∀ j : Nat, narrow .char (.int (tx j)) = .int (tx j)) : GM L yX7_isDigit cX7_isDigit 3 ((some .boolean)) rm_X7_isDigit N ad G [.ref (ad t), .int i] (fun vo G' => vo = some (.int (dgF (chF tx ln i))) ∧ G = G') := by
  refine GM.of (own := RX7) (lo := [(0, .ref (ad t)), (1, .int i)]) (by decide +kernel) rfl rfl (Nat.le_of_ble_eq_true rfl) (fun E C hr => ?_)
  refine G_aload_n C 0 dX7_isDigit_0 rfl rfl ?_
  refine G_iload_n C 1 dX7_isDigit_1 rfl rfl ?_
  refine G_callV C (As := [.int i]) (rest := []) (c_X7_characterAt lt_t lt_tc gt gtc htx) ca_X7_characterAt km_X7_48 lt_t gt rfl rfl rfl rfl (by decide) (Nat.le_of_ble_eq_true rfl) (by decide) dX7_isDigit_2 (fun vv1 gg2 qq3 => ?_)
  obtain ⟨rfl, rfl⟩ := qq3
  refine G_istore_n C 2 (lo' := [(2, .int (chF tx ln i)), (0, .ref (ad t)), (1, .int i)]) dX7_isDigit_5 rfl (by decide) rfl ?_
  refine G_iload_n C 2 dX7_isDigit_6 rfl rfl ?_
  refine G_bipush C (v := 48) dX7_isDigit_7 (by decide) ?_
  refine G_icmp_lt C 22 dX7_isDigit_9 (by decide) (fun c9 => ?_) (fun c9 => ?_)
  · refine G_iconst C (v := 0) dX7_isDigit_22 (by decide) ?_
    exact G_zret C hr rfl dX7_isDigit_23 ⟨(by simp only [dgF, if_pos c9]), rfl⟩
  · refine G_iload_n C 2 dX7_isDigit_12 rfl rfl ?_
    refine G_bipush C (v := 57) dX7_isDigit_13 (by decide) ?_
    refine G_icmp_gt C 22 dX7_isDigit_15 (by decide) (fun c15 => ?_) (fun c15 => ?_)
    · refine G_iconst C (v := 0) dX7_isDigit_22 (by decide) ?_
      exact G_zret C hr rfl dX7_isDigit_23 ⟨(by simp only [dgF, if_neg c9, if_pos c15]), rfl⟩
    · refine G_iconst C (v := 1) dX7_isDigit_18 (by decide) ?_
      refine G_goto C 23 dX7_isDigit_19 (by decide) ?_
      exact G_zret C hr rfl dX7_isDigit_23 ⟨(by simp only [dgF, if_neg c9, if_neg c15]), rfl⟩

abbrev rm_X7_isOrder : Room := ({ frames := 0, cells := 0, slots := 0, locals := 0 } : Room)
set_option maxRecDepth 100000 in
set_option maxHeartbeats 4000000 in
theorem c_X7_isOrder {L : GL} {N : Nat} {ad : Nat → Nat} {G : Nat → va_E} {c : Int32}    : GM L yX7_isOrder cX7_isOrder 1 ((some .boolean)) rm_X7_isOrder N ad G [.int c] (fun vo G' => vo = some (.int (ioF c)) ∧ G = G') := by
  refine GM.of (own := RX7) (lo := [(0, .int c)]) (by decide +kernel) rfl rfl (Nat.le_of_ble_eq_true rfl) (fun E C hr => ?_)
  refine G_iload_n C 0 dX7_isOrder_0 rfl rfl ?_
  refine G_bipush C (v := 108) dX7_isOrder_1 (by decide) ?_
  refine G_icmp_eq C 24 dX7_isOrder_3 (by decide) (fun c3 => ?_) (fun c3 => ?_)
  · refine G_iconst C (v := 1) dX7_isOrder_24 (by decide) ?_
    refine G_goto C 29 dX7_isOrder_25 (by decide) ?_
    exact G_zret C hr rfl dX7_isOrder_29 ⟨(by simp only [ioF, if_pos c3]), rfl⟩
  · refine G_iload_n C 0 dX7_isOrder_6 rfl rfl ?_
    refine G_bipush C (v := 116) dX7_isOrder_7 (by decide) ?_
    refine G_icmp_eq C 24 dX7_isOrder_9 (by decide) (fun c9 => ?_) (fun c9 => ?_)
    · refine G_iconst C (v := 1) dX7_isOrder_24 (by decide) ?_
      refine G_goto C 29 dX7_isOrder_25 (by decide) ?_
      exact G_zret C hr rfl dX7_isOrder_29 ⟨(by simp only [ioF, if_neg c3, if_pos c9]), rfl⟩
    · refine G_iload_n C 0 dX7_isOrder_12 rfl rfl ?_
      refine G_bipush C (v := 109) dX7_isOrder_13 (by decide) ?_
      refine G_icmp_eq C 24 dX7_isOrder_15 (by decide) (fun c15 => ?_) (fun c15 => ?_)
      · refine G_iconst C (v := 1) dX7_isOrder_24 (by decide) ?_
        refine G_goto C 29 dX7_isOrder_25 (by decide) ?_
        exact G_zret C hr rfl dX7_isOrder_29 ⟨(by simp only [ioF, if_neg c3, if_neg c9, if_pos c15]), rfl⟩
      · refine G_iload_n C 0 dX7_isOrder_18 rfl rfl ?_
        refine G_bipush C (v := 98) dX7_isOrder_19 (by decide) ?_
        refine G_icmp_ne C 28 dX7_isOrder_21 (by decide) (fun c21 => ?_) (fun c21 => ?_)
        · refine G_iconst C (v := 0) dX7_isOrder_28 (by decide) ?_
          exact G_zret C hr rfl dX7_isOrder_29 ⟨(by simp only [ioF, if_neg c3, if_neg c9, if_neg c15, if_neg c21]), rfl⟩
        · refine G_iconst C (v := 1) dX7_isOrder_24 (by decide) ?_
          refine G_goto C 29 dX7_isOrder_25 (by decide) ?_
          exact G_zret C hr rfl dX7_isOrder_29 ⟨(by simp only [ioF, if_neg c3, if_neg c9, if_neg c15, if_pos c21]), rfl⟩

abbrev rm_X7_breaksOffAt : Room := ({ frames := 2, cells := 0, slots := 0, locals := 43 } : Room)
set_option maxRecDepth 100000 in
set_option maxHeartbeats 4000000 in
theorem c_X7_breaksOffAt {L : GL} {N : Nat} {ad : Nat → Nat} {G : Nat → va_E} {t tc p : Nat} {ln od rs cs : Int32} {tx : Nat → Int32} {dg : Int32} (lt_t : t < N) (lt_tc : tc < N) (gt : G t = .inr (7, [.ref (ad tc), .int ln, .int od, .int (nI p), .int rs, .int cs])) (gtc : G tc = .inl (L.ac 2, 60, .inl tx)) (htx : ∀ j : Nat, narrow .char (.int (tx j)) = .int (tx j)) : GM L yX7_breaksOffAt cX7_breaksOffAt 2 ((some .int)) rm_X7_breaksOffAt N ad G [.ref (ad t), .int dg] (fun vo G' => vo = some (.int (bkF tx ln p dg)) ∧ G = G') := by
  refine GM.of (own := RX7) (lo := [(0, .ref (ad t)), (1, .int dg)]) (by decide +kernel) rfl rfl (Nat.le_of_ble_eq_true rfl) (fun E C hr => ?_)
  refine G_aload_n C 0 dX7_breaksOffAt_0 rfl rfl ?_
  refine G_aload_n C 0 dX7_breaksOffAt_1 rfl rfl ?_
  refine G_get C t lt_t gt rfl inA7 3 (by decide) rfl kf_X7_28 rfl dX7_breaksOffAt_2 ?_
  refine G_callV C (As := [.int (nI p)]) (rest := []) (c_X7_characterAt lt_t lt_tc gt gtc htx) ca_X7_characterAt km_X7_48 lt_t gt rfl rfl rfl rfl (by decide) (Nat.le_of_ble_eq_true rfl) (by decide) dX7_breaksOffAt_5 (fun vv1 gg2 qq3 => ?_)
  obtain ⟨rfl, rfl⟩ := qq3
  refine G_callS C (As := [.int (chF tx ln (nI p))]) (rest := []) c_X7_isOrder ca_X7_isOrder km_X7_64 rfl rfl (by decide) (Nat.le_of_ble_eq_true rfl) (by decide) dX7_breaksOffAt_8 (fun vv4 gg5 qq6 => ?_)
  obtain ⟨rfl, rfl⟩ := qq6
  refine G_if_ne C 16 dX7_breaksOffAt_11 (by decide) (fun c11 => ?_) (fun c11 => ?_)
  · refine G_aload_n C 0 dX7_breaksOffAt_16 rfl rfl ?_
    refine G_aload_n C 0 dX7_breaksOffAt_17 rfl rfl ?_
    refine G_get C t lt_t gt rfl inA7 3 (by decide) rfl kf_X7_28 rfl dX7_breaksOffAt_18 ?_
    refine G_iconst C (v := 1) dX7_breaksOffAt_21 (by decide) ?_
    refine G_iadd C dX7_breaksOffAt_22 ?_
    refine GW.topr (cI_add (a := p) (b := 1) rfl rfl) ?_
    refine G_callV C (As := [.int (nI (p + 1))]) (rest := []) (c_X7_isDigit lt_t lt_tc gt gtc htx) ca_X7_isDigit km_X7_40 lt_t gt rfl rfl rfl rfl (by decide) (Nat.le_of_ble_eq_true rfl) (by decide) dX7_breaksOffAt_23 (fun vv7 gg8 qq9 => ?_)
    obtain ⟨rfl, rfl⟩ := qq9
    refine G_if_ne C 31 dX7_breaksOffAt_26 (by decide) (fun c26 => ?_) (fun c26 => ?_)
    · refine G_aload_n C 0 dX7_breaksOffAt_31 rfl rfl ?_
      refine G_aload_n C 0 dX7_breaksOffAt_32 rfl rfl ?_
      refine G_get C t lt_t gt rfl inA7 3 (by decide) rfl kf_X7_28 rfl dX7_breaksOffAt_33 ?_
      refine G_iconst C (v := 1) dX7_breaksOffAt_36 (by decide) ?_
      refine G_iadd C dX7_breaksOffAt_37 ?_
      refine GW.topr (cI_add (a := p) (b := 1) rfl rfl) ?_
      refine G_iload_n C 1 dX7_breaksOffAt_38 rfl rfl ?_
      refine G_iadd C dX7_breaksOffAt_39 ?_
      refine G_callV C (As := [.int ((nI (p + 1)) + dg)]) (rest := []) (c_X7_characterAt lt_t lt_tc gt gtc htx) ca_X7_characterAt km_X7_48 lt_t gt rfl rfl rfl rfl (by decide) (Nat.le_of_ble_eq_true rfl) (by decide) dX7_breaksOffAt_40 (fun vv10 gg11 qq12 => ?_)
      obtain ⟨rfl, rfl⟩ := qq12
      refine G_bipush C (v := 59) dX7_breaksOffAt_43 (by decide) ?_
      refine G_icmp_ne C 52 dX7_breaksOffAt_45 (by decide) (fun c45 => ?_) (fun c45 => ?_)
      · refine G_iconst C (v := 1) dX7_breaksOffAt_52 (by decide) ?_
        refine G_iload_n C 1 dX7_breaksOffAt_53 rfl rfl ?_
        refine G_iadd C dX7_breaksOffAt_54 ?_
        exact G_zret C hr rfl dX7_breaksOffAt_55 ⟨(by simp only [bkF, if_neg c11, if_neg c26, if_neg c45]), rfl⟩
      · refine G_iconst C (v := (-1)) dX7_breaksOffAt_48 (by decide) ?_
        refine G_goto C 55 dX7_breaksOffAt_49 (by decide) ?_
        exact G_zret C hr rfl dX7_breaksOffAt_55 ⟨(by simp only [bkF, if_neg c11, if_neg c26, if_pos c45]), rfl⟩
    · refine G_iconst C (v := 1) dX7_breaksOffAt_29 (by decide) ?_
      exact G_zret C hr rfl dX7_breaksOffAt_30 ⟨(by simp only [bkF, if_neg c11, if_pos c26]), rfl⟩
  · refine G_iconst C (v := 0) dX7_breaksOffAt_14 (by decide) ?_
    exact G_zret C hr rfl dX7_breaksOffAt_15 ⟨(by simp only [bkF, if_pos c11]), rfl⟩

abbrev rm_X7_numberAt1 : Room := ({ frames := 1, cells := 0, slots := 0, locals := 21 } : Room)
set_option maxRecDepth 100000 in
set_option maxHeartbeats 4000000 in
theorem c_X7_numberAt1 {L : GL} {N : Nat} {ad : Nat → Nat} {G : Nat → va_E} {t tc a : Nat} {ln od ps rs cs : Int32} {tx : Nat → Int32} (lt_t : t < N) (lt_tc : tc < N) (gt : G t = .inr (7, [.ref (ad tc), .int ln, .int od, .int ps, .int rs, .int cs])) (gtc : G tc = .inl (L.ac 2, 60, .inl tx)) (ha : a < 1000) (htx : ∀ j : Nat, narrow .char (.int (tx j)) = .int (tx j)) : GM L yX7_numberAt cX7_numberAt 5 ((some .int)) rm_X7_numberAt1 N ad G [.ref (ad t), .int (nI a), .int 1] (fun vo G' => vo = some (.int (nm1F tx ln a)) ∧ G = G') := by
  refine GM.of (own := RX7) (lo := [(0, .ref (ad t)), (1, .int (nI a)), (2, .int 1)]) (by decide +kernel) rfl rfl (Nat.le_of_ble_eq_true rfl) (fun E C hr => ?_)
  refine G_iconst C (v := 0) dX7_numberAt_0 (by decide) ?_
  refine G_istore_n C 3 (lo' := [(3, .int 0), (0, .ref (ad t)), (1, .int (nI a)), (2, .int 1)]) dX7_numberAt_1 rfl (by decide) rfl ?_
  refine G_iload_n C 1 dX7_numberAt_2 rfl rfl ?_
  refine G_istore C (lo' := [(4, .int (nI a)), (3, .int 0), (0, .ref (ad t)), (1, .int (nI a)), (2, .int 1)]) dX7_numberAt_3 (by decide) rfl ?_
  refine G_iload C dX7_numberAt_5 rfl ?_
  refine G_iload_n C 1 dX7_numberAt_7 rfl rfl ?_
  refine G_iload_n C 2 dX7_numberAt_8 rfl rfl ?_
  refine G_iadd C dX7_numberAt_9 ?_
  refine GW.topr (cI_add (a := a) (b := 1) rfl rfl) ?_
  refine G_icmp_ge C 34 dX7_numberAt_10 (by decide) (fun c10 => False.elim (by have := (cI_le (a := a + 1) (b := a) rfl rfl (by omega) (by omega)).mp c10; omega)) (fun c10 => ?_)
  have c10n : ¬ (a + 1) ≤ a := fun z => c10 ((cI_le (a := (a + 1)) (b := a) rfl rfl (by omega) (by omega)).mpr z)
  refine G_iload_n C 3 dX7_numberAt_13 rfl rfl ?_
  refine G_bipush C (v := 10) dX7_numberAt_14 (by decide) ?_
  refine G_imul C dX7_numberAt_16 ?_
  refine GW.topr (y := 0) (by decide) ?_
  refine G_aload_n C 0 dX7_numberAt_17 rfl rfl ?_
  refine G_iload C dX7_numberAt_18 rfl ?_
  refine G_callV C (As := [.int (nI a)]) (rest := [.int 0]) (c_X7_characterAt lt_t lt_tc gt gtc htx) ca_X7_characterAt km_X7_48 lt_t gt rfl rfl rfl rfl (by decide) (Nat.le_of_ble_eq_true rfl) (by decide) dX7_numberAt_20 (fun vv1 gg2 qq3 => ?_)
  obtain ⟨rfl, rfl⟩ := qq3
  refine G_bipush C (v := 48) dX7_numberAt_23 (by decide) ?_
  refine G_isub C dX7_numberAt_25 ?_
  refine G_iadd C dX7_numberAt_26 ?_
  refine G_istore_n C 3 (lo' := [(3, .int (0 + ((chF tx ln (nI a)) - 48))), (4, .int (nI a)), (0, .ref (ad t)), (1, .int (nI a)), (2, .int 1)]) dX7_numberAt_27 rfl (by decide) rfl ?_
  refine G_iinc C (v := nI (a + 1)) (lo' := [(4, .int (nI (a + 1))), (3, .int (0 + ((chF tx ln (nI a)) - 48))), (0, .ref (ad t)), (1, .int (nI a)), (2, .int 1)]) dX7_numberAt_28 rfl (nI_add _ _) (by decide) rfl ?_
  refine G_goto C 5 dX7_numberAt_31 (by decide) ?_
  refine G_iload C dX7_numberAt_5 rfl ?_
  refine G_iload_n C 1 dX7_numberAt_7 rfl rfl ?_
  refine G_iload_n C 2 dX7_numberAt_8 rfl rfl ?_
  refine G_iadd C dX7_numberAt_9 ?_
  refine GW.topr (cI_add (a := a) (b := 1) rfl rfl) ?_
  refine G_icmp_ge C 34 dX7_numberAt_10 (by decide) (fun c10_4 => ?_) (fun c10_4 => False.elim (by exact c10_4 ((cI_le (a := a + 1) (b := a + 1) rfl rfl (by omega) (by omega)).mpr (by omega))))
  have c10_4n : (a + 1) ≤ (a + 1) := (cI_le (a := (a + 1)) (b := (a + 1)) rfl rfl (by omega) (by omega)).mp c10_4
  refine G_iload_n C 3 dX7_numberAt_34 rfl rfl ?_
  exact G_zret C hr rfl dX7_numberAt_35 ⟨rfl, rfl⟩

abbrev rm_X7_numberAt2 : Room := ({ frames := 1, cells := 0, slots := 0, locals := 21 } : Room)
set_option maxRecDepth 100000 in
set_option maxHeartbeats 4000000 in
theorem c_X7_numberAt2 {L : GL} {N : Nat} {ad : Nat → Nat} {G : Nat → va_E} {t tc a : Nat} {ln od ps rs cs : Int32} {tx : Nat → Int32} (lt_t : t < N) (lt_tc : tc < N) (gt : G t = .inr (7, [.ref (ad tc), .int ln, .int od, .int ps, .int rs, .int cs])) (gtc : G tc = .inl (L.ac 2, 60, .inl tx)) (ha : a < 1000) (htx : ∀ j : Nat, narrow .char (.int (tx j)) = .int (tx j)) : GM L yX7_numberAt cX7_numberAt 5 ((some .int)) rm_X7_numberAt2 N ad G [.ref (ad t), .int (nI a), .int 2] (fun vo G' => vo = some (.int (nm2F tx ln a)) ∧ G = G') := by
  refine GM.of (own := RX7) (lo := [(0, .ref (ad t)), (1, .int (nI a)), (2, .int 2)]) (by decide +kernel) rfl rfl (Nat.le_of_ble_eq_true rfl) (fun E C hr => ?_)
  refine G_iconst C (v := 0) dX7_numberAt_0 (by decide) ?_
  refine G_istore_n C 3 (lo' := [(3, .int 0), (0, .ref (ad t)), (1, .int (nI a)), (2, .int 2)]) dX7_numberAt_1 rfl (by decide) rfl ?_
  refine G_iload_n C 1 dX7_numberAt_2 rfl rfl ?_
  refine G_istore C (lo' := [(4, .int (nI a)), (3, .int 0), (0, .ref (ad t)), (1, .int (nI a)), (2, .int 2)]) dX7_numberAt_3 (by decide) rfl ?_
  refine G_iload C dX7_numberAt_5 rfl ?_
  refine G_iload_n C 1 dX7_numberAt_7 rfl rfl ?_
  refine G_iload_n C 2 dX7_numberAt_8 rfl rfl ?_
  refine G_iadd C dX7_numberAt_9 ?_
  refine GW.topr (cI_add (a := a) (b := 2) rfl rfl) ?_
  refine G_icmp_ge C 34 dX7_numberAt_10 (by decide) (fun c10 => False.elim (by have := (cI_le (a := a + 2) (b := a) rfl rfl (by omega) (by omega)).mp c10; omega)) (fun c10 => ?_)
  have c10n : ¬ (a + 2) ≤ a := fun z => c10 ((cI_le (a := (a + 2)) (b := a) rfl rfl (by omega) (by omega)).mpr z)
  refine G_iload_n C 3 dX7_numberAt_13 rfl rfl ?_
  refine G_bipush C (v := 10) dX7_numberAt_14 (by decide) ?_
  refine G_imul C dX7_numberAt_16 ?_
  refine GW.topr (y := 0) (by decide) ?_
  refine G_aload_n C 0 dX7_numberAt_17 rfl rfl ?_
  refine G_iload C dX7_numberAt_18 rfl ?_
  refine G_callV C (As := [.int (nI a)]) (rest := [.int 0]) (c_X7_characterAt lt_t lt_tc gt gtc htx) ca_X7_characterAt km_X7_48 lt_t gt rfl rfl rfl rfl (by decide) (Nat.le_of_ble_eq_true rfl) (by decide) dX7_numberAt_20 (fun vv1 gg2 qq3 => ?_)
  obtain ⟨rfl, rfl⟩ := qq3
  refine G_bipush C (v := 48) dX7_numberAt_23 (by decide) ?_
  refine G_isub C dX7_numberAt_25 ?_
  refine G_iadd C dX7_numberAt_26 ?_
  refine G_istore_n C 3 (lo' := [(3, .int (0 + ((chF tx ln (nI a)) - 48))), (4, .int (nI a)), (0, .ref (ad t)), (1, .int (nI a)), (2, .int 2)]) dX7_numberAt_27 rfl (by decide) rfl ?_
  refine G_iinc C (v := nI (a + 1)) (lo' := [(4, .int (nI (a + 1))), (3, .int (0 + ((chF tx ln (nI a)) - 48))), (0, .ref (ad t)), (1, .int (nI a)), (2, .int 2)]) dX7_numberAt_28 rfl (nI_add _ _) (by decide) rfl ?_
  refine G_goto C 5 dX7_numberAt_31 (by decide) ?_
  refine G_iload C dX7_numberAt_5 rfl ?_
  refine G_iload_n C 1 dX7_numberAt_7 rfl rfl ?_
  refine G_iload_n C 2 dX7_numberAt_8 rfl rfl ?_
  refine G_iadd C dX7_numberAt_9 ?_
  refine GW.topr (cI_add (a := a) (b := 2) rfl rfl) ?_
  refine G_icmp_ge C 34 dX7_numberAt_10 (by decide) (fun c10_4 => False.elim (by have := (cI_le (a := a + 2) (b := a + 1) rfl rfl (by omega) (by omega)).mp c10_4; omega)) (fun c10_4 => ?_)
  have c10_4n : ¬ (a + 2) ≤ (a + 1) := fun z => c10_4 ((cI_le (a := (a + 2)) (b := (a + 1)) rfl rfl (by omega) (by omega)).mpr z)
  refine G_iload_n C 3 dX7_numberAt_13 rfl rfl ?_
  refine G_bipush C (v := 10) dX7_numberAt_14 (by decide) ?_
  refine G_imul C dX7_numberAt_16 ?_
  refine G_aload_n C 0 dX7_numberAt_17 rfl rfl ?_
  refine G_iload C dX7_numberAt_18 rfl ?_
  refine G_callV C (As := [.int (nI (a + 1))]) (rest := [.int ((0 + ((chF tx ln (nI a)) - 48)) * 10)]) (c_X7_characterAt lt_t lt_tc gt gtc htx) ca_X7_characterAt km_X7_48 lt_t gt rfl rfl rfl rfl (by decide) (Nat.le_of_ble_eq_true rfl) (by decide) dX7_numberAt_20 (fun vv5 gg6 qq7 => ?_)
  obtain ⟨rfl, rfl⟩ := qq7
  refine G_bipush C (v := 48) dX7_numberAt_23 (by decide) ?_
  refine G_isub C dX7_numberAt_25 ?_
  refine G_iadd C dX7_numberAt_26 ?_
  refine G_istore_n C 3 (lo' := [(3, .int (((0 + ((chF tx ln (nI a)) - 48)) * 10) + ((chF tx ln (nI (a + 1))) - 48))), (4, .int (nI (a + 1))), (0, .ref (ad t)), (1, .int (nI a)), (2, .int 2)]) dX7_numberAt_27 rfl (by decide) rfl ?_
  refine G_iinc C (v := nI ((a + 1) + 1)) (lo' := [(4, .int (nI ((a + 1) + 1))), (3, .int (((0 + ((chF tx ln (nI a)) - 48)) * 10) + ((chF tx ln (nI (a + 1))) - 48))), (0, .ref (ad t)), (1, .int (nI a)), (2, .int 2)]) dX7_numberAt_28 rfl (nI_add _ _) (by decide) rfl ?_
  refine G_goto C 5 dX7_numberAt_31 (by decide) ?_
  refine G_iload C dX7_numberAt_5 rfl ?_
  refine G_iload_n C 1 dX7_numberAt_7 rfl rfl ?_
  refine G_iload_n C 2 dX7_numberAt_8 rfl rfl ?_
  refine G_iadd C dX7_numberAt_9 ?_
  refine GW.topr (cI_add (a := a) (b := 2) rfl rfl) ?_
  refine G_icmp_ge C 34 dX7_numberAt_10 (by decide) (fun c10_8 => ?_) (fun c10_8 => False.elim (by exact c10_8 ((cI_le (a := a + 2) (b := a + 1 + 1) rfl rfl (by omega) (by omega)).mpr (by omega))))
  have c10_8n : (a + 2) ≤ ((a + 1) + 1) := (cI_le (a := (a + 2)) (b := ((a + 1) + 1)) rfl rfl (by omega) (by omega)).mp c10_8
  refine G_iload_n C 3 dX7_numberAt_34 rfl rfl ?_
  exact G_zret C hr rfl dX7_numberAt_35 ⟨rfl, rfl⟩

abbrev rm_X7_readOrder : Room := ({ frames := 3, cells := 0, slots := 0, locals := 66 } : Room)
set_option maxRecDepth 100000 in
set_option maxHeartbeats 4000000 in
theorem c_X7_readOrder {L : GL} {N : Nat} {ad : Nat → Nat} {G : Nat → va_E} {t tc k r ha p : Nat} {rt rp rx ry rg : Nat} {ln od rs cs l ml : Int32} {tx f : Nat → Int32} (lt_t : t < N) (lt_tc : tc < N) (lt_k : k < N) (lt_ha : ha < N) (lt_r : r < N) (lt_rp : rp < N) (lt_rg : rg < N) (gt : G t = .inr (7, [.ref (ad tc), .int ln, .int od, .int (nI p), .int rs, .int cs])) (gtc : G tc = .inl (L.ac 2, 60, .inl tx)) (gk : G k = .inr (5, [.ref (ad r), .ref (ad ha), .int l, .int ml])) (gh : G ha = .inl (L.ac 0, 61, .inl f)) (gr : G r = .inr (4, [.ref (ad rt), .ref (ad rp), .ref (ad rx), .ref (ad ry), .ref (ad rg)])) (grp : G rp = .inl (L.ac 0, 61, .inl tPer)) (grg : G rg = .inl (L.ac 0, 61, .inl tGp)) (hp : p < 900) (htx : ∀ j : Nat, narrow .char (.int (tx j)) = .int (tx j)) : GM L yX7_readOrder cX7_readOrder 6 (none) rm_X7_readOrder N ad G [.ref (ad t), .ref (ad k)] (fun vo G' => vo = none ∧ G' t = .inr (7, [.ref (ad tc), .int ln, .int ((rdF tx ln (od, p, rs, cs, f, l, ml)).1), .int (nI (rdF tx ln (od, p, rs, cs, f, l, ml)).2.1), .int ((rdF tx ln (od, p, rs, cs, f, l, ml)).2.2.1), .int ((rdF tx ln (od, p, rs, cs, f, l, ml)).2.2.2.1)]) ∧ G' k = .inr (5, [.ref (ad r), .ref (ad ha), .int ((rdF tx ln (od, p, rs, cs, f, l, ml)).2.2.2.2.2.1), .int ((rdF tx ln (od, p, rs, cs, f, l, ml)).2.2.2.2.2.2)]) ∧ G' ha = .inl (L.ac 0, 61, .inl ((rdF tx ln (od, p, rs, cs, f, l, ml)).2.2.2.2.1)) ∧ Agr [t, k, ha] G G') := by
  refine GM.of (own := RX7) (lo := [(0, .ref (ad t)), (1, .ref (ad k))]) (by decide +kernel) rfl rfl (Nat.le_of_ble_eq_true rfl) (fun E C hr => ?_)
  have ne_0_1 : t ≠ tc := fun h => by have h9 := gt; rw [h, gtc] at h9; first | cases h9 | simp at h9
  have ne_0_2 : t ≠ k := fun h => by have h9 := gt; rw [h, gk] at h9; first | cases h9 | simp at h9
  have ne_0_3 : t ≠ ha := fun h => by have h9 := gt; rw [h, gh] at h9; first | cases h9 | simp at h9
  have ne_0_4 : t ≠ r := fun h => by have h9 := gt; rw [h, gr] at h9; first | cases h9 | simp at h9
  have ne_0_5 : t ≠ rp := fun h => by have h9 := gt; rw [h, grp] at h9; first | cases h9 | simp at h9
  have ne_0_6 : t ≠ rg := fun h => by have h9 := gt; rw [h, grg] at h9; first | cases h9 | simp at h9
  have ne_1_2 : tc ≠ k := fun h => by have h9 := gtc; rw [h, gk] at h9; first | cases h9 | simp at h9
  have ne_1_3 : tc ≠ ha := fun h => by have h9 := gtc; rw [h, gh] at h9; first | cases h9 | simp at h9
  have ne_2_4 : k ≠ r := fun h => by have h9 := gk; rw [h, gr] at h9; first | cases h9 | simp at h9
  have ne_2_5 : k ≠ rp := fun h => by have h9 := gk; rw [h, grp] at h9; first | cases h9 | simp at h9
  have ne_2_6 : k ≠ rg := fun h => by have h9 := gk; rw [h, grg] at h9; first | cases h9 | simp at h9
  have ne_3_4 : ha ≠ r := fun h => by have h9 := gh; rw [h, gr] at h9; first | cases h9 | simp at h9
  have ne_1_0 : tc ≠ t := Ne.symm ne_0_1
  have ne_2_0 : k ≠ t := Ne.symm ne_0_2
  have ne_3_0 : ha ≠ t := Ne.symm ne_0_3
  have ne_4_0 : r ≠ t := Ne.symm ne_0_4
  have ne_4_2 : r ≠ k := Ne.symm ne_2_4
  have ne_4_3 : r ≠ ha := Ne.symm ne_3_4
  have ne_5_0 : rp ≠ t := Ne.symm ne_0_5
  have ne_5_2 : rp ≠ k := Ne.symm ne_2_5
  have ne_6_0 : rg ≠ t := Ne.symm ne_0_6
  have ne_6_2 : rg ≠ k := Ne.symm ne_2_6
  refine G_aload_n C 0 dX7_readOrder_0 rfl rfl ?_
  refine G_aload_n C 0 dX7_readOrder_1 rfl rfl ?_
  refine G_get C t lt_t gt rfl inA7 3 (by decide) rfl kf_X7_28 rfl dX7_readOrder_2 ?_
  refine G_iconst C (v := 2) dX7_readOrder_5 (by decide) ?_
  refine G_iadd C dX7_readOrder_6 ?_
  refine GW.topr (cI_add (a := p) (b := 2) rfl rfl) ?_
  refine G_callV C (As := [.int (nI (p + 2))]) (rest := []) (c_X7_isDigit lt_t lt_tc gt gtc htx) ca_X7_isDigit km_X7_40 lt_t gt rfl rfl rfl rfl (by decide) (Nat.le_of_ble_eq_true rfl) (by decide) dX7_readOrder_7 (fun vv1 gg2 qq3 => ?_)
  obtain ⟨rfl, rfl⟩ := qq3
  refine G_if_eq C 17 dX7_readOrder_10 (by decide) (fun c10 => ?_) (fun c10 => ?_)
  · refine G_iconst C (v := 1) dX7_readOrder_17 (by decide) ?_
    refine G_istore_n C 2 (lo' := [(2, .int 1), (0, .ref (ad t)), (1, .ref (ad k))]) dX7_readOrder_18 rfl (by decide) rfl ?_
    refine G_aload_n C 0 dX7_readOrder_19 rfl rfl ?_
    refine G_iload_n C 2 dX7_readOrder_20 rfl rfl ?_
    refine G_callV C (As := [.int 1]) (rest := []) (c_X7_breaksOffAt lt_t lt_tc gt gtc htx) ca_X7_breaksOffAt km_X7_44 lt_t gt rfl rfl rfl rfl (by decide) (Nat.le_of_ble_eq_true rfl) (by decide) dX7_readOrder_21 (fun vv4 gg5 qq6 => ?_)
    obtain ⟨rfl, rfl⟩ := qq6
    refine G_istore_n C 3 (lo' := [(3, .int (bkF tx ln p 1)), (2, .int 1), (0, .ref (ad t)), (1, .ref (ad k))]) dX7_readOrder_24 rfl (by decide) rfl ?_
    refine G_iload_n C 3 dX7_readOrder_25 rfl rfl ?_
    refine G_iconst C (v := (-1)) dX7_readOrder_26 (by decide) ?_
    refine G_icmp_eq C 41 dX7_readOrder_27 (by decide) (fun c27 => ?_) (fun c27 => ?_)
    · refine G_aload_n C 0 dX7_readOrder_41 rfl rfl ?_
      refine G_aload_n C 0 dX7_readOrder_42 rfl rfl ?_
      refine G_get C t lt_t gt rfl inA7 3 (by decide) rfl kf_X7_28 rfl dX7_readOrder_43 ?_
      refine G_callV C (As := [.int (nI p)]) (rest := []) (c_X7_characterAt lt_t lt_tc gt gtc htx) ca_X7_characterAt km_X7_48 lt_t gt rfl rfl rfl rfl (by decide) (Nat.le_of_ble_eq_true rfl) (by decide) dX7_readOrder_46 (fun vv7 gg8 qq9 => ?_)
      obtain ⟨rfl, rfl⟩ := qq9
      refine G_istore C (lo' := [(4, .int (chF tx ln (nI p))), (3, .int (bkF tx ln p 1)), (2, .int 1), (0, .ref (ad t)), (1, .ref (ad k))]) dX7_readOrder_49 (by decide) rfl ?_
      refine G_aload_n C 0 dX7_readOrder_51 rfl rfl ?_
      refine G_aload_n C 0 dX7_readOrder_52 rfl rfl ?_
      refine G_get C t lt_t gt rfl inA7 3 (by decide) rfl kf_X7_28 rfl dX7_readOrder_53 ?_
      refine G_iconst C (v := 1) dX7_readOrder_56 (by decide) ?_
      refine G_iadd C dX7_readOrder_57 ?_
      refine GW.topr (cI_add (a := p) (b := 1) rfl rfl) ?_
      refine G_iload_n C 2 dX7_readOrder_58 rfl rfl ?_
      refine G_callV C (As := [.int (nI (p + 1)), .int 1]) (rest := []) (c_X7_numberAt1 lt_t lt_tc gt gtc (by omega) htx) ca_X7_numberAt km_X7_52 lt_t gt rfl rfl rfl rfl (by decide) (Nat.le_of_ble_eq_true rfl) (by decide) dX7_readOrder_59 (fun vv10 gg11 qq12 => ?_)
      obtain ⟨rfl, rfl⟩ := qq12
      refine G_istore C (lo' := [(5, .int (nm1F tx ln (p + 1))), (4, .int (chF tx ln (nI p))), (3, .int (bkF tx ln p 1)), (2, .int 1), (0, .ref (ad t)), (1, .ref (ad k))]) dX7_readOrder_62 (by decide) rfl ?_
      refine G_aload_n C 0 dX7_readOrder_64 rfl rfl ?_
      refine G_aload_n C 1 dX7_readOrder_65 rfl rfl ?_
      refine G_iload C dX7_readOrder_66 rfl ?_
      refine G_iload C dX7_readOrder_68 rfl ?_
      refine G_callV C (As := [.int (chF tx ln (nI p)), .int (nm1F tx ln (p + 1))]) (rest := [.ref (ad t)]) (c_X5_causeAgainst lt_k lt_ha lt_r lt_rp lt_rg gk gh gr grp grg) ca_X5_causeAgainst km_X7_56 lt_k gk rfl rfl rfl rfl (by decide) (Nat.le_of_ble_eq_true rfl) (by decide) dX7_readOrder_70 (fun vv13 gg14 qq15 => ?_)
      obtain ⟨rfl, rfl⟩ := qq15
      refine G_putp C t lt_t gt rfl inA7 tyX7_ok nmX7 5 (by decide) rfl kf_X7_34 rfl rfl rfl (fs' := [.ref (ad tc), .int ln, .int od, .int (nI p), .int rs, .int (causeF f l (chF tx ln (nI p)) (nm1F tx ln (p + 1)))]) (Nat.le_of_ble_eq_true rfl) rfl dX7_readOrder_73 (fun gg16 hh17 aa18 => ?_)
      have AA19 : Agr [t] G gg16 := aa18.wk (by simp)
      refine G_aload_n C 0 dX7_readOrder_76 rfl rfl ?_
      refine G_get C t lt_t hh17 rfl inA7 5 (by decide) rfl kf_X7_34 rfl dX7_readOrder_77 ?_
      refine G_if_eq C 89 dX7_readOrder_80 (by decide) (fun c80 => ?_) (fun c80 => ?_)
      · refine G_aload_n C 1 dX7_readOrder_89 rfl rfl ?_
        refine G_iload C dX7_readOrder_90 rfl ?_
        refine G_iload C dX7_readOrder_92 rfl ?_
        refine G_callV C (As := [.int (chF tx ln (nI p)), .int (nm1F tx ln (p + 1))]) (rest := []) (c_X5_carryOut lt_k lt_ha ((aa18 k (by simp [ne_2_0])).trans gk) ((aa18 ha (by simp [ne_3_0])).trans gh)) ca_X5_carryOut km_X7_60 lt_k ((aa18 k (by simp [ne_2_0])).trans gk) rfl rfl rfl rfl (by decide) (Nat.le_of_ble_eq_true rfl) (by decide) dX7_readOrder_94 (fun vv20 gg21 qq22 => ?_)
        obtain ⟨rfl, hh23, hh24, aa25⟩ := qq22
        have AA26 : Agr [t, k, ha] G gg21 := AA19.tr aa25 (by simp) (by simp)
        refine G_aload_n C 0 dX7_readOrder_97 rfl rfl ?_
        refine G_dup C dX7_readOrder_98 rfl ?_
        refine G_get C t lt_t ((aa25 t (by simp [ne_0_2, ne_0_3])).trans hh17) rfl inA7 2 (by decide) rfl kf_X7_25 rfl dX7_readOrder_99 ?_
        refine G_iconst C (v := 1) dX7_readOrder_102 (by decide) ?_
        refine G_iadd C dX7_readOrder_103 ?_
        refine G_putp C t lt_t ((aa25 t (by simp [ne_0_2, ne_0_3])).trans hh17) rfl inA7 tyX7_ok nmX7 2 (by decide) rfl kf_X7_25 rfl rfl rfl (fs' := [.ref (ad tc), .int ln, .int (od + 1), .int (nI p), .int rs, .int (causeF f l (chF tx ln (nI p)) (nm1F tx ln (p + 1)))]) (Nat.le_of_ble_eq_true rfl) rfl dX7_readOrder_104 (fun gg27 hh28 aa29 => ?_)
        have AA30 : Agr [t, k, ha] G gg27 := AA26.tr aa29 (by simp) (by simp)
        refine G_aload_n C 0 dX7_readOrder_107 rfl rfl ?_
        refine G_dup C dX7_readOrder_108 rfl ?_
        refine G_get C t lt_t hh28 rfl inA7 3 (by decide) rfl kf_X7_28 rfl dX7_readOrder_109 ?_
        refine G_iload_n C 2 dX7_readOrder_112 rfl rfl ?_
        refine G_iconst C (v := 2) dX7_readOrder_113 (by decide) ?_
        refine G_iadd C dX7_readOrder_114 ?_
        refine GW.topr (y := 3) (by decide) ?_
        refine G_iadd C dX7_readOrder_115 ?_
        refine GW.topr (cI_add (a := p) (b := 3) rfl rfl) ?_
        refine G_putp C t lt_t hh28 rfl inA7 tyX7_ok nmX7 3 (by decide) rfl kf_X7_28 rfl rfl rfl (fs' := [.ref (ad tc), .int ln, .int (od + 1), .int (nI (p + 3)), .int rs, .int (causeF f l (chF tx ln (nI p)) (nm1F tx ln (p + 1)))]) (Nat.le_of_ble_eq_true rfl) rfl dX7_readOrder_116 (fun gg31 hh32 aa33 => ?_)
        have AA34 : Agr [t, k, ha] G gg31 := AA30.tr aa33 (by simp) (by simp)
        exact G_vret C hr dX7_readOrder_119 ⟨rfl, (by rw [hh32]; simp only [rdF, orF, if_pos c10, if_pos c27, if_pos c80]), (by rw [((aa33 k (by simp [ne_2_0])).trans ((aa29 k (by simp [ne_2_0])).trans hh23))]; simp only [rdF, orF, if_pos c10, if_pos c27, if_pos c80]), (by rw [((aa33 ha (by simp [ne_3_0])).trans ((aa29 ha (by simp [ne_3_0])).trans hh24))]; simp only [rdF, orF, if_pos c10, if_pos c27, if_pos c80]), AA34⟩
      · refine G_aload_n C 0 dX7_readOrder_83 rfl rfl ?_
        refine G_iconst C (v := 2) dX7_readOrder_84 (by decide) ?_
        refine G_putp C t lt_t hh17 rfl inA7 tyX7_ok nmX7 4 (by decide) rfl kf_X7_31 rfl rfl rfl (fs' := [.ref (ad tc), .int ln, .int od, .int (nI p), .int 2, .int (causeF f l (chF tx ln (nI p)) (nm1F tx ln (p + 1)))]) (Nat.le_of_ble_eq_true rfl) rfl dX7_readOrder_85 (fun gg35 hh36 aa37 => ?_)
        have AA38 : Agr [t] G gg35 := AA19.tr aa37 (by simp) (by simp)
        exact G_vret C hr dX7_readOrder_88 ⟨rfl, (by rw [hh36]; simp only [rdF, orF, if_pos c10, if_pos c27, if_neg c80]), (by rw [((aa37 k (by simp [ne_2_0])).trans ((aa18 k (by simp [ne_2_0])).trans gk))]; simp only [rdF, orF, if_pos c10, if_pos c27, if_neg c80]), (by rw [((aa37 ha (by simp [ne_3_0])).trans ((aa18 ha (by simp [ne_3_0])).trans gh))]; simp only [rdF, orF, if_pos c10, if_pos c27, if_neg c80]), (AA38.wk (by simp))⟩
    · refine G_aload_n C 0 dX7_readOrder_30 rfl rfl ?_
      refine G_iconst C (v := 1) dX7_readOrder_31 (by decide) ?_
      refine G_putp C t lt_t gt rfl inA7 tyX7_ok nmX7 4 (by decide) rfl kf_X7_31 rfl rfl rfl (fs' := [.ref (ad tc), .int ln, .int od, .int (nI p), .int 1, .int cs]) (Nat.le_of_ble_eq_true rfl) rfl dX7_readOrder_32 (fun gg39 hh40 aa41 => ?_)
      have AA42 : Agr [t] G gg39 := aa41.wk (by simp)
      refine G_aload_n C 0 dX7_readOrder_35 rfl rfl ?_
      refine G_iload_n C 3 dX7_readOrder_36 rfl rfl ?_
      refine G_putp C t lt_t hh40 rfl inA7 tyX7_ok nmX7 5 (by decide) rfl kf_X7_34 rfl rfl rfl (fs' := [.ref (ad tc), .int ln, .int od, .int (nI p), .int 1, .int (bkF tx ln p 1)]) (Nat.le_of_ble_eq_true rfl) rfl dX7_readOrder_37 (fun gg43 hh44 aa45 => ?_)
      have AA46 : Agr [t] G gg43 := AA42.tr aa45 (by simp) (by simp)
      exact G_vret C hr dX7_readOrder_40 ⟨rfl, (by rw [hh44]; simp only [rdF, orF, if_pos c10, if_neg c27]), (by rw [((aa45 k (by simp [ne_2_0])).trans ((aa41 k (by simp [ne_2_0])).trans gk))]; simp only [rdF, orF, if_pos c10, if_neg c27]), (by rw [((aa45 ha (by simp [ne_3_0])).trans ((aa41 ha (by simp [ne_3_0])).trans gh))]; simp only [rdF, orF, if_pos c10, if_neg c27]), (AA46.wk (by simp))⟩
  · refine G_iconst C (v := 2) dX7_readOrder_13 (by decide) ?_
    refine G_goto C 18 dX7_readOrder_14 (by decide) ?_
    refine G_istore_n C 2 (lo' := [(2, .int 2), (0, .ref (ad t)), (1, .ref (ad k))]) dX7_readOrder_18 rfl (by decide) rfl ?_
    refine G_aload_n C 0 dX7_readOrder_19 rfl rfl ?_
    refine G_iload_n C 2 dX7_readOrder_20 rfl rfl ?_
    refine G_callV C (As := [.int 2]) (rest := []) (c_X7_breaksOffAt lt_t lt_tc gt gtc htx) ca_X7_breaksOffAt km_X7_44 lt_t gt rfl rfl rfl rfl (by decide) (Nat.le_of_ble_eq_true rfl) (by decide) dX7_readOrder_21 (fun vv47 gg48 qq49 => ?_)
    obtain ⟨rfl, rfl⟩ := qq49
    refine G_istore_n C 3 (lo' := [(3, .int (bkF tx ln p 2)), (2, .int 2), (0, .ref (ad t)), (1, .ref (ad k))]) dX7_readOrder_24 rfl (by decide) rfl ?_
    refine G_iload_n C 3 dX7_readOrder_25 rfl rfl ?_
    refine G_iconst C (v := (-1)) dX7_readOrder_26 (by decide) ?_
    refine G_icmp_eq C 41 dX7_readOrder_27 (by decide) (fun c27 => ?_) (fun c27 => ?_)
    · refine G_aload_n C 0 dX7_readOrder_41 rfl rfl ?_
      refine G_aload_n C 0 dX7_readOrder_42 rfl rfl ?_
      refine G_get C t lt_t gt rfl inA7 3 (by decide) rfl kf_X7_28 rfl dX7_readOrder_43 ?_
      refine G_callV C (As := [.int (nI p)]) (rest := []) (c_X7_characterAt lt_t lt_tc gt gtc htx) ca_X7_characterAt km_X7_48 lt_t gt rfl rfl rfl rfl (by decide) (Nat.le_of_ble_eq_true rfl) (by decide) dX7_readOrder_46 (fun vv50 gg51 qq52 => ?_)
      obtain ⟨rfl, rfl⟩ := qq52
      refine G_istore C (lo' := [(4, .int (chF tx ln (nI p))), (3, .int (bkF tx ln p 2)), (2, .int 2), (0, .ref (ad t)), (1, .ref (ad k))]) dX7_readOrder_49 (by decide) rfl ?_
      refine G_aload_n C 0 dX7_readOrder_51 rfl rfl ?_
      refine G_aload_n C 0 dX7_readOrder_52 rfl rfl ?_
      refine G_get C t lt_t gt rfl inA7 3 (by decide) rfl kf_X7_28 rfl dX7_readOrder_53 ?_
      refine G_iconst C (v := 1) dX7_readOrder_56 (by decide) ?_
      refine G_iadd C dX7_readOrder_57 ?_
      refine GW.topr (cI_add (a := p) (b := 1) rfl rfl) ?_
      refine G_iload_n C 2 dX7_readOrder_58 rfl rfl ?_
      refine G_callV C (As := [.int (nI (p + 1)), .int 2]) (rest := []) (c_X7_numberAt2 lt_t lt_tc gt gtc (by omega) htx) ca_X7_numberAt km_X7_52 lt_t gt rfl rfl rfl rfl (by decide) (Nat.le_of_ble_eq_true rfl) (by decide) dX7_readOrder_59 (fun vv53 gg54 qq55 => ?_)
      obtain ⟨rfl, rfl⟩ := qq55
      refine G_istore C (lo' := [(5, .int (nm2F tx ln (p + 1))), (4, .int (chF tx ln (nI p))), (3, .int (bkF tx ln p 2)), (2, .int 2), (0, .ref (ad t)), (1, .ref (ad k))]) dX7_readOrder_62 (by decide) rfl ?_
      refine G_aload_n C 0 dX7_readOrder_64 rfl rfl ?_
      refine G_aload_n C 1 dX7_readOrder_65 rfl rfl ?_
      refine G_iload C dX7_readOrder_66 rfl ?_
      refine G_iload C dX7_readOrder_68 rfl ?_
      refine G_callV C (As := [.int (chF tx ln (nI p)), .int (nm2F tx ln (p + 1))]) (rest := [.ref (ad t)]) (c_X5_causeAgainst lt_k lt_ha lt_r lt_rp lt_rg gk gh gr grp grg) ca_X5_causeAgainst km_X7_56 lt_k gk rfl rfl rfl rfl (by decide) (Nat.le_of_ble_eq_true rfl) (by decide) dX7_readOrder_70 (fun vv56 gg57 qq58 => ?_)
      obtain ⟨rfl, rfl⟩ := qq58
      refine G_putp C t lt_t gt rfl inA7 tyX7_ok nmX7 5 (by decide) rfl kf_X7_34 rfl rfl rfl (fs' := [.ref (ad tc), .int ln, .int od, .int (nI p), .int rs, .int (causeF f l (chF tx ln (nI p)) (nm2F tx ln (p + 1)))]) (Nat.le_of_ble_eq_true rfl) rfl dX7_readOrder_73 (fun gg59 hh60 aa61 => ?_)
      have AA62 : Agr [t] G gg59 := aa61.wk (by simp)
      refine G_aload_n C 0 dX7_readOrder_76 rfl rfl ?_
      refine G_get C t lt_t hh60 rfl inA7 5 (by decide) rfl kf_X7_34 rfl dX7_readOrder_77 ?_
      refine G_if_eq C 89 dX7_readOrder_80 (by decide) (fun c80 => ?_) (fun c80 => ?_)
      · refine G_aload_n C 1 dX7_readOrder_89 rfl rfl ?_
        refine G_iload C dX7_readOrder_90 rfl ?_
        refine G_iload C dX7_readOrder_92 rfl ?_
        refine G_callV C (As := [.int (chF tx ln (nI p)), .int (nm2F tx ln (p + 1))]) (rest := []) (c_X5_carryOut lt_k lt_ha ((aa61 k (by simp [ne_2_0])).trans gk) ((aa61 ha (by simp [ne_3_0])).trans gh)) ca_X5_carryOut km_X7_60 lt_k ((aa61 k (by simp [ne_2_0])).trans gk) rfl rfl rfl rfl (by decide) (Nat.le_of_ble_eq_true rfl) (by decide) dX7_readOrder_94 (fun vv63 gg64 qq65 => ?_)
        obtain ⟨rfl, hh66, hh67, aa68⟩ := qq65
        have AA69 : Agr [t, k, ha] G gg64 := AA62.tr aa68 (by simp) (by simp)
        refine G_aload_n C 0 dX7_readOrder_97 rfl rfl ?_
        refine G_dup C dX7_readOrder_98 rfl ?_
        refine G_get C t lt_t ((aa68 t (by simp [ne_0_2, ne_0_3])).trans hh60) rfl inA7 2 (by decide) rfl kf_X7_25 rfl dX7_readOrder_99 ?_
        refine G_iconst C (v := 1) dX7_readOrder_102 (by decide) ?_
        refine G_iadd C dX7_readOrder_103 ?_
        refine G_putp C t lt_t ((aa68 t (by simp [ne_0_2, ne_0_3])).trans hh60) rfl inA7 tyX7_ok nmX7 2 (by decide) rfl kf_X7_25 rfl rfl rfl (fs' := [.ref (ad tc), .int ln, .int (od + 1), .int (nI p), .int rs, .int (causeF f l (chF tx ln (nI p)) (nm2F tx ln (p + 1)))]) (Nat.le_of_ble_eq_true rfl) rfl dX7_readOrder_104 (fun gg70 hh71 aa72 => ?_)
        have AA73 : Agr [t, k, ha] G gg70 := AA69.tr aa72 (by simp) (by simp)
        refine G_aload_n C 0 dX7_readOrder_107 rfl rfl ?_
        refine G_dup C dX7_readOrder_108 rfl ?_
        refine G_get C t lt_t hh71 rfl inA7 3 (by decide) rfl kf_X7_28 rfl dX7_readOrder_109 ?_
        refine G_iload_n C 2 dX7_readOrder_112 rfl rfl ?_
        refine G_iconst C (v := 2) dX7_readOrder_113 (by decide) ?_
        refine G_iadd C dX7_readOrder_114 ?_
        refine GW.topr (y := 4) (by decide) ?_
        refine G_iadd C dX7_readOrder_115 ?_
        refine GW.topr (cI_add (a := p) (b := 4) rfl rfl) ?_
        refine G_putp C t lt_t hh71 rfl inA7 tyX7_ok nmX7 3 (by decide) rfl kf_X7_28 rfl rfl rfl (fs' := [.ref (ad tc), .int ln, .int (od + 1), .int (nI (p + 4)), .int rs, .int (causeF f l (chF tx ln (nI p)) (nm2F tx ln (p + 1)))]) (Nat.le_of_ble_eq_true rfl) rfl dX7_readOrder_116 (fun gg74 hh75 aa76 => ?_)
        have AA77 : Agr [t, k, ha] G gg74 := AA73.tr aa76 (by simp) (by simp)
        exact G_vret C hr dX7_readOrder_119 ⟨rfl, (by rw [hh75]; simp only [rdF, orF, if_neg c10, if_pos c27, if_pos c80]), (by rw [((aa76 k (by simp [ne_2_0])).trans ((aa72 k (by simp [ne_2_0])).trans hh66))]; simp only [rdF, orF, if_neg c10, if_pos c27, if_pos c80]), (by rw [((aa76 ha (by simp [ne_3_0])).trans ((aa72 ha (by simp [ne_3_0])).trans hh67))]; simp only [rdF, orF, if_neg c10, if_pos c27, if_pos c80]), AA77⟩
      · refine G_aload_n C 0 dX7_readOrder_83 rfl rfl ?_
        refine G_iconst C (v := 2) dX7_readOrder_84 (by decide) ?_
        refine G_putp C t lt_t hh60 rfl inA7 tyX7_ok nmX7 4 (by decide) rfl kf_X7_31 rfl rfl rfl (fs' := [.ref (ad tc), .int ln, .int od, .int (nI p), .int 2, .int (causeF f l (chF tx ln (nI p)) (nm2F tx ln (p + 1)))]) (Nat.le_of_ble_eq_true rfl) rfl dX7_readOrder_85 (fun gg78 hh79 aa80 => ?_)
        have AA81 : Agr [t] G gg78 := AA62.tr aa80 (by simp) (by simp)
        exact G_vret C hr dX7_readOrder_88 ⟨rfl, (by rw [hh79]; simp only [rdF, orF, if_neg c10, if_pos c27, if_neg c80]), (by rw [((aa80 k (by simp [ne_2_0])).trans ((aa61 k (by simp [ne_2_0])).trans gk))]; simp only [rdF, orF, if_neg c10, if_pos c27, if_neg c80]), (by rw [((aa80 ha (by simp [ne_3_0])).trans ((aa61 ha (by simp [ne_3_0])).trans gh))]; simp only [rdF, orF, if_neg c10, if_pos c27, if_neg c80]), (AA81.wk (by simp))⟩
    · refine G_aload_n C 0 dX7_readOrder_30 rfl rfl ?_
      refine G_iconst C (v := 1) dX7_readOrder_31 (by decide) ?_
      refine G_putp C t lt_t gt rfl inA7 tyX7_ok nmX7 4 (by decide) rfl kf_X7_31 rfl rfl rfl (fs' := [.ref (ad tc), .int ln, .int od, .int (nI p), .int 1, .int cs]) (Nat.le_of_ble_eq_true rfl) rfl dX7_readOrder_32 (fun gg82 hh83 aa84 => ?_)
      have AA85 : Agr [t] G gg82 := aa84.wk (by simp)
      refine G_aload_n C 0 dX7_readOrder_35 rfl rfl ?_
      refine G_iload_n C 3 dX7_readOrder_36 rfl rfl ?_
      refine G_putp C t lt_t hh83 rfl inA7 tyX7_ok nmX7 5 (by decide) rfl kf_X7_34 rfl rfl rfl (fs' := [.ref (ad tc), .int ln, .int od, .int (nI p), .int 1, .int (bkF tx ln p 2)]) (Nat.le_of_ble_eq_true rfl) rfl dX7_readOrder_37 (fun gg86 hh87 aa88 => ?_)
      have AA89 : Agr [t] G gg86 := AA85.tr aa88 (by simp) (by simp)
      exact G_vret C hr dX7_readOrder_40 ⟨rfl, (by rw [hh87]; simp only [rdF, orF, if_neg c10, if_neg c27]), (by rw [((aa88 k (by simp [ne_2_0])).trans ((aa84 k (by simp [ne_2_0])).trans gk))]; simp only [rdF, orF, if_neg c10, if_neg c27]), (by rw [((aa88 ha (by simp [ne_3_0])).trans ((aa84 ha (by simp [ne_3_0])).trans gh))]; simp only [rdF, orF, if_neg c10, if_neg c27]), (AA89.wk (by simp))⟩

abbrev rm_X7_findsFault : Room := ({ frames := 4, cells := 0, slots := 0, locals := 91 } : Room)
set_option maxRecDepth 100000 in
set_option maxHeartbeats 4000000 in
theorem c_X7_findsFault {L : GL} {N : Nat} {ad : Nat → Nat} {G : Nat → va_E} {t tc k r ha k2 hb len : Nat} {rt rp rx ry rg : Nat} {od ps rs cs l2 ml2 l ml : Int32} {tx f f2 : Nat → Int32} (lt_t : t < N) (lt_tc : tc < N) (lt_k : k < N) (lt_ha : ha < N) (lt_k2 : k2 < N) (lt_hb : hb < N) (lt_r : r < N) (lt_rp : rp < N) (lt_rg : rg < N) (gt : G t = .inr (7, [.ref (ad tc), .int (nI len), .int od, .int ps, .int rs, .int cs])) (gtc : G tc = .inl (L.ac 2, 60, .inl tx)) (gk : G k = .inr (5, [.ref (ad r), .ref (ad ha), .int l2, .int ml2])) (gh : G ha = .inl (L.ac 0, 61, .inl f2)) (gk2 : G k2 = .inr (5, [.ref (ad r), .ref (ad hb), .int l, .int ml])) (gh2 : G hb = .inl (L.ac 0, 61, .inl f)) (gr : G r = .inr (4, [.ref (ad rt), .ref (ad rp), .ref (ad rx), .ref (ad ry), .ref (ad rg)])) (grp : G rp = .inl (L.ac 0, 61, .inl tPer)) (grg : G rg = .inl (L.ac 0, 61, .inl tGp)) (hlen : len ≤ 60) (hkk : k ≠ k2) (hhh : ha ≠ hb) (hrp : rp ≠ ha) (hrg : rg ≠ ha) (htx : ∀ j : Nat, narrow .char (.int (tx j)) = .int (tx j)) : GM L yX7_findsFault cX7_findsFault 4 ((some .boolean)) rm_X7_findsFault N ad G [.ref (ad t), .ref (ad k2), .ref (ad k)] (fun vo G' => vo = some (.int (if (fRun tx len 60 (0, 0, 0, 0, f, l, ml)).2.2.1 = 0 then 0 else 1)) ∧ G' t = .inr (7, [.ref (ad tc), .int (nI len), .int ((fRun tx len 60 (0, 0, 0, 0, f, l, ml)).1), .int (nI (fRun tx len 60 (0, 0, 0, 0, f, l, ml)).2.1), .int ((fRun tx len 60 (0, 0, 0, 0, f, l, ml)).2.2.1), .int ((fRun tx len 60 (0, 0, 0, 0, f, l, ml)).2.2.2.1)]) ∧ G' k = .inr (5, [.ref (ad r), .ref (ad ha), .int ((fRun tx len 60 (0, 0, 0, 0, f, l, ml)).2.2.2.2.2.1), .int ((fRun tx len 60 (0, 0, 0, 0, f, l, ml)).2.2.2.2.2.2)]) ∧ G' ha = .inl (L.ac 0, 61, .inl ((fRun tx len 60 (0, 0, 0, 0, f, l, ml)).2.2.2.2.1)) ∧ Agr [t, k, ha] G G') := by
  refine GM.of (own := RX7) (lo := [(0, .ref (ad t)), (1, .ref (ad k2)), (2, .ref (ad k))]) (by decide +kernel) rfl rfl (Nat.le_of_ble_eq_true rfl) (fun E C hr => ?_)
  have ne_0_1 : t ≠ tc := fun h => by have h9 := gt; rw [h, gtc] at h9; first | cases h9 | simp at h9
  have ne_0_2 : t ≠ k := fun h => by have h9 := gt; rw [h, gk] at h9; first | cases h9 | simp at h9
  have ne_0_3 : t ≠ ha := fun h => by have h9 := gt; rw [h, gh] at h9; first | cases h9 | simp at h9
  have ne_0_4 : t ≠ k2 := fun h => by have h9 := gt; rw [h, gk2] at h9; first | cases h9 | simp at h9
  have ne_0_5 : t ≠ hb := fun h => by have h9 := gt; rw [h, gh2] at h9; first | cases h9 | simp at h9
  have ne_0_6 : t ≠ r := fun h => by have h9 := gt; rw [h, gr] at h9; first | cases h9 | simp at h9
  have ne_0_7 : t ≠ rp := fun h => by have h9 := gt; rw [h, grp] at h9; first | cases h9 | simp at h9
  have ne_0_8 : t ≠ rg := fun h => by have h9 := gt; rw [h, grg] at h9; first | cases h9 | simp at h9
  have ne_1_2 : tc ≠ k := fun h => by have h9 := gtc; rw [h, gk] at h9; first | cases h9 | simp at h9
  have ne_1_3 : tc ≠ ha := fun h => by have h9 := gtc; rw [h, gh] at h9; first | cases h9 | simp at h9
  have ne_2_5 : k ≠ hb := fun h => by have h9 := gk; rw [h, gh2] at h9; first | cases h9 | simp at h9
  have ne_2_6 : k ≠ r := fun h => by have h9 := gk; rw [h, gr] at h9; first | cases h9 | simp at h9
  have ne_2_7 : k ≠ rp := fun h => by have h9 := gk; rw [h, grp] at h9; first | cases h9 | simp at h9
  have ne_2_8 : k ≠ rg := fun h => by have h9 := gk; rw [h, grg] at h9; first | cases h9 | simp at h9
  have ne_3_4 : ha ≠ k2 := fun h => by have h9 := gh; rw [h, gk2] at h9; first | cases h9 | simp at h9
  have ne_3_6 : ha ≠ r := fun h => by have h9 := gh; rw [h, gr] at h9; first | cases h9 | simp at h9
  have ne_1_0 : tc ≠ t := Ne.symm ne_0_1
  have ne_2_0 : k ≠ t := Ne.symm ne_0_2
  have ne_3_0 : ha ≠ t := Ne.symm ne_0_3
  have ne_4_0 : k2 ≠ t := Ne.symm ne_0_4
  have ne_4_3 : k2 ≠ ha := Ne.symm ne_3_4
  have ne_5_0 : hb ≠ t := Ne.symm ne_0_5
  have ne_5_2 : hb ≠ k := Ne.symm ne_2_5
  have ne_6_0 : r ≠ t := Ne.symm ne_0_6
  have ne_6_2 : r ≠ k := Ne.symm ne_2_6
  have ne_6_3 : r ≠ ha := Ne.symm ne_3_6
  have ne_7_0 : rp ≠ t := Ne.symm ne_0_7
  have ne_7_2 : rp ≠ k := Ne.symm ne_2_7
  have ne_8_0 : rg ≠ t := Ne.symm ne_0_8
  have ne_8_2 : rg ≠ k := Ne.symm ne_2_8
  refine G_aload_n C 2 dX7_findsFault_0 rfl rfl ?_
  refine G_aload_n C 1 dX7_findsFault_1 rfl rfl ?_
  refine G_callV C (As := [.ref (ad k2)]) (rest := []) (c_X5_copyFrom lt_k lt_ha lt_k2 lt_hb gk gh gk2 gh2 hkk hhh) ca_X5_copyFrom km_X7_19 lt_k gk rfl rfl rfl rfl (by decide) (Nat.le_of_ble_eq_true rfl) (by decide) dX7_findsFault_2 (fun vv1 gg2 qq3 => ?_)
  obtain ⟨rfl, hh4, hh5, aa6⟩ := qq3
  have AA7 : Agr [k, ha] G gg2 := aa6.wk (by simp)
  refine G_aload_n C 0 dX7_findsFault_5 rfl rfl ?_
  refine G_iconst C (v := 0) dX7_findsFault_6 (by decide) ?_
  refine G_putp C t lt_t ((aa6 t (by simp [ne_0_2, ne_0_3])).trans gt) rfl inA7 tyX7_ok nmX7 2 (by decide) rfl kf_X7_25 rfl rfl rfl (fs' := [.ref (ad tc), .int (nI len), .int 0, .int ps, .int rs, .int cs]) (Nat.le_of_ble_eq_true rfl) rfl dX7_findsFault_7 (fun gg8 hh9 aa10 => ?_)
  have AA11 : Agr [k, ha, t] G gg8 := AA7.tr aa10 (by simp) (by simp)
  refine G_aload_n C 0 dX7_findsFault_10 rfl rfl ?_
  refine G_iconst C (v := 0) dX7_findsFault_11 (by decide) ?_
  refine G_putp C t lt_t hh9 rfl inA7 tyX7_ok nmX7 3 (by decide) rfl kf_X7_28 rfl rfl rfl (fs' := [.ref (ad tc), .int (nI len), .int 0, .int 0, .int rs, .int cs]) (Nat.le_of_ble_eq_true rfl) rfl dX7_findsFault_12 (fun gg12 hh13 aa14 => ?_)
  have AA15 : Agr [k, ha, t] G gg12 := AA11.tr aa14 (by simp) (by simp)
  refine G_aload_n C 0 dX7_findsFault_15 rfl rfl ?_
  refine G_iconst C (v := 0) dX7_findsFault_16 (by decide) ?_
  refine G_putp C t lt_t hh13 rfl inA7 tyX7_ok nmX7 4 (by decide) rfl kf_X7_31 rfl rfl rfl (fs' := [.ref (ad tc), .int (nI len), .int 0, .int 0, .int 0, .int cs]) (Nat.le_of_ble_eq_true rfl) rfl dX7_findsFault_17 (fun gg16 hh17 aa18 => ?_)
  have AA19 : Agr [k, ha, t] G gg16 := AA15.tr aa18 (by simp) (by simp)
  refine G_aload_n C 0 dX7_findsFault_20 rfl rfl ?_
  refine G_iconst C (v := 0) dX7_findsFault_21 (by decide) ?_
  refine G_putp C t lt_t hh17 rfl inA7 tyX7_ok nmX7 5 (by decide) rfl kf_X7_34 rfl rfl rfl (fs' := [.ref (ad tc), .int (nI len), .int 0, .int 0, .int 0, .int 0]) (Nat.le_of_ble_eq_true rfl) rfl dX7_findsFault_22 (fun gg20 hh21 aa22 => ?_)
  have AA23 : Agr [k, ha, t] G gg20 := AA19.tr aa22 (by simp) (by simp)
  refine G_iconst C (v := 0) dX7_findsFault_25 (by decide) ?_
  refine G_istore_n C 3 (lo' := [(3, .int 0), (0, .ref (ad t)), (1, .ref (ad k2)), (2, .ref (ad k))]) dX7_findsFault_26 rfl (by decide) rfl ?_
  have key27 : ∀ (n : Nat) (i : Nat) (s : FS) (G1 : Nat → va_E) (hf27_t : G1 t = .inr (7, [.ref (ad tc), .int (nI len), .int s.1, .int (nI s.2.1), .int s.2.2.1, .int s.2.2.2.1])) (hf27_k : G1 k = .inr (5, [.ref (ad r), .ref (ad ha), .int s.2.2.2.2.2.1, .int s.2.2.2.2.2.2])) (hf27_ha : G1 ha = .inl (L.ac 0, 61, .inl s.2.2.2.2.1)) (ha27 : Agr [t, k, ha] G G1) (hn : 60 - i < n) (hi : i ≤ 60) (hpos : s.2.1 ≤ 64) (hs : fRun tx len 60 (0, 0, 0, 0, f, l, ml) = fRun tx len (60 - i) s), GW L E N ad G1 0 0 27 [(3, .int (nI i)), (0, .ref (ad t)), (1, .ref (ad k2)), (2, .ref (ad k))] [] := by
    intro n
    induction n with
    | zero =>
      intro i s G1 hf27_t hf27_k hf27_ha ha27 hn hi hpos hs
      exact absurd hn (Nat.not_lt_zero _)
    | succ n ih =>
      intro i s G1 hf27_t hf27_k hf27_ha ha27 hn hi hpos hs
      refine G_iload_n C 3 dX7_findsFault_27 rfl rfl ?_
      refine G_bipush C (v := 60) dX7_findsFault_28 (by decide) ?_
      refine G_icmp_ge C 62 dX7_findsFault_30 (by decide) (fun c30 => ?_) (fun c30 => ?_)
      · have c30n : 60 ≤ i := (cI_le (a := 60) (b := i) rfl rfl (by omega) (by omega)).mp c30
        refine G_aload_n C 0 dX7_findsFault_62 rfl rfl ?_
        refine G_get C t lt_t hf27_t rfl inA7 4 (by decide) rfl kf_X7_31 rfl dX7_findsFault_63 ?_
        refine G_if_eq C 73 dX7_findsFault_66 (by decide) (fun c66 => ?_) (fun c66 => ?_)
        · refine G_iconst C (v := 0) dX7_findsFault_73 (by decide) ?_
          exact G_zret C hr rfl dX7_findsFault_74 ⟨(by rw [hs, show fRun tx len (60 - i) s = s by rw [show 60 - i = 0 by omega]; rfl]; simp only [if_pos c66]), (by rw [hf27_t, hs, show fRun tx len (60 - i) s = s by rw [show 60 - i = 0 by omega]; rfl]), (by rw [hf27_k, hs, show fRun tx len (60 - i) s = s by rw [show 60 - i = 0 by omega]; rfl]), (by rw [hf27_ha, hs, show fRun tx len (60 - i) s = s by rw [show 60 - i = 0 by omega]; rfl]), ha27⟩
        · refine G_iconst C (v := 1) dX7_findsFault_69 (by decide) ?_
          refine G_goto C 74 dX7_findsFault_70 (by decide) ?_
          exact G_zret C hr rfl dX7_findsFault_74 ⟨(by rw [hs, show fRun tx len (60 - i) s = s by rw [show 60 - i = 0 by omega]; rfl]; simp only [if_neg c66]), (by rw [hf27_t, hs, show fRun tx len (60 - i) s = s by rw [show 60 - i = 0 by omega]; rfl]), (by rw [hf27_k, hs, show fRun tx len (60 - i) s = s by rw [show 60 - i = 0 by omega]; rfl]), (by rw [hf27_ha, hs, show fRun tx len (60 - i) s = s by rw [show 60 - i = 0 by omega]; rfl]), ha27⟩
      · have c30n : ¬ 60 ≤ i := fun z => c30 ((cI_le (a := 60) (b := i) rfl rfl (by omega) (by omega)).mpr z)
        refine G_aload_n C 0 dX7_findsFault_33 rfl rfl ?_
        refine G_get C t lt_t hf27_t rfl inA7 3 (by decide) rfl kf_X7_28 rfl dX7_findsFault_34 ?_
        refine G_aload_n C 0 dX7_findsFault_37 rfl rfl ?_
        refine G_get C t lt_t hf27_t rfl inA7 1 (by decide) rfl kf_X7_15 rfl dX7_findsFault_38 ?_
        refine G_icmp_ge C 62 dX7_findsFault_41 (by decide) (fun c41 => ?_) (fun c41 => ?_)
        · have c41n : len ≤ s.2.1 := (cI_le (a := len) (b := s.2.1) rfl rfl (by omega) (by omega)).mp c41
          refine G_aload_n C 0 dX7_findsFault_62 rfl rfl ?_
          refine G_get C t lt_t hf27_t rfl inA7 4 (by decide) rfl kf_X7_31 rfl dX7_findsFault_63 ?_
          refine G_if_eq C 73 dX7_findsFault_66 (by decide) (fun c66 => ?_) (fun c66 => ?_)
          · refine G_iconst C (v := 0) dX7_findsFault_73 (by decide) ?_
            exact G_zret C hr rfl dX7_findsFault_74 ⟨(by rw [hs, fRun_stop (fun z => absurd z.1 (by omega))]; simp only [if_pos c66]), (by rw [hf27_t, hs, fRun_stop (fun z => absurd z.1 (by omega))]), (by rw [hf27_k, hs, fRun_stop (fun z => absurd z.1 (by omega))]), (by rw [hf27_ha, hs, fRun_stop (fun z => absurd z.1 (by omega))]), ha27⟩
          · refine G_iconst C (v := 1) dX7_findsFault_69 (by decide) ?_
            refine G_goto C 74 dX7_findsFault_70 (by decide) ?_
            exact G_zret C hr rfl dX7_findsFault_74 ⟨(by rw [hs, fRun_stop (fun z => absurd z.1 (by omega))]; simp only [if_neg c66]), (by rw [hf27_t, hs, fRun_stop (fun z => absurd z.1 (by omega))]), (by rw [hf27_k, hs, fRun_stop (fun z => absurd z.1 (by omega))]), (by rw [hf27_ha, hs, fRun_stop (fun z => absurd z.1 (by omega))]), ha27⟩
        · have c41n : ¬ len ≤ s.2.1 := fun z => c41 ((cI_le (a := len) (b := s.2.1) rfl rfl (by omega) (by omega)).mpr z)
          refine G_aload_n C 0 dX7_findsFault_44 rfl rfl ?_
          refine G_get C t lt_t hf27_t rfl inA7 4 (by decide) rfl kf_X7_31 rfl dX7_findsFault_45 ?_
          refine G_if_ne C 62 dX7_findsFault_48 (by decide) (fun c48 => ?_) (fun c48 => ?_)
          · refine G_aload_n C 0 dX7_findsFault_62 rfl rfl ?_
            refine G_get C t lt_t hf27_t rfl inA7 4 (by decide) rfl kf_X7_31 rfl dX7_findsFault_63 ?_
            refine G_if_eq C 73 dX7_findsFault_66 (by decide) (fun c66 => ?_) (fun c66 => ?_)
            · refine G_iconst C (v := 0) dX7_findsFault_73 (by decide) ?_
              exact G_zret C hr rfl dX7_findsFault_74 ⟨(by rw [hs, fRun_stop (fun z => c48 z.2)]; simp only [if_pos c66]), (by rw [hf27_t, hs, fRun_stop (fun z => c48 z.2)]), (by rw [hf27_k, hs, fRun_stop (fun z => c48 z.2)]), (by rw [hf27_ha, hs, fRun_stop (fun z => c48 z.2)]), ha27⟩
            · refine G_iconst C (v := 1) dX7_findsFault_69 (by decide) ?_
              refine G_goto C 74 dX7_findsFault_70 (by decide) ?_
              exact G_zret C hr rfl dX7_findsFault_74 ⟨(by rw [hs, fRun_stop (fun z => c48 z.2)]; simp only [if_neg c66]), (by rw [hf27_t, hs, fRun_stop (fun z => c48 z.2)]), (by rw [hf27_k, hs, fRun_stop (fun z => c48 z.2)]), (by rw [hf27_ha, hs, fRun_stop (fun z => c48 z.2)]), ha27⟩
          · refine G_aload_n C 0 dX7_findsFault_51 rfl rfl ?_
            refine G_aload_n C 2 dX7_findsFault_52 rfl rfl ?_
            refine G_callV C (As := [.ref (ad k)]) (rest := []) (c_X7_readOrder lt_t lt_tc lt_k lt_ha lt_r lt_rp lt_rg hf27_t ((ha27 tc (by simp [ne_1_0, ne_1_2, ne_1_3])).trans gtc) hf27_k hf27_ha ((ha27 r (by simp [ne_6_0, ne_6_2, ne_6_3])).trans gr) ((ha27 rp (by simp [ne_7_0, ne_7_2, hrp])).trans grp) ((ha27 rg (by simp [ne_8_0, ne_8_2, hrg])).trans grg) (by omega) htx) ca_X7_readOrder km_X7_37 lt_t hf27_t rfl rfl rfl rfl (by decide) (Nat.le_of_ble_eq_true rfl) (by decide) dX7_findsFault_53 (fun vv24 gg25 qq26 => ?_)
            obtain ⟨rfl, hh27, hh28, hh29, aa30⟩ := qq26
            have AA31 : Agr [t, k, ha] G gg25 := ha27.tr aa30 (by simp) (by simp)
            refine G_iinc C (v := nI (i + 1)) (lo' := [(3, .int (nI (i + 1))), (0, .ref (ad t)), (1, .ref (ad k2)), (2, .ref (ad k))]) dX7_findsFault_56 rfl (nI_add _ _) (by decide) rfl ?_
            refine G_goto C 27 dX7_findsFault_59 (by decide) ?_
            exact ih (i + 1) (rdF tx (nI len) s) gg25 hh27 hh28 hh29 AA31 (by omega) (by omega) (by have := rd_pos tx (nI len) s; omega) (hs.trans (by rw [show 60 - i = (60 - (i + 1)) + 1 by omega]; exact fRun_step (by omega) c48))
  exact key27 61 0 (0, 0, 0, 0, f, l, ml) gg20 hh21 ((aa22 k (by simp [ne_2_0])).trans ((aa18 k (by simp [ne_2_0])).trans ((aa14 k (by simp [ne_2_0])).trans ((aa10 k (by simp [ne_2_0])).trans hh4)))) ((aa22 ha (by simp [ne_3_0])).trans ((aa18 ha (by simp [ne_3_0])).trans ((aa14 ha (by simp [ne_3_0])).trans ((aa10 ha (by simp [ne_3_0])).trans hh5)))) (AA23.wk (by simp)) (by omega) (by omega) (Nat.zero_le _) (rfl)

