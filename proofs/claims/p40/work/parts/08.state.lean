abbrev rm_X8_isNumber : Room := ({ frames := 0, cells := 0, slots := 0, locals := 0 } : Room)
set_option maxRecDepth 100000 in
set_option maxHeartbeats 4000000 in
theorem c_X8_isNumber {L : GL} {N : Nat} {ad : Nat → Nat} {G : Nat → va_E} {n : Int32}    : GM L yX8_isNumber cX8_isNumber 1 ((some .boolean)) rm_X8_isNumber N ad G [.int n] (fun vo G' => vo = some (.int (numF n)) ∧ G = G') := by
  refine GM.of (own := RX8) (lo := [(0, .int n)]) (by decide +kernel) rfl rfl (Nat.le_of_ble_eq_true rfl) (fun E C hr => ?_)
  refine G_iload_n C 0 dX8_isNumber_0 rfl rfl ?_
  refine G_iconst C (v := 2) dX8_isNumber_1 (by decide) ?_
  refine G_icmp_lt C 15 dX8_isNumber_2 (by decide) (fun c2 => ?_) (fun c2 => ?_)
  · refine G_iconst C (v := 0) dX8_isNumber_15 (by decide) ?_
    exact G_zret C hr rfl dX8_isNumber_16 ⟨by simp only [numF, if_pos c2], rfl⟩
  · refine G_iload_n C 0 dX8_isNumber_5 rfl rfl ?_
    refine G_bipush C (v := 60) dX8_isNumber_6 (by decide) ?_
    refine G_icmp_gt C 15 dX8_isNumber_8 (by decide) (fun c8 => ?_) (fun c8 => ?_)
    · refine G_iconst C (v := 0) dX8_isNumber_15 (by decide) ?_
      exact G_zret C hr rfl dX8_isNumber_16 ⟨by simp only [numF, if_neg c2, if_pos c8], rfl⟩
    · refine G_iconst C (v := 1) dX8_isNumber_11 (by decide) ?_
      refine G_goto C 16 dX8_isNumber_12 (by decide) ?_
      exact G_zret C hr rfl dX8_isNumber_16 ⟨by simp only [numF, if_neg c2, if_neg c8], rfl⟩

theorem cpy61 {f g : Nat → Int32} {j : Nat} (hj : j < 61) : va_cpy g f (0 : Int32).toNatClampNeg (0 : Int32).toNatClampNeg (61 : Int32).toNatClampNeg j = g j := by
  have e0 : (0 : Int32).toNatClampNeg = 0 := rfl
  have e1 : (61 : Int32).toNatClampNeg = 61 := rfl
  rw [e0, e1]
  unfold va_cpy
  rw [if_pos ⟨Nat.zero_le _, by omega⟩]
  congr 1
  omega
theorem wr_ok : ∀ d, d < 61 → ∀ i, i < 9 → 2 ≤ i → (i - 1) * (i - 1) ≤ d → d < i * i → wr d = i - 1 := by decide +kernel
theorem nI_mul (a b : Nat) : nI a * nI b = nI (a * b) := pk_mul a b
abbrev rm_X8_wholeRoot : Room := ({ frames := 0, cells := 0, slots := 0, locals := 0 } : Room)
set_option maxRecDepth 100000 in
set_option maxHeartbeats 4000000 in
theorem c_X8_wholeRoot {L : GL} {N : Nat} {ad : Nat → Nat} {G : Nat → va_E} {d : Nat}   (h2 : 2 ≤ d) (h60 : d ≤ 60) : GM L yX8_wholeRoot cX8_wholeRoot 3 ((some .int)) rm_X8_wholeRoot N ad G [.int (nI d)] (fun vo G' => vo = some (.int (nI (wr d))) ∧ G = G') := by
  refine GM.of (own := RX8) (lo := [(0, .int (nI d))]) (by decide +kernel) rfl rfl (Nat.le_of_ble_eq_true rfl) (fun E C hr => ?_)
  refine G_iconst C (v := 1) dX8_wholeRoot_0 (by decide) ?_
  refine G_istore_n C 1 (lo' := [(1, .int 1), (0, .int (nI d))]) dX8_wholeRoot_1 rfl (by decide) rfl ?_
  refine G_iconst C (v := 2) dX8_wholeRoot_2 (by decide) ?_
  refine G_istore_n C 2 (lo' := [(2, .int 2), (1, .int 1), (0, .int (nI d))]) dX8_wholeRoot_3 rfl (by decide) rfl ?_
  have key4 : ∀ (n : Nat) (i : Nat)  (hn : 9 - i < n) (hi : 2 ≤ i ∧ i ≤ 8) (hs : (i - 1) * (i - 1) ≤ d), GW L E N ad G 0 0 4 [(2, .int (nI i)), (1, .int (nI (i - 1))), (0, .int (nI d))] [] := by
    intro n
    induction n with
    | zero =>
      intro i  hn hi hs
      exact absurd hn (Nat.not_lt_zero _)
    | succ n ih =>
      intro i  hn hi hs
      have him : i * i ≤ 64 := Nat.mul_le_mul hi.2 hi.2
      refine G_iload_n C 2 dX8_wholeRoot_4 rfl rfl ?_
      refine G_bipush C (v := 60) dX8_wholeRoot_5 (by decide) ?_
      refine G_icmp_gt C 25 dX8_wholeRoot_7 (by decide) (fun c7 => False.elim (by have := (cI_lt (a := 60) (b := i) rfl rfl (by omega) (by omega)).mp c7; omega)) (fun c7 => ?_)
      have c7n : ¬ 60 < i := fun z => c7 ((cI_lt (a := 60) (b := i) rfl rfl (by omega) (by omega)).mpr z)
      refine G_iload_n C 2 dX8_wholeRoot_10 rfl rfl ?_
      refine G_iload_n C 2 dX8_wholeRoot_11 rfl rfl ?_
      refine G_imul C dX8_wholeRoot_12 ?_
      refine GW.topr (cI_mul (a := i) (b := i) rfl rfl) ?_
      refine G_iload_n C 0 dX8_wholeRoot_13 rfl rfl ?_
      refine G_icmp_gt C 25 dX8_wholeRoot_14 (by decide) (fun c14 => ?_) (fun c14 => ?_)
      · have c14n : d < (i * i) := (cI_lt (a := d) (b := (i * i)) rfl rfl (by omega) (by omega)).mp c14
        refine G_iload_n C 1 dX8_wholeRoot_25 rfl rfl ?_
        exact G_zret C hr rfl dX8_wholeRoot_26 ⟨(by rw [wr_ok d (by omega) i (by omega) hi.1 hs (by omega)]), rfl⟩
      · have c14n : ¬ d < (i * i) := fun z => c14 ((cI_lt (a := d) (b := (i * i)) rfl rfl (by omega) (by omega)).mpr z)
        refine G_iload_n C 2 dX8_wholeRoot_17 rfl rfl ?_
        refine G_istore_n C 1 (lo' := [(1, .int (nI i)), (2, .int (nI i)), (0, .int (nI d))]) dX8_wholeRoot_18 rfl (by decide) rfl ?_
        refine G_iinc C (v := nI (i + 1)) (lo' := [(2, .int (nI (i + 1))), (1, .int (nI i)), (0, .int (nI d))]) dX8_wholeRoot_19 rfl (nI_add _ _) (by decide) rfl ?_
        refine G_goto C 4 dX8_wholeRoot_22 (by decide) ?_
        exact ih (i + 1) (by omega) (by have : i < 8 := (Nat.lt_or_ge i 8).elim id (fun z => by have := Nat.mul_le_mul z z; omega); omega) (by rw [Nat.add_sub_cancel]; omega)
  exact key4 9 2 (by omega) (by omega) (by omega)

abbrev rm_X6_init : Room := ({ frames := 1, cells := 0, slots := 0, locals := 12 } : Room)
set_option maxRecDepth 100000 in
set_option maxHeartbeats 4000000 in
theorem c_X6_init {L : GL} {N : Nat} {ad : Nat → Nat} {G : Nat → va_E} {k : Nat}    : GM L yX6_init cX6_init 1 (none) rm_X6_init N ad G [.ref (ad k)] (fun vo G' => vo = none ∧ G = G') := by
  refine GM.of (own := RX6) (lo := [(0, .ref (ad k))]) (by decide +kernel) rfl rfl (Nat.le_of_ble_eq_true rfl) (fun E C hr => ?_)
  refine G_aload_n C 0 dX6_init_0 rfl rfl ?_
  refine G_objInit C km_X6_1 w_oi1 w_oi2 dX6_init_1 (by decide) (Nat.le_of_ble_eq_true rfl) ?_
  exact G_vret C hr dX6_init_4 ⟨rfl, rfl⟩

abbrev rm_X6_begin : Room := ({ frames := 1, cells := 0, slots := 0, locals := 22 } : Room)
set_option maxRecDepth 100000 in
set_option maxHeartbeats 4000000 in
theorem c_X6_begin {L : GL} {N : Nat} {ad : Nat → Nat} {G : Nat → va_E} {k d : Nat} {nu wh m q t : Int32} (lt_k : k < N) (g0 : G k = .inr (6, [.int nu, .int wh, .int m, .int q, .int t])) (h2 : 2 ≤ d) (h60 : d ≤ 60) : GM L yX6_begin cX6_begin 2 (none) rm_X6_begin N ad G [.ref (ad k), .int (nI d)] (fun vo G' => vo = none ∧ G' k = .inr (6, [.int (nI d), .int (nI (wr d)), .int 0, .int 1, .int (nI (wr d))]) ∧ Agr [k] G G') := by
  refine GM.of (own := RX6) (lo := [(0, .ref (ad k)), (1, .int (nI d))]) (by decide +kernel) rfl rfl (Nat.le_of_ble_eq_true rfl) (fun E C hr => ?_)
  refine G_aload_n C 0 dX6_begin_0 rfl rfl ?_
  refine G_iload_n C 1 dX6_begin_1 rfl rfl ?_
  refine G_putp C k lt_k g0 rfl inA6 tyX6_ok nmX6 0 (by decide) rfl kf_X6_7 rfl rfl rfl (fs' := [.int (nI d), .int wh, .int m, .int q, .int t]) (Nat.le_of_ble_eq_true rfl) rfl dX6_begin_2 (fun gg1 hh2 aa3 => ?_)
  have AA4 : Agr [k] G gg1 := aa3.wk (by simp)
  refine G_aload_n C 0 dX6_begin_5 rfl rfl ?_
  refine G_iload_n C 1 dX6_begin_6 rfl rfl ?_
  refine G_callSN C (As := [.int (nI d)]) (rest := [.ref (ad k)]) (c_X8_wholeRoot h2 h60) ca_X8_wholeRoot kn_X6_13 rfl rfl (by decide) (Nat.le_of_ble_eq_true rfl) (by decide) dX6_begin_7 (fun vv5 gg6 qq7 => ?_)
  obtain ⟨rfl, rfl⟩ := qq7
  refine G_putp C k lt_k hh2 rfl inA6 tyX6_ok nmX6 1 (by decide) rfl kf_X6_19 rfl rfl rfl (fs' := [.int (nI d), .int (nI (wr d)), .int m, .int q, .int t]) (Nat.le_of_ble_eq_true rfl) rfl dX6_begin_10 (fun gg8 hh9 aa10 => ?_)
  have AA11 : Agr [k] G gg8 := AA4.tr aa10 (by simp) (by simp)
  refine G_aload_n C 0 dX6_begin_13 rfl rfl ?_
  refine G_iconst C (v := 0) dX6_begin_14 (by decide) ?_
  refine G_putp C k lt_k hh9 rfl inA6 tyX6_ok nmX6 2 (by decide) rfl kf_X6_22 rfl rfl rfl (fs' := [.int (nI d), .int (nI (wr d)), .int 0, .int q, .int t]) (Nat.le_of_ble_eq_true rfl) rfl dX6_begin_15 (fun gg12 hh13 aa14 => ?_)
  have AA15 : Agr [k] G gg12 := AA11.tr aa14 (by simp) (by simp)
  refine G_aload_n C 0 dX6_begin_18 rfl rfl ?_
  refine G_iconst C (v := 1) dX6_begin_19 (by decide) ?_
  refine G_putp C k lt_k hh13 rfl inA6 tyX6_ok nmX6 3 (by decide) rfl kf_X6_25 rfl rfl rfl (fs' := [.int (nI d), .int (nI (wr d)), .int 0, .int 1, .int t]) (Nat.le_of_ble_eq_true rfl) rfl dX6_begin_20 (fun gg16 hh17 aa18 => ?_)
  have AA19 : Agr [k] G gg16 := AA15.tr aa18 (by simp) (by simp)
  refine G_aload_n C 0 dX6_begin_23 rfl rfl ?_
  refine G_aload_n C 0 dX6_begin_24 rfl rfl ?_
  refine G_get C k lt_k hh17 rfl inA6 1 (by decide) rfl kf_X6_19 rfl dX6_begin_25 ?_
  refine G_putp C k lt_k hh17 rfl inA6 tyX6_ok nmX6 4 (by decide) rfl kf_X6_28 rfl rfl rfl (fs' := [.int (nI d), .int (nI (wr d)), .int 0, .int 1, .int (nI (wr d))]) (Nat.le_of_ble_eq_true rfl) rfl dX6_begin_28 (fun gg20 hh21 aa22 => ?_)
  have AA23 : Agr [k] G gg20 := AA19.tr aa22 (by simp) (by simp)
  exact G_vret C hr dX6_begin_31 ⟨rfl, hh21, AA23⟩

abbrev rm_X6_next : Room := ({ frames := 0, cells := 0, slots := 0, locals := 0 } : Room)
set_option maxRecDepth 100000 in
set_option maxHeartbeats 4000000 in
theorem c_X6_next {L : GL} {N : Nat} {ad : Nat → Nat} {G : Nat → va_E} {k : Nat} {nu wh m q t : Int32} (lt_k : k < N) (g0 : G k = .inr (6, [.int nu, .int wh, .int m, .int q, .int t]))  : GM L yX6_next cX6_next 1 (none) rm_X6_next N ad G [.ref (ad k)] (fun vo G' => vo = none ∧ G' k = .inr (6, [.int nu, .int wh, .int ((tnF nu wh m q t).1), .int ((tnF nu wh m q t).2.1), .int ((tnF nu wh m q t).2.2)]) ∧ Agr [k] G G') := by
  refine GM.of (own := RX6) (lo := [(0, .ref (ad k))]) (by decide +kernel) rfl rfl (Nat.le_of_ble_eq_true rfl) (fun E C hr => ?_)
  refine G_aload_n C 0 dX6_next_0 rfl rfl ?_
  refine G_get C k lt_k g0 rfl inA6 3 (by decide) rfl kf_X6_25 rfl dX6_next_1 ?_
  refine G_if_ne C 8 dX6_next_4 (by decide) (fun c4 => ?_) (fun c4 => ?_)
  · refine G_aload_n C 0 dX6_next_8 rfl rfl ?_
    refine G_aload_n C 0 dX6_next_9 rfl rfl ?_
    refine G_get C k lt_k g0 rfl inA6 3 (by decide) rfl kf_X6_25 rfl dX6_next_10 ?_
    refine G_aload_n C 0 dX6_next_13 rfl rfl ?_
    refine G_get C k lt_k g0 rfl inA6 4 (by decide) rfl kf_X6_28 rfl dX6_next_14 ?_
    refine G_imul C dX6_next_17 ?_
    refine G_aload_n C 0 dX6_next_18 rfl rfl ?_
    refine G_get C k lt_k g0 rfl inA6 2 (by decide) rfl kf_X6_22 rfl dX6_next_19 ?_
    refine G_isub C dX6_next_22 ?_
    refine G_putp C k lt_k g0 rfl inA6 tyX6_ok nmX6 2 (by decide) rfl kf_X6_22 rfl rfl rfl (fs' := [.int nu, .int wh, .int ((q * t) - m), .int q, .int t]) (Nat.le_of_ble_eq_true rfl) rfl dX6_next_23 (fun gg1 hh2 aa3 => ?_)
    have AA4 : Agr [k] G gg1 := aa3.wk (by simp)
    refine G_aload_n C 0 dX6_next_26 rfl rfl ?_
    refine G_aload_n C 0 dX6_next_27 rfl rfl ?_
    refine G_get C k lt_k hh2 rfl inA6 0 (by decide) rfl kf_X6_7 rfl dX6_next_28 ?_
    refine G_aload_n C 0 dX6_next_31 rfl rfl ?_
    refine G_get C k lt_k hh2 rfl inA6 2 (by decide) rfl kf_X6_22 rfl dX6_next_32 ?_
    refine G_aload_n C 0 dX6_next_35 rfl rfl ?_
    refine G_get C k lt_k hh2 rfl inA6 2 (by decide) rfl kf_X6_22 rfl dX6_next_36 ?_
    refine G_imul C dX6_next_39 ?_
    refine G_isub C dX6_next_40 ?_
    refine G_aload_n C 0 dX6_next_41 rfl rfl ?_
    refine G_get C k lt_k hh2 rfl inA6 3 (by decide) rfl kf_X6_25 rfl dX6_next_42 ?_
    refine G_idiv C dX6_next_45 c4 ?_
    refine G_putp C k lt_k hh2 rfl inA6 tyX6_ok nmX6 3 (by decide) rfl kf_X6_25 rfl rfl rfl (fs' := [.int nu, .int wh, .int ((q * t) - m), .int ((nu - (((q * t) - m) * ((q * t) - m))) / q), .int t]) (Nat.le_of_ble_eq_true rfl) rfl dX6_next_46 (fun gg5 hh6 aa7 => ?_)
    have AA8 : Agr [k] G gg5 := AA4.tr aa7 (by simp) (by simp)
    refine G_aload_n C 0 dX6_next_49 rfl rfl ?_
    refine G_get C k lt_k hh6 rfl inA6 3 (by decide) rfl kf_X6_25 rfl dX6_next_50 ?_
    refine G_if_eq C 74 dX6_next_53 (by decide) (fun c53 => ?_) (fun c53 => ?_)
    · exact G_vret C hr dX6_next_74 ⟨rfl, (by rw [hh6]; simp only [tnF, if_neg c4, if_pos c53]), AA8⟩
    · refine G_aload_n C 0 dX6_next_56 rfl rfl ?_
      refine G_aload_n C 0 dX6_next_57 rfl rfl ?_
      refine G_get C k lt_k hh6 rfl inA6 1 (by decide) rfl kf_X6_19 rfl dX6_next_58 ?_
      refine G_aload_n C 0 dX6_next_61 rfl rfl ?_
      refine G_get C k lt_k hh6 rfl inA6 2 (by decide) rfl kf_X6_22 rfl dX6_next_62 ?_
      refine G_iadd C dX6_next_65 ?_
      refine G_aload_n C 0 dX6_next_66 rfl rfl ?_
      refine G_get C k lt_k hh6 rfl inA6 3 (by decide) rfl kf_X6_25 rfl dX6_next_67 ?_
      refine G_idiv C dX6_next_70 c53 ?_
      refine G_putp C k lt_k hh6 rfl inA6 tyX6_ok nmX6 4 (by decide) rfl kf_X6_28 rfl rfl rfl (fs' := [.int nu, .int wh, .int ((q * t) - m), .int ((nu - (((q * t) - m) * ((q * t) - m))) / q), .int ((wh + ((q * t) - m)) / ((nu - (((q * t) - m) * ((q * t) - m))) / q))]) (Nat.le_of_ble_eq_true rfl) rfl dX6_next_71 (fun gg9 hh10 aa11 => ?_)
      have AA12 : Agr [k] G gg9 := AA8.tr aa11 (by simp) (by simp)
      exact G_vret C hr dX6_next_74 ⟨rfl, (by rw [hh10]; simp only [tnF, if_neg c4, if_neg c53]), AA12⟩
  · exact G_vret C hr dX6_next_7 ⟨rfl, (by rw [g0]; simp only [tnF, if_pos c4]), Agr.rf⟩

abbrev rm_X6_isSquare : Room := ({ frames := 0, cells := 0, slots := 0, locals := 0 } : Room)
set_option maxRecDepth 100000 in
set_option maxHeartbeats 4000000 in
theorem c_X6_isSquare {L : GL} {N : Nat} {ad : Nat → Nat} {G : Nat → va_E} {k : Nat} {nu wh m q t : Int32} (lt_k : k < N) (g0 : G k = .inr (6, [.int nu, .int wh, .int m, .int q, .int t]))  : GM L yX6_isSquare cX6_isSquare 1 ((some .boolean)) rm_X6_isSquare N ad G [.ref (ad k)] (fun vo G' => vo = some (.int (if wh * wh = nu then 1 else 0)) ∧ G = G') := by
  refine GM.of (own := RX6) (lo := [(0, .ref (ad k))]) (by decide +kernel) rfl rfl (Nat.le_of_ble_eq_true rfl) (fun E C hr => ?_)
  refine G_aload_n C 0 dX6_isSquare_0 rfl rfl ?_
  refine G_get C k lt_k g0 rfl inA6 1 (by decide) rfl kf_X6_19 rfl dX6_isSquare_1 ?_
  refine G_aload_n C 0 dX6_isSquare_4 rfl rfl ?_
  refine G_get C k lt_k g0 rfl inA6 1 (by decide) rfl kf_X6_19 rfl dX6_isSquare_5 ?_
  refine G_imul C dX6_isSquare_8 ?_
  refine G_aload_n C 0 dX6_isSquare_9 rfl rfl ?_
  refine G_get C k lt_k g0 rfl inA6 0 (by decide) rfl kf_X6_7 rfl dX6_isSquare_10 ?_
  refine G_icmp_ne C 20 dX6_isSquare_13 (by decide) (fun c13 => ?_) (fun c13 => ?_)
  · refine G_iconst C (v := 0) dX6_isSquare_20 (by decide) ?_
    exact G_zret C hr rfl dX6_isSquare_21 ⟨(by simp only [if_neg c13]), rfl⟩
  · refine G_iconst C (v := 1) dX6_isSquare_16 (by decide) ?_
    refine G_goto C 21 dX6_isSquare_17 (by decide) ?_
    exact G_zret C hr rfl dX6_isSquare_21 ⟨(by simp only [if_pos c13]), rfl⟩

abbrev rm_X6_endsPeriod : Room := ({ frames := 0, cells := 0, slots := 0, locals := 0 } : Room)
set_option maxRecDepth 100000 in
set_option maxHeartbeats 4000000 in
theorem c_X6_endsPeriod {L : GL} {N : Nat} {ad : Nat → Nat} {G : Nat → va_E} {k : Nat} {nu wh m q t : Int32} (lt_k : k < N) (g0 : G k = .inr (6, [.int nu, .int wh, .int m, .int q, .int t]))  : GM L yX6_endsPeriod cX6_endsPeriod 1 ((some .boolean)) rm_X6_endsPeriod N ad G [.ref (ad k)] (fun vo G' => vo = some (.int (if t = 2 * wh then 1 else 0)) ∧ G = G') := by
  refine GM.of (own := RX6) (lo := [(0, .ref (ad k))]) (by decide +kernel) rfl rfl (Nat.le_of_ble_eq_true rfl) (fun E C hr => ?_)
  refine G_aload_n C 0 dX6_endsPeriod_0 rfl rfl ?_
  refine G_get C k lt_k g0 rfl inA6 4 (by decide) rfl kf_X6_28 rfl dX6_endsPeriod_1 ?_
  refine G_iconst C (v := 2) dX6_endsPeriod_4 (by decide) ?_
  refine G_aload_n C 0 dX6_endsPeriod_5 rfl rfl ?_
  refine G_get C k lt_k g0 rfl inA6 1 (by decide) rfl kf_X6_19 rfl dX6_endsPeriod_6 ?_
  refine G_imul C dX6_endsPeriod_9 ?_
  refine G_icmp_ne C 17 dX6_endsPeriod_10 (by decide) (fun c10 => ?_) (fun c10 => ?_)
  · refine G_iconst C (v := 0) dX6_endsPeriod_17 (by decide) ?_
    exact G_zret C hr rfl dX6_endsPeriod_18 ⟨(by simp only [if_neg c10]), rfl⟩
  · refine G_iconst C (v := 1) dX6_endsPeriod_13 (by decide) ?_
    refine G_goto C 18 dX6_endsPeriod_14 (by decide) ?_
    exact G_zret C hr rfl dX6_endsPeriod_18 ⟨(by simp only [if_pos c10]), rfl⟩

abbrev rm_X5_heightOf : Room := ({ frames := 0, cells := 0, slots := 0, locals := 0 } : Room)
set_option maxRecDepth 100000 in
set_option maxHeartbeats 4000000 in
theorem c_X5_heightOf {L : GL} {N : Nat} {ad : Nat → Nat} {G : Nat → va_E} {k ha : Nat} {l ml : Int32} {vr : Value} {f : Nat → Int32} {n : Int32} (lt_k : k < N) (lt_ha : ha < N) (gk : G k = .inr (5, [vr, .ref (ad ha), .int l, .int ml])) (gh : G ha = .inl (L.ac 0, 61, .inl f))  : GM L yX5_heightOf cX5_heightOf 2 ((some .int)) rm_X5_heightOf N ad G [.ref (ad k), .int n] (fun vo G' => vo = some (.int (hOf f n)) ∧ G = G') := by
  refine GM.of (own := RX5) (lo := [(0, .ref (ad k)), (1, .int n)]) (by decide +kernel) rfl rfl (Nat.le_of_ble_eq_true rfl) (fun E C hr => ?_)
  refine G_iload_n C 1 dX5_heightOf_0 rfl rfl ?_
  refine G_if_lt C 22 dX5_heightOf_1 (by decide) (fun c1 => ?_) (fun c1 => ?_)
  · refine G_iconst C (v := (-1)) dX5_heightOf_22 (by decide) ?_
    exact G_zret C hr rfl dX5_heightOf_23 ⟨(by simp only [hOf, if_pos c1]), rfl⟩
  · refine G_iload_n C 1 dX5_heightOf_4 rfl rfl ?_
    refine G_aload_n C 0 dX5_heightOf_5 rfl rfl ?_
    refine G_get C k lt_k gk rfl inA5 1 (by decide) rfl kf_X5_9 rfl dX5_heightOf_6 ?_
    refine G_alen C ha lt_ha 0 gh rfl (v := 61) rfl dX5_heightOf_9 ?_
    refine G_icmp_ge C 22 dX5_heightOf_10 (by decide) (fun c10 => ?_) (fun c10 => ?_)
    · refine G_iconst C (v := (-1)) dX5_heightOf_22 (by decide) ?_
      exact G_zret C hr rfl dX5_heightOf_23 ⟨(by simp only [hOf, if_neg c1, if_pos c10]), rfl⟩
    · refine G_aload_n C 0 dX5_heightOf_13 rfl rfl ?_
      refine G_get C k lt_k gk rfl inA5 1 (by decide) rfl kf_X5_9 rfl dX5_heightOf_14 ?_
      refine G_iload_n C 1 dX5_heightOf_17 rfl rfl ?_
      refine G_iald C ha lt_ha gh (vin (M := 61) rfl (by decide) c1 c10) dX5_heightOf_18 ?_
      refine G_goto C 23 dX5_heightOf_19 (by decide) ?_
      exact G_zret C hr rfl dX5_heightOf_23 ⟨(by simp only [hOf, if_neg c1, if_neg c10]), rfl⟩

abbrev rm_X5_has : Room := ({ frames := 1, cells := 0, slots := 0, locals := 21 } : Room)
set_option maxRecDepth 100000 in
set_option maxHeartbeats 4000000 in
theorem c_X5_has {L : GL} {N : Nat} {ad : Nat → Nat} {G : Nat → va_E} {k ha : Nat} {l ml : Int32} {vr : Value} {f : Nat → Int32} {n : Int32} (lt_k : k < N) (lt_ha : ha < N) (gk : G k = .inr (5, [vr, .ref (ad ha), .int l, .int ml])) (gh : G ha = .inl (L.ac 0, 61, .inl f))  : GM L yX5_has cX5_has 2 ((some .boolean)) rm_X5_has N ad G [.ref (ad k), .int n] (fun vo G' => vo = some (.int (hasF f n)) ∧ G = G') := by
  refine GM.of (own := RX5) (lo := [(0, .ref (ad k)), (1, .int n)]) (by decide +kernel) rfl rfl (Nat.le_of_ble_eq_true rfl) (fun E C hr => ?_)
  refine G_aload_n C 0 dX5_has_0 rfl rfl ?_
  refine G_iload_n C 1 dX5_has_1 rfl rfl ?_
  refine G_callV C (As := [.int n]) (rest := []) (c_X5_heightOf lt_k lt_ha gk gh) ca_X5_heightOf km_X5_38 lt_k gk rfl rfl rfl rfl (by decide) (Nat.le_of_ble_eq_true rfl) (by decide) dX5_has_2 (fun vv1 gg2 qq3 => ?_)
  obtain ⟨rfl, rfl⟩ := qq3
  refine G_iconst C (v := (-1)) dX5_has_5 (by decide) ?_
  refine G_icmp_eq C 13 dX5_has_6 (by decide) (fun c6 => ?_) (fun c6 => ?_)
  · refine G_iconst C (v := 0) dX5_has_13 (by decide) ?_
    exact G_zret C hr rfl dX5_has_14 ⟨(by simp only [hasF, if_pos c6]), rfl⟩
  · refine G_iconst C (v := 1) dX5_has_9 (by decide) ?_
    refine G_goto C 14 dX5_has_10 (by decide) ?_
    exact G_zret C hr rfl dX5_has_14 ⟨(by simp only [hasF, if_neg c6]), rfl⟩

abbrev rm_X4_isSquare : Room := ({ frames := 0, cells := 0, slots := 0, locals := 0 } : Room)
set_option maxRecDepth 100000 in
set_option maxHeartbeats 4000000 in
theorem c_X4_isSquare {L : GL} {N : Nat} {ad : Nat → Nat} {G : Nat → va_E} {r : Nat} {rt rp rx ry rg : Nat} {n : Int32} (lt_r : r < N) (lt_rp : rp < N) (gr : G r = .inr (4, [.ref (ad rt), .ref (ad rp), .ref (ad rx), .ref (ad ry), .ref (ad rg)])) (grp : G rp = .inl (L.ac 0, 61, .inl tPer))  : GM L yX4_isSquare cX4_isSquare 2 ((some .boolean)) rm_X4_isSquare N ad G [.ref (ad r), .int n] (fun vo G' => vo = some (.int (sqF n)) ∧ G = G') := by
  refine GM.of (own := RX4) (lo := [(0, .ref (ad r)), (1, .int n)]) (by decide +kernel) rfl rfl (Nat.le_of_ble_eq_true rfl) (fun E C hr => ?_)
  refine G_iload_n C 1 dX4_isSquare_0 rfl rfl ?_
  refine G_if_lt C 26 dX4_isSquare_1 (by decide) (fun c1 => ?_) (fun c1 => ?_)
  · refine G_iconst C (v := 0) dX4_isSquare_26 (by decide) ?_
    exact G_zret C hr rfl dX4_isSquare_27 ⟨(by simp only [sqF, if_pos c1]), rfl⟩
  · refine G_iload_n C 1 dX4_isSquare_4 rfl rfl ?_
    refine G_aload_n C 0 dX4_isSquare_5 rfl rfl ?_
    refine G_get C r lt_r gr rfl inA4 1 (by decide) rfl kf_X4_18 rfl dX4_isSquare_6 ?_
    refine G_alen C rp lt_rp 0 grp rfl (v := 61) rfl dX4_isSquare_9 ?_
    refine G_icmp_ge C 26 dX4_isSquare_10 (by decide) (fun c10 => ?_) (fun c10 => ?_)
    · refine G_iconst C (v := 0) dX4_isSquare_26 (by decide) ?_
      exact G_zret C hr rfl dX4_isSquare_27 ⟨(by simp only [sqF, if_neg c1, if_pos c10]), rfl⟩
    · refine G_aload_n C 0 dX4_isSquare_13 rfl rfl ?_
      refine G_get C r lt_r gr rfl inA4 1 (by decide) rfl kf_X4_18 rfl dX4_isSquare_14 ?_
      refine G_iload_n C 1 dX4_isSquare_17 rfl rfl ?_
      refine G_iald C rp lt_rp grp (vin (M := 61) rfl (by decide) c1 c10) dX4_isSquare_18 ?_
      refine G_if_ne C 26 dX4_isSquare_19 (by decide) (fun c19 => ?_) (fun c19 => ?_)
      · refine G_iconst C (v := 0) dX4_isSquare_26 (by decide) ?_
        exact G_zret C hr rfl dX4_isSquare_27 ⟨(by simp only [sqF, if_neg c1, if_neg c10, if_neg c19]), rfl⟩
      · refine G_iconst C (v := 1) dX4_isSquare_22 (by decide) ?_
        refine G_goto C 27 dX4_isSquare_23 (by decide) ?_
        exact G_zret C hr rfl dX4_isSquare_27 ⟨(by simp only [sqF, if_neg c1, if_neg c10, if_pos c19]), rfl⟩

abbrev rm_X4_period : Room := ({ frames := 0, cells := 0, slots := 0, locals := 0 } : Room)
set_option maxRecDepth 100000 in
set_option maxHeartbeats 4000000 in
theorem c_X4_period {L : GL} {N : Nat} {ad : Nat → Nat} {G : Nat → va_E} {r : Nat} {rt rp rx ry rg : Nat} {n : Int32} (lt_r : r < N) (lt_rp : rp < N) (gr : G r = .inr (4, [.ref (ad rt), .ref (ad rp), .ref (ad rx), .ref (ad ry), .ref (ad rg)])) (grp : G rp = .inl (L.ac 0, 61, .inl tPer))  : GM L yX4_period cX4_period 2 ((some .int)) rm_X4_period N ad G [.ref (ad r), .int n] (fun vo G' => vo = some (.int (tabF tPer n)) ∧ G = G') := by
  refine GM.of (own := RX4) (lo := [(0, .ref (ad r)), (1, .int n)]) (by decide +kernel) rfl rfl (Nat.le_of_ble_eq_true rfl) (fun E C hr => ?_)
  refine G_iload_n C 1 dX4_period_0 rfl rfl ?_
  refine G_if_lt C 22 dX4_period_1 (by decide) (fun c1 => ?_) (fun c1 => ?_)
  · refine G_iconst C (v := 0) dX4_period_22 (by decide) ?_
    exact G_zret C hr rfl dX4_period_23 ⟨(by simp only [tabF, if_pos c1]), rfl⟩
  · refine G_iload_n C 1 dX4_period_4 rfl rfl ?_
    refine G_aload_n C 0 dX4_period_5 rfl rfl ?_
    refine G_get C r lt_r gr rfl inA4 1 (by decide) rfl kf_X4_18 rfl dX4_period_6 ?_
    refine G_alen C rp lt_rp 0 grp rfl (v := 61) rfl dX4_period_9 ?_
    refine G_icmp_ge C 22 dX4_period_10 (by decide) (fun c10 => ?_) (fun c10 => ?_)
    · refine G_iconst C (v := 0) dX4_period_22 (by decide) ?_
      exact G_zret C hr rfl dX4_period_23 ⟨(by simp only [tabF, if_neg c1, if_pos c10]), rfl⟩
    · refine G_aload_n C 0 dX4_period_13 rfl rfl ?_
      refine G_get C r lt_r gr rfl inA4 1 (by decide) rfl kf_X4_18 rfl dX4_period_14 ?_
      refine G_iload_n C 1 dX4_period_17 rfl rfl ?_
      refine G_iald C rp lt_rp grp (vin (M := 61) rfl (by decide) c1 c10) dX4_period_18 ?_
      refine G_goto C 23 dX4_period_19 (by decide) ?_
      exact G_zret C hr rfl dX4_period_23 ⟨(by simp only [tabF, if_neg c1, if_neg c10]), rfl⟩

abbrev rm_X4_xOfUnit : Room := ({ frames := 0, cells := 0, slots := 0, locals := 0 } : Room)
set_option maxRecDepth 100000 in
set_option maxHeartbeats 4000000 in
theorem c_X4_xOfUnit {L : GL} {N : Nat} {ad : Nat → Nat} {G : Nat → va_E} {r : Nat} {rt rp rx ry rg : Nat} {n : Int32} {tx : Nat → Int32} (lt_r : r < N) (lt_rx : rx < N) (gr : G r = .inr (4, [.ref (ad rt), .ref (ad rp), .ref (ad rx), .ref (ad ry), .ref (ad rg)])) (grx : G rx = .inl (L.ac 0, 61, .inl tx))  : GM L yX4_xOfUnit cX4_xOfUnit 2 ((some .int)) rm_X4_xOfUnit N ad G [.ref (ad r), .int n] (fun vo G' => vo = some (.int (tabF tx n)) ∧ G = G') := by
  refine GM.of (own := RX4) (lo := [(0, .ref (ad r)), (1, .int n)]) (by decide +kernel) rfl rfl (Nat.le_of_ble_eq_true rfl) (fun E C hr => ?_)
  refine G_iload_n C 1 dX4_xOfUnit_0 rfl rfl ?_
  refine G_if_lt C 22 dX4_xOfUnit_1 (by decide) (fun c1 => ?_) (fun c1 => ?_)
  · refine G_iconst C (v := 0) dX4_xOfUnit_22 (by decide) ?_
    exact G_zret C hr rfl dX4_xOfUnit_23 ⟨(by simp only [tabF, if_pos c1]), rfl⟩
  · refine G_iload_n C 1 dX4_xOfUnit_4 rfl rfl ?_
    refine G_aload_n C 0 dX4_xOfUnit_5 rfl rfl ?_
    refine G_get C r lt_r gr rfl inA4 2 (by decide) rfl kf_X4_22 rfl dX4_xOfUnit_6 ?_
    refine G_alen C rx lt_rx 0 grx rfl (v := 61) rfl dX4_xOfUnit_9 ?_
    refine G_icmp_ge C 22 dX4_xOfUnit_10 (by decide) (fun c10 => ?_) (fun c10 => ?_)
    · refine G_iconst C (v := 0) dX4_xOfUnit_22 (by decide) ?_
      exact G_zret C hr rfl dX4_xOfUnit_23 ⟨(by simp only [tabF, if_neg c1, if_pos c10]), rfl⟩
    · refine G_aload_n C 0 dX4_xOfUnit_13 rfl rfl ?_
      refine G_get C r lt_r gr rfl inA4 2 (by decide) rfl kf_X4_22 rfl dX4_xOfUnit_14 ?_
      refine G_iload_n C 1 dX4_xOfUnit_17 rfl rfl ?_
      refine G_iald C rx lt_rx grx (vin (M := 61) rfl (by decide) c1 c10) dX4_xOfUnit_18 ?_
      refine G_goto C 23 dX4_xOfUnit_19 (by decide) ?_
      exact G_zret C hr rfl dX4_xOfUnit_23 ⟨(by simp only [tabF, if_neg c1, if_neg c10]), rfl⟩

abbrev rm_X4_yOfUnit : Room := ({ frames := 0, cells := 0, slots := 0, locals := 0 } : Room)
set_option maxRecDepth 100000 in
set_option maxHeartbeats 4000000 in
theorem c_X4_yOfUnit {L : GL} {N : Nat} {ad : Nat → Nat} {G : Nat → va_E} {r : Nat} {rt rp rx ry rg : Nat} {n : Int32} {ty : Nat → Int32} (lt_r : r < N) (lt_ry : ry < N) (gr : G r = .inr (4, [.ref (ad rt), .ref (ad rp), .ref (ad rx), .ref (ad ry), .ref (ad rg)])) (gry : G ry = .inl (L.ac 0, 61, .inl ty))  : GM L yX4_yOfUnit cX4_yOfUnit 2 ((some .int)) rm_X4_yOfUnit N ad G [.ref (ad r), .int n] (fun vo G' => vo = some (.int (tabF ty n)) ∧ G = G') := by
  refine GM.of (own := RX4) (lo := [(0, .ref (ad r)), (1, .int n)]) (by decide +kernel) rfl rfl (Nat.le_of_ble_eq_true rfl) (fun E C hr => ?_)
  refine G_iload_n C 1 dX4_yOfUnit_0 rfl rfl ?_
  refine G_if_lt C 22 dX4_yOfUnit_1 (by decide) (fun c1 => ?_) (fun c1 => ?_)
  · refine G_iconst C (v := 0) dX4_yOfUnit_22 (by decide) ?_
    exact G_zret C hr rfl dX4_yOfUnit_23 ⟨(by simp only [tabF, if_pos c1]), rfl⟩
  · refine G_iload_n C 1 dX4_yOfUnit_4 rfl rfl ?_
    refine G_aload_n C 0 dX4_yOfUnit_5 rfl rfl ?_
    refine G_get C r lt_r gr rfl inA4 3 (by decide) rfl kf_X4_25 rfl dX4_yOfUnit_6 ?_
    refine G_alen C ry lt_ry 0 gry rfl (v := 61) rfl dX4_yOfUnit_9 ?_
    refine G_icmp_ge C 22 dX4_yOfUnit_10 (by decide) (fun c10 => ?_) (fun c10 => ?_)
    · refine G_iconst C (v := 0) dX4_yOfUnit_22 (by decide) ?_
      exact G_zret C hr rfl dX4_yOfUnit_23 ⟨(by simp only [tabF, if_neg c1, if_pos c10]), rfl⟩
    · refine G_aload_n C 0 dX4_yOfUnit_13 rfl rfl ?_
      refine G_get C r lt_r gr rfl inA4 3 (by decide) rfl kf_X4_25 rfl dX4_yOfUnit_14 ?_
      refine G_iload_n C 1 dX4_yOfUnit_17 rfl rfl ?_
      refine G_iald C ry lt_ry gry (vin (M := 61) rfl (by decide) c1 c10) dX4_yOfUnit_18 ?_
      refine G_goto C 23 dX4_yOfUnit_19 (by decide) ?_
      exact G_zret C hr rfl dX4_yOfUnit_23 ⟨(by simp only [tabF, if_neg c1, if_neg c10]), rfl⟩

abbrev rm_X4_greatestPower : Room := ({ frames := 0, cells := 0, slots := 0, locals := 0 } : Room)
set_option maxRecDepth 100000 in
set_option maxHeartbeats 4000000 in
theorem c_X4_greatestPower {L : GL} {N : Nat} {ad : Nat → Nat} {G : Nat → va_E} {r : Nat} {rt rp rx ry rg : Nat} {n : Int32} (lt_r : r < N) (lt_rg : rg < N) (gr : G r = .inr (4, [.ref (ad rt), .ref (ad rp), .ref (ad rx), .ref (ad ry), .ref (ad rg)])) (grg : G rg = .inl (L.ac 0, 61, .inl tGp))  : GM L yX4_greatestPower cX4_greatestPower 2 ((some .int)) rm_X4_greatestPower N ad G [.ref (ad r), .int n] (fun vo G' => vo = some (.int (tabF tGp n)) ∧ G = G') := by
  refine GM.of (own := RX4) (lo := [(0, .ref (ad r)), (1, .int n)]) (by decide +kernel) rfl rfl (Nat.le_of_ble_eq_true rfl) (fun E C hr => ?_)
  refine G_iload_n C 1 dX4_greatestPower_0 rfl rfl ?_
  refine G_if_lt C 22 dX4_greatestPower_1 (by decide) (fun c1 => ?_) (fun c1 => ?_)
  · refine G_iconst C (v := 0) dX4_greatestPower_22 (by decide) ?_
    exact G_zret C hr rfl dX4_greatestPower_23 ⟨(by simp only [tabF, if_pos c1]), rfl⟩
  · refine G_iload_n C 1 dX4_greatestPower_4 rfl rfl ?_
    refine G_aload_n C 0 dX4_greatestPower_5 rfl rfl ?_
    refine G_get C r lt_r gr rfl inA4 4 (by decide) rfl kf_X4_28 rfl dX4_greatestPower_6 ?_
    refine G_alen C rg lt_rg 0 grg rfl (v := 61) rfl dX4_greatestPower_9 ?_
    refine G_icmp_ge C 22 dX4_greatestPower_10 (by decide) (fun c10 => ?_) (fun c10 => ?_)
    · refine G_iconst C (v := 0) dX4_greatestPower_22 (by decide) ?_
      exact G_zret C hr rfl dX4_greatestPower_23 ⟨(by simp only [tabF, if_neg c1, if_pos c10]), rfl⟩
    · refine G_aload_n C 0 dX4_greatestPower_13 rfl rfl ?_
      refine G_get C r lt_r gr rfl inA4 4 (by decide) rfl kf_X4_28 rfl dX4_greatestPower_14 ?_
      refine G_iload_n C 1 dX4_greatestPower_17 rfl rfl ?_
      refine G_iald C rg lt_rg grg (vin (M := 61) rfl (by decide) c1 c10) dX4_greatestPower_18 ?_
      refine G_goto C 23 dX4_greatestPower_19 (by decide) ?_
      exact G_zret C hr rfl dX4_greatestPower_23 ⟨(by simp only [tabF, if_neg c1, if_neg c10]), rfl⟩

abbrev rm_X4_signOfUnit : Room := ({ frames := 1, cells := 0, slots := 0, locals := 21 } : Room)
set_option maxRecDepth 100000 in
set_option maxHeartbeats 4000000 in
theorem c_X4_signOfUnit {L : GL} {N : Nat} {ad : Nat → Nat} {G : Nat → va_E} {r : Nat} {rt rp rx ry rg : Nat} {n : Int32} (lt_r : r < N) (lt_rp : rp < N) (gr : G r = .inr (4, [.ref (ad rt), .ref (ad rp), .ref (ad rx), .ref (ad ry), .ref (ad rg)])) (grp : G rp = .inl (L.ac 0, 61, .inl tPer))  : GM L yX4_signOfUnit cX4_signOfUnit 2 ((some .int)) rm_X4_signOfUnit N ad G [.ref (ad r), .int n] (fun vo G' => vo = some (.int (sgF n)) ∧ G = G') := by
  refine GM.of (own := RX4) (lo := [(0, .ref (ad r)), (1, .int n)]) (by decide +kernel) rfl rfl (Nat.le_of_ble_eq_true rfl) (fun E C hr => ?_)
  refine G_aload_n C 0 dX4_signOfUnit_0 rfl rfl ?_
  refine G_iload_n C 1 dX4_signOfUnit_1 rfl rfl ?_
  refine G_callV C (As := [.int n]) (rest := []) (c_X4_period lt_r lt_rp gr grp) ca_X4_period km_X4_76 lt_r gr rfl rfl rfl rfl (by decide) (Nat.le_of_ble_eq_true rfl) (by decide) dX4_signOfUnit_2 (fun vv1 gg2 qq3 => ?_)
  obtain ⟨rfl, rfl⟩ := qq3
  refine G_iconst C (v := 2) dX4_signOfUnit_5 (by decide) ?_
  refine G_irem C dX4_signOfUnit_6 (by decide) ?_
  refine G_if_ne C 14 dX4_signOfUnit_7 (by decide) (fun c7 => ?_) (fun c7 => ?_)
  · refine G_iconst C (v := (-1)) dX4_signOfUnit_14 (by decide) ?_
    exact G_zret C hr rfl dX4_signOfUnit_15 ⟨(by simp only [sgF, if_neg c7]), rfl⟩
  · refine G_iconst C (v := 1) dX4_signOfUnit_10 (by decide) ?_
    refine G_goto C 15 dX4_signOfUnit_11 (by decide) ?_
    exact G_zret C hr rfl dX4_signOfUnit_15 ⟨(by simp only [sgF, if_pos c7]), rfl⟩

abbrev rm_X5_sign : Room := ({ frames := 2, cells := 0, slots := 0, locals := 42 } : Room)
set_option maxRecDepth 100000 in
set_option maxHeartbeats 4000000 in
theorem c_X5_sign {L : GL} {N : Nat} {ad : Nat → Nat} {G : Nat → va_E} {k r ha : Nat} {rt rp rx ry rg : Nat} {l ml : Int32} {f : Nat → Int32} {n : Int32} (lt_k : k < N) (lt_ha : ha < N) (lt_r : r < N) (lt_rp : rp < N) (gk : G k = .inr (5, [.ref (ad r), .ref (ad ha), .int l, .int ml])) (gh : G ha = .inl (L.ac 0, 61, .inl f)) (gr : G r = .inr (4, [.ref (ad rt), .ref (ad rp), .ref (ad rx), .ref (ad ry), .ref (ad rg)])) (grp : G rp = .inl (L.ac 0, 61, .inl tPer))  : GM L yX5_sign cX5_sign 2 ((some .int)) rm_X5_sign N ad G [.ref (ad k), .int n] (fun vo G' => vo = some (.int (signF f n)) ∧ G = G') := by
  refine GM.of (own := RX5) (lo := [(0, .ref (ad k)), (1, .int n)]) (by decide +kernel) rfl rfl (Nat.le_of_ble_eq_true rfl) (fun E C hr => ?_)
  refine G_aload_n C 0 dX5_sign_0 rfl rfl ?_
  refine G_get C k lt_k gk rfl inA5 0 (by decide) rfl kf_X5_15 rfl dX5_sign_1 ?_
  refine G_iload_n C 1 dX5_sign_4 rfl rfl ?_
  refine G_callV C (As := [.int n]) (rest := []) (c_X4_signOfUnit lt_r lt_rp gr grp) ca_X4_signOfUnit km_X5_42 lt_r gr rfl rfl rfl rfl (by decide) (Nat.le_of_ble_eq_true rfl) (by decide) dX5_sign_5 (fun vv1 gg2 qq3 => ?_)
  obtain ⟨rfl, rfl⟩ := qq3
  refine G_iconst C (v := (-1)) dX5_sign_8 (by decide) ?_
  refine G_icmp_ne C 27 dX5_sign_9 (by decide) (fun c9 => ?_) (fun c9 => ?_)
  · refine G_iconst C (v := 1) dX5_sign_27 (by decide) ?_
    exact G_zret C hr rfl dX5_sign_28 ⟨(by simp only [signF, if_neg c9]), rfl⟩
  · refine G_aload_n C 0 dX5_sign_12 rfl rfl ?_
    refine G_iload_n C 1 dX5_sign_13 rfl rfl ?_
    refine G_callV C (As := [.int n]) (rest := []) (c_X5_heightOf lt_k lt_ha gk gh) ca_X5_heightOf km_X5_38 lt_k gk rfl rfl rfl rfl (by decide) (Nat.le_of_ble_eq_true rfl) (by decide) dX5_sign_14 (fun vv4 gg5 qq6 => ?_)
    obtain ⟨rfl, rfl⟩ := qq6
    refine G_iconst C (v := 2) dX5_sign_17 (by decide) ?_
    refine G_irem C dX5_sign_18 (by decide) ?_
    refine G_iconst C (v := 1) dX5_sign_19 (by decide) ?_
    refine G_icmp_ne C 27 dX5_sign_20 (by decide) (fun c20 => ?_) (fun c20 => ?_)
    · refine G_iconst C (v := 1) dX5_sign_27 (by decide) ?_
      exact G_zret C hr rfl dX5_sign_28 ⟨(by simp only [signF, if_pos c9, if_neg c20]), rfl⟩
    · refine G_iconst C (v := (-1)) dX5_sign_23 (by decide) ?_
      refine G_goto C 28 dX5_sign_24 (by decide) ?_
      exact G_zret C hr rfl dX5_sign_28 ⟨(by simp only [signF, if_pos c9, if_pos c20]), rfl⟩

abbrev rm_X5_reasonAgainstLaying : Room := ({ frames := 1, cells := 0, slots := 0, locals := 21 } : Room)
set_option maxRecDepth 100000 in
set_option maxHeartbeats 4000000 in
theorem c_X5_reasonAgainstLaying {L : GL} {N : Nat} {ad : Nat → Nat} {G : Nat → va_E} {k r ha : Nat} {rt rp rx ry rg : Nat} {l ml : Int32} {f : Nat → Int32} {n : Int32} (lt_k : k < N) (lt_ha : ha < N) (lt_r : r < N) (lt_rp : rp < N) (gk : G k = .inr (5, [.ref (ad r), .ref (ad ha), .int l, .int ml])) (gh : G ha = .inl (L.ac 0, 61, .inl f)) (gr : G r = .inr (4, [.ref (ad rt), .ref (ad rp), .ref (ad rx), .ref (ad ry), .ref (ad rg)])) (grp : G rp = .inl (L.ac 0, 61, .inl tPer))  : GM L yX5_reasonAgainstLaying cX5_reasonAgainstLaying 2 ((some .int)) rm_X5_reasonAgainstLaying N ad G [.ref (ad k), .int n] (fun vo G' => vo = some (.int (rsnF f l n)) ∧ G = G') := by
  refine GM.of (own := RX5) (lo := [(0, .ref (ad k)), (1, .int n)]) (by decide +kernel) rfl rfl (Nat.le_of_ble_eq_true rfl) (fun E C hr => ?_)
  refine G_aload_n C 0 dX5_reasonAgainstLaying_0 rfl rfl ?_
  refine G_get C k lt_k gk rfl inA5 0 (by decide) rfl kf_X5_15 rfl dX5_reasonAgainstLaying_1 ?_
  refine G_iload_n C 1 dX5_reasonAgainstLaying_4 rfl rfl ?_
  refine G_callV C (As := [.int n]) (rest := []) (c_X4_isSquare lt_r lt_rp gr grp) ca_X4_isSquare km_X5_47 lt_r gr rfl rfl rfl rfl (by decide) (Nat.le_of_ble_eq_true rfl) (by decide) dX5_reasonAgainstLaying_5 (fun vv1 gg2 qq3 => ?_)
  obtain ⟨rfl, rfl⟩ := qq3
  refine G_if_eq C 13 dX5_reasonAgainstLaying_8 (by decide) (fun c8 => ?_) (fun c8 => ?_)
  · refine G_aload_n C 0 dX5_reasonAgainstLaying_13 rfl rfl ?_
    refine G_iload_n C 1 dX5_reasonAgainstLaying_14 rfl rfl ?_
    refine G_callV C (As := [.int n]) (rest := []) (c_X5_heightOf lt_k lt_ha gk gh) ca_X5_heightOf km_X5_38 lt_k gk rfl rfl rfl rfl (by decide) (Nat.le_of_ble_eq_true rfl) (by decide) dX5_reasonAgainstLaying_15 (fun vv4 gg5 qq6 => ?_)
    obtain ⟨rfl, rfl⟩ := qq6
    refine G_iconst C (v := (-1)) dX5_reasonAgainstLaying_18 (by decide) ?_
    refine G_icmp_eq C 24 dX5_reasonAgainstLaying_19 (by decide) (fun c19 => ?_) (fun c19 => ?_)
    · refine G_aload_n C 0 dX5_reasonAgainstLaying_24 rfl rfl ?_
      refine G_get C k lt_k gk rfl inA5 2 (by decide) rfl kf_X5_31 rfl dX5_reasonAgainstLaying_25 ?_
      refine G_bipush C (v := 8) dX5_reasonAgainstLaying_28 (by decide) ?_
      refine G_icmp_lt C 37 dX5_reasonAgainstLaying_30 (by decide) (fun c30 => ?_) (fun c30 => ?_)
      · refine G_iconst C (v := 0) dX5_reasonAgainstLaying_37 (by decide) ?_
        exact G_zret C hr rfl dX5_reasonAgainstLaying_38 ⟨(by simp only [rsnF, if_pos c8, if_pos c19, if_pos c30]), rfl⟩
      · refine G_iconst C (v := 3) dX5_reasonAgainstLaying_33 (by decide) ?_
        refine G_goto C 38 dX5_reasonAgainstLaying_34 (by decide) ?_
        exact G_zret C hr rfl dX5_reasonAgainstLaying_38 ⟨(by simp only [rsnF, if_pos c8, if_pos c19, if_neg c30]), rfl⟩
    · refine G_iconst C (v := 2) dX5_reasonAgainstLaying_22 (by decide) ?_
      exact G_zret C hr rfl dX5_reasonAgainstLaying_23 ⟨(by simp only [rsnF, if_pos c8, if_neg c19]), rfl⟩
  · refine G_iconst C (v := 1) dX5_reasonAgainstLaying_11 (by decide) ?_
    exact G_zret C hr rfl dX5_reasonAgainstLaying_12 ⟨(by simp only [rsnF, if_neg c8]), rfl⟩

abbrev rm_X5_causeAgainst : Room := ({ frames := 2, cells := 0, slots := 0, locals := 42 } : Room)
set_option maxRecDepth 100000 in
set_option maxHeartbeats 4000000 in
theorem c_X5_causeAgainst {L : GL} {N : Nat} {ad : Nat → Nat} {G : Nat → va_E} {k r ha : Nat} {rt rp rx ry rg : Nat} {l ml : Int32} {f : Nat → Int32} {ch n : Int32} (lt_k : k < N) (lt_ha : ha < N) (lt_r : r < N) (lt_rp : rp < N) (lt_rg : rg < N) (gk : G k = .inr (5, [.ref (ad r), .ref (ad ha), .int l, .int ml])) (gh : G ha = .inl (L.ac 0, 61, .inl f)) (gr : G r = .inr (4, [.ref (ad rt), .ref (ad rp), .ref (ad rx), .ref (ad ry), .ref (ad rg)])) (grp : G rp = .inl (L.ac 0, 61, .inl tPer)) (grg : G rg = .inl (L.ac 0, 61, .inl tGp))  : GM L yX5_causeAgainst cX5_causeAgainst 5 ((some .int)) rm_X5_causeAgainst N ad G [.ref (ad k), .int ch, .int n] (fun vo G' => vo = some (.int (causeF f l ch n)) ∧ G = G') := by
  refine GM.of (own := RX5) (lo := [(0, .ref (ad k)), (1, .int ch), (2, .int n)]) (by decide +kernel) rfl rfl (Nat.le_of_ble_eq_true rfl) (fun E C hr => ?_)
  refine G_iload_n C 2 dX5_causeAgainst_0 rfl rfl ?_
  refine G_callSN C (As := [.int n]) (rest := []) c_X8_isNumber ca_X8_isNumber kn_X5_51 rfl rfl (by decide) (Nat.le_of_ble_eq_true rfl) (by decide) dX5_causeAgainst_1 (fun vv1 gg2 qq3 => ?_)
  obtain ⟨rfl, rfl⟩ := qq3
  refine G_if_ne C 9 dX5_causeAgainst_4 (by decide) (fun c4 => ?_) (fun c4 => ?_)
  · refine G_aload_n C 0 dX5_causeAgainst_9 rfl rfl ?_
    refine G_iload_n C 2 dX5_causeAgainst_10 rfl rfl ?_
    refine G_callV C (As := [.int n]) (rest := []) (c_X5_heightOf lt_k lt_ha gk gh) ca_X5_heightOf km_X5_38 lt_k gk rfl rfl rfl rfl (by decide) (Nat.le_of_ble_eq_true rfl) (by decide) dX5_causeAgainst_11 (fun vv4 gg5 qq6 => ?_)
    obtain ⟨rfl, rfl⟩ := qq6
    refine G_istore_n C 3 (lo' := [(3, .int (hOf f n)), (0, .ref (ad k)), (1, .int ch), (2, .int n)]) dX5_causeAgainst_14 rfl (by decide) rfl ?_
    refine G_iload_n C 3 dX5_causeAgainst_15 rfl rfl ?_
    refine G_iconst C (v := (-1)) dX5_causeAgainst_16 (by decide) ?_
    refine G_icmp_eq C 24 dX5_causeAgainst_17 (by decide) (fun c17 => ?_) (fun c17 => ?_)
    · refine G_iconst C (v := 0) dX5_causeAgainst_24 (by decide) ?_
      refine G_istore C (lo' := [(4, .int 0), (3, .int (hOf f n)), (0, .ref (ad k)), (1, .int ch), (2, .int n)]) dX5_causeAgainst_25 (by decide) rfl ?_
      refine G_iload_n C 1 dX5_causeAgainst_27 rfl rfl ?_
      refine G_bipush C (v := 108) dX5_causeAgainst_28 (by decide) ?_
      refine G_icmp_ne C 51 dX5_causeAgainst_30 (by decide) (fun c30 => ?_) (fun c30 => ?_)
      · refine G_iload_n C 1 dX5_causeAgainst_51 rfl rfl ?_
        refine G_bipush C (v := 109) dX5_causeAgainst_52 (by decide) ?_
        refine G_icmp_ne C 84 dX5_causeAgainst_54 (by decide) (fun c54 => ?_) (fun c54 => ?_)
        · refine G_iload_n C 1 dX5_causeAgainst_84 rfl rfl ?_
          refine G_bipush C (v := 98) dX5_causeAgainst_85 (by decide) ?_
          refine G_icmp_ne C 101 dX5_causeAgainst_87 (by decide) (fun c87 => ?_) (fun c87 => ?_)
          · refine G_iload C dX5_causeAgainst_101 rfl ?_
            refine G_if_eq C 110 dX5_causeAgainst_103 (by decide) (fun _ => ?_) (fun h => absurd h (by decide))
            refine G_iconst C (v := 2) dX5_causeAgainst_110 (by decide) ?_
            exact G_zret C hr rfl dX5_causeAgainst_111 ⟨(by first | contradiction | simp only [causeF, if_neg c4, if_pos c17, if_neg c30, if_neg c54, if_neg c87]), rfl⟩
          · refine G_iload_n C 3 dX5_causeAgainst_90 rfl rfl ?_
            refine G_if_le C 98 dX5_causeAgainst_91 (by decide) (fun c91 => ?_) (fun c91 => ?_)
            · refine G_iconst C (v := 0) dX5_causeAgainst_98 (by decide) ?_
              refine G_istore C (lo' := [(4, .int 0), (3, .int (hOf f n)), (0, .ref (ad k)), (1, .int ch), (2, .int n)]) dX5_causeAgainst_99 (by decide) rfl ?_
              refine G_iload C dX5_causeAgainst_101 rfl ?_
              refine G_if_eq C 110 dX5_causeAgainst_103 (by decide) (fun _ => ?_) (fun h => absurd h (by decide))
              refine G_iconst C (v := 2) dX5_causeAgainst_110 (by decide) ?_
              exact G_zret C hr rfl dX5_causeAgainst_111 ⟨(by first | contradiction | simp only [causeF, if_neg c4, if_pos c17, if_neg c30, if_neg c54, if_pos c87, if_pos c91]), rfl⟩
            · refine G_iconst C (v := 1) dX5_causeAgainst_94 (by decide) ?_
              refine G_goto C 99 dX5_causeAgainst_95 (by decide) ?_
              refine G_istore C (lo' := [(4, .int 1), (3, .int (hOf f n)), (0, .ref (ad k)), (1, .int ch), (2, .int n)]) dX5_causeAgainst_99 (by decide) rfl ?_
              refine G_iload C dX5_causeAgainst_101 rfl ?_
              refine G_if_eq C 110 dX5_causeAgainst_103 (by decide) (fun h => absurd h (by decide)) (fun _ => ?_)
              refine G_iconst C (v := 0) dX5_causeAgainst_106 (by decide) ?_
              refine G_goto C 111 dX5_causeAgainst_107 (by decide) ?_
              exact G_zret C hr rfl dX5_causeAgainst_111 ⟨(by first | contradiction | simp only [causeF, if_neg c4, if_pos c17, if_neg c30, if_neg c54, if_pos c87, if_neg c91]), rfl⟩
        · refine G_iload_n C 3 dX5_causeAgainst_57 rfl rfl ?_
          refine G_iconst C (v := (-1)) dX5_causeAgainst_58 (by decide) ?_
          refine G_icmp_eq C 78 dX5_causeAgainst_59 (by decide) (fun c59 => ?_) (fun c59 => ?_)
          · refine G_iconst C (v := 0) dX5_causeAgainst_78 (by decide) ?_
            refine G_istore C (lo' := [(4, .int 0), (3, .int (hOf f n)), (0, .ref (ad k)), (1, .int ch), (2, .int n)]) dX5_causeAgainst_79 (by decide) rfl ?_
            refine G_goto C 101 dX5_causeAgainst_81 (by decide) ?_
            refine G_iload C dX5_causeAgainst_101 rfl ?_
            refine G_if_eq C 110 dX5_causeAgainst_103 (by decide) (fun _ => ?_) (fun h => absurd h (by decide))
            refine G_iconst C (v := 2) dX5_causeAgainst_110 (by decide) ?_
            exact G_zret C hr rfl dX5_causeAgainst_111 ⟨(by first | contradiction | simp only [causeF, if_neg c4, if_pos c17, if_neg c30, if_pos c54, if_pos c59]), rfl⟩
          · refine G_iload_n C 3 dX5_causeAgainst_62 rfl rfl ?_
            refine G_aload_n C 0 dX5_causeAgainst_63 rfl rfl ?_
            refine G_get C k lt_k gk rfl inA5 0 (by decide) rfl kf_X5_15 rfl dX5_causeAgainst_64 ?_
            refine G_iload_n C 2 dX5_causeAgainst_67 rfl rfl ?_
            refine G_callV C (As := [.int n]) (rest := [.int (hOf f n)]) (c_X4_greatestPower lt_r lt_rg gr grg) ca_X4_greatestPower km_X5_57 lt_r gr rfl rfl rfl rfl (by decide) (Nat.le_of_ble_eq_true rfl) (by decide) dX5_causeAgainst_68 (fun vv7 gg8 qq9 => ?_)
            obtain ⟨rfl, rfl⟩ := qq9
            refine G_icmp_ge C 78 dX5_causeAgainst_71 (by decide) (fun c71 => ?_) (fun c71 => ?_)
            · refine G_iconst C (v := 0) dX5_causeAgainst_78 (by decide) ?_
              refine G_istore C (lo' := [(4, .int 0), (3, .int (hOf f n)), (0, .ref (ad k)), (1, .int ch), (2, .int n)]) dX5_causeAgainst_79 (by decide) rfl ?_
              refine G_goto C 101 dX5_causeAgainst_81 (by decide) ?_
              refine G_iload C dX5_causeAgainst_101 rfl ?_
              refine G_if_eq C 110 dX5_causeAgainst_103 (by decide) (fun _ => ?_) (fun h => absurd h (by decide))
              refine G_iconst C (v := 2) dX5_causeAgainst_110 (by decide) ?_
              exact G_zret C hr rfl dX5_causeAgainst_111 ⟨(by first | contradiction | simp only [causeF, if_neg c4, if_pos c17, if_neg c30, if_pos c54, if_neg c59, if_pos c71]), rfl⟩
            · refine G_iconst C (v := 1) dX5_causeAgainst_74 (by decide) ?_
              refine G_goto C 79 dX5_causeAgainst_75 (by decide) ?_
              refine G_istore C (lo' := [(4, .int 1), (3, .int (hOf f n)), (0, .ref (ad k)), (1, .int ch), (2, .int n)]) dX5_causeAgainst_79 (by decide) rfl ?_
              refine G_goto C 101 dX5_causeAgainst_81 (by decide) ?_
              refine G_iload C dX5_causeAgainst_101 rfl ?_
              refine G_if_eq C 110 dX5_causeAgainst_103 (by decide) (fun h => absurd h (by decide)) (fun _ => ?_)
              refine G_iconst C (v := 0) dX5_causeAgainst_106 (by decide) ?_
              refine G_goto C 111 dX5_causeAgainst_107 (by decide) ?_
              exact G_zret C hr rfl dX5_causeAgainst_111 ⟨(by first | contradiction | simp only [causeF, if_neg c4, if_pos c17, if_neg c30, if_pos c54, if_neg c59, if_neg c71]), rfl⟩
      · refine G_aload_n C 0 dX5_causeAgainst_33 rfl rfl ?_
        refine G_iload_n C 2 dX5_causeAgainst_34 rfl rfl ?_
        refine G_callV C (As := [.int n]) (rest := []) (c_X5_reasonAgainstLaying lt_k lt_ha lt_r lt_rp gk gh gr grp) ca_X5_reasonAgainstLaying km_X5_54 lt_k gk rfl rfl rfl rfl (by decide) (Nat.le_of_ble_eq_true rfl) (by decide) dX5_causeAgainst_35 (fun vv10 gg11 qq12 => ?_)
        obtain ⟨rfl, rfl⟩ := qq12
        refine G_if_ne C 45 dX5_causeAgainst_38 (by decide) (fun c38 => ?_) (fun c38 => ?_)
        · refine G_iconst C (v := 0) dX5_causeAgainst_45 (by decide) ?_
          refine G_istore C (lo' := [(4, .int 0), (3, .int (hOf f n)), (0, .ref (ad k)), (1, .int ch), (2, .int n)]) dX5_causeAgainst_46 (by decide) rfl ?_
          refine G_goto C 101 dX5_causeAgainst_48 (by decide) ?_
          refine G_iload C dX5_causeAgainst_101 rfl ?_
          refine G_if_eq C 110 dX5_causeAgainst_103 (by decide) (fun _ => ?_) (fun h => absurd h (by decide))
          refine G_iconst C (v := 2) dX5_causeAgainst_110 (by decide) ?_
          exact G_zret C hr rfl dX5_causeAgainst_111 ⟨(by first | contradiction | simp only [causeF, if_neg c4, if_pos c17, if_pos c30, if_neg c38]), rfl⟩
        · refine G_iconst C (v := 1) dX5_causeAgainst_41 (by decide) ?_
          refine G_goto C 46 dX5_causeAgainst_42 (by decide) ?_
          refine G_istore C (lo' := [(4, .int 1), (3, .int (hOf f n)), (0, .ref (ad k)), (1, .int ch), (2, .int n)]) dX5_causeAgainst_46 (by decide) rfl ?_
          refine G_goto C 101 dX5_causeAgainst_48 (by decide) ?_
          refine G_iload C dX5_causeAgainst_101 rfl ?_
          refine G_if_eq C 110 dX5_causeAgainst_103 (by decide) (fun h => absurd h (by decide)) (fun _ => ?_)
          refine G_iconst C (v := 0) dX5_causeAgainst_106 (by decide) ?_
          refine G_goto C 111 dX5_causeAgainst_107 (by decide) ?_
          exact G_zret C hr rfl dX5_causeAgainst_111 ⟨(by first | contradiction | simp only [causeF, if_neg c4, if_pos c17, if_pos c30, if_pos c38]), rfl⟩
    · refine G_iconst C (v := 1) dX5_causeAgainst_20 (by decide) ?_
      refine G_goto C 25 dX5_causeAgainst_21 (by decide) ?_
      refine G_istore C (lo' := [(4, .int 1), (3, .int (hOf f n)), (0, .ref (ad k)), (1, .int ch), (2, .int n)]) dX5_causeAgainst_25 (by decide) rfl ?_
      refine G_iload_n C 1 dX5_causeAgainst_27 rfl rfl ?_
      refine G_bipush C (v := 108) dX5_causeAgainst_28 (by decide) ?_
      refine G_icmp_ne C 51 dX5_causeAgainst_30 (by decide) (fun c30 => ?_) (fun c30 => ?_)
      · refine G_iload_n C 1 dX5_causeAgainst_51 rfl rfl ?_
        refine G_bipush C (v := 109) dX5_causeAgainst_52 (by decide) ?_
        refine G_icmp_ne C 84 dX5_causeAgainst_54 (by decide) (fun c54 => ?_) (fun c54 => ?_)
        · refine G_iload_n C 1 dX5_causeAgainst_84 rfl rfl ?_
          refine G_bipush C (v := 98) dX5_causeAgainst_85 (by decide) ?_
          refine G_icmp_ne C 101 dX5_causeAgainst_87 (by decide) (fun c87 => ?_) (fun c87 => ?_)
          · refine G_iload C dX5_causeAgainst_101 rfl ?_
            refine G_if_eq C 110 dX5_causeAgainst_103 (by decide) (fun h => absurd h (by decide)) (fun _ => ?_)
            refine G_iconst C (v := 0) dX5_causeAgainst_106 (by decide) ?_
            refine G_goto C 111 dX5_causeAgainst_107 (by decide) ?_
            exact G_zret C hr rfl dX5_causeAgainst_111 ⟨(by first | contradiction | simp only [causeF, if_neg c4, if_neg c17, if_neg c30, if_neg c54, if_neg c87]), rfl⟩
          · refine G_iload_n C 3 dX5_causeAgainst_90 rfl rfl ?_
            refine G_if_le C 98 dX5_causeAgainst_91 (by decide) (fun c91 => ?_) (fun c91 => ?_)
            · refine G_iconst C (v := 0) dX5_causeAgainst_98 (by decide) ?_
              refine G_istore C (lo' := [(4, .int 0), (3, .int (hOf f n)), (0, .ref (ad k)), (1, .int ch), (2, .int n)]) dX5_causeAgainst_99 (by decide) rfl ?_
              refine G_iload C dX5_causeAgainst_101 rfl ?_
              refine G_if_eq C 110 dX5_causeAgainst_103 (by decide) (fun _ => ?_) (fun h => absurd h (by decide))
              refine G_iconst C (v := 2) dX5_causeAgainst_110 (by decide) ?_
              exact G_zret C hr rfl dX5_causeAgainst_111 ⟨(by first | contradiction | simp only [causeF, if_neg c4, if_neg c17, if_neg c30, if_neg c54, if_pos c87, if_pos c91]), rfl⟩
            · refine G_iconst C (v := 1) dX5_causeAgainst_94 (by decide) ?_
              refine G_goto C 99 dX5_causeAgainst_95 (by decide) ?_
              refine G_istore C (lo' := [(4, .int 1), (3, .int (hOf f n)), (0, .ref (ad k)), (1, .int ch), (2, .int n)]) dX5_causeAgainst_99 (by decide) rfl ?_
              refine G_iload C dX5_causeAgainst_101 rfl ?_
              refine G_if_eq C 110 dX5_causeAgainst_103 (by decide) (fun h => absurd h (by decide)) (fun _ => ?_)
              refine G_iconst C (v := 0) dX5_causeAgainst_106 (by decide) ?_
              refine G_goto C 111 dX5_causeAgainst_107 (by decide) ?_
              exact G_zret C hr rfl dX5_causeAgainst_111 ⟨(by first | contradiction | simp only [causeF, if_neg c4, if_neg c17, if_neg c30, if_neg c54, if_pos c87, if_neg c91]), rfl⟩
        · refine G_iload_n C 3 dX5_causeAgainst_57 rfl rfl ?_
          refine G_iconst C (v := (-1)) dX5_causeAgainst_58 (by decide) ?_
          refine G_icmp_eq C 78 dX5_causeAgainst_59 (by decide) (fun c59 => ?_) (fun c59 => ?_)
          · refine G_iconst C (v := 0) dX5_causeAgainst_78 (by decide) ?_
            refine G_istore C (lo' := [(4, .int 0), (3, .int (hOf f n)), (0, .ref (ad k)), (1, .int ch), (2, .int n)]) dX5_causeAgainst_79 (by decide) rfl ?_
            refine G_goto C 101 dX5_causeAgainst_81 (by decide) ?_
            refine G_iload C dX5_causeAgainst_101 rfl ?_
            refine G_if_eq C 110 dX5_causeAgainst_103 (by decide) (fun _ => ?_) (fun h => absurd h (by decide))
            refine G_iconst C (v := 2) dX5_causeAgainst_110 (by decide) ?_
            exact G_zret C hr rfl dX5_causeAgainst_111 ⟨(by first | contradiction | simp only [causeF, if_neg c4, if_neg c17, if_neg c30, if_pos c54, if_pos c59]), rfl⟩
          · refine G_iload_n C 3 dX5_causeAgainst_62 rfl rfl ?_
            refine G_aload_n C 0 dX5_causeAgainst_63 rfl rfl ?_
            refine G_get C k lt_k gk rfl inA5 0 (by decide) rfl kf_X5_15 rfl dX5_causeAgainst_64 ?_
            refine G_iload_n C 2 dX5_causeAgainst_67 rfl rfl ?_
            refine G_callV C (As := [.int n]) (rest := [.int (hOf f n)]) (c_X4_greatestPower lt_r lt_rg gr grg) ca_X4_greatestPower km_X5_57 lt_r gr rfl rfl rfl rfl (by decide) (Nat.le_of_ble_eq_true rfl) (by decide) dX5_causeAgainst_68 (fun vv13 gg14 qq15 => ?_)
            obtain ⟨rfl, rfl⟩ := qq15
            refine G_icmp_ge C 78 dX5_causeAgainst_71 (by decide) (fun c71 => ?_) (fun c71 => ?_)
            · refine G_iconst C (v := 0) dX5_causeAgainst_78 (by decide) ?_
              refine G_istore C (lo' := [(4, .int 0), (3, .int (hOf f n)), (0, .ref (ad k)), (1, .int ch), (2, .int n)]) dX5_causeAgainst_79 (by decide) rfl ?_
              refine G_goto C 101 dX5_causeAgainst_81 (by decide) ?_
              refine G_iload C dX5_causeAgainst_101 rfl ?_
              refine G_if_eq C 110 dX5_causeAgainst_103 (by decide) (fun _ => ?_) (fun h => absurd h (by decide))
              refine G_iconst C (v := 2) dX5_causeAgainst_110 (by decide) ?_
              exact G_zret C hr rfl dX5_causeAgainst_111 ⟨(by first | contradiction | simp only [causeF, if_neg c4, if_neg c17, if_neg c30, if_pos c54, if_neg c59, if_pos c71]), rfl⟩
            · refine G_iconst C (v := 1) dX5_causeAgainst_74 (by decide) ?_
              refine G_goto C 79 dX5_causeAgainst_75 (by decide) ?_
              refine G_istore C (lo' := [(4, .int 1), (3, .int (hOf f n)), (0, .ref (ad k)), (1, .int ch), (2, .int n)]) dX5_causeAgainst_79 (by decide) rfl ?_
              refine G_goto C 101 dX5_causeAgainst_81 (by decide) ?_
              refine G_iload C dX5_causeAgainst_101 rfl ?_
              refine G_if_eq C 110 dX5_causeAgainst_103 (by decide) (fun h => absurd h (by decide)) (fun _ => ?_)
              refine G_iconst C (v := 0) dX5_causeAgainst_106 (by decide) ?_
              refine G_goto C 111 dX5_causeAgainst_107 (by decide) ?_
              exact G_zret C hr rfl dX5_causeAgainst_111 ⟨(by first | contradiction | simp only [causeF, if_neg c4, if_neg c17, if_neg c30, if_pos c54, if_neg c59, if_neg c71]), rfl⟩
      · refine G_aload_n C 0 dX5_causeAgainst_33 rfl rfl ?_
        refine G_iload_n C 2 dX5_causeAgainst_34 rfl rfl ?_
        refine G_callV C (As := [.int n]) (rest := []) (c_X5_reasonAgainstLaying lt_k lt_ha lt_r lt_rp gk gh gr grp) ca_X5_reasonAgainstLaying km_X5_54 lt_k gk rfl rfl rfl rfl (by decide) (Nat.le_of_ble_eq_true rfl) (by decide) dX5_causeAgainst_35 (fun vv16 gg17 qq18 => ?_)
        obtain ⟨rfl, rfl⟩ := qq18
        refine G_if_ne C 45 dX5_causeAgainst_38 (by decide) (fun c38 => ?_) (fun c38 => ?_)
        · refine G_iconst C (v := 0) dX5_causeAgainst_45 (by decide) ?_
          refine G_istore C (lo' := [(4, .int 0), (3, .int (hOf f n)), (0, .ref (ad k)), (1, .int ch), (2, .int n)]) dX5_causeAgainst_46 (by decide) rfl ?_
          refine G_goto C 101 dX5_causeAgainst_48 (by decide) ?_
          refine G_iload C dX5_causeAgainst_101 rfl ?_
          refine G_if_eq C 110 dX5_causeAgainst_103 (by decide) (fun _ => ?_) (fun h => absurd h (by decide))
          refine G_iconst C (v := 2) dX5_causeAgainst_110 (by decide) ?_
          exact G_zret C hr rfl dX5_causeAgainst_111 ⟨(by first | contradiction | simp only [causeF, if_neg c4, if_neg c17, if_pos c30, if_neg c38]), rfl⟩
        · refine G_iconst C (v := 1) dX5_causeAgainst_41 (by decide) ?_
          refine G_goto C 46 dX5_causeAgainst_42 (by decide) ?_
          refine G_istore C (lo' := [(4, .int 1), (3, .int (hOf f n)), (0, .ref (ad k)), (1, .int ch), (2, .int n)]) dX5_causeAgainst_46 (by decide) rfl ?_
          refine G_goto C 101 dX5_causeAgainst_48 (by decide) ?_
          refine G_iload C dX5_causeAgainst_101 rfl ?_
          refine G_if_eq C 110 dX5_causeAgainst_103 (by decide) (fun h => absurd h (by decide)) (fun _ => ?_)
          refine G_iconst C (v := 0) dX5_causeAgainst_106 (by decide) ?_
          refine G_goto C 111 dX5_causeAgainst_107 (by decide) ?_
          exact G_zret C hr rfl dX5_causeAgainst_111 ⟨(by first | contradiction | simp only [causeF, if_neg c4, if_neg c17, if_pos c30, if_pos c38]), rfl⟩
  · refine G_iconst C (v := 1) dX5_causeAgainst_7 (by decide) ?_
    exact G_zret C hr rfl dX5_causeAgainst_8 ⟨(by first | contradiction | simp only [causeF, if_pos c4]), rfl⟩

abbrev rm_X5_setHeight : Room := ({ frames := 0, cells := 0, slots := 0, locals := 0 } : Room)
set_option maxRecDepth 100000 in
set_option maxHeartbeats 4000000 in
theorem c_X5_setHeight {L : GL} {N : Nat} {ad : Nat → Nat} {G : Nat → va_E} {k ha : Nat} {l ml : Int32} {vr : Value} {f : Nat → Int32} {n v : Int32} (lt_k : k < N) (lt_ha : ha < N) (gk : G k = .inr (5, [vr, .ref (ad ha), .int l, .int ml])) (gh : G ha = .inl (L.ac 0, 61, .inl f))  : GM L yX5_setHeight cX5_setHeight 3 (none) rm_X5_setHeight N ad G [.ref (ad k), .int n, .int v] (fun vo G' => vo = none ∧ G' ha = .inl (L.ac 0, 61, .inl (setH f n v)) ∧ Agr [ha] G G') := by
  refine GM.of (own := RX5) (lo := [(0, .ref (ad k)), (1, .int n), (2, .int v)]) (by decide +kernel) rfl rfl (Nat.le_of_ble_eq_true rfl) (fun E C hr => ?_)
  have ne_0_1 : k ≠ ha := fun h => by have h9 := gk; rw [h, gh] at h9; first | cases h9 | simp at h9
  refine G_iload_n C 1 dX5_setHeight_0 rfl rfl ?_
  refine G_if_lt C 20 dX5_setHeight_1 (by decide) (fun c1 => ?_) (fun c1 => ?_)
  · exact G_vret C hr dX5_setHeight_20 ⟨rfl, (by rw [gh]; simp only [setH, if_pos c1]), Agr.rf⟩
  · refine G_iload_n C 1 dX5_setHeight_4 rfl rfl ?_
    refine G_aload_n C 0 dX5_setHeight_5 rfl rfl ?_
    refine G_get C k lt_k gk rfl inA5 1 (by decide) rfl kf_X5_9 rfl dX5_setHeight_6 ?_
    refine G_alen C ha lt_ha 0 gh rfl (v := 61) rfl dX5_setHeight_9 ?_
    refine G_icmp_ge C 20 dX5_setHeight_10 (by decide) (fun c10 => ?_) (fun c10 => ?_)
    · exact G_vret C hr dX5_setHeight_20 ⟨rfl, (by rw [gh]; simp only [setH, if_neg c1, if_pos c10]), Agr.rf⟩
    · refine G_aload_n C 0 dX5_setHeight_13 rfl rfl ?_
      refine G_get C k lt_k gk rfl inA5 1 (by decide) rfl kf_X5_9 rfl dX5_setHeight_14 ?_
      refine G_iload_n C 1 dX5_setHeight_17 rfl rfl ?_
      refine G_iload_n C 2 dX5_setHeight_18 rfl rfl ?_
      refine G_iastp C ha lt_ha gh (vin (M := 61) rfl (by decide) c1 c10) dX5_setHeight_19 (fun gg1 hh2 aa3 => ?_)
      have AA4 : Agr [ha] G gg1 := aa3.wk (by simp)
      exact G_vret C hr dX5_setHeight_20 ⟨rfl, (by rw [hh2]; simp only [setH, if_neg c1, if_neg c10]), AA4⟩

abbrev rm_X5_carryOut : Room := ({ frames := 1, cells := 0, slots := 0, locals := 22 } : Room)
set_option maxRecDepth 100000 in
set_option maxHeartbeats 4000000 in
theorem c_X5_carryOut {L : GL} {N : Nat} {ad : Nat → Nat} {G : Nat → va_E} {k ha : Nat} {l ml : Int32} {vr : Value} {f : Nat → Int32} {ch n : Int32} (lt_k : k < N) (lt_ha : ha < N) (gk : G k = .inr (5, [vr, .ref (ad ha), .int l, .int ml])) (gh : G ha = .inl (L.ac 0, 61, .inl f))  : GM L yX5_carryOut cX5_carryOut 3 (none) rm_X5_carryOut N ad G [.ref (ad k), .int ch, .int n] (fun vo G' => vo = none ∧ G' k = .inr (5, [vr, .ref (ad ha), .int ((coF f l ml ch n).2.1), .int ((coF f l ml ch n).2.2)]) ∧ G' ha = .inl (L.ac 0, 61, .inl ((coF f l ml ch n).1)) ∧ Agr [k, ha] G G') := by
  refine GM.of (own := RX5) (lo := [(0, .ref (ad k)), (1, .int ch), (2, .int n)]) (by decide +kernel) rfl rfl (Nat.le_of_ble_eq_true rfl) (fun E C hr => ?_)
  have ne_0_1 : k ≠ ha := fun h => by have h9 := gk; rw [h, gh] at h9; first | cases h9 | simp at h9
  have ne_1_0 : ha ≠ k := Ne.symm ne_0_1
  refine G_iload_n C 1 dX5_carryOut_0 rfl rfl ?_
  refine G_bipush C (v := 108) dX5_carryOut_1 (by decide) ?_
  refine G_icmp_ne C 25 dX5_carryOut_3 (by decide) (fun c3 => ?_) (fun c3 => ?_)
  · refine G_iload_n C 1 dX5_carryOut_25 rfl rfl ?_
    refine G_bipush C (v := 116) dX5_carryOut_26 (by decide) ?_
    refine G_icmp_ne C 50 dX5_carryOut_28 (by decide) (fun c28 => ?_) (fun c28 => ?_)
    · refine G_iload_n C 1 dX5_carryOut_50 rfl rfl ?_
      refine G_bipush C (v := 109) dX5_carryOut_51 (by decide) ?_
      refine G_icmp_ne C 81 dX5_carryOut_53 (by decide) (fun c53 => ?_) (fun c53 => ?_)
      · refine G_iload_n C 1 dX5_carryOut_81 rfl rfl ?_
        refine G_bipush C (v := 98) dX5_carryOut_82 (by decide) ?_
        refine G_icmp_ne C 99 dX5_carryOut_84 (by decide) (fun c84 => ?_) (fun c84 => ?_)
        · exact G_vret C hr dX5_carryOut_99 ⟨rfl, (by rw [gk]; simp only [coF, if_neg c3, if_neg c28, if_neg c53, if_neg c84]), (by rw [gh]; simp only [coF, if_neg c3, if_neg c28, if_neg c53, if_neg c84]), Agr.rf⟩
        · refine G_aload_n C 0 dX5_carryOut_87 rfl rfl ?_
          refine G_iload_n C 2 dX5_carryOut_88 rfl rfl ?_
          refine G_aload_n C 0 dX5_carryOut_89 rfl rfl ?_
          refine G_iload_n C 2 dX5_carryOut_90 rfl rfl ?_
          refine G_callV C (As := [.int n]) (rest := [.int n, .ref (ad k)]) (c_X5_heightOf lt_k lt_ha gk gh) ca_X5_heightOf km_X5_38 lt_k gk rfl rfl rfl rfl (by decide) (Nat.le_of_ble_eq_true rfl) (by decide) dX5_carryOut_91 (fun vv1 gg2 qq3 => ?_)
          obtain ⟨rfl, rfl⟩ := qq3
          refine G_iconst C (v := 1) dX5_carryOut_94 (by decide) ?_
          refine G_isub C dX5_carryOut_95 ?_
          refine G_callV C (As := [.int n, .int ((hOf f n) - 1)]) (rest := []) (c_X5_setHeight lt_k lt_ha gk gh) ca_X5_setHeight km_X5_60 lt_k gk rfl rfl rfl rfl (by decide) (Nat.le_of_ble_eq_true rfl) (by decide) dX5_carryOut_96 (fun vv4 gg5 qq6 => ?_)
          obtain ⟨rfl, hh7, aa8⟩ := qq6
          have AA9 : Agr [ha] G gg5 := aa8.wk (by simp)
          exact G_vret C hr dX5_carryOut_99 ⟨rfl, (by rw [((aa8 k (by simp [ne_0_1])).trans gk)]; simp only [coF, if_neg c3, if_neg c28, if_neg c53, if_pos c84]), (by rw [hh7]; simp only [coF, if_neg c3, if_neg c28, if_neg c53, if_pos c84]), (AA9.wk (by simp))⟩
      · refine G_aload_n C 0 dX5_carryOut_56 rfl rfl ?_
        refine G_iload_n C 2 dX5_carryOut_57 rfl rfl ?_
        refine G_aload_n C 0 dX5_carryOut_58 rfl rfl ?_
        refine G_iload_n C 2 dX5_carryOut_59 rfl rfl ?_
        refine G_callV C (As := [.int n]) (rest := [.int n, .ref (ad k)]) (c_X5_heightOf lt_k lt_ha gk gh) ca_X5_heightOf km_X5_38 lt_k gk rfl rfl rfl rfl (by decide) (Nat.le_of_ble_eq_true rfl) (by decide) dX5_carryOut_60 (fun vv10 gg11 qq12 => ?_)
        obtain ⟨rfl, rfl⟩ := qq12
        refine G_iconst C (v := 1) dX5_carryOut_63 (by decide) ?_
        refine G_iadd C dX5_carryOut_64 ?_
        refine G_callV C (As := [.int n, .int ((hOf f n) + 1)]) (rest := []) (c_X5_setHeight lt_k lt_ha gk gh) ca_X5_setHeight km_X5_60 lt_k gk rfl rfl rfl rfl (by decide) (Nat.le_of_ble_eq_true rfl) (by decide) dX5_carryOut_65 (fun vv13 gg14 qq15 => ?_)
        obtain ⟨rfl, hh16, aa17⟩ := qq15
        have AA18 : Agr [ha] G gg14 := aa17.wk (by simp)
        refine G_aload_n C 0 dX5_carryOut_68 rfl rfl ?_
        refine G_dup C dX5_carryOut_69 rfl ?_
        refine G_get C k lt_k ((aa17 k (by simp [ne_0_1])).trans gk) rfl inA5 3 (by decide) rfl kf_X5_35 rfl dX5_carryOut_70 ?_
        refine G_iconst C (v := 1) dX5_carryOut_73 (by decide) ?_
        refine G_iadd C dX5_carryOut_74 ?_
        refine G_putp C k lt_k ((aa17 k (by simp [ne_0_1])).trans gk) rfl inA5 tyX5_ok nmX5 3 (by decide) rfl kf_X5_35 rfl rfl rfl (fs' := [vr, .ref (ad ha), .int l, .int (ml + 1)]) (Nat.le_of_ble_eq_true rfl) rfl dX5_carryOut_75 (fun gg19 hh20 aa21 => ?_)
        have AA22 : Agr [ha, k] G gg19 := AA18.tr aa21 (by simp) (by simp)
        refine G_goto C 99 dX5_carryOut_78 (by decide) ?_
        exact G_vret C hr dX5_carryOut_99 ⟨rfl, (by rw [hh20]; simp only [coF, if_neg c3, if_neg c28, if_pos c53]), (by rw [((aa21 ha (by simp [ne_1_0])).trans hh16)]; simp only [coF, if_neg c3, if_neg c28, if_pos c53]), (AA22.wk (by simp))⟩
    · refine G_aload_n C 0 dX5_carryOut_31 rfl rfl ?_
      refine G_iload_n C 2 dX5_carryOut_32 rfl rfl ?_
      refine G_iconst C (v := (-1)) dX5_carryOut_33 (by decide) ?_
      refine G_callV C (As := [.int n, .int (-1)]) (rest := []) (c_X5_setHeight lt_k lt_ha gk gh) ca_X5_setHeight km_X5_60 lt_k gk rfl rfl rfl rfl (by decide) (Nat.le_of_ble_eq_true rfl) (by decide) dX5_carryOut_34 (fun vv23 gg24 qq25 => ?_)
      obtain ⟨rfl, hh26, aa27⟩ := qq25
      have AA28 : Agr [ha] G gg24 := aa27.wk (by simp)
      refine G_aload_n C 0 dX5_carryOut_37 rfl rfl ?_
      refine G_dup C dX5_carryOut_38 rfl ?_
      refine G_get C k lt_k ((aa27 k (by simp [ne_0_1])).trans gk) rfl inA5 2 (by decide) rfl kf_X5_31 rfl dX5_carryOut_39 ?_
      refine G_iconst C (v := 1) dX5_carryOut_42 (by decide) ?_
      refine G_isub C dX5_carryOut_43 ?_
      refine G_putp C k lt_k ((aa27 k (by simp [ne_0_1])).trans gk) rfl inA5 tyX5_ok nmX5 2 (by decide) rfl kf_X5_31 rfl rfl rfl (fs' := [vr, .ref (ad ha), .int (l - 1), .int ml]) (Nat.le_of_ble_eq_true rfl) rfl dX5_carryOut_44 (fun gg29 hh30 aa31 => ?_)
      have AA32 : Agr [ha, k] G gg29 := AA28.tr aa31 (by simp) (by simp)
      refine G_goto C 99 dX5_carryOut_47 (by decide) ?_
      exact G_vret C hr dX5_carryOut_99 ⟨rfl, (by rw [hh30]; simp only [coF, if_neg c3, if_pos c28]), (by rw [((aa31 ha (by simp [ne_1_0])).trans hh26)]; simp only [coF, if_neg c3, if_pos c28]), (AA32.wk (by simp))⟩
  · refine G_aload_n C 0 dX5_carryOut_6 rfl rfl ?_
    refine G_iload_n C 2 dX5_carryOut_7 rfl rfl ?_
    refine G_iconst C (v := 0) dX5_carryOut_8 (by decide) ?_
    refine G_callV C (As := [.int n, .int 0]) (rest := []) (c_X5_setHeight lt_k lt_ha gk gh) ca_X5_setHeight km_X5_60 lt_k gk rfl rfl rfl rfl (by decide) (Nat.le_of_ble_eq_true rfl) (by decide) dX5_carryOut_9 (fun vv33 gg34 qq35 => ?_)
    obtain ⟨rfl, hh36, aa37⟩ := qq35
    have AA38 : Agr [ha] G gg34 := aa37.wk (by simp)
    refine G_aload_n C 0 dX5_carryOut_12 rfl rfl ?_
    refine G_dup C dX5_carryOut_13 rfl ?_
    refine G_get C k lt_k ((aa37 k (by simp [ne_0_1])).trans gk) rfl inA5 2 (by decide) rfl kf_X5_31 rfl dX5_carryOut_14 ?_
    refine G_iconst C (v := 1) dX5_carryOut_17 (by decide) ?_
    refine G_iadd C dX5_carryOut_18 ?_
    refine G_putp C k lt_k ((aa37 k (by simp [ne_0_1])).trans gk) rfl inA5 tyX5_ok nmX5 2 (by decide) rfl kf_X5_31 rfl rfl rfl (fs' := [vr, .ref (ad ha), .int (l + 1), .int ml]) (Nat.le_of_ble_eq_true rfl) rfl dX5_carryOut_19 (fun gg39 hh40 aa41 => ?_)
    have AA42 : Agr [ha, k] G gg39 := AA38.tr aa41 (by simp) (by simp)
    refine G_goto C 99 dX5_carryOut_22 (by decide) ?_
    exact G_vret C hr dX5_carryOut_99 ⟨rfl, (by rw [hh40]; simp only [coF, if_pos c3]), (by rw [((aa41 ha (by simp [ne_1_0])).trans hh36)]; simp only [coF, if_pos c3]), (AA42.wk (by simp))⟩

abbrev rm_X5_copyFrom : Room := ({ frames := 1, cells := 0, slots := 0, locals := 60 } : Room)
set_option maxRecDepth 100000 in
set_option maxHeartbeats 4000000 in
theorem c_X5_copyFrom {L : GL} {N : Nat} {ad : Nat → Nat} {G : Nat → va_E} {k k2 ha hb : Nat} {l ml l2 ml2 : Int32} {vr vr2 : Value} {f g : Nat → Int32} (lt_k : k < N) (lt_ha : ha < N) (lt_k2 : k2 < N) (lt_hb : hb < N) (gk : G k = .inr (5, [vr, .ref (ad ha), .int l, .int ml])) (gh : G ha = .inl (L.ac 0, 61, .inl f)) (gk2 : G k2 = .inr (5, [vr2, .ref (ad hb), .int l2, .int ml2])) (gh2 : G hb = .inl (L.ac 0, 61, .inl g)) (hkk : k ≠ k2) (hhh : ha ≠ hb) : GM L yX5_copyFrom cX5_copyFrom 2 (none) rm_X5_copyFrom N ad G [.ref (ad k), .ref (ad k2)] (fun vo G' => vo = none ∧ G' k = .inr (5, [vr, .ref (ad ha), .int l2, .int ml2]) ∧ G' ha = .inl (L.ac 0, 61, .inl g) ∧ Agr [k, ha] G G') := by
  refine GM.of (own := RX5) (lo := [(0, .ref (ad k)), (1, .ref (ad k2))]) (by decide +kernel) rfl rfl (Nat.le_of_ble_eq_true rfl) (fun E C hr => ?_)
  have ne_0_1 : k ≠ ha := fun h => by have h9 := gk; rw [h, gh] at h9; first | cases h9 | simp at h9
  have ne_0_3 : k ≠ hb := fun h => by have h9 := gk; rw [h, gh2] at h9; first | cases h9 | simp at h9
  have ne_1_2 : ha ≠ k2 := fun h => by have h9 := gh; rw [h, gk2] at h9; first | cases h9 | simp at h9
  have ne_1_0 : ha ≠ k := Ne.symm ne_0_1
  have ne_2_1 : k2 ≠ ha := Ne.symm ne_1_2
  have ne_3_0 : hb ≠ k := Ne.symm ne_0_3
  refine G_aload_n C 1 dX5_copyFrom_0 rfl rfl ?_
  refine G_get C k2 lt_k2 gk2 rfl inA5 1 (by decide) rfl kf_X5_9 rfl dX5_copyFrom_1 ?_
  refine G_iconst C (v := 0) dX5_copyFrom_4 (by decide) ?_
  refine G_aload_n C 0 dX5_copyFrom_5 rfl rfl ?_
  refine G_get C k lt_k gk rfl inA5 1 (by decide) rfl kf_X5_9 rfl dX5_copyFrom_6 ?_
  refine G_iconst C (v := 0) dX5_copyFrom_9 (by decide) ?_
  refine G_aload_n C 0 dX5_copyFrom_10 rfl rfl ?_
  refine G_get C k lt_k gk rfl inA5 1 (by decide) rfl kf_X5_9 rfl dX5_copyFrom_11 ?_
  refine G_alen C ha lt_ha 0 gh rfl (v := 61) rfl dX5_copyFrom_14 ?_
  refine G_copyip C km_X5_25 w_ac1 w_ac2 w_ac3 hb ha lt_hb lt_ha gh2 gh (by decide) (by decide) (by decide) (by decide) (by decide) (by decide) (by decide) dX5_copyFrom_15 (fun gg1 hh2 aa3 => ?_)
  have AA4 : Agr [ha] G gg1 := aa3.wk (by simp)
  refine GW.ren ha lt_ha (t0 := 0) g hh2 (fun j hj => cpy61 hj) (fun gg5 hh6 aa7 => ?_)
  have AA8 : Agr [ha] G gg5 := AA4.tr aa7 (by simp) (by simp)
  refine G_aload_n C 0 dX5_copyFrom_18 rfl rfl ?_
  refine G_aload_n C 1 dX5_copyFrom_19 rfl rfl ?_
  refine G_get C k2 lt_k2 ((aa7 k2 (by simp [ne_2_1])).trans ((aa3 k2 (by simp [ne_2_1])).trans gk2)) rfl inA5 2 (by decide) rfl kf_X5_31 rfl dX5_copyFrom_20 ?_
  refine G_putp C k lt_k ((aa7 k (by simp [ne_0_1])).trans ((aa3 k (by simp [ne_0_1])).trans gk)) rfl inA5 tyX5_ok nmX5 2 (by decide) rfl kf_X5_31 rfl rfl rfl (fs' := [vr, .ref (ad ha), .int l2, .int ml]) (Nat.le_of_ble_eq_true rfl) rfl dX5_copyFrom_23 (fun gg9 hh10 aa11 => ?_)
  have AA12 : Agr [ha, k] G gg9 := AA8.tr aa11 (by simp) (by simp)
  refine G_aload_n C 0 dX5_copyFrom_26 rfl rfl ?_
  refine G_aload_n C 1 dX5_copyFrom_27 rfl rfl ?_
  refine G_get C k2 lt_k2 ((aa11 k2 (by simp [(Ne.symm hkk)])).trans ((aa7 k2 (by simp [ne_2_1])).trans ((aa3 k2 (by simp [ne_2_1])).trans gk2))) rfl inA5 3 (by decide) rfl kf_X5_35 rfl dX5_copyFrom_28 ?_
  refine G_putp C k lt_k hh10 rfl inA5 tyX5_ok nmX5 3 (by decide) rfl kf_X5_35 rfl rfl rfl (fs' := [vr, .ref (ad ha), .int l2, .int ml2]) (Nat.le_of_ble_eq_true rfl) rfl dX5_copyFrom_31 (fun gg13 hh14 aa15 => ?_)
  have AA16 : Agr [ha, k] G gg13 := AA12.tr aa15 (by simp) (by simp)
  exact G_vret C hr dX5_copyFrom_34 ⟨rfl, hh14, ((aa15 ha (by simp [ne_1_0])).trans ((aa11 ha (by simp [ne_1_0])).trans hh6)), (AA16.wk (by simp))⟩

abbrev rm_X4_begin : Room := ({ frames := 1, cells := 0, slots := 0, locals := 23 } : Room)
set_option maxRecDepth 100000 in
set_option maxHeartbeats 4000000 in
theorem c_X4_begin {L : GL} {N : Nat} {ad : Nat → Nat} {G : Nat → va_E} {r p : Nat} {rt rp rx ry rg : Nat} {tx ty : Nat → Int32} {a1 a2 a3 : Int32} {a4 a5 : Int64} {n : Int32} (lt_r : r < N) (lt_rx : rx < N) (lt_ry : ry < N) (lt_p : p < N) (gr : G r = .inr (4, [.ref (ad rt), .ref (ad rp), .ref (ad rx), .ref (ad ry), .ref (ad rg)])) (grx : G rx = .inl (L.ac 0, 61, .inl tx)) (gry : G ry = .inl (L.ac 0, 61, .inl ty)) (gp : G p = .inr (1, [.int a1, .int a2, .int a3, .long a4, .long a5]))  : GM L yX4_begin cX4_begin 3 (none) rm_X4_begin N ad G [.ref (ad r), .ref (ad p), .int n] (fun vo G' => vo = none ∧ G' p = .inr (1, [.int (tabF tx n), .int (tabF ty n), .int n, .long 1, .long 0]) ∧ Agr [p] G G') := by
  refine GM.of (own := RX4) (lo := [(0, .ref (ad r)), (1, .ref (ad p)), (2, .int n)]) (by decide +kernel) rfl rfl (Nat.le_of_ble_eq_true rfl) (fun E C hr => ?_)
  have ne_0_3 : r ≠ p := fun h => by have h9 := gr; rw [h, gp] at h9; first | cases h9 | simp at h9
  have ne_1_3 : rx ≠ p := fun h => by have h9 := grx; rw [h, gp] at h9; first | cases h9 | simp at h9
  have ne_2_3 : ry ≠ p := fun h => by have h9 := gry; rw [h, gp] at h9; first | cases h9 | simp at h9
  refine G_aload_n C 1 dX4_begin_0 rfl rfl ?_
  refine G_iload_n C 2 dX4_begin_1 rfl rfl ?_
  refine G_aload_n C 0 dX4_begin_2 rfl rfl ?_
  refine G_iload_n C 2 dX4_begin_3 rfl rfl ?_
  refine G_callV C (As := [.int n]) (rest := [.int n, .ref (ad p)]) (c_X4_xOfUnit lt_r lt_rx gr grx) ca_X4_xOfUnit km_X4_66 lt_r gr rfl rfl rfl rfl (by decide) (Nat.le_of_ble_eq_true rfl) (by decide) dX4_begin_4 (fun vv1 gg2 qq3 => ?_)
  obtain ⟨rfl, rfl⟩ := qq3
  refine G_aload_n C 0 dX4_begin_7 rfl rfl ?_
  refine G_iload_n C 2 dX4_begin_8 rfl rfl ?_
  refine G_callV C (As := [.int n]) (rest := [.int (tabF tx n), .int n, .ref (ad p)]) (c_X4_yOfUnit lt_r lt_ry gr gry) ca_X4_yOfUnit km_X4_70 lt_r gr rfl rfl rfl rfl (by decide) (Nat.le_of_ble_eq_true rfl) (by decide) dX4_begin_9 (fun vv4 gg5 qq6 => ?_)
  obtain ⟨rfl, rfl⟩ := qq6
  refine G_callV C (As := [.int n, .int (tabF tx n), .int (tabF ty n)]) (rest := []) (c_X1_begin lt_p gp) ca_X1_begin km_X4_73 lt_p gp rfl rfl rfl rfl (by decide) (Nat.le_of_ble_eq_true rfl) (by decide) dX4_begin_12 (fun vv7 gg8 qq9 => ?_)
  obtain ⟨rfl, hh10, aa11⟩ := qq9
  have AA12 : Agr [p] G gg8 := aa11.wk (by simp)
  exact G_vret C hr dX4_begin_15 ⟨rfl, hh10, AA12⟩

