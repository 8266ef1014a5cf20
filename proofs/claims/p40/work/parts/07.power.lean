theorem i64_0 {x : Int32} (h : x.toInt64 = 0) : x = 0 := Int32.toInt_inj.mp (by have := congrArg Int64.toInt h; simpa using this)
def climbF (ux uy n : Int32) (x y : Int64) : Int32 × Int64 × Int64 :=
  if ux ≤ 0 then (0, x, y) else if x ≤ 1000000000000000 / ux.toInt64 then
    (if x * ux.toInt64 + n.toInt64 * y * uy.toInt64 ≤ 1000000000000000 then (1, x * ux.toInt64 + n.toInt64 * y * uy.toInt64, x * uy.toInt64 + y * ux.toInt64) else (0, x, y))
  else (0, x, y)
abbrev rm_X1_init : Room := ({ frames := 1, cells := 0, slots := 0, locals := 12 } : Room)
set_option maxRecDepth 100000 in
set_option maxHeartbeats 4000000 in
theorem c_X1_init {L : GL} {N : Nat} {ad : Nat → Nat} {G : Nat → va_E} {k : Nat}    : GM L yX1_init cX1_init 1 (none) rm_X1_init N ad G [.ref (ad k)] (fun vo G' => vo = none ∧ G = G') := by
  refine GM.of (own := RX1) (lo := [(0, .ref (ad k))]) (by decide +kernel) rfl rfl (Nat.le_of_ble_eq_true rfl) (fun E C hr => ?_)
  refine G_aload_n C 0 dX1_init_0 rfl rfl ?_
  refine G_objInit C km_X1_3 w_oi1 w_oi2 dX1_init_1 (by decide) (Nat.le_of_ble_eq_true rfl) ?_
  exact G_vret C hr dX1_init_4 ⟨rfl, rfl⟩

abbrev rm_X1_begin : Room := ({ frames := 0, cells := 0, slots := 0, locals := 0 } : Room)
set_option maxRecDepth 100000 in
set_option maxHeartbeats 4000000 in
theorem c_X1_begin {L : GL} {N : Nat} {ad : Nat → Nat} {G : Nat → va_E} {k : Nat} {ux uy n : Int32} {x y : Int64} {d a b : Int32} (lt_k : k < N) (g0 : G k = .inr (1, [.int ux, .int uy, .int n, .long x, .long y]))  : GM L yX1_begin cX1_begin 4 (none) rm_X1_begin N ad G [.ref (ad k), .int d, .int a, .int b] (fun vo G' => vo = none ∧ G' k = .inr (1, [.int a, .int b, .int d, .long 1, .long 0]) ∧ Agr [k] G G') := by
  refine GM.of (own := RX1) (lo := [(0, .ref (ad k)), (1, .int d), (2, .int a), (3, .int b)]) (by decide +kernel) rfl rfl (Nat.le_of_ble_eq_true rfl) (fun E C hr => ?_)
  refine G_aload_n C 0 dX1_begin_0 rfl rfl ?_
  refine G_iload_n C 1 dX1_begin_1 rfl rfl ?_
  refine G_putp C k lt_k g0 rfl inA1 tyX1_ok nmX1 2 (by decide) rfl kf_X1_9 rfl rfl rfl (fs' := [.int ux, .int uy, .int d, .long x, .long y]) (Nat.le_of_ble_eq_true rfl) rfl dX1_begin_2 (fun gg1 hh2 aa3 => ?_)
  have AA4 : Agr [k] G gg1 := aa3.wk (by simp)
  refine G_aload_n C 0 dX1_begin_5 rfl rfl ?_
  refine G_iload_n C 2 dX1_begin_6 rfl rfl ?_
  refine G_putp C k lt_k hh2 rfl inA1 tyX1_ok nmX1 0 (by decide) rfl kf_X1_15 rfl rfl rfl (fs' := [.int a, .int uy, .int d, .long x, .long y]) (Nat.le_of_ble_eq_true rfl) rfl dX1_begin_7 (fun gg5 hh6 aa7 => ?_)
  have AA8 : Agr [k] G gg5 := AA4.tr aa7 (by simp) (by simp)
  refine G_aload_n C 0 dX1_begin_10 rfl rfl ?_
  refine G_iload_n C 3 dX1_begin_11 rfl rfl ?_
  refine G_putp C k lt_k hh6 rfl inA1 tyX1_ok nmX1 1 (by decide) rfl kf_X1_18 rfl rfl rfl (fs' := [.int a, .int b, .int d, .long x, .long y]) (Nat.le_of_ble_eq_true rfl) rfl dX1_begin_12 (fun gg9 hh10 aa11 => ?_)
  have AA12 : Agr [k] G gg9 := AA8.tr aa11 (by simp) (by simp)
  refine G_aload_n C 0 dX1_begin_15 rfl rfl ?_
  refine G_lconst C (v := 1) dX1_begin_16 (by decide) ?_
  refine G_putp C k lt_k hh10 rfl inA1 tyX1_ok nmX1 3 (by decide) rfl kf_X1_21 rfl rfl rfl (fs' := [.int a, .int b, .int d, .long 1, .long y]) (Nat.le_of_ble_eq_true rfl) rfl dX1_begin_17 (fun gg13 hh14 aa15 => ?_)
  have AA16 : Agr [k] G gg13 := AA12.tr aa15 (by simp) (by simp)
  refine G_aload_n C 0 dX1_begin_20 rfl rfl ?_
  refine G_lconst C (v := 0) dX1_begin_21 (by decide) ?_
  refine G_putp C k lt_k hh14 rfl inA1 tyX1_ok nmX1 4 (by decide) rfl kf_X1_25 rfl rfl rfl (fs' := [.int a, .int b, .int d, .long 1, .long 0]) (Nat.le_of_ble_eq_true rfl) rfl dX1_begin_22 (fun gg17 hh18 aa19 => ?_)
  have AA20 : Agr [k] G gg17 := AA16.tr aa19 (by simp) (by simp)
  exact G_vret C hr dX1_begin_25 ⟨rfl, hh18, AA20⟩

abbrev rm_X1_climb : Room := ({ frames := 0, cells := 0, slots := 0, locals := 0 } : Room)
set_option maxRecDepth 100000 in
set_option maxHeartbeats 4000000 in
theorem c_X1_climb {L : GL} {N : Nat} {ad : Nat → Nat} {G : Nat → va_E} {k : Nat} {ux uy n : Int32} {x y : Int64} (lt_k : k < N) (g0 : G k = .inr (1, [.int ux, .int uy, .int n, .long x, .long y]))  : GM L yX1_climb cX1_climb 3 ((some .boolean)) rm_X1_climb N ad G [.ref (ad k)] (fun vo G' => vo = some (.int ((climbF ux uy n x y).1)) ∧ G' k = .inr (1, [.int ux, .int uy, .int n, .long ((climbF ux uy n x y).2.1), .long ((climbF ux uy n x y).2.2)]) ∧ Agr [k] G G') := by
  refine GM.of (own := RX1) (lo := [(0, .ref (ad k))]) (by decide +kernel) rfl rfl (Nat.le_of_ble_eq_true rfl) (fun E C hr => ?_)
  refine G_aload_n C 0 dX1_climb_0 rfl rfl ?_
  refine G_get C k lt_k g0 rfl inA1 0 (by decide) rfl kf_X1_15 rfl dX1_climb_1 ?_
  refine G_if_le C 24 dX1_climb_4 (by decide) (fun c4 => ?_) (fun c4 => ?_)
  · refine G_iconst C (v := 0) dX1_climb_24 (by decide) ?_
    exact G_zret C hr rfl dX1_climb_25 ⟨(by rw [climbF, if_pos c4]), (by rw [g0, climbF, if_pos c4]), Agr.rf⟩
  · refine G_aload_n C 0 dX1_climb_7 rfl rfl ?_
    refine G_get C k lt_k g0 rfl inA1 3 (by decide) rfl kf_X1_21 rfl dX1_climb_8 ?_
    refine G_ldc2 C dX1_climb_11 kl_X1_28 ?_
    refine G_aload_n C 0 dX1_climb_14 rfl rfl ?_
    refine G_get C k lt_k g0 rfl inA1 0 (by decide) rfl kf_X1_15 rfl dX1_climb_15 ?_
    refine G_i2l C dX1_climb_18 rfl ?_
    refine G_ldiv C dX1_climb_19 (fun h => c4 (by rw [i64_0 h]; decide)) ?_
    refine G_lc_le C 26 dX1_climb_20 dX1_climb_21 (by decide) (fun c20 => ?_) (fun c20 => ?_)
    · refine G_aload_n C 0 dX1_climb_26 rfl rfl ?_
      refine G_get C k lt_k g0 rfl inA1 3 (by decide) rfl kf_X1_21 rfl dX1_climb_27 ?_
      refine G_aload_n C 0 dX1_climb_30 rfl rfl ?_
      refine G_get C k lt_k g0 rfl inA1 0 (by decide) rfl kf_X1_15 rfl dX1_climb_31 ?_
      refine G_i2l C dX1_climb_34 rfl ?_
      refine G_lmul C dX1_climb_35 ?_
      refine G_aload_n C 0 dX1_climb_36 rfl rfl ?_
      refine G_get C k lt_k g0 rfl inA1 2 (by decide) rfl kf_X1_9 rfl dX1_climb_37 ?_
      refine G_i2l C dX1_climb_40 rfl ?_
      refine G_aload_n C 0 dX1_climb_41 rfl rfl ?_
      refine G_get C k lt_k g0 rfl inA1 4 (by decide) rfl kf_X1_25 rfl dX1_climb_42 ?_
      refine G_lmul C dX1_climb_45 ?_
      refine G_aload_n C 0 dX1_climb_46 rfl rfl ?_
      refine G_get C k lt_k g0 rfl inA1 1 (by decide) rfl kf_X1_18 rfl dX1_climb_47 ?_
      refine G_i2l C dX1_climb_50 rfl ?_
      refine G_lmul C dX1_climb_51 ?_
      refine G_ladd C dX1_climb_52 ?_
      refine G_lstore_n C 1 (lo' := [(1, .long ((x * ux.toInt64) + ((n.toInt64 * y) * uy.toInt64))), (0, .ref (ad k))]) dX1_climb_53 rfl (by decide) rfl ?_
      refine G_lload_n C 1 dX1_climb_54 rfl rfl ?_
      refine G_ldc2 C dX1_climb_55 kl_X1_28 ?_
      refine G_lc_le C 64 dX1_climb_58 dX1_climb_59 (by decide) (fun c58 => ?_) (fun c58 => ?_)
      · refine G_aload_n C 0 dX1_climb_64 rfl rfl ?_
        refine G_aload_n C 0 dX1_climb_65 rfl rfl ?_
        refine G_get C k lt_k g0 rfl inA1 3 (by decide) rfl kf_X1_21 rfl dX1_climb_66 ?_
        refine G_aload_n C 0 dX1_climb_69 rfl rfl ?_
        refine G_get C k lt_k g0 rfl inA1 1 (by decide) rfl kf_X1_18 rfl dX1_climb_70 ?_
        refine G_i2l C dX1_climb_73 rfl ?_
        refine G_lmul C dX1_climb_74 ?_
        refine G_aload_n C 0 dX1_climb_75 rfl rfl ?_
        refine G_get C k lt_k g0 rfl inA1 4 (by decide) rfl kf_X1_25 rfl dX1_climb_76 ?_
        refine G_aload_n C 0 dX1_climb_79 rfl rfl ?_
        refine G_get C k lt_k g0 rfl inA1 0 (by decide) rfl kf_X1_15 rfl dX1_climb_80 ?_
        refine G_i2l C dX1_climb_83 rfl ?_
        refine G_lmul C dX1_climb_84 ?_
        refine G_ladd C dX1_climb_85 ?_
        refine G_putp C k lt_k g0 rfl inA1 tyX1_ok nmX1 4 (by decide) rfl kf_X1_25 rfl rfl rfl (fs' := [.int ux, .int uy, .int n, .long x, .long ((x * uy.toInt64) + (y * ux.toInt64))]) (Nat.le_of_ble_eq_true rfl) rfl dX1_climb_86 (fun gg1 hh2 aa3 => ?_)
        have AA4 : Agr [k] G gg1 := aa3.wk (by simp)
        refine G_aload_n C 0 dX1_climb_89 rfl rfl ?_
        refine G_lload_n C 1 dX1_climb_90 rfl rfl ?_
        refine G_putp C k lt_k hh2 rfl inA1 tyX1_ok nmX1 3 (by decide) rfl kf_X1_21 rfl rfl rfl (fs' := [.int ux, .int uy, .int n, .long ((x * ux.toInt64) + ((n.toInt64 * y) * uy.toInt64)), .long ((x * uy.toInt64) + (y * ux.toInt64))]) (Nat.le_of_ble_eq_true rfl) rfl dX1_climb_91 (fun gg5 hh6 aa7 => ?_)
        have AA8 : Agr [k] G gg5 := AA4.tr aa7 (by simp) (by simp)
        refine G_iconst C (v := 1) dX1_climb_94 (by decide) ?_
        exact G_zret C hr rfl dX1_climb_95 ⟨(by rw [climbF, if_neg c4, if_pos c20, if_pos c58]), (by rw [hh6, climbF, if_neg c4, if_pos c20, if_pos c58]), AA8⟩
      · refine G_iconst C (v := 0) dX1_climb_62 (by decide) ?_
        exact G_zret C hr rfl dX1_climb_63 ⟨(by rw [climbF, if_neg c4, if_pos c20, if_neg c58]), (by rw [g0, climbF, if_neg c4, if_pos c20, if_neg c58]), Agr.rf⟩
    · refine G_iconst C (v := 0) dX1_climb_24 (by decide) ?_
      exact G_zret C hr rfl dX1_climb_25 ⟨(by rw [climbF, if_neg c4, if_neg c20]), (by rw [g0, climbF, if_neg c4, if_neg c20]), Agr.rf⟩

abbrev rm_X1_isAheadOf : Room := ({ frames := 0, cells := 0, slots := 0, locals := 0 } : Room)
set_option maxRecDepth 100000 in
set_option maxHeartbeats 4000000 in
theorem c_X1_isAheadOf {L : GL} {N : Nat} {ad : Nat → Nat} {G : Nat → va_E} {k k2 : Nat} {ux uy n ux2 uy2 n2 : Int32} {x y x2 y2 : Int64} (lt_k : k < N) (lt_k2 : k2 < N) (g0 : G k = .inr (1, [.int ux, .int uy, .int n, .long x, .long y])) (g1 : G k2 = .inr (1, [.int ux2, .int uy2, .int n2, .long x2, .long y2]))  : GM L yX1_isAheadOf cX1_isAheadOf 2 ((some .boolean)) rm_X1_isAheadOf N ad G [.ref (ad k), .ref (ad k2)] (fun vo G' => vo = some (.int (if x = x2 then (if n2 ≤ n then 0 else 1) else (if x2 ≤ x then 0 else 1))) ∧ G = G') := by
  refine GM.of (own := RX1) (lo := [(0, .ref (ad k)), (1, .ref (ad k2))]) (by decide +kernel) rfl rfl (Nat.le_of_ble_eq_true rfl) (fun E C hr => ?_)
  refine G_aload_n C 0 dX1_isAheadOf_0 rfl rfl ?_
  refine G_get C k lt_k g0 rfl inA1 3 (by decide) rfl kf_X1_21 rfl dX1_isAheadOf_1 ?_
  refine G_aload_n C 1 dX1_isAheadOf_4 rfl rfl ?_
  refine G_get C k2 lt_k2 g1 rfl inA1 3 (by decide) rfl kf_X1_21 rfl dX1_isAheadOf_5 ?_
  refine G_lc_eq C 32 dX1_isAheadOf_8 dX1_isAheadOf_9 (by decide) (fun c8 => ?_) (fun c8 => ?_)
  · refine G_aload_n C 0 dX1_isAheadOf_32 rfl rfl ?_
    refine G_get C k lt_k g0 rfl inA1 2 (by decide) rfl kf_X1_9 rfl dX1_isAheadOf_33 ?_
    refine G_aload_n C 1 dX1_isAheadOf_36 rfl rfl ?_
    refine G_get C k2 lt_k2 g1 rfl inA1 2 (by decide) rfl kf_X1_9 rfl dX1_isAheadOf_37 ?_
    refine G_icmp_ge C 47 dX1_isAheadOf_40 (by decide) (fun c40 => ?_) (fun c40 => ?_)
    · refine G_iconst C (v := 0) dX1_isAheadOf_47 (by decide) ?_
      exact G_zret C hr rfl dX1_isAheadOf_48 ⟨(by rw [if_pos c8, if_pos c40]), rfl⟩
    · refine G_iconst C (v := 1) dX1_isAheadOf_43 (by decide) ?_
      refine G_goto C 48 dX1_isAheadOf_44 (by decide) ?_
      exact G_zret C hr rfl dX1_isAheadOf_48 ⟨(by rw [if_pos c8, if_neg c40]), rfl⟩
  · refine G_aload_n C 0 dX1_isAheadOf_12 rfl rfl ?_
    refine G_get C k lt_k g0 rfl inA1 3 (by decide) rfl kf_X1_21 rfl dX1_isAheadOf_13 ?_
    refine G_aload_n C 1 dX1_isAheadOf_16 rfl rfl ?_
    refine G_get C k2 lt_k2 g1 rfl inA1 3 (by decide) rfl kf_X1_21 rfl dX1_isAheadOf_17 ?_
    refine G_lc_ge C 28 dX1_isAheadOf_20 dX1_isAheadOf_21 (by decide) (fun c20 => ?_) (fun c20 => ?_)
    · refine G_iconst C (v := 0) dX1_isAheadOf_28 (by decide) ?_
      refine G_goto C 48 dX1_isAheadOf_29 (by decide) ?_
      exact G_zret C hr rfl dX1_isAheadOf_48 ⟨(by rw [if_neg c8, if_pos c20]), rfl⟩
    · refine G_iconst C (v := 1) dX1_isAheadOf_24 (by decide) ?_
      refine G_goto C 48 dX1_isAheadOf_25 (by decide) ?_
      exact G_zret C hr rfl dX1_isAheadOf_48 ⟨(by rw [if_neg c8, if_neg c20]), rfl⟩

