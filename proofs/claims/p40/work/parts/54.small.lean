theorem low_j (v : Int32) {n : Nat} (h0 : 0 < n) (hn : n < 2147483648) : ∃ j, j < n ∧ (v &&& 2147483647) - (v &&& 2147483647) / nI n * nI n = nI j := by
  obtain ⟨a, ha, e⟩ := pk_andE v (m := 2147483647) 31 (by decide)
  rw [e, pk_rem (by omega) h0 (by omega)]
  exact ⟨a % n, Nat.mod_lt _ h0, rfl⟩
abbrev rm_L_low : Room := ({ frames := 0, cells := 0, slots := 0, locals := 0 } : Room)
set_option maxRecDepth 100000 in
set_option maxHeartbeats 4000000 in
theorem c_L_low {L : GL} {ad : Nat → Nat} {G : Nat → va_E} {v : Int32} {n : Nat}   (h0 : 0 < n) (hn : n < 2147483648) : GM L yL_low cL_low 2 ((some .int)) rm_L_low 40 ad G [.int v, .int (nI n)] (fun vo G' => ∃ j, j < n ∧ vo = some (.int (nI j)) ∧ G = G') := by
  refine GM.of (own := RL) (lo := [(0, .int v), (1, .int (nI n))]) (by decide +kernel) rfl rfl (Nat.le_of_ble_eq_true rfl) (fun E C hr => ?_)
  refine G_iload_n C 0 dL_low_0 rfl rfl ?_
  refine G_ldc C dL_low_1 ki_L_8 ?_
  refine G_iand C dL_low_3 ?_
  refine G_iload_n C 1 dL_low_4 rfl rfl ?_
  refine G_irem C dL_low_5 (nI_ne0 h0 (by omega)) ?_
  exact G_iret C hr dL_low_6 (by obtain ⟨j, hj, e⟩ := low_j v h0 hn; exact ⟨j, hj, by rw [e], rfl⟩)

abbrev rm_L_lot : Room := ({ frames := 0, cells := 0, slots := 0, locals := 0 } : Room)
set_option maxRecDepth 100000 in
set_option maxHeartbeats 4000000 in
theorem c_L_lot {L : GL} {ad : Nat → Nat} {G : Nat → va_E} {i : Nat}   (hi : i < 1000) (h31 : L.scr.2.1 < 1000) : GM L yL_lot cL_lot 2 ((some .int)) rm_L_lot 40 ad G [.ref L.scr.1, .int (nI i)] (fun vo G' => ∃ x : Int32, vo = some (.int x) ∧ G = G') := by
  refine GM.of (own := RL) (lo := [(0, .ref L.scr.1), (1, .int (nI i))]) (by decide +kernel) rfl rfl (Nat.le_of_ble_eq_true rfl) (fun E C hr => ?_)
  refine G_iload_n C 1 dL_lot_0 rfl rfl ?_
  refine G_aload_n C 0 dL_lot_1 rfl rfl ?_
  refine G_scl C dL_lot_2 ?_
  refine G_icmp_ge C 12 dL_lot_3 (by decide) (fun c3 => ?_) (fun c3 => ?_)
  · refine G_ldc C dL_lot_12 ki_L_7 ?_
    refine G_iload_n C 1 dL_lot_14 rfl rfl ?_
    refine G_sipush C (v := 6151) dL_lot_15 (by decide) ?_
    refine G_iadd C dL_lot_18 ?_
    refine G_imul C dL_lot_19 ?_
    refine G_sipush C (v := 5897) dL_lot_20 (by decide) ?_
    refine G_iadd C dL_lot_23 ?_
    exact G_iret C hr dL_lot_24 ⟨_, rfl, rfl⟩
  · refine G_aload_n C 0 dL_lot_6 rfl rfl ?_
    refine G_iload_n C 1 dL_lot_7 rfl rfl ?_
    refine G_scd C (j := i) (by have := (cI_le (a := L.scr.2.1) (b := i) rfl rfl (by omega) (by omega)).mpr; exact Classical.byContradiction fun z => c3 ((cI_le (a := L.scr.2.1) (b := i) rfl rfl (by omega) (by omega)).mpr (by omega))) (by omega) dL_lot_8 ?_
    refine G_goto C 24 dL_lot_9 (by decide) ?_
    exact G_iret C hr dL_lot_24 ⟨_, rfl, rfl⟩

theorem sqq : ∀ d, d < 61 → 2 ≤ d → ((nI d = 4 ∨ nI d = 9 ∨ nI d = 16 ∨ nI d = 25 ∨ nI d = 36 ∨ nI d = 49) ↔ pern d = 0) := by decide +kernel
abbrev rm_L_square : Room := ({ frames := 0, cells := 0, slots := 0, locals := 0 } : Room)
set_option maxRecDepth 100000 in
set_option maxHeartbeats 4000000 in
theorem c_L_square {L : GL} {ad : Nat → Nat} {G : Nat → va_E} {d : Nat}   (h2 : 2 ≤ d) (h60 : d ≤ 60) : GM L yL_square cL_square 1 ((some .boolean)) rm_L_square 40 ad G [.int (nI d)] (fun vo G' => vo = some (.int (if pern d = 0 then 1 else 0)) ∧ G = G') := by
  refine GM.of (own := RL) (lo := [(0, .int (nI d))]) (by decide +kernel) rfl rfl (Nat.le_of_ble_eq_true rfl) (fun E C hr => ?_)
  refine G_iload_n C 0 dL_square_0 rfl rfl ?_
  refine G_iconst C (v := 4) dL_square_1 (by decide) ?_
  refine G_icmp_eq C 35 dL_square_2 (by decide) (fun c2 => ?_) (fun c2 => ?_)
  · refine G_iconst C (v := 1) dL_square_35 (by decide) ?_
    refine G_goto C 40 dL_square_36 (by decide) ?_
    exact G_zret C hr rfl dL_square_40 ⟨by rw [if_pos ((sqq d (by omega) h2).mp (Or.inl c2))], rfl⟩
  · refine G_iload_n C 0 dL_square_5 rfl rfl ?_
    refine G_bipush C (v := 9) dL_square_6 (by decide) ?_
    refine G_icmp_eq C 35 dL_square_8 (by decide) (fun c8 => ?_) (fun c8 => ?_)
    · refine G_iconst C (v := 1) dL_square_35 (by decide) ?_
      refine G_goto C 40 dL_square_36 (by decide) ?_
      exact G_zret C hr rfl dL_square_40 ⟨by rw [if_pos ((sqq d (by omega) h2).mp (Or.inr (Or.inl c8)))], rfl⟩
    · refine G_iload_n C 0 dL_square_11 rfl rfl ?_
      refine G_bipush C (v := 16) dL_square_12 (by decide) ?_
      refine G_icmp_eq C 35 dL_square_14 (by decide) (fun c14 => ?_) (fun c14 => ?_)
      · refine G_iconst C (v := 1) dL_square_35 (by decide) ?_
        refine G_goto C 40 dL_square_36 (by decide) ?_
        exact G_zret C hr rfl dL_square_40 ⟨by rw [if_pos ((sqq d (by omega) h2).mp (Or.inr (Or.inr (Or.inl c14))))], rfl⟩
      · refine G_iload_n C 0 dL_square_17 rfl rfl ?_
        refine G_bipush C (v := 25) dL_square_18 (by decide) ?_
        refine G_icmp_eq C 35 dL_square_20 (by decide) (fun c20 => ?_) (fun c20 => ?_)
        · refine G_iconst C (v := 1) dL_square_35 (by decide) ?_
          refine G_goto C 40 dL_square_36 (by decide) ?_
          exact G_zret C hr rfl dL_square_40 ⟨by rw [if_pos ((sqq d (by omega) h2).mp (Or.inr (Or.inr (Or.inr (Or.inl c20)))))], rfl⟩
        · refine G_iload_n C 0 dL_square_23 rfl rfl ?_
          refine G_bipush C (v := 36) dL_square_24 (by decide) ?_
          refine G_icmp_eq C 35 dL_square_26 (by decide) (fun c26 => ?_) (fun c26 => ?_)
          · refine G_iconst C (v := 1) dL_square_35 (by decide) ?_
            refine G_goto C 40 dL_square_36 (by decide) ?_
            exact G_zret C hr rfl dL_square_40 ⟨by rw [if_pos ((sqq d (by omega) h2).mp (Or.inr (Or.inr (Or.inr (Or.inr (Or.inl c26))))))], rfl⟩
          · refine G_iload_n C 0 dL_square_29 rfl rfl ?_
            refine G_bipush C (v := 49) dL_square_30 (by decide) ?_
            refine G_icmp_ne C 39 dL_square_32 (by decide) (fun c32 => ?_) (fun c32 => ?_)
            · refine G_iconst C (v := 0) dL_square_39 (by decide) ?_
              exact G_zret C hr rfl dL_square_40 ⟨by rw [if_neg (fun z => ((sqq d (by omega) h2).mpr z).elim c2 (fun z => z.elim c8 (fun z => z.elim c14 (fun z => z.elim c20 (fun z => z.elim c26 c32)))))], rfl⟩
            · refine G_iconst C (v := 1) dL_square_35 (by decide) ?_
              refine G_goto C 40 dL_square_36 (by decide) ?_
              exact G_zret C hr rfl dL_square_40 ⟨by rw [if_pos ((sqq d (by omega) h2).mp (Or.inr (Or.inr (Or.inr (Or.inr (Or.inr (c32)))))))], rfl⟩

/-- what look tells -/
def lookF (f : Nat → Int32) (ml : Int32) : Nat → Int64
  | 0 => 25513 + ml.toInt64
  | j + 1 => 131 * lookF f ml j + (if f (j + 2) < 0 then -104 else f (j + 2)).toInt64
abbrev lookS (s : HE) : Int64 := lookF s.1 s.2.2 59
abbrev rm_L_look : Room := ({ frames := 10, cells := 200, slots := 1200, locals := 166 } : Room)
set_option maxRecDepth 100000 in
set_option maxHeartbeats 4000000 in
theorem c_L_look {L : GL} {ad : Nat → Nat} {G : Nat → va_E} {s : HE} {sn : Int32} {k : HE} {hs : List HE} {len : Nat} {tx : Nat → Int32}   (hI : PI L ad G s sn k hs len tx) : GM L yL_look cL_look 4 ((some .long)) rm_L_look 40 ad G [.ref (ad 0)] (fun vo G' => vo = some (.long (lookS s)) ∧ PI L ad G' s sn k hs len tx) := by
  refine GM.of (own := RL) (lo := [(0, .ref (ad 0))]) (by decide +kernel) rfl rfl (Nat.le_of_ble_eq_true rfl) (fun E C hr => ?_)
  refine G_ldc2 C dL_look_0 kl_L_122 ?_
  refine G_aload_n C 0 dL_look_3 rfl rfl ?_
  refine G_pcM C hI.h0 (As := []) (rest := [.long 25513]) (p_milled  hI ) ca_X8_milled km_L_124 rfl rfl (by decide) (Nat.le_of_ble_eq_true rfl) (by decide) dL_look_4 (fun vv2 gg1 qq3 => ?_)
  obtain ⟨rfl, hI4⟩ := qq3
  refine G_i2l C dL_look_7 rfl ?_
  refine G_ladd C dL_look_8 ?_
  refine G_lstore_n C 1 (lo' := [(1, .long (25513 + s.2.2.toInt64)), (0, .ref (ad 0))]) dL_look_9 rfl (by decide) rfl ?_
  refine G_iconst C (v := 2) dL_look_10 (by decide) ?_
  refine G_istore_n C 3 (lo' := [(3, .int 2), (1, .long (25513 + s.2.2.toInt64)), (0, .ref (ad 0))]) dL_look_11 rfl (by decide) rfl ?_
  have key12 : ∀ (n : Nat) (j : Nat) (G12 : Nat → va_E) (hI12 : PI L ad G12 s sn k hs len tx) (hn : 59 - j < n) (hj : j ≤ 59), GW L E 40 ad G12 (1 + 2 * j) (6 + 12 * j) 12 [(3, .int (nI (j + 2))), (1, .long (lookF s.1 s.2.2 j)), (0, .ref (ad 0))] [] := by
    intro n
    induction n with
    | zero =>
      intro j G12 hI12 hn hj
      exact absurd hn (Nat.not_lt_zero _)
    | succ n ih12 =>
      intro j G12 hI12 hn hj
      refine G_iload_n C 3 dL_look_12 rfl rfl ?_
      refine G_bipush C (v := 61) dL_look_13 (by decide) ?_
      refine G_icmp_ge C 37 dL_look_15 (by decide) (fun c15 => ?_) (fun c15 => ?_)
      · have c15n : 61 ≤ (j + 2) := (cI_le (a := 61) (b := (j + 2)) rfl rfl (by omega) (by omega)).mp c15
        refine G_lload_n C 1 dL_look_37 rfl rfl ?_
        refine GW.widen (c1 := 200) (s1 := 1200) (by show 1 + 2 * j ≤ 200; omega) (by show 6 + 12 * j ≤ 1200; omega) ?_
        exact G_lret C hr dL_look_38 ⟨by rw [show j = 59 by omega], hI12⟩
      · have c15n : ¬ 61 ≤ (j + 2) := fun z => c15 ((cI_le (a := 61) (b := (j + 2)) rfl rfl (by omega) (by omega)).mpr z)
        refine G_ldc2 C dL_look_18 kl_L_127 ?_
        refine G_lload_n C 1 dL_look_21 rfl rfl ?_
        refine G_lmul C dL_look_22 ?_
        refine G_aload_n C 0 dL_look_23 rfl rfl ?_
        refine G_iload_n C 3 dL_look_24 rfl rfl ?_
        refine G_callSH C (As := [.ref (ad 0), .int (nI (j + 2))]) (rest := [.long (131 * (lookF s.1 s.2.2 j))]) (v_powerOf  hI12 (by omega) (by omega)) ca_L_powerOf km_L_129 rfl rfl (by decide) (Nat.le_of_ble_eq_true rfl) ⟨by show 1 + 2 * j + 2 ≤ 200; omega, by show 6 + 12 * j + 12 ≤ 1200; omega⟩ dL_look_25 (fun vv6 gg5 qq7 => ?_)
        obtain ⟨rfl, hI8⟩ := qq7
        refine G_i2l C dL_look_28 rfl ?_
        refine G_ladd C dL_look_29 ?_
        refine G_lstore_n C 1 (lo' := [(1, .long ((131 * (lookF s.1 s.2.2 j)) + ((if s.1 (j + 2) < 0 then -104 else s.1 (j + 2)).toInt64))), (3, .int (nI (j + 2))), (0, .ref (ad 0))]) dL_look_30 rfl (by decide) rfl ?_
        refine G_iinc C (v := nI ((j + 2) + 1)) (lo' := [(3, .int (nI ((j + 2) + 1))), (1, .long ((131 * (lookF s.1 s.2.2 j)) + ((if s.1 (j + 2) < 0 then -104 else s.1 (j + 2)).toInt64))), (0, .ref (ad 0))]) dL_look_31 rfl (nI_add _ _) (by decide) rfl ?_
        refine G_goto C 12 dL_look_34 (by decide) ?_
        refine GW.widen (c1 := 1 + 2 * (j + 1)) (s1 := 6 + 12 * (j + 1)) (by show 1 + 2 * j + 2 ≤ 1 + 2 * (j + 1); omega) (by show 6 + 12 * j + 12 ≤ 6 + 12 * (j + 1); omega) ?_
        exact ih12 (j + 1) gg5 hI8 (by omega) (by omega)
  refine GW.widen (c1 := 1 + 2 * 0) (s1 := 6 + 12 * 0) (by show 0 + 0 ≤ 1 + 2 * 0; omega) (by show 0 + 0 ≤ 6 + 12 * 0; omega) ?_
  exact key12 60 0 gg1 hI4 (by omega) (by omega)

def nxv (d k : Nat) : Int64 := if k < gpn d then (pwr d (k + 1)).1 else -1
theorem ux_ne : ∀ d, d < 61 → pern d ≠ 0 → ¬ (tUx d).toInt64 = 0 := by decide +kernel
theorem ux_le : ∀ d, d < 61 → pern d ≠ 0 → ¬ tUx d ≤ 0 := by decide +kernel
section NX
variable {d k : Nat}
theorem nx_A (h60 : d ≤ 60) (hp : pern d ≠ 0) (hg : k ≤ gpn d) (c : 1000000000000000 / (tUx d).toInt64 < (pwr d k).1) : nxv d k = -1 := by
  have g39 := gp_lt d (by omega)
  have e := climb_ok d (by omega) hp k (by omega) hg
  rw [climbF, if_neg (ux_le d (by omega) hp), if_neg (Int64.not_le.mpr c)] at e
  by_cases z : k < gpn d
  · rw [if_pos z] at e; exact absurd e (show ¬ (0 : Int32) = 1 by decide)
  · rw [nxv, if_neg z]
theorem nx_B (h60 : d ≤ 60) (hp : pern d ≠ 0) (hg : k ≤ gpn d) (c : ¬ 1000000000000000 / (tUx d).toInt64 < (pwr d k).1) (c2 : ¬ (pwr d k).1 * (tUx d).toInt64 + (nI d).toInt64 * (pwr d k).2 * (tUy d).toInt64 ≤ 1000000000000000) : nxv d k = -1 := by
  have g39 := gp_lt d (by omega)
  have e := climb_ok d (by omega) hp k (by omega) hg
  rw [climbF, if_neg (ux_le d (by omega) hp), if_pos (Int64.not_lt.mp c), if_neg c2] at e
  by_cases z : k < gpn d
  · rw [if_pos z] at e; exact absurd e (show ¬ (0 : Int32) = 1 by decide)
  · rw [nxv, if_neg z]
theorem nx_C (h60 : d ≤ 60) (hp : pern d ≠ 0) (hg : k ≤ gpn d) (c : ¬ 1000000000000000 / (tUx d).toInt64 < (pwr d k).1) (c2 : (pwr d k).1 * (tUx d).toInt64 + (nI d).toInt64 * (pwr d k).2 * (tUy d).toInt64 ≤ 1000000000000000) : nxv d k = (pwr d k).1 * (tUx d).toInt64 + (nI d).toInt64 * (pwr d k).2 * (tUy d).toInt64 := by
  have g39 := gp_lt d (by omega)
  have e := climb_ok d (by omega) hp k (by omega) hg
  rw [climbF, if_neg (ux_le d (by omega) hp), if_pos (Int64.not_lt.mp c), if_pos c2] at e
  by_cases z : k < gpn d
  · rw [nxv, if_pos z, pwr, climbF, if_neg (ux_le d (by omega) hp), if_pos (Int64.not_lt.mp c), if_pos c2]
  · rw [if_neg z] at e; exact absurd e (show ¬ (1 : Int32) = 0 by decide)
/-- the next power's y -/
theorem nx_Y (h60 : d ≤ 60) (hp : pern d ≠ 0) (hk : k < gpn d) : (pwr d (k + 1)).2 = (pwr d k).1 * (tUy d).toInt64 + (pwr d k).2 * (tUx d).toInt64 := by
  have g39 := gp_lt d (by omega)
  have e := climb_ok d (by omega) hp k (by omega) (by omega)
  rw [if_pos hk] at e
  rw [pwr]
  rw [climbF, if_neg (ux_le d (by omega) hp)] at e ⊢
  by_cases c : (pwr d k).1 ≤ 1000000000000000 / (tUx d).toInt64
  · rw [if_pos c] at e ⊢
    by_cases c2 : (pwr d k).1 * (tUx d).toInt64 + (nI d).toInt64 * (pwr d k).2 * (tUy d).toInt64 ≤ 1000000000000000
    · rw [if_pos c2]
    · rw [if_neg c2] at e; exact absurd e (show ¬ (0 : Int32) = 1 by decide)
  · rw [if_neg c] at e; exact absurd e (show ¬ (0 : Int32) = 1 by decide)
end NX
abbrev rm_L_next : Room := ({ frames := 9, cells := 4, slots := 24, locals := 144 } : Room)
set_option maxRecDepth 100000 in
set_option maxHeartbeats 4000000 in
theorem c_L_next {L : GL} {ad : Nat → Nat} {G : Nat → va_E} {s : HE} {sn : Int32} {k : HE} {hs : List HE} {len : Nat} {tx : Nat → Int32} {d k9 : Nat}   (hI : PI L ad G s sn k hs len tx) (h2 : 2 ≤ d) (h60 : d ≤ 60) (hp : pern d ≠ 0) (hg : k9 ≤ gpn d) : GM L yL_next cL_next 10 ((some .long)) rm_L_next 40 ad G [.ref (ad 0), .int (nI d), .long ((pwr d k9).1), .long ((pwr d k9).2)] (fun vo G' => vo = some (.long (nxv d k9)) ∧ PI L ad G' s sn k hs len tx) := by
  refine GM.of (own := RL) (lo := [(0, .ref (ad 0)), (1, .int (nI d)), (2, .long ((pwr d k9).1)), (4, .long ((pwr d k9).2))]) (by decide +kernel) rfl rfl (Nat.le_of_ble_eq_true rfl) (fun E C hr => ?_)
  refine G_aload_n C 0 dL_next_0 rfl rfl ?_
  refine G_iload_n C 1 dL_next_1 rfl rfl ?_
  refine G_pcX C hI.h0 (As := [.int (nI d)]) (rest := []) (q_unitX  hI h2 h60 hp) ca_X8_unitX km_L_86 rfl rfl (by decide) (Nat.le_of_ble_eq_true rfl) (by decide) dL_next_2 (fun vv2 gg1 qq3 => ?_)
  obtain ⟨rfl, hI4⟩ := qq3
  refine G_i2l C dL_next_5 rfl ?_
  refine G_lstore C (lo' := [(6, .long ((tUx d).toInt64)), (0, .ref (ad 0)), (1, .int (nI d)), (2, .long ((pwr d k9).1)), (4, .long ((pwr d k9).2))]) dL_next_6 (by decide) rfl ?_
  refine G_aload_n C 0 dL_next_8 rfl rfl ?_
  refine G_iload_n C 1 dL_next_9 rfl rfl ?_
  refine G_pcX C hI4.h0 (As := [.int (nI d)]) (rest := []) (q_unitY  hI4 h2 h60 hp) ca_X8_unitY km_L_89 rfl rfl (by decide) (Nat.le_of_ble_eq_true rfl) (by decide) dL_next_10 (fun vv6 gg5 qq7 => ?_)
  obtain ⟨rfl, hI8⟩ := qq7
  refine G_i2l C dL_next_13 rfl ?_
  refine G_lstore C (lo' := [(8, .long ((tUy d).toInt64)), (6, .long ((tUx d).toInt64)), (0, .ref (ad 0)), (1, .int (nI d)), (2, .long ((pwr d k9).1)), (4, .long ((pwr d k9).2))]) dL_next_14 (by decide) rfl ?_
  refine G_lload_n C 2 dL_next_16 rfl rfl ?_
  refine G_ldc2 C dL_next_17 kl_L_134 ?_
  refine G_lload C dL_next_20 rfl ?_
  refine G_ldiv C dL_next_22 (ux_ne d (by omega) hp) ?_
  refine G_lc_gt C 47 dL_next_23 dL_next_24 (by decide) (fun c23 => ?_) (fun c23 => ?_)
  · refine G_ldc2 C dL_next_47 kl_L_136 ?_
    refine G_goto C 66 dL_next_50 (by decide) ?_
    refine GW.widen (c1 := 4) (s1 := 24) (by decide) (by decide) ?_
    exact G_lret C hr dL_next_66 ⟨by rw [nx_A h60 hp hg c23], hI8⟩
  · refine G_lload_n C 2 dL_next_27 rfl rfl ?_
    refine G_lload C dL_next_28 rfl ?_
    refine G_lmul C dL_next_30 ?_
    refine G_iload_n C 1 dL_next_31 rfl rfl ?_
    refine G_i2l C dL_next_32 rfl ?_
    refine G_lload C dL_next_33 rfl ?_
    refine G_lmul C dL_next_35 ?_
    refine G_lload C dL_next_36 rfl ?_
    refine G_lmul C dL_next_38 ?_
    refine G_ladd C dL_next_39 ?_
    refine G_ldc2 C dL_next_40 kl_L_134 ?_
    refine G_lc_le C 53 dL_next_43 dL_next_44 (by decide) (fun c43 => ?_) (fun c43 => ?_)
    · refine G_lload_n C 2 dL_next_53 rfl rfl ?_
      refine G_lload C dL_next_54 rfl ?_
      refine G_lmul C dL_next_56 ?_
      refine G_iload_n C 1 dL_next_57 rfl rfl ?_
      refine G_i2l C dL_next_58 rfl ?_
      refine G_lload C dL_next_59 rfl ?_
      refine G_lmul C dL_next_61 ?_
      refine G_lload C dL_next_62 rfl ?_
      refine G_lmul C dL_next_64 ?_
      refine G_ladd C dL_next_65 ?_
      refine GW.widen (c1 := 4) (s1 := 24) (by decide) (by decide) ?_
      exact G_lret C hr dL_next_66 ⟨by rw [nx_C h60 hp hg c23 c43], hI8⟩
    · refine G_ldc2 C dL_next_47 kl_L_136 ?_
      refine G_goto C 66 dL_next_50 (by decide) ?_
      refine GW.widen (c1 := 4) (s1 := 24) (by decide) (by decide) ?_
      exact G_lret C hr dL_next_66 ⟨by rw [nx_B h60 hp hg c23 c43], hI8⟩

