/-- the law's own x and y of the terms: h, k and those before -/
def lsq (d : Nat) : Nat → Int64 × Int64 × Int64 × Int64
  | 0 => (1, 0, 0, 1)
  | i + 1 => ((tsq d i).2.2.toInt64 * (lsq d i).1 + (lsq d i).2.2.1, (tsq d i).2.2.toInt64 * (lsq d i).2.1 + (lsq d i).2.2.2, (lsq d i).1, (lsq d i).2.1)
def rtP (d : Nat) : Int32 := nI (pern d) - nI (pern d) / 2 * 2
def rtV (d : Nat) : Int64 := if rtP d = 0 then (tUx d).toInt64 else 2 * (tUx d).toInt64 * (tUx d).toInt64 + 1
theorem rt_1 : ∀ d, d < 61 → pern d ≠ 0 → ¬ nI d ≤ nI (wr d) * nI (wr d) ∧ ¬ (nI (wr d) + 1) * (nI (wr d) + 1) ≤ nI d ∧ ¬ nI (pern d) ≤ 0 ∧ ¬ tUx d ≤ 0 ∧ ¬ tUy d ≤ 0 ∧ (tsq d (pern d)).2.2 = 2 * nI (wr d) := by decide +kernel
theorem rt_2 : ∀ d, d < 61 → pern d ≠ 0 → (rtP d = 0 → (1 : Int32) = tUx d * tUx d - nI d * tUy d * tUy d ∧ tUy d = nI (lyn d)) ∧ (¬ rtP d = 0 → (-1 : Int32) = tUx d * tUx d - nI d * tUy d * tUy d ∧ 2 * tUx d * tUy d = nI (lyn d)) := by decide +kernel
theorem rt_3 : ∀ d, d < 61 → pern d ≠ 0 → rtV d * rtV d = 1 + (nI d).toInt64 * (nI (lyn d)).toInt64 * (nI (lyn d)).toInt64 := by decide +kernel
def rtB (d i : Nat) : Bool := decide (i = 0) || (!decide ((tsq d i).2.2 ≤ 0) && !decide (2 * nI (wr d) ≤ (tsq d i).2.2))
theorem rt_4 : ∀ d, d < 61 → pern d ≠ 0 → ∀ i, i < 12 → i < pern d → rtB d i = true := by decide +kernel
theorem rt_4b {d i : Nat} (hd : d < 61) (hp : pern d ≠ 0) (h12 : i < 12) (hi : i < pern d) (h0 : ¬ i = 0) : ¬ (tsq d i).2.2 ≤ 0 ∧ ¬ 2 * nI (wr d) ≤ (tsq d i).2.2 := by
  have h := rt_4 d hd hp i h12 hi
  unfold rtB at h
  simp only [Bool.or_eq_true, decide_eq_true_eq, Bool.and_eq_true, Bool.not_eq_true', decide_eq_false_iff_not] at h
  exact h.resolve_left h0
theorem rt_5 : ∀ d, d < 61 → pern d ≠ 0 → (lsq d (pern d)).1 = (tUx d).toInt64 ∧ (lsq d (pern d)).2.1 = (tUy d).toInt64 := by decide +kernel
theorem rt_6 : ∀ d, d < 61 → pern d ≠ 0 → tsq d (pern d + 1) = tsq d 1 := by decide +kernel
theorem rt_7 {d : Nat} (h60 : d ≤ 60) (hp : pern d ≠ 0) : ∀ j, tsq d (j + 1 + pern d) = tsq d (j + 1)
  | 0 => by rw [show 0 + 1 + pern d = pern d + 1 by omega]; exact rt_6 d (by omega) hp
  | j + 1 => by
    have ih := rt_7 h60 hp j
    rw [show j + 1 + 1 + pern d = (j + 1 + pern d) + 1 by omega, tsq, ih]
    rfl
theorem rt_8 {d j : Nat} (h60 : d ≤ 60) (hp : pern d ≠ 0) (hj : ¬ j = 0) : tsq d j = tsq d (j + pern d) := by
  obtain ⟨i, rfl⟩ : ∃ i, j = i + 1 := ⟨j - 1, by omega⟩
  exact (rt_7 h60 hp i).symm
theorem rs_sq {f : Nat → Int32} {l : Int32} {d : Nat} (h60 : d ≤ 60) (hp : pern d = 0) : rsnF f l (nI d) = 1 := by rw [rsnF, if_neg (sq_1 h60 hp)]
theorem nj_0 {j : Nat} (hj : j < 1000) (h : nI j = 0) : j = 0 := (cI_eq (a := j) (b := 0) rfl rfl (by omega) (by omega)).mp h
theorem nj_n {j : Nat} (hj : j < 1000) (h : ¬ nI j = 0) : ¬ j = 0 := fun z => h (by rw [z]; rfl)
abbrev rm_L_root : Room := ({ frames := 10, cells := 200, slots := 1200, locals := 168 } : Room)
set_option maxRecDepth 100000 in
set_option maxHeartbeats 4000000 in
theorem c_L_root {L : GL} {ad : Nat → Nat} {G : Nat → va_E} {s : HE} {sn : Int32} {k : HE} {hs : List HE} {len : Nat} {tx : Nat → Int32} {d : Nat} {x : Int32}   (hI : PI L ad G s sn k hs len tx) (h2 : 2 ≤ d) (h60 : d ≤ 60) : GM L yL_root cL_root 27 ((some .boolean)) rm_L_root 40 ad G [.ref (ad 0), .int (nI d), .int x] (fun vo G' => vo = some (.int 1) ∧ PI L ad G' s sn k hs len tx) := by
  refine GM.of (own := RL) (lo := [(0, .ref (ad 0)), (1, .int (nI d)), (2, .int x)]) (by decide +kernel) rfl rfl (Nat.le_of_ble_eq_true rfl) (fun E C hr => ?_)
  refine G_iload_n C 1 dL_root_0 rfl rfl ?_
  refine G_callS C (As := [.int (nI d)]) (rest := []) (c_L_square   h2 h60) ca_L_square km_L_138 rfl rfl (by decide) (Nat.le_of_ble_eq_true rfl) (by decide) dL_root_1 (fun vv2 gg1 qq3 => ?_)
  obtain ⟨rfl, rfl⟩ := qq3
  by_cases hp : pern d = 0
  · refine GW.topr (y := 1) (if_pos hp) ?_
    refine G_if_eq C 83 dL_root_4 (by decide) (fun h => absurd h (by decide)) (fun _ => ?_)
    refine G_aload_n C 0 dL_root_7 rfl rfl ?_
    refine G_iload_n C 1 dL_root_8 rfl rfl ?_
    refine G_pcX C hI.h0 (As := [.int (nI d)]) (rest := []) (q_whyNot  hI h2 h60) ca_X8_whyNot km_L_33 rfl rfl (by decide) (Nat.le_of_ble_eq_true rfl) (by decide) dL_root_9 (fun vv5 gg4 qq6 => ?_)
    obtain ⟨rfl, hI7⟩ := qq6
    refine GW.topr (y := 1) (rs_sq h60 hp) ?_
    refine G_iconst C (v := 1) dL_root_12 (by decide) ?_
    refine G_icmp_ne C 81 dL_root_13 (by decide) (fun h => absurd h (by decide)) (fun _ => ?_)
    refine G_aload_n C 0 dL_root_16 rfl rfl ?_
    refine G_iload_n C 1 dL_root_17 rfl rfl ?_
    refine G_callSH C (As := [.ref (ad 0), .int (nI d)]) (rest := []) (v_periodOfS  hI7 h2 h60 hp) ca_L_periodOf km_L_141 rfl rfl (by decide) (Nat.le_of_ble_eq_true rfl) (by decide) dL_root_18 (fun vv9 gg8 qq10 => ?_)
    obtain ⟨rfl, hI11⟩ := qq10
    refine G_bipush C (v := (-104)) dL_root_21 (by decide) ?_
    refine G_icmp_ne C 81 dL_root_23 (by decide) (fun h => absurd h (by decide)) (fun _ => ?_)
    refine G_aload_n C 0 dL_root_26 rfl rfl ?_
    refine G_iload_n C 1 dL_root_27 rfl rfl ?_
    refine G_iconst C (v := 5) dL_root_28 (by decide) ?_
    refine G_callSH C (As := [.ref (ad 0), .int (nI d), .int 5]) (rest := []) (v_termAtS (pl := 5) hI11 h2 h60 hp (by omega)) ca_L_termAt km_L_143 rfl rfl (by decide) (Nat.le_of_ble_eq_true rfl) (by decide) dL_root_29 (fun vv13 gg12 qq14 => ?_)
    obtain ⟨rfl, hI15⟩ := qq14
    refine G_bipush C (v := (-104)) dL_root_32 (by decide) ?_
    refine G_icmp_ne C 81 dL_root_34 (by decide) (fun h => absurd h (by decide)) (fun _ => ?_)
    refine G_aload_n C 0 dL_root_37 rfl rfl ?_
    refine G_iload_n C 1 dL_root_38 rfl rfl ?_
    refine G_callSH C (As := [.ref (ad 0), .int (nI d)]) (rest := []) (v_unitXS  hI15 h2 h60 hp) ca_L_unitX km_L_146 rfl rfl (by decide) (Nat.le_of_ble_eq_true rfl) (by decide) dL_root_39 (fun vv17 gg16 qq18 => ?_)
    obtain ⟨rfl, hI19⟩ := qq18
    refine G_bipush C (v := (-104)) dL_root_42 (by decide) ?_
    refine G_icmp_ne C 81 dL_root_44 (by decide) (fun h => absurd h (by decide)) (fun _ => ?_)
    refine G_aload_n C 0 dL_root_47 rfl rfl ?_
    refine G_iload_n C 1 dL_root_48 rfl rfl ?_
    refine G_callSH C (As := [.ref (ad 0), .int (nI d)]) (rest := []) (v_unitYS  hI19 h2 h60 hp) ca_L_unitY km_L_148 rfl rfl (by decide) (Nat.le_of_ble_eq_true rfl) (by decide) dL_root_49 (fun vv21 gg20 qq22 => ?_)
    obtain ⟨rfl, hI23⟩ := qq22
    refine G_bipush C (v := (-104)) dL_root_52 (by decide) ?_
    refine G_icmp_ne C 81 dL_root_54 (by decide) (fun h => absurd h (by decide)) (fun _ => ?_)
    refine G_aload_n C 0 dL_root_57 rfl rfl ?_
    refine G_iload_n C 1 dL_root_58 rfl rfl ?_
    refine G_callSH C (As := [.ref (ad 0), .int (nI d)]) (rest := []) (v_leastYS  hI23 h2 h60 hp) ca_L_leastY km_L_150 rfl rfl (by decide) (Nat.le_of_ble_eq_true rfl) (by decide) dL_root_59 (fun vv25 gg24 qq26 => ?_)
    obtain ⟨rfl, hI27⟩ := qq26
    refine G_bipush C (v := (-104)) dL_root_62 (by decide) ?_
    refine G_icmp_ne C 81 dL_root_64 (by decide) (fun h => absurd h (by decide)) (fun _ => ?_)
    refine G_aload_n C 0 dL_root_67 rfl rfl ?_
    refine G_iload_n C 1 dL_root_68 rfl rfl ?_
    refine G_callSH C (As := [.ref (ad 0), .int (nI d)]) (rest := []) (v_leastYBySearchS  hI27 h2 h60 hp) ca_L_leastYBySearch km_L_152 rfl rfl (by decide) (Nat.le_of_ble_eq_true rfl) (by decide) dL_root_69 (fun vv29 gg28 qq30 => ?_)
    obtain ⟨rfl, hI31⟩ := qq30
    refine G_bipush C (v := (-104)) dL_root_72 (by decide) ?_
    refine G_icmp_ne C 81 dL_root_74 (by decide) (fun h => absurd h (by decide)) (fun _ => ?_)
    refine G_iconst C (v := 1) dL_root_77 (by decide) ?_
    refine G_goto C 82 dL_root_78 (by decide) ?_
    refine GW.widen (c1 := 200) (s1 := 1200) (by decide) (by decide) ?_
    exact G_zret C hr rfl dL_root_82 ⟨rfl, hI31⟩
  · refine GW.topr (y := 0) (if_neg hp) ?_
    have h12 := per_lt d (by omega)
    have r1 := rt_1 d (by omega) hp
    refine G_if_eq C 83 dL_root_4 (by decide) (fun _ => ?_) (fun h => absurd h (by decide))
    refine G_aload_n C 0 dL_root_83 rfl rfl ?_
    refine G_iload_n C 1 dL_root_84 rfl rfl ?_
    refine G_iconst C (v := 0) dL_root_85 (by decide) ?_
    refine G_pcX C hI.h0 (As := [.int (nI d), .int 0]) (rest := []) (q_termAt (pl := 0) hI h2 h60 hp (by omega)) ca_X8_termAt km_L_36 rfl rfl (by decide) (Nat.le_of_ble_eq_true rfl) (by decide) dL_root_86 (fun vv33 gg32 qq34 => ?_)
    obtain ⟨rfl, hI35⟩ := qq34
    refine GW.topr (y := nI (wr d)) (rfl) ?_
    refine G_istore_n C 3 (lo' := [(3, .int (nI (wr d))), (0, .ref (ad 0)), (1, .int (nI d)), (2, .int x)]) dL_root_89 rfl (by decide) rfl ?_
    refine G_aload_n C 0 dL_root_90 rfl rfl ?_
    refine G_iload_n C 1 dL_root_91 rfl rfl ?_
    refine G_pcX C hI35.h0 (As := [.int (nI d)]) (rest := []) (q_periodOf  hI35 h2 h60 hp) ca_X8_periodOf km_L_83 rfl rfl (by decide) (Nat.le_of_ble_eq_true rfl) (by decide) dL_root_92 (fun vv37 gg36 qq38 => ?_)
    obtain ⟨rfl, hI39⟩ := qq38
    refine G_istore C (lo' := [(4, .int (nI (pern d))), (3, .int (nI (wr d))), (0, .ref (ad 0)), (1, .int (nI d)), (2, .int x)]) dL_root_95 (by decide) rfl ?_
    refine G_aload_n C 0 dL_root_97 rfl rfl ?_
    refine G_iload_n C 1 dL_root_98 rfl rfl ?_
    refine G_pcX C hI39.h0 (As := [.int (nI d)]) (rest := []) (q_unitX  hI39 h2 h60 hp) ca_X8_unitX km_L_86 rfl rfl (by decide) (Nat.le_of_ble_eq_true rfl) (by decide) dL_root_99 (fun vv41 gg40 qq42 => ?_)
    obtain ⟨rfl, hI43⟩ := qq42
    refine G_istore C (lo' := [(5, .int (tUx d)), (4, .int (nI (pern d))), (3, .int (nI (wr d))), (0, .ref (ad 0)), (1, .int (nI d)), (2, .int x)]) dL_root_102 (by decide) rfl ?_
    refine G_aload_n C 0 dL_root_104 rfl rfl ?_
    refine G_iload_n C 1 dL_root_105 rfl rfl ?_
    refine G_pcX C hI43.h0 (As := [.int (nI d)]) (rest := []) (q_unitY  hI43 h2 h60 hp) ca_X8_unitY km_L_89 rfl rfl (by decide) (Nat.le_of_ble_eq_true rfl) (by decide) dL_root_106 (fun vv45 gg44 qq46 => ?_)
    obtain ⟨rfl, hI47⟩ := qq46
    refine G_istore C (lo' := [(6, .int (tUy d)), (5, .int (tUx d)), (4, .int (nI (pern d))), (3, .int (nI (wr d))), (0, .ref (ad 0)), (1, .int (nI d)), (2, .int x)]) dL_root_109 (by decide) rfl ?_
    refine G_aload_n C 0 dL_root_111 rfl rfl ?_
    refine G_iload_n C 1 dL_root_112 rfl rfl ?_
    refine G_pcX C hI47.h0 (As := [.int (nI d)]) (rest := []) (q_leastY  hI47 h2 h60 hp) ca_X8_leastY km_L_92 rfl rfl (by decide) (Nat.le_of_ble_eq_true rfl) (by decide) dL_root_113 (fun vv49 gg48 qq50 => ?_)
    obtain ⟨rfl, hI51⟩ := qq50
    refine G_i2l C dL_root_116 rfl ?_
    refine G_lstore C (lo' := [(7, .long ((nI (lyn d)).toInt64)), (6, .int (tUy d)), (5, .int (tUx d)), (4, .int (nI (pern d))), (3, .int (nI (wr d))), (0, .ref (ad 0)), (1, .int (nI d)), (2, .int x)]) dL_root_117 (by decide) rfl ?_
    refine G_lconst C (v := 1) dL_root_119 (by decide) ?_
    refine G_iload_n C 1 dL_root_120 rfl rfl ?_
    refine G_i2l C dL_root_121 rfl ?_
    refine G_lload C dL_root_122 rfl ?_
    refine G_lmul C dL_root_124 ?_
    refine G_lload C dL_root_125 rfl ?_
    refine G_lmul C dL_root_127 ?_
    refine G_ladd C dL_root_128 ?_
    refine G_lstore C (lo' := [(9, .long (1 + ((((nI d).toInt64) * ((nI (lyn d)).toInt64)) * ((nI (lyn d)).toInt64)))), (7, .long ((nI (lyn d)).toInt64)), (6, .int (tUy d)), (5, .int (tUx d)), (4, .int (nI (pern d))), (3, .int (nI (wr d))), (0, .ref (ad 0)), (1, .int (nI d)), (2, .int x)]) dL_root_129 (by decide) rfl ?_
    refine G_iload C dL_root_131 rfl ?_
    refine G_i2l C dL_root_133 rfl ?_
    refine G_lstore C (lo' := [(11, .long ((tUx d).toInt64)), (9, .long (1 + ((((nI d).toInt64) * ((nI (lyn d)).toInt64)) * ((nI (lyn d)).toInt64)))), (7, .long ((nI (lyn d)).toInt64)), (6, .int (tUy d)), (5, .int (tUx d)), (4, .int (nI (pern d))), (3, .int (nI (wr d))), (0, .ref (ad 0)), (1, .int (nI d)), (2, .int x)]) dL_root_134 (by decide) rfl ?_
    refine G_iload C dL_root_136 rfl ?_
    refine G_iconst C (v := 2) dL_root_138 (by decide) ?_
    refine G_irem C dL_root_139 (by decide) ?_
    have jn140 : ∀  (gj52 : Nat → va_E) (hj53 : PI L ad gj52 s sn k hs len tx) , GW L E 40 ad gj52 20 120 159 [(11, .long ((tUx d).toInt64)), (9, .long (1 + ((((nI d).toInt64) * ((nI (lyn d)).toInt64)) * ((nI (lyn d)).toInt64)))), (7, .long ((nI (lyn d)).toInt64)), (6, .int (tUy d)), (5, .int (tUx d)), (4, .int (nI (pern d))), (3, .int (nI (wr d))), (0, .ref (ad 0)), (1, .int (nI d)), (2, .int x)] [.long (rtV d)] := by
      intro  gj52 hj53
      refine G_lstore C (lo' := [(11, .long (rtV d)), (9, .long (1 + ((((nI d).toInt64) * ((nI (lyn d)).toInt64)) * ((nI (lyn d)).toInt64)))), (7, .long ((nI (lyn d)).toInt64)), (6, .int (tUy d)), (5, .int (tUx d)), (4, .int (nI (pern d))), (3, .int (nI (wr d))), (0, .ref (ad 0)), (1, .int (nI d)), (2, .int x)]) dL_root_159 (by decide) rfl ?_
      refine G_iload_n C 3 dL_root_161 rfl rfl ?_
      refine G_iload_n C 3 dL_root_162 rfl rfl ?_
      refine G_imul C dL_root_163 ?_
      refine G_iload_n C 1 dL_root_164 rfl rfl ?_
      refine G_icmp_ge C 294 dL_root_165 (by decide) (fun c165 => False.elim (r1.1 c165)) (fun c165 => ?_)
      refine G_iload_n C 3 dL_root_168 rfl rfl ?_
      refine G_iconst C (v := 1) dL_root_169 (by decide) ?_
      refine G_iadd C dL_root_170 ?_
      refine G_iload_n C 3 dL_root_171 rfl rfl ?_
      refine G_iconst C (v := 1) dL_root_172 (by decide) ?_
      refine G_iadd C dL_root_173 ?_
      refine G_imul C dL_root_174 ?_
      refine G_iload_n C 1 dL_root_175 rfl rfl ?_
      refine G_icmp_le C 294 dL_root_176 (by decide) (fun c176 => False.elim (r1.2.1 c176)) (fun c176 => ?_)
      refine G_iload C dL_root_179 rfl ?_
      refine G_if_le C 294 dL_root_181 (by decide) (fun c181 => False.elim (r1.2.2.1 c181)) (fun c181 => ?_)
      refine G_aload_n C 0 dL_root_184 rfl rfl ?_
      refine G_iload_n C 1 dL_root_185 rfl rfl ?_
      refine G_iload C dL_root_186 rfl ?_
      refine G_pcX C hj53.h0 (As := [.int (nI d), .int (nI (pern d))]) (rest := []) (q_termAt (pl := (pern d)) hj53 h2 h60 hp (by omega)) ca_X8_termAt km_L_36 rfl rfl (by decide) (Nat.le_of_ble_eq_true rfl) (by decide) dL_root_188 (fun vv55 gg54 qq56 => ?_)
      obtain ⟨rfl, hI57⟩ := qq56
      refine GW.topr (y := (2 * (nI (wr d)))) (r1.2.2.2.2.2) ?_
      refine G_iconst C (v := 2) dL_root_191 (by decide) ?_
      refine G_iload_n C 3 dL_root_192 rfl rfl ?_
      refine G_imul C dL_root_193 ?_
      refine G_icmp_ne C 294 dL_root_194 (by decide) (fun c194 => False.elim (c194 rfl)) (fun c194 => ?_)
      refine G_iload C dL_root_197 rfl ?_
      refine G_if_le C 294 dL_root_199 (by decide) (fun c199 => False.elim (r1.2.2.2.1 c199)) (fun c199 => ?_)
      refine G_iload C dL_root_202 rfl ?_
      refine G_if_le C 294 dL_root_204 (by decide) (fun c204 => False.elim (r1.2.2.2.2.1 c204)) (fun c204 => ?_)
      refine G_iload C dL_root_207 rfl ?_
      refine G_iload C dL_root_209 rfl ?_
      refine G_imul C dL_root_211 ?_
      refine G_iload_n C 1 dL_root_212 rfl rfl ?_
      refine G_iload C dL_root_213 rfl ?_
      refine G_imul C dL_root_215 ?_
      refine G_iload C dL_root_216 rfl ?_
      refine G_imul C dL_root_218 ?_
      refine G_isub C dL_root_219 ?_
      refine G_iload C dL_root_220 rfl ?_
      refine G_iconst C (v := 2) dL_root_222 (by decide) ?_
      refine G_irem C dL_root_223 (by decide) ?_
      have jn224 : ∀  (gj58 : Nat → va_E) (hj59 : PI L ad gj58 s sn k hs len tx) , GW L E 40 ad gj58 22 132 232 [(11, .long (rtV d)), (9, .long (1 + ((((nI d).toInt64) * ((nI (lyn d)).toInt64)) * ((nI (lyn d)).toInt64)))), (7, .long ((nI (lyn d)).toInt64)), (6, .int (tUy d)), (5, .int (tUx d)), (4, .int (nI (pern d))), (3, .int (nI (wr d))), (0, .ref (ad 0)), (1, .int (nI d)), (2, .int x)] [.int (((tUx d) * (tUx d)) - (((nI d) * (tUy d)) * (tUy d))), .int (((tUx d) * (tUx d)) - (((nI d) * (tUy d)) * (tUy d)))] := by
        intro  gj58 hj59
        refine G_icmp_ne C 294 dL_root_232 (by decide) (fun c232 => False.elim (c232 rfl)) (fun c232 => ?_)
        refine G_lload C dL_root_235 rfl ?_
        refine G_lload C dL_root_237 rfl ?_
        refine G_lmul C dL_root_239 ?_
        refine G_lload C dL_root_240 rfl ?_
        refine G_lc_ne C 294 dL_root_242 dL_root_243 (by decide) (fun c242 => False.elim (c242 (rt_3 d (by omega) hp))) (fun c242 => ?_)
        refine G_lload C dL_root_246 rfl ?_
        refine G_iload C dL_root_248 rfl ?_
        refine G_iconst C (v := 2) dL_root_250 (by decide) ?_
        refine G_irem C dL_root_251 (by decide) ?_
        have jn252 : ∀  (gj60 : Nat → va_E) (hj61 : PI L ad gj60 s sn k hs len tx) , GW L E 40 ad gj60 22 132 267 [(11, .long (rtV d)), (9, .long (1 + ((((nI d).toInt64) * ((nI (lyn d)).toInt64)) * ((nI (lyn d)).toInt64)))), (7, .long ((nI (lyn d)).toInt64)), (6, .int (tUy d)), (5, .int (tUx d)), (4, .int (nI (pern d))), (3, .int (nI (wr d))), (0, .ref (ad 0)), (1, .int (nI d)), (2, .int x)] [.int (nI (lyn d)), .long ((nI (lyn d)).toInt64)] := by
          intro  gj60 hj61
          refine G_i2l C dL_root_267 rfl ?_
          refine G_lc_ne C 294 dL_root_268 dL_root_269 (by decide) (fun c268 => False.elim (c268 rfl)) (fun c268 => ?_)
          refine G_iload_n C 2 dL_root_272 rfl rfl ?_
          refine G_iconst C (v := 4) dL_root_273 (by decide) ?_
          refine G_irem C dL_root_274 (by decide) ?_
          have jn275 : ∀  (gj62 : Nat → va_E) (hj63 : PI L ad gj62 s sn k hs len tx) , GW L E 40 ad gj62 24 144 290 [(11, .long (rtV d)), (9, .long (1 + ((((nI d).toInt64) * ((nI (lyn d)).toInt64)) * ((nI (lyn d)).toInt64)))), (7, .long ((nI (lyn d)).toInt64)), (6, .int (tUy d)), (5, .int (tUx d)), (4, .int (nI (pern d))), (3, .int (nI (wr d))), (0, .ref (ad 0)), (1, .int (nI d)), (2, .int x)] [] := by
            intro  gj62 hj63
            refine G_iconst C (v := 1) dL_root_290 (by decide) ?_
            refine G_goto C 295 dL_root_291 (by decide) ?_
            refine G_istore C (lo' := [(13, .int 1), (11, .long (rtV d)), (9, .long (1 + ((((nI d).toInt64) * ((nI (lyn d)).toInt64)) * ((nI (lyn d)).toInt64)))), (7, .long ((nI (lyn d)).toInt64)), (6, .int (tUy d)), (5, .int (tUx d)), (4, .int (nI (pern d))), (3, .int (nI (wr d))), (0, .ref (ad 0)), (1, .int (nI d)), (2, .int x)]) dL_root_295 (by decide) rfl ?_
            refine G_lconst C (v := 1) dL_root_297 (by decide) ?_
            refine G_lstore C (lo' := [(14, .long 1), (13, .int 1), (11, .long (rtV d)), (9, .long (1 + ((((nI d).toInt64) * ((nI (lyn d)).toInt64)) * ((nI (lyn d)).toInt64)))), (7, .long ((nI (lyn d)).toInt64)), (6, .int (tUy d)), (5, .int (tUx d)), (4, .int (nI (pern d))), (3, .int (nI (wr d))), (0, .ref (ad 0)), (1, .int (nI d)), (2, .int x)]) dL_root_298 (by decide) rfl ?_
            refine G_lconst C (v := 0) dL_root_300 (by decide) ?_
            refine G_lstore C (lo' := [(16, .long 0), (14, .long 1), (13, .int 1), (11, .long (rtV d)), (9, .long (1 + ((((nI d).toInt64) * ((nI (lyn d)).toInt64)) * ((nI (lyn d)).toInt64)))), (7, .long ((nI (lyn d)).toInt64)), (6, .int (tUy d)), (5, .int (tUx d)), (4, .int (nI (pern d))), (3, .int (nI (wr d))), (0, .ref (ad 0)), (1, .int (nI d)), (2, .int x)]) dL_root_301 (by decide) rfl ?_
            refine G_lconst C (v := 0) dL_root_303 (by decide) ?_
            refine G_lstore C (lo' := [(18, .long 0), (16, .long 0), (14, .long 1), (13, .int 1), (11, .long (rtV d)), (9, .long (1 + ((((nI d).toInt64) * ((nI (lyn d)).toInt64)) * ((nI (lyn d)).toInt64)))), (7, .long ((nI (lyn d)).toInt64)), (6, .int (tUy d)), (5, .int (tUx d)), (4, .int (nI (pern d))), (3, .int (nI (wr d))), (0, .ref (ad 0)), (1, .int (nI d)), (2, .int x)]) dL_root_304 (by decide) rfl ?_
            refine G_lconst C (v := 1) dL_root_306 (by decide) ?_
            refine G_lstore C (lo' := [(20, .long 1), (18, .long 0), (16, .long 0), (14, .long 1), (13, .int 1), (11, .long (rtV d)), (9, .long (1 + ((((nI d).toInt64) * ((nI (lyn d)).toInt64)) * ((nI (lyn d)).toInt64)))), (7, .long ((nI (lyn d)).toInt64)), (6, .int (tUy d)), (5, .int (tUx d)), (4, .int (nI (pern d))), (3, .int (nI (wr d))), (0, .ref (ad 0)), (1, .int (nI d)), (2, .int x)]) dL_root_307 (by decide) rfl ?_
            refine G_iconst C (v := 0) dL_root_309 (by decide) ?_
            refine G_istore C (lo' := [(22, .int 0), (20, .long 1), (18, .long 0), (16, .long 0), (14, .long 1), (13, .int 1), (11, .long (rtV d)), (9, .long (1 + ((((nI d).toInt64) * ((nI (lyn d)).toInt64)) * ((nI (lyn d)).toInt64)))), (7, .long ((nI (lyn d)).toInt64)), (6, .int (tUy d)), (5, .int (tUx d)), (4, .int (nI (pern d))), (3, .int (nI (wr d))), (0, .ref (ad 0)), (1, .int (nI d)), (2, .int x)]) dL_root_310 (by decide) rfl ?_
            have key312 : ∀ (n : Nat) (i : Nat) (G312 : Nat → va_E) (hI312 : PI L ad G312 s sn k hs len tx) (hn : pern d - i < n) (hi : i ≤ pern d), GW L E 40 ad G312 (30 + 8 * i) (200 + 48 * i) 312 [(22, .int (nI i)), (20, .long ((lsq d i).2.2.2)), (18, .long ((lsq d i).2.2.1)), (16, .long ((lsq d i).2.1)), (14, .long ((lsq d i).1)), (13, .int 1), (11, .long (rtV d)), (9, .long (1 + ((((nI d).toInt64) * ((nI (lyn d)).toInt64)) * ((nI (lyn d)).toInt64)))), (7, .long ((nI (lyn d)).toInt64)), (6, .int (tUy d)), (5, .int (tUx d)), (4, .int (nI (pern d))), (3, .int (nI (wr d))), (0, .ref (ad 0)), (1, .int (nI d)), (2, .int x)] [] := by
              intro n
              induction n with
              | zero =>
                intro i G312 hI312 hn hi
                exact absurd hn (Nat.not_lt_zero _)
              | succ n ih312 =>
                intro i G312 hI312 hn hi
                refine G_iload C dL_root_312 rfl ?_
                refine G_iload C dL_root_314 rfl ?_
                refine G_icmp_ge C 413 dL_root_316 (by decide) (fun c316 => ?_) (fun c316 => ?_)
                · have c316n : (pern d) ≤ i := (cI_le (a := (pern d)) (b := i) rfl rfl (by omega) (by omega)).mp c316
                  refine G_iload_n C 2 dL_root_413 rfl rfl ?_
                  refine G_bipush C (v := 80) dL_root_414 (by decide) ?_
                  refine G_callS C (As := [.int x, .int 80]) (rest := []) (c_L_low (n := 80)  (by omega) (by omega)) ca_L_low km_L_156 rfl rfl (by decide) (Nat.le_of_ble_eq_true rfl) ⟨by show 30 + 8 * i + 0 ≤ 200; omega, by show 200 + 48 * i + 0 ≤ 1200; omega⟩ dL_root_416 (fun vv65 gg64 qq66 => ?_)
                  obtain ⟨j80, hj80, rfl, rfl⟩ := qq66
                  refine G_istore C (lo' := [(22, .int (nI j80)), (20, .long ((lsq d i).2.2.2)), (18, .long ((lsq d i).2.2.1)), (16, .long ((lsq d i).2.1)), (14, .long ((lsq d i).1)), (13, .int 1), (11, .long (rtV d)), (9, .long (1 + ((((nI d).toInt64) * ((nI (lyn d)).toInt64)) * ((nI (lyn d)).toInt64)))), (7, .long ((nI (lyn d)).toInt64)), (6, .int (tUy d)), (5, .int (tUx d)), (4, .int (nI (pern d))), (3, .int (nI (wr d))), (0, .ref (ad 0)), (1, .int (nI d)), (2, .int x)]) dL_root_419 (by decide) rfl ?_
                  refine G_iload C dL_root_421 rfl ?_
                  refine G_if_eq C 491 dL_root_423 (by decide) (fun h => absurd h (by decide)) (fun _ => ?_)
                  refine G_lload C dL_root_426 rfl ?_
                  refine G_iload C dL_root_428 rfl ?_
                  refine G_i2l C dL_root_430 rfl ?_
                  refine G_lc_ne C 491 dL_root_431 dL_root_432 (by decide) (fun c431 => False.elim (c431 (by rw [show i = pern d by omega]; exact (rt_5 d (by omega) hp).1))) (fun c431 => ?_)
                  refine G_lload C dL_root_435 rfl ?_
                  refine G_iload C dL_root_437 rfl ?_
                  refine G_i2l C dL_root_439 rfl ?_
                  refine G_lc_ne C 491 dL_root_440 dL_root_441 (by decide) (fun c440 => False.elim (c440 (by rw [show i = pern d by omega]; exact (rt_5 d (by omega) hp).2))) (fun c440 => ?_)
                  refine G_aload_n C 0 dL_root_444 rfl rfl ?_
                  refine G_iload_n C 1 dL_root_445 rfl rfl ?_
                  refine G_iload C dL_root_446 rfl ?_
                  refine G_iload C dL_root_448 rfl ?_
                  refine G_iadd C dL_root_450 ?_
                  refine GW.topr (cI_add (a := j80) (b := (pern d)) rfl rfl) ?_
                  refine G_pcX C hI312.h0 (As := [.int (nI d), .int (nI (j80 + (pern d)))]) (rest := []) (q_termAt (pl := (j80 + pern d)) hI312 h2 h60 hp (by omega)) ca_X8_termAt km_L_36 rfl rfl (by decide) (Nat.le_of_ble_eq_true rfl) ⟨by show 30 + 8 * i + 0 + 2 ≤ 200; omega, by show 200 + 48 * i + 0 + 12 ≤ 1200; omega⟩ dL_root_451 (fun vv68 gg67 qq69 => ?_)
                  obtain ⟨rfl, hI70⟩ := qq69
                  refine G_iload C dL_root_454 rfl ?_
                  have jn456 : ∀  (gj71 : Nat → va_E) (hj72 : PI L ad gj71 s sn k hs len tx) , GW L E 40 ad gj71 140 800 472 [(22, .int (nI j80)), (20, .long ((lsq d i).2.2.2)), (18, .long ((lsq d i).2.2.1)), (16, .long ((lsq d i).2.1)), (14, .long ((lsq d i).1)), (13, .int 1), (11, .long (rtV d)), (9, .long (1 + ((((nI d).toInt64) * ((nI (lyn d)).toInt64)) * ((nI (lyn d)).toInt64)))), (7, .long ((nI (lyn d)).toInt64)), (6, .int (tUy d)), (5, .int (tUx d)), (4, .int (nI (pern d))), (3, .int (nI (wr d))), (0, .ref (ad 0)), (1, .int (nI d)), (2, .int x)] [.int ((tsq d (j80 + pern d)).2.2), .int ((tsq d (j80 + pern d)).2.2)] := by
                    intro  gj71 hj72
                    refine G_icmp_ne C 491 dL_root_472 (by decide) (fun c472 => False.elim (c472 rfl)) (fun c472 => ?_)
                    refine G_aload_n C 0 dL_root_475 rfl rfl ?_
                    refine G_iload_n C 1 dL_root_476 rfl rfl ?_
                    refine G_bipush C (v := 100) dL_root_477 (by decide) ?_
                    refine G_callSH C (As := [.ref (ad 0), .int (nI d), .int 100]) (rest := []) (v_termAt100  hj72 ) ca_L_termAt km_L_143 rfl rfl (by decide) (Nat.le_of_ble_eq_true rfl) (by decide) dL_root_479 (fun vv74 gg73 qq75 => ?_)
                    obtain ⟨rfl, hI76⟩ := qq75
                    refine G_bipush C (v := (-102)) dL_root_482 (by decide) ?_
                    refine G_icmp_ne C 491 dL_root_484 (by decide) (fun h => absurd h (by decide)) (fun _ => ?_)
                    refine G_iconst C (v := 1) dL_root_487 (by decide) ?_
                    refine G_goto C 492 dL_root_488 (by decide) ?_
                    refine GW.widen (c1 := 200) (s1 := 1200) (by decide) (by decide) ?_
                    exact G_zret C hr rfl dL_root_492 ⟨rfl, hI76⟩
                  refine G_if_ne C 465 dL_root_456 (by decide) (fun c456 => ?_) (fun c456 => ?_)
                  · refine G_aload_n C 0 dL_root_465 rfl rfl ?_
                    refine G_iload_n C 1 dL_root_466 rfl rfl ?_
                    refine G_iload C dL_root_467 rfl ?_
                    refine G_pcX C hI70.h0 (As := [.int (nI d), .int (nI j80)]) (rest := [.int ((tsq d (j80 + pern d)).2.2)]) (q_termAt (pl := j80) hI70 h2 h60 hp (by omega)) ca_X8_termAt km_L_36 rfl rfl (by decide) (Nat.le_of_ble_eq_true rfl) ⟨by show 30 + 8 * i + 0 + 2 + 2 ≤ 200; omega, by show 200 + 48 * i + 0 + 12 + 12 ≤ 1200; omega⟩ dL_root_469 (fun vv78 gg77 qq79 => ?_)
                    obtain ⟨rfl, hI80⟩ := qq79
                    refine GW.topr (y := (tsq d (j80 + pern d)).2.2) (by rw [rt_8 h60 hp (nj_n (by omega) c456)]) ?_
                    refine GW.widen (c1 := 140) (s1 := 800) (by show 30 + 8 * i + 0 + 2 + 2 ≤ 140; omega) (by show 200 + 48 * i + 0 + 12 + 12 ≤ 800; omega) ?_
                    exact jn456 gg77 hI80
                  · refine G_iconst C (v := 2) dL_root_459 (by decide) ?_
                    refine G_iload_n C 3 dL_root_460 rfl rfl ?_
                    refine G_imul C dL_root_461 ?_
                    refine G_goto C 472 dL_root_462 (by decide) ?_
                    refine GW.topr (y := (tsq d (j80 + pern d)).2.2) (by rw [nj_0 (by omega) c456, Nat.zero_add]; exact r1.2.2.2.2.2.symm) ?_
                    refine GW.widen (c1 := 140) (s1 := 800) (by show 30 + 8 * i + 0 + 2 ≤ 140; omega) (by show 200 + 48 * i + 0 + 12 ≤ 800; omega) ?_
                    exact jn456 gg67 hI70
                · have c316n : ¬ (pern d) ≤ i := fun z => c316 ((cI_le (a := (pern d)) (b := i) rfl rfl (by omega) (by omega)).mpr z)
                  refine G_iload C dL_root_319 rfl ?_
                  refine G_if_eq C 413 dL_root_321 (by decide) (fun h => absurd h (by decide)) (fun _ => ?_)
                  refine G_aload_n C 0 dL_root_324 rfl rfl ?_
                  refine G_iload_n C 1 dL_root_325 rfl rfl ?_
                  refine G_iload C dL_root_326 rfl ?_
                  refine G_pcX C hI312.h0 (As := [.int (nI d), .int (nI i)]) (rest := []) (q_termAt (pl := i) hI312 h2 h60 hp (by omega)) ca_X8_termAt km_L_36 rfl rfl (by decide) (Nat.le_of_ble_eq_true rfl) ⟨by show 30 + 8 * i + 2 ≤ 200; omega, by show 200 + 48 * i + 12 ≤ 1200; omega⟩ dL_root_328 (fun vv82 gg81 qq83 => ?_)
                  obtain ⟨rfl, hI84⟩ := qq83
                  refine G_i2l C dL_root_331 rfl ?_
                  refine G_lload C dL_root_332 rfl ?_
                  refine G_lmul C dL_root_334 ?_
                  refine G_lload C dL_root_335 rfl ?_
                  refine G_ladd C dL_root_337 ?_
                  refine G_lstore C (lo' := [(23, .long (((((tsq d i).2.2).toInt64) * ((lsq d i).1)) + ((lsq d i).2.2.1))), (22, .int (nI i)), (20, .long ((lsq d i).2.2.2)), (18, .long ((lsq d i).2.2.1)), (16, .long ((lsq d i).2.1)), (14, .long ((lsq d i).1)), (13, .int 1), (11, .long (rtV d)), (9, .long (1 + ((((nI d).toInt64) * ((nI (lyn d)).toInt64)) * ((nI (lyn d)).toInt64)))), (7, .long ((nI (lyn d)).toInt64)), (6, .int (tUy d)), (5, .int (tUx d)), (4, .int (nI (pern d))), (3, .int (nI (wr d))), (0, .ref (ad 0)), (1, .int (nI d)), (2, .int x)]) dL_root_338 (by decide) rfl ?_
                  refine G_aload_n C 0 dL_root_340 rfl rfl ?_
                  refine G_iload_n C 1 dL_root_341 rfl rfl ?_
                  refine G_iload C dL_root_342 rfl ?_
                  refine G_pcX C hI84.h0 (As := [.int (nI d), .int (nI i)]) (rest := []) (q_termAt (pl := i) hI84 h2 h60 hp (by omega)) ca_X8_termAt km_L_36 rfl rfl (by decide) (Nat.le_of_ble_eq_true rfl) ⟨by show 30 + 8 * i + 2 + 2 ≤ 200; omega, by show 200 + 48 * i + 12 + 12 ≤ 1200; omega⟩ dL_root_344 (fun vv86 gg85 qq87 => ?_)
                  obtain ⟨rfl, hI88⟩ := qq87
                  refine G_i2l C dL_root_347 rfl ?_
                  refine G_lload C dL_root_348 rfl ?_
                  refine G_lmul C dL_root_350 ?_
                  refine G_lload C dL_root_351 rfl ?_
                  refine G_ladd C dL_root_353 ?_
                  refine G_lstore C (lo' := [(25, .long (((((tsq d i).2.2).toInt64) * ((lsq d i).2.1)) + ((lsq d i).2.2.2))), (23, .long (((((tsq d i).2.2).toInt64) * ((lsq d i).1)) + ((lsq d i).2.2.1))), (22, .int (nI i)), (20, .long ((lsq d i).2.2.2)), (18, .long ((lsq d i).2.2.1)), (16, .long ((lsq d i).2.1)), (14, .long ((lsq d i).1)), (13, .int 1), (11, .long (rtV d)), (9, .long (1 + ((((nI d).toInt64) * ((nI (lyn d)).toInt64)) * ((nI (lyn d)).toInt64)))), (7, .long ((nI (lyn d)).toInt64)), (6, .int (tUy d)), (5, .int (tUx d)), (4, .int (nI (pern d))), (3, .int (nI (wr d))), (0, .ref (ad 0)), (1, .int (nI d)), (2, .int x)]) dL_root_354 (by decide) rfl ?_
                  refine G_lload C dL_root_356 rfl ?_
                  refine G_lstore C (lo' := [(18, .long ((lsq d i).1)), (25, .long (((((tsq d i).2.2).toInt64) * ((lsq d i).2.1)) + ((lsq d i).2.2.2))), (23, .long (((((tsq d i).2.2).toInt64) * ((lsq d i).1)) + ((lsq d i).2.2.1))), (22, .int (nI i)), (20, .long ((lsq d i).2.2.2)), (16, .long ((lsq d i).2.1)), (14, .long ((lsq d i).1)), (13, .int 1), (11, .long (rtV d)), (9, .long (1 + ((((nI d).toInt64) * ((nI (lyn d)).toInt64)) * ((nI (lyn d)).toInt64)))), (7, .long ((nI (lyn d)).toInt64)), (6, .int (tUy d)), (5, .int (tUx d)), (4, .int (nI (pern d))), (3, .int (nI (wr d))), (0, .ref (ad 0)), (1, .int (nI d)), (2, .int x)]) dL_root_358 (by decide) rfl ?_
                  refine G_lload C dL_root_360 rfl ?_
                  refine G_lstore C (lo' := [(20, .long ((lsq d i).2.1)), (18, .long ((lsq d i).1)), (25, .long (((((tsq d i).2.2).toInt64) * ((lsq d i).2.1)) + ((lsq d i).2.2.2))), (23, .long (((((tsq d i).2.2).toInt64) * ((lsq d i).1)) + ((lsq d i).2.2.1))), (22, .int (nI i)), (16, .long ((lsq d i).2.1)), (14, .long ((lsq d i).1)), (13, .int 1), (11, .long (rtV d)), (9, .long (1 + ((((nI d).toInt64) * ((nI (lyn d)).toInt64)) * ((nI (lyn d)).toInt64)))), (7, .long ((nI (lyn d)).toInt64)), (6, .int (tUy d)), (5, .int (tUx d)), (4, .int (nI (pern d))), (3, .int (nI (wr d))), (0, .ref (ad 0)), (1, .int (nI d)), (2, .int x)]) dL_root_362 (by decide) rfl ?_
                  refine G_lload C dL_root_364 rfl ?_
                  refine G_lstore C (lo' := [(14, .long (((((tsq d i).2.2).toInt64) * ((lsq d i).1)) + ((lsq d i).2.2.1))), (20, .long ((lsq d i).2.1)), (18, .long ((lsq d i).1)), (25, .long (((((tsq d i).2.2).toInt64) * ((lsq d i).2.1)) + ((lsq d i).2.2.2))), (23, .long (((((tsq d i).2.2).toInt64) * ((lsq d i).1)) + ((lsq d i).2.2.1))), (22, .int (nI i)), (16, .long ((lsq d i).2.1)), (13, .int 1), (11, .long (rtV d)), (9, .long (1 + ((((nI d).toInt64) * ((nI (lyn d)).toInt64)) * ((nI (lyn d)).toInt64)))), (7, .long ((nI (lyn d)).toInt64)), (6, .int (tUy d)), (5, .int (tUx d)), (4, .int (nI (pern d))), (3, .int (nI (wr d))), (0, .ref (ad 0)), (1, .int (nI d)), (2, .int x)]) dL_root_366 (by decide) rfl ?_
                  refine G_lload C dL_root_368 rfl ?_
                  refine G_lstore C (lo' := [(16, .long (((((tsq d i).2.2).toInt64) * ((lsq d i).2.1)) + ((lsq d i).2.2.2))), (14, .long (((((tsq d i).2.2).toInt64) * ((lsq d i).1)) + ((lsq d i).2.2.1))), (20, .long ((lsq d i).2.1)), (18, .long ((lsq d i).1)), (25, .long (((((tsq d i).2.2).toInt64) * ((lsq d i).2.1)) + ((lsq d i).2.2.2))), (23, .long (((((tsq d i).2.2).toInt64) * ((lsq d i).1)) + ((lsq d i).2.2.1))), (22, .int (nI i)), (13, .int 1), (11, .long (rtV d)), (9, .long (1 + ((((nI d).toInt64) * ((nI (lyn d)).toInt64)) * ((nI (lyn d)).toInt64)))), (7, .long ((nI (lyn d)).toInt64)), (6, .int (tUy d)), (5, .int (tUx d)), (4, .int (nI (pern d))), (3, .int (nI (wr d))), (0, .ref (ad 0)), (1, .int (nI d)), (2, .int x)]) dL_root_370 (by decide) rfl ?_
                  refine G_iload C dL_root_372 rfl ?_
                  have jn374 : ∀  (gj89 : Nat → va_E) (hj90 : PI L ad gj89 s sn k hs len tx) , GW L E 40 ad gj89 (30 + 8 * i + 8) (200 + 48 * i + 48) 400 [(16, .long (((((tsq d i).2.2).toInt64) * ((lsq d i).2.1)) + ((lsq d i).2.2.2))), (14, .long (((((tsq d i).2.2).toInt64) * ((lsq d i).1)) + ((lsq d i).2.2.1))), (20, .long ((lsq d i).2.1)), (18, .long ((lsq d i).1)), (25, .long (((((tsq d i).2.2).toInt64) * ((lsq d i).2.1)) + ((lsq d i).2.2.2))), (23, .long (((((tsq d i).2.2).toInt64) * ((lsq d i).1)) + ((lsq d i).2.2.1))), (22, .int (nI i)), (13, .int 1), (11, .long (rtV d)), (9, .long (1 + ((((nI d).toInt64) * ((nI (lyn d)).toInt64)) * ((nI (lyn d)).toInt64)))), (7, .long ((nI (lyn d)).toInt64)), (6, .int (tUy d)), (5, .int (tUx d)), (4, .int (nI (pern d))), (3, .int (nI (wr d))), (0, .ref (ad 0)), (1, .int (nI d)), (2, .int x)] [] := by
                    intro  gj89 hj90
                    refine G_iconst C (v := 1) dL_root_400 (by decide) ?_
                    refine G_goto C 405 dL_root_401 (by decide) ?_
                    refine G_istore C (lo' := [(13, .int 1), (16, .long (((((tsq d i).2.2).toInt64) * ((lsq d i).2.1)) + ((lsq d i).2.2.2))), (14, .long (((((tsq d i).2.2).toInt64) * ((lsq d i).1)) + ((lsq d i).2.2.1))), (20, .long ((lsq d i).2.1)), (18, .long ((lsq d i).1)), (25, .long (((((tsq d i).2.2).toInt64) * ((lsq d i).2.1)) + ((lsq d i).2.2.2))), (23, .long (((((tsq d i).2.2).toInt64) * ((lsq d i).1)) + ((lsq d i).2.2.1))), (22, .int (nI i)), (11, .long (rtV d)), (9, .long (1 + ((((nI d).toInt64) * ((nI (lyn d)).toInt64)) * ((nI (lyn d)).toInt64)))), (7, .long ((nI (lyn d)).toInt64)), (6, .int (tUy d)), (5, .int (tUx d)), (4, .int (nI (pern d))), (3, .int (nI (wr d))), (0, .ref (ad 0)), (1, .int (nI d)), (2, .int x)]) dL_root_405 (by decide) rfl ?_
                    refine G_iinc C (v := nI (i + 1)) (lo' := [(22, .int (nI (i + 1))), (13, .int 1), (16, .long (((((tsq d i).2.2).toInt64) * ((lsq d i).2.1)) + ((lsq d i).2.2.2))), (14, .long (((((tsq d i).2.2).toInt64) * ((lsq d i).1)) + ((lsq d i).2.2.1))), (20, .long ((lsq d i).2.1)), (18, .long ((lsq d i).1)), (25, .long (((((tsq d i).2.2).toInt64) * ((lsq d i).2.1)) + ((lsq d i).2.2.2))), (23, .long (((((tsq d i).2.2).toInt64) * ((lsq d i).1)) + ((lsq d i).2.2.1))), (11, .long (rtV d)), (9, .long (1 + ((((nI d).toInt64) * ((nI (lyn d)).toInt64)) * ((nI (lyn d)).toInt64)))), (7, .long ((nI (lyn d)).toInt64)), (6, .int (tUy d)), (5, .int (tUx d)), (4, .int (nI (pern d))), (3, .int (nI (wr d))), (0, .ref (ad 0)), (1, .int (nI d)), (2, .int x)]) dL_root_407 rfl (nI_add _ _) (by decide) rfl ?_
                    refine G_goto C 312 dL_root_410 (by decide) ?_
                    refine GW.pick [0, 4, 5, 2, 3, 1, 8, 9, 10, 11, 12, 13, 14, 15, 16, 17] [(22, .int (nI (i + 1))), (20, .long ((lsq d i).2.1)), (18, .long ((lsq d i).1)), (16, .long (((((tsq d i).2.2).toInt64) * ((lsq d i).2.1)) + ((lsq d i).2.2.2))), (14, .long (((((tsq d i).2.2).toInt64) * ((lsq d i).1)) + ((lsq d i).2.2.1))), (13, .int 1), (11, .long (rtV d)), (9, .long (1 + ((((nI d).toInt64) * ((nI (lyn d)).toInt64)) * ((nI (lyn d)).toInt64)))), (7, .long ((nI (lyn d)).toInt64)), (6, .int (tUy d)), (5, .int (tUx d)), (4, .int (nI (pern d))), (3, .int (nI (wr d))), (0, .ref (ad 0)), (1, .int (nI d)), (2, .int x)] rfl ?_
                    refine GW.widen (c1 := 30 + 8 * (i + 1)) (s1 := 200 + 48 * (i + 1)) (by show 30 + 8 * i + 8 ≤ 30 + 8 * (i + 1); omega) (by show 200 + 48 * i + 48 ≤ 200 + 48 * (i + 1); omega) ?_
                    exact ih312 (i + 1) gj89 hj90 (by omega) (by omega)
                  refine G_if_eq C 400 dL_root_374 (by decide) (fun c374 => ?_) (fun c374 => ?_)
                  · refine GW.widen (c1 := 30 + 8 * i + 8) (s1 := 200 + 48 * i + 48) (by show 30 + 8 * i + 2 + 2 ≤ 30 + 8 * i + 8; omega) (by show 200 + 48 * i + 12 + 12 ≤ 200 + 48 * i + 48; omega) ?_
                    exact jn374 gg85 hI88
                  · refine G_aload_n C 0 dL_root_377 rfl rfl ?_
                    refine G_iload_n C 1 dL_root_378 rfl rfl ?_
                    refine G_iload C dL_root_379 rfl ?_
                    refine G_pcX C hI88.h0 (As := [.int (nI d), .int (nI i)]) (rest := []) (q_termAt (pl := i) hI88 h2 h60 hp (by omega)) ca_X8_termAt km_L_36 rfl rfl (by decide) (Nat.le_of_ble_eq_true rfl) ⟨by show 30 + 8 * i + 2 + 2 + 2 ≤ 200; omega, by show 200 + 48 * i + 12 + 12 + 12 ≤ 1200; omega⟩ dL_root_381 (fun vv92 gg91 qq93 => ?_)
                    obtain ⟨rfl, hI94⟩ := qq93
                    refine G_if_le C 404 dL_root_384 (by decide) (fun c384 => False.elim ((rt_4b (by omega) hp (by omega) (by omega) (nj_n (by omega) c374)).1 c384)) (fun c384 => ?_)
                    refine G_aload_n C 0 dL_root_387 rfl rfl ?_
                    refine G_iload_n C 1 dL_root_388 rfl rfl ?_
                    refine G_iload C dL_root_389 rfl ?_
                    refine G_pcX C hI94.h0 (As := [.int (nI d), .int (nI i)]) (rest := []) (q_termAt (pl := i) hI94 h2 h60 hp (by omega)) ca_X8_termAt km_L_36 rfl rfl (by decide) (Nat.le_of_ble_eq_true rfl) ⟨by show 30 + 8 * i + 2 + 2 + 2 + 2 ≤ 200; omega, by show 200 + 48 * i + 12 + 12 + 12 + 12 ≤ 1200; omega⟩ dL_root_391 (fun vv96 gg95 qq97 => ?_)
                    obtain ⟨rfl, hI98⟩ := qq97
                    refine G_iconst C (v := 2) dL_root_394 (by decide) ?_
                    refine G_iload_n C 3 dL_root_395 rfl rfl ?_
                    refine G_imul C dL_root_396 ?_
                    refine G_icmp_ge C 404 dL_root_397 (by decide) (fun c397 => False.elim ((rt_4b (by omega) hp (by omega) (by omega) (nj_n (by omega) c374)).2 c397)) (fun c397 => ?_)
                    refine GW.widen (c1 := 30 + 8 * i + 8) (s1 := 200 + 48 * i + 48) (by show 30 + 8 * i + 2 + 2 + 2 + 2 ≤ 30 + 8 * i + 8; omega) (by show 200 + 48 * i + 12 + 12 + 12 + 12 ≤ 200 + 48 * i + 48; omega) ?_
                    exact jn374 gg95 hI98
            refine GW.widen (c1 := 30 + 8 * 0) (s1 := 200 + 48 * 0) (by show 24 ≤ 30 + 8 * 0; omega) (by show 144 ≤ 200 + 48 * 0; omega) ?_
            exact key312 (pern d + 1) 0 gj62 hj63 (by omega) (by omega)
          refine G_if_gt C 290 dL_root_275 (by decide) (fun c275 => ?_) (fun c275 => ?_)
          · refine GW.widen (c1 := 24) (s1 := 144) (by decide) (by decide) ?_
            exact jn275 gj60 hj61
          · refine G_aload_n C 0 dL_root_278 rfl rfl ?_
            refine G_iload_n C 1 dL_root_279 rfl rfl ?_
            refine G_pcX C hj61.h0 (As := [.int (nI d)]) (rest := []) (q_leastYBySearch  hj61 h2 h60 hp) ca_X8_leastYBySearch km_L_95 rfl rfl (by decide) (Nat.le_of_ble_eq_true rfl) (by decide) dL_root_280 (fun vv100 gg99 qq101 => ?_)
            obtain ⟨rfl, hI102⟩ := qq101
            refine G_i2l C dL_root_283 rfl ?_
            refine G_lload C dL_root_284 rfl ?_
            refine G_lc_ne C 294 dL_root_286 dL_root_287 (by decide) (fun c286 => False.elim (c286 rfl)) (fun c286 => ?_)
            refine GW.widen (c1 := 24) (s1 := 144) (by decide) (by decide) ?_
            exact jn275 gg99 hI102
        refine G_if_ne C 260 dL_root_252 (by decide) (fun c252 => ?_) (fun c252 => ?_)
        · refine G_iconst C (v := 2) dL_root_260 (by decide) ?_
          refine G_iload C dL_root_261 rfl ?_
          refine G_imul C dL_root_263 ?_
          refine G_iload C dL_root_264 rfl ?_
          refine G_imul C dL_root_266 ?_
          refine GW.topr (y := nI (lyn d)) (((rt_2 d (by omega) hp).2 c252).2) ?_
          exact jn252 gj58 hj59
        · refine G_iload C dL_root_255 rfl ?_
          refine G_goto C 267 dL_root_257 (by decide) ?_
          refine GW.topr (y := nI (lyn d)) (((rt_2 d (by omega) hp).1 c252).2) ?_
          exact jn252 gj58 hj59
      refine G_if_ne C 231 dL_root_224 (by decide) (fun c224 => ?_) (fun c224 => ?_)
      · refine G_iconst C (v := (-1)) dL_root_231 (by decide) ?_
        refine GW.topr (y := (((tUx d) * (tUx d)) - (((nI d) * (tUy d)) * (tUy d)))) (((rt_2 d (by omega) hp).2 c224).1) ?_
        refine GW.widen (c1 := 22) (s1 := 132) (by decide) (by decide) ?_
        exact jn224 gg54 hI57
      · refine G_iconst C (v := 1) dL_root_227 (by decide) ?_
        refine G_goto C 232 dL_root_228 (by decide) ?_
        refine GW.topr (y := (((tUx d) * (tUx d)) - (((nI d) * (tUy d)) * (tUy d)))) (((rt_2 d (by omega) hp).1 c224).1) ?_
        refine GW.widen (c1 := 22) (s1 := 132) (by decide) (by decide) ?_
        exact jn224 gg54 hI57
    refine G_if_ne C 148 dL_root_140 (by decide) (fun c140 => ?_) (fun c140 => ?_)
    · refine G_ldc2 C dL_root_148 kl_L_154 ?_
      refine G_lload C dL_root_151 rfl ?_
      refine G_lmul C dL_root_153 ?_
      refine G_lload C dL_root_154 rfl ?_
      refine G_lmul C dL_root_156 ?_
      refine G_lconst C (v := 1) dL_root_157 (by decide) ?_
      refine G_ladd C dL_root_158 ?_
      refine GW.toprl (y := rtV d) (by rw [rtV, if_neg (show ¬ rtP d = 0 from c140)]) ?_
      refine GW.widen (c1 := 20) (s1 := 120) (by decide) (by decide) ?_
      exact jn140 gg48 hI51
    · refine G_lload C dL_root_143 rfl ?_
      refine G_goto C 159 dL_root_145 (by decide) ?_
      refine GW.toprl (y := rtV d) (by rw [rtV, if_pos (show rtP d = 0 from c140)]) ?_
      refine GW.widen (c1 := 20) (s1 := 120) (by decide) (by decide) ?_
      exact jn140 gg48 hI51

