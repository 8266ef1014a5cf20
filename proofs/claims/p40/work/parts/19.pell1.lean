/-- how many up to b: the numbers 2 to j + 1 are looked at -/
def cuF (f : Nat → Int32) (b : Int64) : Nat → Int32
  | 0 => 0
  | j + 1 => if hasF f (nI (j + 2)) = 0 then cuF f b j else cuF f b j + nI (cntL (j + 2) b 40 0)
/-- how many stones of the sign -1 -/
def mnF (f : Nat → Int32) : Nat → Int32
  | 0 => 0
  | j + 1 => if hasF f (nI (j + 2)) = 0 then mnF f j else if signF f (nI (j + 2)) = -1 then mnF f j + 1 else mnF f j
/-- the first stone from j on, with n looks; 61 if there is none up to 60 -/
def sfF (f : Nat → Int32) : Nat → Nat → Nat
  | 0, j => j
  | n + 1, j => if hasF f (nI j) = 0 then sfF f n (j + 1) else j
def srF (n : Int32) (x y : Int64) : Int32 := if fmF ((x - x / 1000003 * 1000003) * (x - x / 1000003 * 1000003) - n.toInt64 * (y - y / 1000003 * 1000003) * (y - y / 1000003 * 1000003)) 1000003 = 1 then 1 else -1
theorem cuF_n {f : Nat → Int32} {b : Int64} {j : Nat} (h : hasF f (nI (j + 2)) = 0) : cuF f b (j + 1) = cuF f b j := by rw [cuF, if_pos h]
theorem cuF_y {f : Nat → Int32} {b : Int64} {j : Nat} (h : ¬ hasF f (nI (j + 2)) = 0) : cuF f b (j + 1) = cuF f b j + nI (cntL (j + 2) b 40 0) := by rw [cuF, if_neg h]
abbrev rm_X8_countPowersUpTo : Room := ({ frames := 2, cells := 0, slots := 0, locals := 45 } : Room)
set_option maxRecDepth 100000 in
set_option maxHeartbeats 4000000 in
theorem c_X8_countPowersUpTo {L : GL} {ad : Nat → Nat} {G : Nat → va_E} {d : Nat} {b : Int64} {sn : Int32} {b1 b2 b3 : Int32} {b4 b5 : Int64}  (g0 : G 0 = .inr (8, [.ref (ad 1), .ref (ad 8), .ref (ad 9), .ref (ad 19), .ref (ad 22), .ref (ad 24), .ref (ad 26), .ref (ad 28), .ref (ad 38), .int sn])) (g1 : G 1 = .inr (4, [.ref (ad 2), .ref (ad 3), .ref (ad 4), .ref (ad 5), .ref (ad 6)])) (g4 : G 4 = .inl (L.ac 0, 61, .inl tUx)) (g5 : G 5 = .inl (L.ac 0, 61, .inl tUy)) (g8 : G 8 = .inr (1, [.int b1, .int b2, .int b3, .long b4, .long b5])) (h60 : d ≤ 60) (hp : pern d ≠ 0) : GM L yX8_countPowersUpTo cX8_countPowersUpTo 5 ((some .int)) rm_X8_countPowersUpTo 40 ad G [.ref (ad 0), .int (nI d), .long b] (fun vo G' => ∃ (y1 : Int64) (y2 : Int64), vo = some (.int (nI (cntL d b 40 0))) ∧ G' 8 = .inr (1, [.int (tUx d), .int (tUy d), .int (nI d), .long y1, .long y2]) ∧ Agr [8] G G') := by
  refine GM.of (own := RX8) (lo := [(0, .ref (ad 0)), (1, .int (nI d)), (2, .long b)]) (by decide +kernel) rfl rfl (Nat.le_of_ble_eq_true rfl) (fun E C hr => ?_)
  refine G_aload_n C 0 dX8_countPowersUpTo_0 rfl rfl ?_
  refine G_get C 0 (by decide) g0 rfl inA8 0 (by decide) rfl kf_X8_12 rfl dX8_countPowersUpTo_1 ?_
  refine G_aload_n C 0 dX8_countPowersUpTo_4 rfl rfl ?_
  refine G_get C 0 (by decide) g0 rfl inA8 1 (by decide) rfl kf_X8_19 rfl dX8_countPowersUpTo_5 ?_
  refine G_iload_n C 1 dX8_countPowersUpTo_8 rfl rfl ?_
  refine G_callV C (As := [.ref (ad 8), .int (nI d)]) (rest := []) (c_X4_begin (by decide) (by decide) (by decide) (by decide) g1 g4 g5 g8) ca_X4_begin km_X8_258 (by decide) g1 rfl rfl rfl rfl (by decide) (Nat.le_of_ble_eq_true rfl) (by decide) dX8_countPowersUpTo_9 (fun vv1 gg2 qq3 => ?_)
  obtain ⟨rfl, hh4, aa5⟩ := qq3
  have AA6 : Agr [8] G gg2 := aa5.wk (by simp)
  rw [tab_d tUx (by omega), tab_d tUy (by omega)] at hh4
  refine G_iconst C (v := 0) dX8_countPowersUpTo_12 (by decide) ?_
  refine G_istore C (lo' := [(4, .int 0), (0, .ref (ad 0)), (1, .int (nI d)), (2, .long b)]) dX8_countPowersUpTo_13 (by decide) rfl ?_
  have key15 : ∀ (n : Nat) (i : Nat) (G1 : Nat → va_E) (hf15_8 : G1 8 = .inr (1, [.int (tUx d), .int (tUy d), .int (nI d), .long ((pwr d i).1), .long ((pwr d i).2)])) (ha15 : Agr [8] G G1) (hn : 40 - i < n) (hi : i ≤ gpn d) (hs : cntL d b 40 0 = cntL d b (40 - i) i), GW L E 40 ad G1 0 0 15 [(4, .int (nI i)), (0, .ref (ad 0)), (1, .int (nI d)), (2, .long b)] [] := by
    intro n
    induction n with
    | zero =>
      intro i G1 hf15_8 ha15 hn hi hs
      exact absurd hn (Nat.not_lt_zero _)
    | succ n ih =>
      intro i G1 hf15_8 ha15 hn hi hs
      have h39 := gp_lt d (by omega)
      have hck := climb_ok d (by omega) hp i (by omega) hi
      refine G_iload C dX8_countPowersUpTo_15 rfl ?_
      refine G_ldcw C dX8_countPowersUpTo_17 ki_X8_262 ?_
      refine G_icmp_ge C 54 dX8_countPowersUpTo_20 (by decide) (fun c20 => False.elim (by have := (cI_le (a := 1000000) (b := i) rfl rfl (by omega) (by omega)).mp c20; omega)) (fun c20 => ?_)
      have c20n : ¬ 1000000 ≤ i := fun z => c20 ((cI_le (a := 1000000) (b := i) rfl rfl (by omega) (by omega)).mpr z)
      refine G_aload_n C 0 dX8_countPowersUpTo_23 rfl rfl ?_
      refine G_get C 0 (by decide) ((ha15 0 (by decide)).trans g0) rfl inA8 1 (by decide) rfl kf_X8_19 rfl dX8_countPowersUpTo_24 ?_
      refine G_callV C (As := []) (rest := []) (c_X1_climb (by decide) hf15_8) ca_X1_climb km_X8_263 (by decide) hf15_8 rfl rfl rfl rfl (by decide) (Nat.le_of_ble_eq_true rfl) (by decide) dX8_countPowersUpTo_27 (fun vv7 gg8 qq9 => ?_)
      obtain ⟨rfl, hh10, aa11⟩ := qq9
      have AA12 : Agr [8] G gg8 := ha15.tr aa11 (by simp) (by simp)
      refine G_if_eq C 45 dX8_countPowersUpTo_30 (by decide) (fun c30 => ?_) (fun c30 => ?_)
      · refine G_iload C dX8_countPowersUpTo_45 rfl ?_
        exact G_zret C hr rfl dX8_countPowersUpTo_47 ⟨_, _, (by rw [hs, cntL_stop (fun z => absurd (c30.symm.trans (hck.trans (if_pos z.1))) (by decide))]), hh10, AA12⟩
      · refine G_aload_n C 0 dX8_countPowersUpTo_33 rfl rfl ?_
        refine G_get C 0 (by decide) ((aa11 0 (by decide)).trans ((ha15 0 (by decide)).trans g0)) rfl inA8 1 (by decide) rfl kf_X8_19 rfl dX8_countPowersUpTo_34 ?_
        refine G_get C 8 (by decide) hh10 rfl inA1 3 (by decide) rfl kf_X8_82 rfl dX8_countPowersUpTo_37 ?_
        refine G_lload_n C 2 dX8_countPowersUpTo_40 rfl rfl ?_
        refine G_lc_le C 48 dX8_countPowersUpTo_41 dX8_countPowersUpTo_42 (by decide) (fun c41 => ?_) (fun c41 => ?_)
        · refine G_iinc C (v := nI (i + 1)) (lo' := [(4, .int (nI (i + 1))), (0, .ref (ad 0)), (1, .int (nI d)), (2, .long b)]) dX8_countPowersUpTo_48 rfl (nI_add _ _) (by decide) rfl ?_
          refine G_goto C 15 dX8_countPowersUpTo_51 (by decide) ?_
          exact ih (i + 1) gg8 hh10 AA12 (by have : i < gpn d := Classical.byContradiction fun z => c30 (hck.trans (if_neg z)); omega) (by have : i < gpn d := Classical.byContradiction fun z => c30 (hck.trans (if_neg z)); omega) (hs.trans (by rw [show 40 - i = (40 - (i + 1)) + 1 by omega]; exact cntL_step (by have : i < gpn d := Classical.byContradiction fun z => c30 (hck.trans (if_neg z)); exact this) c41))
        · refine G_iload C dX8_countPowersUpTo_45 rfl ?_
          exact G_zret C hr rfl dX8_countPowersUpTo_47 ⟨_, _, (by rw [hs, cntL_stop (fun z => c41 z.2)]), hh10, AA12⟩
  exact key15 41 0 gg2 hh4 AA6 (by omega) (Nat.zero_le _) (rfl)

abbrev rm_X8_countUpTo : Room := ({ frames := 3, cells := 0, slots := 0, locals := 69 } : Room)
set_option maxRecDepth 100000 in
set_option maxHeartbeats 4000000 in
theorem c_X8_countUpTo {L : GL} {ad : Nat → Nat} {G : Nat → va_E} {b : Int64} {sn : Int32} {b1 b2 b3 : Int32} {b4 b5 : Int64} {l ml : Int32} {f : Nat → Int32}  (g0 : G 0 = .inr (8, [.ref (ad 1), .ref (ad 8), .ref (ad 9), .ref (ad 19), .ref (ad 22), .ref (ad 24), .ref (ad 26), .ref (ad 28), .ref (ad 38), .int sn])) (g1 : G 1 = .inr (4, [.ref (ad 2), .ref (ad 3), .ref (ad 4), .ref (ad 5), .ref (ad 6)])) (g4 : G 4 = .inl (L.ac 0, 61, .inl tUx)) (g5 : G 5 = .inl (L.ac 0, 61, .inl tUy)) (g8 : G 8 = .inr (1, [.int b1, .int b2, .int b3, .long b4, .long b5])) (g22 : G 22 = .inr (5, [.ref (ad 1), .ref (ad 23), .int l, .int ml])) (g23 : G 23 = .inl (L.ac 0, 61, .inl f)) (hk : okH f) : GM L yX8_countUpTo cX8_countUpTo 5 ((some .int)) rm_X8_countUpTo 40 ad G [.ref (ad 0), .long b] (fun vo G' => ∃ (c1 : Int32) (c2 : Int32) (c3 : Int32) (c4 : Int64) (c5 : Int64), vo = some (.int (cuF f b 59)) ∧ G' 8 = .inr (1, [.int c1, .int c2, .int c3, .long c4, .long c5]) ∧ Agr [8] G G') := by
  refine GM.of (own := RX8) (lo := [(0, .ref (ad 0)), (1, .long b)]) (by decide +kernel) rfl rfl (Nat.le_of_ble_eq_true rfl) (fun E C hr => ?_)
  refine G_iconst C (v := 0) dX8_countUpTo_0 (by decide) ?_
  refine G_istore_n C 3 (lo' := [(3, .int 0), (0, .ref (ad 0)), (1, .long b)]) dX8_countUpTo_1 rfl (by decide) rfl ?_
  refine G_iconst C (v := 2) dX8_countUpTo_2 (by decide) ?_
  refine G_istore C (lo' := [(4, .int 2), (3, .int 0), (0, .ref (ad 0)), (1, .long b)]) dX8_countUpTo_3 (by decide) rfl ?_
  have key5 : ∀ (n : Nat) (j : Nat) (b1 b2 b3 : Int32) (b4 b5 : Int64) (G1 : Nat → va_E) (hf5_8 : G1 8 = .inr (1, [.int b1, .int b2, .int b3, .long b4, .long b5])) (ha5 : Agr [8] G G1) (hn : 59 - j < n) (hj : j ≤ 59), GW L E 40 ad G1 0 0 5 [(4, .int (nI (j + 2))), (3, .int (cuF f b j)), (0, .ref (ad 0)), (1, .long b)] [] := by
    intro n
    induction n with
    | zero =>
      intro j b1 b2 b3 b4 b5 G1 hf5_8 ha5 hn hj
      exact absurd hn (Nat.not_lt_zero _)
    | succ n ih =>
      intro j b1 b2 b3 b4 b5 G1 hf5_8 ha5 hn hj
      refine G_iload C dX8_countUpTo_5 rfl ?_
      refine G_bipush C (v := 60) dX8_countUpTo_7 (by decide) ?_
      refine G_icmp_gt C 40 dX8_countUpTo_9 (by decide) (fun c9 => ?_) (fun c9 => ?_)
      · have c9n : 60 < (j + 2) := (cI_lt (a := 60) (b := (j + 2)) rfl rfl (by omega) (by omega)).mp c9
        refine G_iload_n C 3 dX8_countUpTo_40 rfl rfl ?_
        exact G_zret C hr rfl dX8_countUpTo_41 ⟨_, _, _, _, _, (by rw [show 59 = j by omega]), hf5_8, ha5⟩
      · have c9n : ¬ 60 < (j + 2) := fun z => c9 ((cI_lt (a := 60) (b := (j + 2)) rfl rfl (by omega) (by omega)).mpr z)
        refine G_aload_n C 0 dX8_countUpTo_12 rfl rfl ?_
        refine G_get C 0 (by decide) ((ha5 0 (by decide)).trans g0) rfl inA8 4 (by decide) rfl kf_X8_42 rfl dX8_countUpTo_13 ?_
        refine G_iload C dX8_countUpTo_16 rfl ?_
        refine G_callV C (As := [.int (nI (j + 2))]) (rest := []) (c_X5_has (by decide) (by decide) ((ha5 22 (by decide)).trans g22) ((ha5 23 (by decide)).trans g23)) ca_X5_has km_X8_122 (by decide) ((ha5 22 (by decide)).trans g22) rfl rfl rfl rfl (by decide) (Nat.le_of_ble_eq_true rfl) (by decide) dX8_countUpTo_18 (fun vv1 gg2 qq3 => ?_)
        obtain ⟨rfl, rfl⟩ := qq3
        refine G_if_eq C 34 dX8_countUpTo_21 (by decide) (fun c21 => ?_) (fun c21 => ?_)
        · refine GW.loe (lo' := [(4, .int (nI (j + 2))), (3, .int (cuF f b (j + 1))), (0, .ref (ad 0)), (1, .long b)]) (by rw [cuF_n (b := b) c21]) ?_
          refine G_iinc C (v := nI ((j + 2) + 1)) (lo' := [(4, .int (nI ((j + 2) + 1))), (3, .int (cuF f b (j + 1))), (0, .ref (ad 0)), (1, .long b)]) dX8_countUpTo_34 rfl (nI_add _ _) (by decide) rfl ?_
          refine G_goto C 5 dX8_countUpTo_37 (by decide) ?_
          exact ih (j + 1) _ _ _ _ _ G1 hf5_8 ha5 (by omega) (by omega)
        · refine G_iload_n C 3 dX8_countUpTo_24 rfl rfl ?_
          refine G_aload_n C 0 dX8_countUpTo_25 rfl rfl ?_
          refine G_iload C dX8_countUpTo_26 rfl ?_
          refine G_lload_n C 1 dX8_countUpTo_28 rfl rfl ?_
          refine G_callV C (As := [.int (nI (j + 2)), .long b]) (rest := [.int (cuF f b j)]) (c_X8_countPowersUpTo ((ha5 0 (by decide)).trans g0) ((ha5 1 (by decide)).trans g1) ((ha5 4 (by decide)).trans g4) ((ha5 5 (by decide)).trans g5) hf5_8 (by omega) (hk.S (j + 2) (by omega) (by omega) c21)) ca_X8_countPowersUpTo km_X8_275 (by decide) ((ha5 0 (by decide)).trans g0) rfl rfl rfl rfl (by decide) (Nat.le_of_ble_eq_true rfl) (by decide) dX8_countUpTo_29 (fun vv4 gg5 qq6 => ?_)
          obtain ⟨y_7, y_8, rfl, hh9, aa10⟩ := qq6
          have AA11 : Agr [8] G gg5 := ha5.tr aa10 (by simp) (by simp)
          refine G_iadd C dX8_countUpTo_32 ?_
          refine G_istore_n C 3 (lo' := [(3, .int ((cuF f b j) + (nI (cntL (j + 2) b 40 0)))), (4, .int (nI (j + 2))), (0, .ref (ad 0)), (1, .long b)]) dX8_countUpTo_33 rfl (by decide) rfl ?_
          refine GW.loe (lo' := [(3, .int (cuF f b (j + 1))), (4, .int (nI (j + 2))), (0, .ref (ad 0)), (1, .long b)]) (by rw [cuF_y (b := b) c21]) ?_
          refine G_iinc C (v := nI ((j + 2) + 1)) (lo' := [(4, .int (nI ((j + 2) + 1))), (3, .int (cuF f b (j + 1))), (0, .ref (ad 0)), (1, .long b)]) dX8_countUpTo_34 rfl (nI_add _ _) (by decide) rfl ?_
          refine G_goto C 5 dX8_countUpTo_37 (by decide) ?_
          exact ih (j + 1) _ _ _ _ _ gg5 hh9 AA11 (by omega) (by omega)
  exact key5 60 0 _ _ _ _ _ G g8 Agr.rf (by omega) (by omega)

abbrev rm_X8_minusStones : Room := ({ frames := 3, cells := 0, slots := 0, locals := 63 } : Room)
set_option maxRecDepth 100000 in
set_option maxHeartbeats 4000000 in
theorem c_X8_minusStones {L : GL} {ad : Nat → Nat} {G : Nat → va_E} {sn : Int32} {l ml : Int32} {f : Nat → Int32}  (g0 : G 0 = .inr (8, [.ref (ad 1), .ref (ad 8), .ref (ad 9), .ref (ad 19), .ref (ad 22), .ref (ad 24), .ref (ad 26), .ref (ad 28), .ref (ad 38), .int sn])) (g22 : G 22 = .inr (5, [.ref (ad 1), .ref (ad 23), .int l, .int ml])) (g23 : G 23 = .inl (L.ac 0, 61, .inl f)) (g1 : G 1 = .inr (4, [.ref (ad 2), .ref (ad 3), .ref (ad 4), .ref (ad 5), .ref (ad 6)])) (g3 : G 3 = .inl (L.ac 0, 61, .inl tPer))  : GM L yX8_minusStones cX8_minusStones 3 ((some .int)) rm_X8_minusStones 40 ad G [.ref (ad 0)] (fun vo G' => vo = some (.int (mnF f 59)) ∧ G = G') := by
  refine GM.of (own := RX8) (lo := [(0, .ref (ad 0))]) (by decide +kernel) rfl rfl (Nat.le_of_ble_eq_true rfl) (fun E C hr => ?_)
  refine G_iconst C (v := 0) dX8_minusStones_0 (by decide) ?_
  refine G_istore_n C 1 (lo' := [(1, .int 0), (0, .ref (ad 0))]) dX8_minusStones_1 rfl (by decide) rfl ?_
  refine G_iconst C (v := 2) dX8_minusStones_2 (by decide) ?_
  refine G_istore_n C 2 (lo' := [(2, .int 2), (1, .int 0), (0, .ref (ad 0))]) dX8_minusStones_3 rfl (by decide) rfl ?_
  have key4 : ∀ (n : Nat) (j : Nat)  (hn : 59 - j < n) (hj : j ≤ 59), GW L E 40 ad G 0 0 4 [(2, .int (nI (j + 2))), (1, .int (mnF f j)), (0, .ref (ad 0))] [] := by
    intro n
    induction n with
    | zero =>
      intro j  hn hj
      exact absurd hn (Nat.not_lt_zero _)
    | succ n ih =>
      intro j  hn hj
      refine G_iload_n C 2 dX8_minusStones_4 rfl rfl ?_
      refine G_bipush C (v := 60) dX8_minusStones_5 (by decide) ?_
      refine G_icmp_gt C 42 dX8_minusStones_7 (by decide) (fun c7 => ?_) (fun c7 => ?_)
      · have c7n : 60 < (j + 2) := (cI_lt (a := 60) (b := (j + 2)) rfl rfl (by omega) (by omega)).mp c7
        refine G_iload_n C 1 dX8_minusStones_42 rfl rfl ?_
        exact G_zret C hr rfl dX8_minusStones_43 ⟨(by rw [show 59 = j by omega]), rfl⟩
      · have c7n : ¬ 60 < (j + 2) := fun z => c7 ((cI_lt (a := 60) (b := (j + 2)) rfl rfl (by omega) (by omega)).mpr z)
        refine G_aload_n C 0 dX8_minusStones_10 rfl rfl ?_
        refine G_get C 0 (by decide) g0 rfl inA8 4 (by decide) rfl kf_X8_42 rfl dX8_minusStones_11 ?_
        refine G_iload_n C 2 dX8_minusStones_14 rfl rfl ?_
        refine G_callV C (As := [.int (nI (j + 2))]) (rest := []) (c_X5_has (by decide) (by decide) g22 g23) ca_X5_has km_X8_122 (by decide) g22 rfl rfl rfl rfl (by decide) (Nat.le_of_ble_eq_true rfl) (by decide) dX8_minusStones_15 (fun vv1 gg2 qq3 => ?_)
        obtain ⟨rfl, rfl⟩ := qq3
        refine G_if_eq C 36 dX8_minusStones_18 (by decide) (fun c18 => ?_) (fun c18 => ?_)
        · refine GW.loe (lo' := [(2, .int (nI (j + 2))), (1, .int (mnF f (j + 1))), (0, .ref (ad 0))]) (by rw [mnF, if_pos c18]) ?_
          refine G_iinc C (v := nI ((j + 2) + 1)) (lo' := [(2, .int (nI ((j + 2) + 1))), (1, .int (mnF f (j + 1))), (0, .ref (ad 0))]) dX8_minusStones_36 rfl (nI_add _ _) (by decide) rfl ?_
          refine G_goto C 4 dX8_minusStones_39 (by decide) ?_
          exact ih (j + 1) (by omega) (by omega)
        · refine G_aload_n C 0 dX8_minusStones_21 rfl rfl ?_
          refine G_get C 0 (by decide) g0 rfl inA8 4 (by decide) rfl kf_X8_42 rfl dX8_minusStones_22 ?_
          refine G_iload_n C 2 dX8_minusStones_25 rfl rfl ?_
          refine G_callV C (As := [.int (nI (j + 2))]) (rest := []) (c_X5_sign (by decide) (by decide) (by decide) (by decide) g22 g23 g1 g3) ca_X5_sign km_X8_137 (by decide) g22 rfl rfl rfl rfl (by decide) (Nat.le_of_ble_eq_true rfl) (by decide) dX8_minusStones_26 (fun vv4 gg5 qq6 => ?_)
          obtain ⟨rfl, rfl⟩ := qq6
          refine G_iconst C (v := (-1)) dX8_minusStones_29 (by decide) ?_
          refine G_icmp_ne C 36 dX8_minusStones_30 (by decide) (fun c30 => ?_) (fun c30 => ?_)
          · refine GW.loe (lo' := [(2, .int (nI (j + 2))), (1, .int (mnF f (j + 1))), (0, .ref (ad 0))]) (by rw [mnF, if_neg c18, if_neg c30]) ?_
            refine G_iinc C (v := nI ((j + 2) + 1)) (lo' := [(2, .int (nI ((j + 2) + 1))), (1, .int (mnF f (j + 1))), (0, .ref (ad 0))]) dX8_minusStones_36 rfl (nI_add _ _) (by decide) rfl ?_
            refine G_goto C 4 dX8_minusStones_39 (by decide) ?_
            exact ih (j + 1) (by omega) (by omega)
          · refine G_iinc C (v := ((mnF f j) + 1)) (lo' := [(1, .int ((mnF f j) + 1)), (2, .int (nI (j + 2))), (0, .ref (ad 0))]) dX8_minusStones_33 rfl rfl (by decide) rfl ?_
            refine GW.loe (lo' := [(1, .int (mnF f (j + 1))), (2, .int (nI (j + 2))), (0, .ref (ad 0))]) (by rw [mnF, if_neg c18, if_pos c30]) ?_
            refine G_iinc C (v := nI ((j + 2) + 1)) (lo' := [(2, .int (nI ((j + 2) + 1))), (1, .int (mnF f (j + 1))), (0, .ref (ad 0))]) dX8_minusStones_36 rfl (nI_add _ _) (by decide) rfl ?_
            refine G_goto C 4 dX8_minusStones_39 (by decide) ?_
            exact ih (j + 1) (by omega) (by omega)
  exact key4 60 0 (by omega) (by omega)

theorem sf_61 {f : Nat → Int32} {j : Nat} (h : 61 ≤ j) : sfF f (61 - j) j = j := by rw [show 61 - j = 0 by omega, sfF]
theorem sf_y {f : Nat → Int32} {j : Nat} (h : j ≤ 60) (h2 : ¬ hasF f (nI j) = 0) : sfF f (61 - j) j = j := by rw [show 61 - j = (60 - j) + 1 by omega, sfF, if_neg h2]
theorem sf_n {f : Nat → Int32} {j : Nat} (h : j ≤ 60) (h2 : hasF f (nI j) = 0) : sfF f (61 - j) j = sfF f (61 - (j + 1)) (j + 1) := by rw [show 61 - j = (60 - j) + 1 by omega, sfF, if_pos h2, show 60 - j = 61 - (j + 1) by omega]
abbrev rm_X8_stoneFrom : Room := ({ frames := 7, cells := 2, slots := 12, locals := 102 } : Room)
set_option maxRecDepth 100000 in
set_option maxHeartbeats 4000000 in
theorem c_X8_stoneFrom {L : GL} {ad : Nat → Nat} {G : Nat → va_E} {sn : Int32} {l ml : Int32} {f : Nat → Int32} {n : Int32}  (g0 : G 0 = .inr (8, [.ref (ad 1), .ref (ad 8), .ref (ad 9), .ref (ad 19), .ref (ad 22), .ref (ad 24), .ref (ad 26), .ref (ad 28), .ref (ad 38), .int sn])) (g22 : G 22 = .inr (5, [.ref (ad 1), .ref (ad 23), .int l, .int ml])) (g23 : G 23 = .inl (L.ac 0, 61, .inl f))  : GX L yX8_stoneFrom cX8_stoneFrom 3 ((some .int)) rm_X8_stoneFrom 40 ad G [.ref (ad 0), .int n] (fun vo G' => ∃ (d : Nat), vo = some (.int (nI (sfF f (61 - d) d))) ∧ (n = nI d) ∧ (2 ≤ d) ∧ (d ≤ 60) ∧ ((sfF f (61 - d) d) ≤ 60) ∧ G = G') (fun e G2 => ((e = eIAE ∧ numF n = 0) ∨ (e = eNSE ∧ ∃ d, n = nI d ∧ 2 ≤ d ∧ d ≤ 60 ∧ (sfF f (61 - d) d) = 61)) ∧ G = G2) := by
  refine GX.of (own := RX8) (lo := [(0, .ref (ad 0)), (1, .int n)]) (by decide +kernel) rfl rfl (Nat.le_of_ble_eq_true rfl) (fun E C hr hx => ?_)
  refine G_iload_n C 1 dX8_stoneFrom_0 rfl rfl ?_
  refine G_callSX C (As := [.int n]) (rest := []) c_X8_requireNumber ca_X8_requireNumber km_X8_86 rfl rfl (by decide) (Nat.le_of_ble_eq_true rfl) (by decide) dX8_stoneFrom_1 hx (by decide) (fun e G2 h => ⟨Or.inl ⟨h.1, h.2.1⟩, h.2.2⟩) (fun vv1 gg2 qq3 => ?_)
  obtain ⟨rfl, pp4, rfl⟩ := qq3
  obtain ⟨d, hd2, hd60, hdn⟩ := num_nat pp4
  refine GW.loe (lo' := [(0, .ref (ad 0)), (1, .int (nI d))]) (by rw [hdn]) ?_
  refine G_iload_n C 1 dX8_stoneFrom_4 rfl rfl ?_
  refine G_istore_n C 2 (lo' := [(2, .int (nI d)), (0, .ref (ad 0)), (1, .int (nI d))]) dX8_stoneFrom_5 rfl (by decide) rfl ?_
  have key6 : ∀ (n : Nat) (j : Nat)  (hn : 61 - j < n) (hj : j ≤ 61) (hs : sfF f (61 - d) d = sfF f (61 - j) j), GW L E 40 ad G 1 6 6 [(2, .int (nI j)), (0, .ref (ad 0)), (1, .int (nI d))] [] := by
    intro n
    induction n with
    | zero =>
      intro j  hn hj hs
      exact absurd hn (Nat.not_lt_zero _)
    | succ n ih =>
      intro j  hn hj hs
      refine G_iload_n C 2 dX8_stoneFrom_6 rfl rfl ?_
      refine G_bipush C (v := 60) dX8_stoneFrom_7 (by decide) ?_
      refine G_icmp_gt C 31 dX8_stoneFrom_9 (by decide) (fun c9 => ?_) (fun c9 => ?_)
      · have c9n : 60 < j := (cI_lt (a := 60) (b := j) rfl rfl (by omega) (by omega)).mp c9
        exact G_throwX C hx th_NSE (text := "no stone has this number or one above it") (by decide) dX8_stoneFrom_31 dX8_stoneFrom_34 dX8_stoneFrom_35 dX8_stoneFrom_37 dX8_stoneFrom_40 (by decide) (by decide) (by decide) (by decide) (⟨Or.inr ⟨rfl, d, hdn, hd2, hd60, by rw [hs, sf_61 (by omega)]; omega⟩, rfl⟩)
      · have c9n : ¬ 60 < j := fun z => c9 ((cI_lt (a := 60) (b := j) rfl rfl (by omega) (by omega)).mpr z)
        refine G_aload_n C 0 dX8_stoneFrom_12 rfl rfl ?_
        refine G_get C 0 (by decide) g0 rfl inA8 4 (by decide) rfl kf_X8_42 rfl dX8_stoneFrom_13 ?_
        refine G_iload_n C 2 dX8_stoneFrom_16 rfl rfl ?_
        refine G_callV C (As := [.int (nI j)]) (rest := []) (c_X5_has (by decide) (by decide) g22 g23) ca_X5_has km_X8_122 (by decide) g22 rfl rfl rfl rfl (by decide) (Nat.le_of_ble_eq_true rfl) (by decide) dX8_stoneFrom_17 (fun vv5 gg6 qq7 => ?_)
        obtain ⟨rfl, rfl⟩ := qq7
        refine G_if_eq C 25 dX8_stoneFrom_20 (by decide) (fun c20 => ?_) (fun c20 => ?_)
        · refine G_iinc C (v := nI (j + 1)) (lo' := [(2, .int (nI (j + 1))), (0, .ref (ad 0)), (1, .int (nI d))]) dX8_stoneFrom_25 rfl (nI_add _ _) (by decide) rfl ?_
          refine G_goto C 6 dX8_stoneFrom_28 (by decide) ?_
          exact ih (j + 1) (by omega) (by omega) (hs.trans (sf_n (by omega) c20))
        · refine G_iload_n C 2 dX8_stoneFrom_23 rfl rfl ?_
          refine GW.widen (c1 := 2) (s1 := 12) (by decide) (by decide) ?_
          exact G_zret C hr rfl dX8_stoneFrom_24 ⟨_, (by rw [hs, sf_y (by omega) c20]), hdn, hd2, hd60, by rw [hs, sf_y (by omega) c20]; omega, rfl⟩
  exact key6 62 d (by omega) (by omega) (rfl)

abbrev rm_X8_searchLeastY : Room := ({ frames := 1, cells := 0, slots := 0, locals := 22 } : Room)
set_option maxRecDepth 100000 in
set_option maxHeartbeats 4000000 in
theorem c_X8_searchLeastY {L : GL} {ad : Nat → Nat} {G : Nat → va_E} {d : Nat}   (h2 : 2 ≤ d) (h60 : d ≤ 60) (hp : pern d ≠ 0) : GM L yX8_searchLeastY cX8_searchLeastY 7 ((some .int)) rm_X8_searchLeastY 40 ad G [.int (nI d)] (fun vo G' => vo = some (.int (nI (lyn d))) ∧ G = G') := by
  refine GM.of (own := RX8) (lo := [(0, .int (nI d))]) (by decide +kernel) rfl rfl (Nat.le_of_ble_eq_true rfl) (fun E C hr => ?_)
  refine G_iload_n C 0 dX8_searchLeastY_0 rfl rfl ?_
  refine G_callS C (As := [.int (nI d)]) (rest := []) (c_X8_wholeRoot h2 h60) ca_X8_wholeRoot km_X8_279 rfl rfl (by decide) (Nat.le_of_ble_eq_true rfl) (by decide) dX8_searchLeastY_1 (fun vv1 gg2 qq3 => ?_)
  obtain ⟨rfl, rfl⟩ := qq3
  refine G_istore_n C 1 (lo' := [(1, .int (nI (wr d))), (0, .int (nI d))]) dX8_searchLeastY_4 rfl (by decide) rfl ?_
  refine G_iload_n C 1 dX8_searchLeastY_5 rfl rfl ?_
  refine G_i2l C dX8_searchLeastY_6 rfl ?_
  refine G_lstore_n C 2 (lo' := [(2, .long ((nI (wr d)).toInt64)), (1, .int (nI (wr d))), (0, .int (nI d))]) dX8_searchLeastY_7 rfl (by decide) rfl ?_
  refine G_iconst C (v := 1) dX8_searchLeastY_8 (by decide) ?_
  refine G_istore C (lo' := [(4, .int 1), (2, .long ((nI (wr d)).toInt64)), (1, .int (nI (wr d))), (0, .int (nI d))]) dX8_searchLeastY_9 (by decide) rfl ?_
  have key11 : ∀ (n : Nat) (y : Nat) (x : Int64)  (hy : y + n ≤ 9201) (hs : slF d n y x = lyn d), GW L E 40 ad G 0 0 11 [(4, .int (nI y)), (2, .long x), (1, .int (nI (wr d))), (0, .int (nI d))] [] := by
    intro n
    induction n with
    | zero =>
      intro y x  hy hs
      exact absurd hs.symm (ly_pos d (by omega) hp)
    | succ n ih =>
      intro y x  hy hs
      refine G_iload C dX8_searchLeastY_11 rfl ?_
      refine G_ldcw C dX8_searchLeastY_13 ki_X8_262 ?_
      refine G_icmp_ge C 77 dX8_searchLeastY_16 (by decide) (fun c16 => False.elim (by have := (cI_le (a := 1000000) (b := y) rfl rfl (by omega) (by omega)).mp c16; omega)) (fun c16 => ?_)
      have c16n : ¬ 1000000 ≤ y := fun z => c16 ((cI_le (a := 1000000) (b := y) rfl rfl (by omega) (by omega)).mpr z)
      refine G_iload_n C 0 dX8_searchLeastY_19 rfl rfl ?_
      refine G_i2l C dX8_searchLeastY_20 rfl ?_
      refine G_iload C dX8_searchLeastY_21 rfl ?_
      refine G_i2l C dX8_searchLeastY_23 rfl ?_
      refine G_lmul C dX8_searchLeastY_24 ?_
      refine G_iload C dX8_searchLeastY_25 rfl ?_
      refine G_i2l C dX8_searchLeastY_27 rfl ?_
      refine G_lmul C dX8_searchLeastY_28 ?_
      refine G_lconst C (v := 1) dX8_searchLeastY_29 (by decide) ?_
      refine G_ladd C dX8_searchLeastY_30 ?_
      refine G_lstore C (lo' := [(5, .long (((((nI d).toInt64) * ((nI y).toInt64)) * ((nI y).toInt64)) + 1)), (4, .int (nI y)), (2, .long x), (1, .int (nI (wr d))), (0, .int (nI d))]) dX8_searchLeastY_31 (by decide) rfl ?_
      refine G_lload_n C 2 dX8_searchLeastY_33 rfl rfl ?_
      refine G_lconst C (v := 1) dX8_searchLeastY_34 (by decide) ?_
      refine G_ladd C dX8_searchLeastY_35 ?_
      refine G_lload_n C 2 dX8_searchLeastY_36 rfl rfl ?_
      refine G_lconst C (v := 1) dX8_searchLeastY_37 (by decide) ?_
      refine G_ladd C dX8_searchLeastY_38 ?_
      refine G_lmul C dX8_searchLeastY_39 ?_
      refine G_lload C dX8_searchLeastY_40 rfl ?_
      refine G_lc_ge C 50 dX8_searchLeastY_42 dX8_searchLeastY_43 (by decide) (fun c42 => ?_) (fun c42 => ?_)
      · refine G_lload_n C 2 dX8_searchLeastY_50 rfl rfl ?_
        refine G_lconst C (v := 1) dX8_searchLeastY_51 (by decide) ?_
        refine G_ladd C dX8_searchLeastY_52 ?_
        refine G_lload_n C 2 dX8_searchLeastY_53 rfl rfl ?_
        refine G_lconst C (v := 1) dX8_searchLeastY_54 (by decide) ?_
        refine G_ladd C dX8_searchLeastY_55 ?_
        refine G_lmul C dX8_searchLeastY_56 ?_
        refine G_lload C dX8_searchLeastY_57 rfl ?_
        refine G_lc_ne C 66 dX8_searchLeastY_59 dX8_searchLeastY_60 (by decide) (fun c59 => ?_) (fun c59 => ?_)
        · refine G_lload_n C 2 dX8_searchLeastY_66 rfl rfl ?_
          refine G_iload_n C 1 dX8_searchLeastY_67 rfl rfl ?_
          refine G_i2l C dX8_searchLeastY_68 rfl ?_
          refine G_ladd C dX8_searchLeastY_69 ?_
          refine G_lstore_n C 2 (lo' := [(2, .long (x + ((nI (wr d)).toInt64))), (5, .long (((((nI d).toInt64) * ((nI y).toInt64)) * ((nI y).toInt64)) + 1)), (4, .int (nI y)), (1, .int (nI (wr d))), (0, .int (nI d))]) dX8_searchLeastY_70 rfl (by decide) rfl ?_
          refine G_iinc C (v := nI (y + 1)) (lo' := [(4, .int (nI (y + 1))), (2, .long (x + ((nI (wr d)).toInt64))), (5, .long (((((nI d).toInt64) * ((nI y).toInt64)) * ((nI y).toInt64)) + 1)), (1, .int (nI (wr d))), (0, .int (nI d))]) dX8_searchLeastY_71 rfl (nI_add _ _) (by decide) rfl ?_
          refine G_goto C 11 dX8_searchLeastY_74 (by decide) ?_
          refine GW.pick [0, 1, 3, 4] [(4, .int (nI (y + 1))), (2, .long (x + ((nI (wr d)).toInt64))), (1, .int (nI (wr d))), (0, .int (nI d))] rfl ?_
          exact ih (y + 1) _ (by omega) (by rw [slF, slX, if_pos c42, if_neg c59] at hs; exact hs)
        · refine G_iload C dX8_searchLeastY_63 rfl ?_
          exact G_zret C hr rfl dX8_searchLeastY_65 ⟨(by rw [slF, slX, if_pos c42, if_pos c59] at hs; rw [hs]), rfl⟩
      · refine G_lload_n C 2 dX8_searchLeastY_46 rfl rfl ?_
        refine G_lconst C (v := 1) dX8_searchLeastY_47 (by decide) ?_
        refine G_ladd C dX8_searchLeastY_48 ?_
        refine G_lstore_n C 2 (lo' := [(2, .long (x + 1)), (5, .long (((((nI d).toInt64) * ((nI y).toInt64)) * ((nI y).toInt64)) + 1)), (4, .int (nI y)), (1, .int (nI (wr d))), (0, .int (nI d))]) dX8_searchLeastY_49 rfl (by decide) rfl ?_
        refine G_lload_n C 2 dX8_searchLeastY_50 rfl rfl ?_
        refine G_lconst C (v := 1) dX8_searchLeastY_51 (by decide) ?_
        refine G_ladd C dX8_searchLeastY_52 ?_
        refine G_lload_n C 2 dX8_searchLeastY_53 rfl rfl ?_
        refine G_lconst C (v := 1) dX8_searchLeastY_54 (by decide) ?_
        refine G_ladd C dX8_searchLeastY_55 ?_
        refine G_lmul C dX8_searchLeastY_56 ?_
        refine G_lload C dX8_searchLeastY_57 rfl ?_
        refine G_lc_ne C 66 dX8_searchLeastY_59 dX8_searchLeastY_60 (by decide) (fun c59 => ?_) (fun c59 => ?_)
        · refine G_lload_n C 2 dX8_searchLeastY_66 rfl rfl ?_
          refine G_iload_n C 1 dX8_searchLeastY_67 rfl rfl ?_
          refine G_i2l C dX8_searchLeastY_68 rfl ?_
          refine G_ladd C dX8_searchLeastY_69 ?_
          refine G_lstore_n C 2 (lo' := [(2, .long ((x + 1) + ((nI (wr d)).toInt64))), (5, .long (((((nI d).toInt64) * ((nI y).toInt64)) * ((nI y).toInt64)) + 1)), (4, .int (nI y)), (1, .int (nI (wr d))), (0, .int (nI d))]) dX8_searchLeastY_70 rfl (by decide) rfl ?_
          refine G_iinc C (v := nI (y + 1)) (lo' := [(4, .int (nI (y + 1))), (2, .long ((x + 1) + ((nI (wr d)).toInt64))), (5, .long (((((nI d).toInt64) * ((nI y).toInt64)) * ((nI y).toInt64)) + 1)), (1, .int (nI (wr d))), (0, .int (nI d))]) dX8_searchLeastY_71 rfl (nI_add _ _) (by decide) rfl ?_
          refine G_goto C 11 dX8_searchLeastY_74 (by decide) ?_
          refine GW.pick [0, 1, 3, 4] [(4, .int (nI (y + 1))), (2, .long ((x + 1) + ((nI (wr d)).toInt64))), (1, .int (nI (wr d))), (0, .int (nI d))] rfl ?_
          exact ih (y + 1) _ (by omega) (by rw [slF, slX, if_neg c42, if_neg c59] at hs; exact hs)
        · refine G_iload C dX8_searchLeastY_63 rfl ?_
          exact G_zret C hr rfl dX8_searchLeastY_65 ⟨(by rw [slF, slX, if_neg c42, if_pos c59] at hs; rw [hs]), rfl⟩
  exact key11 9200 1 ((nI (wr d)).toInt64) (by omega) (sl_ok d (by omega) hp)

abbrev rm_X8_leastYBySearch : Room := ({ frames := 8, cells := 2, slots := 12, locals := 123 } : Room)
set_option maxRecDepth 100000 in
set_option maxHeartbeats 4000000 in
theorem c_X8_leastYBySearch {L : GL} {ad : Nat → Nat} {G : Nat → va_E} {sn : Int32} {n : Int32}  (g0 : G 0 = .inr (8, [.ref (ad 1), .ref (ad 8), .ref (ad 9), .ref (ad 19), .ref (ad 22), .ref (ad 24), .ref (ad 26), .ref (ad 28), .ref (ad 38), .int sn])) (g1 : G 1 = .inr (4, [.ref (ad 2), .ref (ad 3), .ref (ad 4), .ref (ad 5), .ref (ad 6)])) (g3 : G 3 = .inl (L.ac 0, 61, .inl tPer))  : GX L yX8_leastYBySearch cX8_leastYBySearch 2 ((some .int)) rm_X8_leastYBySearch 40 ad G [.ref (ad 0), .int n] (fun vo G' => ∃ (d : Nat), vo = some (.int (nI (lyn d))) ∧ (n = nI d) ∧ (2 ≤ d) ∧ (d ≤ 60) ∧ (pern d ≠ 0) ∧ G = G') (fun e G2 => ((e = eIAE ∧ numF n = 0) ∨ (e = eNSE ∧ ¬ numF n = 0 ∧ ¬ sqF n = 0)) ∧ G = G2) := by
  refine GX.of (own := RX8) (lo := [(0, .ref (ad 0)), (1, .int n)]) (by decide +kernel) rfl rfl (Nat.le_of_ble_eq_true rfl) (fun E C hr hx => ?_)
  refine G_aload_n C 0 dX8_leastYBySearch_0 rfl rfl ?_
  refine G_iload_n C 1 dX8_leastYBySearch_1 rfl rfl ?_
  refine G_callVX C (As := [.int n]) (rest := []) (c_X8_requireRoot g0 g1 g3) ca_X8_requireRoot km_X8_93 (by decide) g0 rfl rfl rfl rfl (by decide) (Nat.le_of_ble_eq_true rfl) (by decide) dX8_leastYBySearch_2 hx (by decide) (fun e G2 h => h) (fun vv1 gg2 qq3 => ?_)
  obtain ⟨rfl, pp4, pp5, rfl⟩ := qq3
  obtain ⟨d, hd2, hd60, hdn⟩ := num_nat pp4
  have hdp : pern d ≠ 0 := (sq_d (by omega)).mp (hdn ▸ pp5)
  refine G_iload_n C 1 dX8_leastYBySearch_5 rfl rfl ?_
  refine GW.topr (y := nI d) hdn ?_
  refine G_callS C (As := [.int (nI d)]) (rest := []) (c_X8_searchLeastY hd2 hd60 hdp) ca_X8_searchLeastY km_X8_119 rfl rfl (by decide) (Nat.le_of_ble_eq_true rfl) (by decide) dX8_leastYBySearch_6 (fun vv6 gg7 qq8 => ?_)
  obtain ⟨rfl, rfl⟩ := qq8
  refine GW.widen (c1 := 2) (s1 := 12) (by decide) (by decide) ?_
  exact G_zret C hr rfl dX8_leastYBySearch_9 ⟨_, rfl, hdn, hd2, hd60, hdp, rfl⟩

abbrev rm_X8_solutions : Room := ({ frames := 4, cells := 0, slots := 0, locals := 93 } : Room)
set_option maxRecDepth 100000 in
set_option maxHeartbeats 4000000 in
theorem c_X8_solutions {L : GL} {ad : Nat → Nat} {G : Nat → va_E} {sn : Int32} {b1 b2 b3 : Int32} {b4 b5 : Int64} {l ml : Int32} {f : Nat → Int32}  (g0 : G 0 = .inr (8, [.ref (ad 1), .ref (ad 8), .ref (ad 9), .ref (ad 19), .ref (ad 22), .ref (ad 24), .ref (ad 26), .ref (ad 28), .ref (ad 38), .int sn])) (g1 : G 1 = .inr (4, [.ref (ad 2), .ref (ad 3), .ref (ad 4), .ref (ad 5), .ref (ad 6)])) (g4 : G 4 = .inl (L.ac 0, 61, .inl tUx)) (g5 : G 5 = .inl (L.ac 0, 61, .inl tUy)) (g8 : G 8 = .inr (1, [.int b1, .int b2, .int b3, .long b4, .long b5])) (g22 : G 22 = .inr (5, [.ref (ad 1), .ref (ad 23), .int l, .int ml])) (g23 : G 23 = .inl (L.ac 0, 61, .inl f)) (hk : okH f) : GM L yX8_solutions cX8_solutions 1 ((some .int)) rm_X8_solutions 40 ad G [.ref (ad 0)] (fun vo G' => ∃ (c1 : Int32) (c2 : Int32) (c3 : Int32) (c4 : Int64) (c5 : Int64), vo = some (.int (cuF f 1000000000000000 59)) ∧ G' 8 = .inr (1, [.int c1, .int c2, .int c3, .long c4, .long c5]) ∧ Agr [8] G G') := by
  refine GM.of (own := RX8) (lo := [(0, .ref (ad 0))]) (by decide +kernel) rfl rfl (Nat.le_of_ble_eq_true rfl) (fun E C hr => ?_)
  refine G_aload_n C 0 dX8_solutions_0 rfl rfl ?_
  refine G_ldc2 C dX8_solutions_1 kl_X8_150 ?_
  refine G_callV C (As := [.long 1000000000000000]) (rest := []) (c_X8_countUpTo g0 g1 g4 g5 g8 g22 g23 hk) ca_X8_countUpTo km_X8_152 (by decide) g0 rfl rfl rfl rfl (by decide) (Nat.le_of_ble_eq_true rfl) (by decide) dX8_solutions_4 (fun vv1 gg2 qq3 => ?_)
  obtain ⟨c_4, c_5, c_6, c_7, c_8, rfl, hh9, aa10⟩ := qq3
  have AA11 : Agr [8] G gg2 := aa10.wk (by simp)
  exact G_zret C hr rfl dX8_solutions_7 ⟨_, _, _, _, _, rfl, hh9, AA11⟩

abbrev rm_X8_solutionsUpTo : Room := ({ frames := 6, cells := 1, slots := 6, locals := 93 } : Room)
set_option maxRecDepth 100000 in
set_option maxHeartbeats 4000000 in
theorem c_X8_solutionsUpTo {L : GL} {ad : Nat → Nat} {G : Nat → va_E} {b : Int64} {sn : Int32} {b1 b2 b3 : Int32} {b4 b5 : Int64} {l ml : Int32} {f : Nat → Int32}  (g0 : G 0 = .inr (8, [.ref (ad 1), .ref (ad 8), .ref (ad 9), .ref (ad 19), .ref (ad 22), .ref (ad 24), .ref (ad 26), .ref (ad 28), .ref (ad 38), .int sn])) (g1 : G 1 = .inr (4, [.ref (ad 2), .ref (ad 3), .ref (ad 4), .ref (ad 5), .ref (ad 6)])) (g4 : G 4 = .inl (L.ac 0, 61, .inl tUx)) (g5 : G 5 = .inl (L.ac 0, 61, .inl tUy)) (g8 : G 8 = .inr (1, [.int b1, .int b2, .int b3, .long b4, .long b5])) (g22 : G 22 = .inr (5, [.ref (ad 1), .ref (ad 23), .int l, .int ml])) (g23 : G 23 = .inl (L.ac 0, 61, .inl f)) (hk : okH f) : GX L yX8_solutionsUpTo cX8_solutionsUpTo 3 ((some .int)) rm_X8_solutionsUpTo 40 ad G [.ref (ad 0), .long b] (fun vo G' => ∃ (c1 : Int32) (c2 : Int32) (c3 : Int32) (c4 : Int64) (c5 : Int64), vo = some (.int (cuF f b 59)) ∧ (¬ b < 0) ∧ (b ≤ 1000000000000000) ∧ G' 8 = .inr (1, [.int c1, .int c2, .int c3, .long c4, .long c5]) ∧ Agr [8] G G') (fun e G2 => e = eIAE ∧ (b < 0 ∨ ¬ b ≤ 1000000000000000) ∧ G = G2) := by
  refine GX.of (own := RX8) (lo := [(0, .ref (ad 0)), (1, .long b)]) (by decide +kernel) rfl rfl (Nat.le_of_ble_eq_true rfl) (fun E C hr hx => ?_)
  refine G_lload_n C 1 dX8_solutionsUpTo_0 rfl rfl ?_
  refine G_lconst C (v := 0) dX8_solutionsUpTo_1 (by decide) ?_
  refine G_lc_lt C 14 dX8_solutionsUpTo_2 dX8_solutionsUpTo_3 (by decide) (fun c2 => ?_) (fun c2 => ?_)
  · exact G_throw C hx th_IAE (text := "the bound is not from 0 to 1000000000000000") (by decide) dX8_solutionsUpTo_14 dX8_solutionsUpTo_17 dX8_solutionsUpTo_18 dX8_solutionsUpTo_20 dX8_solutionsUpTo_23 (by decide) (by decide) (by decide) (by decide) (⟨rfl, Or.inl c2, rfl⟩)
  · refine G_lload_n C 1 dX8_solutionsUpTo_6 rfl rfl ?_
    refine G_ldc2 C dX8_solutionsUpTo_7 kl_X8_150 ?_
    refine G_lc_le C 24 dX8_solutionsUpTo_10 dX8_solutionsUpTo_11 (by decide) (fun c10 => ?_) (fun c10 => ?_)
    · refine G_aload_n C 0 dX8_solutionsUpTo_24 rfl rfl ?_
      refine G_lload_n C 1 dX8_solutionsUpTo_25 rfl rfl ?_
      refine G_callV C (As := [.long b]) (rest := []) (c_X8_countUpTo g0 g1 g4 g5 g8 g22 g23 hk) ca_X8_countUpTo km_X8_152 (by decide) g0 rfl rfl rfl rfl (by decide) (Nat.le_of_ble_eq_true rfl) (by decide) dX8_solutionsUpTo_26 (fun vv1 gg2 qq3 => ?_)
      obtain ⟨c_4, c_5, c_6, c_7, c_8, rfl, hh9, aa10⟩ := qq3
      have AA11 : Agr [8] G gg2 := aa10.wk (by simp)
      refine GW.widen (c1 := 1) (s1 := 6) (by decide) (by decide) ?_
      exact G_zret C hr rfl dX8_solutionsUpTo_29 ⟨_, _, _, _, _, rfl, c2, c10, hh9, AA11⟩
    · exact G_throw C hx th_IAE (text := "the bound is not from 0 to 1000000000000000") (by decide) dX8_solutionsUpTo_14 dX8_solutionsUpTo_17 dX8_solutionsUpTo_18 dX8_solutionsUpTo_20 dX8_solutionsUpTo_23 (by decide) (by decide) (by decide) (by decide) (⟨rfl, Or.inr c10, rfl⟩)

