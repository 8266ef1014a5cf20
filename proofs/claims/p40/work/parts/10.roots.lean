abbrev rm_X4_term : Room := ({ frames := 2, cells := 0, slots := 0, locals := 43 } : Room)
set_option maxRecDepth 100000 in
set_option maxHeartbeats 4000000 in
theorem c_X4_term {L : GL} {N : Nat} {ad : Nat → Nat} {G : Nat → va_E} {r rt rp rx ry rg d pl : Nat} {nu wh m q t : Int32} (lt_r : r < N) (lt_rt : rt < N) (gr : G r = .inr (4, [.ref (ad rt), .ref (ad rp), .ref (ad rx), .ref (ad ry), .ref (ad rg)])) (gt : G rt = .inr (6, [.int nu, .int wh, .int m, .int q, .int t])) (h2 : 2 ≤ d) (h60 : d ≤ 60) (hp : pl ≤ 99) : GM L yX4_term cX4_term 4 ((some .int)) rm_X4_term N ad G [.ref (ad r), .int (nI d), .int (nI pl)] (fun vo G' => vo = some (.int ((tsq d pl).2.2)) ∧ Agr [rt] G G') := by
  refine GM.of (own := RX4) (lo := [(0, .ref (ad r)), (1, .int (nI d)), (2, .int (nI pl))]) (by decide +kernel) rfl rfl (Nat.le_of_ble_eq_true rfl) (fun E C hr => ?_)
  have ne_0_1 : r ≠ rt := fun h => by have h9 := gr; rw [h, gt] at h9; first | cases h9 | simp at h9
  refine G_aload_n C 0 dX4_term_0 rfl rfl ?_
  refine G_get C r lt_r gr rfl inA4 0 (by decide) rfl kf_X4_12 rfl dX4_term_1 ?_
  refine G_iload_n C 1 dX4_term_4 rfl rfl ?_
  refine G_callV C (As := [.int (nI d)]) (rest := []) (c_X6_begin lt_rt gt h2 h60) ca_X6_begin km_X4_34 lt_rt gt rfl rfl rfl rfl (by decide) (Nat.le_of_ble_eq_true rfl) (by decide) dX4_term_5 (fun vv1 gg2 qq3 => ?_)
  obtain ⟨rfl, hh4, aa5⟩ := qq3
  have AA6 : Agr [rt] G gg2 := aa5.wk (by simp)
  refine G_iconst C (v := 0) dX4_term_8 (by decide) ?_
  refine G_istore_n C 3 (lo' := [(3, .int 0), (0, .ref (ad r)), (1, .int (nI d)), (2, .int (nI pl))]) dX4_term_9 rfl (by decide) rfl ?_
  have key10 : ∀ (n : Nat) (i : Nat) (G1 : Nat → va_E) (hf10_rt : G1 rt = .inr (6, [.int (nI d), .int (nI (wr d)), .int ((tsq d i).1), .int ((tsq d i).2.1), .int ((tsq d i).2.2)])) (ha10 : Agr [rt] G G1) (hn : pl - i < n) (hi : i ≤ pl), GW L E N ad G1 0 0 10 [(3, .int (nI i)), (0, .ref (ad r)), (1, .int (nI d)), (2, .int (nI pl))] [] := by
    intro n
    induction n with
    | zero =>
      intro i G1 hf10_rt ha10 hn hi
      exact absurd hn (Nat.not_lt_zero _)
    | succ n ih =>
      intro i G1 hf10_rt ha10 hn hi
      refine G_iload_n C 3 dX4_term_10 rfl rfl ?_
      refine G_iload_n C 2 dX4_term_11 rfl rfl ?_
      refine G_icmp_ge C 34 dX4_term_12 (by decide) (fun c12 => ?_) (fun c12 => ?_)
      · have c12n : pl ≤ i := (cI_le (a := pl) (b := i) rfl rfl (by omega) (by omega)).mp c12
        refine G_aload_n C 0 dX4_term_34 rfl rfl ?_
        refine G_get C r lt_r ((ha10 r (by simp [ne_0_1])).trans gr) rfl inA4 0 (by decide) rfl kf_X4_12 rfl dX4_term_35 ?_
        refine G_get C rt lt_rt hf10_rt rfl inA6 4 (by decide) rfl kf_X4_49 rfl dX4_term_38 ?_
        exact G_zret C hr rfl dX4_term_41 ⟨(by rw [show i = pl by omega]), ha10⟩
      · have c12n : ¬ pl ≤ i := fun z => c12 ((cI_le (a := pl) (b := i) rfl rfl (by omega) (by omega)).mpr z)
        refine G_iload_n C 3 dX4_term_15 rfl rfl ?_
        refine G_bipush C (v := 99) dX4_term_16 (by decide) ?_
        refine G_icmp_ge C 34 dX4_term_18 (by decide) (fun c18 => False.elim (by have := (cI_le (a := 99) (b := i) rfl rfl (by omega) (by omega)).mp c18; omega)) (fun c18 => ?_)
        have c18n : ¬ 99 ≤ i := fun z => c18 ((cI_le (a := 99) (b := i) rfl rfl (by omega) (by omega)).mpr z)
        refine G_aload_n C 0 dX4_term_21 rfl rfl ?_
        refine G_get C r lt_r ((ha10 r (by simp [ne_0_1])).trans gr) rfl inA4 0 (by decide) rfl kf_X4_12 rfl dX4_term_22 ?_
        refine G_callV C (As := []) (rest := []) (c_X6_next lt_rt hf10_rt) ca_X6_next km_X4_53 lt_rt hf10_rt rfl rfl rfl rfl (by decide) (Nat.le_of_ble_eq_true rfl) (by decide) dX4_term_25 (fun vv7 gg8 qq9 => ?_)
        obtain ⟨rfl, hh10, aa11⟩ := qq9
        have AA12 : Agr [rt] G gg8 := ha10.tr aa11 (by simp) (by simp)
        refine G_iinc C (v := nI (i + 1)) (lo' := [(3, .int (nI (i + 1))), (0, .ref (ad r)), (1, .int (nI d)), (2, .int (nI pl))]) dX4_term_28 rfl (nI_add _ _) (by decide) rfl ?_
        refine G_goto C 10 dX4_term_31 (by decide) ?_
        exact ih (i + 1) gg8 hh10 AA12 (by omega) (by omega)
  exact key10 (pl + 1) 0 gg2 hh4 AA6 (by omega) (by omega)

abbrev rm_X4_findUnit : Room := ({ frames := 1, cells := 0, slots := 0, locals := 20 } : Room)
set_option maxRecDepth 100000 in
set_option maxHeartbeats 4000000 in
theorem c_X4_findUnit {L : GL} {N : Nat} {ad : Nat → Nat} {G : Nat → va_E} {r rt rp rx ry rg d : Nat} {fp fx fy : Nat → Int32} (lt_r : r < N) (lt_rt : rt < N) (lt_rp : rp < N) (lt_rx : rx < N) (lt_ry : ry < N) (gr : G r = .inr (4, [.ref (ad rt), .ref (ad rp), .ref (ad rx), .ref (ad ry), .ref (ad rg)])) (gt : G rt = .inr (6, [.int (nI d), .int (nI (wr d)), .int ((tsq d 0).1), .int ((tsq d 0).2.1), .int ((tsq d 0).2.2)])) (grp : G rp = .inl (L.ac 0, 61, .inl fp)) (grx : G rx = .inl (L.ac 0, 61, .inl fx)) (gry : G ry = .inl (L.ac 0, 61, .inl fy)) (h2 : 2 ≤ d) (h60 : d ≤ 60) (hs : pern d ≠ 0) (n_rp_rx : rp ≠ rx) (n_rp_ry : rp ≠ ry) (n_rx_ry : rx ≠ ry) : GM L yX4_findUnit cX4_findUnit 9 (none) rm_X4_findUnit N ad G [.ref (ad r), .int (nI d)] (fun vo G' => vo = none ∧ G' rp = .inl (L.ac 0, 61, .inl (upd fp d (tPer d))) ∧ G' rx = .inl (L.ac 0, 61, .inl (upd fx d (tUx d))) ∧ G' ry = .inl (L.ac 0, 61, .inl (upd fy d (tUy d))) ∧ Agr [rt, rp, rx, ry] G G') := by
  refine GM.of (own := RX4) (lo := [(0, .ref (ad r)), (1, .int (nI d))]) (by decide +kernel) rfl rfl (Nat.le_of_ble_eq_true rfl) (fun E C hr => ?_)
  have ne_0_1 : r ≠ rt := fun h => by have h9 := gr; rw [h, gt] at h9; first | cases h9 | simp at h9
  have ne_0_2 : r ≠ rp := fun h => by have h9 := gr; rw [h, grp] at h9; first | cases h9 | simp at h9
  have ne_0_3 : r ≠ rx := fun h => by have h9 := gr; rw [h, grx] at h9; first | cases h9 | simp at h9
  have ne_0_4 : r ≠ ry := fun h => by have h9 := gr; rw [h, gry] at h9; first | cases h9 | simp at h9
  have ne_1_2 : rt ≠ rp := fun h => by have h9 := gt; rw [h, grp] at h9; first | cases h9 | simp at h9
  have ne_1_3 : rt ≠ rx := fun h => by have h9 := gt; rw [h, grx] at h9; first | cases h9 | simp at h9
  have ne_1_4 : rt ≠ ry := fun h => by have h9 := gt; rw [h, gry] at h9; first | cases h9 | simp at h9
  have ne_2_1 : rp ≠ rt := Ne.symm ne_1_2
  have ne_3_1 : rx ≠ rt := Ne.symm ne_1_3
  have ne_4_1 : ry ≠ rt := Ne.symm ne_1_4
  refine G_iconst C (v := 1) dX4_findUnit_0 (by decide) ?_
  refine G_istore_n C 2 (lo' := [(2, .int 1), (0, .ref (ad r)), (1, .int (nI d))]) dX4_findUnit_1 rfl (by decide) rfl ?_
  refine G_iconst C (v := 0) dX4_findUnit_2 (by decide) ?_
  refine G_istore_n C 3 (lo' := [(3, .int 0), (2, .int 1), (0, .ref (ad r)), (1, .int (nI d))]) dX4_findUnit_3 rfl (by decide) rfl ?_
  refine G_aload_n C 0 dX4_findUnit_4 rfl rfl ?_
  refine G_get C r lt_r gr rfl inA4 0 (by decide) rfl kf_X4_12 rfl dX4_findUnit_5 ?_
  refine G_get C rt lt_rt gt rfl inA6 4 (by decide) rfl kf_X4_49 rfl dX4_findUnit_8 ?_
  refine G_istore C (lo' := [(4, .int ((tsq d 0).2.2)), (3, .int 0), (2, .int 1), (0, .ref (ad r)), (1, .int (nI d))]) dX4_findUnit_11 (by decide) rfl ?_
  refine G_iconst C (v := 1) dX4_findUnit_13 (by decide) ?_
  refine G_istore C (lo' := [(5, .int 1), (4, .int ((tsq d 0).2.2)), (3, .int 0), (2, .int 1), (0, .ref (ad r)), (1, .int (nI d))]) dX4_findUnit_14 (by decide) rfl ?_
  refine G_iconst C (v := 1) dX4_findUnit_16 (by decide) ?_
  refine G_istore C (lo' := [(6, .int 1), (5, .int 1), (4, .int ((tsq d 0).2.2)), (3, .int 0), (2, .int 1), (0, .ref (ad r)), (1, .int (nI d))]) dX4_findUnit_17 (by decide) rfl ?_
  have key19 : ∀ (n : Nat) (i : Nat) (G1 : Nat → va_E) (hf19_rt : G1 rt = .inr (6, [.int (nI d), .int (nI (wr d)), .int ((tsq d i).1), .int ((tsq d i).2.1), .int ((tsq d i).2.2)])) (ha19 : Agr [rt] G G1) (hn : pern d - i < n) (hi : i < pern d), GW L E N ad G1 0 0 19 [(6, .int (nI (i + 1))), (5, .int ((uSeq d i).2.2.2)), (4, .int ((uSeq d i).2.2.1)), (3, .int ((uSeq d i).2.1)), (2, .int ((uSeq d i).1)), (0, .ref (ad r)), (1, .int (nI d))] [] := by
    intro n
    induction n with
    | zero =>
      intro i G1 hf19_rt ha19 hn hi
      exact absurd hn (Nat.not_lt_zero _)
    | succ n ih =>
      intro i G1 hf19_rt ha19 hn hi
      have h12 := per_lt d (by omega)
      have hpe := per_end d (by omega) i (by omega) hi
      refine G_iload C dX4_findUnit_19 rfl ?_
      refine G_bipush C (v := 99) dX4_findUnit_21 (by decide) ?_
      refine G_icmp_gt C 116 dX4_findUnit_23 (by decide) (fun c23 => False.elim (by have := (cI_lt (a := 99) (b := i + 1) rfl rfl (by omega) (by omega)).mp c23; omega)) (fun c23 => ?_)
      have c23n : ¬ 99 < (i + 1) := fun z => c23 ((cI_lt (a := 99) (b := (i + 1)) rfl rfl (by omega) (by omega)).mpr z)
      refine G_aload_n C 0 dX4_findUnit_26 rfl rfl ?_
      refine G_get C r lt_r ((ha19 r (by simp [ne_0_1])).trans gr) rfl inA4 0 (by decide) rfl kf_X4_12 rfl dX4_findUnit_27 ?_
      refine G_callV C (As := []) (rest := []) (c_X6_next lt_rt hf19_rt) ca_X6_next km_X4_53 lt_rt hf19_rt rfl rfl rfl rfl (by decide) (Nat.le_of_ble_eq_true rfl) (by decide) dX4_findUnit_30 (fun vv1 gg2 qq3 => ?_)
      obtain ⟨rfl, hh4, aa5⟩ := qq3
      have AA6 : Agr [rt] G gg2 := ha19.tr aa5 (by simp) (by simp)
      refine G_aload_n C 0 dX4_findUnit_33 rfl rfl ?_
      refine G_get C r lt_r ((aa5 r (by simp [ne_0_1])).trans ((ha19 r (by simp [ne_0_1])).trans gr)) rfl inA4 0 (by decide) rfl kf_X4_12 rfl dX4_findUnit_34 ?_
      refine G_callV C (As := []) (rest := []) (c_X6_endsPeriod lt_rt hh4) ca_X6_endsPeriod km_X4_56 lt_rt hh4 rfl rfl rfl rfl (by decide) (Nat.le_of_ble_eq_true rfl) (by decide) dX4_findUnit_37 (fun vv7 gg8 qq9 => ?_)
      obtain ⟨rfl, rfl⟩ := qq9
      refine G_if_eq C 68 dX4_findUnit_40 (by decide) (fun c40 => ?_) (fun c40 => ?_)
      · refine G_aload_n C 0 dX4_findUnit_68 rfl rfl ?_
        refine G_get C r lt_r ((aa5 r (by simp [ne_0_1])).trans ((ha19 r (by simp [ne_0_1])).trans gr)) rfl inA4 0 (by decide) rfl kf_X4_12 rfl dX4_findUnit_69 ?_
        refine G_get C rt lt_rt hh4 rfl inA6 4 (by decide) rfl kf_X4_49 rfl dX4_findUnit_72 ?_
        refine G_iload C dX4_findUnit_75 rfl ?_
        refine G_imul C dX4_findUnit_77 ?_
        refine G_iload_n C 2 dX4_findUnit_78 rfl rfl ?_
        refine G_iadd C dX4_findUnit_79 ?_
        refine G_istore C (lo' := [(7, .int ((((tnF (nI d) (nI (wr d)) ((tsq d i).1) ((tsq d i).2.1) ((tsq d i).2.2)).2.2) * ((uSeq d i).2.2.1)) + ((uSeq d i).1))), (6, .int (nI (i + 1))), (5, .int ((uSeq d i).2.2.2)), (4, .int ((uSeq d i).2.2.1)), (3, .int ((uSeq d i).2.1)), (2, .int ((uSeq d i).1)), (0, .ref (ad r)), (1, .int (nI d))]) dX4_findUnit_80 (by decide) rfl ?_
        refine G_aload_n C 0 dX4_findUnit_82 rfl rfl ?_
        refine G_get C r lt_r ((aa5 r (by simp [ne_0_1])).trans ((ha19 r (by simp [ne_0_1])).trans gr)) rfl inA4 0 (by decide) rfl kf_X4_12 rfl dX4_findUnit_83 ?_
        refine G_get C rt lt_rt hh4 rfl inA6 4 (by decide) rfl kf_X4_49 rfl dX4_findUnit_86 ?_
        refine G_iload C dX4_findUnit_89 rfl ?_
        refine G_imul C dX4_findUnit_91 ?_
        refine G_iload_n C 3 dX4_findUnit_92 rfl rfl ?_
        refine G_iadd C dX4_findUnit_93 ?_
        refine G_istore C (lo' := [(8, .int ((((tnF (nI d) (nI (wr d)) ((tsq d i).1) ((tsq d i).2.1) ((tsq d i).2.2)).2.2) * ((uSeq d i).2.2.2)) + ((uSeq d i).2.1))), (7, .int ((((tnF (nI d) (nI (wr d)) ((tsq d i).1) ((tsq d i).2.1) ((tsq d i).2.2)).2.2) * ((uSeq d i).2.2.1)) + ((uSeq d i).1))), (6, .int (nI (i + 1))), (5, .int ((uSeq d i).2.2.2)), (4, .int ((uSeq d i).2.2.1)), (3, .int ((uSeq d i).2.1)), (2, .int ((uSeq d i).1)), (0, .ref (ad r)), (1, .int (nI d))]) dX4_findUnit_94 (by decide) rfl ?_
        refine G_iload C dX4_findUnit_96 rfl ?_
        refine G_istore_n C 2 (lo' := [(2, .int ((uSeq d i).2.2.1)), (8, .int ((((tnF (nI d) (nI (wr d)) ((tsq d i).1) ((tsq d i).2.1) ((tsq d i).2.2)).2.2) * ((uSeq d i).2.2.2)) + ((uSeq d i).2.1))), (7, .int ((((tnF (nI d) (nI (wr d)) ((tsq d i).1) ((tsq d i).2.1) ((tsq d i).2.2)).2.2) * ((uSeq d i).2.2.1)) + ((uSeq d i).1))), (6, .int (nI (i + 1))), (5, .int ((uSeq d i).2.2.2)), (4, .int ((uSeq d i).2.2.1)), (3, .int ((uSeq d i).2.1)), (0, .ref (ad r)), (1, .int (nI d))]) dX4_findUnit_98 rfl (by decide) rfl ?_
        refine G_iload C dX4_findUnit_99 rfl ?_
        refine G_istore_n C 3 (lo' := [(3, .int ((uSeq d i).2.2.2)), (2, .int ((uSeq d i).2.2.1)), (8, .int ((((tnF (nI d) (nI (wr d)) ((tsq d i).1) ((tsq d i).2.1) ((tsq d i).2.2)).2.2) * ((uSeq d i).2.2.2)) + ((uSeq d i).2.1))), (7, .int ((((tnF (nI d) (nI (wr d)) ((tsq d i).1) ((tsq d i).2.1) ((tsq d i).2.2)).2.2) * ((uSeq d i).2.2.1)) + ((uSeq d i).1))), (6, .int (nI (i + 1))), (5, .int ((uSeq d i).2.2.2)), (4, .int ((uSeq d i).2.2.1)), (0, .ref (ad r)), (1, .int (nI d))]) dX4_findUnit_101 rfl (by decide) rfl ?_
        refine G_iload C dX4_findUnit_102 rfl ?_
        refine G_istore C (lo' := [(4, .int ((((tnF (nI d) (nI (wr d)) ((tsq d i).1) ((tsq d i).2.1) ((tsq d i).2.2)).2.2) * ((uSeq d i).2.2.1)) + ((uSeq d i).1))), (3, .int ((uSeq d i).2.2.2)), (2, .int ((uSeq d i).2.2.1)), (8, .int ((((tnF (nI d) (nI (wr d)) ((tsq d i).1) ((tsq d i).2.1) ((tsq d i).2.2)).2.2) * ((uSeq d i).2.2.2)) + ((uSeq d i).2.1))), (7, .int ((((tnF (nI d) (nI (wr d)) ((tsq d i).1) ((tsq d i).2.1) ((tsq d i).2.2)).2.2) * ((uSeq d i).2.2.1)) + ((uSeq d i).1))), (6, .int (nI (i + 1))), (5, .int ((uSeq d i).2.2.2)), (0, .ref (ad r)), (1, .int (nI d))]) dX4_findUnit_104 (by decide) rfl ?_
        refine G_iload C dX4_findUnit_106 rfl ?_
        refine G_istore C (lo' := [(5, .int ((((tnF (nI d) (nI (wr d)) ((tsq d i).1) ((tsq d i).2.1) ((tsq d i).2.2)).2.2) * ((uSeq d i).2.2.2)) + ((uSeq d i).2.1))), (4, .int ((((tnF (nI d) (nI (wr d)) ((tsq d i).1) ((tsq d i).2.1) ((tsq d i).2.2)).2.2) * ((uSeq d i).2.2.1)) + ((uSeq d i).1))), (3, .int ((uSeq d i).2.2.2)), (2, .int ((uSeq d i).2.2.1)), (8, .int ((((tnF (nI d) (nI (wr d)) ((tsq d i).1) ((tsq d i).2.1) ((tsq d i).2.2)).2.2) * ((uSeq d i).2.2.2)) + ((uSeq d i).2.1))), (7, .int ((((tnF (nI d) (nI (wr d)) ((tsq d i).1) ((tsq d i).2.1) ((tsq d i).2.2)).2.2) * ((uSeq d i).2.2.1)) + ((uSeq d i).1))), (6, .int (nI (i + 1))), (0, .ref (ad r)), (1, .int (nI d))]) dX4_findUnit_108 (by decide) rfl ?_
        refine G_iinc C (v := nI ((i + 1) + 1)) (lo' := [(6, .int (nI ((i + 1) + 1))), (5, .int ((((tnF (nI d) (nI (wr d)) ((tsq d i).1) ((tsq d i).2.1) ((tsq d i).2.2)).2.2) * ((uSeq d i).2.2.2)) + ((uSeq d i).2.1))), (4, .int ((((tnF (nI d) (nI (wr d)) ((tsq d i).1) ((tsq d i).2.1) ((tsq d i).2.2)).2.2) * ((uSeq d i).2.2.1)) + ((uSeq d i).1))), (3, .int ((uSeq d i).2.2.2)), (2, .int ((uSeq d i).2.2.1)), (8, .int ((((tnF (nI d) (nI (wr d)) ((tsq d i).1) ((tsq d i).2.1) ((tsq d i).2.2)).2.2) * ((uSeq d i).2.2.2)) + ((uSeq d i).2.1))), (7, .int ((((tnF (nI d) (nI (wr d)) ((tsq d i).1) ((tsq d i).2.1) ((tsq d i).2.2)).2.2) * ((uSeq d i).2.2.1)) + ((uSeq d i).1))), (0, .ref (ad r)), (1, .int (nI d))]) dX4_findUnit_110 rfl (nI_add _ _) (by decide) rfl ?_
        refine G_goto C 19 dX4_findUnit_113 (by decide) ?_
        refine GW.pick [0, 1, 2, 3, 4, 7, 8] [(6, .int (nI ((i + 1) + 1))), (5, .int ((((tnF (nI d) (nI (wr d)) ((tsq d i).1) ((tsq d i).2.1) ((tsq d i).2.2)).2.2) * ((uSeq d i).2.2.2)) + ((uSeq d i).2.1))), (4, .int ((((tnF (nI d) (nI (wr d)) ((tsq d i).1) ((tsq d i).2.1) ((tsq d i).2.2)).2.2) * ((uSeq d i).2.2.1)) + ((uSeq d i).1))), (3, .int ((uSeq d i).2.2.2)), (2, .int ((uSeq d i).2.2.1)), (0, .ref (ad r)), (1, .int (nI d))] rfl ?_
        exact ih (i + 1) gg2 hh4 AA6 (by have : i + 1 ≠ pern d := fun z => absurd (Eq.trans (Eq.symm (if_pos (hpe.mpr z))) c40 : (1 : Int32) = 0) (by decide); omega) (by have : i + 1 ≠ pern d := fun z => absurd (Eq.trans (Eq.symm (if_pos (hpe.mpr z))) c40 : (1 : Int32) = 0) (by decide); omega)
      · have hq : i + 1 = pern d := Classical.byContradiction fun z => c40 (if_neg (fun y => z (hpe.mp y)))
        have hi1 : pern d - 1 = i := by omega
        refine G_aload_n C 0 dX4_findUnit_43 rfl rfl ?_
        refine G_get C r lt_r ((aa5 r (by simp [ne_0_1])).trans ((ha19 r (by simp [ne_0_1])).trans gr)) rfl inA4 1 (by decide) rfl kf_X4_18 rfl dX4_findUnit_44 ?_
        refine G_iload_n C 1 dX4_findUnit_47 rfl rfl ?_
        refine G_iload C dX4_findUnit_48 rfl ?_
        refine G_iastN C rp lt_rp d ((aa5 rp (by simp [ne_2_1])).trans ((ha19 rp (by simp [ne_2_1])).trans grp)) rfl (by omega) (by omega) dX4_findUnit_50 (fun gg10 hh11 aa12 => ?_)
        have AA13 : Agr [rt, rp] G gg10 := AA6.tr aa12 (by simp) (by simp)
        refine G_aload_n C 0 dX4_findUnit_51 rfl rfl ?_
        refine G_get C r lt_r ((aa12 r (by simp [ne_0_2])).trans ((aa5 r (by simp [ne_0_1])).trans ((ha19 r (by simp [ne_0_1])).trans gr))) rfl inA4 2 (by decide) rfl kf_X4_22 rfl dX4_findUnit_52 ?_
        refine G_iload_n C 1 dX4_findUnit_55 rfl rfl ?_
        refine G_iload C dX4_findUnit_56 rfl ?_
        refine G_iastN C rx lt_rx d ((aa12 rx (by simp [(Ne.symm n_rp_rx)])).trans ((aa5 rx (by simp [ne_3_1])).trans ((ha19 rx (by simp [ne_3_1])).trans grx))) rfl (by omega) (by omega) dX4_findUnit_58 (fun gg14 hh15 aa16 => ?_)
        have AA17 : Agr [rt, rp, rx] G gg14 := AA13.tr aa16 (by simp) (by simp)
        refine G_aload_n C 0 dX4_findUnit_59 rfl rfl ?_
        refine G_get C r lt_r ((aa16 r (by simp [ne_0_3])).trans ((aa12 r (by simp [ne_0_2])).trans ((aa5 r (by simp [ne_0_1])).trans ((ha19 r (by simp [ne_0_1])).trans gr)))) rfl inA4 3 (by decide) rfl kf_X4_25 rfl dX4_findUnit_60 ?_
        refine G_iload_n C 1 dX4_findUnit_63 rfl rfl ?_
        refine G_iload C dX4_findUnit_64 rfl ?_
        refine G_iastN C ry lt_ry d ((aa16 ry (by simp [(Ne.symm n_rx_ry)])).trans ((aa12 ry (by simp [(Ne.symm n_rp_ry)])).trans ((aa5 ry (by simp [ne_4_1])).trans ((ha19 ry (by simp [ne_4_1])).trans gry)))) rfl (by omega) (by omega) dX4_findUnit_66 (fun gg18 hh19 aa20 => ?_)
        have AA21 : Agr [rt, rp, rx, ry] G gg18 := AA17.tr aa20 (by simp) (by simp)
        exact G_vret C hr dX4_findUnit_67 ⟨rfl, (by rw [((aa20 rp (by simp [n_rp_ry])).trans ((aa16 rp (by simp [n_rp_rx])).trans hh11)), hq]; rfl), (by rw [((aa20 rx (by simp [n_rx_ry])).trans hh15), ← (unit_ok d (by omega) hs).1, hi1]), (by rw [hh19, ← (unit_ok d (by omega) hs).2, hi1]), AA21⟩
  exact key19 (pern d + 1) 0 G gt Agr.rf (by omega) (by omega)

abbrev rm_X4_findGreatestPower : Room := ({ frames := 2, cells := 0, slots := 0, locals := 45 } : Room)
set_option maxRecDepth 100000 in
set_option maxHeartbeats 4000000 in
theorem c_X4_findGreatestPower {L : GL} {N : Nat} {ad : Nat → Nat} {G : Nat → va_E} {r p rt rp rx ry rg d : Nat} {fx fy fg : Nat → Int32} {a1 a2 a3 : Int32} {a4 a5 : Int64} (lt_r : r < N) (lt_rx : rx < N) (lt_ry : ry < N) (lt_rg : rg < N) (lt_p : p < N) (gr : G r = .inr (4, [.ref (ad rt), .ref (ad rp), .ref (ad rx), .ref (ad ry), .ref (ad rg)])) (grx : G rx = .inl (L.ac 0, 61, .inl fx)) (gry : G ry = .inl (L.ac 0, 61, .inl fy)) (grg : G rg = .inl (L.ac 0, 61, .inl fg)) (gp : G p = .inr (1, [.int a1, .int a2, .int a3, .long a4, .long a5])) (h60 : d ≤ 60) (hs : pern d ≠ 0) (hx : fx d = tUx d) (hy : fy d = tUy d) (hg : fg d = 0) (n_rx_ry : rx ≠ ry) (n_rx_rg : rx ≠ rg) (n_ry_rg : ry ≠ rg) : GM L yX4_findGreatestPower cX4_findGreatestPower 4 (none) rm_X4_findGreatestPower N ad G [.ref (ad r), .int (nI d), .ref (ad p)] (fun vo G' => vo = none ∧ G' rg = .inl (L.ac 0, 61, .inl (upd fg d (tGp d))) ∧ G' p = .inr (1, [.int (tUx d), .int (tUy d), .int (nI d), .long ((pwr d (gpn d)).1), .long ((pwr d (gpn d)).2)]) ∧ Agr [p, rg] G G') := by
  refine GM.of (own := RX4) (lo := [(0, .ref (ad r)), (1, .int (nI d)), (2, .ref (ad p))]) (by decide +kernel) rfl rfl (Nat.le_of_ble_eq_true rfl) (fun E C hr => ?_)
  have ne_0_3 : r ≠ rg := fun h => by have h9 := gr; rw [h, grg] at h9; first | cases h9 | simp at h9
  have ne_0_4 : r ≠ p := fun h => by have h9 := gr; rw [h, gp] at h9; first | cases h9 | simp at h9
  have ne_1_4 : rx ≠ p := fun h => by have h9 := grx; rw [h, gp] at h9; first | cases h9 | simp at h9
  have ne_2_4 : ry ≠ p := fun h => by have h9 := gry; rw [h, gp] at h9; first | cases h9 | simp at h9
  have ne_3_4 : rg ≠ p := fun h => by have h9 := grg; rw [h, gp] at h9; first | cases h9 | simp at h9
  have ne_4_3 : p ≠ rg := Ne.symm ne_3_4
  refine G_aload_n C 0 dX4_findGreatestPower_0 rfl rfl ?_
  refine G_aload_n C 2 dX4_findGreatestPower_1 rfl rfl ?_
  refine G_iload_n C 1 dX4_findGreatestPower_2 rfl rfl ?_
  refine G_callV C (As := [.ref (ad p), .int (nI d)]) (rest := []) (c_X4_begin lt_r lt_rx lt_ry lt_p gr grx gry gp) ca_X4_begin km_X4_59 lt_r gr rfl rfl rfl rfl (by decide) (Nat.le_of_ble_eq_true rfl) (by decide) dX4_findGreatestPower_3 (fun vv1 gg2 qq3 => ?_)
  obtain ⟨rfl, hh4, aa5⟩ := qq3
  have AA6 : Agr [p] G gg2 := aa5.wk (by simp)
  rw [tab_d fx (by omega), tab_d fy (by omega), hx, hy] at hh4
  refine GW.ren rg lt_rg (t0 := 0) (upd fg d (nI 0)) ((aa5 rg (by simp [ne_3_4])).trans grg) (fun j _ => by by_cases h : j = d <;> simp [upd, h, hg, nI_0]) (fun gg7 hh8 aa9 => ?_)
  have AA10 : Agr [p, rg] G gg7 := AA6.tr aa9 (by simp) (by simp)
  refine G_iconst C (v := 1) dX4_findGreatestPower_6 (by decide) ?_
  refine G_istore_n C 3 (lo' := [(3, .int 1), (0, .ref (ad r)), (1, .int (nI d)), (2, .ref (ad p))]) dX4_findGreatestPower_7 rfl (by decide) rfl ?_
  have key8 : ∀ (n : Nat) (i : Nat) (G1 : Nat → va_E) (hf8_p : G1 p = .inr (1, [.int (tUx d), .int (tUy d), .int (nI d), .long ((pwr d i).1), .long ((pwr d i).2)])) (hf8_rg : G1 rg = .inl (L.ac 0, 61, .inl (upd fg d (nI i)))) (ha8 : Agr [p, rg] G G1) (hn : gpn d - i < n) (hi : i ≤ gpn d), GW L E N ad G1 0 0 8 [(3, .int (nI (i + 1))), (0, .ref (ad r)), (1, .int (nI d)), (2, .ref (ad p))] [] := by
    intro n
    induction n with
    | zero =>
      intro i G1 hf8_p hf8_rg ha8 hn hi
      exact absurd hn (Nat.not_lt_zero _)
    | succ n ih =>
      intro i G1 hf8_p hf8_rg ha8 hn hi
      have h39 := gp_lt d (by omega)
      have hck := climb_ok d (by omega) hs i (by omega) hi
      refine G_iload_n C 3 dX4_findGreatestPower_8 rfl rfl ?_
      refine G_ldc C dX4_findGreatestPower_9 ki_X4_62 ?_
      refine G_icmp_ge C 34 dX4_findGreatestPower_11 (by decide) (fun c11 => False.elim (by have := (cI_le (a := 1000000) (b := i + 1) rfl rfl (by omega) (by omega)).mp c11; omega)) (fun c11 => ?_)
      have c11n : ¬ 1000000 ≤ (i + 1) := fun z => c11 ((cI_le (a := 1000000) (b := (i + 1)) rfl rfl (by omega) (by omega)).mpr z)
      refine G_aload_n C 2 dX4_findGreatestPower_14 rfl rfl ?_
      refine G_callV C (As := []) (rest := []) (c_X1_climb lt_p hf8_p) ca_X1_climb km_X4_63 lt_p hf8_p rfl rfl rfl rfl (by decide) (Nat.le_of_ble_eq_true rfl) (by decide) dX4_findGreatestPower_15 (fun vv11 gg12 qq13 => ?_)
      obtain ⟨rfl, hh14, aa15⟩ := qq13
      have AA16 : Agr [p, rg] G gg12 := ha8.tr aa15 (by simp) (by simp)
      refine G_if_eq C 34 dX4_findGreatestPower_18 (by decide) (fun c18 => ?_) (fun c18 => ?_)
      · exact G_vret C hr dX4_findGreatestPower_34 ⟨rfl, (by have e : i = gpn d := Classical.byContradiction fun z => absurd (c18.symm.trans (hck.trans (if_pos (by omega)))) (by decide); rw [((aa15 rg (by simp [ne_3_4])).trans hf8_rg), e]; rfl), (by have e : i = gpn d := Classical.byContradiction fun z => absurd (c18.symm.trans (hck.trans (if_pos (by omega)))) (by decide); rw [hh14, climb_keep c18, e]), AA16⟩
      · refine G_aload_n C 0 dX4_findGreatestPower_21 rfl rfl ?_
        refine G_get C r lt_r ((aa15 r (by simp [ne_0_4])).trans ((ha8 r (by simp [ne_0_4, ne_0_3])).trans gr)) rfl inA4 4 (by decide) rfl kf_X4_28 rfl dX4_findGreatestPower_22 ?_
        refine G_iload_n C 1 dX4_findGreatestPower_25 rfl rfl ?_
        refine G_iload_n C 3 dX4_findGreatestPower_26 rfl rfl ?_
        refine G_iastN C rg lt_rg d ((aa15 rg (by simp [ne_3_4])).trans hf8_rg) rfl (by omega) (by omega) dX4_findGreatestPower_27 (fun gg17 hh18 aa19 => ?_)
        have AA20 : Agr [p, rg] G gg17 := AA16.tr aa19 (by simp) (by simp)
        refine GW.ren rg lt_rg (t0 := 0) (upd fg d (nI (i + 1))) hh18 (fun j _ => by by_cases h : j = d <;> simp [upd, h]) (fun gg21 hh22 aa23 => ?_)
        have AA24 : Agr [p, rg] G gg21 := AA20.tr aa23 (by simp) (by simp)
        refine G_iinc C (v := nI ((i + 1) + 1)) (lo' := [(3, .int (nI ((i + 1) + 1))), (0, .ref (ad r)), (1, .int (nI d)), (2, .ref (ad p))]) dX4_findGreatestPower_28 rfl (nI_add _ _) (by decide) rfl ?_
        refine G_goto C 8 dX4_findGreatestPower_31 (by decide) ?_
        exact ih (i + 1) gg21 ((aa23 p (by simp [ne_4_3])).trans ((aa19 p (by simp [ne_4_3])).trans hh14)) hh22 AA24 (by have : i ≠ gpn d := fun z => c18 (by rw [hck, if_neg (by omega)]); omega) (by have : i ≠ gpn d := fun z => c18 (by rw [hck, if_neg (by omega)]); omega)
  exact key8 (gpn d + 1) 0 gg7 ((aa9 p (by simp [ne_4_3])).trans hh4) hh8 AA10 (by omega) (by omega)

