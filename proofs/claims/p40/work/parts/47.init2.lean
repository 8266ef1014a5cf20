def r8 (a b c d e f g h : Nat) : Nat → Option Nat := fun i => match i with
  | 0 => some a
  | 1 => some b
  | 2 => some c
  | 3 => some d
  | 4 => some e
  | 5 => some f
  | 6 => some g
  | _ => some h
theorem q8_w {a0 a1 a2 a3 a4 a5 a6 a7 : Nat} (j : Nat) (hj : j < 8) {f : Nat → Option Nat} (h0 : f 0 = some a0) (h1 : f 1 = some a1) (h2 : f 2 = some a2) (h3 : f 3 = some a3) (h4 : f 4 = some a4) (h5 : f 5 = some a5) (h6 : f 6 = some a6) (h7 : f 7 = some a7) : f j = r8 a0 a1 a2 a3 a4 a5 a6 a7 j := by
  rcases (show j = 0 ∨ j = 1 ∨ j = 2 ∨ j = 3 ∨ j = 4 ∨ j = 5 ∨ j = 6 ∨ j = 7 by omega) with rfl | rfl | rfl | rfl | rfl | rfl | rfl | rfl <;> assumption
theorem q8_q {ad : Nat → Nat} (j : Nat) (hj : j < 8) : r8 (ad 11) (ad 12) (ad 13) (ad 14) (ad 15) (ad 16) (ad 17) (ad 18) j = qwq ad (fun i => 11 + i) j := by
  rcases (show j = 0 ∨ j = 1 ∨ j = 2 ∨ j = 3 ∨ j = 4 ∨ j = 5 ∨ j = 6 ∨ j = 7 by omega) with rfl | rfl | rfl | rfl | rfl | rfl | rfl | rfl <;> rfl
abbrev rm_X4_findUnit2 : Room := ({ frames := 1, cells := 0, slots := 0, locals := 20 } : Room)
set_option maxRecDepth 100000 in
set_option maxHeartbeats 4000000 in
theorem c_X4_findUnit2 {L : GL} {N : Nat} {ad : Nat → Nat} {G : Nat → va_E} {r rt rp rx ry rg d : Nat} {fp fx fy : Nat → Int32} (lt_r : r < N) (lt_rt : rt < N) (lt_rp : rp < N) (lt_rx : rx < N) (lt_ry : ry < N) (gr : G r = .inr (4, [.ref (ad rt), .ref (ad rp), .ref (ad rx), .ref (ad ry), .ref (ad rg)])) (gt : G rt = .inr (6, [.int (nI d), .int (nI (wr d)), .int ((tsq d 0).1), .int ((tsq d 0).2.1), .int ((tsq d 0).2.2)])) (grp : G rp = .inl (L.ac 0, 61, .inl fp)) (grx : G rx = .inl (L.ac 0, 61, .inl fx)) (gry : G ry = .inl (L.ac 0, 61, .inl fy)) (h2 : 2 ≤ d) (h60 : d ≤ 60) (hs : pern d ≠ 0) (n_rp_rx : rp ≠ rx) (n_rp_ry : rp ≠ ry) (n_rx_ry : rx ≠ ry) : GM L yX4_findUnit cX4_findUnit 9 (none) rm_X4_findUnit2 N ad G [.ref (ad r), .int (nI d)] (fun vo G' => ∃ (t1 : Int32) (t2 : Int32) (t3 : Int32) (t4 : Int32) (t5 : Int32), vo = none ∧ G' rt = .inr (6, [.int t1, .int t2, .int t3, .int t4, .int t5]) ∧ G' rp = .inl (L.ac 0, 61, .inl (upd fp d (tPer d))) ∧ G' rx = .inl (L.ac 0, 61, .inl (upd fx d (tUx d))) ∧ G' ry = .inl (L.ac 0, 61, .inl (upd fy d (tUy d))) ∧ Agr [rt, rp, rx, ry] G G') := by
  refine GM.of (own := RX4) (lo := [(0, .ref (ad r)), (1, .int (nI d))]) (by decide +kernel) rfl rfl (Nat.le_of_ble_eq_true rfl) (fun E C hr => ?_)
  have ne_0_1 : r ≠ rt := fun h => by have h9 := gr; rw [h, gt] at h9; first | cases h9 | simp at h9
  have ne_0_2 : r ≠ rp := fun h => by have h9 := gr; rw [h, grp] at h9; first | cases h9 | simp at h9
  have ne_0_3 : r ≠ rx := fun h => by have h9 := gr; rw [h, grx] at h9; first | cases h9 | simp at h9
  have ne_0_4 : r ≠ ry := fun h => by have h9 := gr; rw [h, gry] at h9; first | cases h9 | simp at h9
  have ne_1_2 : rt ≠ rp := fun h => by have h9 := gt; rw [h, grp] at h9; first | cases h9 | simp at h9
  have ne_1_3 : rt ≠ rx := fun h => by have h9 := gt; rw [h, grx] at h9; first | cases h9 | simp at h9
  have ne_1_4 : rt ≠ ry := fun h => by have h9 := gt; rw [h, gry] at h9; first | cases h9 | simp at h9
  have ne_2_1 : rp ≠ rt := Ne.symm ne_1_2
  have ne_3_1 : rx ≠ rt := Ne.symm ne_1_3
  have ne_4_1 : ry ≠ rt := Ne.symm ne_1_4
  refine G_iconst C (v := 1) dX4_findUnit_0 (by decide) ?_
  refine G_istore_n C 2 (lo' := [(2, .int 1), (0, .ref (ad r)), (1, .int (nI d))]) dX4_findUnit_1 rfl (by decide) rfl ?_
  refine G_iconst C (v := 0) dX4_findUnit_2 (by decide) ?_
  refine G_istore_n C 3 (lo' := [(3, .int 0), (2, .int 1), (0, .ref (ad r)), (1, .int (nI d))]) dX4_findUnit_3 rfl (by decide) rfl ?_
  refine G_aload_n C 0 dX4_findUnit_4 rfl rfl ?_
  refine G_get C r lt_r gr rfl inA4 0 (by decide) rfl kf_X4_12 rfl dX4_findUnit_5 ?_
  refine G_get C rt lt_rt gt rfl inA6 4 (by decide) rfl kf_X4_49 rfl dX4_findUnit_8 ?_
  refine G_istore C (lo' := [(4, .int ((tsq d 0).2.2)), (3, .int 0), (2, .int 1), (0, .ref (ad r)), (1, .int (nI d))]) dX4_findUnit_11 (by decide) rfl ?_
  refine G_iconst C (v := 1) dX4_findUnit_13 (by decide) ?_
  refine G_istore C (lo' := [(5, .int 1), (4, .int ((tsq d 0).2.2)), (3, .int 0), (2, .int 1), (0, .ref (ad r)), (1, .int (nI d))]) dX4_findUnit_14 (by decide) rfl ?_
  refine G_iconst C (v := 1) dX4_findUnit_16 (by decide) ?_
  refine G_istore C (lo' := [(6, .int 1), (5, .int 1), (4, .int ((tsq d 0).2.2)), (3, .int 0), (2, .int 1), (0, .ref (ad r)), (1, .int (nI d))]) dX4_findUnit_17 (by decide) rfl ?_
  have key19 : ∀ (n : Nat) (i : Nat) (G1 : Nat → va_E) (hf19_rt : G1 rt = .inr (6, [.int (nI d), .int (nI (wr d)), .int ((tsq d i).1), .int ((tsq d i).2.1), .int ((tsq d i).2.2)])) (ha19 : Agr [rt] G G1) (hn : pern d - i < n) (hi : i < pern d), GW L E N ad G1 0 0 19 [(6, .int (nI (i + 1))), (5, .int ((uSeq d i).2.2.2)), (4, .int ((uSeq d i).2.2.1)), (3, .int ((uSeq d i).2.1)), (2, .int ((uSeq d i).1)), (0, .ref (ad r)), (1, .int (nI d))] [] := by
    intro n
    induction n with
    | zero =>
      intro i G1 hf19_rt ha19 hn hi
      exact absurd hn (Nat.not_lt_zero _)
    | succ n ih =>
      intro i G1 hf19_rt ha19 hn hi
      have h12 := per_lt d (by omega)
      have hpe := per_end d (by omega) i (by omega) hi
      refine G_iload C dX4_findUnit_19 rfl ?_
      refine G_bipush C (v := 99) dX4_findUnit_21 (by decide) ?_
      refine G_icmp_gt C 116 dX4_findUnit_23 (by decide) (fun c23 => False.elim (by have := (cI_lt (a := 99) (b := i + 1) rfl rfl (by omega) (by omega)).mp c23; omega)) (fun c23 => ?_)
      have c23n : ¬ 99 < (i + 1) := fun z => c23 ((cI_lt (a := 99) (b := (i + 1)) rfl rfl (by omega) (by omega)).mpr z)
      refine G_aload_n C 0 dX4_findUnit_26 rfl rfl ?_
      refine G_get C r lt_r ((ha19 r (by simp [ne_0_1])).trans gr) rfl inA4 0 (by decide) rfl kf_X4_12 rfl dX4_findUnit_27 ?_
      refine G_callV C (As := []) (rest := []) (c_X6_next lt_rt hf19_rt) ca_X6_next km_X4_53 lt_rt hf19_rt rfl rfl rfl rfl (by decide) (Nat.le_of_ble_eq_true rfl) (by decide) dX4_findUnit_30 (fun vv1 gg2 qq3 => ?_)
      obtain ⟨rfl, hh4, aa5⟩ := qq3
      have AA6 : Agr [rt] G gg2 := ha19.tr aa5 (by simp) (by simp)
      refine G_aload_n C 0 dX4_findUnit_33 rfl rfl ?_
      refine G_get C r lt_r ((aa5 r (by simp [ne_0_1])).trans ((ha19 r (by simp [ne_0_1])).trans gr)) rfl inA4 0 (by decide) rfl kf_X4_12 rfl dX4_findUnit_34 ?_
      refine G_callV C (As := []) (rest := []) (c_X6_endsPeriod lt_rt hh4) ca_X6_endsPeriod km_X4_56 lt_rt hh4 rfl rfl rfl rfl (by decide) (Nat.le_of_ble_eq_true rfl) (by decide) dX4_findUnit_37 (fun vv7 gg8 qq9 => ?_)
      obtain ⟨rfl, rfl⟩ := qq9
      refine G_if_eq C 68 dX4_findUnit_40 (by decide) (fun c40 => ?_) (fun c40 => ?_)
      · refine G_aload_n C 0 dX4_findUnit_68 rfl rfl ?_
        refine G_get C r lt_r ((aa5 r (by simp [ne_0_1])).trans ((ha19 r (by simp [ne_0_1])).trans gr)) rfl inA4 0 (by decide) rfl kf_X4_12 rfl dX4_findUnit_69 ?_
        refine G_get C rt lt_rt hh4 rfl inA6 4 (by decide) rfl kf_X4_49 rfl dX4_findUnit_72 ?_
        refine G_iload C dX4_findUnit_75 rfl ?_
        refine G_imul C dX4_findUnit_77 ?_
        refine G_iload_n C 2 dX4_findUnit_78 rfl rfl ?_
        refine G_iadd C dX4_findUnit_79 ?_
        refine G_istore C (lo' := [(7, .int ((((tnF (nI d) (nI (wr d)) ((tsq d i).1) ((tsq d i).2.1) ((tsq d i).2.2)).2.2) * ((uSeq d i).2.2.1)) + ((uSeq d i).1))), (6, .int (nI (i + 1))), (5, .int ((uSeq d i).2.2.2)), (4, .int ((uSeq d i).2.2.1)), (3, .int ((uSeq d i).2.1)), (2, .int ((uSeq d i).1)), (0, .ref (ad r)), (1, .int (nI d))]) dX4_findUnit_80 (by decide) rfl ?_
        refine G_aload_n C 0 dX4_findUnit_82 rfl rfl ?_
        refine G_get C r lt_r ((aa5 r (by simp [ne_0_1])).trans ((ha19 r (by simp [ne_0_1])).trans gr)) rfl inA4 0 (by decide) rfl kf_X4_12 rfl dX4_findUnit_83 ?_
        refine G_get C rt lt_rt hh4 rfl inA6 4 (by decide) rfl kf_X4_49 rfl dX4_findUnit_86 ?_
        refine G_iload C dX4_findUnit_89 rfl ?_
        refine G_imul C dX4_findUnit_91 ?_
        refine G_iload_n C 3 dX4_findUnit_92 rfl rfl ?_
        refine G_iadd C dX4_findUnit_93 ?_
        refine G_istore C (lo' := [(8, .int ((((tnF (nI d) (nI (wr d)) ((tsq d i).1) ((tsq d i).2.1) ((tsq d i).2.2)).2.2) * ((uSeq d i).2.2.2)) + ((uSeq d i).2.1))), (7, .int ((((tnF (nI d) (nI (wr d)) ((tsq d i).1) ((tsq d i).2.1) ((tsq d i).2.2)).2.2) * ((uSeq d i).2.2.1)) + ((uSeq d i).1))), (6, .int (nI (i + 1))), (5, .int ((uSeq d i).2.2.2)), (4, .int ((uSeq d i).2.2.1)), (3, .int ((uSeq d i).2.1)), (2, .int ((uSeq d i).1)), (0, .ref (ad r)), (1, .int (nI d))]) dX4_findUnit_94 (by decide) rfl ?_
        refine G_iload C dX4_findUnit_96 rfl ?_
        refine G_istore_n C 2 (lo' := [(2, .int ((uSeq d i).2.2.1)), (8, .int ((((tnF (nI d) (nI (wr d)) ((tsq d i).1) ((tsq d i).2.1) ((tsq d i).2.2)).2.2) * ((uSeq d i).2.2.2)) + ((uSeq d i).2.1))), (7, .int ((((tnF (nI d) (nI (wr d)) ((tsq d i).1) ((tsq d i).2.1) ((tsq d i).2.2)).2.2) * ((uSeq d i).2.2.1)) + ((uSeq d i).1))), (6, .int (nI (i + 1))), (5, .int ((uSeq d i).2.2.2)), (4, .int ((uSeq d i).2.2.1)), (3, .int ((uSeq d i).2.1)), (0, .ref (ad r)), (1, .int (nI d))]) dX4_findUnit_98 rfl (by decide) rfl ?_
        refine G_iload C dX4_findUnit_99 rfl ?_
        refine G_istore_n C 3 (lo' := [(3, .int ((uSeq d i).2.2.2)), (2, .int ((uSeq d i).2.2.1)), (8, .int ((((tnF (nI d) (nI (wr d)) ((tsq d i).1) ((tsq d i).2.1) ((tsq d i).2.2)).2.2) * ((uSeq d i).2.2.2)) + ((uSeq d i).2.1))), (7, .int ((((tnF (nI d) (nI (wr d)) ((tsq d i).1) ((tsq d i).2.1) ((tsq d i).2.2)).2.2) * ((uSeq d i).2.2.1)) + ((uSeq d i).1))), (6, .int (nI (i + 1))), (5, .int ((uSeq d i).2.2.2)), (4, .int ((uSeq d i).2.2.1)), (0, .ref (ad r)), (1, .int (nI d))]) dX4_findUnit_101 rfl (by decide) rfl ?_
        refine G_iload C dX4_findUnit_102 rfl ?_
        refine G_istore C (lo' := [(4, .int ((((tnF (nI d) (nI (wr d)) ((tsq d i).1) ((tsq d i).2.1) ((tsq d i).2.2)).2.2) * ((uSeq d i).2.2.1)) + ((uSeq d i).1))), (3, .int ((uSeq d i).2.2.2)), (2, .int ((uSeq d i).2.2.1)), (8, .int ((((tnF (nI d) (nI (wr d)) ((tsq d i).1) ((tsq d i).2.1) ((tsq d i).2.2)).2.2) * ((uSeq d i).2.2.2)) + ((uSeq d i).2.1))), (7, .int ((((tnF (nI d) (nI (wr d)) ((tsq d i).1) ((tsq d i).2.1) ((tsq d i).2.2)).2.2) * ((uSeq d i).2.2.1)) + ((uSeq d i).1))), (6, .int (nI (i + 1))), (5, .int ((uSeq d i).2.2.2)), (0, .ref (ad r)), (1, .int (nI d))]) dX4_findUnit_104 (by decide) rfl ?_
        refine G_iload C dX4_findUnit_106 rfl ?_
        refine G_istore C (lo' := [(5, .int ((((tnF (nI d) (nI (wr d)) ((tsq d i).1) ((tsq d i).2.1) ((tsq d i).2.2)).2.2) * ((uSeq d i).2.2.2)) + ((uSeq d i).2.1))), (4, .int ((((tnF (nI d) (nI (wr d)) ((tsq d i).1) ((tsq d i).2.1) ((tsq d i).2.2)).2.2) * ((uSeq d i).2.2.1)) + ((uSeq d i).1))), (3, .int ((uSeq d i).2.2.2)), (2, .int ((uSeq d i).2.2.1)), (8, .int ((((tnF (nI d) (nI (wr d)) ((tsq d i).1) ((tsq d i).2.1) ((tsq d i).2.2)).2.2) * ((uSeq d i).2.2.2)) + ((uSeq d i).2.1))), (7, .int ((((tnF (nI d) (nI (wr d)) ((tsq d i).1) ((tsq d i).2.1) ((tsq d i).2.2)).2.2) * ((uSeq d i).2.2.1)) + ((uSeq d i).1))), (6, .int (nI (i + 1))), (0, .ref (ad r)), (1, .int (nI d))]) dX4_findUnit_108 (by decide) rfl ?_
        refine G_iinc C (v := nI ((i + 1) + 1)) (lo' := [(6, .int (nI ((i + 1) + 1))), (5, .int ((((tnF (nI d) (nI (wr d)) ((tsq d i).1) ((tsq d i).2.1) ((tsq d i).2.2)).2.2) * ((uSeq d i).2.2.2)) + ((uSeq d i).2.1))), (4, .int ((((tnF (nI d) (nI (wr d)) ((tsq d i).1) ((tsq d i).2.1) ((tsq d i).2.2)).2.2) * ((uSeq d i).2.2.1)) + ((uSeq d i).1))), (3, .int ((uSeq d i).2.2.2)), (2, .int ((uSeq d i).2.2.1)), (8, .int ((((tnF (nI d) (nI (wr d)) ((tsq d i).1) ((tsq d i).2.1) ((tsq d i).2.2)).2.2) * ((uSeq d i).2.2.2)) + ((uSeq d i).2.1))), (7, .int ((((tnF (nI d) (nI (wr d)) ((tsq d i).1) ((tsq d i).2.1) ((tsq d i).2.2)).2.2) * ((uSeq d i).2.2.1)) + ((uSeq d i).1))), (0, .ref (ad r)), (1, .int (nI d))]) dX4_findUnit_110 rfl (nI_add _ _) (by decide) rfl ?_
        refine G_goto C 19 dX4_findUnit_113 (by decide) ?_
        refine GW.pick [0, 1, 2, 3, 4, 7, 8] [(6, .int (nI ((i + 1) + 1))), (5, .int ((((tnF (nI d) (nI (wr d)) ((tsq d i).1) ((tsq d i).2.1) ((tsq d i).2.2)).2.2) * ((uSeq d i).2.2.2)) + ((uSeq d i).2.1))), (4, .int ((((tnF (nI d) (nI (wr d)) ((tsq d i).1) ((tsq d i).2.1) ((tsq d i).2.2)).2.2) * ((uSeq d i).2.2.1)) + ((uSeq d i).1))), (3, .int ((uSeq d i).2.2.2)), (2, .int ((uSeq d i).2.2.1)), (0, .ref (ad r)), (1, .int (nI d))] rfl ?_
        exact ih (i + 1) gg2 hh4 AA6 (by have : i + 1 ≠ pern d := fun z => absurd (Eq.trans (Eq.symm (if_pos (hpe.mpr z))) c40 : (1 : Int32) = 0) (by decide); omega) (by have : i + 1 ≠ pern d := fun z => absurd (Eq.trans (Eq.symm (if_pos (hpe.mpr z))) c40 : (1 : Int32) = 0) (by decide); omega)
      · have hq : i + 1 = pern d := Classical.byContradiction fun z => c40 (if_neg (fun y => z (hpe.mp y)))
        have hi1 : pern d - 1 = i := by omega
        refine G_aload_n C 0 dX4_findUnit_43 rfl rfl ?_
        refine G_get C r lt_r ((aa5 r (by simp [ne_0_1])).trans ((ha19 r (by simp [ne_0_1])).trans gr)) rfl inA4 1 (by decide) rfl kf_X4_18 rfl dX4_findUnit_44 ?_
        refine G_iload_n C 1 dX4_findUnit_47 rfl rfl ?_
        refine G_iload C dX4_findUnit_48 rfl ?_
        refine G_iastN C rp lt_rp d ((aa5 rp (by simp [ne_2_1])).trans ((ha19 rp (by simp [ne_2_1])).trans grp)) rfl (by omega) (by omega) dX4_findUnit_50 (fun gg10 hh11 aa12 => ?_)
        have AA13 : Agr [rt, rp] G gg10 := AA6.tr aa12 (by simp) (by simp)
        refine G_aload_n C 0 dX4_findUnit_51 rfl rfl ?_
        refine G_get C r lt_r ((aa12 r (by simp [ne_0_2])).trans ((aa5 r (by simp [ne_0_1])).trans ((ha19 r (by simp [ne_0_1])).trans gr))) rfl inA4 2 (by decide) rfl kf_X4_22 rfl dX4_findUnit_52 ?_
        refine G_iload_n C 1 dX4_findUnit_55 rfl rfl ?_
        refine G_iload C dX4_findUnit_56 rfl ?_
        refine G_iastN C rx lt_rx d ((aa12 rx (by simp [(Ne.symm n_rp_rx)])).trans ((aa5 rx (by simp [ne_3_1])).trans ((ha19 rx (by simp [ne_3_1])).trans grx))) rfl (by omega) (by omega) dX4_findUnit_58 (fun gg14 hh15 aa16 => ?_)
        have AA17 : Agr [rt, rp, rx] G gg14 := AA13.tr aa16 (by simp) (by simp)
        refine G_aload_n C 0 dX4_findUnit_59 rfl rfl ?_
        refine G_get C r lt_r ((aa16 r (by simp [ne_0_3])).trans ((aa12 r (by simp [ne_0_2])).trans ((aa5 r (by simp [ne_0_1])).trans ((ha19 r (by simp [ne_0_1])).trans gr)))) rfl inA4 3 (by decide) rfl kf_X4_25 rfl dX4_findUnit_60 ?_
        refine G_iload_n C 1 dX4_findUnit_63 rfl rfl ?_
        refine G_iload C dX4_findUnit_64 rfl ?_
        refine G_iastN C ry lt_ry d ((aa16 ry (by simp [(Ne.symm n_rx_ry)])).trans ((aa12 ry (by simp [(Ne.symm n_rp_ry)])).trans ((aa5 ry (by simp [ne_4_1])).trans ((ha19 ry (by simp [ne_4_1])).trans gry)))) rfl (by omega) (by omega) dX4_findUnit_66 (fun gg18 hh19 aa20 => ?_)
        have AA21 : Agr [rt, rp, rx, ry] G gg18 := AA17.tr aa20 (by simp) (by simp)
        exact G_vret C hr dX4_findUnit_67 ⟨_, _, _, _, _, rfl, ((aa20 rt (by simp [ne_1_4])).trans ((aa16 rt (by simp [ne_1_3])).trans ((aa12 rt (by simp [ne_1_2])).trans hh4))), (by rw [((aa20 rp (by simp [n_rp_ry])).trans ((aa16 rp (by simp [n_rp_rx])).trans hh11)), hq]; rfl), (by rw [((aa20 rx (by simp [n_rx_ry])).trans hh15), ← (unit_ok d (by omega) hs).1, hi1]), (by rw [hh19, ← (unit_ok d (by omega) hs).2, hi1]), AA21⟩
  exact key19 (pern d + 1) 0 G gt Agr.rf (by omega) (by omega)

abbrev rm_X4_init : Room := ({ frames := 3, cells := 6, slots := 254, locals := 68 } : Room)
set_option maxRecDepth 100000 in
set_option maxHeartbeats 4000000 in
theorem c_X4_init {L : GL} {ad : Nat → Nat} {G : Nat → va_E}   (g1 : G 1 = .inr (4, [.null, .null, .null, .null, .null]))  : GN L yX4_init cX4_init 3 rm_X4_init 2 ad G [.ref (ad 1)] (fun N' ad' G' => N' = 8 ∧ (∀ i, i < 2 → ad' i = ad i) ∧ ∃ (t1 : Int32) (t2 : Int32) (t3 : Int32) (t4 : Int32) (t5 : Int32) (b1 : Int32) (b2 : Int32) (b3 : Int32) (b4 : Int64) (b5 : Int64), G' 1 = .inr (4, [.ref (ad' 2), .ref (ad' 3), .ref (ad' 4), .ref (ad' 5), .ref (ad' 6)]) ∧ G' 2 = .inr (6, [.int t1, .int t2, .int t3, .int t4, .int t5]) ∧ G' 3 = .inl (L.ac 0, 61, .inl tPer) ∧ G' 4 = .inl (L.ac 0, 61, .inl tUx) ∧ G' 5 = .inl (L.ac 0, 61, .inl tUy) ∧ G' 6 = .inl (L.ac 0, 61, .inl tGp) ∧ G' 7 = .inr (1, [.int b1, .int b2, .int b3, .long b4, .long b5]) ∧ Agr [1, 2, 3, 4, 5, 6, 7] G G') := by
  refine GN.of (own := RX4) (lo := [(0, .ref (ad 1))]) (by decide +kernel) rfl rfl rfl (Nat.le_of_ble_eq_true rfl) (fun E C hr => ?_)
  have hz0 := hz_rf (ad := ad) (N0 := 2)
  refine G_aload_n C 0 dX4_init_0 rfl rfl ?_
  refine G_objInit C km_X4_3 w_oi1 w_oi2 dX4_init_1 (by decide) (Nat.le_of_ble_eq_true rfl) ?_
  refine G_aload_n C 0 dX4_init_4 rfl rfl ?_
  refine G_newE C (ci := 6) (fs := [.int 0, .int 0, .int 0, .int 0, .int 0]) rfl inA6 tyX6_ok kc_X4_9 w_inst_X6 w_init_X6 dfX6 (by decide) (by decide) dX4_init_5 (fun ad gg1 he4 hh2 aa3 => ?_)
  try simp only [← he4 1 (by decide)] at g1 ⊢
  have hz5 := hz_tr hz0 he4 (by decide)
  have AA6 : Agr [2] G gg1 := aa3.wk (by simp)
  refine G_dup C dX4_init_8 rfl ?_
  refine G_callIN C (As := []) (rest := [.ref (ad 2), .ref (ad 1)]) c_X6_init ca_X6_init kn_X4_11 rfl rfl (by decide) (Nat.le_of_ble_eq_true rfl) (by decide) dX4_init_9 (fun vv7 gg8 qq9 => ?_)
  obtain ⟨rfl, rfl⟩ := qq9
  refine G_putFp C hr.2.1 1 (by decide) ((aa3 1 (by decide)).trans g1) rfl inA4 tyX4_ok nmX4 0 (by decide) rfl rfl kf_X4_12 rfl rfl rfl (fs' := [.ref (ad 2), .null, .null, .null, .null]) (Nat.le_of_ble_eq_true rfl) rfl dX4_init_12 (fun gg10 hh11 aa12 => ?_)
  have AA13 : Agr [2, 1] G gg10 := AA6.tr aa12 (by simp) (by simp)
  refine G_aload_n C 0 dX4_init_15 rfl rfl ?_
  refine G_bipush C (v := 61) dX4_init_16 (by decide) ?_
  refine G_newaE C 0 (atype := .int) (ty := .int) w_arr_int rfl rfl (N1 := 61) (a0 := (61, .inl (fun _ => 0))) ha_i (by decide) rfl (Nat.le_of_ble_eq_true rfl) (Nat.le_of_ble_eq_true rfl) (Nat.le_of_ble_eq_true rfl) dX4_init_18 (fun ad gg14 he17 hh15 aa16 => ?_)
  try simp only [← he17 1 (by decide), ← he17 2 (by decide)] at hh11 hh2 ⊢
  have hz18 := hz_tr hz5 he17 (by decide)
  have AA19 : Agr [2, 1, 3] G gg14 := AA13.tr aa16 (by simp) (by simp)
  refine G_putFp C hr.2.1 1 (by decide) ((aa16 1 (by decide)).trans hh11) rfl inA4 tyX4_ok nmX4 1 (by decide) rfl rfl kf_X4_18 rfl rfl rfl (fs' := [.ref (ad 2), .ref (ad 3), .null, .null, .null]) (Nat.le_of_ble_eq_true rfl) rfl dX4_init_20 (fun gg20 hh21 aa22 => ?_)
  have AA23 : Agr [2, 1, 3] G gg20 := AA19.tr aa22 (by simp) (by simp)
  refine G_aload_n C 0 dX4_init_23 rfl rfl ?_
  refine G_bipush C (v := 61) dX4_init_24 (by decide) ?_
  refine G_newaE C 0 (atype := .int) (ty := .int) w_arr_int rfl rfl (N1 := 61) (a0 := (61, .inl (fun _ => 0))) ha_i (by decide) rfl (Nat.le_of_ble_eq_true rfl) (Nat.le_of_ble_eq_true rfl) (Nat.le_of_ble_eq_true rfl) dX4_init_26 (fun ad gg24 he27 hh25 aa26 => ?_)
  try simp only [← he27 1 (by decide), ← he27 2 (by decide), ← he27 3 (by decide)] at hh15 hh2 hh21 ⊢
  have hz28 := hz_tr hz18 he27 (by decide)
  have AA29 : Agr [2, 1, 3, 4] G gg24 := AA23.tr aa26 (by simp) (by simp)
  refine G_putFp C hr.2.1 1 (by decide) ((aa26 1 (by decide)).trans hh21) rfl inA4 tyX4_ok nmX4 2 (by decide) rfl rfl kf_X4_22 rfl rfl rfl (fs' := [.ref (ad 2), .ref (ad 3), .ref (ad 4), .null, .null]) (Nat.le_of_ble_eq_true rfl) rfl dX4_init_28 (fun gg30 hh31 aa32 => ?_)
  have AA33 : Agr [2, 1, 3, 4] G gg30 := AA29.tr aa32 (by simp) (by simp)
  refine G_aload_n C 0 dX4_init_31 rfl rfl ?_
  refine G_bipush C (v := 61) dX4_init_32 (by decide) ?_
  refine G_newaE C 0 (atype := .int) (ty := .int) w_arr_int rfl rfl (N1 := 61) (a0 := (61, .inl (fun _ => 0))) ha_i (by decide) rfl (Nat.le_of_ble_eq_true rfl) (Nat.le_of_ble_eq_true rfl) (Nat.le_of_ble_eq_true rfl) dX4_init_34 (fun ad gg34 he37 hh35 aa36 => ?_)
  try simp only [← he37 1 (by decide), ← he37 2 (by decide), ← he37 3 (by decide), ← he37 4 (by decide)] at hh15 hh2 hh25 hh31 ⊢
  have hz38 := hz_tr hz28 he37 (by decide)
  have AA39 : Agr [2, 1, 3, 4, 5] G gg34 := AA33.tr aa36 (by simp) (by simp)
  refine G_putFp C hr.2.1 1 (by decide) ((aa36 1 (by decide)).trans hh31) rfl inA4 tyX4_ok nmX4 3 (by decide) rfl rfl kf_X4_25 rfl rfl rfl (fs' := [.ref (ad 2), .ref (ad 3), .ref (ad 4), .ref (ad 5), .null]) (Nat.le_of_ble_eq_true rfl) rfl dX4_init_36 (fun gg40 hh41 aa42 => ?_)
  have AA43 : Agr [2, 1, 3, 4, 5] G gg40 := AA39.tr aa42 (by simp) (by simp)
  refine G_aload_n C 0 dX4_init_39 rfl rfl ?_
  refine G_bipush C (v := 61) dX4_init_40 (by decide) ?_
  refine G_newaE C 0 (atype := .int) (ty := .int) w_arr_int rfl rfl (N1 := 61) (a0 := (61, .inl (fun _ => 0))) ha_i (by decide) rfl (Nat.le_of_ble_eq_true rfl) (Nat.le_of_ble_eq_true rfl) (Nat.le_of_ble_eq_true rfl) dX4_init_42 (fun ad gg44 he47 hh45 aa46 => ?_)
  try simp only [← he47 1 (by decide), ← he47 2 (by decide), ← he47 3 (by decide), ← he47 4 (by decide), ← he47 5 (by decide)] at hh15 hh2 hh25 hh35 hh41 ⊢
  have hz48 := hz_tr hz38 he47 (by decide)
  have AA49 : Agr [2, 1, 3, 4, 5, 6] G gg44 := AA43.tr aa46 (by simp) (by simp)
  refine G_putFp C hr.2.1 1 (by decide) ((aa46 1 (by decide)).trans hh41) rfl inA4 tyX4_ok nmX4 4 (by decide) rfl rfl kf_X4_28 rfl rfl rfl (fs' := [.ref (ad 2), .ref (ad 3), .ref (ad 4), .ref (ad 5), .ref (ad 6)]) (Nat.le_of_ble_eq_true rfl) rfl dX4_init_44 (fun gg50 hh51 aa52 => ?_)
  have AA53 : Agr [2, 1, 3, 4, 5, 6] G gg50 := AA49.tr aa52 (by simp) (by simp)
  refine G_newE C (ci := 1) (fs := [.int 0, .int 0, .int 0, .long 0, .long 0]) rfl inA1 tyX1_ok kc_X4_31 w_inst_X1 w_init_X1 dfX1 (by decide) (by decide) dX4_init_47 (fun ad gg54 he57 hh55 aa56 => ?_)
  try simp only [← he57 1 (by decide), ← he57 2 (by decide), ← he57 3 (by decide), ← he57 4 (by decide), ← he57 5 (by decide), ← he57 6 (by decide)] at hh15 hh2 hh25 hh35 hh45 hh51 ⊢
  have hz58 := hz_tr hz48 he57 (by decide)
  have AA59 : Agr [2, 1, 3, 4, 5, 6, 7] G gg54 := AA53.tr aa56 (by simp) (by simp)
  refine G_dup C dX4_init_50 rfl ?_
  refine G_callIN C (As := []) (rest := [.ref (ad 7)]) c_X1_init ca_X1_init kn_X4_33 rfl rfl (by decide) (Nat.le_of_ble_eq_true rfl) (by decide) dX4_init_51 (fun vv60 gg61 qq62 => ?_)
  obtain ⟨rfl, rfl⟩ := qq62
  refine G_astore_n C 1 (lo' := [(1, .ref (ad 7)), (0, .ref (ad 1))]) dX4_init_54 rfl (by decide) rfl ?_
  refine GW.ren 3 (by decide) (t0 := 0) (tbJ tPer 0) ((aa56 3 (by decide)).trans ((aa52 3 (by decide)).trans ((aa46 3 (by decide)).trans ((aa42 3 (by decide)).trans ((aa36 3 (by decide)).trans ((aa32 3 (by decide)).trans ((aa26 3 (by decide)).trans ((aa22 3 (by decide)).trans hh15)))))))) (tb_0.1) (fun gg63 hh64 aa65 => ?_)
  have AA66 : Agr [2, 1, 3, 4, 5, 6, 7] G gg63 := AA59.tr aa65 (by simp) (by simp)
  refine GW.ren 4 (by decide) (t0 := 0) (tbJ tUx 0) ((aa65 4 (by decide)).trans ((aa56 4 (by decide)).trans ((aa52 4 (by decide)).trans ((aa46 4 (by decide)).trans ((aa42 4 (by decide)).trans ((aa36 4 (by decide)).trans ((aa32 4 (by decide)).trans hh25))))))) (tb_0.2.1) (fun gg67 hh68 aa69 => ?_)
  have AA70 : Agr [2, 1, 3, 4, 5, 6, 7] G gg67 := AA66.tr aa69 (by simp) (by simp)
  refine GW.ren 5 (by decide) (t0 := 0) (tbJ tUy 0) ((aa69 5 (by decide)).trans ((aa65 5 (by decide)).trans ((aa56 5 (by decide)).trans ((aa52 5 (by decide)).trans ((aa46 5 (by decide)).trans ((aa42 5 (by decide)).trans hh35)))))) (tb_0.2.2.1) (fun gg71 hh72 aa73 => ?_)
  have AA74 : Agr [2, 1, 3, 4, 5, 6, 7] G gg71 := AA70.tr aa73 (by simp) (by simp)
  refine GW.ren 6 (by decide) (t0 := 0) (tbJ tGp 0) ((aa73 6 (by decide)).trans ((aa69 6 (by decide)).trans ((aa65 6 (by decide)).trans ((aa56 6 (by decide)).trans ((aa52 6 (by decide)).trans hh45))))) (tb_0.2.2.2) (fun gg75 hh76 aa77 => ?_)
  have AA78 : Agr [2, 1, 3, 4, 5, 6, 7] G gg75 := AA74.tr aa77 (by simp) (by simp)
  refine G_iconst C (v := 2) dX4_init_55 (by decide) ?_
  refine G_istore_n C 2 (lo' := [(2, .int 2), (1, .ref (ad 7)), (0, .ref (ad 1))]) dX4_init_56 rfl (by decide) rfl ?_
  have key57 : ∀ (n : Nat) (j : Nat) (t1 : Int32) (t2 : Int32) (t3 : Int32) (t4 : Int32) (t5 : Int32) (b1 : Int32) (b2 : Int32) (b3 : Int32) (b4 : Int64) (b5 : Int64) (G1 : Nat → va_E) (hf57_1 : G1 1 = .inr (4, [.ref (ad 2), .ref (ad 3), .ref (ad 4), .ref (ad 5), .ref (ad 6)])) (hf57_2 : G1 2 = .inr (6, [.int t1, .int t2, .int t3, .int t4, .int t5])) (hf57_3 : G1 3 = .inl (L.ac 0, 61, .inl (tbJ tPer j))) (hf57_4 : G1 4 = .inl (L.ac 0, 61, .inl (tbJ tUx j))) (hf57_5 : G1 5 = .inl (L.ac 0, 61, .inl (tbJ tUy j))) (hf57_6 : G1 6 = .inl (L.ac 0, 61, .inl (tbJ tGp j))) (hf57_7 : G1 7 = .inr (1, [.int b1, .int b2, .int b3, .long b4, .long b5])) (ha57 : Agr [1, 2, 3, 4, 5, 6, 7] G G1) (hn : 59 - j < n) (hj : j ≤ 59), GW L E 8 ad G1 6 254 57 [(2, .int (nI (j + 2))), (1, .ref (ad 7)), (0, .ref (ad 1))] [] := by
    intro n
    induction n with
    | zero =>
      intro j t1 t2 t3 t4 t5 b1 b2 b3 b4 b5 G1 hf57_1 hf57_2 hf57_3 hf57_4 hf57_5 hf57_6 hf57_7 ha57 hn hj
      exact absurd hn (Nat.not_lt_zero _)
    | succ n ih =>
      intro j t1 t2 t3 t4 t5 b1 b2 b3 b4 b5 G1 hf57_1 hf57_2 hf57_3 hf57_4 hf57_5 hf57_6 hf57_7 ha57 hn hj
      refine G_iload_n C 2 dX4_init_57 rfl rfl ?_
      refine G_bipush C (v := 60) dX4_init_58 (by decide) ?_
      refine G_icmp_gt C 98 dX4_init_60 (by decide) (fun c60 => ?_) (fun c60 => ?_)
      · have c60n : 60 < (j + 2) := (cI_lt (a := 60) (b := (j + 2)) rfl rfl (by omega) (by omega)).mp c60
        refine GW.ren 3 (by decide) (t0 := 0) tPer hf57_3 (fun i hi => by rw [show j = 59 by omega]; exact tb_59 hi) (fun gg79 hh80 aa81 => ?_)
        have AA82 : Agr [1, 2, 3, 4, 5, 6, 7] G gg79 := ha57.tr aa81 (by simp) (by simp)
        refine GW.ren 4 (by decide) (t0 := 0) tUx ((aa81 4 (by decide)).trans hf57_4) (fun i hi => by rw [show j = 59 by omega]; exact tb_59 hi) (fun gg83 hh84 aa85 => ?_)
        have AA86 : Agr [1, 2, 3, 4, 5, 6, 7] G gg83 := AA82.tr aa85 (by simp) (by simp)
        refine GW.ren 5 (by decide) (t0 := 0) tUy ((aa85 5 (by decide)).trans ((aa81 5 (by decide)).trans hf57_5)) (fun i hi => by rw [show j = 59 by omega]; exact tb_59 hi) (fun gg87 hh88 aa89 => ?_)
        have AA90 : Agr [1, 2, 3, 4, 5, 6, 7] G gg87 := AA86.tr aa89 (by simp) (by simp)
        refine GW.ren 6 (by decide) (t0 := 0) tGp ((aa89 6 (by decide)).trans ((aa85 6 (by decide)).trans ((aa81 6 (by decide)).trans hf57_6))) (fun i hi => by rw [show j = 59 by omega]; exact tb_59 hi) (fun gg91 hh92 aa93 => ?_)
        have AA94 : Agr [1, 2, 3, 4, 5, 6, 7] G gg91 := AA90.tr aa93 (by simp) (by simp)
        exact G_nret C hr dX4_init_98 ⟨rfl, hz58, _, _, _, _, _, _, _, _, _, _, ((aa93 1 (by decide)).trans ((aa89 1 (by decide)).trans ((aa85 1 (by decide)).trans ((aa81 1 (by decide)).trans hf57_1)))), ((aa93 2 (by decide)).trans ((aa89 2 (by decide)).trans ((aa85 2 (by decide)).trans ((aa81 2 (by decide)).trans hf57_2)))), ((aa93 3 (by decide)).trans ((aa89 3 (by decide)).trans ((aa85 3 (by decide)).trans hh80))), ((aa93 4 (by decide)).trans ((aa89 4 (by decide)).trans hh84)), ((aa93 5 (by decide)).trans hh88), hh92, ((aa93 7 (by decide)).trans ((aa89 7 (by decide)).trans ((aa85 7 (by decide)).trans ((aa81 7 (by decide)).trans hf57_7)))), AA94⟩
      · have c60n : ¬ 60 < (j + 2) := fun z => c60 ((cI_lt (a := 60) (b := (j + 2)) rfl rfl (by omega) (by omega)).mpr z)
        refine G_aload_n C 0 dX4_init_63 rfl rfl ?_
        refine G_get C 1 (by decide) hf57_1 rfl inA4 0 (by decide) rfl kf_X4_12 rfl dX4_init_64 ?_
        refine G_iload_n C 2 dX4_init_67 rfl rfl ?_
        refine G_callV C (As := [.int (nI (j + 2))]) (rest := []) (c_X6_begin (by decide) hf57_2 (by omega) (by omega)) ca_X6_begin km_X4_34 (by decide) hf57_2 rfl rfl rfl rfl (by decide) (Nat.le_of_ble_eq_true rfl) (by decide) dX4_init_68 (fun vv95 gg96 qq97 => ?_)
        obtain ⟨rfl, hh98, aa99⟩ := qq97
        have AA100 : Agr [1, 2, 3, 4, 5, 6, 7] G gg96 := ha57.tr aa99 (by simp) (by simp)
        refine G_aload_n C 0 dX4_init_71 rfl rfl ?_
        refine G_get C 1 (by decide) ((aa99 1 (by decide)).trans hf57_1) rfl inA4 0 (by decide) rfl kf_X4_12 rfl dX4_init_72 ?_
        refine G_callV C (As := []) (rest := []) (c_X6_isSquare (by decide) hh98) ca_X6_isSquare km_X4_38 (by decide) hh98 rfl rfl rfl rfl (by decide) (Nat.le_of_ble_eq_true rfl) (by decide) dX4_init_75 (fun vv101 gg102 qq103 => ?_)
        obtain ⟨rfl, rfl⟩ := qq103
        by_cases hp : pern (j + 2) = 0
        · refine GW.topr (y := 1) (if_pos ((sq_ok (j + 2) (by omega) (by omega)).mpr hp)) ?_
          refine G_if_ne C 92 dX4_init_78 (by decide) (fun _ => ?_) (fun h => absurd h (by decide))
          have hz9 := tb_sq (j + 2) (by omega) hp
          refine GW.ren 3 (by decide) (t0 := 0) (tbJ tPer (j + 1)) ((aa99 3 (by decide)).trans hf57_3) (fun i _ => tb_n hz9.1 i) (fun gg104 hh105 aa106 => ?_)
          have AA107 : Agr [1, 2, 3, 4, 5, 6, 7] G gg104 := AA100.tr aa106 (by simp) (by simp)
          refine GW.ren 4 (by decide) (t0 := 0) (tbJ tUx (j + 1)) ((aa106 4 (by decide)).trans ((aa99 4 (by decide)).trans hf57_4)) (fun i _ => tb_n hz9.2.1 i) (fun gg108 hh109 aa110 => ?_)
          have AA111 : Agr [1, 2, 3, 4, 5, 6, 7] G gg108 := AA107.tr aa110 (by simp) (by simp)
          refine GW.ren 5 (by decide) (t0 := 0) (tbJ tUy (j + 1)) ((aa110 5 (by decide)).trans ((aa106 5 (by decide)).trans ((aa99 5 (by decide)).trans hf57_5))) (fun i _ => tb_n hz9.2.2.1 i) (fun gg112 hh113 aa114 => ?_)
          have AA115 : Agr [1, 2, 3, 4, 5, 6, 7] G gg112 := AA111.tr aa114 (by simp) (by simp)
          refine GW.ren 6 (by decide) (t0 := 0) (tbJ tGp (j + 1)) ((aa114 6 (by decide)).trans ((aa110 6 (by decide)).trans ((aa106 6 (by decide)).trans ((aa99 6 (by decide)).trans hf57_6)))) (fun i _ => tb_n hz9.2.2.2 i) (fun gg116 hh117 aa118 => ?_)
          have AA119 : Agr [1, 2, 3, 4, 5, 6, 7] G gg116 := AA115.tr aa118 (by simp) (by simp)
          refine G_iinc C (v := nI ((j + 2) + 1)) (lo' := [(2, .int (nI ((j + 2) + 1))), (1, .ref (ad 7)), (0, .ref (ad 1))]) dX4_init_92 rfl (nI_add _ _) (by decide) rfl ?_
          refine G_goto C 57 dX4_init_95 (by decide) ?_
          exact ih (j + 1) _ _ _ _ _ _ _ _ _ _ gg116 ((aa118 1 (by decide)).trans ((aa114 1 (by decide)).trans ((aa110 1 (by decide)).trans ((aa106 1 (by decide)).trans ((aa99 1 (by decide)).trans hf57_1))))) ((aa118 2 (by decide)).trans ((aa114 2 (by decide)).trans ((aa110 2 (by decide)).trans ((aa106 2 (by decide)).trans hh98)))) ((aa118 3 (by decide)).trans ((aa114 3 (by decide)).trans ((aa110 3 (by decide)).trans hh105))) ((aa118 4 (by decide)).trans ((aa114 4 (by decide)).trans hh109)) ((aa118 5 (by decide)).trans hh113) hh117 ((aa118 7 (by decide)).trans ((aa114 7 (by decide)).trans ((aa110 7 (by decide)).trans ((aa106 7 (by decide)).trans ((aa99 7 (by decide)).trans hf57_7))))) AA119 (by omega) (by omega)
        · refine GW.topr (y := 0) (if_neg (fun z => hp ((sq_ok (j + 2) (by omega) (by omega)).mp z))) ?_
          refine G_if_ne C 92 dX4_init_78 (by decide) (fun h => absurd h (by decide)) (fun _ => ?_)
          refine G_aload_n C 0 dX4_init_81 rfl rfl ?_
          refine G_iload_n C 2 dX4_init_82 rfl rfl ?_
          refine G_callV C (As := [.int (nI (j + 2))]) (rest := []) (c_X4_findUnit2 (by decide) (by decide) (by decide) (by decide) (by decide) ((aa99 1 (by decide)).trans hf57_1) hh98 ((aa99 3 (by decide)).trans hf57_3) ((aa99 4 (by decide)).trans hf57_4) ((aa99 5 (by decide)).trans hf57_5) (by omega) (by omega) hp (by decide) (by decide) (by decide)) ca_X4_findUnit km_X4_42 (by decide) ((aa99 1 (by decide)).trans hf57_1) rfl rfl rfl rfl (by decide) (Nat.le_of_ble_eq_true rfl) (by decide) dX4_init_83 (fun vv120 gg121 qq122 => ?_)
          obtain ⟨t_123, t_124, t_125, t_126, t_127, rfl, hh128, hh129, hh130, hh131, aa132⟩ := qq122
          have AA133 : Agr [1, 2, 3, 4, 5, 6, 7] G gg121 := AA100.tr aa132 (by simp) (by simp)
          refine G_aload_n C 0 dX4_init_86 rfl rfl ?_
          refine G_iload_n C 2 dX4_init_87 rfl rfl ?_
          refine G_aload_n C 1 dX4_init_88 rfl rfl ?_
          refine G_callV C (As := [.int (nI (j + 2)), .ref (ad 7)]) (rest := []) (c_X4_findGreatestPower (by decide) (by decide) (by decide) (by decide) (by decide) ((aa132 1 (by decide)).trans ((aa99 1 (by decide)).trans hf57_1)) hh130 hh131 ((aa132 6 (by decide)).trans ((aa99 6 (by decide)).trans hf57_6)) ((aa132 7 (by decide)).trans ((aa99 7 (by decide)).trans hf57_7)) (by omega) hp (by rw [upd, if_pos rfl]) (by rw [upd, if_pos rfl]) (if_neg (by omega)) (by decide) (by decide) (by decide)) ca_X4_findGreatestPower km_X4_45 (by decide) ((aa132 1 (by decide)).trans ((aa99 1 (by decide)).trans hf57_1)) rfl rfl rfl rfl (by decide) (Nat.le_of_ble_eq_true rfl) (by decide) dX4_init_89 (fun vv134 gg135 qq136 => ?_)
          obtain ⟨rfl, hh137, hh138, aa139⟩ := qq136
          have AA140 : Agr [1, 2, 3, 4, 5, 6, 7] G gg135 := AA133.tr aa139 (by simp) (by simp)
          refine GW.ren 3 (by decide) (t0 := 0) (tbJ tPer (j + 1)) ((aa139 3 (by decide)).trans hh129) (fun i _ => tb_s i) (fun gg141 hh142 aa143 => ?_)
          have AA144 : Agr [1, 2, 3, 4, 5, 6, 7] G gg141 := AA140.tr aa143 (by simp) (by simp)
          refine GW.ren 4 (by decide) (t0 := 0) (tbJ tUx (j + 1)) ((aa143 4 (by decide)).trans ((aa139 4 (by decide)).trans hh130)) (fun i _ => tb_s i) (fun gg145 hh146 aa147 => ?_)
          have AA148 : Agr [1, 2, 3, 4, 5, 6, 7] G gg145 := AA144.tr aa147 (by simp) (by simp)
          refine GW.ren 5 (by decide) (t0 := 0) (tbJ tUy (j + 1)) ((aa147 5 (by decide)).trans ((aa143 5 (by decide)).trans ((aa139 5 (by decide)).trans hh131))) (fun i _ => tb_s i) (fun gg149 hh150 aa151 => ?_)
          have AA152 : Agr [1, 2, 3, 4, 5, 6, 7] G gg149 := AA148.tr aa151 (by simp) (by simp)
          refine GW.ren 6 (by decide) (t0 := 0) (tbJ tGp (j + 1)) ((aa151 6 (by decide)).trans ((aa147 6 (by decide)).trans ((aa143 6 (by decide)).trans hh137))) (fun i _ => tb_s i) (fun gg153 hh154 aa155 => ?_)
          have AA156 : Agr [1, 2, 3, 4, 5, 6, 7] G gg153 := AA152.tr aa155 (by simp) (by simp)
          refine G_iinc C (v := nI ((j + 2) + 1)) (lo' := [(2, .int (nI ((j + 2) + 1))), (1, .ref (ad 7)), (0, .ref (ad 1))]) dX4_init_92 rfl (nI_add _ _) (by decide) rfl ?_
          refine G_goto C 57 dX4_init_95 (by decide) ?_
          exact ih (j + 1) _ _ _ _ _ _ _ _ _ _ gg153 ((aa155 1 (by decide)).trans ((aa151 1 (by decide)).trans ((aa147 1 (by decide)).trans ((aa143 1 (by decide)).trans ((aa139 1 (by decide)).trans ((aa132 1 (by decide)).trans ((aa99 1 (by decide)).trans hf57_1))))))) ((aa155 2 (by decide)).trans ((aa151 2 (by decide)).trans ((aa147 2 (by decide)).trans ((aa143 2 (by decide)).trans ((aa139 2 (by decide)).trans hh128))))) ((aa155 3 (by decide)).trans ((aa151 3 (by decide)).trans ((aa147 3 (by decide)).trans hh142))) ((aa155 4 (by decide)).trans ((aa151 4 (by decide)).trans hh146)) ((aa155 5 (by decide)).trans hh150) hh154 ((aa155 7 (by decide)).trans ((aa151 7 (by decide)).trans ((aa147 7 (by decide)).trans ((aa143 7 (by decide)).trans hh138)))) AA156 (by omega) (by omega)
  exact key57 60 0 _ _ _ _ _ _ _ _ _ _ gg75 ((aa77 1 (by decide)).trans ((aa73 1 (by decide)).trans ((aa69 1 (by decide)).trans ((aa65 1 (by decide)).trans ((aa56 1 (by decide)).trans hh51))))) ((aa77 2 (by decide)).trans ((aa73 2 (by decide)).trans ((aa69 2 (by decide)).trans ((aa65 2 (by decide)).trans ((aa56 2 (by decide)).trans ((aa52 2 (by decide)).trans ((aa46 2 (by decide)).trans ((aa42 2 (by decide)).trans ((aa36 2 (by decide)).trans ((aa32 2 (by decide)).trans ((aa26 2 (by decide)).trans ((aa22 2 (by decide)).trans ((aa16 2 (by decide)).trans ((aa12 2 (by decide)).trans hh2)))))))))))))) ((aa77 3 (by decide)).trans ((aa73 3 (by decide)).trans ((aa69 3 (by decide)).trans hh64))) ((aa77 4 (by decide)).trans ((aa73 4 (by decide)).trans hh68)) ((aa77 5 (by decide)).trans hh72) hh76 ((aa77 7 (by decide)).trans ((aa73 7 (by decide)).trans ((aa69 7 (by decide)).trans ((aa65 7 (by decide)).trans hh55)))) (AA78.wk (by simp)) (by omega) (Nat.zero_le _)

abbrev rm_X3_init : Room := ({ frames := 2, cells := 9, slots := 48, locals := 32 } : Room)
set_option maxRecDepth 100000 in
set_option maxHeartbeats 4000000 in
theorem c_X3_init {L : GL} {ad : Nat → Nat} {G : Nat → va_E}   (g9 : G 9 = .inr (3, [.null, .null, .int 0]))  : GN L yX3_init cX3_init 3 rm_X3_init 10 ad G [.ref (ad 9), .ref (ad 1)] (fun N' ad' G' => N' = 19 ∧ (∀ i, i < 10 → ad' i = ad i) ∧ G' 9 = .inr (3, [.ref (ad' 1), .ref (ad' 10), .int 0]) ∧ G' 10 = .inl (L.ac 4, 8, .inr (.inr (.inr (.inr (r8 (ad' 11) (ad' 12) (ad' 13) (ad' 14) (ad' 15) (ad' 16) (ad' 17) (ad' 18)))))) ∧ G' 11 = .inr (1, [.int 0, .int 0, .int 0, .long 0, .long 0]) ∧ G' 12 = .inr (1, [.int 0, .int 0, .int 0, .long 0, .long 0]) ∧ G' 13 = .inr (1, [.int 0, .int 0, .int 0, .long 0, .long 0]) ∧ G' 14 = .inr (1, [.int 0, .int 0, .int 0, .long 0, .long 0]) ∧ G' 15 = .inr (1, [.int 0, .int 0, .int 0, .long 0, .long 0]) ∧ G' 16 = .inr (1, [.int 0, .int 0, .int 0, .long 0, .long 0]) ∧ G' 17 = .inr (1, [.int 0, .int 0, .int 0, .long 0, .long 0]) ∧ G' 18 = .inr (1, [.int 0, .int 0, .int 0, .long 0, .long 0]) ∧ Agr [9, 10, 11, 12, 13, 14, 15, 16, 17, 18] G G') := by
  refine GN.of (own := RX3) (lo := [(0, .ref (ad 9)), (1, .ref (ad 1))]) (by decide +kernel) rfl rfl rfl (Nat.le_of_ble_eq_true rfl) (fun E C hr => ?_)
  have hz0 := hz_rf (ad := ad) (N0 := 10)
  refine G_aload_n C 0 dX3_init_0 rfl rfl ?_
  refine G_objInit C km_X3_3 w_oi1 w_oi2 dX3_init_1 (by decide) (Nat.le_of_ble_eq_true rfl) ?_
  refine G_aload_n C 0 dX3_init_4 rfl rfl ?_
  refine G_bipush C (v := 8) dX3_init_5 (by decide) ?_
  refine G_newqE C 4 kc_X3_9 C.2.2.2.2.2.2.2.1.2.2.2.2.2.2.2.1.1 rfl (N1 := 8) (by decide) rfl (Nat.le_of_ble_eq_true rfl) (Nat.le_of_ble_eq_true rfl) (Nat.le_of_ble_eq_true rfl) dX3_init_7 (fun ad gg1 he4 hh2 aa3 => ?_)
  try simp only [← he4 1 (by decide), ← he4 9 (by decide)] at g9 ⊢
  have hz5 := hz_tr hz0 he4 (by decide)
  have AA6 : Agr [10] G gg1 := aa3.wk (by simp)
  refine G_putFp C hr.2.1 9 (by decide) ((aa3 9 (by decide)).trans g9) rfl inA3 tyX3_ok nmX3 1 (by decide) rfl rfl kf_X3_11 rfl rfl rfl (fs' := [.null, .ref (ad 10), .int 0]) (Nat.le_of_ble_eq_true rfl) rfl dX3_init_10 (fun gg7 hh8 aa9 => ?_)
  have AA10 : Agr [10, 9] G gg7 := AA6.tr aa9 (by simp) (by simp)
  refine G_aload_n C 0 dX3_init_13 rfl rfl ?_
  refine G_aload_n C 1 dX3_init_14 rfl rfl ?_
  refine G_putFp C hr.2.1 9 (by decide) hh8 rfl inA3 tyX3_ok nmX3 0 (by decide) rfl rfl kf_X3_17 rfl rfl rfl (fs' := [.ref (ad 1), .ref (ad 10), .int 0]) (Nat.le_of_ble_eq_true rfl) rfl dX3_init_15 (fun gg11 hh12 aa13 => ?_)
  have AA14 : Agr [10, 9] G gg11 := AA10.tr aa13 (by simp) (by simp)
  refine G_iconst C (v := 0) dX3_init_18 (by decide) ?_
  refine G_istore_n C 2 (lo' := [(2, .int 0), (0, .ref (ad 9)), (1, .ref (ad 1))]) dX3_init_19 rfl (by decide) rfl ?_
  refine G_iload_n C 2 dX3_init_20 rfl rfl ?_
  refine G_aload_n C 0 dX3_init_21 rfl rfl ?_
  refine G_get C 9 (by decide) hh12 rfl inA3 1 (by decide) rfl kf_X3_11 rfl dX3_init_22 ?_
  refine G_alen C 10 (by decide) 4 ((aa13 10 (by decide)).trans ((aa9 10 (by decide)).trans hh2)) rfl (v := 8) rfl dX3_init_25 ?_
  refine G_icmp_ge C 48 dX3_init_26 (by decide) (fun h => absurd h (by decide)) (fun _ => ?_)
  refine G_aload_n C 0 dX3_init_29 rfl rfl ?_
  refine G_get C 9 (by decide) hh12 rfl inA3 1 (by decide) rfl kf_X3_11 rfl dX3_init_30 ?_
  refine G_iload_n C 2 dX3_init_33 rfl rfl ?_
  refine G_newE C (ci := 1) (fs := [.int 0, .int 0, .int 0, .long 0, .long 0]) rfl inA1 tyX1_ok kc_X3_9 w_inst_X1 w_init_X1 dfX1 (by decide) (by decide) dX3_init_34 (fun ad gg15 he18 hh16 aa17 => ?_)
  try simp only [← he18 1 (by decide), ← he18 9 (by decide), ← he18 10 (by decide)] at hh12 hh2 ⊢
  have hz19 := hz_tr hz5 he18 (by decide)
  have AA20 : Agr [10, 9, 11] G gg15 := AA14.tr aa17 (by simp) (by simp)
  refine G_dup C dX3_init_37 rfl ?_
  refine G_callIN C (As := []) (rest := [.ref (ad 11), .int 0, .ref (ad 10)]) c_X1_init ca_X1_init kn_X3_21 rfl rfl (by decide) (Nat.le_of_ble_eq_true rfl) (by decide) dX3_init_38 (fun vv21 gg22 qq23 => ?_)
  obtain ⟨rfl, rfl⟩ := qq23
  refine G_astqp C 10 (by decide) 4 rfl ((aa17 10 (by decide)).trans ((aa13 10 (by decide)).trans ((aa9 10 (by decide)).trans hh2))) 11 (by decide) hh16 rfl (vp_in_nI (n := 0) (by decide) (by decide)) dX3_init_41 (fun gg24 hh25 aa26 => ?_)
  have AA27 : Agr [10, 9, 11] G gg24 := AA20.tr aa26 (by simp) (by simp)
  refine G_iinc C (v := 1) (lo' := [(2, .int 1), (0, .ref (ad 9)), (1, .ref (ad 1))]) dX3_init_42 rfl (by decide) (by decide) rfl ?_
  refine G_goto C 20 dX3_init_45 (by decide) ?_
  refine G_iload_n C 2 dX3_init_20 rfl rfl ?_
  refine G_aload_n C 0 dX3_init_21 rfl rfl ?_
  refine G_get C 9 (by decide) ((aa26 9 (by decide)).trans ((aa17 9 (by decide)).trans hh12)) rfl inA3 1 (by decide) rfl kf_X3_11 rfl dX3_init_22 ?_
  refine G_alen C 10 (by decide) 4 hh25 rfl (v := 8) rfl dX3_init_25 ?_
  refine G_icmp_ge C 48 dX3_init_26 (by decide) (fun h => absurd h (by decide)) (fun _ => ?_)
  refine G_aload_n C 0 dX3_init_29 rfl rfl ?_
  refine G_get C 9 (by decide) ((aa26 9 (by decide)).trans ((aa17 9 (by decide)).trans hh12)) rfl inA3 1 (by decide) rfl kf_X3_11 rfl dX3_init_30 ?_
  refine G_iload_n C 2 dX3_init_33 rfl rfl ?_
  refine G_newE C (ci := 1) (fs := [.int 0, .int 0, .int 0, .long 0, .long 0]) rfl inA1 tyX1_ok kc_X3_9 w_inst_X1 w_init_X1 dfX1 (by decide) (by decide) dX3_init_34 (fun ad gg29 he32 hh30 aa31 => ?_)
  try simp only [← he32 1 (by decide), ← he32 9 (by decide), ← he32 10 (by decide), ← he32 11 (by decide)] at hh12 hh16 hh25 ⊢
  have hz33 := hz_tr hz19 he32 (by decide)
  have AA34 : Agr [10, 9, 11, 12] G gg29 := AA27.tr aa31 (by simp) (by simp)
  refine G_dup C dX3_init_37 rfl ?_
  refine G_callIN C (As := []) (rest := [.ref (ad 12), .int 1, .ref (ad 10)]) c_X1_init ca_X1_init kn_X3_21 rfl rfl (by decide) (Nat.le_of_ble_eq_true rfl) (by decide) dX3_init_38 (fun vv35 gg36 qq37 => ?_)
  obtain ⟨rfl, rfl⟩ := qq37
  refine G_astqp C 10 (by decide) 4 rfl ((aa31 10 (by decide)).trans hh25) 12 (by decide) hh30 rfl (vp_in_nI (n := 1) (by decide) (by decide)) dX3_init_41 (fun gg38 hh39 aa40 => ?_)
  have AA41 : Agr [10, 9, 11, 12] G gg38 := AA34.tr aa40 (by simp) (by simp)
  refine G_iinc C (v := 2) (lo' := [(2, .int 2), (0, .ref (ad 9)), (1, .ref (ad 1))]) dX3_init_42 rfl (by decide) (by decide) rfl ?_
  refine G_goto C 20 dX3_init_45 (by decide) ?_
  refine G_iload_n C 2 dX3_init_20 rfl rfl ?_
  refine G_aload_n C 0 dX3_init_21 rfl rfl ?_
  refine G_get C 9 (by decide) ((aa40 9 (by decide)).trans ((aa31 9 (by decide)).trans ((aa26 9 (by decide)).trans ((aa17 9 (by decide)).trans hh12)))) rfl inA3 1 (by decide) rfl kf_X3_11 rfl dX3_init_22 ?_
  refine G_alen C 10 (by decide) 4 hh39 rfl (v := 8) rfl dX3_init_25 ?_
  refine G_icmp_ge C 48 dX3_init_26 (by decide) (fun h => absurd h (by decide)) (fun _ => ?_)
  refine G_aload_n C 0 dX3_init_29 rfl rfl ?_
  refine G_get C 9 (by decide) ((aa40 9 (by decide)).trans ((aa31 9 (by decide)).trans ((aa26 9 (by decide)).trans ((aa17 9 (by decide)).trans hh12)))) rfl inA3 1 (by decide) rfl kf_X3_11 rfl dX3_init_30 ?_
  refine G_iload_n C 2 dX3_init_33 rfl rfl ?_
  refine G_newE C (ci := 1) (fs := [.int 0, .int 0, .int 0, .long 0, .long 0]) rfl inA1 tyX1_ok kc_X3_9 w_inst_X1 w_init_X1 dfX1 (by decide) (by decide) dX3_init_34 (fun ad gg43 he46 hh44 aa45 => ?_)
  try simp only [← he46 1 (by decide), ← he46 9 (by decide), ← he46 10 (by decide), ← he46 11 (by decide), ← he46 12 (by decide)] at hh12 hh16 hh30 hh39 ⊢
  have hz47 := hz_tr hz33 he46 (by decide)
  have AA48 : Agr [10, 9, 11, 12, 13] G gg43 := AA41.tr aa45 (by simp) (by simp)
  refine G_dup C dX3_init_37 rfl ?_
  refine G_callIN C (As := []) (rest := [.ref (ad 13), .int 2, .ref (ad 10)]) c_X1_init ca_X1_init kn_X3_21 rfl rfl (by decide) (Nat.le_of_ble_eq_true rfl) (by decide) dX3_init_38 (fun vv49 gg50 qq51 => ?_)
  obtain ⟨rfl, rfl⟩ := qq51
  refine G_astqp C 10 (by decide) 4 rfl ((aa45 10 (by decide)).trans hh39) 13 (by decide) hh44 rfl (vp_in_nI (n := 2) (by decide) (by decide)) dX3_init_41 (fun gg52 hh53 aa54 => ?_)
  have AA55 : Agr [10, 9, 11, 12, 13] G gg52 := AA48.tr aa54 (by simp) (by simp)
  refine G_iinc C (v := 3) (lo' := [(2, .int 3), (0, .ref (ad 9)), (1, .ref (ad 1))]) dX3_init_42 rfl (by decide) (by decide) rfl ?_
  refine G_goto C 20 dX3_init_45 (by decide) ?_
  refine G_iload_n C 2 dX3_init_20 rfl rfl ?_
  refine G_aload_n C 0 dX3_init_21 rfl rfl ?_
  refine G_get C 9 (by decide) ((aa54 9 (by decide)).trans ((aa45 9 (by decide)).trans ((aa40 9 (by decide)).trans ((aa31 9 (by decide)).trans ((aa26 9 (by decide)).trans ((aa17 9 (by decide)).trans hh12)))))) rfl inA3 1 (by decide) rfl kf_X3_11 rfl dX3_init_22 ?_
  refine G_alen C 10 (by decide) 4 hh53 rfl (v := 8) rfl dX3_init_25 ?_
  refine G_icmp_ge C 48 dX3_init_26 (by decide) (fun h => absurd h (by decide)) (fun _ => ?_)
  refine G_aload_n C 0 dX3_init_29 rfl rfl ?_
  refine G_get C 9 (by decide) ((aa54 9 (by decide)).trans ((aa45 9 (by decide)).trans ((aa40 9 (by decide)).trans ((aa31 9 (by decide)).trans ((aa26 9 (by decide)).trans ((aa17 9 (by decide)).trans hh12)))))) rfl inA3 1 (by decide) rfl kf_X3_11 rfl dX3_init_30 ?_
  refine G_iload_n C 2 dX3_init_33 rfl rfl ?_
  refine G_newE C (ci := 1) (fs := [.int 0, .int 0, .int 0, .long 0, .long 0]) rfl inA1 tyX1_ok kc_X3_9 w_inst_X1 w_init_X1 dfX1 (by decide) (by decide) dX3_init_34 (fun ad gg57 he60 hh58 aa59 => ?_)
  try simp only [← he60 1 (by decide), ← he60 9 (by decide), ← he60 10 (by decide), ← he60 11 (by decide), ← he60 12 (by decide), ← he60 13 (by decide)] at hh12 hh16 hh30 hh44 hh53 ⊢
  have hz61 := hz_tr hz47 he60 (by decide)
  have AA62 : Agr [10, 9, 11, 12, 13, 14] G gg57 := AA55.tr aa59 (by simp) (by simp)
  refine G_dup C dX3_init_37 rfl ?_
  refine G_callIN C (As := []) (rest := [.ref (ad 14), .int 3, .ref (ad 10)]) c_X1_init ca_X1_init kn_X3_21 rfl rfl (by decide) (Nat.le_of_ble_eq_true rfl) (by decide) dX3_init_38 (fun vv63 gg64 qq65 => ?_)
  obtain ⟨rfl, rfl⟩ := qq65
  refine G_astqp C 10 (by decide) 4 rfl ((aa59 10 (by decide)).trans hh53) 14 (by decide) hh58 rfl (vp_in_nI (n := 3) (by decide) (by decide)) dX3_init_41 (fun gg66 hh67 aa68 => ?_)
  have AA69 : Agr [10, 9, 11, 12, 13, 14] G gg66 := AA62.tr aa68 (by simp) (by simp)
  refine G_iinc C (v := 4) (lo' := [(2, .int 4), (0, .ref (ad 9)), (1, .ref (ad 1))]) dX3_init_42 rfl (by decide) (by decide) rfl ?_
  refine G_goto C 20 dX3_init_45 (by decide) ?_
  refine G_iload_n C 2 dX3_init_20 rfl rfl ?_
  refine G_aload_n C 0 dX3_init_21 rfl rfl ?_
  refine G_get C 9 (by decide) ((aa68 9 (by decide)).trans ((aa59 9 (by decide)).trans ((aa54 9 (by decide)).trans ((aa45 9 (by decide)).trans ((aa40 9 (by decide)).trans ((aa31 9 (by decide)).trans ((aa26 9 (by decide)).trans ((aa17 9 (by decide)).trans hh12)))))))) rfl inA3 1 (by decide) rfl kf_X3_11 rfl dX3_init_22 ?_
  refine G_alen C 10 (by decide) 4 hh67 rfl (v := 8) rfl dX3_init_25 ?_
  refine G_icmp_ge C 48 dX3_init_26 (by decide) (fun h => absurd h (by decide)) (fun _ => ?_)
  refine G_aload_n C 0 dX3_init_29 rfl rfl ?_
  refine G_get C 9 (by decide) ((aa68 9 (by decide)).trans ((aa59 9 (by decide)).trans ((aa54 9 (by decide)).trans ((aa45 9 (by decide)).trans ((aa40 9 (by decide)).trans ((aa31 9 (by decide)).trans ((aa26 9 (by decide)).trans ((aa17 9 (by decide)).trans hh12)))))))) rfl inA3 1 (by decide) rfl kf_X3_11 rfl dX3_init_30 ?_
  refine G_iload_n C 2 dX3_init_33 rfl rfl ?_
  refine G_newE C (ci := 1) (fs := [.int 0, .int 0, .int 0, .long 0, .long 0]) rfl inA1 tyX1_ok kc_X3_9 w_inst_X1 w_init_X1 dfX1 (by decide) (by decide) dX3_init_34 (fun ad gg71 he74 hh72 aa73 => ?_)
  try simp only [← he74 1 (by decide), ← he74 9 (by decide), ← he74 10 (by decide), ← he74 11 (by decide), ← he74 12 (by decide), ← he74 13 (by decide), ← he74 14 (by decide)] at hh12 hh16 hh30 hh44 hh58 hh67 ⊢
  have hz75 := hz_tr hz61 he74 (by decide)
  have AA76 : Agr [10, 9, 11, 12, 13, 14, 15] G gg71 := AA69.tr aa73 (by simp) (by simp)
  refine G_dup C dX3_init_37 rfl ?_
  refine G_callIN C (As := []) (rest := [.ref (ad 15), .int 4, .ref (ad 10)]) c_X1_init ca_X1_init kn_X3_21 rfl rfl (by decide) (Nat.le_of_ble_eq_true rfl) (by decide) dX3_init_38 (fun vv77 gg78 qq79 => ?_)
  obtain ⟨rfl, rfl⟩ := qq79
  refine G_astqp C 10 (by decide) 4 rfl ((aa73 10 (by decide)).trans hh67) 15 (by decide) hh72 rfl (vp_in_nI (n := 4) (by decide) (by decide)) dX3_init_41 (fun gg80 hh81 aa82 => ?_)
  have AA83 : Agr [10, 9, 11, 12, 13, 14, 15] G gg80 := AA76.tr aa82 (by simp) (by simp)
  refine G_iinc C (v := 5) (lo' := [(2, .int 5), (0, .ref (ad 9)), (1, .ref (ad 1))]) dX3_init_42 rfl (by decide) (by decide) rfl ?_
  refine G_goto C 20 dX3_init_45 (by decide) ?_
  refine G_iload_n C 2 dX3_init_20 rfl rfl ?_
  refine G_aload_n C 0 dX3_init_21 rfl rfl ?_
  refine G_get C 9 (by decide) ((aa82 9 (by decide)).trans ((aa73 9 (by decide)).trans ((aa68 9 (by decide)).trans ((aa59 9 (by decide)).trans ((aa54 9 (by decide)).trans ((aa45 9 (by decide)).trans ((aa40 9 (by decide)).trans ((aa31 9 (by decide)).trans ((aa26 9 (by decide)).trans ((aa17 9 (by decide)).trans hh12)))))))))) rfl inA3 1 (by decide) rfl kf_X3_11 rfl dX3_init_22 ?_
  refine G_alen C 10 (by decide) 4 hh81 rfl (v := 8) rfl dX3_init_25 ?_
  refine G_icmp_ge C 48 dX3_init_26 (by decide) (fun h => absurd h (by decide)) (fun _ => ?_)
  refine G_aload_n C 0 dX3_init_29 rfl rfl ?_
  refine G_get C 9 (by decide) ((aa82 9 (by decide)).trans ((aa73 9 (by decide)).trans ((aa68 9 (by decide)).trans ((aa59 9 (by decide)).trans ((aa54 9 (by decide)).trans ((aa45 9 (by decide)).trans ((aa40 9 (by decide)).trans ((aa31 9 (by decide)).trans ((aa26 9 (by decide)).trans ((aa17 9 (by decide)).trans hh12)))))))))) rfl inA3 1 (by decide) rfl kf_X3_11 rfl dX3_init_30 ?_
  refine G_iload_n C 2 dX3_init_33 rfl rfl ?_
  refine G_newE C (ci := 1) (fs := [.int 0, .int 0, .int 0, .long 0, .long 0]) rfl inA1 tyX1_ok kc_X3_9 w_inst_X1 w_init_X1 dfX1 (by decide) (by decide) dX3_init_34 (fun ad gg85 he88 hh86 aa87 => ?_)
  try simp only [← he88 1 (by decide), ← he88 9 (by decide), ← he88 10 (by decide), ← he88 11 (by decide), ← he88 12 (by decide), ← he88 13 (by decide), ← he88 14 (by decide), ← he88 15 (by decide)] at hh12 hh16 hh30 hh44 hh58 hh72 hh81 ⊢
  have hz89 := hz_tr hz75 he88 (by decide)
  have AA90 : Agr [10, 9, 11, 12, 13, 14, 15, 16] G gg85 := AA83.tr aa87 (by simp) (by simp)
  refine G_dup C dX3_init_37 rfl ?_
  refine G_callIN C (As := []) (rest := [.ref (ad 16), .int 5, .ref (ad 10)]) c_X1_init ca_X1_init kn_X3_21 rfl rfl (by decide) (Nat.le_of_ble_eq_true rfl) (by decide) dX3_init_38 (fun vv91 gg92 qq93 => ?_)
  obtain ⟨rfl, rfl⟩ := qq93
  refine G_astqp C 10 (by decide) 4 rfl ((aa87 10 (by decide)).trans hh81) 16 (by decide) hh86 rfl (vp_in_nI (n := 5) (by decide) (by decide)) dX3_init_41 (fun gg94 hh95 aa96 => ?_)
  have AA97 : Agr [10, 9, 11, 12, 13, 14, 15, 16] G gg94 := AA90.tr aa96 (by simp) (by simp)
  refine G_iinc C (v := 6) (lo' := [(2, .int 6), (0, .ref (ad 9)), (1, .ref (ad 1))]) dX3_init_42 rfl (by decide) (by decide) rfl ?_
  refine G_goto C 20 dX3_init_45 (by decide) ?_
  refine G_iload_n C 2 dX3_init_20 rfl rfl ?_
  refine G_aload_n C 0 dX3_init_21 rfl rfl ?_
  refine G_get C 9 (by decide) ((aa96 9 (by decide)).trans ((aa87 9 (by decide)).trans ((aa82 9 (by decide)).trans ((aa73 9 (by decide)).trans ((aa68 9 (by decide)).trans ((aa59 9 (by decide)).trans ((aa54 9 (by decide)).trans ((aa45 9 (by decide)).trans ((aa40 9 (by decide)).trans ((aa31 9 (by decide)).trans ((aa26 9 (by decide)).trans ((aa17 9 (by decide)).trans hh12)))))))))))) rfl inA3 1 (by decide) rfl kf_X3_11 rfl dX3_init_22 ?_
  refine G_alen C 10 (by decide) 4 hh95 rfl (v := 8) rfl dX3_init_25 ?_
  refine G_icmp_ge C 48 dX3_init_26 (by decide) (fun h => absurd h (by decide)) (fun _ => ?_)
  refine G_aload_n C 0 dX3_init_29 rfl rfl ?_
  refine G_get C 9 (by decide) ((aa96 9 (by decide)).trans ((aa87 9 (by decide)).trans ((aa82 9 (by decide)).trans ((aa73 9 (by decide)).trans ((aa68 9 (by decide)).trans ((aa59 9 (by decide)).trans ((aa54 9 (by decide)).trans ((aa45 9 (by decide)).trans ((aa40 9 (by decide)).trans ((aa31 9 (by decide)).trans ((aa26 9 (by decide)).trans ((aa17 9 (by decide)).trans hh12)))))))))))) rfl inA3 1 (by decide) rfl kf_X3_11 rfl dX3_init_30 ?_
  refine G_iload_n C 2 dX3_init_33 rfl rfl ?_
  refine G_newE C (ci := 1) (fs := [.int 0, .int 0, .int 0, .long 0, .long 0]) rfl inA1 tyX1_ok kc_X3_9 w_inst_X1 w_init_X1 dfX1 (by decide) (by decide) dX3_init_34 (fun ad gg99 he102 hh100 aa101 => ?_)
  try simp only [← he102 1 (by decide), ← he102 9 (by decide), ← he102 10 (by decide), ← he102 11 (by decide), ← he102 12 (by decide), ← he102 13 (by decide), ← he102 14 (by decide), ← he102 15 (by decide), ← he102 16 (by decide)] at hh12 hh16 hh30 hh44 hh58 hh72 hh86 hh95 ⊢
  have hz103 := hz_tr hz89 he102 (by decide)
  have AA104 : Agr [10, 9, 11, 12, 13, 14, 15, 16, 17] G gg99 := AA97.tr aa101 (by simp) (by simp)
  refine G_dup C dX3_init_37 rfl ?_
  refine G_callIN C (As := []) (rest := [.ref (ad 17), .int 6, .ref (ad 10)]) c_X1_init ca_X1_init kn_X3_21 rfl rfl (by decide) (Nat.le_of_ble_eq_true rfl) (by decide) dX3_init_38 (fun vv105 gg106 qq107 => ?_)
  obtain ⟨rfl, rfl⟩ := qq107
  refine G_astqp C 10 (by decide) 4 rfl ((aa101 10 (by decide)).trans hh95) 17 (by decide) hh100 rfl (vp_in_nI (n := 6) (by decide) (by decide)) dX3_init_41 (fun gg108 hh109 aa110 => ?_)
  have AA111 : Agr [10, 9, 11, 12, 13, 14, 15, 16, 17] G gg108 := AA104.tr aa110 (by simp) (by simp)
  refine G_iinc C (v := 7) (lo' := [(2, .int 7), (0, .ref (ad 9)), (1, .ref (ad 1))]) dX3_init_42 rfl (by decide) (by decide) rfl ?_
  refine G_goto C 20 dX3_init_45 (by decide) ?_
  refine G_iload_n C 2 dX3_init_20 rfl rfl ?_
  refine G_aload_n C 0 dX3_init_21 rfl rfl ?_
  refine G_get C 9 (by decide) ((aa110 9 (by decide)).trans ((aa101 9 (by decide)).trans ((aa96 9 (by decide)).trans ((aa87 9 (by decide)).trans ((aa82 9 (by decide)).trans ((aa73 9 (by decide)).trans ((aa68 9 (by decide)).trans ((aa59 9 (by decide)).trans ((aa54 9 (by decide)).trans ((aa45 9 (by decide)).trans ((aa40 9 (by decide)).trans ((aa31 9 (by decide)).trans ((aa26 9 (by decide)).trans ((aa17 9 (by decide)).trans hh12)))))))))))))) rfl inA3 1 (by decide) rfl kf_X3_11 rfl dX3_init_22 ?_
  refine G_alen C 10 (by decide) 4 hh109 rfl (v := 8) rfl dX3_init_25 ?_
  refine G_icmp_ge C 48 dX3_init_26 (by decide) (fun h => absurd h (by decide)) (fun _ => ?_)
  refine G_aload_n C 0 dX3_init_29 rfl rfl ?_
  refine G_get C 9 (by decide) ((aa110 9 (by decide)).trans ((aa101 9 (by decide)).trans ((aa96 9 (by decide)).trans ((aa87 9 (by decide)).trans ((aa82 9 (by decide)).trans ((aa73 9 (by decide)).trans ((aa68 9 (by decide)).trans ((aa59 9 (by decide)).trans ((aa54 9 (by decide)).trans ((aa45 9 (by decide)).trans ((aa40 9 (by decide)).trans ((aa31 9 (by decide)).trans ((aa26 9 (by decide)).trans ((aa17 9 (by decide)).trans hh12)))))))))))))) rfl inA3 1 (by decide) rfl kf_X3_11 rfl dX3_init_30 ?_
  refine G_iload_n C 2 dX3_init_33 rfl rfl ?_
  refine G_newE C (ci := 1) (fs := [.int 0, .int 0, .int 0, .long 0, .long 0]) rfl inA1 tyX1_ok kc_X3_9 w_inst_X1 w_init_X1 dfX1 (by decide) (by decide) dX3_init_34 (fun ad gg113 he116 hh114 aa115 => ?_)
  try simp only [← he116 1 (by decide), ← he116 9 (by decide), ← he116 10 (by decide), ← he116 11 (by decide), ← he116 12 (by decide), ← he116 13 (by decide), ← he116 14 (by decide), ← he116 15 (by decide), ← he116 16 (by decide), ← he116 17 (by decide)] at hh100 hh109 hh12 hh16 hh30 hh44 hh58 hh72 hh86 ⊢
  have hz117 := hz_tr hz103 he116 (by decide)
  have AA118 : Agr [10, 9, 11, 12, 13, 14, 15, 16, 17, 18] G gg113 := AA111.tr aa115 (by simp) (by simp)
  refine G_dup C dX3_init_37 rfl ?_
  refine G_callIN C (As := []) (rest := [.ref (ad 18), .int 7, .ref (ad 10)]) c_X1_init ca_X1_init kn_X3_21 rfl rfl (by decide) (Nat.le_of_ble_eq_true rfl) (by decide) dX3_init_38 (fun vv119 gg120 qq121 => ?_)
  obtain ⟨rfl, rfl⟩ := qq121
  refine G_astqp C 10 (by decide) 4 rfl ((aa115 10 (by decide)).trans hh109) 18 (by decide) hh114 rfl (vp_in_nI (n := 7) (by decide) (by decide)) dX3_init_41 (fun gg122 hh123 aa124 => ?_)
  have AA125 : Agr [10, 9, 11, 12, 13, 14, 15, 16, 17, 18] G gg122 := AA118.tr aa124 (by simp) (by simp)
  refine G_iinc C (v := 8) (lo' := [(2, .int 8), (0, .ref (ad 9)), (1, .ref (ad 1))]) dX3_init_42 rfl (by decide) (by decide) rfl ?_
  refine G_goto C 20 dX3_init_45 (by decide) ?_
  refine G_iload_n C 2 dX3_init_20 rfl rfl ?_
  refine G_aload_n C 0 dX3_init_21 rfl rfl ?_
  refine G_get C 9 (by decide) ((aa124 9 (by decide)).trans ((aa115 9 (by decide)).trans ((aa110 9 (by decide)).trans ((aa101 9 (by decide)).trans ((aa96 9 (by decide)).trans ((aa87 9 (by decide)).trans ((aa82 9 (by decide)).trans ((aa73 9 (by decide)).trans ((aa68 9 (by decide)).trans ((aa59 9 (by decide)).trans ((aa54 9 (by decide)).trans ((aa45 9 (by decide)).trans ((aa40 9 (by decide)).trans ((aa31 9 (by decide)).trans ((aa26 9 (by decide)).trans ((aa17 9 (by decide)).trans hh12)))))))))))))))) rfl inA3 1 (by decide) rfl kf_X3_11 rfl dX3_init_22 ?_
  refine G_alen C 10 (by decide) 4 hh123 rfl (v := 8) rfl dX3_init_25 ?_
  refine G_icmp_ge C 48 dX3_init_26 (by decide) (fun _ => ?_) (fun h => absurd h (by decide))
  refine GW.renq 10 (by decide) (t0 := 4) (r8 (ad 11) (ad 12) (ad 13) (ad 14) (ad 15) (ad 16) (ad 17) (ad 18)) hh123 (fun j hj => q8_w j hj rfl rfl rfl rfl rfl rfl rfl rfl) (fun gg127 hh128 aa129 => ?_)
  have AA130 : Agr [10, 9, 11, 12, 13, 14, 15, 16, 17, 18] G gg127 := AA125.tr aa129 (by simp) (by simp)
  exact G_nret C hr dX3_init_48 ⟨rfl, hz117, ((aa129 9 (by decide)).trans ((aa124 9 (by decide)).trans ((aa115 9 (by decide)).trans ((aa110 9 (by decide)).trans ((aa101 9 (by decide)).trans ((aa96 9 (by decide)).trans ((aa87 9 (by decide)).trans ((aa82 9 (by decide)).trans ((aa73 9 (by decide)).trans ((aa68 9 (by decide)).trans ((aa59 9 (by decide)).trans ((aa54 9 (by decide)).trans ((aa45 9 (by decide)).trans ((aa40 9 (by decide)).trans ((aa31 9 (by decide)).trans ((aa26 9 (by decide)).trans ((aa17 9 (by decide)).trans hh12))))))))))))))))), hh128, ((aa129 11 (by decide)).trans ((aa124 11 (by decide)).trans ((aa115 11 (by decide)).trans ((aa110 11 (by decide)).trans ((aa101 11 (by decide)).trans ((aa96 11 (by decide)).trans ((aa87 11 (by decide)).trans ((aa82 11 (by decide)).trans ((aa73 11 (by decide)).trans ((aa68 11 (by decide)).trans ((aa59 11 (by decide)).trans ((aa54 11 (by decide)).trans ((aa45 11 (by decide)).trans ((aa40 11 (by decide)).trans ((aa31 11 (by decide)).trans ((aa26 11 (by decide)).trans hh16)))))))))))))))), ((aa129 12 (by decide)).trans ((aa124 12 (by decide)).trans ((aa115 12 (by decide)).trans ((aa110 12 (by decide)).trans ((aa101 12 (by decide)).trans ((aa96 12 (by decide)).trans ((aa87 12 (by decide)).trans ((aa82 12 (by decide)).trans ((aa73 12 (by decide)).trans ((aa68 12 (by decide)).trans ((aa59 12 (by decide)).trans ((aa54 12 (by decide)).trans ((aa45 12 (by decide)).trans ((aa40 12 (by decide)).trans hh30)))))))))))))), ((aa129 13 (by decide)).trans ((aa124 13 (by decide)).trans ((aa115 13 (by decide)).trans ((aa110 13 (by decide)).trans ((aa101 13 (by decide)).trans ((aa96 13 (by decide)).trans ((aa87 13 (by decide)).trans ((aa82 13 (by decide)).trans ((aa73 13 (by decide)).trans ((aa68 13 (by decide)).trans ((aa59 13 (by decide)).trans ((aa54 13 (by decide)).trans hh44)))))))))))), ((aa129 14 (by decide)).trans ((aa124 14 (by decide)).trans ((aa115 14 (by decide)).trans ((aa110 14 (by decide)).trans ((aa101 14 (by decide)).trans ((aa96 14 (by decide)).trans ((aa87 14 (by decide)).trans ((aa82 14 (by decide)).trans ((aa73 14 (by decide)).trans ((aa68 14 (by decide)).trans hh58)))))))))), ((aa129 15 (by decide)).trans ((aa124 15 (by decide)).trans ((aa115 15 (by decide)).trans ((aa110 15 (by decide)).trans ((aa101 15 (by decide)).trans ((aa96 15 (by decide)).trans ((aa87 15 (by decide)).trans ((aa82 15 (by decide)).trans hh72)))))))), ((aa129 16 (by decide)).trans ((aa124 16 (by decide)).trans ((aa115 16 (by decide)).trans ((aa110 16 (by decide)).trans ((aa101 16 (by decide)).trans ((aa96 16 (by decide)).trans hh86)))))), ((aa129 17 (by decide)).trans ((aa124 17 (by decide)).trans ((aa115 17 (by decide)).trans ((aa110 17 (by decide)).trans hh100)))), ((aa129 18 (by decide)).trans ((aa124 18 (by decide)).trans hh114)), (AA130.wk (by simp))⟩

abbrev rm_X0_init : Room := ({ frames := 2, cells := 9, slots := 264, locals := 44 } : Room)
set_option maxRecDepth 100000 in
set_option maxHeartbeats 4000000 in
theorem c_X0_init {L : GL} {ad : Nat → Nat} {G : Nat → va_E}   (g28 : G 28 = .inr (0, [.null, .int 0]))  : GN L yX0_init cX0_init 3 rm_X0_init 29 ad G [.ref (ad 28), .ref (ad 1)] (fun N' ad' G' => N' = 38 ∧ (∀ i, i < 29 → ad' i = ad i) ∧ G' 28 = .inr (0, [.ref (ad' 29), .int 0]) ∧ G' 29 = .inl (L.ac 5, 4, .inr (.inr (.inr (.inr (r4 (ad' 30) (ad' 32) (ad' 34) (ad' 36)))))) ∧ G' 30 = .inr (5, [.ref (ad' 1), .ref (ad' 31), .int 0, .int 0]) ∧ G' 31 = .inl (L.ac 0, 61, .inl (fun _ => (-1))) ∧ G' 32 = .inr (5, [.ref (ad' 1), .ref (ad' 33), .int 0, .int 0]) ∧ G' 33 = .inl (L.ac 0, 61, .inl (fun _ => (-1))) ∧ G' 34 = .inr (5, [.ref (ad' 1), .ref (ad' 35), .int 0, .int 0]) ∧ G' 35 = .inl (L.ac 0, 61, .inl (fun _ => (-1))) ∧ G' 36 = .inr (5, [.ref (ad' 1), .ref (ad' 37), .int 0, .int 0]) ∧ G' 37 = .inl (L.ac 0, 61, .inl (fun _ => (-1))) ∧ Agr [28, 29, 30, 31, 32, 33, 34, 35, 36, 37] G G') := by
  refine GN.of (own := RX0) (lo := [(0, .ref (ad 28)), (1, .ref (ad 1))]) (by decide +kernel) rfl rfl rfl (Nat.le_of_ble_eq_true rfl) (fun E C hr => ?_)
  have hz0 := hz_rf (ad := ad) (N0 := 29)
  refine G_aload_n C 0 dX0_init_0 rfl rfl ?_
  refine G_objInit C km_X0_3 w_oi1 w_oi2 dX0_init_1 (by decide) (Nat.le_of_ble_eq_true rfl) ?_
  refine G_aload_n C 0 dX0_init_4 rfl rfl ?_
  refine G_iconst C (v := 4) dX0_init_5 (by decide) ?_
  refine G_newqE C 5 kc_X0_9 C.2.2.2.2.2.2.2.1.2.2.2.2.2.2.2.1.2 rfl (N1 := 4) (by decide) rfl (Nat.le_of_ble_eq_true rfl) (Nat.le_of_ble_eq_true rfl) (Nat.le_of_ble_eq_true rfl) dX0_init_6 (fun ad gg1 he4 hh2 aa3 => ?_)
  try simp only [← he4 1 (by decide), ← he4 28 (by decide)] at g28 ⊢
  have hz5 := hz_tr hz0 he4 (by decide)
  have AA6 : Agr [29] G gg1 := aa3.wk (by simp)
  refine G_putFp C hr.2.1 28 (by decide) ((aa3 28 (by decide)).trans g28) rfl inA0 tyX0_ok nmX0 0 (by decide) rfl rfl kf_X0_11 rfl rfl rfl (fs' := [.ref (ad 29), .int 0]) (Nat.le_of_ble_eq_true rfl) rfl dX0_init_9 (fun gg7 hh8 aa9 => ?_)
  have AA10 : Agr [29, 28] G gg7 := AA6.tr aa9 (by simp) (by simp)
  refine G_iconst C (v := 0) dX0_init_12 (by decide) ?_
  refine G_istore_n C 2 (lo' := [(2, .int 0), (0, .ref (ad 28)), (1, .ref (ad 1))]) dX0_init_13 rfl (by decide) rfl ?_
  refine G_iload_n C 2 dX0_init_14 rfl rfl ?_
  refine G_aload_n C 0 dX0_init_15 rfl rfl ?_
  refine G_get C 28 (by decide) hh8 rfl inA0 0 (by decide) rfl kf_X0_11 rfl dX0_init_16 ?_
  refine G_alen C 29 (by decide) 5 ((aa9 29 (by decide)).trans hh2) rfl (v := 4) rfl dX0_init_19 ?_
  refine G_icmp_ge C 43 dX0_init_20 (by decide) (fun h => absurd h (by decide)) (fun _ => ?_)
  refine G_aload_n C 0 dX0_init_23 rfl rfl ?_
  refine G_get C 28 (by decide) hh8 rfl inA0 0 (by decide) rfl kf_X0_11 rfl dX0_init_24 ?_
  refine G_iload_n C 2 dX0_init_27 rfl rfl ?_
  refine G_newE C (ci := 5) (fs := [.null, .null, .int 0, .int 0]) rfl inA5 tyX5_ok kc_X0_9 w_inst_X5 w_init_X5 dfX5 (by decide) (by decide) dX0_init_28 (fun ad gg11 he14 hh12 aa13 => ?_)
  try simp only [← he14 1 (by decide), ← he14 28 (by decide), ← he14 29 (by decide)] at hh2 hh8 ⊢
  have hz15 := hz_tr hz5 he14 (by decide)
  have AA16 : Agr [29, 28, 30] G gg11 := AA10.tr aa13 (by simp) (by simp)
  refine G_dup C dX0_init_31 rfl ?_
  refine G_aload_n C 1 dX0_init_32 rfl rfl ?_
  refine G_callN C (As := [.ref (ad 1)]) (rest := [.ref (ad 30), .int 0, .ref (ad 29)]) (c_X5_init (by decide) hh12 (by decide)) ca_X5_init km_X0_17 rfl rfl (by decide) (Nat.le_of_ble_eq_true rfl) (by decide) dX0_init_33 (fun N9 ad gg18 qq19 => ?_)
  obtain ⟨rfl, he20, hh21, hh22, aa23⟩ := qq19
  try simp only [← he20 1 (by decide), ← he20 28 (by decide), ← he20 29 (by decide), ← he20 30 (by decide)] at hh12 hh2 hh8 ⊢
  have hz24 := hz_tr hz15 he20 (by decide)
  have AA25 : Agr [29, 28, 30, 31] G gg18 := AA16.tr aa23 (by simp) (by simp)
  refine G_astqp C 29 (by decide) 5 rfl ((aa23 29 (by decide)).trans ((aa13 29 (by decide)).trans ((aa9 29 (by decide)).trans hh2))) 30 (by decide) hh21 rfl (vp_in_nI (n := 0) (by decide) (by decide)) dX0_init_36 (fun gg26 hh27 aa28 => ?_)
  have AA29 : Agr [29, 28, 30, 31] G gg26 := AA25.tr aa28 (by simp) (by simp)
  refine G_iinc C (v := 1) (lo' := [(2, .int 1), (0, .ref (ad 28)), (1, .ref (ad 1))]) dX0_init_37 rfl (by decide) (by decide) rfl ?_
  refine G_goto C 14 dX0_init_40 (by decide) ?_
  refine G_iload_n C 2 dX0_init_14 rfl rfl ?_
  refine G_aload_n C 0 dX0_init_15 rfl rfl ?_
  refine G_get C 28 (by decide) ((aa28 28 (by decide)).trans ((aa23 28 (by decide)).trans ((aa13 28 (by decide)).trans hh8))) rfl inA0 0 (by decide) rfl kf_X0_11 rfl dX0_init_16 ?_
  refine G_alen C 29 (by decide) 5 hh27 rfl (v := 4) rfl dX0_init_19 ?_
  refine G_icmp_ge C 43 dX0_init_20 (by decide) (fun h => absurd h (by decide)) (fun _ => ?_)
  refine G_aload_n C 0 dX0_init_23 rfl rfl ?_
  refine G_get C 28 (by decide) ((aa28 28 (by decide)).trans ((aa23 28 (by decide)).trans ((aa13 28 (by decide)).trans hh8))) rfl inA0 0 (by decide) rfl kf_X0_11 rfl dX0_init_24 ?_
  refine G_iload_n C 2 dX0_init_27 rfl rfl ?_
  refine G_newE C (ci := 5) (fs := [.null, .null, .int 0, .int 0]) rfl inA5 tyX5_ok kc_X0_9 w_inst_X5 w_init_X5 dfX5 (by decide) (by decide) dX0_init_28 (fun ad gg31 he34 hh32 aa33 => ?_)
  try simp only [← he34 1 (by decide), ← he34 28 (by decide), ← he34 29 (by decide), ← he34 30 (by decide), ← he34 31 (by decide)] at hh21 hh22 hh27 hh8 ⊢
  have hz35 := hz_tr hz24 he34 (by decide)
  have AA36 : Agr [29, 28, 30, 31, 32] G gg31 := AA29.tr aa33 (by simp) (by simp)
  refine G_dup C dX0_init_31 rfl ?_
  refine G_aload_n C 1 dX0_init_32 rfl rfl ?_
  refine G_callN C (As := [.ref (ad 1)]) (rest := [.ref (ad 32), .int 1, .ref (ad 29)]) (c_X5_init (by decide) hh32 (by decide)) ca_X5_init km_X0_17 rfl rfl (by decide) (Nat.le_of_ble_eq_true rfl) (by decide) dX0_init_33 (fun N9 ad gg38 qq39 => ?_)
  obtain ⟨rfl, he40, hh41, hh42, aa43⟩ := qq39
  try simp only [← he40 1 (by decide), ← he40 28 (by decide), ← he40 29 (by decide), ← he40 30 (by decide), ← he40 31 (by decide), ← he40 32 (by decide)] at hh21 hh22 hh27 hh32 hh8 ⊢
  have hz44 := hz_tr hz35 he40 (by decide)
  have AA45 : Agr [29, 28, 30, 31, 32, 33] G gg38 := AA36.tr aa43 (by simp) (by simp)
  refine G_astqp C 29 (by decide) 5 rfl ((aa43 29 (by decide)).trans ((aa33 29 (by decide)).trans hh27)) 32 (by decide) hh41 rfl (vp_in_nI (n := 1) (by decide) (by decide)) dX0_init_36 (fun gg46 hh47 aa48 => ?_)
  have AA49 : Agr [29, 28, 30, 31, 32, 33] G gg46 := AA45.tr aa48 (by simp) (by simp)
  refine G_iinc C (v := 2) (lo' := [(2, .int 2), (0, .ref (ad 28)), (1, .ref (ad 1))]) dX0_init_37 rfl (by decide) (by decide) rfl ?_
  refine G_goto C 14 dX0_init_40 (by decide) ?_
  refine G_iload_n C 2 dX0_init_14 rfl rfl ?_
  refine G_aload_n C 0 dX0_init_15 rfl rfl ?_
  refine G_get C 28 (by decide) ((aa48 28 (by decide)).trans ((aa43 28 (by decide)).trans ((aa33 28 (by decide)).trans ((aa28 28 (by decide)).trans ((aa23 28 (by decide)).trans ((aa13 28 (by decide)).trans hh8)))))) rfl inA0 0 (by decide) rfl kf_X0_11 rfl dX0_init_16 ?_
  refine G_alen C 29 (by decide) 5 hh47 rfl (v := 4) rfl dX0_init_19 ?_
  refine G_icmp_ge C 43 dX0_init_20 (by decide) (fun h => absurd h (by decide)) (fun _ => ?_)
  refine G_aload_n C 0 dX0_init_23 rfl rfl ?_
  refine G_get C 28 (by decide) ((aa48 28 (by decide)).trans ((aa43 28 (by decide)).trans ((aa33 28 (by decide)).trans ((aa28 28 (by decide)).trans ((aa23 28 (by decide)).trans ((aa13 28 (by decide)).trans hh8)))))) rfl inA0 0 (by decide) rfl kf_X0_11 rfl dX0_init_24 ?_
  refine G_iload_n C 2 dX0_init_27 rfl rfl ?_
  refine G_newE C (ci := 5) (fs := [.null, .null, .int 0, .int 0]) rfl inA5 tyX5_ok kc_X0_9 w_inst_X5 w_init_X5 dfX5 (by decide) (by decide) dX0_init_28 (fun ad gg51 he54 hh52 aa53 => ?_)
  try simp only [← he54 1 (by decide), ← he54 28 (by decide), ← he54 29 (by decide), ← he54 30 (by decide), ← he54 31 (by decide), ← he54 32 (by decide), ← he54 33 (by decide)] at hh21 hh22 hh41 hh42 hh47 hh8 ⊢
  have hz55 := hz_tr hz44 he54 (by decide)
  have AA56 : Agr [29, 28, 30, 31, 32, 33, 34] G gg51 := AA49.tr aa53 (by simp) (by simp)
  refine G_dup C dX0_init_31 rfl ?_
  refine G_aload_n C 1 dX0_init_32 rfl rfl ?_
  refine G_callN C (As := [.ref (ad 1)]) (rest := [.ref (ad 34), .int 2, .ref (ad 29)]) (c_X5_init (by decide) hh52 (by decide)) ca_X5_init km_X0_17 rfl rfl (by decide) (Nat.le_of_ble_eq_true rfl) (by decide) dX0_init_33 (fun N9 ad gg58 qq59 => ?_)
  obtain ⟨rfl, he60, hh61, hh62, aa63⟩ := qq59
  try simp only [← he60 1 (by decide), ← he60 28 (by decide), ← he60 29 (by decide), ← he60 30 (by decide), ← he60 31 (by decide), ← he60 32 (by decide), ← he60 33 (by decide), ← he60 34 (by decide)] at hh21 hh22 hh41 hh42 hh47 hh52 hh8 ⊢
  have hz64 := hz_tr hz55 he60 (by decide)
  have AA65 : Agr [29, 28, 30, 31, 32, 33, 34, 35] G gg58 := AA56.tr aa63 (by simp) (by simp)
  refine G_astqp C 29 (by decide) 5 rfl ((aa63 29 (by decide)).trans ((aa53 29 (by decide)).trans hh47)) 34 (by decide) hh61 rfl (vp_in_nI (n := 2) (by decide) (by decide)) dX0_init_36 (fun gg66 hh67 aa68 => ?_)
  have AA69 : Agr [29, 28, 30, 31, 32, 33, 34, 35] G gg66 := AA65.tr aa68 (by simp) (by simp)
  refine G_iinc C (v := 3) (lo' := [(2, .int 3), (0, .ref (ad 28)), (1, .ref (ad 1))]) dX0_init_37 rfl (by decide) (by decide) rfl ?_
  refine G_goto C 14 dX0_init_40 (by decide) ?_
  refine G_iload_n C 2 dX0_init_14 rfl rfl ?_
  refine G_aload_n C 0 dX0_init_15 rfl rfl ?_
  refine G_get C 28 (by decide) ((aa68 28 (by decide)).trans ((aa63 28 (by decide)).trans ((aa53 28 (by decide)).trans ((aa48 28 (by decide)).trans ((aa43 28 (by decide)).trans ((aa33 28 (by decide)).trans ((aa28 28 (by decide)).trans ((aa23 28 (by decide)).trans ((aa13 28 (by decide)).trans hh8))))))))) rfl inA0 0 (by decide) rfl kf_X0_11 rfl dX0_init_16 ?_
  refine G_alen C 29 (by decide) 5 hh67 rfl (v := 4) rfl dX0_init_19 ?_
  refine G_icmp_ge C 43 dX0_init_20 (by decide) (fun h => absurd h (by decide)) (fun _ => ?_)
  refine G_aload_n C 0 dX0_init_23 rfl rfl ?_
  refine G_get C 28 (by decide) ((aa68 28 (by decide)).trans ((aa63 28 (by decide)).trans ((aa53 28 (by decide)).trans ((aa48 28 (by decide)).trans ((aa43 28 (by decide)).trans ((aa33 28 (by decide)).trans ((aa28 28 (by decide)).trans ((aa23 28 (by decide)).trans ((aa13 28 (by decide)).trans hh8))))))))) rfl inA0 0 (by decide) rfl kf_X0_11 rfl dX0_init_24 ?_
  refine G_iload_n C 2 dX0_init_27 rfl rfl ?_
  refine G_newE C (ci := 5) (fs := [.null, .null, .int 0, .int 0]) rfl inA5 tyX5_ok kc_X0_9 w_inst_X5 w_init_X5 dfX5 (by decide) (by decide) dX0_init_28 (fun ad gg71 he74 hh72 aa73 => ?_)
  try simp only [← he74 1 (by decide), ← he74 28 (by decide), ← he74 29 (by decide), ← he74 30 (by decide), ← he74 31 (by decide), ← he74 32 (by decide), ← he74 33 (by decide), ← he74 34 (by decide), ← he74 35 (by decide)] at hh21 hh22 hh41 hh42 hh61 hh62 hh67 hh8 ⊢
  have hz75 := hz_tr hz64 he74 (by decide)
  have AA76 : Agr [29, 28, 30, 31, 32, 33, 34, 35, 36] G gg71 := AA69.tr aa73 (by simp) (by simp)
  refine G_dup C dX0_init_31 rfl ?_
  refine G_aload_n C 1 dX0_init_32 rfl rfl ?_
  refine G_callN C (As := [.ref (ad 1)]) (rest := [.ref (ad 36), .int 3, .ref (ad 29)]) (c_X5_init (by decide) hh72 (by decide)) ca_X5_init km_X0_17 rfl rfl (by decide) (Nat.le_of_ble_eq_true rfl) (by decide) dX0_init_33 (fun N9 ad gg78 qq79 => ?_)
  obtain ⟨rfl, he80, hh81, hh82, aa83⟩ := qq79
  try simp only [← he80 1 (by decide), ← he80 28 (by decide), ← he80 29 (by decide), ← he80 30 (by decide), ← he80 31 (by decide), ← he80 32 (by decide), ← he80 33 (by decide), ← he80 34 (by decide), ← he80 35 (by decide), ← he80 36 (by decide)] at hh21 hh22 hh41 hh42 hh61 hh62 hh67 hh72 hh8 ⊢
  have hz84 := hz_tr hz75 he80 (by decide)
  have AA85 : Agr [29, 28, 30, 31, 32, 33, 34, 35, 36, 37] G gg78 := AA76.tr aa83 (by simp) (by simp)
  refine G_astqp C 29 (by decide) 5 rfl ((aa83 29 (by decide)).trans ((aa73 29 (by decide)).trans hh67)) 36 (by decide) hh81 rfl (vp_in_nI (n := 3) (by decide) (by decide)) dX0_init_36 (fun gg86 hh87 aa88 => ?_)
  have AA89 : Agr [29, 28, 30, 31, 32, 33, 34, 35, 36, 37] G gg86 := AA85.tr aa88 (by simp) (by simp)
  refine G_iinc C (v := 4) (lo' := [(2, .int 4), (0, .ref (ad 28)), (1, .ref (ad 1))]) dX0_init_37 rfl (by decide) (by decide) rfl ?_
  refine G_goto C 14 dX0_init_40 (by decide) ?_
  refine G_iload_n C 2 dX0_init_14 rfl rfl ?_
  refine G_aload_n C 0 dX0_init_15 rfl rfl ?_
  refine G_get C 28 (by decide) ((aa88 28 (by decide)).trans ((aa83 28 (by decide)).trans ((aa73 28 (by decide)).trans ((aa68 28 (by decide)).trans ((aa63 28 (by decide)).trans ((aa53 28 (by decide)).trans ((aa48 28 (by decide)).trans ((aa43 28 (by decide)).trans ((aa33 28 (by decide)).trans ((aa28 28 (by decide)).trans ((aa23 28 (by decide)).trans ((aa13 28 (by decide)).trans hh8)))))))))))) rfl inA0 0 (by decide) rfl kf_X0_11 rfl dX0_init_16 ?_
  refine G_alen C 29 (by decide) 5 hh87 rfl (v := 4) rfl dX0_init_19 ?_
  refine G_icmp_ge C 43 dX0_init_20 (by decide) (fun _ => ?_) (fun h => absurd h (by decide))
  refine GW.renq 29 (by decide) (t0 := 5) (r4 (ad 30) (ad 32) (ad 34) (ad 36)) hh87 (r4_all rfl rfl rfl rfl) (fun gg91 hh92 aa93 => ?_)
  have AA94 : Agr [29, 28, 30, 31, 32, 33, 34, 35, 36, 37] G gg91 := AA89.tr aa93 (by simp) (by simp)
  exact G_nret C hr dX0_init_43 ⟨rfl, hz84, ((aa93 28 (by decide)).trans ((aa88 28 (by decide)).trans ((aa83 28 (by decide)).trans ((aa73 28 (by decide)).trans ((aa68 28 (by decide)).trans ((aa63 28 (by decide)).trans ((aa53 28 (by decide)).trans ((aa48 28 (by decide)).trans ((aa43 28 (by decide)).trans ((aa33 28 (by decide)).trans ((aa28 28 (by decide)).trans ((aa23 28 (by decide)).trans ((aa13 28 (by decide)).trans hh8))))))))))))), hh92, ((aa93 30 (by decide)).trans ((aa88 30 (by decide)).trans ((aa83 30 (by decide)).trans ((aa73 30 (by decide)).trans ((aa68 30 (by decide)).trans ((aa63 30 (by decide)).trans ((aa53 30 (by decide)).trans ((aa48 30 (by decide)).trans ((aa43 30 (by decide)).trans ((aa33 30 (by decide)).trans ((aa28 30 (by decide)).trans hh21))))))))))), ((aa93 31 (by decide)).trans ((aa88 31 (by decide)).trans ((aa83 31 (by decide)).trans ((aa73 31 (by decide)).trans ((aa68 31 (by decide)).trans ((aa63 31 (by decide)).trans ((aa53 31 (by decide)).trans ((aa48 31 (by decide)).trans ((aa43 31 (by decide)).trans ((aa33 31 (by decide)).trans ((aa28 31 (by decide)).trans hh22))))))))))), ((aa93 32 (by decide)).trans ((aa88 32 (by decide)).trans ((aa83 32 (by decide)).trans ((aa73 32 (by decide)).trans ((aa68 32 (by decide)).trans ((aa63 32 (by decide)).trans ((aa53 32 (by decide)).trans ((aa48 32 (by decide)).trans hh41)))))))), ((aa93 33 (by decide)).trans ((aa88 33 (by decide)).trans ((aa83 33 (by decide)).trans ((aa73 33 (by decide)).trans ((aa68 33 (by decide)).trans ((aa63 33 (by decide)).trans ((aa53 33 (by decide)).trans ((aa48 33 (by decide)).trans hh42)))))))), ((aa93 34 (by decide)).trans ((aa88 34 (by decide)).trans ((aa83 34 (by decide)).trans ((aa73 34 (by decide)).trans ((aa68 34 (by decide)).trans hh61))))), ((aa93 35 (by decide)).trans ((aa88 35 (by decide)).trans ((aa83 35 (by decide)).trans ((aa73 35 (by decide)).trans ((aa68 35 (by decide)).trans hh62))))), ((aa93 36 (by decide)).trans ((aa88 36 (by decide)).trans hh81)), ((aa93 37 (by decide)).trans ((aa88 37 (by decide)).trans hh82)), (AA94.wk (by simp))⟩

