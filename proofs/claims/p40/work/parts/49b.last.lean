abbrev rm_X4_term2 : Room := ({ frames := 2, cells := 0, slots := 0, locals := 43 } : Room)
set_option maxRecDepth 100000 in
set_option maxHeartbeats 4000000 in
theorem c_X4_term2 {L : GL} {N : Nat} {ad : Nat → Nat} {G : Nat → va_E} {r rt rp rx ry rg d pl : Nat} {nu wh m q t : Int32} (lt_r : r < N) (lt_rt : rt < N) (gr : G r = .inr (4, [.ref (ad rt), .ref (ad rp), .ref (ad rx), .ref (ad ry), .ref (ad rg)])) (gt : G rt = .inr (6, [.int nu, .int wh, .int m, .int q, .int t])) (h2 : 2 ≤ d) (h60 : d ≤ 60) (hp : pl ≤ 99) : GM L yX4_term cX4_term 4 ((some .int)) rm_X4_term2 N ad G [.ref (ad r), .int (nI d), .int (nI pl)] (fun vo G' => ∃ (t1 : Int32) (t2 : Int32) (t3 : Int32) (t4 : Int32) (t5 : Int32), vo = some (.int ((tsq d pl).2.2)) ∧ G' rt = .inr (6, [.int t1, .int t2, .int t3, .int t4, .int t5]) ∧ Agr [rt] G G') := by
  refine GM.of (own := RX4) (lo := [(0, .ref (ad r)), (1, .int (nI d)), (2, .int (nI pl))]) (by decide +kernel) rfl rfl (Nat.le_of_ble_eq_true rfl) (fun E C hr => ?_)
  have ne_0_1 : r ≠ rt := fun h => by have h9 := gr; rw [h, gt] at h9; first | cases h9 | simp at h9
  refine G_aload_n C 0 dX4_term_0 rfl rfl ?_
  refine G_get C r lt_r gr rfl inA4 0 (by decide) rfl kf_X4_12 rfl dX4_term_1 ?_
  refine G_iload_n C 1 dX4_term_4 rfl rfl ?_
  refine G_callV C (As := [.int (nI d)]) (rest := []) (c_X6_begin lt_rt gt h2 h60) ca_X6_begin km_X4_34 lt_rt gt rfl rfl rfl rfl (by decide) (Nat.le_of_ble_eq_true rfl) (by decide) dX4_term_5 (fun vv1 gg2 qq3 => ?_)
  obtain ⟨rfl, hh4, aa5⟩ := qq3
  have AA6 : Agr [rt] G gg2 := aa5.wk (by simp)
  refine G_iconst C (v := 0) dX4_term_8 (by decide) ?_
  refine G_istore_n C 3 (lo' := [(3, .int 0), (0, .ref (ad r)), (1, .int (nI d)), (2, .int (nI pl))]) dX4_term_9 rfl (by decide) rfl ?_
  have key10 : ∀ (n : Nat) (i : Nat) (G1 : Nat → va_E) (hf10_rt : G1 rt = .inr (6, [.int (nI d), .int (nI (wr d)), .int ((tsq d i).1), .int ((tsq d i).2.1), .int ((tsq d i).2.2)])) (ha10 : Agr [rt] G G1) (hn : pl - i < n) (hi : i ≤ pl), GW L E N ad G1 0 0 10 [(3, .int (nI i)), (0, .ref (ad r)), (1, .int (nI d)), (2, .int (nI pl))] [] := by
    intro n
    induction n with
    | zero =>
      intro i G1 hf10_rt ha10 hn hi
      exact absurd hn (Nat.not_lt_zero _)
    | succ n ih =>
      intro i G1 hf10_rt ha10 hn hi
      refine G_iload_n C 3 dX4_term_10 rfl rfl ?_
      refine G_iload_n C 2 dX4_term_11 rfl rfl ?_
      refine G_icmp_ge C 34 dX4_term_12 (by decide) (fun c12 => ?_) (fun c12 => ?_)
      · have c12n : pl ≤ i := (cI_le (a := pl) (b := i) rfl rfl (by omega) (by omega)).mp c12
        refine G_aload_n C 0 dX4_term_34 rfl rfl ?_
        refine G_get C r lt_r ((ha10 r (by simp [ne_0_1])).trans gr) rfl inA4 0 (by decide) rfl kf_X4_12 rfl dX4_term_35 ?_
        refine G_get C rt lt_rt hf10_rt rfl inA6 4 (by decide) rfl kf_X4_49 rfl dX4_term_38 ?_
        exact G_zret C hr rfl dX4_term_41 ⟨_, _, _, _, _, (by rw [show i = pl by omega]), hf10_rt, ha10⟩
      · have c12n : ¬ pl ≤ i := fun z => c12 ((cI_le (a := pl) (b := i) rfl rfl (by omega) (by omega)).mpr z)
        refine G_iload_n C 3 dX4_term_15 rfl rfl ?_
        refine G_bipush C (v := 99) dX4_term_16 (by decide) ?_
        refine G_icmp_ge C 34 dX4_term_18 (by decide) (fun c18 => False.elim (by have := (cI_le (a := 99) (b := i) rfl rfl (by omega) (by omega)).mp c18; omega)) (fun c18 => ?_)
        have c18n : ¬ 99 ≤ i := fun z => c18 ((cI_le (a := 99) (b := i) rfl rfl (by omega) (by omega)).mpr z)
        refine G_aload_n C 0 dX4_term_21 rfl rfl ?_
        refine G_get C r lt_r ((ha10 r (by simp [ne_0_1])).trans gr) rfl inA4 0 (by decide) rfl kf_X4_12 rfl dX4_term_22 ?_
        refine G_callV C (As := []) (rest := []) (c_X6_next lt_rt hf10_rt) ca_X6_next km_X4_53 lt_rt hf10_rt rfl rfl rfl rfl (by decide) (Nat.le_of_ble_eq_true rfl) (by decide) dX4_term_25 (fun vv7 gg8 qq9 => ?_)
        obtain ⟨rfl, hh10, aa11⟩ := qq9
        have AA12 : Agr [rt] G gg8 := ha10.tr aa11 (by simp) (by simp)
        refine G_iinc C (v := nI (i + 1)) (lo' := [(3, .int (nI (i + 1))), (0, .ref (ad r)), (1, .int (nI d)), (2, .int (nI pl))]) dX4_term_28 rfl (nI_add _ _) (by decide) rfl ?_
        refine G_goto C 10 dX4_term_31 (by decide) ?_
        exact ih (i + 1) gg8 hh10 AA12 (by omega) (by omega)
  exact key10 (pl + 1) 0 gg2 hh4 AA6 (by omega) (by omega)

abbrev rm_X8_termAt2 : Room := ({ frames := 8, cells := 2, slots := 12, locals := 123 } : Room)
set_option maxRecDepth 100000 in
set_option maxHeartbeats 4000000 in
theorem c_X8_termAt2 {L : GL} {ad : Nat → Nat} {G : Nat → va_E} {sn : Int32} {t1 t2 t3 t4 t5 : Int32} {n pl : Int32}  (g0 : G 0 = .inr (8, [.ref (ad 1), .ref (ad 8), .ref (ad 9), .ref (ad 19), .ref (ad 22), .ref (ad 24), .ref (ad 26), .ref (ad 28), .ref (ad 38), .int sn])) (g1 : G 1 = .inr (4, [.ref (ad 2), .ref (ad 3), .ref (ad 4), .ref (ad 5), .ref (ad 6)])) (g2 : G 2 = .inr (6, [.int t1, .int t2, .int t3, .int t4, .int t5])) (g3 : G 3 = .inl (L.ac 0, 61, .inl tPer))  : GX L yX8_termAt cX8_termAt 3 ((some .int)) rm_X8_termAt2 40 ad G [.ref (ad 0), .int n, .int pl] (fun vo G' => ∃ (d : Nat) (p : Nat) (t1 : Int32) (t2 : Int32) (t3 : Int32) (t4 : Int32) (t5 : Int32), vo = some (.int ((tsq d p).2.2)) ∧ (n = nI d) ∧ (2 ≤ d) ∧ (d ≤ 60) ∧ (pl = nI p) ∧ (p ≤ 99) ∧ (sqF n = 0) ∧ G' 2 = .inr (6, [.int t1, .int t2, .int t3, .int t4, .int t5]) ∧ Agr [2] G G') (fun e G2 => ((e = eIAE ∧ (pl < 0 ∨ ¬ pl ≤ 99)) ∨ (¬ pl < 0 ∧ pl ≤ 99 ∧ ((e = eIAE ∧ numF n = 0) ∨ (e = eNSE ∧ ¬ numF n = 0 ∧ ¬ sqF n = 0)))) ∧ G = G2) := by
  refine GX.of (own := RX8) (lo := [(0, .ref (ad 0)), (1, .int n), (2, .int pl)]) (by decide +kernel) rfl rfl (Nat.le_of_ble_eq_true rfl) (fun E C hr hx => ?_)
  refine G_iload_n C 2 dX8_termAt_0 rfl rfl ?_
  refine G_if_lt C 10 dX8_termAt_1 (by decide) (fun c1 => ?_) (fun c1 => ?_)
  · exact G_throw C hx th_IAE (text := "the place is not from 0 to 99") (by decide) dX8_termAt_10 dX8_termAt_13 dX8_termAt_14 dX8_termAt_16 dX8_termAt_19 (by decide) (by decide) (by decide) (by decide) (⟨Or.inl ⟨rfl, Or.inl c1⟩, rfl⟩)
  · refine G_iload_n C 2 dX8_termAt_4 rfl rfl ?_
    refine G_bipush C (v := 99) dX8_termAt_5 (by decide) ?_
    refine G_icmp_le C 20 dX8_termAt_7 (by decide) (fun c7 => ?_) (fun c7 => ?_)
    · refine G_aload_n C 0 dX8_termAt_20 rfl rfl ?_
      refine G_iload_n C 1 dX8_termAt_21 rfl rfl ?_
      refine G_callVX C (As := [.int n]) (rest := []) (c_X8_requireRoot g0 g1 g3) ca_X8_requireRoot km_X8_93 (by decide) g0 rfl rfl rfl rfl (by decide) (Nat.le_of_ble_eq_true rfl) (by decide) dX8_termAt_22 hx (by decide) (fun e G2 h => ⟨Or.inr ⟨c1, c7, h.1⟩, h.2⟩) (fun vv1 gg2 qq3 => ?_)
      obtain ⟨rfl, pp4, pp5, rfl⟩ := qq3
      obtain ⟨dd, hd2, hd60, hdn⟩ := num_nat pp4
      obtain ⟨pp, hp99, hpn⟩ := tq_neg c1 c7
      refine G_aload_n C 0 dX8_termAt_25 rfl rfl ?_
      refine G_get C 0 (by decide) g0 rfl inA8 0 (by decide) rfl kf_X8_12 rfl dX8_termAt_26 ?_
      refine G_iload_n C 1 dX8_termAt_29 rfl rfl ?_
      refine G_iload_n C 2 dX8_termAt_30 rfl rfl ?_
      refine GW.top2r (y := nI pp) (y2 := nI dd) hpn hdn ?_
      refine G_callV C (As := [.int (nI dd), .int (nI pp)]) (rest := []) (c_X4_term2 (by decide) (by decide) g1 g2 hd2 hd60 hp99) ca_X4_term km_X8_106 (by decide) g1 rfl rfl rfl rfl (by decide) (Nat.le_of_ble_eq_true rfl) (by decide) dX8_termAt_31 (fun vv6 gg7 qq8 => ?_)
      obtain ⟨t_9, t_10, t_11, t_12, t_13, rfl, hh14, aa15⟩ := qq8
      have AA16 : Agr [2] G gg7 := aa15.wk (by simp)
      refine GW.widen (c1 := 2) (s1 := 12) (by decide) (by decide) ?_
      exact G_zret C hr rfl dX8_termAt_34 ⟨_, _, _, _, _, _, _, rfl, hdn, hd2, hd60, hpn, hp99, pp5, hh14, AA16⟩
    · exact G_throw C hx th_IAE (text := "the place is not from 0 to 99") (by decide) dX8_termAt_10 dX8_termAt_13 dX8_termAt_14 dX8_termAt_16 dX8_termAt_19 (by decide) (by decide) (by decide) (by decide) (⟨Or.inl ⟨rfl, Or.inr c7⟩, rfl⟩)

theorem hs_cases : ∀ hs : List HE, hs = [] ∨ ∃ h0 e0, hs = h0 ++ [e0]
  | [] => Or.inl rfl
  | a :: t => Or.inr (match hs_cases t with
    | Or.inl h => ⟨[], a, by rw [h]; rfl⟩
    | Or.inr ⟨h0, e0, h⟩ => ⟨a :: h0, e0, by rw [h]; rfl⟩)
theorem ty_a : ∀ k, k < 127 → vp_nar .char ((nI k).toUInt32 % 65536).toInt32 = nI k := by decide +kernel
theorem ty_b : ∀ k, k < 127 → vp_nar .char (nI k) = nI k := by decide +kernel
theorem ty_1 {c : Int32} (h1 : ¬ c < 32) (h2 : c ≤ 126) : vp_nar .char (c.toUInt32 % 65536).toInt32 = c ∧ narrow .char (.int c) = .int c := by
  obtain ⟨k, hk, rfl⟩ := nI_of2 (x := c) (M := 126) (n := 126) rfl (fun z => h1 (Int32.lt_trans z (by decide))) h2
  refine ⟨ty_a k (by omega), ?_⟩
  have e : narrow .char (.int (nI k)) = .int (vp_nar .char (nI k)) := rfl
  rw [e, ty_b k (by omega)]
theorem ty_tx {tx : Nat → Int32} {len : Nat} {c : Int32} (h1 : ¬ c < 32) (h2 : c ≤ 126) (htx : ∀ j : Nat, narrow .char (.int (tx j)) = .int (tx j)) (j : Nat) : narrow .char (.int (upd tx len (vp_nar .char (c.toUInt32 % 65536).toInt32) j)) = .int (upd tx len (vp_nar .char (c.toUInt32 % 65536).toInt32) j) := by
  rw [(ty_1 h1 h2).1]
  by_cases e : j = len
  · rw [e, upd_d]; exact (ty_1 h1 h2).2
  · rw [show upd tx len c j = tx j from if_neg e]; exact htx j
theorem ty_he {tx tm : Nat → Int32} {len : Nat} {c : Int32} (h1 : ¬ c < 32) (h2 : c ≤ 126) (he : ∀ j, j < len → tx j = tm j) (j : Nat) (hj : j < len + 1) : upd tx len (vp_nar .char (c.toUInt32 % 65536).toInt32) j = upd tm len c j := by
  rw [(ty_1 h1 h2).1]
  by_cases e : j = len
  · rw [e, upd_d, upd_d]
  · rw [show upd tx len c j = tx j from if_neg e, show upd tm len c j = tm j from if_neg e]; exact he j (by omega)
theorem vfu {α : Type} {f : Nat → α} {k : Nat} {x : α} : vf_upd f k x k = x := if_pos rfl
