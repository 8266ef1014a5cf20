abbrev rm_X0_moveOldestToEnd : Room := ({ frames := 0, cells := 0, slots := 0, locals := 0 } : Room)
set_option maxRecDepth 100000 in
set_option maxHeartbeats 4000000 in
theorem c_X0_moveOldestToEnd {L : GL} {N : Nat} {ad : Nat → Nat} {G : Nat → va_E} {hi rw p0 p1 p2 p3 q0 q1 q2 q3 : Nat} {s : Int32} {vr0 vr1 vr2 vr3 : Value} {l0 l1 l2 l3 m0 m1 m2 m3 : Int32} (lt_hi : hi < N) (lt_rw : rw < N) (lt_p0 : p0 < N) (lt_p1 : p1 < N) (lt_p2 : p2 < N) (lt_p3 : p3 < N) (ghi : G hi = .inr (0, [.ref (ad rw), .int s])) (grw : G rw = .inl (L.ac 5, 4, .inr (.inr (.inr (.inr (r4 (ad p0) (ad p1) (ad p2) (ad p3))))))) (gp0 : G p0 = .inr (5, [vr0, .ref (ad q0), .int l0, .int m0])) (gp1 : G p1 = .inr (5, [vr1, .ref (ad q1), .int l1, .int m1])) (gp2 : G p2 = .inr (5, [vr2, .ref (ad q2), .int l2, .int m2])) (gp3 : G p3 = .inr (5, [vr3, .ref (ad q3), .int l3, .int m3]))  : GM L yX0_moveOldestToEnd cX0_moveOldestToEnd 3 (none) rm_X0_moveOldestToEnd N ad G [.ref (ad hi)] (fun vo G' => vo = none ∧ G' rw = .inl (L.ac 5, 4, .inr (.inr (.inr (.inr (r4 (ad p1) (ad p2) (ad p3) (ad p0)))))) ∧ Agr [rw] G G') := by
  refine GM.of (own := RX0) (lo := [(0, .ref (ad hi))]) (by decide +kernel) rfl rfl (Nat.le_of_ble_eq_true rfl) (fun E C hr => ?_)
  have ne_0_1 : hi ≠ rw := fun h => by have h9 := ghi; rw [h, grw] at h9; first | cases h9 | simp at h9
  have ne_1_2 : rw ≠ p0 := fun h => by have h9 := grw; rw [h, gp0] at h9; first | cases h9 | simp at h9
  have ne_1_3 : rw ≠ p1 := fun h => by have h9 := grw; rw [h, gp1] at h9; first | cases h9 | simp at h9
  have ne_1_4 : rw ≠ p2 := fun h => by have h9 := grw; rw [h, gp2] at h9; first | cases h9 | simp at h9
  have ne_1_5 : rw ≠ p3 := fun h => by have h9 := grw; rw [h, gp3] at h9; first | cases h9 | simp at h9
  have ne_2_1 : p0 ≠ rw := Ne.symm ne_1_2
  have ne_3_1 : p1 ≠ rw := Ne.symm ne_1_3
  have ne_4_1 : p2 ≠ rw := Ne.symm ne_1_4
  have ne_5_1 : p3 ≠ rw := Ne.symm ne_1_5
  refine G_aload_n C 0 dX0_moveOldestToEnd_0 rfl rfl ?_
  refine G_get C hi lt_hi ghi rfl inA0 0 (by decide) rfl kf_X0_11 rfl dX0_moveOldestToEnd_1 ?_
  refine G_iconst C (v := 0) dX0_moveOldestToEnd_4 (by decide) ?_
  refine G_aldq C rw lt_rw 5 rfl grw (vp_in_nI (n := 0) (by decide) (by decide)) rfl dX0_moveOldestToEnd_5 ?_
  refine G_astore_n C 1 (lo' := [(1, .ref (ad p0)), (0, .ref (ad hi))]) dX0_moveOldestToEnd_6 rfl (by decide) rfl ?_
  refine G_iconst C (v := 1) dX0_moveOldestToEnd_7 (by decide) ?_
  refine G_istore_n C 2 (lo' := [(2, .int 1), (1, .ref (ad p0)), (0, .ref (ad hi))]) dX0_moveOldestToEnd_8 rfl (by decide) rfl ?_
  refine G_iload_n C 2 dX0_moveOldestToEnd_9 rfl rfl ?_
  refine G_aload_n C 0 dX0_moveOldestToEnd_10 rfl rfl ?_
  refine G_get C hi lt_hi ghi rfl inA0 0 (by decide) rfl kf_X0_11 rfl dX0_moveOldestToEnd_11 ?_
  refine G_alen C rw lt_rw 5 grw rfl (v := 4) rfl dX0_moveOldestToEnd_14 ?_
  refine G_icmp_ge C 38 dX0_moveOldestToEnd_15 (by decide) (fun h => absurd h (by decide)) (fun _ => ?_)
  refine G_aload_n C 0 dX0_moveOldestToEnd_18 rfl rfl ?_
  refine G_get C hi lt_hi ghi rfl inA0 0 (by decide) rfl kf_X0_11 rfl dX0_moveOldestToEnd_19 ?_
  refine G_iload_n C 2 dX0_moveOldestToEnd_22 rfl rfl ?_
  refine G_iconst C (v := 1) dX0_moveOldestToEnd_23 (by decide) ?_
  refine G_isub C dX0_moveOldestToEnd_24 ?_
  refine GW.topr (y := 0) (by decide) ?_
  refine G_aload_n C 0 dX0_moveOldestToEnd_25 rfl rfl ?_
  refine G_get C hi lt_hi ghi rfl inA0 0 (by decide) rfl kf_X0_11 rfl dX0_moveOldestToEnd_26 ?_
  refine G_iload_n C 2 dX0_moveOldestToEnd_29 rfl rfl ?_
  refine G_aldq C rw lt_rw 5 rfl grw (vp_in_nI (n := 1) (by decide) (by decide)) rfl dX0_moveOldestToEnd_30 ?_
  refine G_astqp C rw lt_rw 5 rfl grw p1 lt_p1 gp1 rfl (vp_in_nI (n := 0) (by decide) (by decide)) dX0_moveOldestToEnd_31 (fun gg1 hh2 aa3 => ?_)
  have AA4 : Agr [rw] G gg1 := aa3.wk (by simp)
  refine GW.renq rw lt_rw (t0 := 5) (r4 (ad p1) (ad p1) (ad p2) (ad p3)) hh2 (r4_all rfl rfl rfl rfl) (fun gg5 hh6 aa7 => ?_)
  have AA8 : Agr [rw] G gg5 := AA4.tr aa7 (by simp) (by simp)
  refine G_iinc C (v := 2) (lo' := [(2, .int 2), (1, .ref (ad p0)), (0, .ref (ad hi))]) dX0_moveOldestToEnd_32 rfl (by decide) (by decide) rfl ?_
  refine G_goto C 9 dX0_moveOldestToEnd_35 (by decide) ?_
  refine G_iload_n C 2 dX0_moveOldestToEnd_9 rfl rfl ?_
  refine G_aload_n C 0 dX0_moveOldestToEnd_10 rfl rfl ?_
  refine G_get C hi lt_hi ((aa7 hi (by simp [ne_0_1])).trans ((aa3 hi (by simp [ne_0_1])).trans ghi)) rfl inA0 0 (by decide) rfl kf_X0_11 rfl dX0_moveOldestToEnd_11 ?_
  refine G_alen C rw lt_rw 5 hh6 rfl (v := 4) rfl dX0_moveOldestToEnd_14 ?_
  refine G_icmp_ge C 38 dX0_moveOldestToEnd_15 (by decide) (fun h => absurd h (by decide)) (fun _ => ?_)
  refine G_aload_n C 0 dX0_moveOldestToEnd_18 rfl rfl ?_
  refine G_get C hi lt_hi ((aa7 hi (by simp [ne_0_1])).trans ((aa3 hi (by simp [ne_0_1])).trans ghi)) rfl inA0 0 (by decide) rfl kf_X0_11 rfl dX0_moveOldestToEnd_19 ?_
  refine G_iload_n C 2 dX0_moveOldestToEnd_22 rfl rfl ?_
  refine G_iconst C (v := 1) dX0_moveOldestToEnd_23 (by decide) ?_
  refine G_isub C dX0_moveOldestToEnd_24 ?_
  refine GW.topr (y := 1) (by decide) ?_
  refine G_aload_n C 0 dX0_moveOldestToEnd_25 rfl rfl ?_
  refine G_get C hi lt_hi ((aa7 hi (by simp [ne_0_1])).trans ((aa3 hi (by simp [ne_0_1])).trans ghi)) rfl inA0 0 (by decide) rfl kf_X0_11 rfl dX0_moveOldestToEnd_26 ?_
  refine G_iload_n C 2 dX0_moveOldestToEnd_29 rfl rfl ?_
  refine G_aldq C rw lt_rw 5 rfl hh6 (vp_in_nI (n := 2) (by decide) (by decide)) rfl dX0_moveOldestToEnd_30 ?_
  refine G_astqp C rw lt_rw 5 rfl hh6 p2 lt_p2 ((aa7 p2 (by simp [ne_4_1])).trans ((aa3 p2 (by simp [ne_4_1])).trans gp2)) rfl (vp_in_nI (n := 1) (by decide) (by decide)) dX0_moveOldestToEnd_31 (fun gg10 hh11 aa12 => ?_)
  have AA13 : Agr [rw] G gg10 := AA8.tr aa12 (by simp) (by simp)
  refine GW.renq rw lt_rw (t0 := 5) (r4 (ad p1) (ad p2) (ad p2) (ad p3)) hh11 (r4_all rfl rfl rfl rfl) (fun gg14 hh15 aa16 => ?_)
  have AA17 : Agr [rw] G gg14 := AA13.tr aa16 (by simp) (by simp)
  refine G_iinc C (v := 3) (lo' := [(2, .int 3), (1, .ref (ad p0)), (0, .ref (ad hi))]) dX0_moveOldestToEnd_32 rfl (by decide) (by decide) rfl ?_
  refine G_goto C 9 dX0_moveOldestToEnd_35 (by decide) ?_
  refine G_iload_n C 2 dX0_moveOldestToEnd_9 rfl rfl ?_
  refine G_aload_n C 0 dX0_moveOldestToEnd_10 rfl rfl ?_
  refine G_get C hi lt_hi ((aa16 hi (by simp [ne_0_1])).trans ((aa12 hi (by simp [ne_0_1])).trans ((aa7 hi (by simp [ne_0_1])).trans ((aa3 hi (by simp [ne_0_1])).trans ghi)))) rfl inA0 0 (by decide) rfl kf_X0_11 rfl dX0_moveOldestToEnd_11 ?_
  refine G_alen C rw lt_rw 5 hh15 rfl (v := 4) rfl dX0_moveOldestToEnd_14 ?_
  refine G_icmp_ge C 38 dX0_moveOldestToEnd_15 (by decide) (fun h => absurd h (by decide)) (fun _ => ?_)
  refine G_aload_n C 0 dX0_moveOldestToEnd_18 rfl rfl ?_
  refine G_get C hi lt_hi ((aa16 hi (by simp [ne_0_1])).trans ((aa12 hi (by simp [ne_0_1])).trans ((aa7 hi (by simp [ne_0_1])).trans ((aa3 hi (by simp [ne_0_1])).trans ghi)))) rfl inA0 0 (by decide) rfl kf_X0_11 rfl dX0_moveOldestToEnd_19 ?_
  refine G_iload_n C 2 dX0_moveOldestToEnd_22 rfl rfl ?_
  refine G_iconst C (v := 1) dX0_moveOldestToEnd_23 (by decide) ?_
  refine G_isub C dX0_moveOldestToEnd_24 ?_
  refine GW.topr (y := 2) (by decide) ?_
  refine G_aload_n C 0 dX0_moveOldestToEnd_25 rfl rfl ?_
  refine G_get C hi lt_hi ((aa16 hi (by simp [ne_0_1])).trans ((aa12 hi (by simp [ne_0_1])).trans ((aa7 hi (by simp [ne_0_1])).trans ((aa3 hi (by simp [ne_0_1])).trans ghi)))) rfl inA0 0 (by decide) rfl kf_X0_11 rfl dX0_moveOldestToEnd_26 ?_
  refine G_iload_n C 2 dX0_moveOldestToEnd_29 rfl rfl ?_
  refine G_aldq C rw lt_rw 5 rfl hh15 (vp_in_nI (n := 3) (by decide) (by decide)) rfl dX0_moveOldestToEnd_30 ?_
  refine G_astqp C rw lt_rw 5 rfl hh15 p3 lt_p3 ((aa16 p3 (by simp [ne_5_1])).trans ((aa12 p3 (by simp [ne_5_1])).trans ((aa7 p3 (by simp [ne_5_1])).trans ((aa3 p3 (by simp [ne_5_1])).trans gp3)))) rfl (vp_in_nI (n := 2) (by decide) (by decide)) dX0_moveOldestToEnd_31 (fun gg19 hh20 aa21 => ?_)
  have AA22 : Agr [rw] G gg19 := AA17.tr aa21 (by simp) (by simp)
  refine GW.renq rw lt_rw (t0 := 5) (r4 (ad p1) (ad p2) (ad p3) (ad p3)) hh20 (r4_all rfl rfl rfl rfl) (fun gg23 hh24 aa25 => ?_)
  have AA26 : Agr [rw] G gg23 := AA22.tr aa25 (by simp) (by simp)
  refine G_iinc C (v := 4) (lo' := [(2, .int 4), (1, .ref (ad p0)), (0, .ref (ad hi))]) dX0_moveOldestToEnd_32 rfl (by decide) (by decide) rfl ?_
  refine G_goto C 9 dX0_moveOldestToEnd_35 (by decide) ?_
  refine G_iload_n C 2 dX0_moveOldestToEnd_9 rfl rfl ?_
  refine G_aload_n C 0 dX0_moveOldestToEnd_10 rfl rfl ?_
  refine G_get C hi lt_hi ((aa25 hi (by simp [ne_0_1])).trans ((aa21 hi (by simp [ne_0_1])).trans ((aa16 hi (by simp [ne_0_1])).trans ((aa12 hi (by simp [ne_0_1])).trans ((aa7 hi (by simp [ne_0_1])).trans ((aa3 hi (by simp [ne_0_1])).trans ghi)))))) rfl inA0 0 (by decide) rfl kf_X0_11 rfl dX0_moveOldestToEnd_11 ?_
  refine G_alen C rw lt_rw 5 hh24 rfl (v := 4) rfl dX0_moveOldestToEnd_14 ?_
  refine G_icmp_ge C 38 dX0_moveOldestToEnd_15 (by decide) (fun _ => ?_) (fun h => absurd h (by decide))
  refine G_aload_n C 0 dX0_moveOldestToEnd_38 rfl rfl ?_
  refine G_get C hi lt_hi ((aa25 hi (by simp [ne_0_1])).trans ((aa21 hi (by simp [ne_0_1])).trans ((aa16 hi (by simp [ne_0_1])).trans ((aa12 hi (by simp [ne_0_1])).trans ((aa7 hi (by simp [ne_0_1])).trans ((aa3 hi (by simp [ne_0_1])).trans ghi)))))) rfl inA0 0 (by decide) rfl kf_X0_11 rfl dX0_moveOldestToEnd_39 ?_
  refine G_aload_n C 0 dX0_moveOldestToEnd_42 rfl rfl ?_
  refine G_get C hi lt_hi ((aa25 hi (by simp [ne_0_1])).trans ((aa21 hi (by simp [ne_0_1])).trans ((aa16 hi (by simp [ne_0_1])).trans ((aa12 hi (by simp [ne_0_1])).trans ((aa7 hi (by simp [ne_0_1])).trans ((aa3 hi (by simp [ne_0_1])).trans ghi)))))) rfl inA0 0 (by decide) rfl kf_X0_11 rfl dX0_moveOldestToEnd_43 ?_
  refine G_alen C rw lt_rw 5 hh24 rfl (v := 4) rfl dX0_moveOldestToEnd_46 ?_
  refine G_iconst C (v := 1) dX0_moveOldestToEnd_47 (by decide) ?_
  refine G_isub C dX0_moveOldestToEnd_48 ?_
  refine GW.topr (y := 3) (by decide) ?_
  refine G_aload_n C 1 dX0_moveOldestToEnd_49 rfl rfl ?_
  refine G_astqp C rw lt_rw 5 rfl hh24 p0 lt_p0 ((aa25 p0 (by simp [ne_2_1])).trans ((aa21 p0 (by simp [ne_2_1])).trans ((aa16 p0 (by simp [ne_2_1])).trans ((aa12 p0 (by simp [ne_2_1])).trans ((aa7 p0 (by simp [ne_2_1])).trans ((aa3 p0 (by simp [ne_2_1])).trans gp0)))))) rfl (vp_in_nI (n := 3) (by decide) (by decide)) dX0_moveOldestToEnd_50 (fun gg28 hh29 aa30 => ?_)
  have AA31 : Agr [rw] G gg28 := AA26.tr aa30 (by simp) (by simp)
  refine GW.renq rw lt_rw (t0 := 5) (r4 (ad p1) (ad p2) (ad p3) (ad p0)) hh29 (r4_all rfl rfl rfl rfl) (fun gg32 hh33 aa34 => ?_)
  have AA35 : Agr [rw] G gg32 := AA31.tr aa34 (by simp) (by simp)
  exact G_vret C hr dX0_moveOldestToEnd_51 ⟨rfl, hh33, AA35⟩

abbrev rm_X0_record0 : Room := ({ frames := 2, cells := 0, slots := 0, locals := 120 } : Room)
set_option maxRecDepth 100000 in
set_option maxHeartbeats 4000000 in
theorem c_X0_record0 {L : GL} {N : Nat} {ad : Nat → Nat} {G : Nat → va_E} {hi rw p0 p1 p2 p3 q0 k ha : Nat} {vrk : Value} {lk mk : Int32} {fk : Nat → Int32} {vr0 : Value} {l0 m0 : Int32} {f0 : Nat → Int32} (lt_hi : hi < N) (lt_rw : rw < N) (lt_p0 : p0 < N) (lt_q0 : q0 < N) (lt_k : k < N) (lt_ha : ha < N) (ghi : G hi = .inr (0, [.ref (ad rw), .int 0])) (grw : G rw = .inl (L.ac 5, 4, .inr (.inr (.inr (.inr (r4 (ad p0) (ad p1) (ad p2) (ad p3))))))) (gp0 : G p0 = .inr (5, [vr0, .ref (ad q0), .int l0, .int m0])) (gq0 : G q0 = .inl (L.ac 0, 61, .inl f0)) (gk : G k = .inr (5, [vrk, .ref (ad ha), .int lk, .int mk])) (gha : G ha = .inl (L.ac 0, 61, .inl fk)) (hpk : p0 ≠ k) (hqk : q0 ≠ ha) : GM L yX0_record cX0_record 2 (none) rm_X0_record0 N ad G [.ref (ad hi), .ref (ad k)] (fun vo G' => vo = none ∧ G' hi = .inr (0, [.ref (ad rw), .int 1]) ∧ G' p0 = .inr (5, [vr0, .ref (ad q0), .int lk, .int mk]) ∧ G' q0 = .inl (L.ac 0, 61, .inl fk) ∧ Agr [hi, p0, q0] G G') := by
  refine GM.of (own := RX0) (lo := [(0, .ref (ad hi)), (1, .ref (ad k))]) (by decide +kernel) rfl rfl (Nat.le_of_ble_eq_true rfl) (fun E C hr => ?_)
  have ne_0_1 : hi ≠ rw := fun h => by have h9 := ghi; rw [h, grw] at h9; first | cases h9 | simp at h9
  have ne_0_2 : hi ≠ p0 := fun h => by have h9 := ghi; rw [h, gp0] at h9; first | cases h9 | simp at h9
  have ne_0_3 : hi ≠ q0 := fun h => by have h9 := ghi; rw [h, gq0] at h9; first | cases h9 | simp at h9
  have ne_0_4 : hi ≠ k := fun h => by have h9 := ghi; rw [h, gk] at h9; first | cases h9 | simp at h9
  have ne_0_5 : hi ≠ ha := fun h => by have h9 := ghi; rw [h, gha] at h9; first | cases h9 | simp at h9
  have ne_1_2 : rw ≠ p0 := fun h => by have h9 := grw; rw [h, gp0] at h9; first | cases h9 | simp at h9
  have ne_1_3 : rw ≠ q0 := fun h => by have h9 := grw; rw [h, gq0] at h9; first | cases h9 | simp at h9
  have ne_2_5 : p0 ≠ ha := fun h => by have h9 := gp0; rw [h, gha] at h9; first | cases h9 | simp at h9
  have ne_3_4 : q0 ≠ k := fun h => by have h9 := gq0; rw [h, gk] at h9; first | cases h9 | simp at h9
  have ne_1_0 : rw ≠ hi := Ne.symm ne_0_1
  have ne_2_0 : p0 ≠ hi := Ne.symm ne_0_2
  have ne_3_0 : q0 ≠ hi := Ne.symm ne_0_3
  have ne_4_0 : k ≠ hi := Ne.symm ne_0_4
  have ne_4_3 : k ≠ q0 := Ne.symm ne_3_4
  have ne_5_0 : ha ≠ hi := Ne.symm ne_0_5
  have ne_5_2 : ha ≠ p0 := Ne.symm ne_2_5
  refine G_aload_n C 0 dX0_record_0 rfl rfl ?_
  refine G_get C hi lt_hi ghi rfl inA0 1 (by decide) rfl kf_X0_20 rfl dX0_record_1 ?_
  refine G_aload_n C 0 dX0_record_4 rfl rfl ?_
  refine G_get C hi lt_hi ghi rfl inA0 0 (by decide) rfl kf_X0_11 rfl dX0_record_5 ?_
  refine G_alen C rw lt_rw 5 grw rfl (v := 4) rfl dX0_record_8 ?_
  refine G_icmp_ge C 25 dX0_record_9 (by decide) (fun h => absurd h (by decide)) (fun _ => ?_)
  refine G_aload_n C 0 dX0_record_12 rfl rfl ?_
  refine G_dup C dX0_record_13 rfl ?_
  refine G_get C hi lt_hi ghi rfl inA0 1 (by decide) rfl kf_X0_20 rfl dX0_record_14 ?_
  refine G_iconst C (v := 1) dX0_record_17 (by decide) ?_
  refine G_iadd C dX0_record_18 ?_
  refine GW.topr (y := 1) (by decide) ?_
  refine G_putp C hi lt_hi ghi rfl inA0 tyX0_ok nmX0 1 (by decide) rfl kf_X0_20 rfl rfl rfl (fs' := [.ref (ad rw), .int 1]) (Nat.le_of_ble_eq_true rfl) rfl dX0_record_19 (fun gg1 hh2 aa3 => ?_)
  have AA4 : Agr [hi] G gg1 := aa3.wk (by simp)
  refine G_goto C 29 dX0_record_22 (by decide) ?_
  refine G_aload_n C 0 dX0_record_29 rfl rfl ?_
  refine G_get C hi lt_hi hh2 rfl inA0 0 (by decide) rfl kf_X0_11 rfl dX0_record_30 ?_
  refine G_aload_n C 0 dX0_record_33 rfl rfl ?_
  refine G_get C hi lt_hi hh2 rfl inA0 1 (by decide) rfl kf_X0_20 rfl dX0_record_34 ?_
  refine G_iconst C (v := 1) dX0_record_37 (by decide) ?_
  refine G_isub C dX0_record_38 ?_
  refine GW.topr (y := 0) (by decide) ?_
  refine G_aldq C rw lt_rw 5 rfl ((aa3 rw (by simp [ne_1_0])).trans grw) (vp_in_nI (n := 0) (by decide) (by decide)) rfl dX0_record_39 ?_
  refine G_aload_n C 1 dX0_record_40 rfl rfl ?_
  refine G_callV C (As := [.ref (ad k)]) (rest := []) (c_X5_copyFrom lt_p0 lt_q0 lt_k lt_ha ((aa3 p0 (by simp [ne_2_0])).trans gp0) ((aa3 q0 (by simp [ne_3_0])).trans gq0) ((aa3 k (by simp [ne_4_0])).trans gk) ((aa3 ha (by simp [ne_5_0])).trans gha) hpk hqk) ca_X5_copyFrom km_X0_27 lt_p0 ((aa3 p0 (by simp [ne_2_0])).trans gp0) rfl rfl rfl rfl (by decide) (Nat.le_of_ble_eq_true rfl) (by decide) dX0_record_41 (fun vv5 gg6 qq7 => ?_)
  obtain ⟨rfl, hh8, hh9, aa10⟩ := qq7
  have AA11 : Agr [hi, p0, q0] G gg6 := AA4.tr aa10 (by simp) (by simp)
  exact G_vret C hr dX0_record_44 ⟨rfl, ((aa10 hi (by simp [ne_0_2, ne_0_3])).trans hh2), hh8, hh9, AA11⟩

abbrev rm_X0_record1 : Room := ({ frames := 2, cells := 0, slots := 0, locals := 120 } : Room)
set_option maxRecDepth 100000 in
set_option maxHeartbeats 4000000 in
theorem c_X0_record1 {L : GL} {N : Nat} {ad : Nat → Nat} {G : Nat → va_E} {hi rw p0 p1 p2 p3 q1 k ha : Nat} {vrk : Value} {lk mk : Int32} {fk : Nat → Int32} {vr1 : Value} {l1 m1 : Int32} {f1 : Nat → Int32} (lt_hi : hi < N) (lt_rw : rw < N) (lt_p1 : p1 < N) (lt_q1 : q1 < N) (lt_k : k < N) (lt_ha : ha < N) (ghi : G hi = .inr (0, [.ref (ad rw), .int 1])) (grw : G rw = .inl (L.ac 5, 4, .inr (.inr (.inr (.inr (r4 (ad p0) (ad p1) (ad p2) (ad p3))))))) (gp1 : G p1 = .inr (5, [vr1, .ref (ad q1), .int l1, .int m1])) (gq1 : G q1 = .inl (L.ac 0, 61, .inl f1)) (gk : G k = .inr (5, [vrk, .ref (ad ha), .int lk, .int mk])) (gha : G ha = .inl (L.ac 0, 61, .inl fk)) (hpk : p1 ≠ k) (hqk : q1 ≠ ha) : GM L yX0_record cX0_record 2 (none) rm_X0_record1 N ad G [.ref (ad hi), .ref (ad k)] (fun vo G' => vo = none ∧ G' hi = .inr (0, [.ref (ad rw), .int 2]) ∧ G' p1 = .inr (5, [vr1, .ref (ad q1), .int lk, .int mk]) ∧ G' q1 = .inl (L.ac 0, 61, .inl fk) ∧ Agr [hi, p1, q1] G G') := by
  refine GM.of (own := RX0) (lo := [(0, .ref (ad hi)), (1, .ref (ad k))]) (by decide +kernel) rfl rfl (Nat.le_of_ble_eq_true rfl) (fun E C hr => ?_)
  have ne_0_1 : hi ≠ rw := fun h => by have h9 := ghi; rw [h, grw] at h9; first | cases h9 | simp at h9
  have ne_0_2 : hi ≠ p1 := fun h => by have h9 := ghi; rw [h, gp1] at h9; first | cases h9 | simp at h9
  have ne_0_3 : hi ≠ q1 := fun h => by have h9 := ghi; rw [h, gq1] at h9; first | cases h9 | simp at h9
  have ne_0_4 : hi ≠ k := fun h => by have h9 := ghi; rw [h, gk] at h9; first | cases h9 | simp at h9
  have ne_0_5 : hi ≠ ha := fun h => by have h9 := ghi; rw [h, gha] at h9; first | cases h9 | simp at h9
  have ne_1_2 : rw ≠ p1 := fun h => by have h9 := grw; rw [h, gp1] at h9; first | cases h9 | simp at h9
  have ne_1_3 : rw ≠ q1 := fun h => by have h9 := grw; rw [h, gq1] at h9; first | cases h9 | simp at h9
  have ne_2_5 : p1 ≠ ha := fun h => by have h9 := gp1; rw [h, gha] at h9; first | cases h9 | simp at h9
  have ne_3_4 : q1 ≠ k := fun h => by have h9 := gq1; rw [h, gk] at h9; first | cases h9 | simp at h9
  have ne_1_0 : rw ≠ hi := Ne.symm ne_0_1
  have ne_2_0 : p1 ≠ hi := Ne.symm ne_0_2
  have ne_3_0 : q1 ≠ hi := Ne.symm ne_0_3
  have ne_4_0 : k ≠ hi := Ne.symm ne_0_4
  have ne_4_3 : k ≠ q1 := Ne.symm ne_3_4
  have ne_5_0 : ha ≠ hi := Ne.symm ne_0_5
  have ne_5_2 : ha ≠ p1 := Ne.symm ne_2_5
  refine G_aload_n C 0 dX0_record_0 rfl rfl ?_
  refine G_get C hi lt_hi ghi rfl inA0 1 (by decide) rfl kf_X0_20 rfl dX0_record_1 ?_
  refine G_aload_n C 0 dX0_record_4 rfl rfl ?_
  refine G_get C hi lt_hi ghi rfl inA0 0 (by decide) rfl kf_X0_11 rfl dX0_record_5 ?_
  refine G_alen C rw lt_rw 5 grw rfl (v := 4) rfl dX0_record_8 ?_
  refine G_icmp_ge C 25 dX0_record_9 (by decide) (fun h => absurd h (by decide)) (fun _ => ?_)
  refine G_aload_n C 0 dX0_record_12 rfl rfl ?_
  refine G_dup C dX0_record_13 rfl ?_
  refine G_get C hi lt_hi ghi rfl inA0 1 (by decide) rfl kf_X0_20 rfl dX0_record_14 ?_
  refine G_iconst C (v := 1) dX0_record_17 (by decide) ?_
  refine G_iadd C dX0_record_18 ?_
  refine GW.topr (y := 2) (by decide) ?_
  refine G_putp C hi lt_hi ghi rfl inA0 tyX0_ok nmX0 1 (by decide) rfl kf_X0_20 rfl rfl rfl (fs' := [.ref (ad rw), .int 2]) (Nat.le_of_ble_eq_true rfl) rfl dX0_record_19 (fun gg1 hh2 aa3 => ?_)
  have AA4 : Agr [hi] G gg1 := aa3.wk (by simp)
  refine G_goto C 29 dX0_record_22 (by decide) ?_
  refine G_aload_n C 0 dX0_record_29 rfl rfl ?_
  refine G_get C hi lt_hi hh2 rfl inA0 0 (by decide) rfl kf_X0_11 rfl dX0_record_30 ?_
  refine G_aload_n C 0 dX0_record_33 rfl rfl ?_
  refine G_get C hi lt_hi hh2 rfl inA0 1 (by decide) rfl kf_X0_20 rfl dX0_record_34 ?_
  refine G_iconst C (v := 1) dX0_record_37 (by decide) ?_
  refine G_isub C dX0_record_38 ?_
  refine GW.topr (y := 1) (by decide) ?_
  refine G_aldq C rw lt_rw 5 rfl ((aa3 rw (by simp [ne_1_0])).trans grw) (vp_in_nI (n := 1) (by decide) (by decide)) rfl dX0_record_39 ?_
  refine G_aload_n C 1 dX0_record_40 rfl rfl ?_
  refine G_callV C (As := [.ref (ad k)]) (rest := []) (c_X5_copyFrom lt_p1 lt_q1 lt_k lt_ha ((aa3 p1 (by simp [ne_2_0])).trans gp1) ((aa3 q1 (by simp [ne_3_0])).trans gq1) ((aa3 k (by simp [ne_4_0])).trans gk) ((aa3 ha (by simp [ne_5_0])).trans gha) hpk hqk) ca_X5_copyFrom km_X0_27 lt_p1 ((aa3 p1 (by simp [ne_2_0])).trans gp1) rfl rfl rfl rfl (by decide) (Nat.le_of_ble_eq_true rfl) (by decide) dX0_record_41 (fun vv5 gg6 qq7 => ?_)
  obtain ⟨rfl, hh8, hh9, aa10⟩ := qq7
  have AA11 : Agr [hi, p1, q1] G gg6 := AA4.tr aa10 (by simp) (by simp)
  exact G_vret C hr dX0_record_44 ⟨rfl, ((aa10 hi (by simp [ne_0_2, ne_0_3])).trans hh2), hh8, hh9, AA11⟩

abbrev rm_X0_record2 : Room := ({ frames := 2, cells := 0, slots := 0, locals := 120 } : Room)
set_option maxRecDepth 100000 in
set_option maxHeartbeats 4000000 in
theorem c_X0_record2 {L : GL} {N : Nat} {ad : Nat → Nat} {G : Nat → va_E} {hi rw p0 p1 p2 p3 q2 k ha : Nat} {vrk : Value} {lk mk : Int32} {fk : Nat → Int32} {vr2 : Value} {l2 m2 : Int32} {f2 : Nat → Int32} (lt_hi : hi < N) (lt_rw : rw < N) (lt_p2 : p2 < N) (lt_q2 : q2 < N) (lt_k : k < N) (lt_ha : ha < N) (ghi : G hi = .inr (0, [.ref (ad rw), .int 2])) (grw : G rw = .inl (L.ac 5, 4, .inr (.inr (.inr (.inr (r4 (ad p0) (ad p1) (ad p2) (ad p3))))))) (gp2 : G p2 = .inr (5, [vr2, .ref (ad q2), .int l2, .int m2])) (gq2 : G q2 = .inl (L.ac 0, 61, .inl f2)) (gk : G k = .inr (5, [vrk, .ref (ad ha), .int lk, .int mk])) (gha : G ha = .inl (L.ac 0, 61, .inl fk)) (hpk : p2 ≠ k) (hqk : q2 ≠ ha) : GM L yX0_record cX0_record 2 (none) rm_X0_record2 N ad G [.ref (ad hi), .ref (ad k)] (fun vo G' => vo = none ∧ G' hi = .inr (0, [.ref (ad rw), .int 3]) ∧ G' p2 = .inr (5, [vr2, .ref (ad q2), .int lk, .int mk]) ∧ G' q2 = .inl (L.ac 0, 61, .inl fk) ∧ Agr [hi, p2, q2] G G') := by
  refine GM.of (own := RX0) (lo := [(0, .ref (ad hi)), (1, .ref (ad k))]) (by decide +kernel) rfl rfl (Nat.le_of_ble_eq_true rfl) (fun E C hr => ?_)
  have ne_0_1 : hi ≠ rw := fun h => by have h9 := ghi; rw [h, grw] at h9; first | cases h9 | simp at h9
  have ne_0_2 : hi ≠ p2 := fun h => by have h9 := ghi; rw [h, gp2] at h9; first | cases h9 | simp at h9
  have ne_0_3 : hi ≠ q2 := fun h => by have h9 := ghi; rw [h, gq2] at h9; first | cases h9 | simp at h9
  have ne_0_4 : hi ≠ k := fun h => by have h9 := ghi; rw [h, gk] at h9; first | cases h9 | simp at h9
  have ne_0_5 : hi ≠ ha := fun h => by have h9 := ghi; rw [h, gha] at h9; first | cases h9 | simp at h9
  have ne_1_2 : rw ≠ p2 := fun h => by have h9 := grw; rw [h, gp2] at h9; first | cases h9 | simp at h9
  have ne_1_3 : rw ≠ q2 := fun h => by have h9 := grw; rw [h, gq2] at h9; first | cases h9 | simp at h9
  have ne_2_5 : p2 ≠ ha := fun h => by have h9 := gp2; rw [h, gha] at h9; first | cases h9 | simp at h9
  have ne_3_4 : q2 ≠ k := fun h => by have h9 := gq2; rw [h, gk] at h9; first | cases h9 | simp at h9
  have ne_1_0 : rw ≠ hi := Ne.symm ne_0_1
  have ne_2_0 : p2 ≠ hi := Ne.symm ne_0_2
  have ne_3_0 : q2 ≠ hi := Ne.symm ne_0_3
  have ne_4_0 : k ≠ hi := Ne.symm ne_0_4
  have ne_4_3 : k ≠ q2 := Ne.symm ne_3_4
  have ne_5_0 : ha ≠ hi := Ne.symm ne_0_5
  have ne_5_2 : ha ≠ p2 := Ne.symm ne_2_5
  refine G_aload_n C 0 dX0_record_0 rfl rfl ?_
  refine G_get C hi lt_hi ghi rfl inA0 1 (by decide) rfl kf_X0_20 rfl dX0_record_1 ?_
  refine G_aload_n C 0 dX0_record_4 rfl rfl ?_
  refine G_get C hi lt_hi ghi rfl inA0 0 (by decide) rfl kf_X0_11 rfl dX0_record_5 ?_
  refine G_alen C rw lt_rw 5 grw rfl (v := 4) rfl dX0_record_8 ?_
  refine G_icmp_ge C 25 dX0_record_9 (by decide) (fun h => absurd h (by decide)) (fun _ => ?_)
  refine G_aload_n C 0 dX0_record_12 rfl rfl ?_
  refine G_dup C dX0_record_13 rfl ?_
  refine G_get C hi lt_hi ghi rfl inA0 1 (by decide) rfl kf_X0_20 rfl dX0_record_14 ?_
  refine G_iconst C (v := 1) dX0_record_17 (by decide) ?_
  refine G_iadd C dX0_record_18 ?_
  refine GW.topr (y := 3) (by decide) ?_
  refine G_putp C hi lt_hi ghi rfl inA0 tyX0_ok nmX0 1 (by decide) rfl kf_X0_20 rfl rfl rfl (fs' := [.ref (ad rw), .int 3]) (Nat.le_of_ble_eq_true rfl) rfl dX0_record_19 (fun gg1 hh2 aa3 => ?_)
  have AA4 : Agr [hi] G gg1 := aa3.wk (by simp)
  refine G_goto C 29 dX0_record_22 (by decide) ?_
  refine G_aload_n C 0 dX0_record_29 rfl rfl ?_
  refine G_get C hi lt_hi hh2 rfl inA0 0 (by decide) rfl kf_X0_11 rfl dX0_record_30 ?_
  refine G_aload_n C 0 dX0_record_33 rfl rfl ?_
  refine G_get C hi lt_hi hh2 rfl inA0 1 (by decide) rfl kf_X0_20 rfl dX0_record_34 ?_
  refine G_iconst C (v := 1) dX0_record_37 (by decide) ?_
  refine G_isub C dX0_record_38 ?_
  refine GW.topr (y := 2) (by decide) ?_
  refine G_aldq C rw lt_rw 5 rfl ((aa3 rw (by simp [ne_1_0])).trans grw) (vp_in_nI (n := 2) (by decide) (by decide)) rfl dX0_record_39 ?_
  refine G_aload_n C 1 dX0_record_40 rfl rfl ?_
  refine G_callV C (As := [.ref (ad k)]) (rest := []) (c_X5_copyFrom lt_p2 lt_q2 lt_k lt_ha ((aa3 p2 (by simp [ne_2_0])).trans gp2) ((aa3 q2 (by simp [ne_3_0])).trans gq2) ((aa3 k (by simp [ne_4_0])).trans gk) ((aa3 ha (by simp [ne_5_0])).trans gha) hpk hqk) ca_X5_copyFrom km_X0_27 lt_p2 ((aa3 p2 (by simp [ne_2_0])).trans gp2) rfl rfl rfl rfl (by decide) (Nat.le_of_ble_eq_true rfl) (by decide) dX0_record_41 (fun vv5 gg6 qq7 => ?_)
  obtain ⟨rfl, hh8, hh9, aa10⟩ := qq7
  have AA11 : Agr [hi, p2, q2] G gg6 := AA4.tr aa10 (by simp) (by simp)
  exact G_vret C hr dX0_record_44 ⟨rfl, ((aa10 hi (by simp [ne_0_2, ne_0_3])).trans hh2), hh8, hh9, AA11⟩

abbrev rm_X0_record3 : Room := ({ frames := 2, cells := 0, slots := 0, locals := 120 } : Room)
set_option maxRecDepth 100000 in
set_option maxHeartbeats 4000000 in
theorem c_X0_record3 {L : GL} {N : Nat} {ad : Nat → Nat} {G : Nat → va_E} {hi rw p0 p1 p2 p3 q3 k ha : Nat} {vrk : Value} {lk mk : Int32} {fk : Nat → Int32} {vr3 : Value} {l3 m3 : Int32} {f3 : Nat → Int32} (lt_hi : hi < N) (lt_rw : rw < N) (lt_p3 : p3 < N) (lt_q3 : q3 < N) (lt_k : k < N) (lt_ha : ha < N) (ghi : G hi = .inr (0, [.ref (ad rw), .int 3])) (grw : G rw = .inl (L.ac 5, 4, .inr (.inr (.inr (.inr (r4 (ad p0) (ad p1) (ad p2) (ad p3))))))) (gp3 : G p3 = .inr (5, [vr3, .ref (ad q3), .int l3, .int m3])) (gq3 : G q3 = .inl (L.ac 0, 61, .inl f3)) (gk : G k = .inr (5, [vrk, .ref (ad ha), .int lk, .int mk])) (gha : G ha = .inl (L.ac 0, 61, .inl fk)) (hpk : p3 ≠ k) (hqk : q3 ≠ ha) : GM L yX0_record cX0_record 2 (none) rm_X0_record3 N ad G [.ref (ad hi), .ref (ad k)] (fun vo G' => vo = none ∧ G' hi = .inr (0, [.ref (ad rw), .int 4]) ∧ G' p3 = .inr (5, [vr3, .ref (ad q3), .int lk, .int mk]) ∧ G' q3 = .inl (L.ac 0, 61, .inl fk) ∧ Agr [hi, p3, q3] G G') := by
  refine GM.of (own := RX0) (lo := [(0, .ref (ad hi)), (1, .ref (ad k))]) (by decide +kernel) rfl rfl (Nat.le_of_ble_eq_true rfl) (fun E C hr => ?_)
  have ne_0_1 : hi ≠ rw := fun h => by have h9 := ghi; rw [h, grw] at h9; first | cases h9 | simp at h9
  have ne_0_2 : hi ≠ p3 := fun h => by have h9 := ghi; rw [h, gp3] at h9; first | cases h9 | simp at h9
  have ne_0_3 : hi ≠ q3 := fun h => by have h9 := ghi; rw [h, gq3] at h9; first | cases h9 | simp at h9
  have ne_0_4 : hi ≠ k := fun h => by have h9 := ghi; rw [h, gk] at h9; first | cases h9 | simp at h9
  have ne_0_5 : hi ≠ ha := fun h => by have h9 := ghi; rw [h, gha] at h9; first | cases h9 | simp at h9
  have ne_1_2 : rw ≠ p3 := fun h => by have h9 := grw; rw [h, gp3] at h9; first | cases h9 | simp at h9
  have ne_1_3 : rw ≠ q3 := fun h => by have h9 := grw; rw [h, gq3] at h9; first | cases h9 | simp at h9
  have ne_2_5 : p3 ≠ ha := fun h => by have h9 := gp3; rw [h, gha] at h9; first | cases h9 | simp at h9
  have ne_3_4 : q3 ≠ k := fun h => by have h9 := gq3; rw [h, gk] at h9; first | cases h9 | simp at h9
  have ne_1_0 : rw ≠ hi := Ne.symm ne_0_1
  have ne_2_0 : p3 ≠ hi := Ne.symm ne_0_2
  have ne_3_0 : q3 ≠ hi := Ne.symm ne_0_3
  have ne_4_0 : k ≠ hi := Ne.symm ne_0_4
  have ne_4_3 : k ≠ q3 := Ne.symm ne_3_4
  have ne_5_0 : ha ≠ hi := Ne.symm ne_0_5
  have ne_5_2 : ha ≠ p3 := Ne.symm ne_2_5
  refine G_aload_n C 0 dX0_record_0 rfl rfl ?_
  refine G_get C hi lt_hi ghi rfl inA0 1 (by decide) rfl kf_X0_20 rfl dX0_record_1 ?_
  refine G_aload_n C 0 dX0_record_4 rfl rfl ?_
  refine G_get C hi lt_hi ghi rfl inA0 0 (by decide) rfl kf_X0_11 rfl dX0_record_5 ?_
  refine G_alen C rw lt_rw 5 grw rfl (v := 4) rfl dX0_record_8 ?_
  refine G_icmp_ge C 25 dX0_record_9 (by decide) (fun h => absurd h (by decide)) (fun _ => ?_)
  refine G_aload_n C 0 dX0_record_12 rfl rfl ?_
  refine G_dup C dX0_record_13 rfl ?_
  refine G_get C hi lt_hi ghi rfl inA0 1 (by decide) rfl kf_X0_20 rfl dX0_record_14 ?_
  refine G_iconst C (v := 1) dX0_record_17 (by decide) ?_
  refine G_iadd C dX0_record_18 ?_
  refine GW.topr (y := 4) (by decide) ?_
  refine G_putp C hi lt_hi ghi rfl inA0 tyX0_ok nmX0 1 (by decide) rfl kf_X0_20 rfl rfl rfl (fs' := [.ref (ad rw), .int 4]) (Nat.le_of_ble_eq_true rfl) rfl dX0_record_19 (fun gg1 hh2 aa3 => ?_)
  have AA4 : Agr [hi] G gg1 := aa3.wk (by simp)
  refine G_goto C 29 dX0_record_22 (by decide) ?_
  refine G_aload_n C 0 dX0_record_29 rfl rfl ?_
  refine G_get C hi lt_hi hh2 rfl inA0 0 (by decide) rfl kf_X0_11 rfl dX0_record_30 ?_
  refine G_aload_n C 0 dX0_record_33 rfl rfl ?_
  refine G_get C hi lt_hi hh2 rfl inA0 1 (by decide) rfl kf_X0_20 rfl dX0_record_34 ?_
  refine G_iconst C (v := 1) dX0_record_37 (by decide) ?_
  refine G_isub C dX0_record_38 ?_
  refine GW.topr (y := 3) (by decide) ?_
  refine G_aldq C rw lt_rw 5 rfl ((aa3 rw (by simp [ne_1_0])).trans grw) (vp_in_nI (n := 3) (by decide) (by decide)) rfl dX0_record_39 ?_
  refine G_aload_n C 1 dX0_record_40 rfl rfl ?_
  refine G_callV C (As := [.ref (ad k)]) (rest := []) (c_X5_copyFrom lt_p3 lt_q3 lt_k lt_ha ((aa3 p3 (by simp [ne_2_0])).trans gp3) ((aa3 q3 (by simp [ne_3_0])).trans gq3) ((aa3 k (by simp [ne_4_0])).trans gk) ((aa3 ha (by simp [ne_5_0])).trans gha) hpk hqk) ca_X5_copyFrom km_X0_27 lt_p3 ((aa3 p3 (by simp [ne_2_0])).trans gp3) rfl rfl rfl rfl (by decide) (Nat.le_of_ble_eq_true rfl) (by decide) dX0_record_41 (fun vv5 gg6 qq7 => ?_)
  obtain ⟨rfl, hh8, hh9, aa10⟩ := qq7
  have AA11 : Agr [hi, p3, q3] G gg6 := AA4.tr aa10 (by simp) (by simp)
  exact G_vret C hr dX0_record_44 ⟨rfl, ((aa10 hi (by simp [ne_0_2, ne_0_3])).trans hh2), hh8, hh9, AA11⟩

abbrev rm_X0_record4 : Room := ({ frames := 2, cells := 0, slots := 0, locals := 120 } : Room)
set_option maxRecDepth 100000 in
set_option maxHeartbeats 4000000 in
theorem c_X0_record4 {L : GL} {N : Nat} {ad : Nat → Nat} {G : Nat → va_E} {hi rw p0 p1 p2 p3 q0 q1 q2 q3 k ha : Nat} {vrk : Value} {lk mk : Int32} {fk : Nat → Int32} {vr0 vr1 vr2 vr3 : Value} {l0 l1 l2 l3 m0 m1 m2 m3 : Int32} {f0 : Nat → Int32} (lt_hi : hi < N) (lt_rw : rw < N) (lt_p0 : p0 < N) (lt_q0 : q0 < N) (lt_p1 : p1 < N) (lt_p2 : p2 < N) (lt_p3 : p3 < N) (lt_k : k < N) (lt_ha : ha < N) (ghi : G hi = .inr (0, [.ref (ad rw), .int 4])) (grw : G rw = .inl (L.ac 5, 4, .inr (.inr (.inr (.inr (r4 (ad p0) (ad p1) (ad p2) (ad p3))))))) (gp0 : G p0 = .inr (5, [vr0, .ref (ad q0), .int l0, .int m0])) (gq0 : G q0 = .inl (L.ac 0, 61, .inl f0)) (gp1 : G p1 = .inr (5, [vr1, .ref (ad q1), .int l1, .int m1])) (gp2 : G p2 = .inr (5, [vr2, .ref (ad q2), .int l2, .int m2])) (gp3 : G p3 = .inr (5, [vr3, .ref (ad q3), .int l3, .int m3])) (gk : G k = .inr (5, [vrk, .ref (ad ha), .int lk, .int mk])) (gha : G ha = .inl (L.ac 0, 61, .inl fk)) (hpk : p0 ≠ k) (hqk : q0 ≠ ha) (n01 : p0 ≠ p1) (n02 : p0 ≠ p2) (n03 : p0 ≠ p3) : GM L yX0_record cX0_record 2 (none) rm_X0_record4 N ad G [.ref (ad hi), .ref (ad k)] (fun vo G' => vo = none ∧ G' hi = .inr (0, [.ref (ad rw), .int 4]) ∧ G' rw = .inl (L.ac 5, 4, .inr (.inr (.inr (.inr (r4 (ad p1) (ad p2) (ad p3) (ad p0)))))) ∧ G' p0 = .inr (5, [vr0, .ref (ad q0), .int lk, .int mk]) ∧ G' q0 = .inl (L.ac 0, 61, .inl fk) ∧ Agr [hi, rw, p0, q0] G G') := by
  refine GM.of (own := RX0) (lo := [(0, .ref (ad hi)), (1, .ref (ad k))]) (by decide +kernel) rfl rfl (Nat.le_of_ble_eq_true rfl) (fun E C hr => ?_)
  have ne_0_1 : hi ≠ rw := fun h => by have h9 := ghi; rw [h, grw] at h9; first | cases h9 | simp at h9
  have ne_0_2 : hi ≠ p0 := fun h => by have h9 := ghi; rw [h, gp0] at h9; first | cases h9 | simp at h9
  have ne_0_3 : hi ≠ q0 := fun h => by have h9 := ghi; rw [h, gq0] at h9; first | cases h9 | simp at h9
  have ne_1_2 : rw ≠ p0 := fun h => by have h9 := grw; rw [h, gp0] at h9; first | cases h9 | simp at h9
  have ne_1_3 : rw ≠ q0 := fun h => by have h9 := grw; rw [h, gq0] at h9; first | cases h9 | simp at h9
  have ne_1_4 : rw ≠ p1 := fun h => by have h9 := grw; rw [h, gp1] at h9; first | cases h9 | simp at h9
  have ne_1_5 : rw ≠ p2 := fun h => by have h9 := grw; rw [h, gp2] at h9; first | cases h9 | simp at h9
  have ne_1_6 : rw ≠ p3 := fun h => by have h9 := grw; rw [h, gp3] at h9; first | cases h9 | simp at h9
  have ne_1_7 : rw ≠ k := fun h => by have h9 := grw; rw [h, gk] at h9; first | cases h9 | simp at h9
  have ne_1_8 : rw ≠ ha := fun h => by have h9 := grw; rw [h, gha] at h9; first | cases h9 | simp at h9
  have ne_2_8 : p0 ≠ ha := fun h => by have h9 := gp0; rw [h, gha] at h9; first | cases h9 | simp at h9
  have ne_3_4 : q0 ≠ p1 := fun h => by have h9 := gq0; rw [h, gp1] at h9; first | cases h9 | simp at h9
  have ne_3_5 : q0 ≠ p2 := fun h => by have h9 := gq0; rw [h, gp2] at h9; first | cases h9 | simp at h9
  have ne_3_6 : q0 ≠ p3 := fun h => by have h9 := gq0; rw [h, gp3] at h9; first | cases h9 | simp at h9
  have ne_3_7 : q0 ≠ k := fun h => by have h9 := gq0; rw [h, gk] at h9; first | cases h9 | simp at h9
  have ne_2_1 : p0 ≠ rw := Ne.symm ne_1_2
  have ne_3_1 : q0 ≠ rw := Ne.symm ne_1_3
  have ne_4_1 : p1 ≠ rw := Ne.symm ne_1_4
  have ne_4_3 : p1 ≠ q0 := Ne.symm ne_3_4
  have ne_5_1 : p2 ≠ rw := Ne.symm ne_1_5
  have ne_5_3 : p2 ≠ q0 := Ne.symm ne_3_5
  have ne_6_1 : p3 ≠ rw := Ne.symm ne_1_6
  have ne_6_3 : p3 ≠ q0 := Ne.symm ne_3_6
  have ne_7_1 : k ≠ rw := Ne.symm ne_1_7
  have ne_7_3 : k ≠ q0 := Ne.symm ne_3_7
  have ne_8_1 : ha ≠ rw := Ne.symm ne_1_8
  have ne_8_2 : ha ≠ p0 := Ne.symm ne_2_8
  refine G_aload_n C 0 dX0_record_0 rfl rfl ?_
  refine G_get C hi lt_hi ghi rfl inA0 1 (by decide) rfl kf_X0_20 rfl dX0_record_1 ?_
  refine G_aload_n C 0 dX0_record_4 rfl rfl ?_
  refine G_get C hi lt_hi ghi rfl inA0 0 (by decide) rfl kf_X0_11 rfl dX0_record_5 ?_
  refine G_alen C rw lt_rw 5 grw rfl (v := 4) rfl dX0_record_8 ?_
  refine G_icmp_ge C 25 dX0_record_9 (by decide) (fun _ => ?_) (fun h => absurd h (by decide))
  refine G_aload_n C 0 dX0_record_25 rfl rfl ?_
  refine G_callV C (As := []) (rest := []) (c_X0_moveOldestToEnd lt_hi lt_rw lt_p0 lt_p1 lt_p2 lt_p3 ghi grw gp0 gp1 gp2 gp3) ca_X0_moveOldestToEnd km_X0_24 lt_hi ghi rfl rfl rfl rfl (by decide) (Nat.le_of_ble_eq_true rfl) (by decide) dX0_record_26 (fun vv1 gg2 qq3 => ?_)
  obtain ⟨rfl, hh4, aa5⟩ := qq3
  have AA6 : Agr [rw] G gg2 := aa5.wk (by simp)
  refine G_aload_n C 0 dX0_record_29 rfl rfl ?_
  refine G_get C hi lt_hi ((aa5 hi (by simp [ne_0_1])).trans ghi) rfl inA0 0 (by decide) rfl kf_X0_11 rfl dX0_record_30 ?_
  refine G_aload_n C 0 dX0_record_33 rfl rfl ?_
  refine G_get C hi lt_hi ((aa5 hi (by simp [ne_0_1])).trans ghi) rfl inA0 1 (by decide) rfl kf_X0_20 rfl dX0_record_34 ?_
  refine G_iconst C (v := 1) dX0_record_37 (by decide) ?_
  refine G_isub C dX0_record_38 ?_
  refine GW.topr (y := 3) (by decide) ?_
  refine G_aldq C rw lt_rw 5 rfl hh4 (vp_in_nI (n := 3) (by decide) (by decide)) rfl dX0_record_39 ?_
  refine G_aload_n C 1 dX0_record_40 rfl rfl ?_
  refine G_callV C (As := [.ref (ad k)]) (rest := []) (c_X5_copyFrom lt_p0 lt_q0 lt_k lt_ha ((aa5 p0 (by simp [ne_2_1])).trans gp0) ((aa5 q0 (by simp [ne_3_1])).trans gq0) ((aa5 k (by simp [ne_7_1])).trans gk) ((aa5 ha (by simp [ne_8_1])).trans gha) hpk hqk) ca_X5_copyFrom km_X0_27 lt_p0 ((aa5 p0 (by simp [ne_2_1])).trans gp0) rfl rfl rfl rfl (by decide) (Nat.le_of_ble_eq_true rfl) (by decide) dX0_record_41 (fun vv7 gg8 qq9 => ?_)
  obtain ⟨rfl, hh10, hh11, aa12⟩ := qq9
  have AA13 : Agr [rw, p0, q0] G gg8 := AA6.tr aa12 (by simp) (by simp)
  exact G_vret C hr dX0_record_44 ⟨rfl, ((aa12 hi (by simp [ne_0_2, ne_0_3])).trans ((aa5 hi (by simp [ne_0_1])).trans ghi)), ((aa12 rw (by simp [ne_1_2, ne_1_3])).trans hh4), hh10, hh11, (AA13.wk (by simp))⟩

abbrev rm_X0_restore0 : Room := ({ frames := 2, cells := 0, slots := 0, locals := 120 } : Room)
set_option maxRecDepth 100000 in
set_option maxHeartbeats 4000000 in
theorem c_X0_restore0 {L : GL} {N : Nat} {ad : Nat → Nat} {G : Nat → va_E} {hi rw k : Nat} (lt_hi : hi < N) (ghi : G hi = .inr (0, [.ref (ad rw), .int 0]))  : GM L yX0_restoreLatest cX0_restoreLatest 2 ((some .boolean)) rm_X0_restore0 N ad G [.ref (ad hi), .ref (ad k)] (fun vo G' => vo = some (.int 0) ∧ G = G') := by
  refine GM.of (own := RX0) (lo := [(0, .ref (ad hi)), (1, .ref (ad k))]) (by decide +kernel) rfl rfl (Nat.le_of_ble_eq_true rfl) (fun E C hr => ?_)
  refine G_aload_n C 0 dX0_restoreLatest_0 rfl rfl ?_
  refine G_get C hi lt_hi ghi rfl inA0 1 (by decide) rfl kf_X0_20 rfl dX0_restoreLatest_1 ?_
  refine G_if_ne C 9 dX0_restoreLatest_4 (by decide) (fun h => absurd h (by decide)) (fun _ => ?_)
  refine G_iconst C (v := 0) dX0_restoreLatest_7 (by decide) ?_
  exact G_zret C hr rfl dX0_restoreLatest_8 ⟨rfl, rfl⟩

abbrev rm_X0_restore1 : Room := ({ frames := 2, cells := 0, slots := 0, locals := 120 } : Room)
set_option maxRecDepth 100000 in
set_option maxHeartbeats 4000000 in
theorem c_X0_restore1 {L : GL} {N : Nat} {ad : Nat → Nat} {G : Nat → va_E} {hi rw p0 p1 p2 p3 q0 k ha : Nat} {vrk : Value} {lk mk : Int32} {fk : Nat → Int32} {vr0 : Value} {l0 m0 : Int32} {f0 : Nat → Int32} (lt_hi : hi < N) (lt_rw : rw < N) (lt_p0 : p0 < N) (lt_q0 : q0 < N) (lt_k : k < N) (lt_ha : ha < N) (ghi : G hi = .inr (0, [.ref (ad rw), .int 1])) (grw : G rw = .inl (L.ac 5, 4, .inr (.inr (.inr (.inr (r4 (ad p0) (ad p1) (ad p2) (ad p3))))))) (gp0 : G p0 = .inr (5, [vr0, .ref (ad q0), .int l0, .int m0])) (gq0 : G q0 = .inl (L.ac 0, 61, .inl f0)) (gk : G k = .inr (5, [vrk, .ref (ad ha), .int lk, .int mk])) (gha : G ha = .inl (L.ac 0, 61, .inl fk)) (hpk : k ≠ p0) (hqk : ha ≠ q0) : GM L yX0_restoreLatest cX0_restoreLatest 2 ((some .boolean)) rm_X0_restore1 N ad G [.ref (ad hi), .ref (ad k)] (fun vo G' => vo = some (.int 1) ∧ G' hi = .inr (0, [.ref (ad rw), .int 0]) ∧ G' k = .inr (5, [vrk, .ref (ad ha), .int l0, .int m0]) ∧ G' ha = .inl (L.ac 0, 61, .inl f0) ∧ Agr [hi, k, ha] G G') := by
  refine GM.of (own := RX0) (lo := [(0, .ref (ad hi)), (1, .ref (ad k))]) (by decide +kernel) rfl rfl (Nat.le_of_ble_eq_true rfl) (fun E C hr => ?_)
  have ne_0_1 : hi ≠ rw := fun h => by have h9 := ghi; rw [h, grw] at h9; first | cases h9 | simp at h9
  have ne_0_2 : hi ≠ p0 := fun h => by have h9 := ghi; rw [h, gp0] at h9; first | cases h9 | simp at h9
  have ne_0_3 : hi ≠ q0 := fun h => by have h9 := ghi; rw [h, gq0] at h9; first | cases h9 | simp at h9
  have ne_0_4 : hi ≠ k := fun h => by have h9 := ghi; rw [h, gk] at h9; first | cases h9 | simp at h9
  have ne_0_5 : hi ≠ ha := fun h => by have h9 := ghi; rw [h, gha] at h9; first | cases h9 | simp at h9
  have ne_1_4 : rw ≠ k := fun h => by have h9 := grw; rw [h, gk] at h9; first | cases h9 | simp at h9
  have ne_1_5 : rw ≠ ha := fun h => by have h9 := grw; rw [h, gha] at h9; first | cases h9 | simp at h9
  have ne_2_5 : p0 ≠ ha := fun h => by have h9 := gp0; rw [h, gha] at h9; first | cases h9 | simp at h9
  have ne_3_4 : q0 ≠ k := fun h => by have h9 := gq0; rw [h, gk] at h9; first | cases h9 | simp at h9
  have ne_1_0 : rw ≠ hi := Ne.symm ne_0_1
  have ne_2_0 : p0 ≠ hi := Ne.symm ne_0_2
  have ne_3_0 : q0 ≠ hi := Ne.symm ne_0_3
  have ne_4_0 : k ≠ hi := Ne.symm ne_0_4
  have ne_5_0 : ha ≠ hi := Ne.symm ne_0_5
  refine G_aload_n C 0 dX0_restoreLatest_0 rfl rfl ?_
  refine G_get C hi lt_hi ghi rfl inA0 1 (by decide) rfl kf_X0_20 rfl dX0_restoreLatest_1 ?_
  refine G_if_ne C 9 dX0_restoreLatest_4 (by decide) (fun _ => ?_) (fun h => absurd h (by decide))
  refine G_aload_n C 0 dX0_restoreLatest_9 rfl rfl ?_
  refine G_dup C dX0_restoreLatest_10 rfl ?_
  refine G_get C hi lt_hi ghi rfl inA0 1 (by decide) rfl kf_X0_20 rfl dX0_restoreLatest_11 ?_
  refine G_iconst C (v := 1) dX0_restoreLatest_14 (by decide) ?_
  refine G_isub C dX0_restoreLatest_15 ?_
  refine GW.topr (y := 0) (by decide) ?_
  refine G_putp C hi lt_hi ghi rfl inA0 tyX0_ok nmX0 1 (by decide) rfl kf_X0_20 rfl rfl rfl (fs' := [.ref (ad rw), .int 0]) (Nat.le_of_ble_eq_true rfl) rfl dX0_restoreLatest_16 (fun gg1 hh2 aa3 => ?_)
  have AA4 : Agr [hi] G gg1 := aa3.wk (by simp)
  refine G_aload_n C 1 dX0_restoreLatest_19 rfl rfl ?_
  refine G_aload_n C 0 dX0_restoreLatest_20 rfl rfl ?_
  refine G_get C hi lt_hi hh2 rfl inA0 0 (by decide) rfl kf_X0_11 rfl dX0_restoreLatest_21 ?_
  refine G_aload_n C 0 dX0_restoreLatest_24 rfl rfl ?_
  refine G_get C hi lt_hi hh2 rfl inA0 1 (by decide) rfl kf_X0_20 rfl dX0_restoreLatest_25 ?_
  refine G_aldq C rw lt_rw 5 rfl ((aa3 rw (by simp [ne_1_0])).trans grw) (vp_in_nI (n := 0) (by decide) (by decide)) rfl dX0_restoreLatest_28 ?_
  refine G_callV C (As := [.ref (ad p0)]) (rest := []) (c_X5_copyFrom lt_k lt_ha lt_p0 lt_q0 ((aa3 k (by simp [ne_4_0])).trans gk) ((aa3 ha (by simp [ne_5_0])).trans gha) ((aa3 p0 (by simp [ne_2_0])).trans gp0) ((aa3 q0 (by simp [ne_3_0])).trans gq0) hpk hqk) ca_X5_copyFrom km_X0_27 lt_k ((aa3 k (by simp [ne_4_0])).trans gk) rfl rfl rfl rfl (by decide) (Nat.le_of_ble_eq_true rfl) (by decide) dX0_restoreLatest_29 (fun vv5 gg6 qq7 => ?_)
  obtain ⟨rfl, hh8, hh9, aa10⟩ := qq7
  have AA11 : Agr [hi, k, ha] G gg6 := AA4.tr aa10 (by simp) (by simp)
  refine G_iconst C (v := 1) dX0_restoreLatest_32 (by decide) ?_
  exact G_zret C hr rfl dX0_restoreLatest_33 ⟨rfl, ((aa10 hi (by simp [ne_0_4, ne_0_5])).trans hh2), hh8, hh9, AA11⟩

abbrev rm_X0_restore2 : Room := ({ frames := 2, cells := 0, slots := 0, locals := 120 } : Room)
set_option maxRecDepth 100000 in
set_option maxHeartbeats 4000000 in
theorem c_X0_restore2 {L : GL} {N : Nat} {ad : Nat → Nat} {G : Nat → va_E} {hi rw p0 p1 p2 p3 q1 k ha : Nat} {vrk : Value} {lk mk : Int32} {fk : Nat → Int32} {vr1 : Value} {l1 m1 : Int32} {f1 : Nat → Int32} (lt_hi : hi < N) (lt_rw : rw < N) (lt_p1 : p1 < N) (lt_q1 : q1 < N) (lt_k : k < N) (lt_ha : ha < N) (ghi : G hi = .inr (0, [.ref (ad rw), .int 2])) (grw : G rw = .inl (L.ac 5, 4, .inr (.inr (.inr (.inr (r4 (ad p0) (ad p1) (ad p2) (ad p3))))))) (gp1 : G p1 = .inr (5, [vr1, .ref (ad q1), .int l1, .int m1])) (gq1 : G q1 = .inl (L.ac 0, 61, .inl f1)) (gk : G k = .inr (5, [vrk, .ref (ad ha), .int lk, .int mk])) (gha : G ha = .inl (L.ac 0, 61, .inl fk)) (hpk : k ≠ p1) (hqk : ha ≠ q1) : GM L yX0_restoreLatest cX0_restoreLatest 2 ((some .boolean)) rm_X0_restore2 N ad G [.ref (ad hi), .ref (ad k)] (fun vo G' => vo = some (.int 1) ∧ G' hi = .inr (0, [.ref (ad rw), .int 1]) ∧ G' k = .inr (5, [vrk, .ref (ad ha), .int l1, .int m1]) ∧ G' ha = .inl (L.ac 0, 61, .inl f1) ∧ Agr [hi, k, ha] G G') := by
  refine GM.of (own := RX0) (lo := [(0, .ref (ad hi)), (1, .ref (ad k))]) (by decide +kernel) rfl rfl (Nat.le_of_ble_eq_true rfl) (fun E C hr => ?_)
  have ne_0_1 : hi ≠ rw := fun h => by have h9 := ghi; rw [h, grw] at h9; first | cases h9 | simp at h9
  have ne_0_2 : hi ≠ p1 := fun h => by have h9 := ghi; rw [h, gp1] at h9; first | cases h9 | simp at h9
  have ne_0_3 : hi ≠ q1 := fun h => by have h9 := ghi; rw [h, gq1] at h9; first | cases h9 | simp at h9
  have ne_0_4 : hi ≠ k := fun h => by have h9 := ghi; rw [h, gk] at h9; first | cases h9 | simp at h9
  have ne_0_5 : hi ≠ ha := fun h => by have h9 := ghi; rw [h, gha] at h9; first | cases h9 | simp at h9
  have ne_1_4 : rw ≠ k := fun h => by have h9 := grw; rw [h, gk] at h9; first | cases h9 | simp at h9
  have ne_1_5 : rw ≠ ha := fun h => by have h9 := grw; rw [h, gha] at h9; first | cases h9 | simp at h9
  have ne_2_5 : p1 ≠ ha := fun h => by have h9 := gp1; rw [h, gha] at h9; first | cases h9 | simp at h9
  have ne_3_4 : q1 ≠ k := fun h => by have h9 := gq1; rw [h, gk] at h9; first | cases h9 | simp at h9
  have ne_1_0 : rw ≠ hi := Ne.symm ne_0_1
  have ne_2_0 : p1 ≠ hi := Ne.symm ne_0_2
  have ne_3_0 : q1 ≠ hi := Ne.symm ne_0_3
  have ne_4_0 : k ≠ hi := Ne.symm ne_0_4
  have ne_5_0 : ha ≠ hi := Ne.symm ne_0_5
  refine G_aload_n C 0 dX0_restoreLatest_0 rfl rfl ?_
  refine G_get C hi lt_hi ghi rfl inA0 1 (by decide) rfl kf_X0_20 rfl dX0_restoreLatest_1 ?_
  refine G_if_ne C 9 dX0_restoreLatest_4 (by decide) (fun _ => ?_) (fun h => absurd h (by decide))
  refine G_aload_n C 0 dX0_restoreLatest_9 rfl rfl ?_
  refine G_dup C dX0_restoreLatest_10 rfl ?_
  refine G_get C hi lt_hi ghi rfl inA0 1 (by decide) rfl kf_X0_20 rfl dX0_restoreLatest_11 ?_
  refine G_iconst C (v := 1) dX0_restoreLatest_14 (by decide) ?_
  refine G_isub C dX0_restoreLatest_15 ?_
  refine GW.topr (y := 1) (by decide) ?_
  refine G_putp C hi lt_hi ghi rfl inA0 tyX0_ok nmX0 1 (by decide) rfl kf_X0_20 rfl rfl rfl (fs' := [.ref (ad rw), .int 1]) (Nat.le_of_ble_eq_true rfl) rfl dX0_restoreLatest_16 (fun gg1 hh2 aa3 => ?_)
  have AA4 : Agr [hi] G gg1 := aa3.wk (by simp)
  refine G_aload_n C 1 dX0_restoreLatest_19 rfl rfl ?_
  refine G_aload_n C 0 dX0_restoreLatest_20 rfl rfl ?_
  refine G_get C hi lt_hi hh2 rfl inA0 0 (by decide) rfl kf_X0_11 rfl dX0_restoreLatest_21 ?_
  refine G_aload_n C 0 dX0_restoreLatest_24 rfl rfl ?_
  refine G_get C hi lt_hi hh2 rfl inA0 1 (by decide) rfl kf_X0_20 rfl dX0_restoreLatest_25 ?_
  refine G_aldq C rw lt_rw 5 rfl ((aa3 rw (by simp [ne_1_0])).trans grw) (vp_in_nI (n := 1) (by decide) (by decide)) rfl dX0_restoreLatest_28 ?_
  refine G_callV C (As := [.ref (ad p1)]) (rest := []) (c_X5_copyFrom lt_k lt_ha lt_p1 lt_q1 ((aa3 k (by simp [ne_4_0])).trans gk) ((aa3 ha (by simp [ne_5_0])).trans gha) ((aa3 p1 (by simp [ne_2_0])).trans gp1) ((aa3 q1 (by simp [ne_3_0])).trans gq1) hpk hqk) ca_X5_copyFrom km_X0_27 lt_k ((aa3 k (by simp [ne_4_0])).trans gk) rfl rfl rfl rfl (by decide) (Nat.le_of_ble_eq_true rfl) (by decide) dX0_restoreLatest_29 (fun vv5 gg6 qq7 => ?_)
  obtain ⟨rfl, hh8, hh9, aa10⟩ := qq7
  have AA11 : Agr [hi, k, ha] G gg6 := AA4.tr aa10 (by simp) (by simp)
  refine G_iconst C (v := 1) dX0_restoreLatest_32 (by decide) ?_
  exact G_zret C hr rfl dX0_restoreLatest_33 ⟨rfl, ((aa10 hi (by simp [ne_0_4, ne_0_5])).trans hh2), hh8, hh9, AA11⟩

abbrev rm_X0_restore3 : Room := ({ frames := 2, cells := 0, slots := 0, locals := 120 } : Room)
set_option maxRecDepth 100000 in
set_option maxHeartbeats 4000000 in
theorem c_X0_restore3 {L : GL} {N : Nat} {ad : Nat → Nat} {G : Nat → va_E} {hi rw p0 p1 p2 p3 q2 k ha : Nat} {vrk : Value} {lk mk : Int32} {fk : Nat → Int32} {vr2 : Value} {l2 m2 : Int32} {f2 : Nat → Int32} (lt_hi : hi < N) (lt_rw : rw < N) (lt_p2 : p2 < N) (lt_q2 : q2 < N) (lt_k : k < N) (lt_ha : ha < N) (ghi : G hi = .inr (0, [.ref (ad rw), .int 3])) (grw : G rw = .inl (L.ac 5, 4, .inr (.inr (.inr (.inr (r4 (ad p0) (ad p1) (ad p2) (ad p3))))))) (gp2 : G p2 = .inr (5, [vr2, .ref (ad q2), .int l2, .int m2])) (gq2 : G q2 = .inl (L.ac 0, 61, .inl f2)) (gk : G k = .inr (5, [vrk, .ref (ad ha), .int lk, .int mk])) (gha : G ha = .inl (L.ac 0, 61, .inl fk)) (hpk : k ≠ p2) (hqk : ha ≠ q2) : GM L yX0_restoreLatest cX0_restoreLatest 2 ((some .boolean)) rm_X0_restore3 N ad G [.ref (ad hi), .ref (ad k)] (fun vo G' => vo = some (.int 1) ∧ G' hi = .inr (0, [.ref (ad rw), .int 2]) ∧ G' k = .inr (5, [vrk, .ref (ad ha), .int l2, .int m2]) ∧ G' ha = .inl (L.ac 0, 61, .inl f2) ∧ Agr [hi, k, ha] G G') := by
  refine GM.of (own := RX0) (lo := [(0, .ref (ad hi)), (1, .ref (ad k))]) (by decide +kernel) rfl rfl (Nat.le_of_ble_eq_true rfl) (fun E C hr => ?_)
  have ne_0_1 : hi ≠ rw := fun h => by have h9 := ghi; rw [h, grw] at h9; first | cases h9 | simp at h9
  have ne_0_2 : hi ≠ p2 := fun h => by have h9 := ghi; rw [h, gp2] at h9; first | cases h9 | simp at h9
  have ne_0_3 : hi ≠ q2 := fun h => by have h9 := ghi; rw [h, gq2] at h9; first | cases h9 | simp at h9
  have ne_0_4 : hi ≠ k := fun h => by have h9 := ghi; rw [h, gk] at h9; first | cases h9 | simp at h9
  have ne_0_5 : hi ≠ ha := fun h => by have h9 := ghi; rw [h, gha] at h9; first | cases h9 | simp at h9
  have ne_1_4 : rw ≠ k := fun h => by have h9 := grw; rw [h, gk] at h9; first | cases h9 | simp at h9
  have ne_1_5 : rw ≠ ha := fun h => by have h9 := grw; rw [h, gha] at h9; first | cases h9 | simp at h9
  have ne_2_5 : p2 ≠ ha := fun h => by have h9 := gp2; rw [h, gha] at h9; first | cases h9 | simp at h9
  have ne_3_4 : q2 ≠ k := fun h => by have h9 := gq2; rw [h, gk] at h9; first | cases h9 | simp at h9
  have ne_1_0 : rw ≠ hi := Ne.symm ne_0_1
  have ne_2_0 : p2 ≠ hi := Ne.symm ne_0_2
  have ne_3_0 : q2 ≠ hi := Ne.symm ne_0_3
  have ne_4_0 : k ≠ hi := Ne.symm ne_0_4
  have ne_5_0 : ha ≠ hi := Ne.symm ne_0_5
  refine G_aload_n C 0 dX0_restoreLatest_0 rfl rfl ?_
  refine G_get C hi lt_hi ghi rfl inA0 1 (by decide) rfl kf_X0_20 rfl dX0_restoreLatest_1 ?_
  refine G_if_ne C 9 dX0_restoreLatest_4 (by decide) (fun _ => ?_) (fun h => absurd h (by decide))
  refine G_aload_n C 0 dX0_restoreLatest_9 rfl rfl ?_
  refine G_dup C dX0_restoreLatest_10 rfl ?_
  refine G_get C hi lt_hi ghi rfl inA0 1 (by decide) rfl kf_X0_20 rfl dX0_restoreLatest_11 ?_
  refine G_iconst C (v := 1) dX0_restoreLatest_14 (by decide) ?_
  refine G_isub C dX0_restoreLatest_15 ?_
  refine GW.topr (y := 2) (by decide) ?_
  refine G_putp C hi lt_hi ghi rfl inA0 tyX0_ok nmX0 1 (by decide) rfl kf_X0_20 rfl rfl rfl (fs' := [.ref (ad rw), .int 2]) (Nat.le_of_ble_eq_true rfl) rfl dX0_restoreLatest_16 (fun gg1 hh2 aa3 => ?_)
  have AA4 : Agr [hi] G gg1 := aa3.wk (by simp)
  refine G_aload_n C 1 dX0_restoreLatest_19 rfl rfl ?_
  refine G_aload_n C 0 dX0_restoreLatest_20 rfl rfl ?_
  refine G_get C hi lt_hi hh2 rfl inA0 0 (by decide) rfl kf_X0_11 rfl dX0_restoreLatest_21 ?_
  refine G_aload_n C 0 dX0_restoreLatest_24 rfl rfl ?_
  refine G_get C hi lt_hi hh2 rfl inA0 1 (by decide) rfl kf_X0_20 rfl dX0_restoreLatest_25 ?_
  refine G_aldq C rw lt_rw 5 rfl ((aa3 rw (by simp [ne_1_0])).trans grw) (vp_in_nI (n := 2) (by decide) (by decide)) rfl dX0_restoreLatest_28 ?_
  refine G_callV C (As := [.ref (ad p2)]) (rest := []) (c_X5_copyFrom lt_k lt_ha lt_p2 lt_q2 ((aa3 k (by simp [ne_4_0])).trans gk) ((aa3 ha (by simp [ne_5_0])).trans gha) ((aa3 p2 (by simp [ne_2_0])).trans gp2) ((aa3 q2 (by simp [ne_3_0])).trans gq2) hpk hqk) ca_X5_copyFrom km_X0_27 lt_k ((aa3 k (by simp [ne_4_0])).trans gk) rfl rfl rfl rfl (by decide) (Nat.le_of_ble_eq_true rfl) (by decide) dX0_restoreLatest_29 (fun vv5 gg6 qq7 => ?_)
  obtain ⟨rfl, hh8, hh9, aa10⟩ := qq7
  have AA11 : Agr [hi, k, ha] G gg6 := AA4.tr aa10 (by simp) (by simp)
  refine G_iconst C (v := 1) dX0_restoreLatest_32 (by decide) ?_
  exact G_zret C hr rfl dX0_restoreLatest_33 ⟨rfl, ((aa10 hi (by simp [ne_0_4, ne_0_5])).trans hh2), hh8, hh9, AA11⟩

abbrev rm_X0_restore4 : Room := ({ frames := 2, cells := 0, slots := 0, locals := 120 } : Room)
set_option maxRecDepth 100000 in
set_option maxHeartbeats 4000000 in
theorem c_X0_restore4 {L : GL} {N : Nat} {ad : Nat → Nat} {G : Nat → va_E} {hi rw p0 p1 p2 p3 q3 k ha : Nat} {vrk : Value} {lk mk : Int32} {fk : Nat → Int32} {vr3 : Value} {l3 m3 : Int32} {f3 : Nat → Int32} (lt_hi : hi < N) (lt_rw : rw < N) (lt_p3 : p3 < N) (lt_q3 : q3 < N) (lt_k : k < N) (lt_ha : ha < N) (ghi : G hi = .inr (0, [.ref (ad rw), .int 4])) (grw : G rw = .inl (L.ac 5, 4, .inr (.inr (.inr (.inr (r4 (ad p0) (ad p1) (ad p2) (ad p3))))))) (gp3 : G p3 = .inr (5, [vr3, .ref (ad q3), .int l3, .int m3])) (gq3 : G q3 = .inl (L.ac 0, 61, .inl f3)) (gk : G k = .inr (5, [vrk, .ref (ad ha), .int lk, .int mk])) (gha : G ha = .inl (L.ac 0, 61, .inl fk)) (hpk : k ≠ p3) (hqk : ha ≠ q3) : GM L yX0_restoreLatest cX0_restoreLatest 2 ((some .boolean)) rm_X0_restore4 N ad G [.ref (ad hi), .ref (ad k)] (fun vo G' => vo = some (.int 1) ∧ G' hi = .inr (0, [.ref (ad rw), .int 3]) ∧ G' k = .inr (5, [vrk, .ref (ad ha), .int l3, .int m3]) ∧ G' ha = .inl (L.ac 0, 61, .inl f3) ∧ Agr [hi, k, ha] G G') := by
  refine GM.of (own := RX0) (lo := [(0, .ref (ad hi)), (1, .ref (ad k))]) (by decide +kernel) rfl rfl (Nat.le_of_ble_eq_true rfl) (fun E C hr => ?_)
  have ne_0_1 : hi ≠ rw := fun h => by have h9 := ghi; rw [h, grw] at h9; first | cases h9 | simp at h9
  have ne_0_2 : hi ≠ p3 := fun h => by have h9 := ghi; rw [h, gp3] at h9; first | cases h9 | simp at h9
  have ne_0_3 : hi ≠ q3 := fun h => by have h9 := ghi; rw [h, gq3] at h9; first | cases h9 | simp at h9
  have ne_0_4 : hi ≠ k := fun h => by have h9 := ghi; rw [h, gk] at h9; first | cases h9 | simp at h9
  have ne_0_5 : hi ≠ ha := fun h => by have h9 := ghi; rw [h, gha] at h9; first | cases h9 | simp at h9
  have ne_1_4 : rw ≠ k := fun h => by have h9 := grw; rw [h, gk] at h9; first | cases h9 | simp at h9
  have ne_1_5 : rw ≠ ha := fun h => by have h9 := grw; rw [h, gha] at h9; first | cases h9 | simp at h9
  have ne_2_5 : p3 ≠ ha := fun h => by have h9 := gp3; rw [h, gha] at h9; first | cases h9 | simp at h9
  have ne_3_4 : q3 ≠ k := fun h => by have h9 := gq3; rw [h, gk] at h9; first | cases h9 | simp at h9
  have ne_1_0 : rw ≠ hi := Ne.symm ne_0_1
  have ne_2_0 : p3 ≠ hi := Ne.symm ne_0_2
  have ne_3_0 : q3 ≠ hi := Ne.symm ne_0_3
  have ne_4_0 : k ≠ hi := Ne.symm ne_0_4
  have ne_5_0 : ha ≠ hi := Ne.symm ne_0_5
  refine G_aload_n C 0 dX0_restoreLatest_0 rfl rfl ?_
  refine G_get C hi lt_hi ghi rfl inA0 1 (by decide) rfl kf_X0_20 rfl dX0_restoreLatest_1 ?_
  refine G_if_ne C 9 dX0_restoreLatest_4 (by decide) (fun _ => ?_) (fun h => absurd h (by decide))
  refine G_aload_n C 0 dX0_restoreLatest_9 rfl rfl ?_
  refine G_dup C dX0_restoreLatest_10 rfl ?_
  refine G_get C hi lt_hi ghi rfl inA0 1 (by decide) rfl kf_X0_20 rfl dX0_restoreLatest_11 ?_
  refine G_iconst C (v := 1) dX0_restoreLatest_14 (by decide) ?_
  refine G_isub C dX0_restoreLatest_15 ?_
  refine GW.topr (y := 3) (by decide) ?_
  refine G_putp C hi lt_hi ghi rfl inA0 tyX0_ok nmX0 1 (by decide) rfl kf_X0_20 rfl rfl rfl (fs' := [.ref (ad rw), .int 3]) (Nat.le_of_ble_eq_true rfl) rfl dX0_restoreLatest_16 (fun gg1 hh2 aa3 => ?_)
  have AA4 : Agr [hi] G gg1 := aa3.wk (by simp)
  refine G_aload_n C 1 dX0_restoreLatest_19 rfl rfl ?_
  refine G_aload_n C 0 dX0_restoreLatest_20 rfl rfl ?_
  refine G_get C hi lt_hi hh2 rfl inA0 0 (by decide) rfl kf_X0_11 rfl dX0_restoreLatest_21 ?_
  refine G_aload_n C 0 dX0_restoreLatest_24 rfl rfl ?_
  refine G_get C hi lt_hi hh2 rfl inA0 1 (by decide) rfl kf_X0_20 rfl dX0_restoreLatest_25 ?_
  refine G_aldq C rw lt_rw 5 rfl ((aa3 rw (by simp [ne_1_0])).trans grw) (vp_in_nI (n := 3) (by decide) (by decide)) rfl dX0_restoreLatest_28 ?_
  refine G_callV C (As := [.ref (ad p3)]) (rest := []) (c_X5_copyFrom lt_k lt_ha lt_p3 lt_q3 ((aa3 k (by simp [ne_4_0])).trans gk) ((aa3 ha (by simp [ne_5_0])).trans gha) ((aa3 p3 (by simp [ne_2_0])).trans gp3) ((aa3 q3 (by simp [ne_3_0])).trans gq3) hpk hqk) ca_X5_copyFrom km_X0_27 lt_k ((aa3 k (by simp [ne_4_0])).trans gk) rfl rfl rfl rfl (by decide) (Nat.le_of_ble_eq_true rfl) (by decide) dX0_restoreLatest_29 (fun vv5 gg6 qq7 => ?_)
  obtain ⟨rfl, hh8, hh9, aa10⟩ := qq7
  have AA11 : Agr [hi, k, ha] G gg6 := AA4.tr aa10 (by simp) (by simp)
  refine G_iconst C (v := 1) dX0_restoreLatest_32 (by decide) ?_
  exact G_zret C hr rfl dX0_restoreLatest_33 ⟨rfl, ((aa10 hi (by simp [ne_0_4, ne_0_5])).trans hh2), hh8, hh9, AA11⟩

