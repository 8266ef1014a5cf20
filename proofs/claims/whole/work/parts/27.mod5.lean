abbrev rm_X9_stones : Room := ({ frames := 2, cells := 0, slots := 0, locals := 43 } : Room)
set_option maxRecDepth 100000 in
set_option maxHeartbeats 4000000 in
theorem c_X9_stones {L : GL} {ad : Nat → Nat} {G : Nat → va_E} {ik kn ln th m q te us sp bg fo le fi re ca : Int32} {fx fy nx ny ux uy px py : Int64} {ml : Int32} {f : Nat → Int32}  (g40 : G 40 = .inr (9, [.ref (ad 41), .ref (ad 42), .ref (ad 43), .int ik, .ref (ad 44), .int kn, .ref (ad 45), .int ln, .int th, .int m, .int q, .int te, .long fx, .long fy, .long nx, .long ny, .long ux, .long uy, .int us, .long px, .long py, .ref (ad 46), .ref (ad 47), .int sp, .int bg, .int fo, .int le, .int fi, .int re, .int ca])) (g41 : G 41 = .inl (L.ac 0, 60, .inl (sv f ml)))  : GM L yX9_stones cX9_stones 1 ((some .int)) rm_X9_stones 50 ad G [.ref (ad 40)] (fun vo G' => vo = some (.int (manyF f 59)) ∧ G' 40 = .inr (9, [.ref (ad 41), .ref (ad 42), .ref (ad 43), .int ik, .ref (ad 44), .int kn, .ref (ad 45), .int ln, .int 0, .int m, .int q, .int te, .long fx, .long fy, .long nx, .long ny, .long ux, .long uy, .int us, .long px, .long py, .ref (ad 46), .ref (ad 47), .int sp, .int bg, .int fo, .int le, .int fi, .int re, .int ca]) ∧ Agr [40] G G') := by
  refine GM.of (own := RX9) (lo := [(0, .ref (ad 40))]) (by decide +kernel) rfl rfl (Nat.le_of_ble_eq_true rfl) (fun E C hr => ?_)
  refine G_aload_n C 0 dX9_stones_0 rfl rfl ?_
  refine G_iconst C (v := 0) dX9_stones_1 (by decide) ?_
  refine G_putp C 40 (by decide) g40 rfl inA9 tyX9_ok nmX9 8 (by decide) rfl kf_X9_32 rfl rfl rfl (fs' := [.ref (ad 41), .ref (ad 42), .ref (ad 43), .int ik, .ref (ad 44), .int kn, .ref (ad 45), .int ln, .int 0, .int m, .int q, .int te, .long fx, .long fy, .long nx, .long ny, .long ux, .long uy, .int us, .long px, .long py, .ref (ad 46), .ref (ad 47), .int sp, .int bg, .int fo, .int le, .int fi, .int re, .int ca]) (Nat.le_of_ble_eq_true rfl) rfl dX9_stones_2 (fun gg1 hh2 aa3 => ?_)
  have AA4 : Agr [40] G gg1 := aa3.wk (by simp)
  refine G_aload_n C 0 dX9_stones_5 rfl rfl ?_
  refine G_callV C (As := []) (rest := []) (c_X9_many hh2 ((aa3 41 (by decide)).trans g41)) ca_X9_many km_X9_122 (by decide) hh2 rfl rfl rfl rfl (by decide) (Nat.le_of_ble_eq_true rfl) (by decide) dX9_stones_6 (fun vv5 gg6 qq7 => ?_)
  obtain ⟨rfl, rfl⟩ := qq7
  exact G_zret C hr rfl dX9_stones_9 ⟨rfl, hh2, AA4⟩

abbrev rm_X9_isLaidA : Room := ({ frames := 2, cells := 0, slots := 0, locals := 42 } : Room)
set_option maxRecDepth 100000 in
set_option maxHeartbeats 4000000 in
theorem c_X9_isLaidA {L : GL} {ad : Nat → Nat} {G : Nat → va_E} {n : Int32} {ik kn ln th m q te us sp bg fo le fi re ca : Int32} {fx fy nx ny ux uy px py : Int64}  (g40 : G 40 = .inr (9, [.ref (ad 41), .ref (ad 42), .ref (ad 43), .int ik, .ref (ad 44), .int kn, .ref (ad 45), .int ln, .int th, .int m, .int q, .int te, .long fx, .long fy, .long nx, .long ny, .long ux, .long uy, .int us, .long px, .long py, .ref (ad 46), .ref (ad 47), .int sp, .int bg, .int fo, .int le, .int fi, .int re, .int ca])) (hn0 : numF n = 0) : GM L yX9_isLaid cX9_isLaid 2 ((some .boolean)) rm_X9_isLaidA 50 ad G [.ref (ad 40), .int n] (fun vo G' => vo = some (.int 0) ∧ G' 40 = .inr (9, [.ref (ad 41), .ref (ad 42), .ref (ad 43), .int ik, .ref (ad 44), .int kn, .ref (ad 45), .int ln, .int 1, .int m, .int q, .int te, .long fx, .long fy, .long nx, .long ny, .long ux, .long uy, .int us, .long px, .long py, .ref (ad 46), .ref (ad 47), .int sp, .int bg, .int fo, .int le, .int fi, .int re, .int ca]) ∧ Agr [40] G G') := by
  refine GM.of (own := RX9) (lo := [(0, .ref (ad 40)), (1, .int n)]) (by decide +kernel) rfl rfl (Nat.le_of_ble_eq_true rfl) (fun E C hr => ?_)
  refine G_aload_n C 0 dX9_isLaid_0 rfl rfl ?_
  refine G_iload_n C 1 dX9_isLaid_1 rfl rfl ?_
  refine G_callS C (As := [.int n]) (rest := [.ref (ad 40)]) c_X9_isNumber ca_X9_isNumber km_X9_126 rfl rfl (by decide) (Nat.le_of_ble_eq_true rfl) (by decide) dX9_isLaid_2 (fun vv1 gg2 qq3 => ?_)
  obtain ⟨rfl, rfl⟩ := qq3
  refine GW.topr (y := 0) hn0 ?_
  refine G_callV C (As := [.int 0]) (rest := []) (c_X9_asks0 g40) ca_X9_asks km_X9_161 (by decide) g40 rfl rfl rfl rfl (by decide) (Nat.le_of_ble_eq_true rfl) (by decide) dX9_isLaid_5 (fun vv4 gg5 qq6 => ?_)
  obtain ⟨rfl, hh7, aa8⟩ := qq6
  have AA9 : Agr [40] G gg5 := aa8.wk (by simp)
  refine G_if_eq C 23 dX9_isLaid_8 (by decide) (fun _ => ?_) (fun h => absurd h (by decide))
  refine G_iconst C (v := 0) dX9_isLaid_23 (by decide) ?_
  exact G_zret C hr rfl dX9_isLaid_24 ⟨rfl, hh7, AA9⟩

abbrev rm_X9_isLaidR : Room := ({ frames := 2, cells := 0, slots := 0, locals := 42 } : Room)
set_option maxRecDepth 100000 in
set_option maxHeartbeats 4000000 in
theorem c_X9_isLaidR {L : GL} {ad : Nat → Nat} {G : Nat → va_E} {d : Nat} {ik kn ln th m q te us sp bg fo le fi re ca : Int32} {fx fy nx ny ux uy px py : Int64} {ml : Int32} {f : Nat → Int32}  (g40 : G 40 = .inr (9, [.ref (ad 41), .ref (ad 42), .ref (ad 43), .int ik, .ref (ad 44), .int kn, .ref (ad 45), .int ln, .int th, .int m, .int q, .int te, .long fx, .long fy, .long nx, .long ny, .long ux, .long uy, .int us, .long px, .long py, .ref (ad 46), .ref (ad 47), .int sp, .int bg, .int fo, .int le, .int fi, .int re, .int ca])) (g41 : G 41 = .inl (L.ac 0, 60, .inl (sv f ml))) (h2 : 2 ≤ d) (h60 : d ≤ 60) : GM L yX9_isLaid cX9_isLaid 2 ((some .boolean)) rm_X9_isLaidR 50 ad G [.ref (ad 40), .int (nI d)] (fun vo G' => vo = some (.int (if f d < 0 then 0 else 1)) ∧ G' 40 = .inr (9, [.ref (ad 41), .ref (ad 42), .ref (ad 43), .int ik, .ref (ad 44), .int kn, .ref (ad 45), .int ln, .int 0, .int m, .int q, .int te, .long fx, .long fy, .long nx, .long ny, .long ux, .long uy, .int us, .long px, .long py, .ref (ad 46), .ref (ad 47), .int sp, .int bg, .int fo, .int le, .int fi, .int re, .int ca]) ∧ Agr [40] G G') := by
  refine GM.of (own := RX9) (lo := [(0, .ref (ad 40)), (1, .int (nI d))]) (by decide +kernel) rfl rfl (Nat.le_of_ble_eq_true rfl) (fun E C hr => ?_)
  refine G_aload_n C 0 dX9_isLaid_0 rfl rfl ?_
  refine G_iload_n C 1 dX9_isLaid_1 rfl rfl ?_
  refine G_callS C (As := [.int (nI d)]) (rest := [.ref (ad 40)]) c_X9_isNumber ca_X9_isNumber km_X9_126 rfl rfl (by decide) (Nat.le_of_ble_eq_true rfl) (by decide) dX9_isLaid_2 (fun vv1 gg2 qq3 => ?_)
  obtain ⟨rfl, rfl⟩ := qq3
  refine GW.topr (y := 1) (num_d h2 h60) ?_
  refine G_callV C (As := [.int 1]) (rest := []) (c_X9_asks1 g40) ca_X9_asks km_X9_161 (by decide) g40 rfl rfl rfl rfl (by decide) (Nat.le_of_ble_eq_true rfl) (by decide) dX9_isLaid_5 (fun vv4 gg5 qq6 => ?_)
  obtain ⟨rfl, hh7, aa8⟩ := qq6
  have AA9 : Agr [40] G gg5 := aa8.wk (by simp)
  refine G_if_eq C 23 dX9_isLaid_8 (by decide) (fun h => absurd h (by decide)) (fun _ => ?_)
  refine G_aload_n C 0 dX9_isLaid_11 rfl rfl ?_
  refine G_iload_n C 1 dX9_isLaid_12 rfl rfl ?_
  refine G_callV C (As := [.int (nI d)]) (rest := []) (c_X9_stand hh7 ((aa8 41 (by decide)).trans g41) h2 h60) ca_X9_stand km_X9_89 (by decide) hh7 rfl rfl rfl rfl (by decide) (Nat.le_of_ble_eq_true rfl) (by decide) dX9_isLaid_13 (fun vv10 gg11 qq12 => ?_)
  obtain ⟨rfl, rfl⟩ := qq12
  refine G_if_lt C 23 dX9_isLaid_16 (by decide) (fun c16 => ?_) (fun c16 => ?_)
  · refine G_iconst C (v := 0) dX9_isLaid_23 (by decide) ?_
    exact G_zret C hr rfl dX9_isLaid_24 ⟨(by rw [if_pos c16]), hh7, AA9⟩
  · refine G_iconst C (v := 1) dX9_isLaid_19 (by decide) ?_
    refine G_goto C 24 dX9_isLaid_20 (by decide) ?_
    exact G_zret C hr rfl dX9_isLaid_24 ⟨(by rw [if_neg c16]), hh7, AA9⟩

abbrev rm_X9_stoneFromA : Room := ({ frames := 2, cells := 0, slots := 0, locals := 42 } : Room)
set_option maxRecDepth 100000 in
set_option maxHeartbeats 4000000 in
theorem c_X9_stoneFromA {L : GL} {ad : Nat → Nat} {G : Nat → va_E} {n : Int32} {ik kn ln th m q te us sp bg fo le fi re ca : Int32} {fx fy nx ny ux uy px py : Int64}  (g40 : G 40 = .inr (9, [.ref (ad 41), .ref (ad 42), .ref (ad 43), .int ik, .ref (ad 44), .int kn, .ref (ad 45), .int ln, .int th, .int m, .int q, .int te, .long fx, .long fy, .long nx, .long ny, .long ux, .long uy, .int us, .long px, .long py, .ref (ad 46), .ref (ad 47), .int sp, .int bg, .int fo, .int le, .int fi, .int re, .int ca])) (hn0 : numF n = 0) : GM L yX9_stoneFrom cX9_stoneFrom 3 ((some .int)) rm_X9_stoneFromA 50 ad G [.ref (ad 40), .int n] (fun vo G' => vo = some (.int 0) ∧ G' 40 = .inr (9, [.ref (ad 41), .ref (ad 42), .ref (ad 43), .int ik, .ref (ad 44), .int kn, .ref (ad 45), .int ln, .int 1, .int m, .int q, .int te, .long fx, .long fy, .long nx, .long ny, .long ux, .long uy, .int us, .long px, .long py, .ref (ad 46), .ref (ad 47), .int sp, .int bg, .int fo, .int le, .int fi, .int re, .int ca]) ∧ Agr [40] G G') := by
  refine GM.of (own := RX9) (lo := [(0, .ref (ad 40)), (1, .int n)]) (by decide +kernel) rfl rfl (Nat.le_of_ble_eq_true rfl) (fun E C hr => ?_)
  refine G_aload_n C 0 dX9_stoneFrom_0 rfl rfl ?_
  refine G_iload_n C 1 dX9_stoneFrom_1 rfl rfl ?_
  refine G_callS C (As := [.int n]) (rest := [.ref (ad 40)]) c_X9_isNumber ca_X9_isNumber km_X9_126 rfl rfl (by decide) (Nat.le_of_ble_eq_true rfl) (by decide) dX9_stoneFrom_2 (fun vv1 gg2 qq3 => ?_)
  obtain ⟨rfl, rfl⟩ := qq3
  refine GW.topr (y := 0) hn0 ?_
  refine G_callV C (As := [.int 0]) (rest := []) (c_X9_asks0 g40) ca_X9_asks km_X9_161 (by decide) g40 rfl rfl rfl rfl (by decide) (Nat.le_of_ble_eq_true rfl) (by decide) dX9_stoneFrom_5 (fun vv4 gg5 qq6 => ?_)
  obtain ⟨rfl, hh7, aa8⟩ := qq6
  have AA9 : Agr [40] G gg5 := aa8.wk (by simp)
  refine G_if_ne C 13 dX9_stoneFrom_8 (by decide) (fun h => absurd h (by decide)) (fun _ => ?_)
  refine G_iconst C (v := 0) dX9_stoneFrom_11 (by decide) ?_
  exact G_zret C hr rfl dX9_stoneFrom_12 ⟨rfl, hh7, AA9⟩

abbrev rm_X9_stoneFromR : Room := ({ frames := 2, cells := 0, slots := 0, locals := 42 } : Room)
set_option maxRecDepth 100000 in
set_option maxHeartbeats 4000000 in
theorem c_X9_stoneFromR {L : GL} {ad : Nat → Nat} {G : Nat → va_E} {d : Nat} {ik kn ln th m q te us sp bg fo le fi re ca : Int32} {fx fy nx ny ux uy px py : Int64} {ml : Int32} {f : Nat → Int32}  (g40 : G 40 = .inr (9, [.ref (ad 41), .ref (ad 42), .ref (ad 43), .int ik, .ref (ad 44), .int kn, .ref (ad 45), .int ln, .int th, .int m, .int q, .int te, .long fx, .long fy, .long nx, .long ny, .long ux, .long uy, .int us, .long px, .long py, .ref (ad 46), .ref (ad 47), .int sp, .int bg, .int fo, .int le, .int fi, .int re, .int ca])) (g41 : G 41 = .inl (L.ac 0, 60, .inl (sv f ml))) (h2 : 2 ≤ d) (h60 : d ≤ 60) (hk : okH f) (hro : (sfF f (61 - d) d) ≤ 60) : GM L yX9_stoneFrom cX9_stoneFrom 3 ((some .int)) rm_X9_stoneFromR 50 ad G [.ref (ad 40), .int (nI d)] (fun vo G' => vo = some (.int (nI (sfF f (61 - d) d))) ∧ G' 40 = .inr (9, [.ref (ad 41), .ref (ad 42), .ref (ad 43), .int ik, .ref (ad 44), .int kn, .ref (ad 45), .int ln, .int 0, .int m, .int q, .int te, .long fx, .long fy, .long nx, .long ny, .long ux, .long uy, .int us, .long px, .long py, .ref (ad 46), .ref (ad 47), .int sp, .int bg, .int fo, .int le, .int fi, .int re, .int ca]) ∧ Agr [40] G G') := by
  refine GM.of (own := RX9) (lo := [(0, .ref (ad 40)), (1, .int (nI d))]) (by decide +kernel) rfl rfl (Nat.le_of_ble_eq_true rfl) (fun E C hr => ?_)
  refine G_aload_n C 0 dX9_stoneFrom_0 rfl rfl ?_
  refine G_iload_n C 1 dX9_stoneFrom_1 rfl rfl ?_
  refine G_callS C (As := [.int (nI d)]) (rest := [.ref (ad 40)]) c_X9_isNumber ca_X9_isNumber km_X9_126 rfl rfl (by decide) (Nat.le_of_ble_eq_true rfl) (by decide) dX9_stoneFrom_2 (fun vv1 gg2 qq3 => ?_)
  obtain ⟨rfl, rfl⟩ := qq3
  refine GW.topr (y := 1) (num_d h2 h60) ?_
  refine G_callV C (As := [.int 1]) (rest := []) (c_X9_asks1 g40) ca_X9_asks km_X9_161 (by decide) g40 rfl rfl rfl rfl (by decide) (Nat.le_of_ble_eq_true rfl) (by decide) dX9_stoneFrom_5 (fun vv4 gg5 qq6 => ?_)
  obtain ⟨rfl, hh7, aa8⟩ := qq6
  have AA9 : Agr [40] G gg5 := aa8.wk (by simp)
  refine G_if_ne C 13 dX9_stoneFrom_8 (by decide) (fun _ => ?_) (fun h => absurd h (by decide))
  refine G_iload_n C 1 dX9_stoneFrom_13 rfl rfl ?_
  refine G_istore_n C 2 (lo' := [(2, .int (nI d)), (0, .ref (ad 40)), (1, .int (nI d))]) dX9_stoneFrom_14 rfl (by decide) rfl ?_
  have key15 : ∀ (n : Nat) (j : Nat)  (hn : 61 - j < n) (hj : d ≤ j ∧ j ≤ 61) (hs : sfF f (61 - d) d = sfF f (61 - j) j), GW L E 50 ad gg5 0 0 15 [(2, .int (nI j)), (0, .ref (ad 40)), (1, .int (nI d))] [] := by
    intro n
    induction n with
    | zero =>
      intro j  hn hj hs
      exact absurd hn (Nat.not_lt_zero _)
    | succ n ih =>
      intro j  hn hj hs
      refine G_iload_n C 2 dX9_stoneFrom_15 rfl rfl ?_
      refine G_bipush C (v := 60) dX9_stoneFrom_16 (by decide) ?_
      refine G_icmp_gt C 35 dX9_stoneFrom_18 (by decide) (fun c18 => False.elim (by have e9 := hs.trans (sf_61 (by have := (cI_lt (a := 60) (b := j) rfl rfl (by omega) (by omega)).mp c18; omega)); have := (cI_lt (a := 60) (b := j) rfl rfl (by omega) (by omega)).mp c18; omega)) (fun c18 => ?_)
      have c18n : ¬ 60 < j := fun z => c18 ((cI_lt (a := 60) (b := j) rfl rfl (by omega) (by omega)).mpr z)
      refine G_aload_n C 0 dX9_stoneFrom_21 rfl rfl ?_
      refine G_iload_n C 2 dX9_stoneFrom_22 rfl rfl ?_
      refine G_callV C (As := [.int (nI j)]) (rest := []) (c_X9_stand hh7 ((aa8 41 (by decide)).trans g41) (by omega) (by omega)) ca_X9_stand km_X9_89 (by decide) hh7 rfl rfl rfl rfl (by decide) (Nat.le_of_ble_eq_true rfl) (by decide) dX9_stoneFrom_23 (fun vv10 gg11 qq12 => ?_)
      obtain ⟨rfl, rfl⟩ := qq12
      refine G_if_ge C 35 dX9_stoneFrom_26 (by decide) (fun c26 => ?_) (fun c26 => ?_)
      · refine G_iload_n C 2 dX9_stoneFrom_35 rfl rfl ?_
        refine G_bipush C (v := 60) dX9_stoneFrom_36 (by decide) ?_
        refine G_icmp_gt C 45 dX9_stoneFrom_38 (by decide) (fun c38 => False.elim (by have := (cI_lt (a := 60) (b := j) rfl rfl (by omega) (by omega)).mp c38; omega)) (fun c38 => ?_)
        have c38n : ¬ 60 < j := fun z => c38 ((cI_lt (a := 60) (b := j) rfl rfl (by omega) (by omega)).mpr z)
        refine G_iload_n C 2 dX9_stoneFrom_41 rfl rfl ?_
        refine G_goto C 50 dX9_stoneFrom_42 (by decide) ?_
        exact G_zret C hr rfl dX9_stoneFrom_50 ⟨(by rw [hs, sf_y (by omega) (fun z => Int32.not_le.mpr ((has_lt hk (by omega) (by omega)).mp z) c26)]), hh7, AA9⟩
      · refine G_iinc C (v := nI (j + 1)) (lo' := [(2, .int (nI (j + 1))), (0, .ref (ad 40)), (1, .int (nI d))]) dX9_stoneFrom_29 rfl (nI_add _ _) (by decide) rfl ?_
        refine G_goto C 15 dX9_stoneFrom_32 (by decide) ?_
        exact ih (j + 1) (by omega) (by omega) (hs.trans (sf_n (by omega) ((has_lt hk (by omega) (by omega)).mpr (Int32.not_le.mp c26))))
  exact key15 62 d (by omega) (by omega) (rfl)

abbrev rm_X9_stoneFromS : Room := ({ frames := 2, cells := 0, slots := 0, locals := 42 } : Room)
set_option maxRecDepth 100000 in
set_option maxHeartbeats 4000000 in
theorem c_X9_stoneFromS {L : GL} {ad : Nat → Nat} {G : Nat → va_E} {d : Nat} {ik kn ln th m q te us sp bg fo le fi re ca : Int32} {fx fy nx ny ux uy px py : Int64} {ml : Int32} {f : Nat → Int32}  (g40 : G 40 = .inr (9, [.ref (ad 41), .ref (ad 42), .ref (ad 43), .int ik, .ref (ad 44), .int kn, .ref (ad 45), .int ln, .int th, .int m, .int q, .int te, .long fx, .long fy, .long nx, .long ny, .long ux, .long uy, .int us, .long px, .long py, .ref (ad 46), .ref (ad 47), .int sp, .int bg, .int fo, .int le, .int fi, .int re, .int ca])) (g41 : G 41 = .inl (L.ac 0, 60, .inl (sv f ml))) (h2 : 2 ≤ d) (h60 : d ≤ 60) (hk : okH f) (hro : (sfF f (61 - d) d) = 61) : GM L yX9_stoneFrom cX9_stoneFrom 3 ((some .int)) rm_X9_stoneFromS 50 ad G [.ref (ad 40), .int (nI d)] (fun vo G' => vo = some (.int 0) ∧ G' 40 = .inr (9, [.ref (ad 41), .ref (ad 42), .ref (ad 43), .int ik, .ref (ad 44), .int kn, .ref (ad 45), .int ln, .int 2, .int m, .int q, .int te, .long fx, .long fy, .long nx, .long ny, .long ux, .long uy, .int us, .long px, .long py, .ref (ad 46), .ref (ad 47), .int sp, .int bg, .int fo, .int le, .int fi, .int re, .int ca]) ∧ Agr [40] G G') := by
  refine GM.of (own := RX9) (lo := [(0, .ref (ad 40)), (1, .int (nI d))]) (by decide +kernel) rfl rfl (Nat.le_of_ble_eq_true rfl) (fun E C hr => ?_)
  refine G_aload_n C 0 dX9_stoneFrom_0 rfl rfl ?_
  refine G_iload_n C 1 dX9_stoneFrom_1 rfl rfl ?_
  refine G_callS C (As := [.int (nI d)]) (rest := [.ref (ad 40)]) c_X9_isNumber ca_X9_isNumber km_X9_126 rfl rfl (by decide) (Nat.le_of_ble_eq_true rfl) (by decide) dX9_stoneFrom_2 (fun vv1 gg2 qq3 => ?_)
  obtain ⟨rfl, rfl⟩ := qq3
  refine GW.topr (y := 1) (num_d h2 h60) ?_
  refine G_callV C (As := [.int 1]) (rest := []) (c_X9_asks1 g40) ca_X9_asks km_X9_161 (by decide) g40 rfl rfl rfl rfl (by decide) (Nat.le_of_ble_eq_true rfl) (by decide) dX9_stoneFrom_5 (fun vv4 gg5 qq6 => ?_)
  obtain ⟨rfl, hh7, aa8⟩ := qq6
  have AA9 : Agr [40] G gg5 := aa8.wk (by simp)
  refine G_if_ne C 13 dX9_stoneFrom_8 (by decide) (fun _ => ?_) (fun h => absurd h (by decide))
  refine G_iload_n C 1 dX9_stoneFrom_13 rfl rfl ?_
  refine G_istore_n C 2 (lo' := [(2, .int (nI d)), (0, .ref (ad 40)), (1, .int (nI d))]) dX9_stoneFrom_14 rfl (by decide) rfl ?_
  have key15 : ∀ (n : Nat) (j : Nat)  (hn : 61 - j < n) (hj : d ≤ j ∧ j ≤ 61) (hs : sfF f (61 - d) d = sfF f (61 - j) j), GW L E 50 ad gg5 0 0 15 [(2, .int (nI j)), (0, .ref (ad 40)), (1, .int (nI d))] [] := by
    intro n
    induction n with
    | zero =>
      intro j  hn hj hs
      exact absurd hn (Nat.not_lt_zero _)
    | succ n ih =>
      intro j  hn hj hs
      refine G_iload_n C 2 dX9_stoneFrom_15 rfl rfl ?_
      refine G_bipush C (v := 60) dX9_stoneFrom_16 (by decide) ?_
      refine G_icmp_gt C 35 dX9_stoneFrom_18 (by decide) (fun c18 => ?_) (fun c18 => ?_)
      · have c18n : 60 < j := (cI_lt (a := 60) (b := j) rfl rfl (by omega) (by omega)).mp c18
        refine G_iload_n C 2 dX9_stoneFrom_35 rfl rfl ?_
        refine G_bipush C (v := 60) dX9_stoneFrom_36 (by decide) ?_
        refine G_icmp_gt C 45 dX9_stoneFrom_38 (by decide) (fun c38 => ?_) (fun c38 => False.elim (absurd c18 c38))
        have c38n : 60 < j := (cI_lt (a := 60) (b := j) rfl rfl (by omega) (by omega)).mp c38
        refine G_aload_n C 0 dX9_stoneFrom_45 rfl rfl ?_
        refine G_iconst C (v := 2) dX9_stoneFrom_46 (by decide) ?_
        refine G_callV C (As := [.int 2]) (rest := []) (c_X9_fails hh7) ca_X9_fails km_X9_43 (by decide) hh7 rfl rfl rfl rfl (by decide) (Nat.le_of_ble_eq_true rfl) (by decide) dX9_stoneFrom_47 (fun vv10 gg11 qq12 => ?_)
        obtain ⟨rfl, hh13, aa14⟩ := qq12
        have AA15 : Agr [40] G gg11 := AA9.tr aa14 (by simp) (by simp)
        exact G_zret C hr rfl dX9_stoneFrom_50 ⟨rfl, hh13, AA15⟩
      · have c18n : ¬ 60 < j := fun z => c18 ((cI_lt (a := 60) (b := j) rfl rfl (by omega) (by omega)).mpr z)
        refine G_aload_n C 0 dX9_stoneFrom_21 rfl rfl ?_
        refine G_iload_n C 2 dX9_stoneFrom_22 rfl rfl ?_
        refine G_callV C (As := [.int (nI j)]) (rest := []) (c_X9_stand hh7 ((aa8 41 (by decide)).trans g41) (by omega) (by omega)) ca_X9_stand km_X9_89 (by decide) hh7 rfl rfl rfl rfl (by decide) (Nat.le_of_ble_eq_true rfl) (by decide) dX9_stoneFrom_23 (fun vv16 gg17 qq18 => ?_)
        obtain ⟨rfl, rfl⟩ := qq18
        refine G_if_ge C 35 dX9_stoneFrom_26 (by decide) (fun c26 => False.elim (by have e9 := hs.trans (sf_y (by omega) (fun z => Int32.not_le.mpr ((has_lt hk (by omega) (by omega)).mp z) c26)); omega)) (fun c26 => ?_)
        refine G_iinc C (v := nI (j + 1)) (lo' := [(2, .int (nI (j + 1))), (0, .ref (ad 40)), (1, .int (nI d))]) dX9_stoneFrom_29 rfl (nI_add _ _) (by decide) rfl ?_
        refine G_goto C 15 dX9_stoneFrom_32 (by decide) ?_
        exact ih (j + 1) (by omega) (by omega) (hs.trans (sf_n (by omega) ((has_lt hk (by omega) (by omega)).mpr (Int32.not_le.mp c26))))
  exact key15 62 d (by omega) (by omega) (rfl)

abbrev rm_X9_asksStoneA : Room := ({ frames := 2, cells := 0, slots := 0, locals := 42 } : Room)
set_option maxRecDepth 100000 in
set_option maxHeartbeats 4000000 in
theorem c_X9_asksStoneA {L : GL} {ad : Nat → Nat} {G : Nat → va_E} {n : Int32} {ik kn ln th m q te us sp bg fo le fi re ca : Int32} {fx fy nx ny ux uy px py : Int64}  (g40 : G 40 = .inr (9, [.ref (ad 41), .ref (ad 42), .ref (ad 43), .int ik, .ref (ad 44), .int kn, .ref (ad 45), .int ln, .int th, .int m, .int q, .int te, .long fx, .long fy, .long nx, .long ny, .long ux, .long uy, .int us, .long px, .long py, .ref (ad 46), .ref (ad 47), .int sp, .int bg, .int fo, .int le, .int fi, .int re, .int ca])) (hn0 : numF n = 0) : GM L yX9_asksStone cX9_asksStone 2 ((some .boolean)) rm_X9_asksStoneA 50 ad G [.ref (ad 40), .int n] (fun vo G' => vo = some (.int 0) ∧ G' 40 = .inr (9, [.ref (ad 41), .ref (ad 42), .ref (ad 43), .int ik, .ref (ad 44), .int kn, .ref (ad 45), .int ln, .int 1, .int m, .int q, .int te, .long fx, .long fy, .long nx, .long ny, .long ux, .long uy, .int us, .long px, .long py, .ref (ad 46), .ref (ad 47), .int sp, .int bg, .int fo, .int le, .int fi, .int re, .int ca]) ∧ Agr [40] G G') := by
  refine GM.of (own := RX9) (lo := [(0, .ref (ad 40)), (1, .int n)]) (by decide +kernel) rfl rfl (Nat.le_of_ble_eq_true rfl) (fun E C hr => ?_)
  refine G_aload_n C 0 dX9_asksStone_0 rfl rfl ?_
  refine G_iload_n C 1 dX9_asksStone_1 rfl rfl ?_
  refine G_callS C (As := [.int n]) (rest := [.ref (ad 40)]) c_X9_isNumber ca_X9_isNumber km_X9_126 rfl rfl (by decide) (Nat.le_of_ble_eq_true rfl) (by decide) dX9_asksStone_2 (fun vv1 gg2 qq3 => ?_)
  obtain ⟨rfl, rfl⟩ := qq3
  refine GW.topr (y := 0) hn0 ?_
  refine G_callV C (As := [.int 0]) (rest := []) (c_X9_asks0 g40) ca_X9_asks km_X9_161 (by decide) g40 rfl rfl rfl rfl (by decide) (Nat.le_of_ble_eq_true rfl) (by decide) dX9_asksStone_5 (fun vv4 gg5 qq6 => ?_)
  obtain ⟨rfl, hh7, aa8⟩ := qq6
  have AA9 : Agr [40] G gg5 := aa8.wk (by simp)
  refine G_if_ne C 13 dX9_asksStone_8 (by decide) (fun h => absurd h (by decide)) (fun _ => ?_)
  refine G_iconst C (v := 0) dX9_asksStone_11 (by decide) ?_
  exact G_zret C hr rfl dX9_asksStone_12 ⟨rfl, hh7, AA9⟩

abbrev rm_X9_asksStoneS : Room := ({ frames := 2, cells := 0, slots := 0, locals := 42 } : Room)
set_option maxRecDepth 100000 in
set_option maxHeartbeats 4000000 in
theorem c_X9_asksStoneS {L : GL} {ad : Nat → Nat} {G : Nat → va_E} {d : Nat} {ik kn ln th m q te us sp bg fo le fi re ca : Int32} {fx fy nx ny ux uy px py : Int64} {ml : Int32} {f : Nat → Int32}  (g40 : G 40 = .inr (9, [.ref (ad 41), .ref (ad 42), .ref (ad 43), .int ik, .ref (ad 44), .int kn, .ref (ad 45), .int ln, .int th, .int m, .int q, .int te, .long fx, .long fy, .long nx, .long ny, .long ux, .long uy, .int us, .long px, .long py, .ref (ad 46), .ref (ad 47), .int sp, .int bg, .int fo, .int le, .int fi, .int re, .int ca])) (g41 : G 41 = .inl (L.ac 0, 60, .inl (sv f ml))) (h2 : 2 ≤ d) (h60 : d ≤ 60) (hro : f d < 0) : GM L yX9_asksStone cX9_asksStone 2 ((some .boolean)) rm_X9_asksStoneS 50 ad G [.ref (ad 40), .int (nI d)] (fun vo G' => vo = some (.int 0) ∧ G' 40 = .inr (9, [.ref (ad 41), .ref (ad 42), .ref (ad 43), .int ik, .ref (ad 44), .int kn, .ref (ad 45), .int ln, .int 2, .int m, .int q, .int te, .long fx, .long fy, .long nx, .long ny, .long ux, .long uy, .int us, .long px, .long py, .ref (ad 46), .ref (ad 47), .int sp, .int bg, .int fo, .int le, .int fi, .int re, .int ca]) ∧ Agr [40] G G') := by
  refine GM.of (own := RX9) (lo := [(0, .ref (ad 40)), (1, .int (nI d))]) (by decide +kernel) rfl rfl (Nat.le_of_ble_eq_true rfl) (fun E C hr => ?_)
  refine G_aload_n C 0 dX9_asksStone_0 rfl rfl ?_
  refine G_iload_n C 1 dX9_asksStone_1 rfl rfl ?_
  refine G_callS C (As := [.int (nI d)]) (rest := [.ref (ad 40)]) c_X9_isNumber ca_X9_isNumber km_X9_126 rfl rfl (by decide) (Nat.le_of_ble_eq_true rfl) (by decide) dX9_asksStone_2 (fun vv1 gg2 qq3 => ?_)
  obtain ⟨rfl, rfl⟩ := qq3
  refine GW.topr (y := 1) (num_d h2 h60) ?_
  refine G_callV C (As := [.int 1]) (rest := []) (c_X9_asks1 g40) ca_X9_asks km_X9_161 (by decide) g40 rfl rfl rfl rfl (by decide) (Nat.le_of_ble_eq_true rfl) (by decide) dX9_asksStone_5 (fun vv4 gg5 qq6 => ?_)
  obtain ⟨rfl, hh7, aa8⟩ := qq6
  have AA9 : Agr [40] G gg5 := aa8.wk (by simp)
  refine G_if_ne C 13 dX9_asksStone_8 (by decide) (fun _ => ?_) (fun h => absurd h (by decide))
  refine G_aload_n C 0 dX9_asksStone_13 rfl rfl ?_
  refine G_aload_n C 0 dX9_asksStone_14 rfl rfl ?_
  refine G_iload_n C 1 dX9_asksStone_15 rfl rfl ?_
  refine G_callV C (As := [.int (nI d)]) (rest := [.ref (ad 40)]) (c_X9_stand hh7 ((aa8 41 (by decide)).trans g41) h2 h60) ca_X9_stand km_X9_89 (by decide) hh7 rfl rfl rfl rfl (by decide) (Nat.le_of_ble_eq_true rfl) (by decide) dX9_asksStone_16 (fun vv10 gg11 qq12 => ?_)
  obtain ⟨rfl, rfl⟩ := qq12
  refine G_if_ge C 26 dX9_asksStone_19 (by decide) (fun c19 => False.elim (Int32.not_le.mpr hro c19)) (fun c19 => ?_)
  refine G_iconst C (v := 2) dX9_asksStone_22 (by decide) ?_
  refine G_goto C 27 dX9_asksStone_23 (by decide) ?_
  refine G_putp C 40 (by decide) hh7 rfl inA9 tyX9_ok nmX9 8 (by decide) rfl kf_X9_32 rfl rfl rfl (fs' := [.ref (ad 41), .ref (ad 42), .ref (ad 43), .int ik, .ref (ad 44), .int kn, .ref (ad 45), .int ln, .int 2, .int m, .int q, .int te, .long fx, .long fy, .long nx, .long ny, .long ux, .long uy, .int us, .long px, .long py, .ref (ad 46), .ref (ad 47), .int sp, .int bg, .int fo, .int le, .int fi, .int re, .int ca]) (Nat.le_of_ble_eq_true rfl) rfl dX9_asksStone_27 (fun gg13 hh14 aa15 => ?_)
  have AA16 : Agr [40] G gg13 := AA9.tr aa15 (by simp) (by simp)
  refine G_aload_n C 0 dX9_asksStone_30 rfl rfl ?_
  refine G_get C 40 (by decide) hh14 rfl inA9 8 (by decide) rfl kf_X9_32 rfl dX9_asksStone_31 ?_
  refine G_if_ne C 41 dX9_asksStone_34 (by decide) (fun _ => ?_) (fun h => absurd h (by decide))
  refine G_iconst C (v := 0) dX9_asksStone_41 (by decide) ?_
  exact G_zret C hr rfl dX9_asksStone_42 ⟨rfl, hh14, AA16⟩

abbrev rm_X9_asksStoneR : Room := ({ frames := 2, cells := 0, slots := 0, locals := 42 } : Room)
set_option maxRecDepth 100000 in
set_option maxHeartbeats 4000000 in
theorem c_X9_asksStoneR {L : GL} {ad : Nat → Nat} {G : Nat → va_E} {d : Nat} {ik kn ln th m q te us sp bg fo le fi re ca : Int32} {fx fy nx ny ux uy px py : Int64} {ml : Int32} {f : Nat → Int32}  (g40 : G 40 = .inr (9, [.ref (ad 41), .ref (ad 42), .ref (ad 43), .int ik, .ref (ad 44), .int kn, .ref (ad 45), .int ln, .int th, .int m, .int q, .int te, .long fx, .long fy, .long nx, .long ny, .long ux, .long uy, .int us, .long px, .long py, .ref (ad 46), .ref (ad 47), .int sp, .int bg, .int fo, .int le, .int fi, .int re, .int ca])) (g41 : G 41 = .inl (L.ac 0, 60, .inl (sv f ml))) (h2 : 2 ≤ d) (h60 : d ≤ 60) (hro : 0 ≤ f d) : GM L yX9_asksStone cX9_asksStone 2 ((some .boolean)) rm_X9_asksStoneR 50 ad G [.ref (ad 40), .int (nI d)] (fun vo G' => vo = some (.int 1) ∧ G' 40 = .inr (9, [.ref (ad 41), .ref (ad 42), .ref (ad 43), .int ik, .ref (ad 44), .int kn, .ref (ad 45), .int ln, .int 0, .int m, .int q, .int te, .long fx, .long fy, .long nx, .long ny, .long ux, .long uy, .int us, .long px, .long py, .ref (ad 46), .ref (ad 47), .int sp, .int bg, .int fo, .int le, .int fi, .int re, .int ca]) ∧ Agr [40] G G') := by
  refine GM.of (own := RX9) (lo := [(0, .ref (ad 40)), (1, .int (nI d))]) (by decide +kernel) rfl rfl (Nat.le_of_ble_eq_true rfl) (fun E C hr => ?_)
  refine G_aload_n C 0 dX9_asksStone_0 rfl rfl ?_
  refine G_iload_n C 1 dX9_asksStone_1 rfl rfl ?_
  refine G_callS C (As := [.int (nI d)]) (rest := [.ref (ad 40)]) c_X9_isNumber ca_X9_isNumber km_X9_126 rfl rfl (by decide) (Nat.le_of_ble_eq_true rfl) (by decide) dX9_asksStone_2 (fun vv1 gg2 qq3 => ?_)
  obtain ⟨rfl, rfl⟩ := qq3
  refine GW.topr (y := 1) (num_d h2 h60) ?_
  refine G_callV C (As := [.int 1]) (rest := []) (c_X9_asks1 g40) ca_X9_asks km_X9_161 (by decide) g40 rfl rfl rfl rfl (by decide) (Nat.le_of_ble_eq_true rfl) (by decide) dX9_asksStone_5 (fun vv4 gg5 qq6 => ?_)
  obtain ⟨rfl, hh7, aa8⟩ := qq6
  have AA9 : Agr [40] G gg5 := aa8.wk (by simp)
  refine G_if_ne C 13 dX9_asksStone_8 (by decide) (fun _ => ?_) (fun h => absurd h (by decide))
  refine G_aload_n C 0 dX9_asksStone_13 rfl rfl ?_
  refine G_aload_n C 0 dX9_asksStone_14 rfl rfl ?_
  refine G_iload_n C 1 dX9_asksStone_15 rfl rfl ?_
  refine G_callV C (As := [.int (nI d)]) (rest := [.ref (ad 40)]) (c_X9_stand hh7 ((aa8 41 (by decide)).trans g41) h2 h60) ca_X9_stand km_X9_89 (by decide) hh7 rfl rfl rfl rfl (by decide) (Nat.le_of_ble_eq_true rfl) (by decide) dX9_asksStone_16 (fun vv10 gg11 qq12 => ?_)
  obtain ⟨rfl, rfl⟩ := qq12
  refine G_if_ge C 26 dX9_asksStone_19 (by decide) (fun c19 => ?_) (fun c19 => False.elim (c19 hro))
  refine G_iconst C (v := 0) dX9_asksStone_26 (by decide) ?_
  refine G_putp C 40 (by decide) hh7 rfl inA9 tyX9_ok nmX9 8 (by decide) rfl kf_X9_32 rfl rfl rfl (fs' := [.ref (ad 41), .ref (ad 42), .ref (ad 43), .int ik, .ref (ad 44), .int kn, .ref (ad 45), .int ln, .int 0, .int m, .int q, .int te, .long fx, .long fy, .long nx, .long ny, .long ux, .long uy, .int us, .long px, .long py, .ref (ad 46), .ref (ad 47), .int sp, .int bg, .int fo, .int le, .int fi, .int re, .int ca]) (Nat.le_of_ble_eq_true rfl) rfl dX9_asksStone_27 (fun gg13 hh14 aa15 => ?_)
  have AA16 : Agr [40] G gg13 := AA9.tr aa15 (by simp) (by simp)
  refine G_aload_n C 0 dX9_asksStone_30 rfl rfl ?_
  refine G_get C 40 (by decide) hh14 rfl inA9 8 (by decide) rfl kf_X9_32 rfl dX9_asksStone_31 ?_
  refine G_if_ne C 41 dX9_asksStone_34 (by decide) (fun h => absurd h (by decide)) (fun _ => ?_)
  refine G_iconst C (v := 1) dX9_asksStone_37 (by decide) ?_
  refine G_goto C 42 dX9_asksStone_38 (by decide) ?_
  exact G_zret C hr rfl dX9_asksStone_42 ⟨rfl, hh14, AA16⟩

abbrev rm_X9_sign : Room := ({ frames := 4, cells := 0, slots := 0, locals := 85 } : Room)
set_option maxRecDepth 100000 in
set_option maxHeartbeats 4000000 in
theorem c_X9_sign {L : GL} {ad : Nat → Nat} {G : Nat → va_E} {d : Nat} {ik kn ln th m q te us sp bg fo le fi re ca : Int32} {fx fy nx ny ux uy px py : Int64} {ml : Int32} {f : Nat → Int32}  (g40 : G 40 = .inr (9, [.ref (ad 41), .ref (ad 42), .ref (ad 43), .int ik, .ref (ad 44), .int kn, .ref (ad 45), .int ln, .int th, .int m, .int q, .int te, .long fx, .long fy, .long nx, .long ny, .long ux, .long uy, .int us, .long px, .long py, .ref (ad 46), .ref (ad 47), .int sp, .int bg, .int fo, .int le, .int fi, .int re, .int ca])) (g41 : G 41 = .inl (L.ac 0, 60, .inl (sv f ml))) (h2 : 2 ≤ d) (h60 : d ≤ 60) (hp : pern d ≠ 0) : GM L yX9_sign cX9_sign 2 ((some .int)) rm_X9_sign 50 ad G [.ref (ad 40), .int (nI d)] (fun vo G' => ∃ (j1 : Int32) (j2 : Int32) (j3 : Int32) (j4 : Int64) (j5 : Int64) (j6 : Int64) (j7 : Int64) (u1 : Int64) (u2 : Int64) (u3 : Int32) (p1 : Int64) (p2 : Int64), vo = some (.int (sgM f d)) ∧ G' 40 = .inr (9, [.ref (ad 41), .ref (ad 42), .ref (ad 43), .int ik, .ref (ad 44), .int kn, .ref (ad 45), .int ln, .int th, .int j1, .int j2, .int j3, .long j4, .long j5, .long j6, .long j7, .long u1, .long u2, .int u3, .long p1, .long p2, .ref (ad 46), .ref (ad 47), .int sp, .int bg, .int fo, .int le, .int fi, .int re, .int ca]) ∧ Agr [40] G G') := by
  refine GM.of (own := RX9) (lo := [(0, .ref (ad 40)), (1, .int (nI d))]) (by decide +kernel) rfl rfl (Nat.le_of_ble_eq_true rfl) (fun E C hr => ?_)
  refine G_aload_n C 0 dX9_sign_0 rfl rfl ?_
  refine G_iload_n C 1 dX9_sign_1 rfl rfl ?_
  refine G_callV C (As := [.int (nI d)]) (rest := []) (c_X9_beginsPowers g40 h2 h60 hp) ca_X9_beginsPowers km_X9_112 (by decide) g40 rfl rfl rfl rfl (by decide) (Nat.le_of_ble_eq_true rfl) (by decide) dX9_sign_2 (fun vv1 gg2 qq3 => ?_)
  obtain ⟨j_4, j_5, j_6, j_7, j_8, j_9, j_10, rfl, hh11, aa12⟩ := qq3
  have AA13 : Agr [40] G gg2 := aa12.wk (by simp)
  refine G_aload_n C 0 dX9_sign_5 rfl rfl ?_
  refine G_iload_n C 1 dX9_sign_6 rfl rfl ?_
  refine G_callV C (As := [.int (nI d)]) (rest := []) (c_X9_stand hh11 ((aa12 41 (by decide)).trans g41) h2 h60) ca_X9_stand km_X9_89 (by decide) hh11 rfl rfl rfl rfl (by decide) (Nat.le_of_ble_eq_true rfl) (by decide) dX9_sign_7 (fun vv14 gg15 qq16 => ?_)
  obtain ⟨rfl, rfl⟩ := qq16
  refine G_iconst C (v := 2) dX9_sign_10 (by decide) ?_
  refine G_irem C dX9_sign_11 (by decide) ?_
  refine G_if_ne C 19 dX9_sign_12 (by decide) (fun c12 => ?_) (fun c12 => ?_)
  · refine G_aload_n C 0 dX9_sign_19 rfl rfl ?_
    refine G_get C 40 (by decide) hh11 rfl inA9 18 (by decide) rfl kf_X9_95 rfl dX9_sign_20 ?_
    exact G_zret C hr rfl dX9_sign_23 ⟨_, _, _, _, _, _, _, _, _, _, _, _, (by rw [sgM, if_neg c12]), hh11, AA13⟩
  · refine G_iconst C (v := 1) dX9_sign_15 (by decide) ?_
    refine G_goto C 23 dX9_sign_16 (by decide) ?_
    exact G_zret C hr rfl dX9_sign_23 ⟨_, _, _, _, _, _, _, _, _, _, _, _, (by rw [sgM, if_pos c12]), hh11, AA13⟩

abbrev rm_X9_powerOfA : Room := ({ frames := 3, cells := 0, slots := 0, locals := 63 } : Room)
set_option maxRecDepth 100000 in
set_option maxHeartbeats 4000000 in
theorem c_X9_powerOfA {L : GL} {ad : Nat → Nat} {G : Nat → va_E} {n : Int32} {ik kn ln th m q te us sp bg fo le fi re ca : Int32} {fx fy nx ny ux uy px py : Int64}  (g40 : G 40 = .inr (9, [.ref (ad 41), .ref (ad 42), .ref (ad 43), .int ik, .ref (ad 44), .int kn, .ref (ad 45), .int ln, .int th, .int m, .int q, .int te, .long fx, .long fy, .long nx, .long ny, .long ux, .long uy, .int us, .long px, .long py, .ref (ad 46), .ref (ad 47), .int sp, .int bg, .int fo, .int le, .int fi, .int re, .int ca])) (hn0 : numF n = 0) : GM L yX9_powerOf cX9_powerOf 2 ((some .int)) rm_X9_powerOfA 50 ad G [.ref (ad 40), .int n] (fun vo G' => vo = some (.int 0) ∧ G' 40 = .inr (9, [.ref (ad 41), .ref (ad 42), .ref (ad 43), .int ik, .ref (ad 44), .int kn, .ref (ad 45), .int ln, .int 1, .int m, .int q, .int te, .long fx, .long fy, .long nx, .long ny, .long ux, .long uy, .int us, .long px, .long py, .ref (ad 46), .ref (ad 47), .int sp, .int bg, .int fo, .int le, .int fi, .int re, .int ca]) ∧ Agr [40] G G') := by
  refine GM.of (own := RX9) (lo := [(0, .ref (ad 40)), (1, .int n)]) (by decide +kernel) rfl rfl (Nat.le_of_ble_eq_true rfl) (fun E C hr => ?_)
  refine G_aload_n C 0 dX9_powerOf_0 rfl rfl ?_
  refine G_iload_n C 1 dX9_powerOf_1 rfl rfl ?_
  refine G_callV C (As := [.int n]) (rest := []) (c_X9_asksStoneA g40 hn0) ca_X9_asksStone km_X9_174 (by decide) g40 rfl rfl rfl rfl (by decide) (Nat.le_of_ble_eq_true rfl) (by decide) dX9_powerOf_2 (fun vv1 gg2 qq3 => ?_)
  obtain ⟨rfl, hh4, aa5⟩ := qq3
  have AA6 : Agr [40] G gg2 := aa5.wk (by simp)
  refine G_if_eq C 16 dX9_powerOf_5 (by decide) (fun _ => ?_) (fun h => absurd h (by decide))
  refine G_iconst C (v := 0) dX9_powerOf_16 (by decide) ?_
  exact G_zret C hr rfl dX9_powerOf_17 ⟨rfl, hh4, AA6⟩

abbrev rm_X9_powerOfS : Room := ({ frames := 3, cells := 0, slots := 0, locals := 63 } : Room)
set_option maxRecDepth 100000 in
set_option maxHeartbeats 4000000 in
theorem c_X9_powerOfS {L : GL} {ad : Nat → Nat} {G : Nat → va_E} {d : Nat} {ik kn ln th m q te us sp bg fo le fi re ca : Int32} {fx fy nx ny ux uy px py : Int64} {ml : Int32} {f : Nat → Int32}  (g40 : G 40 = .inr (9, [.ref (ad 41), .ref (ad 42), .ref (ad 43), .int ik, .ref (ad 44), .int kn, .ref (ad 45), .int ln, .int th, .int m, .int q, .int te, .long fx, .long fy, .long nx, .long ny, .long ux, .long uy, .int us, .long px, .long py, .ref (ad 46), .ref (ad 47), .int sp, .int bg, .int fo, .int le, .int fi, .int re, .int ca])) (g41 : G 41 = .inl (L.ac 0, 60, .inl (sv f ml))) (h2 : 2 ≤ d) (h60 : d ≤ 60) (hro : f d < 0) : GM L yX9_powerOf cX9_powerOf 2 ((some .int)) rm_X9_powerOfS 50 ad G [.ref (ad 40), .int (nI d)] (fun vo G' => vo = some (.int 0) ∧ G' 40 = .inr (9, [.ref (ad 41), .ref (ad 42), .ref (ad 43), .int ik, .ref (ad 44), .int kn, .ref (ad 45), .int ln, .int 2, .int m, .int q, .int te, .long fx, .long fy, .long nx, .long ny, .long ux, .long uy, .int us, .long px, .long py, .ref (ad 46), .ref (ad 47), .int sp, .int bg, .int fo, .int le, .int fi, .int re, .int ca]) ∧ Agr [40] G G') := by
  refine GM.of (own := RX9) (lo := [(0, .ref (ad 40)), (1, .int (nI d))]) (by decide +kernel) rfl rfl (Nat.le_of_ble_eq_true rfl) (fun E C hr => ?_)
  refine G_aload_n C 0 dX9_powerOf_0 rfl rfl ?_
  refine G_iload_n C 1 dX9_powerOf_1 rfl rfl ?_
  refine G_callV C (As := [.int (nI d)]) (rest := []) (c_X9_asksStoneS g40 g41 h2 h60 hro) ca_X9_asksStone km_X9_174 (by decide) g40 rfl rfl rfl rfl (by decide) (Nat.le_of_ble_eq_true rfl) (by decide) dX9_powerOf_2 (fun vv1 gg2 qq3 => ?_)
  obtain ⟨rfl, hh4, aa5⟩ := qq3
  have AA6 : Agr [40] G gg2 := aa5.wk (by simp)
  refine G_if_eq C 16 dX9_powerOf_5 (by decide) (fun _ => ?_) (fun h => absurd h (by decide))
  refine G_iconst C (v := 0) dX9_powerOf_16 (by decide) ?_
  exact G_zret C hr rfl dX9_powerOf_17 ⟨rfl, hh4, AA6⟩

abbrev rm_X9_powerOfR : Room := ({ frames := 3, cells := 0, slots := 0, locals := 63 } : Room)
set_option maxRecDepth 100000 in
set_option maxHeartbeats 4000000 in
theorem c_X9_powerOfR {L : GL} {ad : Nat → Nat} {G : Nat → va_E} {d h : Nat} {ik kn ln th m q te us sp bg fo le fi re ca : Int32} {fx fy nx ny ux uy px py : Int64} {ml : Int32} {f : Nat → Int32}  (g40 : G 40 = .inr (9, [.ref (ad 41), .ref (ad 42), .ref (ad 43), .int ik, .ref (ad 44), .int kn, .ref (ad 45), .int ln, .int th, .int m, .int q, .int te, .long fx, .long fy, .long nx, .long ny, .long ux, .long uy, .int us, .long px, .long py, .ref (ad 46), .ref (ad 47), .int sp, .int bg, .int fo, .int le, .int fi, .int re, .int ca])) (g41 : G 41 = .inl (L.ac 0, 60, .inl (sv f ml))) (h2 : 2 ≤ d) (h60 : d ≤ 60) (hp : pern d ≠ 0) (hg : h ≤ gpn d) (hf : f d = nI h) : GM L yX9_powerOf cX9_powerOf 2 ((some .int)) rm_X9_powerOfR 50 ad G [.ref (ad 40), .int (nI d)] (fun vo G' => ∃ (j1 : Int32) (j2 : Int32) (j3 : Int32) (j4 : Int64) (j5 : Int64) (j6 : Int64) (j7 : Int64) (u1 : Int64) (u2 : Int64) (u3 : Int32) (p1 : Int64) (p2 : Int64), vo = some (.int (f d)) ∧ G' 40 = .inr (9, [.ref (ad 41), .ref (ad 42), .ref (ad 43), .int ik, .ref (ad 44), .int kn, .ref (ad 45), .int ln, .int 0, .int j1, .int j2, .int j3, .long j4, .long j5, .long j6, .long j7, .long u1, .long u2, .int u3, .long p1, .long p2, .ref (ad 46), .ref (ad 47), .int sp, .int bg, .int fo, .int le, .int fi, .int re, .int ca]) ∧ Agr [40] G G') := by
  refine GM.of (own := RX9) (lo := [(0, .ref (ad 40)), (1, .int (nI d))]) (by decide +kernel) rfl rfl (Nat.le_of_ble_eq_true rfl) (fun E C hr => ?_)
  have h39 := gp_lt d (by omega)
  have hro : 0 ≤ f d := by rw [hf]; exact nI_pos' (by omega)
  refine G_aload_n C 0 dX9_powerOf_0 rfl rfl ?_
  refine G_iload_n C 1 dX9_powerOf_1 rfl rfl ?_
  refine G_callV C (As := [.int (nI d)]) (rest := []) (c_X9_asksStoneR g40 g41 h2 h60 hro) ca_X9_asksStone km_X9_174 (by decide) g40 rfl rfl rfl rfl (by decide) (Nat.le_of_ble_eq_true rfl) (by decide) dX9_powerOf_2 (fun vv1 gg2 qq3 => ?_)
  obtain ⟨rfl, hh4, aa5⟩ := qq3
  have AA6 : Agr [40] G gg2 := aa5.wk (by simp)
  refine G_if_eq C 16 dX9_powerOf_5 (by decide) (fun h => absurd h (by decide)) (fun _ => ?_)
  refine G_aload_n C 0 dX9_powerOf_8 rfl rfl ?_
  refine G_iload_n C 1 dX9_powerOf_9 rfl rfl ?_
  refine G_callV C (As := [.int (nI d)]) (rest := []) (c_X9_stand hh4 ((aa5 41 (by decide)).trans g41) h2 h60) ca_X9_stand km_X9_89 (by decide) hh4 rfl rfl rfl rfl (by decide) (Nat.le_of_ble_eq_true rfl) (by decide) dX9_powerOf_10 (fun vv7 gg8 qq9 => ?_)
  obtain ⟨rfl, rfl⟩ := qq9
  refine G_goto C 17 dX9_powerOf_13 (by decide) ?_
  exact G_zret C hr rfl dX9_powerOf_17 ⟨_, _, _, _, _, _, _, _, _, _, _, _, rfl, hh4, AA6⟩

abbrev rm_X9_xOfA : Room := ({ frames := 3, cells := 0, slots := 0, locals := 63 } : Room)
set_option maxRecDepth 100000 in
set_option maxHeartbeats 4000000 in
theorem c_X9_xOfA {L : GL} {ad : Nat → Nat} {G : Nat → va_E} {n : Int32} {ik kn ln th m q te us sp bg fo le fi re ca : Int32} {fx fy nx ny ux uy px py : Int64}  (g40 : G 40 = .inr (9, [.ref (ad 41), .ref (ad 42), .ref (ad 43), .int ik, .ref (ad 44), .int kn, .ref (ad 45), .int ln, .int th, .int m, .int q, .int te, .long fx, .long fy, .long nx, .long ny, .long ux, .long uy, .int us, .long px, .long py, .ref (ad 46), .ref (ad 47), .int sp, .int bg, .int fo, .int le, .int fi, .int re, .int ca])) (hn0 : numF n = 0) : GM L yX9_xOf cX9_xOf 2 ((some .long)) rm_X9_xOfA 50 ad G [.ref (ad 40), .int n] (fun vo G' => vo = some (.long 0) ∧ G' 40 = .inr (9, [.ref (ad 41), .ref (ad 42), .ref (ad 43), .int ik, .ref (ad 44), .int kn, .ref (ad 45), .int ln, .int 1, .int m, .int q, .int te, .long fx, .long fy, .long nx, .long ny, .long ux, .long uy, .int us, .long px, .long py, .ref (ad 46), .ref (ad 47), .int sp, .int bg, .int fo, .int le, .int fi, .int re, .int ca]) ∧ Agr [40] G G') := by
  refine GM.of (own := RX9) (lo := [(0, .ref (ad 40)), (1, .int n)]) (by decide +kernel) rfl rfl (Nat.le_of_ble_eq_true rfl) (fun E C hr => ?_)
  refine G_aload_n C 0 dX9_xOf_0 rfl rfl ?_
  refine G_iload_n C 1 dX9_xOf_1 rfl rfl ?_
  refine G_callV C (As := [.int n]) (rest := []) (c_X9_asksStoneA g40 hn0) ca_X9_asksStone km_X9_174 (by decide) g40 rfl rfl rfl rfl (by decide) (Nat.le_of_ble_eq_true rfl) (by decide) dX9_xOf_2 (fun vv1 gg2 qq3 => ?_)
  obtain ⟨rfl, hh4, aa5⟩ := qq3
  have AA6 : Agr [40] G gg2 := aa5.wk (by simp)
  refine G_if_ne C 10 dX9_xOf_5 (by decide) (fun h => absurd h (by decide)) (fun _ => ?_)
  refine G_lconst C (v := 0) dX9_xOf_8 (by decide) ?_
  exact G_lret C hr dX9_xOf_9 ⟨rfl, hh4, AA6⟩

abbrev rm_X9_xOfS : Room := ({ frames := 3, cells := 0, slots := 0, locals := 63 } : Room)
set_option maxRecDepth 100000 in
set_option maxHeartbeats 4000000 in
theorem c_X9_xOfS {L : GL} {ad : Nat → Nat} {G : Nat → va_E} {d : Nat} {ik kn ln th m q te us sp bg fo le fi re ca : Int32} {fx fy nx ny ux uy px py : Int64} {ml : Int32} {f : Nat → Int32}  (g40 : G 40 = .inr (9, [.ref (ad 41), .ref (ad 42), .ref (ad 43), .int ik, .ref (ad 44), .int kn, .ref (ad 45), .int ln, .int th, .int m, .int q, .int te, .long fx, .long fy, .long nx, .long ny, .long ux, .long uy, .int us, .long px, .long py, .ref (ad 46), .ref (ad 47), .int sp, .int bg, .int fo, .int le, .int fi, .int re, .int ca])) (g41 : G 41 = .inl (L.ac 0, 60, .inl (sv f ml))) (h2 : 2 ≤ d) (h60 : d ≤ 60) (hro : f d < 0) : GM L yX9_xOf cX9_xOf 2 ((some .long)) rm_X9_xOfS 50 ad G [.ref (ad 40), .int (nI d)] (fun vo G' => vo = some (.long 0) ∧ G' 40 = .inr (9, [.ref (ad 41), .ref (ad 42), .ref (ad 43), .int ik, .ref (ad 44), .int kn, .ref (ad 45), .int ln, .int 2, .int m, .int q, .int te, .long fx, .long fy, .long nx, .long ny, .long ux, .long uy, .int us, .long px, .long py, .ref (ad 46), .ref (ad 47), .int sp, .int bg, .int fo, .int le, .int fi, .int re, .int ca]) ∧ Agr [40] G G') := by
  refine GM.of (own := RX9) (lo := [(0, .ref (ad 40)), (1, .int (nI d))]) (by decide +kernel) rfl rfl (Nat.le_of_ble_eq_true rfl) (fun E C hr => ?_)
  refine G_aload_n C 0 dX9_xOf_0 rfl rfl ?_
  refine G_iload_n C 1 dX9_xOf_1 rfl rfl ?_
  refine G_callV C (As := [.int (nI d)]) (rest := []) (c_X9_asksStoneS g40 g41 h2 h60 hro) ca_X9_asksStone km_X9_174 (by decide) g40 rfl rfl rfl rfl (by decide) (Nat.le_of_ble_eq_true rfl) (by decide) dX9_xOf_2 (fun vv1 gg2 qq3 => ?_)
  obtain ⟨rfl, hh4, aa5⟩ := qq3
  have AA6 : Agr [40] G gg2 := aa5.wk (by simp)
  refine G_if_ne C 10 dX9_xOf_5 (by decide) (fun h => absurd h (by decide)) (fun _ => ?_)
  refine G_lconst C (v := 0) dX9_xOf_8 (by decide) ?_
  exact G_lret C hr dX9_xOf_9 ⟨rfl, hh4, AA6⟩

abbrev rm_X9_xOfR : Room := ({ frames := 5, cells := 0, slots := 0, locals := 108 } : Room)
set_option maxRecDepth 100000 in
set_option maxHeartbeats 4000000 in
theorem c_X9_xOfR {L : GL} {ad : Nat → Nat} {G : Nat → va_E} {d h : Nat} {ik kn ln th m q te us sp bg fo le fi re ca : Int32} {fx fy nx ny ux uy px py : Int64} {ml : Int32} {f : Nat → Int32}  (g40 : G 40 = .inr (9, [.ref (ad 41), .ref (ad 42), .ref (ad 43), .int ik, .ref (ad 44), .int kn, .ref (ad 45), .int ln, .int th, .int m, .int q, .int te, .long fx, .long fy, .long nx, .long ny, .long ux, .long uy, .int us, .long px, .long py, .ref (ad 46), .ref (ad 47), .int sp, .int bg, .int fo, .int le, .int fi, .int re, .int ca])) (g41 : G 41 = .inl (L.ac 0, 60, .inl (sv f ml))) (h2 : 2 ≤ d) (h60 : d ≤ 60) (hp : pern d ≠ 0) (hg : h ≤ gpn d) (hf : f d = nI h) : GM L yX9_xOf cX9_xOf 2 ((some .long)) rm_X9_xOfR 50 ad G [.ref (ad 40), .int (nI d)] (fun vo G' => ∃ (j1 : Int32) (j2 : Int32) (j3 : Int32) (j4 : Int64) (j5 : Int64) (j6 : Int64) (j7 : Int64) (u1 : Int64) (u2 : Int64) (u3 : Int32) (p1 : Int64) (p2 : Int64), vo = some (.long ((pwr d h).1)) ∧ G' 40 = .inr (9, [.ref (ad 41), .ref (ad 42), .ref (ad 43), .int ik, .ref (ad 44), .int kn, .ref (ad 45), .int ln, .int 0, .int j1, .int j2, .int j3, .long j4, .long j5, .long j6, .long j7, .long u1, .long u2, .int u3, .long p1, .long p2, .ref (ad 46), .ref (ad 47), .int sp, .int bg, .int fo, .int le, .int fi, .int re, .int ca]) ∧ Agr [40] G G') := by
  refine GM.of (own := RX9) (lo := [(0, .ref (ad 40)), (1, .int (nI d))]) (by decide +kernel) rfl rfl (Nat.le_of_ble_eq_true rfl) (fun E C hr => ?_)
  have h39 := gp_lt d (by omega)
  have hro : 0 ≤ f d := by rw [hf]; exact nI_pos' (by omega)
  refine G_aload_n C 0 dX9_xOf_0 rfl rfl ?_
  refine G_iload_n C 1 dX9_xOf_1 rfl rfl ?_
  refine G_callV C (As := [.int (nI d)]) (rest := []) (c_X9_asksStoneR g40 g41 h2 h60 hro) ca_X9_asksStone km_X9_174 (by decide) g40 rfl rfl rfl rfl (by decide) (Nat.le_of_ble_eq_true rfl) (by decide) dX9_xOf_2 (fun vv1 gg2 qq3 => ?_)
  obtain ⟨rfl, hh4, aa5⟩ := qq3
  have AA6 : Agr [40] G gg2 := aa5.wk (by simp)
  refine G_if_ne C 10 dX9_xOf_5 (by decide) (fun _ => ?_) (fun h => absurd h (by decide))
  refine G_aload_n C 0 dX9_xOf_10 rfl rfl ?_
  refine G_iload_n C 1 dX9_xOf_11 rfl rfl ?_
  refine G_aload_n C 0 dX9_xOf_12 rfl rfl ?_
  refine G_iload_n C 1 dX9_xOf_13 rfl rfl ?_
  refine G_callV C (As := [.int (nI d)]) (rest := [.int (nI d), .ref (ad 40)]) (c_X9_stand hh4 ((aa5 41 (by decide)).trans g41) h2 h60) ca_X9_stand km_X9_89 (by decide) hh4 rfl rfl rfl rfl (by decide) (Nat.le_of_ble_eq_true rfl) (by decide) dX9_xOf_14 (fun vv7 gg8 qq9 => ?_)
  obtain ⟨rfl, rfl⟩ := qq9
  refine GW.topr (y := nI h) hf ?_
  refine G_callV C (As := [.int (nI d), .int (nI h)]) (rest := []) (c_X9_reaches hh4 h2 h60 hp hg) ca_X9_reaches km_X9_136 (by decide) hh4 rfl rfl rfl rfl (by decide) (Nat.le_of_ble_eq_true rfl) (by decide) dX9_xOf_17 (fun vv10 gg11 qq12 => ?_)
  obtain ⟨j_13, j_14, j_15, j_16, j_17, j_18, j_19, rfl, hh20, aa21⟩ := qq12
  have AA22 : Agr [40] G gg11 := AA6.tr aa21 (by simp) (by simp)
  refine G_aload_n C 0 dX9_xOf_20 rfl rfl ?_
  refine G_get C 40 (by decide) hh20 rfl inA9 19 (by decide) rfl kf_X9_104 rfl dX9_xOf_21 ?_
  exact G_lret C hr dX9_xOf_24 ⟨_, _, _, _, _, _, _, _, _, _, _, _, rfl, hh20, AA22⟩

abbrev rm_X9_yOfA : Room := ({ frames := 3, cells := 0, slots := 0, locals := 63 } : Room)
set_option maxRecDepth 100000 in
set_option maxHeartbeats 4000000 in
theorem c_X9_yOfA {L : GL} {ad : Nat → Nat} {G : Nat → va_E} {n : Int32} {ik kn ln th m q te us sp bg fo le fi re ca : Int32} {fx fy nx ny ux uy px py : Int64}  (g40 : G 40 = .inr (9, [.ref (ad 41), .ref (ad 42), .ref (ad 43), .int ik, .ref (ad 44), .int kn, .ref (ad 45), .int ln, .int th, .int m, .int q, .int te, .long fx, .long fy, .long nx, .long ny, .long ux, .long uy, .int us, .long px, .long py, .ref (ad 46), .ref (ad 47), .int sp, .int bg, .int fo, .int le, .int fi, .int re, .int ca])) (hn0 : numF n = 0) : GM L yX9_yOf cX9_yOf 2 ((some .long)) rm_X9_yOfA 50 ad G [.ref (ad 40), .int n] (fun vo G' => vo = some (.long 0) ∧ G' 40 = .inr (9, [.ref (ad 41), .ref (ad 42), .ref (ad 43), .int ik, .ref (ad 44), .int kn, .ref (ad 45), .int ln, .int 1, .int m, .int q, .int te, .long fx, .long fy, .long nx, .long ny, .long ux, .long uy, .int us, .long px, .long py, .ref (ad 46), .ref (ad 47), .int sp, .int bg, .int fo, .int le, .int fi, .int re, .int ca]) ∧ Agr [40] G G') := by
  refine GM.of (own := RX9) (lo := [(0, .ref (ad 40)), (1, .int n)]) (by decide +kernel) rfl rfl (Nat.le_of_ble_eq_true rfl) (fun E C hr => ?_)
  refine G_aload_n C 0 dX9_yOf_0 rfl rfl ?_
  refine G_iload_n C 1 dX9_yOf_1 rfl rfl ?_
  refine G_callV C (As := [.int n]) (rest := []) (c_X9_asksStoneA g40 hn0) ca_X9_asksStone km_X9_174 (by decide) g40 rfl rfl rfl rfl (by decide) (Nat.le_of_ble_eq_true rfl) (by decide) dX9_yOf_2 (fun vv1 gg2 qq3 => ?_)
  obtain ⟨rfl, hh4, aa5⟩ := qq3
  have AA6 : Agr [40] G gg2 := aa5.wk (by simp)
  refine G_if_ne C 10 dX9_yOf_5 (by decide) (fun h => absurd h (by decide)) (fun _ => ?_)
  refine G_lconst C (v := 0) dX9_yOf_8 (by decide) ?_
  exact G_lret C hr dX9_yOf_9 ⟨rfl, hh4, AA6⟩

abbrev rm_X9_yOfS : Room := ({ frames := 3, cells := 0, slots := 0, locals := 63 } : Room)
set_option maxRecDepth 100000 in
set_option maxHeartbeats 4000000 in
theorem c_X9_yOfS {L : GL} {ad : Nat → Nat} {G : Nat → va_E} {d : Nat} {ik kn ln th m q te us sp bg fo le fi re ca : Int32} {fx fy nx ny ux uy px py : Int64} {ml : Int32} {f : Nat → Int32}  (g40 : G 40 = .inr (9, [.ref (ad 41), .ref (ad 42), .ref (ad 43), .int ik, .ref (ad 44), .int kn, .ref (ad 45), .int ln, .int th, .int m, .int q, .int te, .long fx, .long fy, .long nx, .long ny, .long ux, .long uy, .int us, .long px, .long py, .ref (ad 46), .ref (ad 47), .int sp, .int bg, .int fo, .int le, .int fi, .int re, .int ca])) (g41 : G 41 = .inl (L.ac 0, 60, .inl (sv f ml))) (h2 : 2 ≤ d) (h60 : d ≤ 60) (hro : f d < 0) : GM L yX9_yOf cX9_yOf 2 ((some .long)) rm_X9_yOfS 50 ad G [.ref (ad 40), .int (nI d)] (fun vo G' => vo = some (.long 0) ∧ G' 40 = .inr (9, [.ref (ad 41), .ref (ad 42), .ref (ad 43), .int ik, .ref (ad 44), .int kn, .ref (ad 45), .int ln, .int 2, .int m, .int q, .int te, .long fx, .long fy, .long nx, .long ny, .long ux, .long uy, .int us, .long px, .long py, .ref (ad 46), .ref (ad 47), .int sp, .int bg, .int fo, .int le, .int fi, .int re, .int ca]) ∧ Agr [40] G G') := by
  refine GM.of (own := RX9) (lo := [(0, .ref (ad 40)), (1, .int (nI d))]) (by decide +kernel) rfl rfl (Nat.le_of_ble_eq_true rfl) (fun E C hr => ?_)
  refine G_aload_n C 0 dX9_yOf_0 rfl rfl ?_
  refine G_iload_n C 1 dX9_yOf_1 rfl rfl ?_
  refine G_callV C (As := [.int (nI d)]) (rest := []) (c_X9_asksStoneS g40 g41 h2 h60 hro) ca_X9_asksStone km_X9_174 (by decide) g40 rfl rfl rfl rfl (by decide) (Nat.le_of_ble_eq_true rfl) (by decide) dX9_yOf_2 (fun vv1 gg2 qq3 => ?_)
  obtain ⟨rfl, hh4, aa5⟩ := qq3
  have AA6 : Agr [40] G gg2 := aa5.wk (by simp)
  refine G_if_ne C 10 dX9_yOf_5 (by decide) (fun h => absurd h (by decide)) (fun _ => ?_)
  refine G_lconst C (v := 0) dX9_yOf_8 (by decide) ?_
  exact G_lret C hr dX9_yOf_9 ⟨rfl, hh4, AA6⟩

abbrev rm_X9_yOfR : Room := ({ frames := 5, cells := 0, slots := 0, locals := 108 } : Room)
set_option maxRecDepth 100000 in
set_option maxHeartbeats 4000000 in
theorem c_X9_yOfR {L : GL} {ad : Nat → Nat} {G : Nat → va_E} {d h : Nat} {ik kn ln th m q te us sp bg fo le fi re ca : Int32} {fx fy nx ny ux uy px py : Int64} {ml : Int32} {f : Nat → Int32}  (g40 : G 40 = .inr (9, [.ref (ad 41), .ref (ad 42), .ref (ad 43), .int ik, .ref (ad 44), .int kn, .ref (ad 45), .int ln, .int th, .int m, .int q, .int te, .long fx, .long fy, .long nx, .long ny, .long ux, .long uy, .int us, .long px, .long py, .ref (ad 46), .ref (ad 47), .int sp, .int bg, .int fo, .int le, .int fi, .int re, .int ca])) (g41 : G 41 = .inl (L.ac 0, 60, .inl (sv f ml))) (h2 : 2 ≤ d) (h60 : d ≤ 60) (hp : pern d ≠ 0) (hg : h ≤ gpn d) (hf : f d = nI h) : GM L yX9_yOf cX9_yOf 2 ((some .long)) rm_X9_yOfR 50 ad G [.ref (ad 40), .int (nI d)] (fun vo G' => ∃ (j1 : Int32) (j2 : Int32) (j3 : Int32) (j4 : Int64) (j5 : Int64) (j6 : Int64) (j7 : Int64) (u1 : Int64) (u2 : Int64) (u3 : Int32) (p1 : Int64) (p2 : Int64), vo = some (.long ((pwr d h).2)) ∧ G' 40 = .inr (9, [.ref (ad 41), .ref (ad 42), .ref (ad 43), .int ik, .ref (ad 44), .int kn, .ref (ad 45), .int ln, .int 0, .int j1, .int j2, .int j3, .long j4, .long j5, .long j6, .long j7, .long u1, .long u2, .int u3, .long p1, .long p2, .ref (ad 46), .ref (ad 47), .int sp, .int bg, .int fo, .int le, .int fi, .int re, .int ca]) ∧ Agr [40] G G') := by
  refine GM.of (own := RX9) (lo := [(0, .ref (ad 40)), (1, .int (nI d))]) (by decide +kernel) rfl rfl (Nat.le_of_ble_eq_true rfl) (fun E C hr => ?_)
  have h39 := gp_lt d (by omega)
  have hro : 0 ≤ f d := by rw [hf]; exact nI_pos' (by omega)
  refine G_aload_n C 0 dX9_yOf_0 rfl rfl ?_
  refine G_iload_n C 1 dX9_yOf_1 rfl rfl ?_
  refine G_callV C (As := [.int (nI d)]) (rest := []) (c_X9_asksStoneR g40 g41 h2 h60 hro) ca_X9_asksStone km_X9_174 (by decide) g40 rfl rfl rfl rfl (by decide) (Nat.le_of_ble_eq_true rfl) (by decide) dX9_yOf_2 (fun vv1 gg2 qq3 => ?_)
  obtain ⟨rfl, hh4, aa5⟩ := qq3
  have AA6 : Agr [40] G gg2 := aa5.wk (by simp)
  refine G_if_ne C 10 dX9_yOf_5 (by decide) (fun _ => ?_) (fun h => absurd h (by decide))
  refine G_aload_n C 0 dX9_yOf_10 rfl rfl ?_
  refine G_iload_n C 1 dX9_yOf_11 rfl rfl ?_
  refine G_aload_n C 0 dX9_yOf_12 rfl rfl ?_
  refine G_iload_n C 1 dX9_yOf_13 rfl rfl ?_
  refine G_callV C (As := [.int (nI d)]) (rest := [.int (nI d), .ref (ad 40)]) (c_X9_stand hh4 ((aa5 41 (by decide)).trans g41) h2 h60) ca_X9_stand km_X9_89 (by decide) hh4 rfl rfl rfl rfl (by decide) (Nat.le_of_ble_eq_true rfl) (by decide) dX9_yOf_14 (fun vv7 gg8 qq9 => ?_)
  obtain ⟨rfl, rfl⟩ := qq9
  refine GW.topr (y := nI h) hf ?_
  refine G_callV C (As := [.int (nI d), .int (nI h)]) (rest := []) (c_X9_reaches hh4 h2 h60 hp hg) ca_X9_reaches km_X9_136 (by decide) hh4 rfl rfl rfl rfl (by decide) (Nat.le_of_ble_eq_true rfl) (by decide) dX9_yOf_17 (fun vv10 gg11 qq12 => ?_)
  obtain ⟨j_13, j_14, j_15, j_16, j_17, j_18, j_19, rfl, hh20, aa21⟩ := qq12
  have AA22 : Agr [40] G gg11 := AA6.tr aa21 (by simp) (by simp)
  refine G_aload_n C 0 dX9_yOf_20 rfl rfl ?_
  refine G_get C 40 (by decide) hh20 rfl inA9 20 (by decide) rfl kf_X9_107 rfl dX9_yOf_21 ?_
  exact G_lret C hr dX9_yOf_24 ⟨_, _, _, _, _, _, _, _, _, _, _, _, rfl, hh20, AA22⟩

abbrev rm_X9_signOfA : Room := ({ frames := 3, cells := 0, slots := 0, locals := 63 } : Room)
set_option maxRecDepth 100000 in
set_option maxHeartbeats 4000000 in
theorem c_X9_signOfA {L : GL} {ad : Nat → Nat} {G : Nat → va_E} {n : Int32} {ik kn ln th m q te us sp bg fo le fi re ca : Int32} {fx fy nx ny ux uy px py : Int64}  (g40 : G 40 = .inr (9, [.ref (ad 41), .ref (ad 42), .ref (ad 43), .int ik, .ref (ad 44), .int kn, .ref (ad 45), .int ln, .int th, .int m, .int q, .int te, .long fx, .long fy, .long nx, .long ny, .long ux, .long uy, .int us, .long px, .long py, .ref (ad 46), .ref (ad 47), .int sp, .int bg, .int fo, .int le, .int fi, .int re, .int ca])) (hn0 : numF n = 0) : GM L yX9_signOf cX9_signOf 2 ((some .int)) rm_X9_signOfA 50 ad G [.ref (ad 40), .int n] (fun vo G' => vo = some (.int 0) ∧ G' 40 = .inr (9, [.ref (ad 41), .ref (ad 42), .ref (ad 43), .int ik, .ref (ad 44), .int kn, .ref (ad 45), .int ln, .int 1, .int m, .int q, .int te, .long fx, .long fy, .long nx, .long ny, .long ux, .long uy, .int us, .long px, .long py, .ref (ad 46), .ref (ad 47), .int sp, .int bg, .int fo, .int le, .int fi, .int re, .int ca]) ∧ Agr [40] G G') := by
  refine GM.of (own := RX9) (lo := [(0, .ref (ad 40)), (1, .int n)]) (by decide +kernel) rfl rfl (Nat.le_of_ble_eq_true rfl) (fun E C hr => ?_)
  refine G_aload_n C 0 dX9_signOf_0 rfl rfl ?_
  refine G_iload_n C 1 dX9_signOf_1 rfl rfl ?_
  refine G_callV C (As := [.int n]) (rest := []) (c_X9_asksStoneA g40 hn0) ca_X9_asksStone km_X9_174 (by decide) g40 rfl rfl rfl rfl (by decide) (Nat.le_of_ble_eq_true rfl) (by decide) dX9_signOf_2 (fun vv1 gg2 qq3 => ?_)
  obtain ⟨rfl, hh4, aa5⟩ := qq3
  have AA6 : Agr [40] G gg2 := aa5.wk (by simp)
  refine G_if_eq C 16 dX9_signOf_5 (by decide) (fun _ => ?_) (fun h => absurd h (by decide))
  refine G_iconst C (v := 0) dX9_signOf_16 (by decide) ?_
  exact G_zret C hr rfl dX9_signOf_17 ⟨rfl, hh4, AA6⟩

abbrev rm_X9_signOfS : Room := ({ frames := 3, cells := 0, slots := 0, locals := 63 } : Room)
set_option maxRecDepth 100000 in
set_option maxHeartbeats 4000000 in
theorem c_X9_signOfS {L : GL} {ad : Nat → Nat} {G : Nat → va_E} {d : Nat} {ik kn ln th m q te us sp bg fo le fi re ca : Int32} {fx fy nx ny ux uy px py : Int64} {ml : Int32} {f : Nat → Int32}  (g40 : G 40 = .inr (9, [.ref (ad 41), .ref (ad 42), .ref (ad 43), .int ik, .ref (ad 44), .int kn, .ref (ad 45), .int ln, .int th, .int m, .int q, .int te, .long fx, .long fy, .long nx, .long ny, .long ux, .long uy, .int us, .long px, .long py, .ref (ad 46), .ref (ad 47), .int sp, .int bg, .int fo, .int le, .int fi, .int re, .int ca])) (g41 : G 41 = .inl (L.ac 0, 60, .inl (sv f ml))) (h2 : 2 ≤ d) (h60 : d ≤ 60) (hro : f d < 0) : GM L yX9_signOf cX9_signOf 2 ((some .int)) rm_X9_signOfS 50 ad G [.ref (ad 40), .int (nI d)] (fun vo G' => vo = some (.int 0) ∧ G' 40 = .inr (9, [.ref (ad 41), .ref (ad 42), .ref (ad 43), .int ik, .ref (ad 44), .int kn, .ref (ad 45), .int ln, .int 2, .int m, .int q, .int te, .long fx, .long fy, .long nx, .long ny, .long ux, .long uy, .int us, .long px, .long py, .ref (ad 46), .ref (ad 47), .int sp, .int bg, .int fo, .int le, .int fi, .int re, .int ca]) ∧ Agr [40] G G') := by
  refine GM.of (own := RX9) (lo := [(0, .ref (ad 40)), (1, .int (nI d))]) (by decide +kernel) rfl rfl (Nat.le_of_ble_eq_true rfl) (fun E C hr => ?_)
  refine G_aload_n C 0 dX9_signOf_0 rfl rfl ?_
  refine G_iload_n C 1 dX9_signOf_1 rfl rfl ?_
  refine G_callV C (As := [.int (nI d)]) (rest := []) (c_X9_asksStoneS g40 g41 h2 h60 hro) ca_X9_asksStone km_X9_174 (by decide) g40 rfl rfl rfl rfl (by decide) (Nat.le_of_ble_eq_true rfl) (by decide) dX9_signOf_2 (fun vv1 gg2 qq3 => ?_)
  obtain ⟨rfl, hh4, aa5⟩ := qq3
  have AA6 : Agr [40] G gg2 := aa5.wk (by simp)
  refine G_if_eq C 16 dX9_signOf_5 (by decide) (fun _ => ?_) (fun h => absurd h (by decide))
  refine G_iconst C (v := 0) dX9_signOf_16 (by decide) ?_
  exact G_zret C hr rfl dX9_signOf_17 ⟨rfl, hh4, AA6⟩

abbrev rm_X9_signOfR : Room := ({ frames := 5, cells := 0, slots := 0, locals := 106 } : Room)
set_option maxRecDepth 100000 in
set_option maxHeartbeats 4000000 in
theorem c_X9_signOfR {L : GL} {ad : Nat → Nat} {G : Nat → va_E} {d h : Nat} {ik kn ln th m q te us sp bg fo le fi re ca : Int32} {fx fy nx ny ux uy px py : Int64} {ml : Int32} {f : Nat → Int32}  (g40 : G 40 = .inr (9, [.ref (ad 41), .ref (ad 42), .ref (ad 43), .int ik, .ref (ad 44), .int kn, .ref (ad 45), .int ln, .int th, .int m, .int q, .int te, .long fx, .long fy, .long nx, .long ny, .long ux, .long uy, .int us, .long px, .long py, .ref (ad 46), .ref (ad 47), .int sp, .int bg, .int fo, .int le, .int fi, .int re, .int ca])) (g41 : G 41 = .inl (L.ac 0, 60, .inl (sv f ml))) (h2 : 2 ≤ d) (h60 : d ≤ 60) (hp : pern d ≠ 0) (hg : h ≤ gpn d) (hf : f d = nI h) : GM L yX9_signOf cX9_signOf 2 ((some .int)) rm_X9_signOfR 50 ad G [.ref (ad 40), .int (nI d)] (fun vo G' => ∃ (j1 : Int32) (j2 : Int32) (j3 : Int32) (j4 : Int64) (j5 : Int64) (j6 : Int64) (j7 : Int64) (u1 : Int64) (u2 : Int64) (u3 : Int32) (p1 : Int64) (p2 : Int64), vo = some (.int (sgM f d)) ∧ G' 40 = .inr (9, [.ref (ad 41), .ref (ad 42), .ref (ad 43), .int ik, .ref (ad 44), .int kn, .ref (ad 45), .int ln, .int 0, .int j1, .int j2, .int j3, .long j4, .long j5, .long j6, .long j7, .long u1, .long u2, .int u3, .long p1, .long p2, .ref (ad 46), .ref (ad 47), .int sp, .int bg, .int fo, .int le, .int fi, .int re, .int ca]) ∧ Agr [40] G G') := by
  refine GM.of (own := RX9) (lo := [(0, .ref (ad 40)), (1, .int (nI d))]) (by decide +kernel) rfl rfl (Nat.le_of_ble_eq_true rfl) (fun E C hr => ?_)
  have h39 := gp_lt d (by omega)
  have hro : 0 ≤ f d := by rw [hf]; exact nI_pos' (by omega)
  refine G_aload_n C 0 dX9_signOf_0 rfl rfl ?_
  refine G_iload_n C 1 dX9_signOf_1 rfl rfl ?_
  refine G_callV C (As := [.int (nI d)]) (rest := []) (c_X9_asksStoneR g40 g41 h2 h60 hro) ca_X9_asksStone km_X9_174 (by decide) g40 rfl rfl rfl rfl (by decide) (Nat.le_of_ble_eq_true rfl) (by decide) dX9_signOf_2 (fun vv1 gg2 qq3 => ?_)
  obtain ⟨rfl, hh4, aa5⟩ := qq3
  have AA6 : Agr [40] G gg2 := aa5.wk (by simp)
  refine G_if_eq C 16 dX9_signOf_5 (by decide) (fun h => absurd h (by decide)) (fun _ => ?_)
  refine G_aload_n C 0 dX9_signOf_8 rfl rfl ?_
  refine G_iload_n C 1 dX9_signOf_9 rfl rfl ?_
  refine G_callV C (As := [.int (nI d)]) (rest := []) (c_X9_sign hh4 ((aa5 41 (by decide)).trans g41) h2 h60 hp) ca_X9_sign km_X9_177 (by decide) hh4 rfl rfl rfl rfl (by decide) (Nat.le_of_ble_eq_true rfl) (by decide) dX9_signOf_10 (fun vv7 gg8 qq9 => ?_)
  obtain ⟨j_10, j_11, j_12, j_13, j_14, j_15, j_16, u_17, u_18, u_19, p_20, p_21, rfl, hh22, aa23⟩ := qq9
  have AA24 : Agr [40] G gg8 := AA6.tr aa23 (by simp) (by simp)
  refine G_goto C 17 dX9_signOf_13 (by decide) ?_
  exact G_zret C hr rfl dX9_signOf_17 ⟨_, _, _, _, _, _, _, _, _, _, _, _, rfl, hh22, AA24⟩

abbrev rm_X9_signByRemaindersA : Room := ({ frames := 3, cells := 0, slots := 0, locals := 63 } : Room)
set_option maxRecDepth 100000 in
set_option maxHeartbeats 4000000 in
theorem c_X9_signByRemaindersA {L : GL} {ad : Nat → Nat} {G : Nat → va_E} {n : Int32} {ik kn ln th m q te us sp bg fo le fi re ca : Int32} {fx fy nx ny ux uy px py : Int64}  (g40 : G 40 = .inr (9, [.ref (ad 41), .ref (ad 42), .ref (ad 43), .int ik, .ref (ad 44), .int kn, .ref (ad 45), .int ln, .int th, .int m, .int q, .int te, .long fx, .long fy, .long nx, .long ny, .long ux, .long uy, .int us, .long px, .long py, .ref (ad 46), .ref (ad 47), .int sp, .int bg, .int fo, .int le, .int fi, .int re, .int ca])) (hn0 : numF n = 0) : GM L yX9_signByRemainders cX9_signByRemainders 2 ((some .int)) rm_X9_signByRemaindersA 50 ad G [.ref (ad 40), .int n] (fun vo G' => vo = some (.int 0) ∧ G' 40 = .inr (9, [.ref (ad 41), .ref (ad 42), .ref (ad 43), .int ik, .ref (ad 44), .int kn, .ref (ad 45), .int ln, .int 1, .int m, .int q, .int te, .long fx, .long fy, .long nx, .long ny, .long ux, .long uy, .int us, .long px, .long py, .ref (ad 46), .ref (ad 47), .int sp, .int bg, .int fo, .int le, .int fi, .int re, .int ca]) ∧ Agr [40] G G') := by
  refine GM.of (own := RX9) (lo := [(0, .ref (ad 40)), (1, .int n)]) (by decide +kernel) rfl rfl (Nat.le_of_ble_eq_true rfl) (fun E C hr => ?_)
  refine G_aload_n C 0 dX9_signByRemainders_0 rfl rfl ?_
  refine G_iload_n C 1 dX9_signByRemainders_1 rfl rfl ?_
  refine G_callV C (As := [.int n]) (rest := []) (c_X9_asksStoneA g40 hn0) ca_X9_asksStone km_X9_174 (by decide) g40 rfl rfl rfl rfl (by decide) (Nat.le_of_ble_eq_true rfl) (by decide) dX9_signByRemainders_2 (fun vv1 gg2 qq3 => ?_)
  obtain ⟨rfl, hh4, aa5⟩ := qq3
  have AA6 : Agr [40] G gg2 := aa5.wk (by simp)
  refine G_if_eq C 16 dX9_signByRemainders_5 (by decide) (fun _ => ?_) (fun h => absurd h (by decide))
  refine G_iconst C (v := 0) dX9_signByRemainders_16 (by decide) ?_
  exact G_zret C hr rfl dX9_signByRemainders_17 ⟨rfl, hh4, AA6⟩

abbrev rm_X9_signByRemaindersS : Room := ({ frames := 3, cells := 0, slots := 0, locals := 63 } : Room)
set_option maxRecDepth 100000 in
set_option maxHeartbeats 4000000 in
theorem c_X9_signByRemaindersS {L : GL} {ad : Nat → Nat} {G : Nat → va_E} {d : Nat} {ik kn ln th m q te us sp bg fo le fi re ca : Int32} {fx fy nx ny ux uy px py : Int64} {ml : Int32} {f : Nat → Int32}  (g40 : G 40 = .inr (9, [.ref (ad 41), .ref (ad 42), .ref (ad 43), .int ik, .ref (ad 44), .int kn, .ref (ad 45), .int ln, .int th, .int m, .int q, .int te, .long fx, .long fy, .long nx, .long ny, .long ux, .long uy, .int us, .long px, .long py, .ref (ad 46), .ref (ad 47), .int sp, .int bg, .int fo, .int le, .int fi, .int re, .int ca])) (g41 : G 41 = .inl (L.ac 0, 60, .inl (sv f ml))) (h2 : 2 ≤ d) (h60 : d ≤ 60) (hro : f d < 0) : GM L yX9_signByRemainders cX9_signByRemainders 2 ((some .int)) rm_X9_signByRemaindersS 50 ad G [.ref (ad 40), .int (nI d)] (fun vo G' => vo = some (.int 0) ∧ G' 40 = .inr (9, [.ref (ad 41), .ref (ad 42), .ref (ad 43), .int ik, .ref (ad 44), .int kn, .ref (ad 45), .int ln, .int 2, .int m, .int q, .int te, .long fx, .long fy, .long nx, .long ny, .long ux, .long uy, .int us, .long px, .long py, .ref (ad 46), .ref (ad 47), .int sp, .int bg, .int fo, .int le, .int fi, .int re, .int ca]) ∧ Agr [40] G G') := by
  refine GM.of (own := RX9) (lo := [(0, .ref (ad 40)), (1, .int (nI d))]) (by decide +kernel) rfl rfl (Nat.le_of_ble_eq_true rfl) (fun E C hr => ?_)
  refine G_aload_n C 0 dX9_signByRemainders_0 rfl rfl ?_
  refine G_iload_n C 1 dX9_signByRemainders_1 rfl rfl ?_
  refine G_callV C (As := [.int (nI d)]) (rest := []) (c_X9_asksStoneS g40 g41 h2 h60 hro) ca_X9_asksStone km_X9_174 (by decide) g40 rfl rfl rfl rfl (by decide) (Nat.le_of_ble_eq_true rfl) (by decide) dX9_signByRemainders_2 (fun vv1 gg2 qq3 => ?_)
  obtain ⟨rfl, hh4, aa5⟩ := qq3
  have AA6 : Agr [40] G gg2 := aa5.wk (by simp)
  refine G_if_eq C 16 dX9_signByRemainders_5 (by decide) (fun _ => ?_) (fun h => absurd h (by decide))
  refine G_iconst C (v := 0) dX9_signByRemainders_16 (by decide) ?_
  exact G_zret C hr rfl dX9_signByRemainders_17 ⟨rfl, hh4, AA6⟩

abbrev rm_X9_signByRemaindersR : Room := ({ frames := 5, cells := 0, slots := 0, locals := 106 } : Room)
set_option maxRecDepth 100000 in
set_option maxHeartbeats 4000000 in
theorem c_X9_signByRemaindersR {L : GL} {ad : Nat → Nat} {G : Nat → va_E} {d h : Nat} {ik kn ln th m q te us sp bg fo le fi re ca : Int32} {fx fy nx ny ux uy px py : Int64} {ml : Int32} {f : Nat → Int32}  (g40 : G 40 = .inr (9, [.ref (ad 41), .ref (ad 42), .ref (ad 43), .int ik, .ref (ad 44), .int kn, .ref (ad 45), .int ln, .int th, .int m, .int q, .int te, .long fx, .long fy, .long nx, .long ny, .long ux, .long uy, .int us, .long px, .long py, .ref (ad 46), .ref (ad 47), .int sp, .int bg, .int fo, .int le, .int fi, .int re, .int ca])) (g41 : G 41 = .inl (L.ac 0, 60, .inl (sv f ml))) (h2 : 2 ≤ d) (h60 : d ≤ 60) (hp : pern d ≠ 0) (hg : h ≤ gpn d) (hf : f d = nI h) : GM L yX9_signByRemainders cX9_signByRemainders 2 ((some .int)) rm_X9_signByRemaindersR 50 ad G [.ref (ad 40), .int (nI d)] (fun vo G' => ∃ (j1 : Int32) (j2 : Int32) (j3 : Int32) (j4 : Int64) (j5 : Int64) (j6 : Int64) (j7 : Int64) (u1 : Int64) (u2 : Int64) (u3 : Int32) (p1 : Int64) (p2 : Int64), vo = some (.int (sgM f d)) ∧ G' 40 = .inr (9, [.ref (ad 41), .ref (ad 42), .ref (ad 43), .int ik, .ref (ad 44), .int kn, .ref (ad 45), .int ln, .int 0, .int j1, .int j2, .int j3, .long j4, .long j5, .long j6, .long j7, .long u1, .long u2, .int u3, .long p1, .long p2, .ref (ad 46), .ref (ad 47), .int sp, .int bg, .int fo, .int le, .int fi, .int re, .int ca]) ∧ Agr [40] G G') := by
  refine GM.of (own := RX9) (lo := [(0, .ref (ad 40)), (1, .int (nI d))]) (by decide +kernel) rfl rfl (Nat.le_of_ble_eq_true rfl) (fun E C hr => ?_)
  have h39 := gp_lt d (by omega)
  have hro : 0 ≤ f d := by rw [hf]; exact nI_pos' (by omega)
  refine G_aload_n C 0 dX9_signByRemainders_0 rfl rfl ?_
  refine G_iload_n C 1 dX9_signByRemainders_1 rfl rfl ?_
  refine G_callV C (As := [.int (nI d)]) (rest := []) (c_X9_asksStoneR g40 g41 h2 h60 hro) ca_X9_asksStone km_X9_174 (by decide) g40 rfl rfl rfl rfl (by decide) (Nat.le_of_ble_eq_true rfl) (by decide) dX9_signByRemainders_2 (fun vv1 gg2 qq3 => ?_)
  obtain ⟨rfl, hh4, aa5⟩ := qq3
  have AA6 : Agr [40] G gg2 := aa5.wk (by simp)
  refine G_if_eq C 16 dX9_signByRemainders_5 (by decide) (fun h => absurd h (by decide)) (fun _ => ?_)
  refine G_aload_n C 0 dX9_signByRemainders_8 rfl rfl ?_
  refine G_iload_n C 1 dX9_signByRemainders_9 rfl rfl ?_
  refine G_callV C (As := [.int (nI d)]) (rest := []) (c_X9_sign hh4 ((aa5 41 (by decide)).trans g41) h2 h60 hp) ca_X9_sign km_X9_177 (by decide) hh4 rfl rfl rfl rfl (by decide) (Nat.le_of_ble_eq_true rfl) (by decide) dX9_signByRemainders_10 (fun vv7 gg8 qq9 => ?_)
  obtain ⟨j_10, j_11, j_12, j_13, j_14, j_15, j_16, u_17, u_18, u_19, p_20, p_21, rfl, hh22, aa23⟩ := qq9
  have AA24 : Agr [40] G gg8 := AA6.tr aa23 (by simp) (by simp)
  refine G_goto C 17 dX9_signByRemainders_13 (by decide) ?_
  exact G_zret C hr rfl dX9_signByRemainders_17 ⟨_, _, _, _, _, _, _, _, _, _, _, _, rfl, hh22, AA24⟩

abbrev rm_X9_nearRootA : Room := ({ frames := 3, cells := 0, slots := 0, locals := 63 } : Room)
set_option maxRecDepth 100000 in
set_option maxHeartbeats 4000000 in
theorem c_X9_nearRootA {L : GL} {ad : Nat → Nat} {G : Nat → va_E} {n : Int32} {ik kn ln th m q te us sp bg fo le fi re ca : Int32} {fx fy nx ny ux uy px py : Int64}  (g40 : G 40 = .inr (9, [.ref (ad 41), .ref (ad 42), .ref (ad 43), .int ik, .ref (ad 44), .int kn, .ref (ad 45), .int ln, .int th, .int m, .int q, .int te, .long fx, .long fy, .long nx, .long ny, .long ux, .long uy, .int us, .long px, .long py, .ref (ad 46), .ref (ad 47), .int sp, .int bg, .int fo, .int le, .int fi, .int re, .int ca])) (hn0 : numF n = 0) : GM L yX9_nearRoot cX9_nearRoot 2 ((some .float)) rm_X9_nearRootA 50 ad G [.ref (ad 40), .int n] (fun vo G' => vo = some (.float FP.fconst0) ∧ G' 40 = .inr (9, [.ref (ad 41), .ref (ad 42), .ref (ad 43), .int ik, .ref (ad 44), .int kn, .ref (ad 45), .int ln, .int 1, .int m, .int q, .int te, .long fx, .long fy, .long nx, .long ny, .long ux, .long uy, .int us, .long px, .long py, .ref (ad 46), .ref (ad 47), .int sp, .int bg, .int fo, .int le, .int fi, .int re, .int ca]) ∧ Agr [40] G G') := by
  refine GM.of (own := RX9) (lo := [(0, .ref (ad 40)), (1, .int n)]) (by decide +kernel) rfl rfl (Nat.le_of_ble_eq_true rfl) (fun E C hr => ?_)
  refine G_aload_n C 0 dX9_nearRoot_0 rfl rfl ?_
  refine G_iload_n C 1 dX9_nearRoot_1 rfl rfl ?_
  refine G_callV C (As := [.int n]) (rest := []) (c_X9_asksStoneA g40 hn0) ca_X9_asksStone km_X9_174 (by decide) g40 rfl rfl rfl rfl (by decide) (Nat.le_of_ble_eq_true rfl) (by decide) dX9_nearRoot_2 (fun vv1 gg2 qq3 => ?_)
  obtain ⟨rfl, hh4, aa5⟩ := qq3
  have AA6 : Agr [40] G gg2 := aa5.wk (by simp)
  refine G_if_ne C 10 dX9_nearRoot_5 (by decide) (fun h => absurd h (by decide)) (fun _ => ?_)
  refine G_fconst0 C dX9_nearRoot_8 ?_
  exact G_fret C hr dX9_nearRoot_9 ⟨rfl, hh4, AA6⟩

abbrev rm_X9_nearRootS : Room := ({ frames := 3, cells := 0, slots := 0, locals := 63 } : Room)
set_option maxRecDepth 100000 in
set_option maxHeartbeats 4000000 in
theorem c_X9_nearRootS {L : GL} {ad : Nat → Nat} {G : Nat → va_E} {d : Nat} {ik kn ln th m q te us sp bg fo le fi re ca : Int32} {fx fy nx ny ux uy px py : Int64} {ml : Int32} {f : Nat → Int32}  (g40 : G 40 = .inr (9, [.ref (ad 41), .ref (ad 42), .ref (ad 43), .int ik, .ref (ad 44), .int kn, .ref (ad 45), .int ln, .int th, .int m, .int q, .int te, .long fx, .long fy, .long nx, .long ny, .long ux, .long uy, .int us, .long px, .long py, .ref (ad 46), .ref (ad 47), .int sp, .int bg, .int fo, .int le, .int fi, .int re, .int ca])) (g41 : G 41 = .inl (L.ac 0, 60, .inl (sv f ml))) (h2 : 2 ≤ d) (h60 : d ≤ 60) (hro : f d < 0) : GM L yX9_nearRoot cX9_nearRoot 2 ((some .float)) rm_X9_nearRootS 50 ad G [.ref (ad 40), .int (nI d)] (fun vo G' => vo = some (.float FP.fconst0) ∧ G' 40 = .inr (9, [.ref (ad 41), .ref (ad 42), .ref (ad 43), .int ik, .ref (ad 44), .int kn, .ref (ad 45), .int ln, .int 2, .int m, .int q, .int te, .long fx, .long fy, .long nx, .long ny, .long ux, .long uy, .int us, .long px, .long py, .ref (ad 46), .ref (ad 47), .int sp, .int bg, .int fo, .int le, .int fi, .int re, .int ca]) ∧ Agr [40] G G') := by
  refine GM.of (own := RX9) (lo := [(0, .ref (ad 40)), (1, .int (nI d))]) (by decide +kernel) rfl rfl (Nat.le_of_ble_eq_true rfl) (fun E C hr => ?_)
  refine G_aload_n C 0 dX9_nearRoot_0 rfl rfl ?_
  refine G_iload_n C 1 dX9_nearRoot_1 rfl rfl ?_
  refine G_callV C (As := [.int (nI d)]) (rest := []) (c_X9_asksStoneS g40 g41 h2 h60 hro) ca_X9_asksStone km_X9_174 (by decide) g40 rfl rfl rfl rfl (by decide) (Nat.le_of_ble_eq_true rfl) (by decide) dX9_nearRoot_2 (fun vv1 gg2 qq3 => ?_)
  obtain ⟨rfl, hh4, aa5⟩ := qq3
  have AA6 : Agr [40] G gg2 := aa5.wk (by simp)
  refine G_if_ne C 10 dX9_nearRoot_5 (by decide) (fun h => absurd h (by decide)) (fun _ => ?_)
  refine G_fconst0 C dX9_nearRoot_8 ?_
  exact G_fret C hr dX9_nearRoot_9 ⟨rfl, hh4, AA6⟩

abbrev rm_X9_minusStones : Room := ({ frames := 5, cells := 0, slots := 0, locals := 106 } : Room)
set_option maxRecDepth 100000 in
set_option maxHeartbeats 4000000 in
theorem c_X9_minusStones {L : GL} {ad : Nat → Nat} {G : Nat → va_E} {ik kn ln th m q te us sp bg fo le fi re ca : Int32} {fx fy nx ny ux uy px py : Int64} {ml : Int32} {f : Nat → Int32}  (g40 : G 40 = .inr (9, [.ref (ad 41), .ref (ad 42), .ref (ad 43), .int ik, .ref (ad 44), .int kn, .ref (ad 45), .int ln, .int th, .int m, .int q, .int te, .long fx, .long fy, .long nx, .long ny, .long ux, .long uy, .int us, .long px, .long py, .ref (ad 46), .ref (ad 47), .int sp, .int bg, .int fo, .int le, .int fi, .int re, .int ca])) (g41 : G 41 = .inl (L.ac 0, 60, .inl (sv f ml))) (hk : okH f) : GM L yX9_minusStones cX9_minusStones 3 ((some .int)) rm_X9_minusStones 50 ad G [.ref (ad 40)] (fun vo G' => ∃ (j1 : Int32) (j2 : Int32) (j3 : Int32) (j4 : Int64) (j5 : Int64) (j6 : Int64) (j7 : Int64) (u1 : Int64) (u2 : Int64) (u3 : Int32) (p1 : Int64) (p2 : Int64), vo = some (.int (msF f 59)) ∧ G' 40 = .inr (9, [.ref (ad 41), .ref (ad 42), .ref (ad 43), .int ik, .ref (ad 44), .int kn, .ref (ad 45), .int ln, .int 0, .int j1, .int j2, .int j3, .long j4, .long j5, .long j6, .long j7, .long u1, .long u2, .int u3, .long p1, .long p2, .ref (ad 46), .ref (ad 47), .int sp, .int bg, .int fo, .int le, .int fi, .int re, .int ca]) ∧ Agr [40] G G') := by
  refine GM.of (own := RX9) (lo := [(0, .ref (ad 40))]) (by decide +kernel) rfl rfl (Nat.le_of_ble_eq_true rfl) (fun E C hr => ?_)
  refine G_aload_n C 0 dX9_minusStones_0 rfl rfl ?_
  refine G_iconst C (v := 0) dX9_minusStones_1 (by decide) ?_
  refine G_putp C 40 (by decide) g40 rfl inA9 tyX9_ok nmX9 8 (by decide) rfl kf_X9_32 rfl rfl rfl (fs' := [.ref (ad 41), .ref (ad 42), .ref (ad 43), .int ik, .ref (ad 44), .int kn, .ref (ad 45), .int ln, .int 0, .int m, .int q, .int te, .long fx, .long fy, .long nx, .long ny, .long ux, .long uy, .int us, .long px, .long py, .ref (ad 46), .ref (ad 47), .int sp, .int bg, .int fo, .int le, .int fi, .int re, .int ca]) (Nat.le_of_ble_eq_true rfl) rfl dX9_minusStones_2 (fun gg1 hh2 aa3 => ?_)
  have AA4 : Agr [40] G gg1 := aa3.wk (by simp)
  refine G_iconst C (v := 0) dX9_minusStones_5 (by decide) ?_
  refine G_istore_n C 1 (lo' := [(1, .int 0), (0, .ref (ad 40))]) dX9_minusStones_6 rfl (by decide) rfl ?_
  refine G_iconst C (v := 2) dX9_minusStones_7 (by decide) ?_
  refine G_istore_n C 2 (lo' := [(2, .int 2), (1, .int 0), (0, .ref (ad 40))]) dX9_minusStones_8 rfl (by decide) rfl ?_
  have key9 : ∀ (n : Nat) (j : Nat) (j1 : Int32) (j2 : Int32) (j3 : Int32) (j4 : Int64) (j5 : Int64) (j6 : Int64) (j7 : Int64) (u1 : Int64) (u2 : Int64) (u3 : Int32) (p1 : Int64) (p2 : Int64) (G1 : Nat → va_E) (hf9_40 : G1 40 = .inr (9, [.ref (ad 41), .ref (ad 42), .ref (ad 43), .int ik, .ref (ad 44), .int kn, .ref (ad 45), .int ln, .int 0, .int j1, .int j2, .int j3, .long j4, .long j5, .long j6, .long j7, .long u1, .long u2, .int u3, .long p1, .long p2, .ref (ad 46), .ref (ad 47), .int sp, .int bg, .int fo, .int le, .int fi, .int re, .int ca])) (ha9 : Agr [40] G G1) (hn : 59 - j < n) (hj : j ≤ 59), GW L E 50 ad G1 0 0 9 [(2, .int (nI (j + 2))), (1, .int (msF f j)), (0, .ref (ad 40))] [] := by
    intro n
    induction n with
    | zero =>
      intro j j1 j2 j3 j4 j5 j6 j7 u1 u2 u3 p1 p2 G1 hf9_40 ha9 hn hj
      exact absurd hn (Nat.not_lt_zero _)
    | succ n ih =>
      intro j j1 j2 j3 j4 j5 j6 j7 u1 u2 u3 p1 p2 G1 hf9_40 ha9 hn hj
      refine G_iload_n C 2 dX9_minusStones_9 rfl rfl ?_
      refine G_bipush C (v := 60) dX9_minusStones_10 (by decide) ?_
      refine G_icmp_gt C 45 dX9_minusStones_12 (by decide) (fun c12 => ?_) (fun c12 => ?_)
      · have c12n : 60 < (j + 2) := (cI_lt (a := 60) (b := (j + 2)) rfl rfl (by omega) (by omega)).mp c12
        refine G_iload_n C 1 dX9_minusStones_45 rfl rfl ?_
        exact G_zret C hr rfl dX9_minusStones_46 ⟨_, _, _, _, _, _, _, _, _, _, _, _, (by rw [show 59 = j by omega]), hf9_40, ha9⟩
      · have c12n : ¬ 60 < (j + 2) := fun z => c12 ((cI_lt (a := 60) (b := (j + 2)) rfl rfl (by omega) (by omega)).mpr z)
        refine G_iload_n C 1 dX9_minusStones_15 rfl rfl ?_
        refine G_aload_n C 0 dX9_minusStones_16 rfl rfl ?_
        refine G_iload_n C 2 dX9_minusStones_17 rfl rfl ?_
        refine G_callV C (As := [.int (nI (j + 2))]) (rest := [.int (msF f j)]) (c_X9_stand hf9_40 ((ha9 41 (by decide)).trans g41) (by omega) (by omega)) ca_X9_stand km_X9_89 (by decide) hf9_40 rfl rfl rfl rfl (by decide) (Nat.le_of_ble_eq_true rfl) (by decide) dX9_minusStones_18 (fun vv5 gg6 qq7 => ?_)
        obtain ⟨rfl, rfl⟩ := qq7
        refine G_if_lt C 36 dX9_minusStones_21 (by decide) (fun c21 => ?_) (fun c21 => ?_)
        · refine G_iconst C (v := 0) dX9_minusStones_36 (by decide) ?_
          refine G_iadd C dX9_minusStones_37 ?_
          refine G_istore_n C 1 (lo' := [(1, .int ((msF f j) + 0)), (2, .int (nI (j + 2))), (0, .ref (ad 40))]) dX9_minusStones_38 rfl (by decide) rfl ?_
          refine GW.loe (lo' := [(1, .int (msF f (j + 1))), (2, .int (nI (j + 2))), (0, .ref (ad 40))]) (by rw [msF, if_pos c21]) ?_
          refine G_iinc C (v := nI ((j + 2) + 1)) (lo' := [(2, .int (nI ((j + 2) + 1))), (1, .int (msF f (j + 1))), (0, .ref (ad 40))]) dX9_minusStones_39 rfl (nI_add _ _) (by decide) rfl ?_
          refine G_goto C 9 dX9_minusStones_42 (by decide) ?_
          exact ih (j + 1) _ _ _ _ _ _ _ _ _ _ _ _ G1 hf9_40 ha9 (by omega) (by omega)
        · refine G_aload_n C 0 dX9_minusStones_24 rfl rfl ?_
          refine G_iload_n C 2 dX9_minusStones_25 rfl rfl ?_
          refine G_callV C (As := [.int (nI (j + 2))]) (rest := [.int (msF f j)]) (c_X9_sign hf9_40 ((ha9 41 (by decide)).trans g41) (by omega) (by omega) ((has_d hk (show 2 ≤ j + 2 by omega) (by omega) (fun z => c21 (by rw [z]; exact neg_1))).1)) ca_X9_sign km_X9_177 (by decide) hf9_40 rfl rfl rfl rfl (by decide) (Nat.le_of_ble_eq_true rfl) (by decide) dX9_minusStones_26 (fun vv8 gg9 qq10 => ?_)
          obtain ⟨j_11, j_12, j_13, j_14, j_15, j_16, j_17, u_18, u_19, u_20, p_21, p_22, rfl, hh23, aa24⟩ := qq10
          have AA25 : Agr [40] G gg9 := ha9.tr aa24 (by simp) (by simp)
          refine G_if_ge C 36 dX9_minusStones_29 (by decide) (fun c29 => ?_) (fun c29 => ?_)
          · refine G_iconst C (v := 0) dX9_minusStones_36 (by decide) ?_
            refine G_iadd C dX9_minusStones_37 ?_
            refine G_istore_n C 1 (lo' := [(1, .int ((msF f j) + 0)), (2, .int (nI (j + 2))), (0, .ref (ad 40))]) dX9_minusStones_38 rfl (by decide) rfl ?_
            refine GW.loe (lo' := [(1, .int (msF f (j + 1))), (2, .int (nI (j + 2))), (0, .ref (ad 40))]) (by rw [msF, if_neg c21, if_pos c29]) ?_
            refine G_iinc C (v := nI ((j + 2) + 1)) (lo' := [(2, .int (nI ((j + 2) + 1))), (1, .int (msF f (j + 1))), (0, .ref (ad 40))]) dX9_minusStones_39 rfl (nI_add _ _) (by decide) rfl ?_
            refine G_goto C 9 dX9_minusStones_42 (by decide) ?_
            exact ih (j + 1) _ _ _ _ _ _ _ _ _ _ _ _ gg9 hh23 AA25 (by omega) (by omega)
          · refine G_iconst C (v := 1) dX9_minusStones_32 (by decide) ?_
            refine G_goto C 37 dX9_minusStones_33 (by decide) ?_
            refine G_iadd C dX9_minusStones_37 ?_
            refine G_istore_n C 1 (lo' := [(1, .int ((msF f j) + 1)), (2, .int (nI (j + 2))), (0, .ref (ad 40))]) dX9_minusStones_38 rfl (by decide) rfl ?_
            refine GW.loe (lo' := [(1, .int (msF f (j + 1))), (2, .int (nI (j + 2))), (0, .ref (ad 40))]) (by rw [msF, if_neg c21, if_neg c29]) ?_
            refine G_iinc C (v := nI ((j + 2) + 1)) (lo' := [(2, .int (nI ((j + 2) + 1))), (1, .int (msF f (j + 1))), (0, .ref (ad 40))]) dX9_minusStones_39 rfl (nI_add _ _) (by decide) rfl ?_
            refine G_goto C 9 dX9_minusStones_42 (by decide) ?_
            exact ih (j + 1) _ _ _ _ _ _ _ _ _ _ _ _ gg9 hh23 AA25 (by omega) (by omega)
  exact key9 60 0 _ _ _ _ _ _ _ _ _ _ _ _ gg1 hh2 AA4 (by omega) (by omega)

abbrev rm_X9_milled : Room := ({ frames := 0, cells := 0, slots := 0, locals := 0 } : Room)
set_option maxRecDepth 100000 in
set_option maxHeartbeats 4000000 in
theorem c_X9_milled {L : GL} {ad : Nat → Nat} {G : Nat → va_E} {ik kn ln th m q te us sp bg fo le fi re ca : Int32} {fx fy nx ny ux uy px py : Int64} {ml : Int32} {f : Nat → Int32}  (g40 : G 40 = .inr (9, [.ref (ad 41), .ref (ad 42), .ref (ad 43), .int ik, .ref (ad 44), .int kn, .ref (ad 45), .int ln, .int th, .int m, .int q, .int te, .long fx, .long fy, .long nx, .long ny, .long ux, .long uy, .int us, .long px, .long py, .ref (ad 46), .ref (ad 47), .int sp, .int bg, .int fo, .int le, .int fi, .int re, .int ca])) (g41 : G 41 = .inl (L.ac 0, 60, .inl (sv f ml)))  : GM L yX9_milled cX9_milled 1 ((some .int)) rm_X9_milled 50 ad G [.ref (ad 40)] (fun vo G' => vo = some (.int ml) ∧ G' 40 = .inr (9, [.ref (ad 41), .ref (ad 42), .ref (ad 43), .int ik, .ref (ad 44), .int kn, .ref (ad 45), .int ln, .int 0, .int m, .int q, .int te, .long fx, .long fy, .long nx, .long ny, .long ux, .long uy, .int us, .long px, .long py, .ref (ad 46), .ref (ad 47), .int sp, .int bg, .int fo, .int le, .int fi, .int re, .int ca]) ∧ Agr [40] G G') := by
  refine GM.of (own := RX9) (lo := [(0, .ref (ad 40))]) (by decide +kernel) rfl rfl (Nat.le_of_ble_eq_true rfl) (fun E C hr => ?_)
  refine G_aload_n C 0 dX9_milled_0 rfl rfl ?_
  refine G_iconst C (v := 0) dX9_milled_1 (by decide) ?_
  refine G_putp C 40 (by decide) g40 rfl inA9 tyX9_ok nmX9 8 (by decide) rfl kf_X9_32 rfl rfl rfl (fs' := [.ref (ad 41), .ref (ad 42), .ref (ad 43), .int ik, .ref (ad 44), .int kn, .ref (ad 45), .int ln, .int 0, .int m, .int q, .int te, .long fx, .long fy, .long nx, .long ny, .long ux, .long uy, .int us, .long px, .long py, .ref (ad 46), .ref (ad 47), .int sp, .int bg, .int fo, .int le, .int fi, .int re, .int ca]) (Nat.le_of_ble_eq_true rfl) rfl dX9_milled_2 (fun gg1 hh2 aa3 => ?_)
  have AA4 : Agr [40] G gg1 := aa3.wk (by simp)
  refine G_aload_n C 0 dX9_milled_5 rfl rfl ?_
  refine G_get C 40 (by decide) hh2 rfl inA9 0 (by decide) rfl kf_X9_7 rfl dX9_milled_6 ?_
  refine G_bipush C (v := 59) dX9_milled_9 (by decide) ?_
  refine G_ialdN C 41 (by decide) 59 ((aa3 41 (by decide)).trans g41) rfl (by decide) (by omega) dX9_milled_11 ?_
  exact G_zret C hr rfl dX9_milled_12 ⟨(by rw [show sv f ml 59 = ml from if_pos rfl]), hh2, AA4⟩

abbrev rm_X9_states : Room := ({ frames := 0, cells := 0, slots := 0, locals := 0 } : Room)
set_option maxRecDepth 100000 in
set_option maxHeartbeats 4000000 in
theorem c_X9_states {L : GL} {ad : Nat → Nat} {G : Nat → va_E} {ik kn ln th m q te us sp bg fo le fi re ca : Int32} {fx fy nx ny ux uy px py : Int64}  (g40 : G 40 = .inr (9, [.ref (ad 41), .ref (ad 42), .ref (ad 43), .int ik, .ref (ad 44), .int kn, .ref (ad 45), .int ln, .int th, .int m, .int q, .int te, .long fx, .long fy, .long nx, .long ny, .long ux, .long uy, .int us, .long px, .long py, .ref (ad 46), .ref (ad 47), .int sp, .int bg, .int fo, .int le, .int fi, .int re, .int ca]))  : GM L yX9_states cX9_states 1 ((some .int)) rm_X9_states 50 ad G [.ref (ad 40)] (fun vo G' => vo = some (.int kn) ∧ G' 40 = .inr (9, [.ref (ad 41), .ref (ad 42), .ref (ad 43), .int ik, .ref (ad 44), .int kn, .ref (ad 45), .int ln, .int 0, .int m, .int q, .int te, .long fx, .long fy, .long nx, .long ny, .long ux, .long uy, .int us, .long px, .long py, .ref (ad 46), .ref (ad 47), .int sp, .int bg, .int fo, .int le, .int fi, .int re, .int ca]) ∧ Agr [40] G G') := by
  refine GM.of (own := RX9) (lo := [(0, .ref (ad 40))]) (by decide +kernel) rfl rfl (Nat.le_of_ble_eq_true rfl) (fun E C hr => ?_)
  refine G_aload_n C 0 dX9_states_0 rfl rfl ?_
  refine G_iconst C (v := 0) dX9_states_1 (by decide) ?_
  refine G_putp C 40 (by decide) g40 rfl inA9 tyX9_ok nmX9 8 (by decide) rfl kf_X9_32 rfl rfl rfl (fs' := [.ref (ad 41), .ref (ad 42), .ref (ad 43), .int ik, .ref (ad 44), .int kn, .ref (ad 45), .int ln, .int 0, .int m, .int q, .int te, .long fx, .long fy, .long nx, .long ny, .long ux, .long uy, .int us, .long px, .long py, .ref (ad 46), .ref (ad 47), .int sp, .int bg, .int fo, .int le, .int fi, .int re, .int ca]) (Nat.le_of_ble_eq_true rfl) rfl dX9_states_2 (fun gg1 hh2 aa3 => ?_)
  have AA4 : Agr [40] G gg1 := aa3.wk (by simp)
  refine G_aload_n C 0 dX9_states_5 rfl rfl ?_
  refine G_get C 40 (by decide) hh2 rfl inA9 5 (by decide) rfl kf_X9_40 rfl dX9_states_6 ?_
  exact G_zret C hr rfl dX9_states_9 ⟨rfl, hh2, AA4⟩

abbrev rm_X9_clearText : Room := ({ frames := 0, cells := 0, slots := 0, locals := 0 } : Room)
set_option maxRecDepth 100000 in
set_option maxHeartbeats 4000000 in
theorem c_X9_clearText {L : GL} {ad : Nat → Nat} {G : Nat → va_E} {ik kn ln th m q te us sp bg fo le fi re ca : Int32} {fx fy nx ny ux uy px py : Int64}  (g40 : G 40 = .inr (9, [.ref (ad 41), .ref (ad 42), .ref (ad 43), .int ik, .ref (ad 44), .int kn, .ref (ad 45), .int ln, .int th, .int m, .int q, .int te, .long fx, .long fy, .long nx, .long ny, .long ux, .long uy, .int us, .long px, .long py, .ref (ad 46), .ref (ad 47), .int sp, .int bg, .int fo, .int le, .int fi, .int re, .int ca]))  : GM L yX9_clearText cX9_clearText 2 ((some .int)) rm_X9_clearText 50 ad G [.ref (ad 40)] (fun vo G' => vo = some (.int ln) ∧ G' 40 = .inr (9, [.ref (ad 41), .ref (ad 42), .ref (ad 43), .int ik, .ref (ad 44), .int kn, .ref (ad 45), .int 0, .int 0, .int m, .int q, .int te, .long fx, .long fy, .long nx, .long ny, .long ux, .long uy, .int us, .long px, .long py, .ref (ad 46), .ref (ad 47), .int sp, .int bg, .int fo, .int le, .int fi, .int re, .int ca]) ∧ Agr [40] G G') := by
  refine GM.of (own := RX9) (lo := [(0, .ref (ad 40))]) (by decide +kernel) rfl rfl (Nat.le_of_ble_eq_true rfl) (fun E C hr => ?_)
  refine G_aload_n C 0 dX9_clearText_0 rfl rfl ?_
  refine G_iconst C (v := 0) dX9_clearText_1 (by decide) ?_
  refine G_putp C 40 (by decide) g40 rfl inA9 tyX9_ok nmX9 8 (by decide) rfl kf_X9_32 rfl rfl rfl (fs' := [.ref (ad 41), .ref (ad 42), .ref (ad 43), .int ik, .ref (ad 44), .int kn, .ref (ad 45), .int ln, .int 0, .int m, .int q, .int te, .long fx, .long fy, .long nx, .long ny, .long ux, .long uy, .int us, .long px, .long py, .ref (ad 46), .ref (ad 47), .int sp, .int bg, .int fo, .int le, .int fi, .int re, .int ca]) (Nat.le_of_ble_eq_true rfl) rfl dX9_clearText_2 (fun gg1 hh2 aa3 => ?_)
  have AA4 : Agr [40] G gg1 := aa3.wk (by simp)
  refine G_aload_n C 0 dX9_clearText_5 rfl rfl ?_
  refine G_get C 40 (by decide) hh2 rfl inA9 7 (by decide) rfl kf_X9_200 rfl dX9_clearText_6 ?_
  refine G_istore_n C 1 (lo' := [(1, .int ln), (0, .ref (ad 40))]) dX9_clearText_9 rfl (by decide) rfl ?_
  refine G_aload_n C 0 dX9_clearText_10 rfl rfl ?_
  refine G_iconst C (v := 0) dX9_clearText_11 (by decide) ?_
  refine G_putp C 40 (by decide) hh2 rfl inA9 tyX9_ok nmX9 7 (by decide) rfl kf_X9_200 rfl rfl rfl (fs' := [.ref (ad 41), .ref (ad 42), .ref (ad 43), .int ik, .ref (ad 44), .int kn, .ref (ad 45), .int 0, .int 0, .int m, .int q, .int te, .long fx, .long fy, .long nx, .long ny, .long ux, .long uy, .int us, .long px, .long py, .ref (ad 46), .ref (ad 47), .int sp, .int bg, .int fo, .int le, .int fi, .int re, .int ca]) (Nat.le_of_ble_eq_true rfl) rfl dX9_clearText_12 (fun gg5 hh6 aa7 => ?_)
  have AA8 : Agr [40] G gg5 := AA4.tr aa7 (by simp) (by simp)
  refine G_iload_n C 1 dX9_clearText_15 rfl rfl ?_
  exact G_zret C hr rfl dX9_clearText_16 ⟨rfl, hh6, AA8⟩

