abbrev rm_X9_do_lA : Room := ({ frames := 6, cells := 0, slots := 0, locals := 130 } : Room)
set_option maxRecDepth 100000 in
set_option maxHeartbeats 4000000 in
theorem c_X9_do_lA {L : GL} {ad : Nat → Nat} {G : Nat → va_E} {n : Int32} {ik kn ln th m q te us sp bg fo le re ca : Int32} {fx fy nx ny ux uy px py : Int64} {ml : Int32} {f : Nat → Int32}  (g40 : G 40 = .inr (9, [.ref (ad 41), .ref (ad 42), .ref (ad 43), .int ik, .ref (ad 44), .int kn, .ref (ad 45), .int ln, .int th, .int m, .int q, .int te, .long fx, .long fy, .long nx, .long ny, .long ux, .long uy, .int us, .long px, .long py, .ref (ad 46), .ref (ad 47), .int sp, .int bg, .int fo, .int le, .int n, .int re, .int ca])) (g41 : G 41 = .inl (L.ac 0, 60, .inl (sv f ml))) (hle : le = 108) (hn0 : numF n = 0) : GM L yX9_doesOrder cX9_doesOrder 1 ((some .int)) rm_X9_do_lA 50 ad G [.ref (ad 40)] (fun vo G' => vo = some (.int (-11)) ∧ G = G') := by
  refine GM.of (own := RX9) (lo := [(0, .ref (ad 40))]) (by decide +kernel) rfl rfl (Nat.le_of_ble_eq_true rfl) (fun E C hr => ?_)
  refine G_aload_n C 0 dX9_doesOrder_0 rfl rfl ?_
  refine G_get C 40 (by decide) g40 rfl inA9 26 (by decide) rfl kf_X9_215 rfl dX9_doesOrder_1 ?_
  refine GW.topr (y := 108) hle ?_
  refine G_lookup C (off := 36) 40 dX9_doesOrder_4 (by decide) (by decide) (by decide) ?_
  refine G_aload_n C 0 dX9_doesOrder_40 rfl rfl ?_
  refine G_aload_n C 0 dX9_doesOrder_41 rfl rfl ?_
  refine G_get C 40 (by decide) g40 rfl inA9 27 (by decide) rfl kf_X9_225 rfl dX9_doesOrder_42 ?_
  refine G_callV C (As := [.int n]) (rest := []) (c_X9_goLayA g40 g41 hn0) ca_X9_goLay km_X9_142 (by decide) g40 rfl rfl rfl rfl (by decide) (Nat.le_of_ble_eq_true rfl) (by decide) dX9_doesOrder_45 (fun vv1 gg2 qq3 => ?_)
  obtain ⟨rfl, rfl⟩ := qq3
  exact G_zret C hr rfl dX9_doesOrder_48 ⟨rfl, rfl⟩

abbrev rm_X9_do_tA : Room := ({ frames := 6, cells := 0, slots := 0, locals := 130 } : Room)
set_option maxRecDepth 100000 in
set_option maxHeartbeats 4000000 in
theorem c_X9_do_tA {L : GL} {ad : Nat → Nat} {G : Nat → va_E} {n : Int32} {ik kn ln th m q te us sp bg fo le re ca : Int32} {fx fy nx ny ux uy px py : Int64} {ml : Int32} {f : Nat → Int32}  (g40 : G 40 = .inr (9, [.ref (ad 41), .ref (ad 42), .ref (ad 43), .int ik, .ref (ad 44), .int kn, .ref (ad 45), .int ln, .int th, .int m, .int q, .int te, .long fx, .long fy, .long nx, .long ny, .long ux, .long uy, .int us, .long px, .long py, .ref (ad 46), .ref (ad 47), .int sp, .int bg, .int fo, .int le, .int n, .int re, .int ca])) (g41 : G 41 = .inl (L.ac 0, 60, .inl (sv f ml))) (hle : le = 116) (hn0 : numF n = 0) : GM L yX9_doesOrder cX9_doesOrder 1 ((some .int)) rm_X9_do_tA 50 ad G [.ref (ad 40)] (fun vo G' => vo = some (.int (-11)) ∧ G = G') := by
  refine GM.of (own := RX9) (lo := [(0, .ref (ad 40))]) (by decide +kernel) rfl rfl (Nat.le_of_ble_eq_true rfl) (fun E C hr => ?_)
  refine G_aload_n C 0 dX9_doesOrder_0 rfl rfl ?_
  refine G_get C 40 (by decide) g40 rfl inA9 26 (by decide) rfl kf_X9_215 rfl dX9_doesOrder_1 ?_
  refine GW.topr (y := 116) hle ?_
  refine G_lookup C (off := 45) 49 dX9_doesOrder_4 (by decide) (by decide) (by decide) ?_
  refine G_aload_n C 0 dX9_doesOrder_49 rfl rfl ?_
  refine G_aload_n C 0 dX9_doesOrder_50 rfl rfl ?_
  refine G_get C 40 (by decide) g40 rfl inA9 27 (by decide) rfl kf_X9_225 rfl dX9_doesOrder_51 ?_
  refine G_callV C (As := [.int n]) (rest := []) (c_X9_goTakeA g40 g41 hn0) ca_X9_goTake km_X9_148 (by decide) g40 rfl rfl rfl rfl (by decide) (Nat.le_of_ble_eq_true rfl) (by decide) dX9_doesOrder_54 (fun vv1 gg2 qq3 => ?_)
  obtain ⟨rfl, rfl⟩ := qq3
  exact G_zret C hr rfl dX9_doesOrder_57 ⟨rfl, rfl⟩

abbrev rm_X9_do_mA : Room := ({ frames := 6, cells := 0, slots := 0, locals := 130 } : Room)
set_option maxRecDepth 100000 in
set_option maxHeartbeats 4000000 in
theorem c_X9_do_mA {L : GL} {ad : Nat → Nat} {G : Nat → va_E} {n : Int32} {ik kn ln th m q te us sp bg fo le re ca : Int32} {fx fy nx ny ux uy px py : Int64} {ml : Int32} {f : Nat → Int32}  (g40 : G 40 = .inr (9, [.ref (ad 41), .ref (ad 42), .ref (ad 43), .int ik, .ref (ad 44), .int kn, .ref (ad 45), .int ln, .int th, .int m, .int q, .int te, .long fx, .long fy, .long nx, .long ny, .long ux, .long uy, .int us, .long px, .long py, .ref (ad 46), .ref (ad 47), .int sp, .int bg, .int fo, .int le, .int n, .int re, .int ca])) (g41 : G 41 = .inl (L.ac 0, 60, .inl (sv f ml))) (hle : le = 109) (hn0 : numF n = 0) : GM L yX9_doesOrder cX9_doesOrder 1 ((some .int)) rm_X9_do_mA 50 ad G [.ref (ad 40)] (fun vo G' => vo = some (.int (-11)) ∧ G = G') := by
  refine GM.of (own := RX9) (lo := [(0, .ref (ad 40))]) (by decide +kernel) rfl rfl (Nat.le_of_ble_eq_true rfl) (fun E C hr => ?_)
  refine G_aload_n C 0 dX9_doesOrder_0 rfl rfl ?_
  refine G_get C 40 (by decide) g40 rfl inA9 26 (by decide) rfl kf_X9_215 rfl dX9_doesOrder_1 ?_
  refine GW.topr (y := 109) hle ?_
  refine G_lookup C (off := 54) 58 dX9_doesOrder_4 (by decide) (by decide) (by decide) ?_
  refine G_aload_n C 0 dX9_doesOrder_58 rfl rfl ?_
  refine G_aload_n C 0 dX9_doesOrder_59 rfl rfl ?_
  refine G_get C 40 (by decide) g40 rfl inA9 27 (by decide) rfl kf_X9_225 rfl dX9_doesOrder_60 ?_
  refine G_callV C (As := [.int n]) (rest := []) (c_X9_goMillA g40 g41 hn0) ca_X9_goMill km_X9_151 (by decide) g40 rfl rfl rfl rfl (by decide) (Nat.le_of_ble_eq_true rfl) (by decide) dX9_doesOrder_63 (fun vv1 gg2 qq3 => ?_)
  obtain ⟨rfl, rfl⟩ := qq3
  exact G_zret C hr rfl dX9_doesOrder_66 ⟨rfl, rfl⟩

abbrev rm_X9_do_bA : Room := ({ frames := 6, cells := 0, slots := 0, locals := 130 } : Room)
set_option maxRecDepth 100000 in
set_option maxHeartbeats 4000000 in
theorem c_X9_do_bA {L : GL} {ad : Nat → Nat} {G : Nat → va_E} {n : Int32} {ik kn ln th m q te us sp bg fo le re ca : Int32} {fx fy nx ny ux uy px py : Int64} {ml : Int32} {f : Nat → Int32}  (g40 : G 40 = .inr (9, [.ref (ad 41), .ref (ad 42), .ref (ad 43), .int ik, .ref (ad 44), .int kn, .ref (ad 45), .int ln, .int th, .int m, .int q, .int te, .long fx, .long fy, .long nx, .long ny, .long ux, .long uy, .int us, .long px, .long py, .ref (ad 46), .ref (ad 47), .int sp, .int bg, .int fo, .int le, .int n, .int re, .int ca])) (g41 : G 41 = .inl (L.ac 0, 60, .inl (sv f ml))) (hle : le = 98) (hn0 : numF n = 0) : GM L yX9_doesOrder cX9_doesOrder 1 ((some .int)) rm_X9_do_bA 50 ad G [.ref (ad 40)] (fun vo G' => vo = some (.int (-11)) ∧ G = G') := by
  refine GM.of (own := RX9) (lo := [(0, .ref (ad 40))]) (by decide +kernel) rfl rfl (Nat.le_of_ble_eq_true rfl) (fun E C hr => ?_)
  refine G_aload_n C 0 dX9_doesOrder_0 rfl rfl ?_
  refine G_get C 40 (by decide) g40 rfl inA9 26 (by decide) rfl kf_X9_215 rfl dX9_doesOrder_1 ?_
  refine GW.topr (y := 98) hle ?_
  refine G_lookup C (off := 63) 67 dX9_doesOrder_4 (by decide) (by decide) (by decide) ?_
  refine G_aload_n C 0 dX9_doesOrder_67 rfl rfl ?_
  refine G_aload_n C 0 dX9_doesOrder_68 rfl rfl ?_
  refine G_get C 40 (by decide) g40 rfl inA9 27 (by decide) rfl kf_X9_225 rfl dX9_doesOrder_69 ?_
  refine G_callV C (As := [.int n]) (rest := []) (c_X9_goBackwardA g40 g41 hn0) ca_X9_goBackward km_X9_154 (by decide) g40 rfl rfl rfl rfl (by decide) (Nat.le_of_ble_eq_true rfl) (by decide) dX9_doesOrder_72 (fun vv1 gg2 qq3 => ?_)
  obtain ⟨rfl, rfl⟩ := qq3
  exact G_zret C hr rfl dX9_doesOrder_75 ⟨rfl, rfl⟩

abbrev rm_X9_do_lS : Room := ({ frames := 6, cells := 0, slots := 0, locals := 130 } : Room)
set_option maxRecDepth 100000 in
set_option maxHeartbeats 4000000 in
theorem c_X9_do_lS {L : GL} {ad : Nat → Nat} {G : Nat → va_E} {d : Nat} {ik kn ln th m q te us sp bg fo le re ca : Int32} {fx fy nx ny ux uy px py : Int64} {ml : Int32} {f : Nat → Int32}  (g40 : G 40 = .inr (9, [.ref (ad 41), .ref (ad 42), .ref (ad 43), .int ik, .ref (ad 44), .int kn, .ref (ad 45), .int ln, .int th, .int m, .int q, .int te, .long fx, .long fy, .long nx, .long ny, .long ux, .long uy, .int us, .long px, .long py, .ref (ad 46), .ref (ad 47), .int sp, .int bg, .int fo, .int le, .int (nI d), .int re, .int ca])) (g41 : G 41 = .inl (L.ac 0, 60, .inl (sv f ml))) (hle : le = 108) (h2 : 2 ≤ d) (h60 : d ≤ 60) (hro : ¬ rsF f d ≤ 0) : GM L yX9_doesOrder cX9_doesOrder 1 ((some .int)) rm_X9_do_lS 50 ad G [.ref (ad 40)] (fun vo G' => vo = some (.int (-12)) ∧ G = G') := by
  refine GM.of (own := RX9) (lo := [(0, .ref (ad 40))]) (by decide +kernel) rfl rfl (Nat.le_of_ble_eq_true rfl) (fun E C hr => ?_)
  refine G_aload_n C 0 dX9_doesOrder_0 rfl rfl ?_
  refine G_get C 40 (by decide) g40 rfl inA9 26 (by decide) rfl kf_X9_215 rfl dX9_doesOrder_1 ?_
  refine GW.topr (y := 108) hle ?_
  refine G_lookup C (off := 36) 40 dX9_doesOrder_4 (by decide) (by decide) (by decide) ?_
  refine G_aload_n C 0 dX9_doesOrder_40 rfl rfl ?_
  refine G_aload_n C 0 dX9_doesOrder_41 rfl rfl ?_
  refine G_get C 40 (by decide) g40 rfl inA9 27 (by decide) rfl kf_X9_225 rfl dX9_doesOrder_42 ?_
  refine G_callV C (As := [.int (nI d)]) (rest := []) (c_X9_goLayS g40 g41 h2 h60 hro) ca_X9_goLay km_X9_142 (by decide) g40 rfl rfl rfl rfl (by decide) (Nat.le_of_ble_eq_true rfl) (by decide) dX9_doesOrder_45 (fun vv1 gg2 qq3 => ?_)
  obtain ⟨rfl, rfl⟩ := qq3
  exact G_zret C hr rfl dX9_doesOrder_48 ⟨rfl, rfl⟩

abbrev rm_X9_do_lR : Room := ({ frames := 6, cells := 0, slots := 0, locals := 130 } : Room)
set_option maxRecDepth 100000 in
set_option maxHeartbeats 4000000 in
theorem c_X9_do_lR {L : GL} {ad : Nat → Nat} {G : Nat → va_E} {d : Nat} {ik kn ln th m q te us sp bg fo le re ca : Int32} {fx fy nx ny ux uy px py : Int64} {ml : Int32} {f : Nat → Int32}  (g40 : G 40 = .inr (9, [.ref (ad 41), .ref (ad 42), .ref (ad 43), .int ik, .ref (ad 44), .int kn, .ref (ad 45), .int ln, .int th, .int m, .int q, .int te, .long fx, .long fy, .long nx, .long ny, .long ux, .long uy, .int us, .long px, .long py, .ref (ad 46), .ref (ad 47), .int sp, .int bg, .int fo, .int le, .int (nI d), .int re, .int ca])) (g41 : G 41 = .inl (L.ac 0, 60, .inl (sv f ml))) (hle : le = 108) (h2 : 2 ≤ d) (h60 : d ≤ 60) (hro : rsF f d ≤ 0) : GM L yX9_doesOrder cX9_doesOrder 1 ((some .int)) rm_X9_do_lR 50 ad G [.ref (ad 40)] (fun vo G' => vo = some (.int (manyF (upd f d 0) 59)) ∧ G' 41 = .inl (L.ac 0, 60, .inl (sv (upd f d 0) ml)) ∧ Agr [41] G G') := by
  refine GM.of (own := RX9) (lo := [(0, .ref (ad 40))]) (by decide +kernel) rfl rfl (Nat.le_of_ble_eq_true rfl) (fun E C hr => ?_)
  refine G_aload_n C 0 dX9_doesOrder_0 rfl rfl ?_
  refine G_get C 40 (by decide) g40 rfl inA9 26 (by decide) rfl kf_X9_215 rfl dX9_doesOrder_1 ?_
  refine GW.topr (y := 108) hle ?_
  refine G_lookup C (off := 36) 40 dX9_doesOrder_4 (by decide) (by decide) (by decide) ?_
  refine G_aload_n C 0 dX9_doesOrder_40 rfl rfl ?_
  refine G_aload_n C 0 dX9_doesOrder_41 rfl rfl ?_
  refine G_get C 40 (by decide) g40 rfl inA9 27 (by decide) rfl kf_X9_225 rfl dX9_doesOrder_42 ?_
  refine G_callV C (As := [.int (nI d)]) (rest := []) (c_X9_goLayR g40 g41 h2 h60 hro) ca_X9_goLay km_X9_142 (by decide) g40 rfl rfl rfl rfl (by decide) (Nat.le_of_ble_eq_true rfl) (by decide) dX9_doesOrder_45 (fun vv1 gg2 qq3 => ?_)
  obtain ⟨rfl, hh4, aa5⟩ := qq3
  have AA6 : Agr [41] G gg2 := aa5.wk (by simp)
  exact G_zret C hr rfl dX9_doesOrder_48 ⟨rfl, hh4, AA6⟩

abbrev rm_X9_do_tS : Room := ({ frames := 6, cells := 0, slots := 0, locals := 130 } : Room)
set_option maxRecDepth 100000 in
set_option maxHeartbeats 4000000 in
theorem c_X9_do_tS {L : GL} {ad : Nat → Nat} {G : Nat → va_E} {d : Nat} {ik kn ln th m q te us sp bg fo le re ca : Int32} {fx fy nx ny ux uy px py : Int64} {ml : Int32} {f : Nat → Int32}  (g40 : G 40 = .inr (9, [.ref (ad 41), .ref (ad 42), .ref (ad 43), .int ik, .ref (ad 44), .int kn, .ref (ad 45), .int ln, .int th, .int m, .int q, .int te, .long fx, .long fy, .long nx, .long ny, .long ux, .long uy, .int us, .long px, .long py, .ref (ad 46), .ref (ad 47), .int sp, .int bg, .int fo, .int le, .int (nI d), .int re, .int ca])) (g41 : G 41 = .inl (L.ac 0, 60, .inl (sv f ml))) (hle : le = 116) (h2 : 2 ≤ d) (h60 : d ≤ 60) (hro : f d < 0) : GM L yX9_doesOrder cX9_doesOrder 1 ((some .int)) rm_X9_do_tS 50 ad G [.ref (ad 40)] (fun vo G' => vo = some (.int (-12)) ∧ G = G') := by
  refine GM.of (own := RX9) (lo := [(0, .ref (ad 40))]) (by decide +kernel) rfl rfl (Nat.le_of_ble_eq_true rfl) (fun E C hr => ?_)
  refine G_aload_n C 0 dX9_doesOrder_0 rfl rfl ?_
  refine G_get C 40 (by decide) g40 rfl inA9 26 (by decide) rfl kf_X9_215 rfl dX9_doesOrder_1 ?_
  refine GW.topr (y := 116) hle ?_
  refine G_lookup C (off := 45) 49 dX9_doesOrder_4 (by decide) (by decide) (by decide) ?_
  refine G_aload_n C 0 dX9_doesOrder_49 rfl rfl ?_
  refine G_aload_n C 0 dX9_doesOrder_50 rfl rfl ?_
  refine G_get C 40 (by decide) g40 rfl inA9 27 (by decide) rfl kf_X9_225 rfl dX9_doesOrder_51 ?_
  refine G_callV C (As := [.int (nI d)]) (rest := []) (c_X9_goTakeS g40 g41 h2 h60 hro) ca_X9_goTake km_X9_148 (by decide) g40 rfl rfl rfl rfl (by decide) (Nat.le_of_ble_eq_true rfl) (by decide) dX9_doesOrder_54 (fun vv1 gg2 qq3 => ?_)
  obtain ⟨rfl, rfl⟩ := qq3
  exact G_zret C hr rfl dX9_doesOrder_57 ⟨rfl, rfl⟩

abbrev rm_X9_do_tR : Room := ({ frames := 6, cells := 0, slots := 0, locals := 130 } : Room)
set_option maxRecDepth 100000 in
set_option maxHeartbeats 4000000 in
theorem c_X9_do_tR {L : GL} {ad : Nat → Nat} {G : Nat → va_E} {d : Nat} {ik kn ln th m q te us sp bg fo le re ca : Int32} {fx fy nx ny ux uy px py : Int64} {ml : Int32} {f : Nat → Int32}  (g40 : G 40 = .inr (9, [.ref (ad 41), .ref (ad 42), .ref (ad 43), .int ik, .ref (ad 44), .int kn, .ref (ad 45), .int ln, .int th, .int m, .int q, .int te, .long fx, .long fy, .long nx, .long ny, .long ux, .long uy, .int us, .long px, .long py, .ref (ad 46), .ref (ad 47), .int sp, .int bg, .int fo, .int le, .int (nI d), .int re, .int ca])) (g41 : G 41 = .inl (L.ac 0, 60, .inl (sv f ml))) (hle : le = 116) (h2 : 2 ≤ d) (h60 : d ≤ 60) (hro : 0 ≤ f d) : GM L yX9_doesOrder cX9_doesOrder 1 ((some .int)) rm_X9_do_tR 50 ad G [.ref (ad 40)] (fun vo G' => vo = some (.int (f d)) ∧ G' 41 = .inl (L.ac 0, 60, .inl (sv (upd f d (-1)) ml)) ∧ Agr [41] G G') := by
  refine GM.of (own := RX9) (lo := [(0, .ref (ad 40))]) (by decide +kernel) rfl rfl (Nat.le_of_ble_eq_true rfl) (fun E C hr => ?_)
  refine G_aload_n C 0 dX9_doesOrder_0 rfl rfl ?_
  refine G_get C 40 (by decide) g40 rfl inA9 26 (by decide) rfl kf_X9_215 rfl dX9_doesOrder_1 ?_
  refine GW.topr (y := 116) hle ?_
  refine G_lookup C (off := 45) 49 dX9_doesOrder_4 (by decide) (by decide) (by decide) ?_
  refine G_aload_n C 0 dX9_doesOrder_49 rfl rfl ?_
  refine G_aload_n C 0 dX9_doesOrder_50 rfl rfl ?_
  refine G_get C 40 (by decide) g40 rfl inA9 27 (by decide) rfl kf_X9_225 rfl dX9_doesOrder_51 ?_
  refine G_callV C (As := [.int (nI d)]) (rest := []) (c_X9_goTakeR g40 g41 h2 h60 hro) ca_X9_goTake km_X9_148 (by decide) g40 rfl rfl rfl rfl (by decide) (Nat.le_of_ble_eq_true rfl) (by decide) dX9_doesOrder_54 (fun vv1 gg2 qq3 => ?_)
  obtain ⟨rfl, hh4, aa5⟩ := qq3
  have AA6 : Agr [41] G gg2 := aa5.wk (by simp)
  exact G_zret C hr rfl dX9_doesOrder_57 ⟨rfl, hh4, AA6⟩

abbrev rm_X9_do_mS1 : Room := ({ frames := 6, cells := 0, slots := 0, locals := 130 } : Room)
set_option maxRecDepth 100000 in
set_option maxHeartbeats 4000000 in
theorem c_X9_do_mS1 {L : GL} {ad : Nat → Nat} {G : Nat → va_E} {d : Nat} {ik kn ln th m q te us sp bg fo le re ca : Int32} {fx fy nx ny ux uy px py : Int64} {ml : Int32} {f : Nat → Int32}  (g40 : G 40 = .inr (9, [.ref (ad 41), .ref (ad 42), .ref (ad 43), .int ik, .ref (ad 44), .int kn, .ref (ad 45), .int ln, .int th, .int m, .int q, .int te, .long fx, .long fy, .long nx, .long ny, .long ux, .long uy, .int us, .long px, .long py, .ref (ad 46), .ref (ad 47), .int sp, .int bg, .int fo, .int le, .int (nI d), .int re, .int ca])) (g41 : G 41 = .inl (L.ac 0, 60, .inl (sv f ml))) (hle : le = 109) (h2 : 2 ≤ d) (h60 : d ≤ 60) (hro : f d < 0) : GM L yX9_doesOrder cX9_doesOrder 1 ((some .int)) rm_X9_do_mS1 50 ad G [.ref (ad 40)] (fun vo G' => ∃ (j1 : Int32) (j2 : Int32) (j3 : Int32) (j4 : Int64) (j5 : Int64) (j6 : Int64) (j7 : Int64) (u1 : Int64) (u2 : Int64) (u3 : Int32) (p1 : Int64) (p2 : Int64), vo = some (.int (-12)) ∧ G' 40 = .inr (9, [.ref (ad 41), .ref (ad 42), .ref (ad 43), .int ik, .ref (ad 44), .int kn, .ref (ad 45), .int ln, .int th, .int j1, .int j2, .int j3, .long j4, .long j5, .long j6, .long j7, .long u1, .long u2, .int u3, .long p1, .long p2, .ref (ad 46), .ref (ad 47), .int sp, .int bg, .int fo, .int le, .int (nI d), .int re, .int ca]) ∧ Agr [40] G G') := by
  refine GM.of (own := RX9) (lo := [(0, .ref (ad 40))]) (by decide +kernel) rfl rfl (Nat.le_of_ble_eq_true rfl) (fun E C hr => ?_)
  refine G_aload_n C 0 dX9_doesOrder_0 rfl rfl ?_
  refine G_get C 40 (by decide) g40 rfl inA9 26 (by decide) rfl kf_X9_215 rfl dX9_doesOrder_1 ?_
  refine GW.topr (y := 109) hle ?_
  refine G_lookup C (off := 54) 58 dX9_doesOrder_4 (by decide) (by decide) (by decide) ?_
  refine G_aload_n C 0 dX9_doesOrder_58 rfl rfl ?_
  refine G_aload_n C 0 dX9_doesOrder_59 rfl rfl ?_
  refine G_get C 40 (by decide) g40 rfl inA9 27 (by decide) rfl kf_X9_225 rfl dX9_doesOrder_60 ?_
  refine G_callV C (As := [.int (nI d)]) (rest := []) (c_X9_goMillS1 g40 g41 h2 h60 hro) ca_X9_goMill km_X9_151 (by decide) g40 rfl rfl rfl rfl (by decide) (Nat.le_of_ble_eq_true rfl) (by decide) dX9_doesOrder_63 (fun vv1 gg2 qq3 => ?_)
  obtain ⟨j_4, j_5, j_6, j_7, j_8, j_9, j_10, u_11, u_12, u_13, p_14, p_15, rfl, hh16, aa17⟩ := qq3
  have AA18 : Agr [40] G gg2 := aa17.wk (by simp)
  exact G_zret C hr rfl dX9_doesOrder_66 ⟨_, _, _, _, _, _, _, _, _, _, _, _, rfl, hh16, AA18⟩

abbrev rm_X9_do_mS2 : Room := ({ frames := 6, cells := 0, slots := 0, locals := 130 } : Room)
set_option maxRecDepth 100000 in
set_option maxHeartbeats 4000000 in
theorem c_X9_do_mS2 {L : GL} {ad : Nat → Nat} {G : Nat → va_E} {d h : Nat} {ik kn ln th m q te us sp bg fo le re ca : Int32} {fx fy nx ny ux uy px py : Int64} {ml : Int32} {f : Nat → Int32}  (g40 : G 40 = .inr (9, [.ref (ad 41), .ref (ad 42), .ref (ad 43), .int ik, .ref (ad 44), .int kn, .ref (ad 45), .int ln, .int th, .int m, .int q, .int te, .long fx, .long fy, .long nx, .long ny, .long ux, .long uy, .int us, .long px, .long py, .ref (ad 46), .ref (ad 47), .int sp, .int bg, .int fo, .int le, .int (nI d), .int re, .int ca])) (g41 : G 41 = .inl (L.ac 0, 60, .inl (sv f ml))) (hle : le = 109) (h2 : 2 ≤ d) (h60 : d ≤ 60) (hp : pern d ≠ 0) (hg : h ≤ gpn d) (hf : f d = nI h) (hro : ¬ h < gpn d) : GM L yX9_doesOrder cX9_doesOrder 1 ((some .int)) rm_X9_do_mS2 50 ad G [.ref (ad 40)] (fun vo G' => ∃ (j1 : Int32) (j2 : Int32) (j3 : Int32) (j4 : Int64) (j5 : Int64) (j6 : Int64) (j7 : Int64) (u1 : Int64) (u2 : Int64) (u3 : Int32) (p1 : Int64) (p2 : Int64), vo = some (.int (-12)) ∧ G' 40 = .inr (9, [.ref (ad 41), .ref (ad 42), .ref (ad 43), .int ik, .ref (ad 44), .int kn, .ref (ad 45), .int ln, .int th, .int j1, .int j2, .int j3, .long j4, .long j5, .long j6, .long j7, .long u1, .long u2, .int u3, .long p1, .long p2, .ref (ad 46), .ref (ad 47), .int sp, .int bg, .int fo, .int le, .int (nI d), .int re, .int ca]) ∧ Agr [40] G G') := by
  refine GM.of (own := RX9) (lo := [(0, .ref (ad 40))]) (by decide +kernel) rfl rfl (Nat.le_of_ble_eq_true rfl) (fun E C hr => ?_)
  refine G_aload_n C 0 dX9_doesOrder_0 rfl rfl ?_
  refine G_get C 40 (by decide) g40 rfl inA9 26 (by decide) rfl kf_X9_215 rfl dX9_doesOrder_1 ?_
  refine GW.topr (y := 109) hle ?_
  refine G_lookup C (off := 54) 58 dX9_doesOrder_4 (by decide) (by decide) (by decide) ?_
  refine G_aload_n C 0 dX9_doesOrder_58 rfl rfl ?_
  refine G_aload_n C 0 dX9_doesOrder_59 rfl rfl ?_
  refine G_get C 40 (by decide) g40 rfl inA9 27 (by decide) rfl kf_X9_225 rfl dX9_doesOrder_60 ?_
  refine G_callV C (As := [.int (nI d)]) (rest := []) (c_X9_goMillS2 g40 g41 h2 h60 hp hg hf hro) ca_X9_goMill km_X9_151 (by decide) g40 rfl rfl rfl rfl (by decide) (Nat.le_of_ble_eq_true rfl) (by decide) dX9_doesOrder_63 (fun vv1 gg2 qq3 => ?_)
  obtain ⟨j_4, j_5, j_6, j_7, j_8, j_9, j_10, u_11, u_12, u_13, p_14, p_15, rfl, hh16, aa17⟩ := qq3
  have AA18 : Agr [40] G gg2 := aa17.wk (by simp)
  exact G_zret C hr rfl dX9_doesOrder_66 ⟨_, _, _, _, _, _, _, _, _, _, _, _, rfl, hh16, AA18⟩

abbrev rm_X9_do_mR : Room := ({ frames := 6, cells := 0, slots := 0, locals := 130 } : Room)
set_option maxRecDepth 100000 in
set_option maxHeartbeats 4000000 in
theorem c_X9_do_mR {L : GL} {ad : Nat → Nat} {G : Nat → va_E} {d h : Nat} {ik kn ln th m q te us sp bg fo le re ca : Int32} {fx fy nx ny ux uy px py : Int64} {ml : Int32} {f : Nat → Int32}  (g40 : G 40 = .inr (9, [.ref (ad 41), .ref (ad 42), .ref (ad 43), .int ik, .ref (ad 44), .int kn, .ref (ad 45), .int ln, .int th, .int m, .int q, .int te, .long fx, .long fy, .long nx, .long ny, .long ux, .long uy, .int us, .long px, .long py, .ref (ad 46), .ref (ad 47), .int sp, .int bg, .int fo, .int le, .int (nI d), .int re, .int ca])) (g41 : G 41 = .inl (L.ac 0, 60, .inl (sv f ml))) (hle : le = 109) (h2 : 2 ≤ d) (h60 : d ≤ 60) (hp : pern d ≠ 0) (hg : h ≤ gpn d) (hf : f d = nI h) (hro : h < gpn d) : GM L yX9_doesOrder cX9_doesOrder 1 ((some .int)) rm_X9_do_mR 50 ad G [.ref (ad 40)] (fun vo G' => ∃ (j1 : Int32) (j2 : Int32) (j3 : Int32) (j4 : Int64) (j5 : Int64) (j6 : Int64) (j7 : Int64) (u1 : Int64) (u2 : Int64) (u3 : Int32) (p1 : Int64) (p2 : Int64), vo = some (.int 0) ∧ G' 40 = .inr (9, [.ref (ad 41), .ref (ad 42), .ref (ad 43), .int ik, .ref (ad 44), .int kn, .ref (ad 45), .int ln, .int th, .int j1, .int j2, .int j3, .long j4, .long j5, .long j6, .long j7, .long u1, .long u2, .int u3, .long p1, .long p2, .ref (ad 46), .ref (ad 47), .int sp, .int bg, .int fo, .int le, .int (nI d), .int re, .int ca]) ∧ G' 41 = .inl (L.ac 0, 60, .inl (sv (upd f d (nI (h + 1))) (ml + 1))) ∧ Agr [40, 41] G G') := by
  refine GM.of (own := RX9) (lo := [(0, .ref (ad 40))]) (by decide +kernel) rfl rfl (Nat.le_of_ble_eq_true rfl) (fun E C hr => ?_)
  refine G_aload_n C 0 dX9_doesOrder_0 rfl rfl ?_
  refine G_get C 40 (by decide) g40 rfl inA9 26 (by decide) rfl kf_X9_215 rfl dX9_doesOrder_1 ?_
  refine GW.topr (y := 109) hle ?_
  refine G_lookup C (off := 54) 58 dX9_doesOrder_4 (by decide) (by decide) (by decide) ?_
  refine G_aload_n C 0 dX9_doesOrder_58 rfl rfl ?_
  refine G_aload_n C 0 dX9_doesOrder_59 rfl rfl ?_
  refine G_get C 40 (by decide) g40 rfl inA9 27 (by decide) rfl kf_X9_225 rfl dX9_doesOrder_60 ?_
  refine G_callV C (As := [.int (nI d)]) (rest := []) (c_X9_goMillR g40 g41 h2 h60 hp hg hf hro) ca_X9_goMill km_X9_151 (by decide) g40 rfl rfl rfl rfl (by decide) (Nat.le_of_ble_eq_true rfl) (by decide) dX9_doesOrder_63 (fun vv1 gg2 qq3 => ?_)
  obtain ⟨j_4, j_5, j_6, j_7, j_8, j_9, j_10, u_11, u_12, u_13, p_14, p_15, rfl, pp16, hh17, hh18, aa19⟩ := qq3
  have AA20 : Agr [40, 41] G gg2 := aa19.wk (by simp)
  exact G_zret C hr rfl dX9_doesOrder_66 ⟨_, _, _, _, _, _, _, _, _, _, _, _, rfl, hh17, hh18, AA20⟩

abbrev rm_X9_do_bS : Room := ({ frames := 6, cells := 0, slots := 0, locals := 130 } : Room)
set_option maxRecDepth 100000 in
set_option maxHeartbeats 4000000 in
theorem c_X9_do_bS {L : GL} {ad : Nat → Nat} {G : Nat → va_E} {d : Nat} {ik kn ln th m q te us sp bg fo le re ca : Int32} {fx fy nx ny ux uy px py : Int64} {ml : Int32} {f : Nat → Int32}  (g40 : G 40 = .inr (9, [.ref (ad 41), .ref (ad 42), .ref (ad 43), .int ik, .ref (ad 44), .int kn, .ref (ad 45), .int ln, .int th, .int m, .int q, .int te, .long fx, .long fy, .long nx, .long ny, .long ux, .long uy, .int us, .long px, .long py, .ref (ad 46), .ref (ad 47), .int sp, .int bg, .int fo, .int le, .int (nI d), .int re, .int ca])) (g41 : G 41 = .inl (L.ac 0, 60, .inl (sv f ml))) (hle : le = 98) (h2 : 2 ≤ d) (h60 : d ≤ 60) (hro : f d < 1) : GM L yX9_doesOrder cX9_doesOrder 1 ((some .int)) rm_X9_do_bS 50 ad G [.ref (ad 40)] (fun vo G' => ∃ (j1 : Int32) (j2 : Int32) (j3 : Int32) (j4 : Int64) (j5 : Int64) (j6 : Int64) (j7 : Int64) (u1 : Int64) (u2 : Int64) (u3 : Int32) (p1 : Int64) (p2 : Int64), vo = some (.int (-12)) ∧ G' 40 = .inr (9, [.ref (ad 41), .ref (ad 42), .ref (ad 43), .int ik, .ref (ad 44), .int kn, .ref (ad 45), .int ln, .int th, .int j1, .int j2, .int j3, .long j4, .long j5, .long j6, .long j7, .long u1, .long u2, .int u3, .long p1, .long p2, .ref (ad 46), .ref (ad 47), .int sp, .int bg, .int fo, .int le, .int (nI d), .int re, .int ca]) ∧ Agr [40] G G') := by
  refine GM.of (own := RX9) (lo := [(0, .ref (ad 40))]) (by decide +kernel) rfl rfl (Nat.le_of_ble_eq_true rfl) (fun E C hr => ?_)
  refine G_aload_n C 0 dX9_doesOrder_0 rfl rfl ?_
  refine G_get C 40 (by decide) g40 rfl inA9 26 (by decide) rfl kf_X9_215 rfl dX9_doesOrder_1 ?_
  refine GW.topr (y := 98) hle ?_
  refine G_lookup C (off := 63) 67 dX9_doesOrder_4 (by decide) (by decide) (by decide) ?_
  refine G_aload_n C 0 dX9_doesOrder_67 rfl rfl ?_
  refine G_aload_n C 0 dX9_doesOrder_68 rfl rfl ?_
  refine G_get C 40 (by decide) g40 rfl inA9 27 (by decide) rfl kf_X9_225 rfl dX9_doesOrder_69 ?_
  refine G_callV C (As := [.int (nI d)]) (rest := []) (c_X9_goBackwardS g40 g41 h2 h60 hro) ca_X9_goBackward km_X9_154 (by decide) g40 rfl rfl rfl rfl (by decide) (Nat.le_of_ble_eq_true rfl) (by decide) dX9_doesOrder_72 (fun vv1 gg2 qq3 => ?_)
  obtain ⟨j_4, j_5, j_6, j_7, j_8, j_9, j_10, u_11, u_12, u_13, p_14, p_15, rfl, hh16, aa17⟩ := qq3
  have AA18 : Agr [40] G gg2 := aa17.wk (by simp)
  exact G_zret C hr rfl dX9_doesOrder_75 ⟨_, _, _, _, _, _, _, _, _, _, _, _, rfl, hh16, AA18⟩

abbrev rm_X9_do_bR : Room := ({ frames := 6, cells := 0, slots := 0, locals := 130 } : Room)
set_option maxRecDepth 100000 in
set_option maxHeartbeats 4000000 in
theorem c_X9_do_bR {L : GL} {ad : Nat → Nat} {G : Nat → va_E} {d k : Nat} {ik kn ln th m q te us sp bg fo le re ca : Int32} {fx fy nx ny ux uy px py : Int64} {ml : Int32} {f : Nat → Int32}  (g40 : G 40 = .inr (9, [.ref (ad 41), .ref (ad 42), .ref (ad 43), .int ik, .ref (ad 44), .int kn, .ref (ad 45), .int ln, .int th, .int m, .int q, .int te, .long fx, .long fy, .long nx, .long ny, .long ux, .long uy, .int us, .long px, .long py, .ref (ad 46), .ref (ad 47), .int sp, .int bg, .int fo, .int le, .int (nI d), .int re, .int ca])) (g41 : G 41 = .inl (L.ac 0, 60, .inl (sv f ml))) (hle : le = 98) (h2 : 2 ≤ d) (h60 : d ≤ 60) (hp : pern d ≠ 0) (hg : k + 1 ≤ gpn d) (hf : f d = nI (k + 1)) : GM L yX9_doesOrder cX9_doesOrder 1 ((some .int)) rm_X9_do_bR 50 ad G [.ref (ad 40)] (fun vo G' => ∃ (j1 : Int32) (j2 : Int32) (j3 : Int32) (j4 : Int64) (j5 : Int64) (j6 : Int64) (j7 : Int64) (u1 : Int64) (u2 : Int64) (u3 : Int32) (p1 : Int64) (p2 : Int64), vo = some (.int 0) ∧ G' 40 = .inr (9, [.ref (ad 41), .ref (ad 42), .ref (ad 43), .int ik, .ref (ad 44), .int kn, .ref (ad 45), .int ln, .int th, .int j1, .int j2, .int j3, .long j4, .long j5, .long j6, .long j7, .long u1, .long u2, .int u3, .long p1, .long p2, .ref (ad 46), .ref (ad 47), .int sp, .int bg, .int fo, .int le, .int (nI d), .int re, .int ca]) ∧ G' 41 = .inl (L.ac 0, 60, .inl (sv (upd f d (nI k)) ml)) ∧ Agr [40, 41] G G') := by
  refine GM.of (own := RX9) (lo := [(0, .ref (ad 40))]) (by decide +kernel) rfl rfl (Nat.le_of_ble_eq_true rfl) (fun E C hr => ?_)
  refine G_aload_n C 0 dX9_doesOrder_0 rfl rfl ?_
  refine G_get C 40 (by decide) g40 rfl inA9 26 (by decide) rfl kf_X9_215 rfl dX9_doesOrder_1 ?_
  refine GW.topr (y := 98) hle ?_
  refine G_lookup C (off := 63) 67 dX9_doesOrder_4 (by decide) (by decide) (by decide) ?_
  refine G_aload_n C 0 dX9_doesOrder_67 rfl rfl ?_
  refine G_aload_n C 0 dX9_doesOrder_68 rfl rfl ?_
  refine G_get C 40 (by decide) g40 rfl inA9 27 (by decide) rfl kf_X9_225 rfl dX9_doesOrder_69 ?_
  refine G_callV C (As := [.int (nI d)]) (rest := []) (c_X9_goBackwardR g40 g41 h2 h60 hp hg hf) ca_X9_goBackward km_X9_154 (by decide) g40 rfl rfl rfl rfl (by decide) (Nat.le_of_ble_eq_true rfl) (by decide) dX9_doesOrder_72 (fun vv1 gg2 qq3 => ?_)
  obtain ⟨j_4, j_5, j_6, j_7, j_8, j_9, j_10, u_11, u_12, u_13, p_14, p_15, rfl, pp16, hh17, hh18, aa19⟩ := qq3
  have AA20 : Agr [40, 41] G gg2 := aa19.wk (by simp)
  exact G_zret C hr rfl dX9_doesOrder_75 ⟨_, _, _, _, _, _, _, _, _, _, _, _, rfl, hh17, hh18, AA20⟩

