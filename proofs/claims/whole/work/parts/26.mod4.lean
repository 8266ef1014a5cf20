theorem u32_ok : ∀ d, d < 61 → (tUx d).toInt64.toInt32 = tUx d ∧ (tUy d).toInt64.toInt32 = tUy d := by decide +kernel
theorem least_ok : ∀ d, d < 61 → pern d ≠ 0 → (if sgF (nI d) = 1 then (tUy d).toInt64.toInt32 else (2 * (tUx d).toInt64 * (tUy d).toInt64).toInt32) = nI (lyn d) := by decide +kernel
theorem neg_1 : (-1 : Int32) < 0 := by decide
theorem has_lt {f : Nat → Int32} {j : Nat} (hk : okH f) (h2 : 2 ≤ j) (h60 : j ≤ 60) : hasF f (nI j) = 0 ↔ f j < 0 := by
  have e : hasF f (nI j) = if f j = -1 then 0 else 1 := by rw [hasF, hOf_d f (by omega)]
  rw [e]
  rcases hk j h2 h60 with z | ⟨-, h, hg, z⟩
  · rw [z]; exact ⟨fun _ => neg_1, fun _ => if_pos rfl⟩
  · have h39 := gp_lt j (by omega)
    rw [z, if_neg (nI_neg (by omega))]
    exact ⟨fun y => absurd y (by decide), fun y => absurd y (nI_pos (by omega))⟩
/-- the model's sign of a stone -/
def sgM (f : Nat → Int32) (d : Nat) : Int32 := if f d - f d / 2 * 2 = 0 then 1 else sgF (nI d)
def msF (f : Nat → Int32) : Nat → Int32
  | 0 => 0
  | j + 1 => msF f j + (if f (j + 2) < 0 then 0 else if 0 ≤ sgM f (j + 2) then 0 else 1)
abbrev rm_X9_asks0 : Room := ({ frames := 0, cells := 0, slots := 0, locals := 0 } : Room)
set_option maxRecDepth 100000 in
set_option maxHeartbeats 4000000 in
theorem c_X9_asks0 {L : GL} {ad : Nat → Nat} {G : Nat → va_E} {ik kn ln th m q te us sp bg fo le fi re ca : Int32} {fx fy nx ny ux uy px py : Int64}  (g40 : G 40 = .inr (9, [.ref (ad 41), .ref (ad 42), .ref (ad 43), .int ik, .ref (ad 44), .int kn, .ref (ad 45), .int ln, .int th, .int m, .int q, .int te, .long fx, .long fy, .long nx, .long ny, .long ux, .long uy, .int us, .long px, .long py, .ref (ad 46), .ref (ad 47), .int sp, .int bg, .int fo, .int le, .int fi, .int re, .int ca]))  : GM L yX9_asks cX9_asks 2 ((some .boolean)) rm_X9_asks0 50 ad G [.ref (ad 40), .int 0] (fun vo G' => vo = some (.int 0) ∧ G' 40 = .inr (9, [.ref (ad 41), .ref (ad 42), .ref (ad 43), .int ik, .ref (ad 44), .int kn, .ref (ad 45), .int ln, .int 1, .int m, .int q, .int te, .long fx, .long fy, .long nx, .long ny, .long ux, .long uy, .int us, .long px, .long py, .ref (ad 46), .ref (ad 47), .int sp, .int bg, .int fo, .int le, .int fi, .int re, .int ca]) ∧ Agr [40] G G') := by
  refine GM.of (own := RX9) (lo := [(0, .ref (ad 40)), (1, .int 0)]) (by decide +kernel) rfl rfl (Nat.le_of_ble_eq_true rfl) (fun E C hr => ?_)
  refine G_aload_n C 0 dX9_asks_0 rfl rfl ?_
  refine G_iload_n C 1 dX9_asks_1 rfl rfl ?_
  refine G_if_eq C 9 dX9_asks_2 (by decide) (fun _ => ?_) (fun h => absurd h (by decide))
  refine G_iconst C (v := 1) dX9_asks_9 (by decide) ?_
  refine G_putp C 40 (by decide) g40 rfl inA9 tyX9_ok nmX9 8 (by decide) rfl kf_X9_32 rfl rfl rfl (fs' := [.ref (ad 41), .ref (ad 42), .ref (ad 43), .int ik, .ref (ad 44), .int kn, .ref (ad 45), .int ln, .int 1, .int m, .int q, .int te, .long fx, .long fy, .long nx, .long ny, .long ux, .long uy, .int us, .long px, .long py, .ref (ad 46), .ref (ad 47), .int sp, .int bg, .int fo, .int le, .int fi, .int re, .int ca]) (Nat.le_of_ble_eq_true rfl) rfl dX9_asks_10 (fun gg1 hh2 aa3 => ?_)
  have AA4 : Agr [40] G gg1 := aa3.wk (by simp)
  refine G_iload_n C 1 dX9_asks_13 rfl rfl ?_
  exact G_zret C hr rfl dX9_asks_14 ⟨rfl, hh2, AA4⟩

abbrev rm_X9_asks1 : Room := ({ frames := 0, cells := 0, slots := 0, locals := 0 } : Room)
set_option maxRecDepth 100000 in
set_option maxHeartbeats 4000000 in
theorem c_X9_asks1 {L : GL} {ad : Nat → Nat} {G : Nat → va_E} {ik kn ln th m q te us sp bg fo le fi re ca : Int32} {fx fy nx ny ux uy px py : Int64}  (g40 : G 40 = .inr (9, [.ref (ad 41), .ref (ad 42), .ref (ad 43), .int ik, .ref (ad 44), .int kn, .ref (ad 45), .int ln, .int th, .int m, .int q, .int te, .long fx, .long fy, .long nx, .long ny, .long ux, .long uy, .int us, .long px, .long py, .ref (ad 46), .ref (ad 47), .int sp, .int bg, .int fo, .int le, .int fi, .int re, .int ca]))  : GM L yX9_asks cX9_asks 2 ((some .boolean)) rm_X9_asks1 50 ad G [.ref (ad 40), .int 1] (fun vo G' => vo = some (.int 1) ∧ G' 40 = .inr (9, [.ref (ad 41), .ref (ad 42), .ref (ad 43), .int ik, .ref (ad 44), .int kn, .ref (ad 45), .int ln, .int 0, .int m, .int q, .int te, .long fx, .long fy, .long nx, .long ny, .long ux, .long uy, .int us, .long px, .long py, .ref (ad 46), .ref (ad 47), .int sp, .int bg, .int fo, .int le, .int fi, .int re, .int ca]) ∧ Agr [40] G G') := by
  refine GM.of (own := RX9) (lo := [(0, .ref (ad 40)), (1, .int 1)]) (by decide +kernel) rfl rfl (Nat.le_of_ble_eq_true rfl) (fun E C hr => ?_)
  refine G_aload_n C 0 dX9_asks_0 rfl rfl ?_
  refine G_iload_n C 1 dX9_asks_1 rfl rfl ?_
  refine G_if_eq C 9 dX9_asks_2 (by decide) (fun h => absurd h (by decide)) (fun _ => ?_)
  refine G_iconst C (v := 0) dX9_asks_5 (by decide) ?_
  refine G_goto C 10 dX9_asks_6 (by decide) ?_
  refine G_putp C 40 (by decide) g40 rfl inA9 tyX9_ok nmX9 8 (by decide) rfl kf_X9_32 rfl rfl rfl (fs' := [.ref (ad 41), .ref (ad 42), .ref (ad 43), .int ik, .ref (ad 44), .int kn, .ref (ad 45), .int ln, .int 0, .int m, .int q, .int te, .long fx, .long fy, .long nx, .long ny, .long ux, .long uy, .int us, .long px, .long py, .ref (ad 46), .ref (ad 47), .int sp, .int bg, .int fo, .int le, .int fi, .int re, .int ca]) (Nat.le_of_ble_eq_true rfl) rfl dX9_asks_10 (fun gg1 hh2 aa3 => ?_)
  have AA4 : Agr [40] G gg1 := aa3.wk (by simp)
  refine G_iload_n C 1 dX9_asks_13 rfl rfl ?_
  exact G_zret C hr rfl dX9_asks_14 ⟨rfl, hh2, AA4⟩

abbrev rm_X9_whyNotA : Room := ({ frames := 2, cells := 0, slots := 0, locals := 42 } : Room)
set_option maxRecDepth 100000 in
set_option maxHeartbeats 4000000 in
theorem c_X9_whyNotA {L : GL} {ad : Nat → Nat} {G : Nat → va_E} {n : Int32} {ik kn ln th m q te us sp bg fo le fi re ca : Int32} {fx fy nx ny ux uy px py : Int64}  (g40 : G 40 = .inr (9, [.ref (ad 41), .ref (ad 42), .ref (ad 43), .int ik, .ref (ad 44), .int kn, .ref (ad 45), .int ln, .int th, .int m, .int q, .int te, .long fx, .long fy, .long nx, .long ny, .long ux, .long uy, .int us, .long px, .long py, .ref (ad 46), .ref (ad 47), .int sp, .int bg, .int fo, .int le, .int fi, .int re, .int ca])) (hn0 : numF n = 0) : GM L yX9_whyNot cX9_whyNot 2 ((some .int)) rm_X9_whyNotA 50 ad G [.ref (ad 40), .int n] (fun vo G' => vo = some (.int 0) ∧ G' 40 = .inr (9, [.ref (ad 41), .ref (ad 42), .ref (ad 43), .int ik, .ref (ad 44), .int kn, .ref (ad 45), .int ln, .int 1, .int m, .int q, .int te, .long fx, .long fy, .long nx, .long ny, .long ux, .long uy, .int us, .long px, .long py, .ref (ad 46), .ref (ad 47), .int sp, .int bg, .int fo, .int le, .int fi, .int re, .int ca]) ∧ Agr [40] G G') := by
  refine GM.of (own := RX9) (lo := [(0, .ref (ad 40)), (1, .int n)]) (by decide +kernel) rfl rfl (Nat.le_of_ble_eq_true rfl) (fun E C hr => ?_)
  refine G_aload_n C 0 dX9_whyNot_0 rfl rfl ?_
  refine G_iload_n C 1 dX9_whyNot_1 rfl rfl ?_
  refine G_callS C (As := [.int n]) (rest := [.ref (ad 40)]) c_X9_isNumber ca_X9_isNumber km_X9_126 rfl rfl (by decide) (Nat.le_of_ble_eq_true rfl) (by decide) dX9_whyNot_2 (fun vv1 gg2 qq3 => ?_)
  obtain ⟨rfl, rfl⟩ := qq3
  refine GW.topr (y := 0) hn0 ?_
  refine G_callV C (As := [.int 0]) (rest := []) (c_X9_asks0 g40) ca_X9_asks km_X9_161 (by decide) g40 rfl rfl rfl rfl (by decide) (Nat.le_of_ble_eq_true rfl) (by decide) dX9_whyNot_5 (fun vv4 gg5 qq6 => ?_)
  obtain ⟨rfl, hh7, aa8⟩ := qq6
  have AA9 : Agr [40] G gg5 := aa8.wk (by simp)
  refine G_if_eq C 19 dX9_whyNot_8 (by decide) (fun _ => ?_) (fun h => absurd h (by decide))
  refine G_iconst C (v := 0) dX9_whyNot_19 (by decide) ?_
  exact G_zret C hr rfl dX9_whyNot_20 ⟨rfl, hh7, AA9⟩

abbrev rm_X9_whyNotR : Room := ({ frames := 3, cells := 0, slots := 0, locals := 64 } : Room)
set_option maxRecDepth 100000 in
set_option maxHeartbeats 4000000 in
theorem c_X9_whyNotR {L : GL} {ad : Nat → Nat} {G : Nat → va_E} {d : Nat} {ik kn ln th m q te us sp bg fo le fi re ca : Int32} {fx fy nx ny ux uy px py : Int64} {ml : Int32} {f : Nat → Int32}  (g40 : G 40 = .inr (9, [.ref (ad 41), .ref (ad 42), .ref (ad 43), .int ik, .ref (ad 44), .int kn, .ref (ad 45), .int ln, .int th, .int m, .int q, .int te, .long fx, .long fy, .long nx, .long ny, .long ux, .long uy, .int us, .long px, .long py, .ref (ad 46), .ref (ad 47), .int sp, .int bg, .int fo, .int le, .int fi, .int re, .int ca])) (g41 : G 41 = .inl (L.ac 0, 60, .inl (sv f ml))) (h2 : 2 ≤ d) (h60 : d ≤ 60) : GM L yX9_whyNot cX9_whyNot 2 ((some .int)) rm_X9_whyNotR 50 ad G [.ref (ad 40), .int (nI d)] (fun vo G' => vo = some (.int (rsF f d)) ∧ G' 40 = .inr (9, [.ref (ad 41), .ref (ad 42), .ref (ad 43), .int ik, .ref (ad 44), .int kn, .ref (ad 45), .int ln, .int 0, .int m, .int q, .int te, .long fx, .long fy, .long nx, .long ny, .long ux, .long uy, .int us, .long px, .long py, .ref (ad 46), .ref (ad 47), .int sp, .int bg, .int fo, .int le, .int fi, .int re, .int ca]) ∧ Agr [40] G G') := by
  refine GM.of (own := RX9) (lo := [(0, .ref (ad 40)), (1, .int (nI d))]) (by decide +kernel) rfl rfl (Nat.le_of_ble_eq_true rfl) (fun E C hr => ?_)
  refine G_aload_n C 0 dX9_whyNot_0 rfl rfl ?_
  refine G_iload_n C 1 dX9_whyNot_1 rfl rfl ?_
  refine G_callS C (As := [.int (nI d)]) (rest := [.ref (ad 40)]) c_X9_isNumber ca_X9_isNumber km_X9_126 rfl rfl (by decide) (Nat.le_of_ble_eq_true rfl) (by decide) dX9_whyNot_2 (fun vv1 gg2 qq3 => ?_)
  obtain ⟨rfl, rfl⟩ := qq3
  refine GW.topr (y := 1) (num_d h2 h60) ?_
  refine G_callV C (As := [.int 1]) (rest := []) (c_X9_asks1 g40) ca_X9_asks km_X9_161 (by decide) g40 rfl rfl rfl rfl (by decide) (Nat.le_of_ble_eq_true rfl) (by decide) dX9_whyNot_5 (fun vv4 gg5 qq6 => ?_)
  obtain ⟨rfl, hh7, aa8⟩ := qq6
  have AA9 : Agr [40] G gg5 := aa8.wk (by simp)
  refine G_if_eq C 19 dX9_whyNot_8 (by decide) (fun h => absurd h (by decide)) (fun _ => ?_)
  refine G_aload_n C 0 dX9_whyNot_11 rfl rfl ?_
  refine G_iload_n C 1 dX9_whyNot_12 rfl rfl ?_
  refine G_callV C (As := [.int (nI d)]) (rest := []) (c_X9_reason hh7 ((aa8 41 (by decide)).trans g41) h2 h60) ca_X9_reason km_X9_129 (by decide) hh7 rfl rfl rfl rfl (by decide) (Nat.le_of_ble_eq_true rfl) (by decide) dX9_whyNot_13 (fun vv10 gg11 qq12 => ?_)
  obtain ⟨rfl, rfl⟩ := qq12
  refine G_goto C 20 dX9_whyNot_16 (by decide) ?_
  exact G_zret C hr rfl dX9_whyNot_20 ⟨rfl, hh7, AA9⟩

abbrev rm_X9_asksRootA : Room := ({ frames := 2, cells := 0, slots := 0, locals := 42 } : Room)
set_option maxRecDepth 100000 in
set_option maxHeartbeats 4000000 in
theorem c_X9_asksRootA {L : GL} {ad : Nat → Nat} {G : Nat → va_E} {n : Int32} {ik kn ln th m q te us sp bg fo le fi re ca : Int32} {fx fy nx ny ux uy px py : Int64} {b : Int32}  (g40 : G 40 = .inr (9, [.ref (ad 41), .ref (ad 42), .ref (ad 43), .int ik, .ref (ad 44), .int kn, .ref (ad 45), .int ln, .int th, .int m, .int q, .int te, .long fx, .long fy, .long nx, .long ny, .long ux, .long uy, .int us, .long px, .long py, .ref (ad 46), .ref (ad 47), .int sp, .int bg, .int fo, .int le, .int fi, .int re, .int ca])) (hn0 : numF n = 0) : GM L yX9_asksRoot cX9_asksRoot 3 ((some .boolean)) rm_X9_asksRootA 50 ad G [.ref (ad 40), .int n, .int b] (fun vo G' => vo = some (.int 0) ∧ G' 40 = .inr (9, [.ref (ad 41), .ref (ad 42), .ref (ad 43), .int ik, .ref (ad 44), .int kn, .ref (ad 45), .int ln, .int 1, .int m, .int q, .int te, .long fx, .long fy, .long nx, .long ny, .long ux, .long uy, .int us, .long px, .long py, .ref (ad 46), .ref (ad 47), .int sp, .int bg, .int fo, .int le, .int fi, .int re, .int ca]) ∧ Agr [40] G G') := by
  refine GM.of (own := RX9) (lo := [(0, .ref (ad 40)), (1, .int n), (2, .int b)]) (by decide +kernel) rfl rfl (Nat.le_of_ble_eq_true rfl) (fun E C hr => ?_)
  refine G_aload_n C 0 dX9_asksRoot_0 rfl rfl ?_
  refine G_iload_n C 1 dX9_asksRoot_1 rfl rfl ?_
  refine G_callS C (As := [.int n]) (rest := [.ref (ad 40)]) c_X9_isNumber ca_X9_isNumber km_X9_126 rfl rfl (by decide) (Nat.le_of_ble_eq_true rfl) (by decide) dX9_asksRoot_2 (fun vv1 gg2 qq3 => ?_)
  obtain ⟨rfl, rfl⟩ := qq3
  refine GW.topr (y := 0) hn0 ?_
  refine G_if_eq C 16 dX9_asksRoot_5 (by decide) (fun _ => ?_) (fun h => absurd h (by decide))
  refine G_iconst C (v := 0) dX9_asksRoot_16 (by decide) ?_
  refine G_callV C (As := [.int 0]) (rest := []) (c_X9_asks0 g40) ca_X9_asks km_X9_161 (by decide) g40 rfl rfl rfl rfl (by decide) (Nat.le_of_ble_eq_true rfl) (by decide) dX9_asksRoot_17 (fun vv4 gg5 qq6 => ?_)
  obtain ⟨rfl, hh7, aa8⟩ := qq6
  have AA9 : Agr [40] G gg5 := aa8.wk (by simp)
  refine G_if_ne C 25 dX9_asksRoot_20 (by decide) (fun h => absurd h (by decide)) (fun _ => ?_)
  refine G_iconst C (v := 0) dX9_asksRoot_23 (by decide) ?_
  exact G_zret C hr rfl dX9_asksRoot_24 ⟨rfl, hh7, AA9⟩

abbrev rm_X9_asksRootB : Room := ({ frames := 2, cells := 0, slots := 0, locals := 42 } : Room)
set_option maxRecDepth 100000 in
set_option maxHeartbeats 4000000 in
theorem c_X9_asksRootB {L : GL} {ad : Nat → Nat} {G : Nat → va_E} {d : Nat} {ik kn ln th m q te us sp bg fo le fi re ca : Int32} {fx fy nx ny ux uy px py : Int64}  (g40 : G 40 = .inr (9, [.ref (ad 41), .ref (ad 42), .ref (ad 43), .int ik, .ref (ad 44), .int kn, .ref (ad 45), .int ln, .int th, .int m, .int q, .int te, .long fx, .long fy, .long nx, .long ny, .long ux, .long uy, .int us, .long px, .long py, .ref (ad 46), .ref (ad 47), .int sp, .int bg, .int fo, .int le, .int fi, .int re, .int ca])) (h2 : 2 ≤ d) (h60 : d ≤ 60) : GM L yX9_asksRoot cX9_asksRoot 3 ((some .boolean)) rm_X9_asksRootB 50 ad G [.ref (ad 40), .int (nI d), .int 0] (fun vo G' => vo = some (.int 0) ∧ G' 40 = .inr (9, [.ref (ad 41), .ref (ad 42), .ref (ad 43), .int ik, .ref (ad 44), .int kn, .ref (ad 45), .int ln, .int 1, .int m, .int q, .int te, .long fx, .long fy, .long nx, .long ny, .long ux, .long uy, .int us, .long px, .long py, .ref (ad 46), .ref (ad 47), .int sp, .int bg, .int fo, .int le, .int fi, .int re, .int ca]) ∧ Agr [40] G G') := by
  refine GM.of (own := RX9) (lo := [(0, .ref (ad 40)), (1, .int (nI d)), (2, .int 0)]) (by decide +kernel) rfl rfl (Nat.le_of_ble_eq_true rfl) (fun E C hr => ?_)
  refine G_aload_n C 0 dX9_asksRoot_0 rfl rfl ?_
  refine G_iload_n C 1 dX9_asksRoot_1 rfl rfl ?_
  refine G_callS C (As := [.int (nI d)]) (rest := [.ref (ad 40)]) c_X9_isNumber ca_X9_isNumber km_X9_126 rfl rfl (by decide) (Nat.le_of_ble_eq_true rfl) (by decide) dX9_asksRoot_2 (fun vv1 gg2 qq3 => ?_)
  obtain ⟨rfl, rfl⟩ := qq3
  refine GW.topr (y := 1) (num_d h2 h60) ?_
  refine G_if_eq C 16 dX9_asksRoot_5 (by decide) (fun h => absurd h (by decide)) (fun _ => ?_)
  refine G_iload_n C 2 dX9_asksRoot_8 rfl rfl ?_
  refine G_if_eq C 16 dX9_asksRoot_9 (by decide) (fun _ => ?_) (fun h => absurd h (by decide))
  refine G_iconst C (v := 0) dX9_asksRoot_16 (by decide) ?_
  refine G_callV C (As := [.int 0]) (rest := []) (c_X9_asks0 g40) ca_X9_asks km_X9_161 (by decide) g40 rfl rfl rfl rfl (by decide) (Nat.le_of_ble_eq_true rfl) (by decide) dX9_asksRoot_17 (fun vv4 gg5 qq6 => ?_)
  obtain ⟨rfl, hh7, aa8⟩ := qq6
  have AA9 : Agr [40] G gg5 := aa8.wk (by simp)
  refine G_if_ne C 25 dX9_asksRoot_20 (by decide) (fun h => absurd h (by decide)) (fun _ => ?_)
  refine G_iconst C (v := 0) dX9_asksRoot_23 (by decide) ?_
  exact G_zret C hr rfl dX9_asksRoot_24 ⟨rfl, hh7, AA9⟩

abbrev rm_X9_asksRootQ : Room := ({ frames := 2, cells := 0, slots := 0, locals := 42 } : Room)
set_option maxRecDepth 100000 in
set_option maxHeartbeats 4000000 in
theorem c_X9_asksRootQ {L : GL} {ad : Nat → Nat} {G : Nat → va_E} {d : Nat} {ik kn ln th m q te us sp bg fo le fi re ca : Int32} {fx fy nx ny ux uy px py : Int64}  (g40 : G 40 = .inr (9, [.ref (ad 41), .ref (ad 42), .ref (ad 43), .int ik, .ref (ad 44), .int kn, .ref (ad 45), .int ln, .int th, .int m, .int q, .int te, .long fx, .long fy, .long nx, .long ny, .long ux, .long uy, .int us, .long px, .long py, .ref (ad 46), .ref (ad 47), .int sp, .int bg, .int fo, .int le, .int fi, .int re, .int ca])) (h2 : 2 ≤ d) (h60 : d ≤ 60) (hp0 : pern d = 0) : GM L yX9_asksRoot cX9_asksRoot 3 ((some .boolean)) rm_X9_asksRootQ 50 ad G [.ref (ad 40), .int (nI d), .int 1] (fun vo G' => vo = some (.int 0) ∧ G' 40 = .inr (9, [.ref (ad 41), .ref (ad 42), .ref (ad 43), .int ik, .ref (ad 44), .int kn, .ref (ad 45), .int ln, .int 2, .int m, .int q, .int te, .long fx, .long fy, .long nx, .long ny, .long ux, .long uy, .int us, .long px, .long py, .ref (ad 46), .ref (ad 47), .int sp, .int bg, .int fo, .int le, .int fi, .int re, .int ca]) ∧ Agr [40] G G') := by
  refine GM.of (own := RX9) (lo := [(0, .ref (ad 40)), (1, .int (nI d)), (2, .int 1)]) (by decide +kernel) rfl rfl (Nat.le_of_ble_eq_true rfl) (fun E C hr => ?_)
  refine G_aload_n C 0 dX9_asksRoot_0 rfl rfl ?_
  refine G_iload_n C 1 dX9_asksRoot_1 rfl rfl ?_
  refine G_callS C (As := [.int (nI d)]) (rest := [.ref (ad 40)]) c_X9_isNumber ca_X9_isNumber km_X9_126 rfl rfl (by decide) (Nat.le_of_ble_eq_true rfl) (by decide) dX9_asksRoot_2 (fun vv1 gg2 qq3 => ?_)
  obtain ⟨rfl, rfl⟩ := qq3
  refine GW.topr (y := 1) (num_d h2 h60) ?_
  refine G_if_eq C 16 dX9_asksRoot_5 (by decide) (fun h => absurd h (by decide)) (fun _ => ?_)
  refine G_iload_n C 2 dX9_asksRoot_8 rfl rfl ?_
  refine G_if_eq C 16 dX9_asksRoot_9 (by decide) (fun h => absurd h (by decide)) (fun _ => ?_)
  refine G_iconst C (v := 1) dX9_asksRoot_12 (by decide) ?_
  refine G_goto C 17 dX9_asksRoot_13 (by decide) ?_
  refine G_callV C (As := [.int 1]) (rest := []) (c_X9_asks1 g40) ca_X9_asks km_X9_161 (by decide) g40 rfl rfl rfl rfl (by decide) (Nat.le_of_ble_eq_true rfl) (by decide) dX9_asksRoot_17 (fun vv4 gg5 qq6 => ?_)
  obtain ⟨rfl, hh7, aa8⟩ := qq6
  have AA9 : Agr [40] G gg5 := aa8.wk (by simp)
  refine G_if_ne C 25 dX9_asksRoot_20 (by decide) (fun _ => ?_) (fun h => absurd h (by decide))
  refine G_aload_n C 0 dX9_asksRoot_25 rfl rfl ?_
  refine G_iload_n C 1 dX9_asksRoot_26 rfl rfl ?_
  refine G_callS C (As := [.int (nI d)]) (rest := [.ref (ad 40)]) (c_X9_isSquare h2 h60) ca_X9_isSquare km_X9_119 rfl rfl (by decide) (Nat.le_of_ble_eq_true rfl) (by decide) dX9_asksRoot_27 (fun vv10 gg11 qq12 => ?_)
  obtain ⟨rfl, rfl⟩ := qq12
  refine GW.topr (y := 1) (if_pos hp0) ?_
  refine G_if_eq C 37 dX9_asksRoot_30 (by decide) (fun h => absurd h (by decide)) (fun _ => ?_)
  refine G_iconst C (v := 2) dX9_asksRoot_33 (by decide) ?_
  refine G_goto C 38 dX9_asksRoot_34 (by decide) ?_
  refine G_putp C 40 (by decide) hh7 rfl inA9 tyX9_ok nmX9 8 (by decide) rfl kf_X9_32 rfl rfl rfl (fs' := [.ref (ad 41), .ref (ad 42), .ref (ad 43), .int ik, .ref (ad 44), .int kn, .ref (ad 45), .int ln, .int 2, .int m, .int q, .int te, .long fx, .long fy, .long nx, .long ny, .long ux, .long uy, .int us, .long px, .long py, .ref (ad 46), .ref (ad 47), .int sp, .int bg, .int fo, .int le, .int fi, .int re, .int ca]) (Nat.le_of_ble_eq_true rfl) rfl dX9_asksRoot_38 (fun gg13 hh14 aa15 => ?_)
  have AA16 : Agr [40] G gg13 := AA9.tr aa15 (by simp) (by simp)
  refine G_aload_n C 0 dX9_asksRoot_41 rfl rfl ?_
  refine G_get C 40 (by decide) hh14 rfl inA9 8 (by decide) rfl kf_X9_32 rfl dX9_asksRoot_42 ?_
  refine G_if_ne C 52 dX9_asksRoot_45 (by decide) (fun _ => ?_) (fun h => absurd h (by decide))
  refine G_iconst C (v := 0) dX9_asksRoot_52 (by decide) ?_
  exact G_zret C hr rfl dX9_asksRoot_53 ⟨rfl, hh14, AA16⟩

abbrev rm_X9_asksRootR : Room := ({ frames := 2, cells := 0, slots := 0, locals := 42 } : Room)
set_option maxRecDepth 100000 in
set_option maxHeartbeats 4000000 in
theorem c_X9_asksRootR {L : GL} {ad : Nat → Nat} {G : Nat → va_E} {d : Nat} {ik kn ln th m q te us sp bg fo le fi re ca : Int32} {fx fy nx ny ux uy px py : Int64}  (g40 : G 40 = .inr (9, [.ref (ad 41), .ref (ad 42), .ref (ad 43), .int ik, .ref (ad 44), .int kn, .ref (ad 45), .int ln, .int th, .int m, .int q, .int te, .long fx, .long fy, .long nx, .long ny, .long ux, .long uy, .int us, .long px, .long py, .ref (ad 46), .ref (ad 47), .int sp, .int bg, .int fo, .int le, .int fi, .int re, .int ca])) (h2 : 2 ≤ d) (h60 : d ≤ 60) (hp : pern d ≠ 0) : GM L yX9_asksRoot cX9_asksRoot 3 ((some .boolean)) rm_X9_asksRootR 50 ad G [.ref (ad 40), .int (nI d), .int 1] (fun vo G' => vo = some (.int 1) ∧ G' 40 = .inr (9, [.ref (ad 41), .ref (ad 42), .ref (ad 43), .int ik, .ref (ad 44), .int kn, .ref (ad 45), .int ln, .int 0, .int m, .int q, .int te, .long fx, .long fy, .long nx, .long ny, .long ux, .long uy, .int us, .long px, .long py, .ref (ad 46), .ref (ad 47), .int sp, .int bg, .int fo, .int le, .int fi, .int re, .int ca]) ∧ Agr [40] G G') := by
  refine GM.of (own := RX9) (lo := [(0, .ref (ad 40)), (1, .int (nI d)), (2, .int 1)]) (by decide +kernel) rfl rfl (Nat.le_of_ble_eq_true rfl) (fun E C hr => ?_)
  refine G_aload_n C 0 dX9_asksRoot_0 rfl rfl ?_
  refine G_iload_n C 1 dX9_asksRoot_1 rfl rfl ?_
  refine G_callS C (As := [.int (nI d)]) (rest := [.ref (ad 40)]) c_X9_isNumber ca_X9_isNumber km_X9_126 rfl rfl (by decide) (Nat.le_of_ble_eq_true rfl) (by decide) dX9_asksRoot_2 (fun vv1 gg2 qq3 => ?_)
  obtain ⟨rfl, rfl⟩ := qq3
  refine GW.topr (y := 1) (num_d h2 h60) ?_
  refine G_if_eq C 16 dX9_asksRoot_5 (by decide) (fun h => absurd h (by decide)) (fun _ => ?_)
  refine G_iload_n C 2 dX9_asksRoot_8 rfl rfl ?_
  refine G_if_eq C 16 dX9_asksRoot_9 (by decide) (fun h => absurd h (by decide)) (fun _ => ?_)
  refine G_iconst C (v := 1) dX9_asksRoot_12 (by decide) ?_
  refine G_goto C 17 dX9_asksRoot_13 (by decide) ?_
  refine G_callV C (As := [.int 1]) (rest := []) (c_X9_asks1 g40) ca_X9_asks km_X9_161 (by decide) g40 rfl rfl rfl rfl (by decide) (Nat.le_of_ble_eq_true rfl) (by decide) dX9_asksRoot_17 (fun vv4 gg5 qq6 => ?_)
  obtain ⟨rfl, hh7, aa8⟩ := qq6
  have AA9 : Agr [40] G gg5 := aa8.wk (by simp)
  refine G_if_ne C 25 dX9_asksRoot_20 (by decide) (fun _ => ?_) (fun h => absurd h (by decide))
  refine G_aload_n C 0 dX9_asksRoot_25 rfl rfl ?_
  refine G_iload_n C 1 dX9_asksRoot_26 rfl rfl ?_
  refine G_callS C (As := [.int (nI d)]) (rest := [.ref (ad 40)]) (c_X9_isSquare h2 h60) ca_X9_isSquare km_X9_119 rfl rfl (by decide) (Nat.le_of_ble_eq_true rfl) (by decide) dX9_asksRoot_27 (fun vv10 gg11 qq12 => ?_)
  obtain ⟨rfl, rfl⟩ := qq12
  refine GW.topr (y := 0) (if_neg hp) ?_
  refine G_if_eq C 37 dX9_asksRoot_30 (by decide) (fun _ => ?_) (fun h => absurd h (by decide))
  refine G_iconst C (v := 0) dX9_asksRoot_37 (by decide) ?_
  refine G_putp C 40 (by decide) hh7 rfl inA9 tyX9_ok nmX9 8 (by decide) rfl kf_X9_32 rfl rfl rfl (fs' := [.ref (ad 41), .ref (ad 42), .ref (ad 43), .int ik, .ref (ad 44), .int kn, .ref (ad 45), .int ln, .int 0, .int m, .int q, .int te, .long fx, .long fy, .long nx, .long ny, .long ux, .long uy, .int us, .long px, .long py, .ref (ad 46), .ref (ad 47), .int sp, .int bg, .int fo, .int le, .int fi, .int re, .int ca]) (Nat.le_of_ble_eq_true rfl) rfl dX9_asksRoot_38 (fun gg13 hh14 aa15 => ?_)
  have AA16 : Agr [40] G gg13 := AA9.tr aa15 (by simp) (by simp)
  refine G_aload_n C 0 dX9_asksRoot_41 rfl rfl ?_
  refine G_get C 40 (by decide) hh14 rfl inA9 8 (by decide) rfl kf_X9_32 rfl dX9_asksRoot_42 ?_
  refine G_if_ne C 52 dX9_asksRoot_45 (by decide) (fun h => absurd h (by decide)) (fun _ => ?_)
  refine G_iconst C (v := 1) dX9_asksRoot_48 (by decide) ?_
  refine G_goto C 53 dX9_asksRoot_49 (by decide) ?_
  exact G_zret C hr rfl dX9_asksRoot_53 ⟨rfl, hh14, AA16⟩

abbrev rm_X9_periodOfA : Room := ({ frames := 3, cells := 0, slots := 0, locals := 64 } : Room)
set_option maxRecDepth 100000 in
set_option maxHeartbeats 4000000 in
theorem c_X9_periodOfA {L : GL} {ad : Nat → Nat} {G : Nat → va_E} {n : Int32} {ik kn ln th m q te us sp bg fo le fi re ca : Int32} {fx fy nx ny ux uy px py : Int64}  (g40 : G 40 = .inr (9, [.ref (ad 41), .ref (ad 42), .ref (ad 43), .int ik, .ref (ad 44), .int kn, .ref (ad 45), .int ln, .int th, .int m, .int q, .int te, .long fx, .long fy, .long nx, .long ny, .long ux, .long uy, .int us, .long px, .long py, .ref (ad 46), .ref (ad 47), .int sp, .int bg, .int fo, .int le, .int fi, .int re, .int ca])) (hn0 : numF n = 0) : GM L yX9_periodOf cX9_periodOf 2 ((some .int)) rm_X9_periodOfA 50 ad G [.ref (ad 40), .int n] (fun vo G' => vo = some (.int 0) ∧ G' 40 = .inr (9, [.ref (ad 41), .ref (ad 42), .ref (ad 43), .int ik, .ref (ad 44), .int kn, .ref (ad 45), .int ln, .int 1, .int m, .int q, .int te, .long fx, .long fy, .long nx, .long ny, .long ux, .long uy, .int us, .long px, .long py, .ref (ad 46), .ref (ad 47), .int sp, .int bg, .int fo, .int le, .int fi, .int re, .int ca]) ∧ Agr [40] G G') := by
  refine GM.of (own := RX9) (lo := [(0, .ref (ad 40)), (1, .int n)]) (by decide +kernel) rfl rfl (Nat.le_of_ble_eq_true rfl) (fun E C hr => ?_)
  refine G_aload_n C 0 dX9_periodOf_0 rfl rfl ?_
  refine G_iload_n C 1 dX9_periodOf_1 rfl rfl ?_
  refine G_iconst C (v := 1) dX9_periodOf_2 (by decide) ?_
  refine G_callV C (As := [.int n, .int 1]) (rest := []) (c_X9_asksRootA g40 hn0) ca_X9_asksRoot km_X9_165 (by decide) g40 rfl rfl rfl rfl (by decide) (Nat.le_of_ble_eq_true rfl) (by decide) dX9_periodOf_3 (fun vv1 gg2 qq3 => ?_)
  obtain ⟨rfl, hh4, aa5⟩ := qq3
  have AA6 : Agr [40] G gg2 := aa5.wk (by simp)
  refine G_if_eq C 17 dX9_periodOf_6 (by decide) (fun _ => ?_) (fun h => absurd h (by decide))
  refine G_iconst C (v := 0) dX9_periodOf_17 (by decide) ?_
  exact G_zret C hr rfl dX9_periodOf_18 ⟨rfl, hh4, AA6⟩

abbrev rm_X9_periodOfQ : Room := ({ frames := 3, cells := 0, slots := 0, locals := 64 } : Room)
set_option maxRecDepth 100000 in
set_option maxHeartbeats 4000000 in
theorem c_X9_periodOfQ {L : GL} {ad : Nat → Nat} {G : Nat → va_E} {d : Nat} {ik kn ln th m q te us sp bg fo le fi re ca : Int32} {fx fy nx ny ux uy px py : Int64}  (g40 : G 40 = .inr (9, [.ref (ad 41), .ref (ad 42), .ref (ad 43), .int ik, .ref (ad 44), .int kn, .ref (ad 45), .int ln, .int th, .int m, .int q, .int te, .long fx, .long fy, .long nx, .long ny, .long ux, .long uy, .int us, .long px, .long py, .ref (ad 46), .ref (ad 47), .int sp, .int bg, .int fo, .int le, .int fi, .int re, .int ca])) (h2 : 2 ≤ d) (h60 : d ≤ 60) (hp0 : pern d = 0) : GM L yX9_periodOf cX9_periodOf 2 ((some .int)) rm_X9_periodOfQ 50 ad G [.ref (ad 40), .int (nI d)] (fun vo G' => vo = some (.int 0) ∧ G' 40 = .inr (9, [.ref (ad 41), .ref (ad 42), .ref (ad 43), .int ik, .ref (ad 44), .int kn, .ref (ad 45), .int ln, .int 2, .int m, .int q, .int te, .long fx, .long fy, .long nx, .long ny, .long ux, .long uy, .int us, .long px, .long py, .ref (ad 46), .ref (ad 47), .int sp, .int bg, .int fo, .int le, .int fi, .int re, .int ca]) ∧ Agr [40] G G') := by
  refine GM.of (own := RX9) (lo := [(0, .ref (ad 40)), (1, .int (nI d))]) (by decide +kernel) rfl rfl (Nat.le_of_ble_eq_true rfl) (fun E C hr => ?_)
  refine G_aload_n C 0 dX9_periodOf_0 rfl rfl ?_
  refine G_iload_n C 1 dX9_periodOf_1 rfl rfl ?_
  refine G_iconst C (v := 1) dX9_periodOf_2 (by decide) ?_
  refine G_callV C (As := [.int (nI d), .int 1]) (rest := []) (c_X9_asksRootQ g40 h2 h60 hp0) ca_X9_asksRoot km_X9_165 (by decide) g40 rfl rfl rfl rfl (by decide) (Nat.le_of_ble_eq_true rfl) (by decide) dX9_periodOf_3 (fun vv1 gg2 qq3 => ?_)
  obtain ⟨rfl, hh4, aa5⟩ := qq3
  have AA6 : Agr [40] G gg2 := aa5.wk (by simp)
  refine G_if_eq C 17 dX9_periodOf_6 (by decide) (fun _ => ?_) (fun h => absurd h (by decide))
  refine G_iconst C (v := 0) dX9_periodOf_17 (by decide) ?_
  exact G_zret C hr rfl dX9_periodOf_18 ⟨rfl, hh4, AA6⟩

abbrev rm_X9_periodOfR : Room := ({ frames := 3, cells := 0, slots := 0, locals := 64 } : Room)
set_option maxRecDepth 100000 in
set_option maxHeartbeats 4000000 in
theorem c_X9_periodOfR {L : GL} {ad : Nat → Nat} {G : Nat → va_E} {d : Nat} {ik kn ln th m q te us sp bg fo le fi re ca : Int32} {fx fy nx ny ux uy px py : Int64}  (g40 : G 40 = .inr (9, [.ref (ad 41), .ref (ad 42), .ref (ad 43), .int ik, .ref (ad 44), .int kn, .ref (ad 45), .int ln, .int th, .int m, .int q, .int te, .long fx, .long fy, .long nx, .long ny, .long ux, .long uy, .int us, .long px, .long py, .ref (ad 46), .ref (ad 47), .int sp, .int bg, .int fo, .int le, .int fi, .int re, .int ca])) (h2 : 2 ≤ d) (h60 : d ≤ 60) (hp : pern d ≠ 0) : GM L yX9_periodOf cX9_periodOf 2 ((some .int)) rm_X9_periodOfR 50 ad G [.ref (ad 40), .int (nI d)] (fun vo G' => ∃ (j1 : Int32) (j2 : Int32) (j3 : Int32) (j4 : Int64) (j5 : Int64) (j6 : Int64) (j7 : Int64) (u1 : Int64) (u2 : Int64) (u3 : Int32) (p1 : Int64) (p2 : Int64), vo = some (.int (nI (pern d))) ∧ G' 40 = .inr (9, [.ref (ad 41), .ref (ad 42), .ref (ad 43), .int ik, .ref (ad 44), .int kn, .ref (ad 45), .int ln, .int 0, .int j1, .int j2, .int j3, .long j4, .long j5, .long j6, .long j7, .long u1, .long u2, .int u3, .long p1, .long p2, .ref (ad 46), .ref (ad 47), .int sp, .int bg, .int fo, .int le, .int fi, .int re, .int ca]) ∧ Agr [40] G G') := by
  refine GM.of (own := RX9) (lo := [(0, .ref (ad 40)), (1, .int (nI d))]) (by decide +kernel) rfl rfl (Nat.le_of_ble_eq_true rfl) (fun E C hr => ?_)
  refine G_aload_n C 0 dX9_periodOf_0 rfl rfl ?_
  refine G_iload_n C 1 dX9_periodOf_1 rfl rfl ?_
  refine G_iconst C (v := 1) dX9_periodOf_2 (by decide) ?_
  refine G_callV C (As := [.int (nI d), .int 1]) (rest := []) (c_X9_asksRootR g40 h2 h60 hp) ca_X9_asksRoot km_X9_165 (by decide) g40 rfl rfl rfl rfl (by decide) (Nat.le_of_ble_eq_true rfl) (by decide) dX9_periodOf_3 (fun vv1 gg2 qq3 => ?_)
  obtain ⟨rfl, hh4, aa5⟩ := qq3
  have AA6 : Agr [40] G gg2 := aa5.wk (by simp)
  refine G_if_eq C 17 dX9_periodOf_6 (by decide) (fun h => absurd h (by decide)) (fun _ => ?_)
  refine G_aload_n C 0 dX9_periodOf_9 rfl rfl ?_
  refine G_iload_n C 1 dX9_periodOf_10 rfl rfl ?_
  refine G_callV C (As := [.int (nI d)]) (rest := []) (c_X9_period hh4 h2 h60 hp) ca_X9_period km_X9_92 (by decide) hh4 rfl rfl rfl rfl (by decide) (Nat.le_of_ble_eq_true rfl) (by decide) dX9_periodOf_11 (fun vv7 gg8 qq9 => ?_)
  obtain ⟨j_10, j_11, j_12, j_13, j_14, rfl, hh15, aa16⟩ := qq9
  have AA17 : Agr [40] G gg8 := AA6.tr aa16 (by simp) (by simp)
  refine G_goto C 18 dX9_periodOf_14 (by decide) ?_
  exact G_zret C hr rfl dX9_periodOf_18 ⟨_, _, _, _, _, _, _, _, _, _, _, _, rfl, hh15, AA17⟩

abbrev rm_X9_unitXA : Room := ({ frames := 3, cells := 0, slots := 0, locals := 64 } : Room)
set_option maxRecDepth 100000 in
set_option maxHeartbeats 4000000 in
theorem c_X9_unitXA {L : GL} {ad : Nat → Nat} {G : Nat → va_E} {n : Int32} {ik kn ln th m q te us sp bg fo le fi re ca : Int32} {fx fy nx ny ux uy px py : Int64}  (g40 : G 40 = .inr (9, [.ref (ad 41), .ref (ad 42), .ref (ad 43), .int ik, .ref (ad 44), .int kn, .ref (ad 45), .int ln, .int th, .int m, .int q, .int te, .long fx, .long fy, .long nx, .long ny, .long ux, .long uy, .int us, .long px, .long py, .ref (ad 46), .ref (ad 47), .int sp, .int bg, .int fo, .int le, .int fi, .int re, .int ca])) (hn0 : numF n = 0) : GM L yX9_unitX cX9_unitX 2 ((some .int)) rm_X9_unitXA 50 ad G [.ref (ad 40), .int n] (fun vo G' => vo = some (.int 0) ∧ G' 40 = .inr (9, [.ref (ad 41), .ref (ad 42), .ref (ad 43), .int ik, .ref (ad 44), .int kn, .ref (ad 45), .int ln, .int 1, .int m, .int q, .int te, .long fx, .long fy, .long nx, .long ny, .long ux, .long uy, .int us, .long px, .long py, .ref (ad 46), .ref (ad 47), .int sp, .int bg, .int fo, .int le, .int fi, .int re, .int ca]) ∧ Agr [40] G G') := by
  refine GM.of (own := RX9) (lo := [(0, .ref (ad 40)), (1, .int n)]) (by decide +kernel) rfl rfl (Nat.le_of_ble_eq_true rfl) (fun E C hr => ?_)
  refine G_aload_n C 0 dX9_unitX_0 rfl rfl ?_
  refine G_iload_n C 1 dX9_unitX_1 rfl rfl ?_
  refine G_iconst C (v := 1) dX9_unitX_2 (by decide) ?_
  refine G_callV C (As := [.int n, .int 1]) (rest := []) (c_X9_asksRootA g40 hn0) ca_X9_asksRoot km_X9_165 (by decide) g40 rfl rfl rfl rfl (by decide) (Nat.le_of_ble_eq_true rfl) (by decide) dX9_unitX_3 (fun vv1 gg2 qq3 => ?_)
  obtain ⟨rfl, hh4, aa5⟩ := qq3
  have AA6 : Agr [40] G gg2 := aa5.wk (by simp)
  refine G_if_ne C 11 dX9_unitX_6 (by decide) (fun h => absurd h (by decide)) (fun _ => ?_)
  refine G_iconst C (v := 0) dX9_unitX_9 (by decide) ?_
  exact G_zret C hr rfl dX9_unitX_10 ⟨rfl, hh4, AA6⟩

abbrev rm_X9_unitXQ : Room := ({ frames := 3, cells := 0, slots := 0, locals := 64 } : Room)
set_option maxRecDepth 100000 in
set_option maxHeartbeats 4000000 in
theorem c_X9_unitXQ {L : GL} {ad : Nat → Nat} {G : Nat → va_E} {d : Nat} {ik kn ln th m q te us sp bg fo le fi re ca : Int32} {fx fy nx ny ux uy px py : Int64}  (g40 : G 40 = .inr (9, [.ref (ad 41), .ref (ad 42), .ref (ad 43), .int ik, .ref (ad 44), .int kn, .ref (ad 45), .int ln, .int th, .int m, .int q, .int te, .long fx, .long fy, .long nx, .long ny, .long ux, .long uy, .int us, .long px, .long py, .ref (ad 46), .ref (ad 47), .int sp, .int bg, .int fo, .int le, .int fi, .int re, .int ca])) (h2 : 2 ≤ d) (h60 : d ≤ 60) (hp0 : pern d = 0) : GM L yX9_unitX cX9_unitX 2 ((some .int)) rm_X9_unitXQ 50 ad G [.ref (ad 40), .int (nI d)] (fun vo G' => vo = some (.int 0) ∧ G' 40 = .inr (9, [.ref (ad 41), .ref (ad 42), .ref (ad 43), .int ik, .ref (ad 44), .int kn, .ref (ad 45), .int ln, .int 2, .int m, .int q, .int te, .long fx, .long fy, .long nx, .long ny, .long ux, .long uy, .int us, .long px, .long py, .ref (ad 46), .ref (ad 47), .int sp, .int bg, .int fo, .int le, .int fi, .int re, .int ca]) ∧ Agr [40] G G') := by
  refine GM.of (own := RX9) (lo := [(0, .ref (ad 40)), (1, .int (nI d))]) (by decide +kernel) rfl rfl (Nat.le_of_ble_eq_true rfl) (fun E C hr => ?_)
  refine G_aload_n C 0 dX9_unitX_0 rfl rfl ?_
  refine G_iload_n C 1 dX9_unitX_1 rfl rfl ?_
  refine G_iconst C (v := 1) dX9_unitX_2 (by decide) ?_
  refine G_callV C (As := [.int (nI d), .int 1]) (rest := []) (c_X9_asksRootQ g40 h2 h60 hp0) ca_X9_asksRoot km_X9_165 (by decide) g40 rfl rfl rfl rfl (by decide) (Nat.le_of_ble_eq_true rfl) (by decide) dX9_unitX_3 (fun vv1 gg2 qq3 => ?_)
  obtain ⟨rfl, hh4, aa5⟩ := qq3
  have AA6 : Agr [40] G gg2 := aa5.wk (by simp)
  refine G_if_ne C 11 dX9_unitX_6 (by decide) (fun h => absurd h (by decide)) (fun _ => ?_)
  refine G_iconst C (v := 0) dX9_unitX_9 (by decide) ?_
  exact G_zret C hr rfl dX9_unitX_10 ⟨rfl, hh4, AA6⟩

abbrev rm_X9_unitXR : Room := ({ frames := 4, cells := 0, slots := 0, locals := 85 } : Room)
set_option maxRecDepth 100000 in
set_option maxHeartbeats 4000000 in
theorem c_X9_unitXR {L : GL} {ad : Nat → Nat} {G : Nat → va_E} {d : Nat} {ik kn ln th m q te us sp bg fo le fi re ca : Int32} {fx fy nx ny ux uy px py : Int64}  (g40 : G 40 = .inr (9, [.ref (ad 41), .ref (ad 42), .ref (ad 43), .int ik, .ref (ad 44), .int kn, .ref (ad 45), .int ln, .int th, .int m, .int q, .int te, .long fx, .long fy, .long nx, .long ny, .long ux, .long uy, .int us, .long px, .long py, .ref (ad 46), .ref (ad 47), .int sp, .int bg, .int fo, .int le, .int fi, .int re, .int ca])) (h2 : 2 ≤ d) (h60 : d ≤ 60) (hp : pern d ≠ 0) : GM L yX9_unitX cX9_unitX 2 ((some .int)) rm_X9_unitXR 50 ad G [.ref (ad 40), .int (nI d)] (fun vo G' => ∃ (j1 : Int32) (j2 : Int32) (j3 : Int32) (j4 : Int64) (j5 : Int64) (j6 : Int64) (j7 : Int64) (u1 : Int64) (u2 : Int64) (u3 : Int32) (p1 : Int64) (p2 : Int64), vo = some (.int (tUx d)) ∧ G' 40 = .inr (9, [.ref (ad 41), .ref (ad 42), .ref (ad 43), .int ik, .ref (ad 44), .int kn, .ref (ad 45), .int ln, .int 0, .int j1, .int j2, .int j3, .long j4, .long j5, .long j6, .long j7, .long u1, .long u2, .int u3, .long p1, .long p2, .ref (ad 46), .ref (ad 47), .int sp, .int bg, .int fo, .int le, .int fi, .int re, .int ca]) ∧ Agr [40] G G') := by
  refine GM.of (own := RX9) (lo := [(0, .ref (ad 40)), (1, .int (nI d))]) (by decide +kernel) rfl rfl (Nat.le_of_ble_eq_true rfl) (fun E C hr => ?_)
  refine G_aload_n C 0 dX9_unitX_0 rfl rfl ?_
  refine G_iload_n C 1 dX9_unitX_1 rfl rfl ?_
  refine G_iconst C (v := 1) dX9_unitX_2 (by decide) ?_
  refine G_callV C (As := [.int (nI d), .int 1]) (rest := []) (c_X9_asksRootR g40 h2 h60 hp) ca_X9_asksRoot km_X9_165 (by decide) g40 rfl rfl rfl rfl (by decide) (Nat.le_of_ble_eq_true rfl) (by decide) dX9_unitX_3 (fun vv1 gg2 qq3 => ?_)
  obtain ⟨rfl, hh4, aa5⟩ := qq3
  have AA6 : Agr [40] G gg2 := aa5.wk (by simp)
  refine G_if_ne C 11 dX9_unitX_6 (by decide) (fun _ => ?_) (fun h => absurd h (by decide))
  refine G_aload_n C 0 dX9_unitX_11 rfl rfl ?_
  refine G_iload_n C 1 dX9_unitX_12 rfl rfl ?_
  refine G_callV C (As := [.int (nI d)]) (rest := []) (c_X9_beginsPowers hh4 h2 h60 hp) ca_X9_beginsPowers km_X9_112 (by decide) hh4 rfl rfl rfl rfl (by decide) (Nat.le_of_ble_eq_true rfl) (by decide) dX9_unitX_13 (fun vv7 gg8 qq9 => ?_)
  obtain ⟨j_10, j_11, j_12, j_13, j_14, j_15, j_16, rfl, hh17, aa18⟩ := qq9
  have AA19 : Agr [40] G gg8 := AA6.tr aa18 (by simp) (by simp)
  refine G_aload_n C 0 dX9_unitX_16 rfl rfl ?_
  refine G_get C 40 (by decide) hh17 rfl inA9 16 (by decide) rfl kf_X9_98 rfl dX9_unitX_17 ?_
  refine G_l2i C dX9_unitX_20 rfl ?_
  exact G_zret C hr rfl dX9_unitX_21 ⟨_, _, _, _, _, _, _, _, _, _, _, _, (by rw [(u32_ok d (by omega)).1]), hh17, AA19⟩

abbrev rm_X9_unitYA : Room := ({ frames := 3, cells := 0, slots := 0, locals := 64 } : Room)
set_option maxRecDepth 100000 in
set_option maxHeartbeats 4000000 in
theorem c_X9_unitYA {L : GL} {ad : Nat → Nat} {G : Nat → va_E} {n : Int32} {ik kn ln th m q te us sp bg fo le fi re ca : Int32} {fx fy nx ny ux uy px py : Int64}  (g40 : G 40 = .inr (9, [.ref (ad 41), .ref (ad 42), .ref (ad 43), .int ik, .ref (ad 44), .int kn, .ref (ad 45), .int ln, .int th, .int m, .int q, .int te, .long fx, .long fy, .long nx, .long ny, .long ux, .long uy, .int us, .long px, .long py, .ref (ad 46), .ref (ad 47), .int sp, .int bg, .int fo, .int le, .int fi, .int re, .int ca])) (hn0 : numF n = 0) : GM L yX9_unitY cX9_unitY 2 ((some .int)) rm_X9_unitYA 50 ad G [.ref (ad 40), .int n] (fun vo G' => vo = some (.int 0) ∧ G' 40 = .inr (9, [.ref (ad 41), .ref (ad 42), .ref (ad 43), .int ik, .ref (ad 44), .int kn, .ref (ad 45), .int ln, .int 1, .int m, .int q, .int te, .long fx, .long fy, .long nx, .long ny, .long ux, .long uy, .int us, .long px, .long py, .ref (ad 46), .ref (ad 47), .int sp, .int bg, .int fo, .int le, .int fi, .int re, .int ca]) ∧ Agr [40] G G') := by
  refine GM.of (own := RX9) (lo := [(0, .ref (ad 40)), (1, .int n)]) (by decide +kernel) rfl rfl (Nat.le_of_ble_eq_true rfl) (fun E C hr => ?_)
  refine G_aload_n C 0 dX9_unitY_0 rfl rfl ?_
  refine G_iload_n C 1 dX9_unitY_1 rfl rfl ?_
  refine G_iconst C (v := 1) dX9_unitY_2 (by decide) ?_
  refine G_callV C (As := [.int n, .int 1]) (rest := []) (c_X9_asksRootA g40 hn0) ca_X9_asksRoot km_X9_165 (by decide) g40 rfl rfl rfl rfl (by decide) (Nat.le_of_ble_eq_true rfl) (by decide) dX9_unitY_3 (fun vv1 gg2 qq3 => ?_)
  obtain ⟨rfl, hh4, aa5⟩ := qq3
  have AA6 : Agr [40] G gg2 := aa5.wk (by simp)
  refine G_if_ne C 11 dX9_unitY_6 (by decide) (fun h => absurd h (by decide)) (fun _ => ?_)
  refine G_iconst C (v := 0) dX9_unitY_9 (by decide) ?_
  exact G_zret C hr rfl dX9_unitY_10 ⟨rfl, hh4, AA6⟩

abbrev rm_X9_unitYQ : Room := ({ frames := 3, cells := 0, slots := 0, locals := 64 } : Room)
set_option maxRecDepth 100000 in
set_option maxHeartbeats 4000000 in
theorem c_X9_unitYQ {L : GL} {ad : Nat → Nat} {G : Nat → va_E} {d : Nat} {ik kn ln th m q te us sp bg fo le fi re ca : Int32} {fx fy nx ny ux uy px py : Int64}  (g40 : G 40 = .inr (9, [.ref (ad 41), .ref (ad 42), .ref (ad 43), .int ik, .ref (ad 44), .int kn, .ref (ad 45), .int ln, .int th, .int m, .int q, .int te, .long fx, .long fy, .long nx, .long ny, .long ux, .long uy, .int us, .long px, .long py, .ref (ad 46), .ref (ad 47), .int sp, .int bg, .int fo, .int le, .int fi, .int re, .int ca])) (h2 : 2 ≤ d) (h60 : d ≤ 60) (hp0 : pern d = 0) : GM L yX9_unitY cX9_unitY 2 ((some .int)) rm_X9_unitYQ 50 ad G [.ref (ad 40), .int (nI d)] (fun vo G' => vo = some (.int 0) ∧ G' 40 = .inr (9, [.ref (ad 41), .ref (ad 42), .ref (ad 43), .int ik, .ref (ad 44), .int kn, .ref (ad 45), .int ln, .int 2, .int m, .int q, .int te, .long fx, .long fy, .long nx, .long ny, .long ux, .long uy, .int us, .long px, .long py, .ref (ad 46), .ref (ad 47), .int sp, .int bg, .int fo, .int le, .int fi, .int re, .int ca]) ∧ Agr [40] G G') := by
  refine GM.of (own := RX9) (lo := [(0, .ref (ad 40)), (1, .int (nI d))]) (by decide +kernel) rfl rfl (Nat.le_of_ble_eq_true rfl) (fun E C hr => ?_)
  refine G_aload_n C 0 dX9_unitY_0 rfl rfl ?_
  refine G_iload_n C 1 dX9_unitY_1 rfl rfl ?_
  refine G_iconst C (v := 1) dX9_unitY_2 (by decide) ?_
  refine G_callV C (As := [.int (nI d), .int 1]) (rest := []) (c_X9_asksRootQ g40 h2 h60 hp0) ca_X9_asksRoot km_X9_165 (by decide) g40 rfl rfl rfl rfl (by decide) (Nat.le_of_ble_eq_true rfl) (by decide) dX9_unitY_3 (fun vv1 gg2 qq3 => ?_)
  obtain ⟨rfl, hh4, aa5⟩ := qq3
  have AA6 : Agr [40] G gg2 := aa5.wk (by simp)
  refine G_if_ne C 11 dX9_unitY_6 (by decide) (fun h => absurd h (by decide)) (fun _ => ?_)
  refine G_iconst C (v := 0) dX9_unitY_9 (by decide) ?_
  exact G_zret C hr rfl dX9_unitY_10 ⟨rfl, hh4, AA6⟩

abbrev rm_X9_unitYR : Room := ({ frames := 4, cells := 0, slots := 0, locals := 85 } : Room)
set_option maxRecDepth 100000 in
set_option maxHeartbeats 4000000 in
theorem c_X9_unitYR {L : GL} {ad : Nat → Nat} {G : Nat → va_E} {d : Nat} {ik kn ln th m q te us sp bg fo le fi re ca : Int32} {fx fy nx ny ux uy px py : Int64}  (g40 : G 40 = .inr (9, [.ref (ad 41), .ref (ad 42), .ref (ad 43), .int ik, .ref (ad 44), .int kn, .ref (ad 45), .int ln, .int th, .int m, .int q, .int te, .long fx, .long fy, .long nx, .long ny, .long ux, .long uy, .int us, .long px, .long py, .ref (ad 46), .ref (ad 47), .int sp, .int bg, .int fo, .int le, .int fi, .int re, .int ca])) (h2 : 2 ≤ d) (h60 : d ≤ 60) (hp : pern d ≠ 0) : GM L yX9_unitY cX9_unitY 2 ((some .int)) rm_X9_unitYR 50 ad G [.ref (ad 40), .int (nI d)] (fun vo G' => ∃ (j1 : Int32) (j2 : Int32) (j3 : Int32) (j4 : Int64) (j5 : Int64) (j6 : Int64) (j7 : Int64) (u1 : Int64) (u2 : Int64) (u3 : Int32) (p1 : Int64) (p2 : Int64), vo = some (.int (tUy d)) ∧ G' 40 = .inr (9, [.ref (ad 41), .ref (ad 42), .ref (ad 43), .int ik, .ref (ad 44), .int kn, .ref (ad 45), .int ln, .int 0, .int j1, .int j2, .int j3, .long j4, .long j5, .long j6, .long j7, .long u1, .long u2, .int u3, .long p1, .long p2, .ref (ad 46), .ref (ad 47), .int sp, .int bg, .int fo, .int le, .int fi, .int re, .int ca]) ∧ Agr [40] G G') := by
  refine GM.of (own := RX9) (lo := [(0, .ref (ad 40)), (1, .int (nI d))]) (by decide +kernel) rfl rfl (Nat.le_of_ble_eq_true rfl) (fun E C hr => ?_)
  refine G_aload_n C 0 dX9_unitY_0 rfl rfl ?_
  refine G_iload_n C 1 dX9_unitY_1 rfl rfl ?_
  refine G_iconst C (v := 1) dX9_unitY_2 (by decide) ?_
  refine G_callV C (As := [.int (nI d), .int 1]) (rest := []) (c_X9_asksRootR g40 h2 h60 hp) ca_X9_asksRoot km_X9_165 (by decide) g40 rfl rfl rfl rfl (by decide) (Nat.le_of_ble_eq_true rfl) (by decide) dX9_unitY_3 (fun vv1 gg2 qq3 => ?_)
  obtain ⟨rfl, hh4, aa5⟩ := qq3
  have AA6 : Agr [40] G gg2 := aa5.wk (by simp)
  refine G_if_ne C 11 dX9_unitY_6 (by decide) (fun _ => ?_) (fun h => absurd h (by decide))
  refine G_aload_n C 0 dX9_unitY_11 rfl rfl ?_
  refine G_iload_n C 1 dX9_unitY_12 rfl rfl ?_
  refine G_callV C (As := [.int (nI d)]) (rest := []) (c_X9_beginsPowers hh4 h2 h60 hp) ca_X9_beginsPowers km_X9_112 (by decide) hh4 rfl rfl rfl rfl (by decide) (Nat.le_of_ble_eq_true rfl) (by decide) dX9_unitY_13 (fun vv7 gg8 qq9 => ?_)
  obtain ⟨j_10, j_11, j_12, j_13, j_14, j_15, j_16, rfl, hh17, aa18⟩ := qq9
  have AA19 : Agr [40] G gg8 := AA6.tr aa18 (by simp) (by simp)
  refine G_aload_n C 0 dX9_unitY_16 rfl rfl ?_
  refine G_get C 40 (by decide) hh17 rfl inA9 17 (by decide) rfl kf_X9_101 rfl dX9_unitY_17 ?_
  refine G_l2i C dX9_unitY_20 rfl ?_
  exact G_zret C hr rfl dX9_unitY_21 ⟨_, _, _, _, _, _, _, _, _, _, _, _, (by rw [(u32_ok d (by omega)).2]), hh17, AA19⟩

abbrev rm_X9_leastA : Room := ({ frames := 3, cells := 0, slots := 0, locals := 64 } : Room)
set_option maxRecDepth 100000 in
set_option maxHeartbeats 4000000 in
theorem c_X9_leastA {L : GL} {ad : Nat → Nat} {G : Nat → va_E} {n : Int32} {ik kn ln th m q te us sp bg fo le fi re ca : Int32} {fx fy nx ny ux uy px py : Int64}  (g40 : G 40 = .inr (9, [.ref (ad 41), .ref (ad 42), .ref (ad 43), .int ik, .ref (ad 44), .int kn, .ref (ad 45), .int ln, .int th, .int m, .int q, .int te, .long fx, .long fy, .long nx, .long ny, .long ux, .long uy, .int us, .long px, .long py, .ref (ad 46), .ref (ad 47), .int sp, .int bg, .int fo, .int le, .int fi, .int re, .int ca])) (hn0 : numF n = 0) : GM L yX9_least cX9_least 2 ((some .int)) rm_X9_leastA 50 ad G [.ref (ad 40), .int n] (fun vo G' => vo = some (.int 0) ∧ G' 40 = .inr (9, [.ref (ad 41), .ref (ad 42), .ref (ad 43), .int ik, .ref (ad 44), .int kn, .ref (ad 45), .int ln, .int 1, .int m, .int q, .int te, .long fx, .long fy, .long nx, .long ny, .long ux, .long uy, .int us, .long px, .long py, .ref (ad 46), .ref (ad 47), .int sp, .int bg, .int fo, .int le, .int fi, .int re, .int ca]) ∧ Agr [40] G G') := by
  refine GM.of (own := RX9) (lo := [(0, .ref (ad 40)), (1, .int n)]) (by decide +kernel) rfl rfl (Nat.le_of_ble_eq_true rfl) (fun E C hr => ?_)
  refine G_aload_n C 0 dX9_least_0 rfl rfl ?_
  refine G_iload_n C 1 dX9_least_1 rfl rfl ?_
  refine G_iconst C (v := 1) dX9_least_2 (by decide) ?_
  refine G_callV C (As := [.int n, .int 1]) (rest := []) (c_X9_asksRootA g40 hn0) ca_X9_asksRoot km_X9_165 (by decide) g40 rfl rfl rfl rfl (by decide) (Nat.le_of_ble_eq_true rfl) (by decide) dX9_least_3 (fun vv1 gg2 qq3 => ?_)
  obtain ⟨rfl, hh4, aa5⟩ := qq3
  have AA6 : Agr [40] G gg2 := aa5.wk (by simp)
  refine G_if_ne C 11 dX9_least_6 (by decide) (fun h => absurd h (by decide)) (fun _ => ?_)
  refine G_iconst C (v := 0) dX9_least_9 (by decide) ?_
  exact G_zret C hr rfl dX9_least_10 ⟨rfl, hh4, AA6⟩

abbrev rm_X9_leastQ : Room := ({ frames := 3, cells := 0, slots := 0, locals := 64 } : Room)
set_option maxRecDepth 100000 in
set_option maxHeartbeats 4000000 in
theorem c_X9_leastQ {L : GL} {ad : Nat → Nat} {G : Nat → va_E} {d : Nat} {ik kn ln th m q te us sp bg fo le fi re ca : Int32} {fx fy nx ny ux uy px py : Int64}  (g40 : G 40 = .inr (9, [.ref (ad 41), .ref (ad 42), .ref (ad 43), .int ik, .ref (ad 44), .int kn, .ref (ad 45), .int ln, .int th, .int m, .int q, .int te, .long fx, .long fy, .long nx, .long ny, .long ux, .long uy, .int us, .long px, .long py, .ref (ad 46), .ref (ad 47), .int sp, .int bg, .int fo, .int le, .int fi, .int re, .int ca])) (h2 : 2 ≤ d) (h60 : d ≤ 60) (hp0 : pern d = 0) : GM L yX9_least cX9_least 2 ((some .int)) rm_X9_leastQ 50 ad G [.ref (ad 40), .int (nI d)] (fun vo G' => vo = some (.int 0) ∧ G' 40 = .inr (9, [.ref (ad 41), .ref (ad 42), .ref (ad 43), .int ik, .ref (ad 44), .int kn, .ref (ad 45), .int ln, .int 2, .int m, .int q, .int te, .long fx, .long fy, .long nx, .long ny, .long ux, .long uy, .int us, .long px, .long py, .ref (ad 46), .ref (ad 47), .int sp, .int bg, .int fo, .int le, .int fi, .int re, .int ca]) ∧ Agr [40] G G') := by
  refine GM.of (own := RX9) (lo := [(0, .ref (ad 40)), (1, .int (nI d))]) (by decide +kernel) rfl rfl (Nat.le_of_ble_eq_true rfl) (fun E C hr => ?_)
  refine G_aload_n C 0 dX9_least_0 rfl rfl ?_
  refine G_iload_n C 1 dX9_least_1 rfl rfl ?_
  refine G_iconst C (v := 1) dX9_least_2 (by decide) ?_
  refine G_callV C (As := [.int (nI d), .int 1]) (rest := []) (c_X9_asksRootQ g40 h2 h60 hp0) ca_X9_asksRoot km_X9_165 (by decide) g40 rfl rfl rfl rfl (by decide) (Nat.le_of_ble_eq_true rfl) (by decide) dX9_least_3 (fun vv1 gg2 qq3 => ?_)
  obtain ⟨rfl, hh4, aa5⟩ := qq3
  have AA6 : Agr [40] G gg2 := aa5.wk (by simp)
  refine G_if_ne C 11 dX9_least_6 (by decide) (fun h => absurd h (by decide)) (fun _ => ?_)
  refine G_iconst C (v := 0) dX9_least_9 (by decide) ?_
  exact G_zret C hr rfl dX9_least_10 ⟨rfl, hh4, AA6⟩

abbrev rm_X9_leastR : Room := ({ frames := 4, cells := 0, slots := 0, locals := 85 } : Room)
set_option maxRecDepth 100000 in
set_option maxHeartbeats 4000000 in
theorem c_X9_leastR {L : GL} {ad : Nat → Nat} {G : Nat → va_E} {d : Nat} {ik kn ln th m q te us sp bg fo le fi re ca : Int32} {fx fy nx ny ux uy px py : Int64}  (g40 : G 40 = .inr (9, [.ref (ad 41), .ref (ad 42), .ref (ad 43), .int ik, .ref (ad 44), .int kn, .ref (ad 45), .int ln, .int th, .int m, .int q, .int te, .long fx, .long fy, .long nx, .long ny, .long ux, .long uy, .int us, .long px, .long py, .ref (ad 46), .ref (ad 47), .int sp, .int bg, .int fo, .int le, .int fi, .int re, .int ca])) (h2 : 2 ≤ d) (h60 : d ≤ 60) (hp : pern d ≠ 0) : GM L yX9_least cX9_least 2 ((some .int)) rm_X9_leastR 50 ad G [.ref (ad 40), .int (nI d)] (fun vo G' => ∃ (j1 : Int32) (j2 : Int32) (j3 : Int32) (j4 : Int64) (j5 : Int64) (j6 : Int64) (j7 : Int64) (u1 : Int64) (u2 : Int64) (u3 : Int32) (p1 : Int64) (p2 : Int64), vo = some (.int (nI (lyn d))) ∧ G' 40 = .inr (9, [.ref (ad 41), .ref (ad 42), .ref (ad 43), .int ik, .ref (ad 44), .int kn, .ref (ad 45), .int ln, .int 0, .int j1, .int j2, .int j3, .long j4, .long j5, .long j6, .long j7, .long u1, .long u2, .int u3, .long p1, .long p2, .ref (ad 46), .ref (ad 47), .int sp, .int bg, .int fo, .int le, .int fi, .int re, .int ca]) ∧ Agr [40] G G') := by
  refine GM.of (own := RX9) (lo := [(0, .ref (ad 40)), (1, .int (nI d))]) (by decide +kernel) rfl rfl (Nat.le_of_ble_eq_true rfl) (fun E C hr => ?_)
  refine G_aload_n C 0 dX9_least_0 rfl rfl ?_
  refine G_iload_n C 1 dX9_least_1 rfl rfl ?_
  refine G_iconst C (v := 1) dX9_least_2 (by decide) ?_
  refine G_callV C (As := [.int (nI d), .int 1]) (rest := []) (c_X9_asksRootR g40 h2 h60 hp) ca_X9_asksRoot km_X9_165 (by decide) g40 rfl rfl rfl rfl (by decide) (Nat.le_of_ble_eq_true rfl) (by decide) dX9_least_3 (fun vv1 gg2 qq3 => ?_)
  obtain ⟨rfl, hh4, aa5⟩ := qq3
  have AA6 : Agr [40] G gg2 := aa5.wk (by simp)
  refine G_if_ne C 11 dX9_least_6 (by decide) (fun _ => ?_) (fun h => absurd h (by decide))
  refine G_aload_n C 0 dX9_least_11 rfl rfl ?_
  refine G_iload_n C 1 dX9_least_12 rfl rfl ?_
  refine G_callV C (As := [.int (nI d)]) (rest := []) (c_X9_beginsPowers hh4 h2 h60 hp) ca_X9_beginsPowers km_X9_112 (by decide) hh4 rfl rfl rfl rfl (by decide) (Nat.le_of_ble_eq_true rfl) (by decide) dX9_least_13 (fun vv7 gg8 qq9 => ?_)
  obtain ⟨j_10, j_11, j_12, j_13, j_14, j_15, j_16, rfl, hh17, aa18⟩ := qq9
  have AA19 : Agr [40] G gg8 := AA6.tr aa18 (by simp) (by simp)
  refine G_aload_n C 0 dX9_least_16 rfl rfl ?_
  refine G_get C 40 (by decide) hh17 rfl inA9 18 (by decide) rfl kf_X9_95 rfl dX9_least_17 ?_
  refine G_iconst C (v := 1) dX9_least_20 (by decide) ?_
  refine G_icmp_ne C 31 dX9_least_21 (by decide) (fun c21 => ?_) (fun c21 => ?_)
  · refine G_ldc2 C dX9_least_31 kl_X9_169 ?_
    refine G_aload_n C 0 dX9_least_34 rfl rfl ?_
    refine G_get C 40 (by decide) hh17 rfl inA9 16 (by decide) rfl kf_X9_98 rfl dX9_least_35 ?_
    refine G_lmul C dX9_least_38 ?_
    refine G_aload_n C 0 dX9_least_39 rfl rfl ?_
    refine G_get C 40 (by decide) hh17 rfl inA9 17 (by decide) rfl kf_X9_101 rfl dX9_least_40 ?_
    refine G_lmul C dX9_least_43 ?_
    refine G_l2i C dX9_least_44 rfl ?_
    exact G_zret C hr rfl dX9_least_45 ⟨_, _, _, _, _, _, _, _, _, _, _, _, (by rw [← least_ok d (by omega) hp, if_neg c21]), hh17, AA19⟩
  · refine G_aload_n C 0 dX9_least_24 rfl rfl ?_
    refine G_get C 40 (by decide) hh17 rfl inA9 17 (by decide) rfl kf_X9_101 rfl dX9_least_25 ?_
    refine G_goto C 44 dX9_least_28 (by decide) ?_
    refine G_l2i C dX9_least_44 rfl ?_
    exact G_zret C hr rfl dX9_least_45 ⟨_, _, _, _, _, _, _, _, _, _, _, _, (by rw [← least_ok d (by omega) hp, if_pos c21]), hh17, AA19⟩

abbrev rm_X9_leastYA : Room := ({ frames := 4, cells := 0, slots := 0, locals := 85 } : Room)
set_option maxRecDepth 100000 in
set_option maxHeartbeats 4000000 in
theorem c_X9_leastYA {L : GL} {ad : Nat → Nat} {G : Nat → va_E} {n : Int32} {ik kn ln th m q te us sp bg fo le fi re ca : Int32} {fx fy nx ny ux uy px py : Int64}  (g40 : G 40 = .inr (9, [.ref (ad 41), .ref (ad 42), .ref (ad 43), .int ik, .ref (ad 44), .int kn, .ref (ad 45), .int ln, .int th, .int m, .int q, .int te, .long fx, .long fy, .long nx, .long ny, .long ux, .long uy, .int us, .long px, .long py, .ref (ad 46), .ref (ad 47), .int sp, .int bg, .int fo, .int le, .int fi, .int re, .int ca])) (hn0 : numF n = 0) : GM L yX9_leastY cX9_leastY 2 ((some .int)) rm_X9_leastYA 50 ad G [.ref (ad 40), .int n] (fun vo G' => vo = some (.int 0) ∧ G' 40 = .inr (9, [.ref (ad 41), .ref (ad 42), .ref (ad 43), .int ik, .ref (ad 44), .int kn, .ref (ad 45), .int ln, .int 1, .int m, .int q, .int te, .long fx, .long fy, .long nx, .long ny, .long ux, .long uy, .int us, .long px, .long py, .ref (ad 46), .ref (ad 47), .int sp, .int bg, .int fo, .int le, .int fi, .int re, .int ca]) ∧ Agr [40] G G') := by
  refine GM.of (own := RX9) (lo := [(0, .ref (ad 40)), (1, .int n)]) (by decide +kernel) rfl rfl (Nat.le_of_ble_eq_true rfl) (fun E C hr => ?_)
  refine G_aload_n C 0 dX9_leastY_0 rfl rfl ?_
  refine G_iload_n C 1 dX9_leastY_1 rfl rfl ?_
  refine G_callV C (As := [.int n]) (rest := []) (c_X9_leastA g40 hn0) ca_X9_least km_X9_171 (by decide) g40 rfl rfl rfl rfl (by decide) (Nat.le_of_ble_eq_true rfl) (by decide) dX9_leastY_2 (fun vv1 gg2 qq3 => ?_)
  obtain ⟨rfl, hh4, aa5⟩ := qq3
  have AA6 : Agr [40] G gg2 := aa5.wk (by simp)
  exact G_zret C hr rfl dX9_leastY_5 ⟨rfl, hh4, AA6⟩

abbrev rm_X9_leastYQ : Room := ({ frames := 4, cells := 0, slots := 0, locals := 85 } : Room)
set_option maxRecDepth 100000 in
set_option maxHeartbeats 4000000 in
theorem c_X9_leastYQ {L : GL} {ad : Nat → Nat} {G : Nat → va_E} {d : Nat} {ik kn ln th m q te us sp bg fo le fi re ca : Int32} {fx fy nx ny ux uy px py : Int64}  (g40 : G 40 = .inr (9, [.ref (ad 41), .ref (ad 42), .ref (ad 43), .int ik, .ref (ad 44), .int kn, .ref (ad 45), .int ln, .int th, .int m, .int q, .int te, .long fx, .long fy, .long nx, .long ny, .long ux, .long uy, .int us, .long px, .long py, .ref (ad 46), .ref (ad 47), .int sp, .int bg, .int fo, .int le, .int fi, .int re, .int ca])) (h2 : 2 ≤ d) (h60 : d ≤ 60) (hp0 : pern d = 0) : GM L yX9_leastY cX9_leastY 2 ((some .int)) rm_X9_leastYQ 50 ad G [.ref (ad 40), .int (nI d)] (fun vo G' => vo = some (.int 0) ∧ G' 40 = .inr (9, [.ref (ad 41), .ref (ad 42), .ref (ad 43), .int ik, .ref (ad 44), .int kn, .ref (ad 45), .int ln, .int 2, .int m, .int q, .int te, .long fx, .long fy, .long nx, .long ny, .long ux, .long uy, .int us, .long px, .long py, .ref (ad 46), .ref (ad 47), .int sp, .int bg, .int fo, .int le, .int fi, .int re, .int ca]) ∧ Agr [40] G G') := by
  refine GM.of (own := RX9) (lo := [(0, .ref (ad 40)), (1, .int (nI d))]) (by decide +kernel) rfl rfl (Nat.le_of_ble_eq_true rfl) (fun E C hr => ?_)
  refine G_aload_n C 0 dX9_leastY_0 rfl rfl ?_
  refine G_iload_n C 1 dX9_leastY_1 rfl rfl ?_
  refine G_callV C (As := [.int (nI d)]) (rest := []) (c_X9_leastQ g40 h2 h60 hp0) ca_X9_least km_X9_171 (by decide) g40 rfl rfl rfl rfl (by decide) (Nat.le_of_ble_eq_true rfl) (by decide) dX9_leastY_2 (fun vv1 gg2 qq3 => ?_)
  obtain ⟨rfl, hh4, aa5⟩ := qq3
  have AA6 : Agr [40] G gg2 := aa5.wk (by simp)
  exact G_zret C hr rfl dX9_leastY_5 ⟨rfl, hh4, AA6⟩

abbrev rm_X9_leastYR : Room := ({ frames := 5, cells := 0, slots := 0, locals := 106 } : Room)
set_option maxRecDepth 100000 in
set_option maxHeartbeats 4000000 in
theorem c_X9_leastYR {L : GL} {ad : Nat → Nat} {G : Nat → va_E} {d : Nat} {ik kn ln th m q te us sp bg fo le fi re ca : Int32} {fx fy nx ny ux uy px py : Int64}  (g40 : G 40 = .inr (9, [.ref (ad 41), .ref (ad 42), .ref (ad 43), .int ik, .ref (ad 44), .int kn, .ref (ad 45), .int ln, .int th, .int m, .int q, .int te, .long fx, .long fy, .long nx, .long ny, .long ux, .long uy, .int us, .long px, .long py, .ref (ad 46), .ref (ad 47), .int sp, .int bg, .int fo, .int le, .int fi, .int re, .int ca])) (h2 : 2 ≤ d) (h60 : d ≤ 60) (hp : pern d ≠ 0) : GM L yX9_leastY cX9_leastY 2 ((some .int)) rm_X9_leastYR 50 ad G [.ref (ad 40), .int (nI d)] (fun vo G' => ∃ (j1 : Int32) (j2 : Int32) (j3 : Int32) (j4 : Int64) (j5 : Int64) (j6 : Int64) (j7 : Int64) (u1 : Int64) (u2 : Int64) (u3 : Int32) (p1 : Int64) (p2 : Int64), vo = some (.int (nI (lyn d))) ∧ G' 40 = .inr (9, [.ref (ad 41), .ref (ad 42), .ref (ad 43), .int ik, .ref (ad 44), .int kn, .ref (ad 45), .int ln, .int 0, .int j1, .int j2, .int j3, .long j4, .long j5, .long j6, .long j7, .long u1, .long u2, .int u3, .long p1, .long p2, .ref (ad 46), .ref (ad 47), .int sp, .int bg, .int fo, .int le, .int fi, .int re, .int ca]) ∧ Agr [40] G G') := by
  refine GM.of (own := RX9) (lo := [(0, .ref (ad 40)), (1, .int (nI d))]) (by decide +kernel) rfl rfl (Nat.le_of_ble_eq_true rfl) (fun E C hr => ?_)
  refine G_aload_n C 0 dX9_leastY_0 rfl rfl ?_
  refine G_iload_n C 1 dX9_leastY_1 rfl rfl ?_
  refine G_callV C (As := [.int (nI d)]) (rest := []) (c_X9_leastR g40 h2 h60 hp) ca_X9_least km_X9_171 (by decide) g40 rfl rfl rfl rfl (by decide) (Nat.le_of_ble_eq_true rfl) (by decide) dX9_leastY_2 (fun vv1 gg2 qq3 => ?_)
  obtain ⟨j_4, j_5, j_6, j_7, j_8, j_9, j_10, u_11, u_12, u_13, p_14, p_15, rfl, hh16, aa17⟩ := qq3
  have AA18 : Agr [40] G gg2 := aa17.wk (by simp)
  exact G_zret C hr rfl dX9_leastY_5 ⟨_, _, _, _, _, _, _, _, _, _, _, _, rfl, hh16, AA18⟩

abbrev rm_X9_leastYBySearchA : Room := ({ frames := 4, cells := 0, slots := 0, locals := 85 } : Room)
set_option maxRecDepth 100000 in
set_option maxHeartbeats 4000000 in
theorem c_X9_leastYBySearchA {L : GL} {ad : Nat → Nat} {G : Nat → va_E} {n : Int32} {ik kn ln th m q te us sp bg fo le fi re ca : Int32} {fx fy nx ny ux uy px py : Int64}  (g40 : G 40 = .inr (9, [.ref (ad 41), .ref (ad 42), .ref (ad 43), .int ik, .ref (ad 44), .int kn, .ref (ad 45), .int ln, .int th, .int m, .int q, .int te, .long fx, .long fy, .long nx, .long ny, .long ux, .long uy, .int us, .long px, .long py, .ref (ad 46), .ref (ad 47), .int sp, .int bg, .int fo, .int le, .int fi, .int re, .int ca])) (hn0 : numF n = 0) : GM L yX9_leastYBySearch cX9_leastYBySearch 2 ((some .int)) rm_X9_leastYBySearchA 50 ad G [.ref (ad 40), .int n] (fun vo G' => vo = some (.int 0) ∧ G' 40 = .inr (9, [.ref (ad 41), .ref (ad 42), .ref (ad 43), .int ik, .ref (ad 44), .int kn, .ref (ad 45), .int ln, .int 1, .int m, .int q, .int te, .long fx, .long fy, .long nx, .long ny, .long ux, .long uy, .int us, .long px, .long py, .ref (ad 46), .ref (ad 47), .int sp, .int bg, .int fo, .int le, .int fi, .int re, .int ca]) ∧ Agr [40] G G') := by
  refine GM.of (own := RX9) (lo := [(0, .ref (ad 40)), (1, .int n)]) (by decide +kernel) rfl rfl (Nat.le_of_ble_eq_true rfl) (fun E C hr => ?_)
  refine G_aload_n C 0 dX9_leastYBySearch_0 rfl rfl ?_
  refine G_iload_n C 1 dX9_leastYBySearch_1 rfl rfl ?_
  refine G_callV C (As := [.int n]) (rest := []) (c_X9_leastA g40 hn0) ca_X9_least km_X9_171 (by decide) g40 rfl rfl rfl rfl (by decide) (Nat.le_of_ble_eq_true rfl) (by decide) dX9_leastYBySearch_2 (fun vv1 gg2 qq3 => ?_)
  obtain ⟨rfl, hh4, aa5⟩ := qq3
  have AA6 : Agr [40] G gg2 := aa5.wk (by simp)
  exact G_zret C hr rfl dX9_leastYBySearch_5 ⟨rfl, hh4, AA6⟩

abbrev rm_X9_leastYBySearchQ : Room := ({ frames := 4, cells := 0, slots := 0, locals := 85 } : Room)
set_option maxRecDepth 100000 in
set_option maxHeartbeats 4000000 in
theorem c_X9_leastYBySearchQ {L : GL} {ad : Nat → Nat} {G : Nat → va_E} {d : Nat} {ik kn ln th m q te us sp bg fo le fi re ca : Int32} {fx fy nx ny ux uy px py : Int64}  (g40 : G 40 = .inr (9, [.ref (ad 41), .ref (ad 42), .ref (ad 43), .int ik, .ref (ad 44), .int kn, .ref (ad 45), .int ln, .int th, .int m, .int q, .int te, .long fx, .long fy, .long nx, .long ny, .long ux, .long uy, .int us, .long px, .long py, .ref (ad 46), .ref (ad 47), .int sp, .int bg, .int fo, .int le, .int fi, .int re, .int ca])) (h2 : 2 ≤ d) (h60 : d ≤ 60) (hp0 : pern d = 0) : GM L yX9_leastYBySearch cX9_leastYBySearch 2 ((some .int)) rm_X9_leastYBySearchQ 50 ad G [.ref (ad 40), .int (nI d)] (fun vo G' => vo = some (.int 0) ∧ G' 40 = .inr (9, [.ref (ad 41), .ref (ad 42), .ref (ad 43), .int ik, .ref (ad 44), .int kn, .ref (ad 45), .int ln, .int 2, .int m, .int q, .int te, .long fx, .long fy, .long nx, .long ny, .long ux, .long uy, .int us, .long px, .long py, .ref (ad 46), .ref (ad 47), .int sp, .int bg, .int fo, .int le, .int fi, .int re, .int ca]) ∧ Agr [40] G G') := by
  refine GM.of (own := RX9) (lo := [(0, .ref (ad 40)), (1, .int (nI d))]) (by decide +kernel) rfl rfl (Nat.le_of_ble_eq_true rfl) (fun E C hr => ?_)
  refine G_aload_n C 0 dX9_leastYBySearch_0 rfl rfl ?_
  refine G_iload_n C 1 dX9_leastYBySearch_1 rfl rfl ?_
  refine G_callV C (As := [.int (nI d)]) (rest := []) (c_X9_leastQ g40 h2 h60 hp0) ca_X9_least km_X9_171 (by decide) g40 rfl rfl rfl rfl (by decide) (Nat.le_of_ble_eq_true rfl) (by decide) dX9_leastYBySearch_2 (fun vv1 gg2 qq3 => ?_)
  obtain ⟨rfl, hh4, aa5⟩ := qq3
  have AA6 : Agr [40] G gg2 := aa5.wk (by simp)
  exact G_zret C hr rfl dX9_leastYBySearch_5 ⟨rfl, hh4, AA6⟩

abbrev rm_X9_leastYBySearchR : Room := ({ frames := 5, cells := 0, slots := 0, locals := 106 } : Room)
set_option maxRecDepth 100000 in
set_option maxHeartbeats 4000000 in
theorem c_X9_leastYBySearchR {L : GL} {ad : Nat → Nat} {G : Nat → va_E} {d : Nat} {ik kn ln th m q te us sp bg fo le fi re ca : Int32} {fx fy nx ny ux uy px py : Int64}  (g40 : G 40 = .inr (9, [.ref (ad 41), .ref (ad 42), .ref (ad 43), .int ik, .ref (ad 44), .int kn, .ref (ad 45), .int ln, .int th, .int m, .int q, .int te, .long fx, .long fy, .long nx, .long ny, .long ux, .long uy, .int us, .long px, .long py, .ref (ad 46), .ref (ad 47), .int sp, .int bg, .int fo, .int le, .int fi, .int re, .int ca])) (h2 : 2 ≤ d) (h60 : d ≤ 60) (hp : pern d ≠ 0) : GM L yX9_leastYBySearch cX9_leastYBySearch 2 ((some .int)) rm_X9_leastYBySearchR 50 ad G [.ref (ad 40), .int (nI d)] (fun vo G' => ∃ (j1 : Int32) (j2 : Int32) (j3 : Int32) (j4 : Int64) (j5 : Int64) (j6 : Int64) (j7 : Int64) (u1 : Int64) (u2 : Int64) (u3 : Int32) (p1 : Int64) (p2 : Int64), vo = some (.int (nI (lyn d))) ∧ G' 40 = .inr (9, [.ref (ad 41), .ref (ad 42), .ref (ad 43), .int ik, .ref (ad 44), .int kn, .ref (ad 45), .int ln, .int 0, .int j1, .int j2, .int j3, .long j4, .long j5, .long j6, .long j7, .long u1, .long u2, .int u3, .long p1, .long p2, .ref (ad 46), .ref (ad 47), .int sp, .int bg, .int fo, .int le, .int fi, .int re, .int ca]) ∧ Agr [40] G G') := by
  refine GM.of (own := RX9) (lo := [(0, .ref (ad 40)), (1, .int (nI d))]) (by decide +kernel) rfl rfl (Nat.le_of_ble_eq_true rfl) (fun E C hr => ?_)
  refine G_aload_n C 0 dX9_leastYBySearch_0 rfl rfl ?_
  refine G_iload_n C 1 dX9_leastYBySearch_1 rfl rfl ?_
  refine G_callV C (As := [.int (nI d)]) (rest := []) (c_X9_leastR g40 h2 h60 hp) ca_X9_least km_X9_171 (by decide) g40 rfl rfl rfl rfl (by decide) (Nat.le_of_ble_eq_true rfl) (by decide) dX9_leastYBySearch_2 (fun vv1 gg2 qq3 => ?_)
  obtain ⟨j_4, j_5, j_6, j_7, j_8, j_9, j_10, u_11, u_12, u_13, p_14, p_15, rfl, hh16, aa17⟩ := qq3
  have AA18 : Agr [40] G gg2 := aa17.wk (by simp)
  exact G_zret C hr rfl dX9_leastYBySearch_5 ⟨_, _, _, _, _, _, _, _, _, _, _, _, rfl, hh16, AA18⟩

abbrev rm_X9_termAtA : Room := ({ frames := 3, cells := 0, slots := 0, locals := 64 } : Room)
set_option maxRecDepth 100000 in
set_option maxHeartbeats 4000000 in
theorem c_X9_termAtA {L : GL} {ad : Nat → Nat} {G : Nat → va_E} {n pl : Int32} {ik kn ln th m q te us sp bg fo le fi re ca : Int32} {fx fy nx ny ux uy px py : Int64}  (g40 : G 40 = .inr (9, [.ref (ad 41), .ref (ad 42), .ref (ad 43), .int ik, .ref (ad 44), .int kn, .ref (ad 45), .int ln, .int th, .int m, .int q, .int te, .long fx, .long fy, .long nx, .long ny, .long ux, .long uy, .int us, .long px, .long py, .ref (ad 46), .ref (ad 47), .int sp, .int bg, .int fo, .int le, .int fi, .int re, .int ca])) (hn0 : numF n = 0) : GM L yX9_termAt cX9_termAt 4 ((some .int)) rm_X9_termAtA 50 ad G [.ref (ad 40), .int n, .int pl] (fun vo G' => vo = some (.int 0) ∧ G' 40 = .inr (9, [.ref (ad 41), .ref (ad 42), .ref (ad 43), .int ik, .ref (ad 44), .int kn, .ref (ad 45), .int ln, .int 1, .int m, .int q, .int te, .long fx, .long fy, .long nx, .long ny, .long ux, .long uy, .int us, .long px, .long py, .ref (ad 46), .ref (ad 47), .int sp, .int bg, .int fo, .int le, .int fi, .int re, .int ca]) ∧ Agr [40] G G') := by
  refine GM.of (own := RX9) (lo := [(0, .ref (ad 40)), (1, .int n), (2, .int pl)]) (by decide +kernel) rfl rfl (Nat.le_of_ble_eq_true rfl) (fun E C hr => ?_)
  refine G_aload_n C 0 dX9_termAt_0 rfl rfl ?_
  refine G_iload_n C 1 dX9_termAt_1 rfl rfl ?_
  refine G_iload_n C 2 dX9_termAt_2 rfl rfl ?_
  refine G_iconst C (v := 0) dX9_termAt_3 (by decide) ?_
  refine G_bipush C (v := 99) dX9_termAt_4 (by decide) ?_
  refine G_callS C (As := [.int pl, .int 0, .int 99]) (rest := [.int n, .ref (ad 40)]) c_X9_in ca_X9_in km_X9_50 rfl rfl (by decide) (Nat.le_of_ble_eq_true rfl) (by decide) dX9_termAt_6 (fun vv1 gg2 qq3 => ?_)
  obtain ⟨rfl, rfl⟩ := qq3
  refine G_callV C (As := [.int n, .int (if pl < 0 then 0 else if 99 < pl then 0 else 1)]) (rest := []) (c_X9_asksRootA g40 hn0) ca_X9_asksRoot km_X9_165 (by decide) g40 rfl rfl rfl rfl (by decide) (Nat.le_of_ble_eq_true rfl) (by decide) dX9_termAt_9 (fun vv4 gg5 qq6 => ?_)
  obtain ⟨rfl, hh7, aa8⟩ := qq6
  have AA9 : Agr [40] G gg5 := aa8.wk (by simp)
  refine G_if_ne C 17 dX9_termAt_12 (by decide) (fun h => absurd h (by decide)) (fun _ => ?_)
  refine G_iconst C (v := 0) dX9_termAt_15 (by decide) ?_
  exact G_zret C hr rfl dX9_termAt_16 ⟨rfl, hh7, AA9⟩

theorem in_no {p : Int32} (h : p < 0 ∨ ¬ p ≤ 99) : (if p < 0 then (0 : Int32) else if 99 < p then 0 else 1) = 0 := by
  by_cases z : p < 0
  · rw [if_pos z]
  · rcases h with y | y
    · exact absurd y z
    · rw [if_neg z, if_pos (Int32.not_le.mp y)]
theorem in_yes : ∀ p, p < 100 → (if nI p < 0 then (0 : Int32) else if 99 < nI p then 0 else 1) = 1 := by decide +kernel
abbrev rm_X9_termAtB : Room := ({ frames := 3, cells := 0, slots := 0, locals := 64 } : Room)
set_option maxRecDepth 100000 in
set_option maxHeartbeats 4000000 in
theorem c_X9_termAtB {L : GL} {ad : Nat → Nat} {G : Nat → va_E} {d : Nat} {pl : Int32} {ik kn ln th m q te us sp bg fo le fi re ca : Int32} {fx fy nx ny ux uy px py : Int64}  (g40 : G 40 = .inr (9, [.ref (ad 41), .ref (ad 42), .ref (ad 43), .int ik, .ref (ad 44), .int kn, .ref (ad 45), .int ln, .int th, .int m, .int q, .int te, .long fx, .long fy, .long nx, .long ny, .long ux, .long uy, .int us, .long px, .long py, .ref (ad 46), .ref (ad 47), .int sp, .int bg, .int fo, .int le, .int fi, .int re, .int ca])) (h2 : 2 ≤ d) (h60 : d ≤ 60) (hpl : pl < 0 ∨ ¬ pl ≤ 99) : GM L yX9_termAt cX9_termAt 4 ((some .int)) rm_X9_termAtB 50 ad G [.ref (ad 40), .int (nI d), .int pl] (fun vo G' => vo = some (.int 0) ∧ G' 40 = .inr (9, [.ref (ad 41), .ref (ad 42), .ref (ad 43), .int ik, .ref (ad 44), .int kn, .ref (ad 45), .int ln, .int 1, .int m, .int q, .int te, .long fx, .long fy, .long nx, .long ny, .long ux, .long uy, .int us, .long px, .long py, .ref (ad 46), .ref (ad 47), .int sp, .int bg, .int fo, .int le, .int fi, .int re, .int ca]) ∧ Agr [40] G G') := by
  refine GM.of (own := RX9) (lo := [(0, .ref (ad 40)), (1, .int (nI d)), (2, .int pl)]) (by decide +kernel) rfl rfl (Nat.le_of_ble_eq_true rfl) (fun E C hr => ?_)
  refine G_aload_n C 0 dX9_termAt_0 rfl rfl ?_
  refine G_iload_n C 1 dX9_termAt_1 rfl rfl ?_
  refine G_iload_n C 2 dX9_termAt_2 rfl rfl ?_
  refine G_iconst C (v := 0) dX9_termAt_3 (by decide) ?_
  refine G_bipush C (v := 99) dX9_termAt_4 (by decide) ?_
  refine G_callS C (As := [.int pl, .int 0, .int 99]) (rest := [.int (nI d), .ref (ad 40)]) c_X9_in ca_X9_in km_X9_50 rfl rfl (by decide) (Nat.le_of_ble_eq_true rfl) (by decide) dX9_termAt_6 (fun vv1 gg2 qq3 => ?_)
  obtain ⟨rfl, rfl⟩ := qq3
  refine GW.topr (y := 0) (in_no hpl) ?_
  refine G_callV C (As := [.int (nI d), .int 0]) (rest := []) (c_X9_asksRootB g40 h2 h60) ca_X9_asksRoot km_X9_165 (by decide) g40 rfl rfl rfl rfl (by decide) (Nat.le_of_ble_eq_true rfl) (by decide) dX9_termAt_9 (fun vv4 gg5 qq6 => ?_)
  obtain ⟨rfl, hh7, aa8⟩ := qq6
  have AA9 : Agr [40] G gg5 := aa8.wk (by simp)
  refine G_if_ne C 17 dX9_termAt_12 (by decide) (fun h => absurd h (by decide)) (fun _ => ?_)
  refine G_iconst C (v := 0) dX9_termAt_15 (by decide) ?_
  exact G_zret C hr rfl dX9_termAt_16 ⟨rfl, hh7, AA9⟩

abbrev rm_X9_termAtQ : Room := ({ frames := 3, cells := 0, slots := 0, locals := 64 } : Room)
set_option maxRecDepth 100000 in
set_option maxHeartbeats 4000000 in
theorem c_X9_termAtQ {L : GL} {ad : Nat → Nat} {G : Nat → va_E} {d p : Nat} {ik kn ln th m q te us sp bg fo le fi re ca : Int32} {fx fy nx ny ux uy px py : Int64}  (g40 : G 40 = .inr (9, [.ref (ad 41), .ref (ad 42), .ref (ad 43), .int ik, .ref (ad 44), .int kn, .ref (ad 45), .int ln, .int th, .int m, .int q, .int te, .long fx, .long fy, .long nx, .long ny, .long ux, .long uy, .int us, .long px, .long py, .ref (ad 46), .ref (ad 47), .int sp, .int bg, .int fo, .int le, .int fi, .int re, .int ca])) (h2 : 2 ≤ d) (h60 : d ≤ 60) (hp0 : pern d = 0) (h99 : p ≤ 99) : GM L yX9_termAt cX9_termAt 4 ((some .int)) rm_X9_termAtQ 50 ad G [.ref (ad 40), .int (nI d), .int (nI p)] (fun vo G' => vo = some (.int 0) ∧ G' 40 = .inr (9, [.ref (ad 41), .ref (ad 42), .ref (ad 43), .int ik, .ref (ad 44), .int kn, .ref (ad 45), .int ln, .int 2, .int m, .int q, .int te, .long fx, .long fy, .long nx, .long ny, .long ux, .long uy, .int us, .long px, .long py, .ref (ad 46), .ref (ad 47), .int sp, .int bg, .int fo, .int le, .int fi, .int re, .int ca]) ∧ Agr [40] G G') := by
  refine GM.of (own := RX9) (lo := [(0, .ref (ad 40)), (1, .int (nI d)), (2, .int (nI p))]) (by decide +kernel) rfl rfl (Nat.le_of_ble_eq_true rfl) (fun E C hr => ?_)
  refine G_aload_n C 0 dX9_termAt_0 rfl rfl ?_
  refine G_iload_n C 1 dX9_termAt_1 rfl rfl ?_
  refine G_iload_n C 2 dX9_termAt_2 rfl rfl ?_
  refine G_iconst C (v := 0) dX9_termAt_3 (by decide) ?_
  refine G_bipush C (v := 99) dX9_termAt_4 (by decide) ?_
  refine G_callS C (As := [.int (nI p), .int 0, .int 99]) (rest := [.int (nI d), .ref (ad 40)]) c_X9_in ca_X9_in km_X9_50 rfl rfl (by decide) (Nat.le_of_ble_eq_true rfl) (by decide) dX9_termAt_6 (fun vv1 gg2 qq3 => ?_)
  obtain ⟨rfl, rfl⟩ := qq3
  refine GW.topr (y := 1) (in_yes p (by omega)) ?_
  refine G_callV C (As := [.int (nI d), .int 1]) (rest := []) (c_X9_asksRootQ g40 h2 h60 hp0) ca_X9_asksRoot km_X9_165 (by decide) g40 rfl rfl rfl rfl (by decide) (Nat.le_of_ble_eq_true rfl) (by decide) dX9_termAt_9 (fun vv4 gg5 qq6 => ?_)
  obtain ⟨rfl, hh7, aa8⟩ := qq6
  have AA9 : Agr [40] G gg5 := aa8.wk (by simp)
  refine G_if_ne C 17 dX9_termAt_12 (by decide) (fun h => absurd h (by decide)) (fun _ => ?_)
  refine G_iconst C (v := 0) dX9_termAt_15 (by decide) ?_
  exact G_zret C hr rfl dX9_termAt_16 ⟨rfl, hh7, AA9⟩

abbrev rm_X9_termAtR : Room := ({ frames := 3, cells := 0, slots := 0, locals := 64 } : Room)
set_option maxRecDepth 100000 in
set_option maxHeartbeats 4000000 in
theorem c_X9_termAtR {L : GL} {ad : Nat → Nat} {G : Nat → va_E} {d p : Nat} {ik kn ln th m q te us sp bg fo le fi re ca : Int32} {fx fy nx ny ux uy px py : Int64}  (g40 : G 40 = .inr (9, [.ref (ad 41), .ref (ad 42), .ref (ad 43), .int ik, .ref (ad 44), .int kn, .ref (ad 45), .int ln, .int th, .int m, .int q, .int te, .long fx, .long fy, .long nx, .long ny, .long ux, .long uy, .int us, .long px, .long py, .ref (ad 46), .ref (ad 47), .int sp, .int bg, .int fo, .int le, .int fi, .int re, .int ca])) (h2 : 2 ≤ d) (h60 : d ≤ 60) (hp : pern d ≠ 0) (h99 : p ≤ 99) : GM L yX9_termAt cX9_termAt 4 ((some .int)) rm_X9_termAtR 50 ad G [.ref (ad 40), .int (nI d), .int (nI p)] (fun vo G' => ∃ (j1 : Int32) (j2 : Int32) (j3 : Int32) (j4 : Int64) (j5 : Int64) (j6 : Int64) (j7 : Int64) (u1 : Int64) (u2 : Int64) (u3 : Int32) (p1 : Int64) (p2 : Int64), vo = some (.int ((tsq d p).2.2)) ∧ G' 40 = .inr (9, [.ref (ad 41), .ref (ad 42), .ref (ad 43), .int ik, .ref (ad 44), .int kn, .ref (ad 45), .int ln, .int 0, .int j1, .int j2, .int j3, .long j4, .long j5, .long j6, .long j7, .long u1, .long u2, .int u3, .long p1, .long p2, .ref (ad 46), .ref (ad 47), .int sp, .int bg, .int fo, .int le, .int fi, .int re, .int ca]) ∧ Agr [40] G G') := by
  refine GM.of (own := RX9) (lo := [(0, .ref (ad 40)), (1, .int (nI d)), (2, .int (nI p))]) (by decide +kernel) rfl rfl (Nat.le_of_ble_eq_true rfl) (fun E C hr => ?_)
  refine G_aload_n C 0 dX9_termAt_0 rfl rfl ?_
  refine G_iload_n C 1 dX9_termAt_1 rfl rfl ?_
  refine G_iload_n C 2 dX9_termAt_2 rfl rfl ?_
  refine G_iconst C (v := 0) dX9_termAt_3 (by decide) ?_
  refine G_bipush C (v := 99) dX9_termAt_4 (by decide) ?_
  refine G_callS C (As := [.int (nI p), .int 0, .int 99]) (rest := [.int (nI d), .ref (ad 40)]) c_X9_in ca_X9_in km_X9_50 rfl rfl (by decide) (Nat.le_of_ble_eq_true rfl) (by decide) dX9_termAt_6 (fun vv1 gg2 qq3 => ?_)
  obtain ⟨rfl, rfl⟩ := qq3
  refine GW.topr (y := 1) (in_yes p (by omega)) ?_
  refine G_callV C (As := [.int (nI d), .int 1]) (rest := []) (c_X9_asksRootR g40 h2 h60 hp) ca_X9_asksRoot km_X9_165 (by decide) g40 rfl rfl rfl rfl (by decide) (Nat.le_of_ble_eq_true rfl) (by decide) dX9_termAt_9 (fun vv4 gg5 qq6 => ?_)
  obtain ⟨rfl, hh7, aa8⟩ := qq6
  have AA9 : Agr [40] G gg5 := aa8.wk (by simp)
  refine G_if_ne C 17 dX9_termAt_12 (by decide) (fun _ => ?_) (fun h => absurd h (by decide))
  refine G_aload_n C 0 dX9_termAt_17 rfl rfl ?_
  refine G_iload_n C 1 dX9_termAt_18 rfl rfl ?_
  refine G_callV C (As := [.int (nI d)]) (rest := []) (c_X9_beginsTerms hh7 h2 h60) ca_X9_beginsTerms km_X9_79 (by decide) hh7 rfl rfl rfl rfl (by decide) (Nat.le_of_ble_eq_true rfl) (by decide) dX9_termAt_19 (fun vv10 gg11 qq12 => ?_)
  obtain ⟨rfl, hh13, aa14⟩ := qq12
  have AA15 : Agr [40] G gg11 := AA9.tr aa14 (by simp) (by simp)
  refine G_iconst C (v := 0) dX9_termAt_22 (by decide) ?_
  refine G_istore_n C 3 (lo' := [(3, .int 0), (0, .ref (ad 40)), (1, .int (nI d)), (2, .int (nI p))]) dX9_termAt_23 rfl (by decide) rfl ?_
  have key24 : ∀ (n : Nat) (i : Nat) (G1 : Nat → va_E) (hf24_40 : G1 40 = .inr (9, [.ref (ad 41), .ref (ad 42), .ref (ad 43), .int ik, .ref (ad 44), .int kn, .ref (ad 45), .int ln, .int 0, .int ((tsq d i).1), .int ((tsq d i).2.1), .int ((tsq d i).2.2), .long ((uL d 0).1), .long ((uL d 0).2.1), .long ((uL d 0).2.2.1), .long ((uL d 0).2.2.2), .long ux, .long uy, .int us, .long px, .long py, .ref (ad 46), .ref (ad 47), .int sp, .int bg, .int fo, .int le, .int fi, .int re, .int ca])) (ha24 : Agr [40] G G1) (hn : p - i < n) (hi : i ≤ p), GW L E 50 ad G1 0 0 24 [(3, .int (nI i)), (0, .ref (ad 40)), (1, .int (nI d)), (2, .int (nI p))] [] := by
    intro n
    induction n with
    | zero =>
      intro i G1 hf24_40 ha24 hn hi
      exact absurd hn (Nat.not_lt_zero _)
    | succ n ih =>
      intro i G1 hf24_40 ha24 hn hi
      refine G_iload_n C 3 dX9_termAt_24 rfl rfl ?_
      refine G_iload_n C 2 dX9_termAt_25 rfl rfl ?_
      refine G_icmp_ge C 40 dX9_termAt_26 (by decide) (fun c26 => ?_) (fun c26 => ?_)
      · have c26n : p ≤ i := (cI_le (a := p) (b := i) rfl rfl (by omega) (by omega)).mp c26
        refine G_aload_n C 0 dX9_termAt_40 rfl rfl ?_
        refine G_get C 40 (by decide) hf24_40 rfl inA9 11 (by decide) rfl kf_X9_63 rfl dX9_termAt_41 ?_
        exact G_zret C hr rfl dX9_termAt_44 ⟨_, _, _, _, _, _, _, _, _, _, _, _, (by rw [show i = p by omega]), hf24_40, ha24⟩
      · have c26n : ¬ p ≤ i := fun z => c26 ((cI_le (a := p) (b := i) rfl rfl (by omega) (by omega)).mpr z)
        refine G_aload_n C 0 dX9_termAt_29 rfl rfl ?_
        refine G_iload_n C 1 dX9_termAt_30 rfl rfl ?_
        refine G_callV C (As := [.int (nI d)]) (rest := []) (c_X9_nextTerm hf24_40 h2 h60 hp (show i < 100 by omega)) ca_X9_nextTerm km_X9_83 (by decide) hf24_40 rfl rfl rfl rfl (by decide) (Nat.le_of_ble_eq_true rfl) (by decide) dX9_termAt_31 (fun vv16 gg17 qq18 => ?_)
        obtain ⟨rfl, hh19, aa20⟩ := qq18
        have AA21 : Agr [40] G gg17 := ha24.tr aa20 (by simp) (by simp)
        refine G_iinc C (v := nI (i + 1)) (lo' := [(3, .int (nI (i + 1))), (0, .ref (ad 40)), (1, .int (nI d)), (2, .int (nI p))]) dX9_termAt_34 rfl (nI_add _ _) (by decide) rfl ?_
        refine G_goto C 24 dX9_termAt_37 (by decide) ?_
        exact ih (i + 1) gg17 hh19 AA21 (by omega) (by omega)
  exact key24 (p + 1) 0 gg11 hh13 AA15 (by omega) (Nat.zero_le _)

