/-- the character that the model sees at p -/
def hM (tm : Nat → Int32) (n p : Nat) : Int32 := if p < n then tm p else 0
abbrev rm_X9_here : Room := ({ frames := 0, cells := 0, slots := 0, locals := 0 } : Room)
set_option maxRecDepth 100000 in
set_option maxHeartbeats 4000000 in
theorem c_X9_here {L : GL} {ad : Nat → Nat} {G : Nat → va_E} {p : Nat} {n : Nat} {tm : Nat → Int32} {ik kn th m q te us bg fo le fi re ca : Int32} {fx fy nx ny ux uy px py : Int64}  (g40 : G 40 = .inr (9, [.ref (ad 41), .ref (ad 42), .ref (ad 43), .int ik, .ref (ad 44), .int kn, .ref (ad 45), .int (nI n), .int th, .int m, .int q, .int te, .long fx, .long fy, .long nx, .long ny, .long ux, .long uy, .int us, .long px, .long py, .ref (ad 46), .ref (ad 47), .int (nI p), .int bg, .int fo, .int le, .int fi, .int re, .int ca])) (g45 : G 45 = .inl (L.ac 0, 60, .inl tm)) (hn : n ≤ 60) (hpp : p ≤ 70) : GM L yX9_here cX9_here 1 ((some .int)) rm_X9_here 50 ad G [.ref (ad 40)] (fun vo G' => vo = some (.int (hM tm n p)) ∧ G = G') := by
  refine GM.of (own := RX9) (lo := [(0, .ref (ad 40))]) (by decide +kernel) rfl rfl (Nat.le_of_ble_eq_true rfl) (fun E C hr => ?_)
  refine G_aload_n C 0 dX9_here_0 rfl rfl ?_
  refine G_get C 40 (by decide) g40 rfl inA9 23 (by decide) rfl kf_X9_203 rfl dX9_here_1 ?_
  refine G_aload_n C 0 dX9_here_4 rfl rfl ?_
  refine G_get C 40 (by decide) g40 rfl inA9 7 (by decide) rfl kf_X9_200 rfl dX9_here_5 ?_
  refine G_icmp_ge C 23 dX9_here_8 (by decide) (fun c8 => ?_) (fun c8 => ?_)
  · have c8n : n ≤ p := (cI_le (a := n) (b := p) rfl rfl (by omega) (by omega)).mp c8
    refine G_iconst C (v := 0) dX9_here_23 (by decide) ?_
    exact G_zret C hr rfl dX9_here_24 ⟨(by rw [hM, if_neg (by omega)]), rfl⟩
  · have c8n : ¬ n ≤ p := fun z => c8 ((cI_le (a := n) (b := p) rfl rfl (by omega) (by omega)).mpr z)
    refine G_aload_n C 0 dX9_here_11 rfl rfl ?_
    refine G_get C 40 (by decide) g40 rfl inA9 6 (by decide) rfl kf_X9_22 rfl dX9_here_12 ?_
    refine G_aload_n C 0 dX9_here_15 rfl rfl ?_
    refine G_get C 40 (by decide) g40 rfl inA9 23 (by decide) rfl kf_X9_203 rfl dX9_here_16 ?_
    refine G_ialdN C 45 (by decide) p g45 rfl (by omega) (by omega) dX9_here_19 ?_
    refine G_goto C 24 dX9_here_20 (by decide) ?_
    exact G_zret C hr rfl dX9_here_24 ⟨(by rw [hM, if_pos (by omega)]), rfl⟩

abbrev rm_X9_takes0 : Room := ({ frames := 0, cells := 0, slots := 0, locals := 0 } : Room)
set_option maxRecDepth 100000 in
set_option maxHeartbeats 4000000 in
theorem c_X9_takes0 {L : GL} {ad : Nat → Nat} {G : Nat → va_E} {b : Int32} {p : Nat} {ik kn ln th m q te us bg le fi re ca : Int32} {fx fy nx ny ux uy px py : Int64}  (g40 : G 40 = .inr (9, [.ref (ad 41), .ref (ad 42), .ref (ad 43), .int ik, .ref (ad 44), .int kn, .ref (ad 45), .int ln, .int th, .int m, .int q, .int te, .long fx, .long fy, .long nx, .long ny, .long ux, .long uy, .int us, .long px, .long py, .ref (ad 46), .ref (ad 47), .int (nI p), .int bg, .int 0, .int le, .int fi, .int re, .int ca]))  : GM L yX9_takes cX9_takes 2 (none) rm_X9_takes0 50 ad G [.ref (ad 40), .int b] (fun vo G' => vo = none ∧ G' 40 = .inr (9, [.ref (ad 41), .ref (ad 42), .ref (ad 43), .int ik, .ref (ad 44), .int kn, .ref (ad 45), .int ln, .int th, .int m, .int q, .int te, .long fx, .long fy, .long nx, .long ny, .long ux, .long uy, .int us, .long px, .long py, .ref (ad 46), .ref (ad 47), .int (nI p), .int bg, .int 0, .int le, .int fi, .int re, .int ca]) ∧ Agr [40] G G') := by
  refine GM.of (own := RX9) (lo := [(0, .ref (ad 40)), (1, .int b)]) (by decide +kernel) rfl rfl (Nat.le_of_ble_eq_true rfl) (fun E C hr => ?_)
  refine G_aload_n C 0 dX9_takes_0 rfl rfl ?_
  refine G_aload_n C 0 dX9_takes_1 rfl rfl ?_
  refine G_get C 40 (by decide) g40 rfl inA9 25 (by decide) rfl kf_X9_206 rfl dX9_takes_2 ?_
  refine G_if_eq C 16 dX9_takes_5 (by decide) (fun _ => ?_) (fun h => absurd h (by decide))
  refine G_iconst C (v := 0) dX9_takes_16 (by decide) ?_
  refine G_putp C 40 (by decide) g40 rfl inA9 tyX9_ok nmX9 25 (by decide) rfl kf_X9_206 rfl rfl rfl (fs' := [.ref (ad 41), .ref (ad 42), .ref (ad 43), .int ik, .ref (ad 44), .int kn, .ref (ad 45), .int ln, .int th, .int m, .int q, .int te, .long fx, .long fy, .long nx, .long ny, .long ux, .long uy, .int us, .long px, .long py, .ref (ad 46), .ref (ad 47), .int (nI p), .int bg, .int 0, .int le, .int fi, .int re, .int ca]) (Nat.le_of_ble_eq_true rfl) rfl dX9_takes_17 (fun gg1 hh2 aa3 => ?_)
  have AA4 : Agr [40] G gg1 := aa3.wk (by simp)
  refine G_aload_n C 0 dX9_takes_20 rfl rfl ?_
  refine G_dup C dX9_takes_21 rfl ?_
  refine G_get C 40 (by decide) hh2 rfl inA9 23 (by decide) rfl kf_X9_203 rfl dX9_takes_22 ?_
  refine G_aload_n C 0 dX9_takes_25 rfl rfl ?_
  refine G_get C 40 (by decide) hh2 rfl inA9 25 (by decide) rfl kf_X9_206 rfl dX9_takes_26 ?_
  refine G_if_eq C 36 dX9_takes_29 (by decide) (fun _ => ?_) (fun h => absurd h (by decide))
  refine G_iconst C (v := 0) dX9_takes_36 (by decide) ?_
  refine G_iadd C dX9_takes_37 ?_
  refine GW.topr (cI_add (a := p) (b := 0) rfl rfl) ?_
  refine G_putp C 40 (by decide) hh2 rfl inA9 tyX9_ok nmX9 23 (by decide) rfl kf_X9_203 rfl rfl rfl (fs' := [.ref (ad 41), .ref (ad 42), .ref (ad 43), .int ik, .ref (ad 44), .int kn, .ref (ad 45), .int ln, .int th, .int m, .int q, .int te, .long fx, .long fy, .long nx, .long ny, .long ux, .long uy, .int us, .long px, .long py, .ref (ad 46), .ref (ad 47), .int (nI (p + 0)), .int bg, .int 0, .int le, .int fi, .int re, .int ca]) (Nat.le_of_ble_eq_true rfl) rfl dX9_takes_38 (fun gg5 hh6 aa7 => ?_)
  have AA8 : Agr [40] G gg5 := AA4.tr aa7 (by simp) (by simp)
  exact G_vret C hr dX9_takes_41 ⟨rfl, hh6, AA8⟩

abbrev rm_X9_takes10 : Room := ({ frames := 0, cells := 0, slots := 0, locals := 0 } : Room)
set_option maxRecDepth 100000 in
set_option maxHeartbeats 4000000 in
theorem c_X9_takes10 {L : GL} {ad : Nat → Nat} {G : Nat → va_E} {p : Nat} {ik kn ln th m q te us bg le fi re ca : Int32} {fx fy nx ny ux uy px py : Int64}  (g40 : G 40 = .inr (9, [.ref (ad 41), .ref (ad 42), .ref (ad 43), .int ik, .ref (ad 44), .int kn, .ref (ad 45), .int ln, .int th, .int m, .int q, .int te, .long fx, .long fy, .long nx, .long ny, .long ux, .long uy, .int us, .long px, .long py, .ref (ad 46), .ref (ad 47), .int (nI p), .int bg, .int 1, .int le, .int fi, .int re, .int ca]))  : GM L yX9_takes cX9_takes 2 (none) rm_X9_takes10 50 ad G [.ref (ad 40), .int 0] (fun vo G' => vo = none ∧ G' 40 = .inr (9, [.ref (ad 41), .ref (ad 42), .ref (ad 43), .int ik, .ref (ad 44), .int kn, .ref (ad 45), .int ln, .int th, .int m, .int q, .int te, .long fx, .long fy, .long nx, .long ny, .long ux, .long uy, .int us, .long px, .long py, .ref (ad 46), .ref (ad 47), .int (nI p), .int bg, .int 0, .int le, .int fi, .int re, .int ca]) ∧ Agr [40] G G') := by
  refine GM.of (own := RX9) (lo := [(0, .ref (ad 40)), (1, .int 0)]) (by decide +kernel) rfl rfl (Nat.le_of_ble_eq_true rfl) (fun E C hr => ?_)
  refine G_aload_n C 0 dX9_takes_0 rfl rfl ?_
  refine G_aload_n C 0 dX9_takes_1 rfl rfl ?_
  refine G_get C 40 (by decide) g40 rfl inA9 25 (by decide) rfl kf_X9_206 rfl dX9_takes_2 ?_
  refine G_if_eq C 16 dX9_takes_5 (by decide) (fun h => absurd h (by decide)) (fun _ => ?_)
  refine G_iload_n C 1 dX9_takes_8 rfl rfl ?_
  refine G_if_eq C 16 dX9_takes_9 (by decide) (fun _ => ?_) (fun h => absurd h (by decide))
  refine G_iconst C (v := 0) dX9_takes_16 (by decide) ?_
  refine G_putp C 40 (by decide) g40 rfl inA9 tyX9_ok nmX9 25 (by decide) rfl kf_X9_206 rfl rfl rfl (fs' := [.ref (ad 41), .ref (ad 42), .ref (ad 43), .int ik, .ref (ad 44), .int kn, .ref (ad 45), .int ln, .int th, .int m, .int q, .int te, .long fx, .long fy, .long nx, .long ny, .long ux, .long uy, .int us, .long px, .long py, .ref (ad 46), .ref (ad 47), .int (nI p), .int bg, .int 0, .int le, .int fi, .int re, .int ca]) (Nat.le_of_ble_eq_true rfl) rfl dX9_takes_17 (fun gg1 hh2 aa3 => ?_)
  have AA4 : Agr [40] G gg1 := aa3.wk (by simp)
  refine G_aload_n C 0 dX9_takes_20 rfl rfl ?_
  refine G_dup C dX9_takes_21 rfl ?_
  refine G_get C 40 (by decide) hh2 rfl inA9 23 (by decide) rfl kf_X9_203 rfl dX9_takes_22 ?_
  refine G_aload_n C 0 dX9_takes_25 rfl rfl ?_
  refine G_get C 40 (by decide) hh2 rfl inA9 25 (by decide) rfl kf_X9_206 rfl dX9_takes_26 ?_
  refine G_if_eq C 36 dX9_takes_29 (by decide) (fun _ => ?_) (fun h => absurd h (by decide))
  refine G_iconst C (v := 0) dX9_takes_36 (by decide) ?_
  refine G_iadd C dX9_takes_37 ?_
  refine GW.topr (cI_add (a := p) (b := 0) rfl rfl) ?_
  refine G_putp C 40 (by decide) hh2 rfl inA9 tyX9_ok nmX9 23 (by decide) rfl kf_X9_203 rfl rfl rfl (fs' := [.ref (ad 41), .ref (ad 42), .ref (ad 43), .int ik, .ref (ad 44), .int kn, .ref (ad 45), .int ln, .int th, .int m, .int q, .int te, .long fx, .long fy, .long nx, .long ny, .long ux, .long uy, .int us, .long px, .long py, .ref (ad 46), .ref (ad 47), .int (nI (p + 0)), .int bg, .int 0, .int le, .int fi, .int re, .int ca]) (Nat.le_of_ble_eq_true rfl) rfl dX9_takes_38 (fun gg5 hh6 aa7 => ?_)
  have AA8 : Agr [40] G gg5 := AA4.tr aa7 (by simp) (by simp)
  exact G_vret C hr dX9_takes_41 ⟨rfl, hh6, AA8⟩

abbrev rm_X9_takes11 : Room := ({ frames := 0, cells := 0, slots := 0, locals := 0 } : Room)
set_option maxRecDepth 100000 in
set_option maxHeartbeats 4000000 in
theorem c_X9_takes11 {L : GL} {ad : Nat → Nat} {G : Nat → va_E} {p : Nat} {ik kn ln th m q te us bg le fi re ca : Int32} {fx fy nx ny ux uy px py : Int64}  (g40 : G 40 = .inr (9, [.ref (ad 41), .ref (ad 42), .ref (ad 43), .int ik, .ref (ad 44), .int kn, .ref (ad 45), .int ln, .int th, .int m, .int q, .int te, .long fx, .long fy, .long nx, .long ny, .long ux, .long uy, .int us, .long px, .long py, .ref (ad 46), .ref (ad 47), .int (nI p), .int bg, .int 1, .int le, .int fi, .int re, .int ca]))  : GM L yX9_takes cX9_takes 2 (none) rm_X9_takes11 50 ad G [.ref (ad 40), .int 1] (fun vo G' => vo = none ∧ G' 40 = .inr (9, [.ref (ad 41), .ref (ad 42), .ref (ad 43), .int ik, .ref (ad 44), .int kn, .ref (ad 45), .int ln, .int th, .int m, .int q, .int te, .long fx, .long fy, .long nx, .long ny, .long ux, .long uy, .int us, .long px, .long py, .ref (ad 46), .ref (ad 47), .int (nI (p + 1)), .int bg, .int 1, .int le, .int fi, .int re, .int ca]) ∧ Agr [40] G G') := by
  refine GM.of (own := RX9) (lo := [(0, .ref (ad 40)), (1, .int 1)]) (by decide +kernel) rfl rfl (Nat.le_of_ble_eq_true rfl) (fun E C hr => ?_)
  refine G_aload_n C 0 dX9_takes_0 rfl rfl ?_
  refine G_aload_n C 0 dX9_takes_1 rfl rfl ?_
  refine G_get C 40 (by decide) g40 rfl inA9 25 (by decide) rfl kf_X9_206 rfl dX9_takes_2 ?_
  refine G_if_eq C 16 dX9_takes_5 (by decide) (fun h => absurd h (by decide)) (fun _ => ?_)
  refine G_iload_n C 1 dX9_takes_8 rfl rfl ?_
  refine G_if_eq C 16 dX9_takes_9 (by decide) (fun h => absurd h (by decide)) (fun _ => ?_)
  refine G_iconst C (v := 1) dX9_takes_12 (by decide) ?_
  refine G_goto C 17 dX9_takes_13 (by decide) ?_
  refine G_putp C 40 (by decide) g40 rfl inA9 tyX9_ok nmX9 25 (by decide) rfl kf_X9_206 rfl rfl rfl (fs' := [.ref (ad 41), .ref (ad 42), .ref (ad 43), .int ik, .ref (ad 44), .int kn, .ref (ad 45), .int ln, .int th, .int m, .int q, .int te, .long fx, .long fy, .long nx, .long ny, .long ux, .long uy, .int us, .long px, .long py, .ref (ad 46), .ref (ad 47), .int (nI p), .int bg, .int 1, .int le, .int fi, .int re, .int ca]) (Nat.le_of_ble_eq_true rfl) rfl dX9_takes_17 (fun gg1 hh2 aa3 => ?_)
  have AA4 : Agr [40] G gg1 := aa3.wk (by simp)
  refine G_aload_n C 0 dX9_takes_20 rfl rfl ?_
  refine G_dup C dX9_takes_21 rfl ?_
  refine G_get C 40 (by decide) hh2 rfl inA9 23 (by decide) rfl kf_X9_203 rfl dX9_takes_22 ?_
  refine G_aload_n C 0 dX9_takes_25 rfl rfl ?_
  refine G_get C 40 (by decide) hh2 rfl inA9 25 (by decide) rfl kf_X9_206 rfl dX9_takes_26 ?_
  refine G_if_eq C 36 dX9_takes_29 (by decide) (fun h => absurd h (by decide)) (fun _ => ?_)
  refine G_iconst C (v := 1) dX9_takes_32 (by decide) ?_
  refine G_goto C 37 dX9_takes_33 (by decide) ?_
  refine G_iadd C dX9_takes_37 ?_
  refine GW.topr (cI_add (a := p) (b := 1) rfl rfl) ?_
  refine G_putp C 40 (by decide) hh2 rfl inA9 tyX9_ok nmX9 23 (by decide) rfl kf_X9_203 rfl rfl rfl (fs' := [.ref (ad 41), .ref (ad 42), .ref (ad 43), .int ik, .ref (ad 44), .int kn, .ref (ad 45), .int ln, .int th, .int m, .int q, .int te, .long fx, .long fy, .long nx, .long ny, .long ux, .long uy, .int us, .long px, .long py, .ref (ad 46), .ref (ad 47), .int (nI (p + 1)), .int bg, .int 1, .int le, .int fi, .int re, .int ca]) (Nat.le_of_ble_eq_true rfl) rfl dX9_takes_38 (fun gg5 hh6 aa7 => ?_)
  have AA8 : Agr [40] G gg5 := AA4.tr aa7 (by simp) (by simp)
  exact G_vret C hr dX9_takes_41 ⟨rfl, hh6, AA8⟩

abbrev rm_X9_tn0 : Room := ({ frames := 0, cells := 0, slots := 0, locals := 0 } : Room)
set_option maxRecDepth 100000 in
set_option maxHeartbeats 4000000 in
theorem c_X9_tn0 {L : GL} {ad : Nat → Nat} {G : Nat → va_E} {ik kn ln th m q te us sp bg le fi re ca : Int32} {fx fy nx ny ux uy px py : Int64}  (g40 : G 40 = .inr (9, [.ref (ad 41), .ref (ad 42), .ref (ad 43), .int ik, .ref (ad 44), .int kn, .ref (ad 45), .int ln, .int th, .int m, .int q, .int te, .long fx, .long fy, .long nx, .long ny, .long ux, .long uy, .int us, .long px, .long py, .ref (ad 46), .ref (ad 47), .int sp, .int bg, .int 0, .int le, .int fi, .int re, .int ca]))  : GM L yX9_takesNumber cX9_takesNumber 3 ((some .int)) rm_X9_tn0 50 ad G [.ref (ad 40)] (fun vo G' => vo = some (.int 0) ∧ G' 40 = .inr (9, [.ref (ad 41), .ref (ad 42), .ref (ad 43), .int ik, .ref (ad 44), .int kn, .ref (ad 45), .int ln, .int th, .int m, .int q, .int te, .long fx, .long fy, .long nx, .long ny, .long ux, .long uy, .int us, .long px, .long py, .ref (ad 46), .ref (ad 47), .int sp, .int bg, .int 0, .int le, .int fi, .int re, .int ca]) ∧ Agr [40] G G') := by
  refine GM.of (own := RX9) (lo := [(0, .ref (ad 40))]) (by decide +kernel) rfl rfl (Nat.le_of_ble_eq_true rfl) (fun E C hr => ?_)
  refine G_iconst C (v := 0) dX9_takesNumber_0 (by decide) ?_
  refine G_istore_n C 1 (lo' := [(1, .int 0), (0, .ref (ad 40))]) dX9_takesNumber_1 rfl (by decide) rfl ?_
  refine G_iconst C (v := 0) dX9_takesNumber_2 (by decide) ?_
  refine G_istore_n C 2 (lo' := [(2, .int 0), (1, .int 0), (0, .ref (ad 40))]) dX9_takesNumber_3 rfl (by decide) rfl ?_
  refine G_aload_n C 0 dX9_takesNumber_4 rfl rfl ?_
  refine G_get C 40 (by decide) g40 rfl inA9 25 (by decide) rfl kf_X9_206 rfl dX9_takesNumber_5 ?_
  refine G_if_eq C 59 dX9_takesNumber_8 (by decide) (fun _ => ?_) (fun h => absurd h (by decide))
  refine G_aload_n C 0 dX9_takesNumber_59 rfl rfl ?_
  refine G_aload_n C 0 dX9_takesNumber_60 rfl rfl ?_
  refine G_get C 40 (by decide) g40 rfl inA9 25 (by decide) rfl kf_X9_206 rfl dX9_takesNumber_61 ?_
  refine G_if_eq C 75 dX9_takesNumber_64 (by decide) (fun _ => ?_) (fun h => absurd h (by decide))
  refine G_iconst C (v := 0) dX9_takesNumber_75 (by decide) ?_
  refine G_putp C 40 (by decide) g40 rfl inA9 tyX9_ok nmX9 25 (by decide) rfl kf_X9_206 rfl rfl rfl (fs' := [.ref (ad 41), .ref (ad 42), .ref (ad 43), .int ik, .ref (ad 44), .int kn, .ref (ad 45), .int ln, .int th, .int m, .int q, .int te, .long fx, .long fy, .long nx, .long ny, .long ux, .long uy, .int us, .long px, .long py, .ref (ad 46), .ref (ad 47), .int sp, .int bg, .int 0, .int le, .int fi, .int re, .int ca]) (Nat.le_of_ble_eq_true rfl) rfl dX9_takesNumber_76 (fun gg1 hh2 aa3 => ?_)
  have AA4 : Agr [40] G gg1 := aa3.wk (by simp)
  refine G_iload_n C 1 dX9_takesNumber_79 rfl rfl ?_
  exact G_zret C hr rfl dX9_takesNumber_80 ⟨rfl, hh2, AA4⟩

abbrev rm_X9_tn10 : Room := ({ frames := 1, cells := 0, slots := 0, locals := 22 } : Room)
set_option maxRecDepth 100000 in
set_option maxHeartbeats 4000000 in
theorem c_X9_tn10 {L : GL} {ad : Nat → Nat} {G : Nat → va_E} {p : Nat} {n : Nat} {tm : Nat → Int32} {ik kn th m q te us bg le fi re ca : Int32} {fx fy nx ny ux uy px py : Int64}  (g40 : G 40 = .inr (9, [.ref (ad 41), .ref (ad 42), .ref (ad 43), .int ik, .ref (ad 44), .int kn, .ref (ad 45), .int (nI n), .int th, .int m, .int q, .int te, .long fx, .long fy, .long nx, .long ny, .long ux, .long uy, .int us, .long px, .long py, .ref (ad 46), .ref (ad 47), .int (nI p), .int bg, .int 1, .int le, .int fi, .int re, .int ca])) (g45 : G 45 = .inl (L.ac 0, 60, .inl tm)) (hn : n ≤ 60) (hpp : p ≤ 60) (hd0 : dgF (hM tm n p) = 0) : GM L yX9_takesNumber cX9_takesNumber 3 ((some .int)) rm_X9_tn10 50 ad G [.ref (ad 40)] (fun vo G' => vo = some (.int 0) ∧ G' 40 = .inr (9, [.ref (ad 41), .ref (ad 42), .ref (ad 43), .int ik, .ref (ad 44), .int kn, .ref (ad 45), .int (nI n), .int th, .int m, .int q, .int te, .long fx, .long fy, .long nx, .long ny, .long ux, .long uy, .int us, .long px, .long py, .ref (ad 46), .ref (ad 47), .int (nI p), .int bg, .int 0, .int le, .int fi, .int re, .int ca]) ∧ Agr [40] G G') := by
  refine GM.of (own := RX9) (lo := [(0, .ref (ad 40))]) (by decide +kernel) rfl rfl (Nat.le_of_ble_eq_true rfl) (fun E C hr => ?_)
  refine G_iconst C (v := 0) dX9_takesNumber_0 (by decide) ?_
  refine G_istore_n C 1 (lo' := [(1, .int 0), (0, .ref (ad 40))]) dX9_takesNumber_1 rfl (by decide) rfl ?_
  refine G_iconst C (v := 0) dX9_takesNumber_2 (by decide) ?_
  refine G_istore_n C 2 (lo' := [(2, .int 0), (1, .int 0), (0, .ref (ad 40))]) dX9_takesNumber_3 rfl (by decide) rfl ?_
  refine G_aload_n C 0 dX9_takesNumber_4 rfl rfl ?_
  refine G_get C 40 (by decide) g40 rfl inA9 25 (by decide) rfl kf_X9_206 rfl dX9_takesNumber_5 ?_
  refine G_if_eq C 59 dX9_takesNumber_8 (by decide) (fun h => absurd h (by decide)) (fun _ => ?_)
  refine G_iload_n C 2 dX9_takesNumber_11 rfl rfl ?_
  refine G_iconst C (v := 2) dX9_takesNumber_12 (by decide) ?_
  refine G_icmp_ge C 59 dX9_takesNumber_13 (by decide) (fun h => absurd h (by decide)) (fun _ => ?_)
  refine G_aload_n C 0 dX9_takesNumber_16 rfl rfl ?_
  refine G_callV C (As := []) (rest := []) (c_X9_here g40 g45 hn (show p ≤ 70 by omega)) ca_X9_here km_X9_209 (by decide) g40 rfl rfl rfl rfl (by decide) (Nat.le_of_ble_eq_true rfl) (by decide) dX9_takesNumber_17 (fun vv1 gg2 qq3 => ?_)
  obtain ⟨rfl, rfl⟩ := qq3
  refine G_bipush C (v := 48) dX9_takesNumber_20 (by decide) ?_
  refine G_bipush C (v := 57) dX9_takesNumber_22 (by decide) ?_
  refine G_callS C (As := [.int (hM tm n p), .int 48, .int 57]) (rest := []) c_X9_in ca_X9_in km_X9_50 rfl rfl (by decide) (Nat.le_of_ble_eq_true rfl) (by decide) dX9_takesNumber_24 (fun vv4 gg5 qq6 => ?_)
  obtain ⟨rfl, rfl⟩ := qq6
  refine G_if_eq C 59 dX9_takesNumber_27 (by decide) (fun c27 => ?_) (fun c27 => False.elim (c27 hd0))
  refine G_aload_n C 0 dX9_takesNumber_59 rfl rfl ?_
  refine G_aload_n C 0 dX9_takesNumber_60 rfl rfl ?_
  refine G_get C 40 (by decide) g40 rfl inA9 25 (by decide) rfl kf_X9_206 rfl dX9_takesNumber_61 ?_
  refine G_if_eq C 75 dX9_takesNumber_64 (by decide) (fun h => absurd h (by decide)) (fun _ => ?_)
  refine G_iload_n C 2 dX9_takesNumber_67 rfl rfl ?_
  refine G_if_le C 75 dX9_takesNumber_68 (by decide) (fun _ => ?_) (fun h => absurd h (by decide))
  refine G_iconst C (v := 0) dX9_takesNumber_75 (by decide) ?_
  refine G_putp C 40 (by decide) g40 rfl inA9 tyX9_ok nmX9 25 (by decide) rfl kf_X9_206 rfl rfl rfl (fs' := [.ref (ad 41), .ref (ad 42), .ref (ad 43), .int ik, .ref (ad 44), .int kn, .ref (ad 45), .int (nI n), .int th, .int m, .int q, .int te, .long fx, .long fy, .long nx, .long ny, .long ux, .long uy, .int us, .long px, .long py, .ref (ad 46), .ref (ad 47), .int (nI p), .int bg, .int 0, .int le, .int fi, .int re, .int ca]) (Nat.le_of_ble_eq_true rfl) rfl dX9_takesNumber_76 (fun gg7 hh8 aa9 => ?_)
  have AA10 : Agr [40] G gg7 := aa9.wk (by simp)
  refine G_iload_n C 1 dX9_takesNumber_79 rfl rfl ?_
  exact G_zret C hr rfl dX9_takesNumber_80 ⟨rfl, hh8, AA10⟩

abbrev rm_X9_tn11 : Room := ({ frames := 1, cells := 0, slots := 0, locals := 22 } : Room)
set_option maxRecDepth 100000 in
set_option maxHeartbeats 4000000 in
theorem c_X9_tn11 {L : GL} {ad : Nat → Nat} {G : Nat → va_E} {p : Nat} {n : Nat} {tm : Nat → Int32} {ik kn th m q te us bg le fi re ca : Int32} {fx fy nx ny ux uy px py : Int64}  (g40 : G 40 = .inr (9, [.ref (ad 41), .ref (ad 42), .ref (ad 43), .int ik, .ref (ad 44), .int kn, .ref (ad 45), .int (nI n), .int th, .int m, .int q, .int te, .long fx, .long fy, .long nx, .long ny, .long ux, .long uy, .int us, .long px, .long py, .ref (ad 46), .ref (ad 47), .int (nI p), .int bg, .int 1, .int le, .int fi, .int re, .int ca])) (g45 : G 45 = .inl (L.ac 0, 60, .inl tm)) (hn : n ≤ 60) (hpp : p ≤ 60) (hd0 : ¬ dgF (hM tm n p) = 0) (hd1 : dgF (hM tm n (p + 1)) = 0) : GM L yX9_takesNumber cX9_takesNumber 3 ((some .int)) rm_X9_tn11 50 ad G [.ref (ad 40)] (fun vo G' => vo = some (.int (0 + hM tm n p - 48)) ∧ G' 40 = .inr (9, [.ref (ad 41), .ref (ad 42), .ref (ad 43), .int ik, .ref (ad 44), .int kn, .ref (ad 45), .int (nI n), .int th, .int m, .int q, .int te, .long fx, .long fy, .long nx, .long ny, .long ux, .long uy, .int us, .long px, .long py, .ref (ad 46), .ref (ad 47), .int (nI (p + 1)), .int bg, .int 1, .int le, .int fi, .int re, .int ca]) ∧ Agr [40] G G') := by
  refine GM.of (own := RX9) (lo := [(0, .ref (ad 40))]) (by decide +kernel) rfl rfl (Nat.le_of_ble_eq_true rfl) (fun E C hr => ?_)
  refine G_iconst C (v := 0) dX9_takesNumber_0 (by decide) ?_
  refine G_istore_n C 1 (lo' := [(1, .int 0), (0, .ref (ad 40))]) dX9_takesNumber_1 rfl (by decide) rfl ?_
  refine G_iconst C (v := 0) dX9_takesNumber_2 (by decide) ?_
  refine G_istore_n C 2 (lo' := [(2, .int 0), (1, .int 0), (0, .ref (ad 40))]) dX9_takesNumber_3 rfl (by decide) rfl ?_
  refine G_aload_n C 0 dX9_takesNumber_4 rfl rfl ?_
  refine G_get C 40 (by decide) g40 rfl inA9 25 (by decide) rfl kf_X9_206 rfl dX9_takesNumber_5 ?_
  refine G_if_eq C 59 dX9_takesNumber_8 (by decide) (fun h => absurd h (by decide)) (fun _ => ?_)
  refine G_iload_n C 2 dX9_takesNumber_11 rfl rfl ?_
  refine G_iconst C (v := 2) dX9_takesNumber_12 (by decide) ?_
  refine G_icmp_ge C 59 dX9_takesNumber_13 (by decide) (fun h => absurd h (by decide)) (fun _ => ?_)
  refine G_aload_n C 0 dX9_takesNumber_16 rfl rfl ?_
  refine G_callV C (As := []) (rest := []) (c_X9_here g40 g45 hn (show p ≤ 70 by omega)) ca_X9_here km_X9_209 (by decide) g40 rfl rfl rfl rfl (by decide) (Nat.le_of_ble_eq_true rfl) (by decide) dX9_takesNumber_17 (fun vv1 gg2 qq3 => ?_)
  obtain ⟨rfl, rfl⟩ := qq3
  refine G_bipush C (v := 48) dX9_takesNumber_20 (by decide) ?_
  refine G_bipush C (v := 57) dX9_takesNumber_22 (by decide) ?_
  refine G_callS C (As := [.int (hM tm n p), .int 48, .int 57]) (rest := []) c_X9_in ca_X9_in km_X9_50 rfl rfl (by decide) (Nat.le_of_ble_eq_true rfl) (by decide) dX9_takesNumber_24 (fun vv4 gg5 qq6 => ?_)
  obtain ⟨rfl, rfl⟩ := qq6
  refine G_if_eq C 59 dX9_takesNumber_27 (by decide) (fun c27 => False.elim (hd0 c27)) (fun c27 => ?_)
  refine G_bipush C (v := 10) dX9_takesNumber_30 (by decide) ?_
  refine G_iload_n C 1 dX9_takesNumber_32 rfl rfl ?_
  refine G_imul C dX9_takesNumber_33 ?_
  refine GW.topr (y := 0) (by decide) ?_
  refine G_aload_n C 0 dX9_takesNumber_34 rfl rfl ?_
  refine G_callV C (As := []) (rest := [.int 0]) (c_X9_here g40 g45 hn (show p ≤ 70 by omega)) ca_X9_here km_X9_209 (by decide) g40 rfl rfl rfl rfl (by decide) (Nat.le_of_ble_eq_true rfl) (by decide) dX9_takesNumber_35 (fun vv7 gg8 qq9 => ?_)
  obtain ⟨rfl, rfl⟩ := qq9
  refine G_iadd C dX9_takesNumber_38 ?_
  refine G_bipush C (v := 48) dX9_takesNumber_39 (by decide) ?_
  refine G_isub C dX9_takesNumber_41 ?_
  refine G_istore_n C 1 (lo' := [(1, .int ((0 + (hM tm n p)) - 48)), (2, .int 0), (0, .ref (ad 40))]) dX9_takesNumber_42 rfl (by decide) rfl ?_
  refine G_iinc C (v := 1) (lo' := [(2, .int 1), (1, .int ((0 + (hM tm n p)) - 48)), (0, .ref (ad 40))]) dX9_takesNumber_43 rfl (by decide) (by decide) rfl ?_
  refine G_aload_n C 0 dX9_takesNumber_46 rfl rfl ?_
  refine G_dup C dX9_takesNumber_47 rfl ?_
  refine G_get C 40 (by decide) g40 rfl inA9 23 (by decide) rfl kf_X9_203 rfl dX9_takesNumber_48 ?_
  refine G_iconst C (v := 1) dX9_takesNumber_51 (by decide) ?_
  refine G_iadd C dX9_takesNumber_52 ?_
  refine GW.topr (cI_add (a := p) (b := 1) rfl rfl) ?_
  refine G_putp C 40 (by decide) g40 rfl inA9 tyX9_ok nmX9 23 (by decide) rfl kf_X9_203 rfl rfl rfl (fs' := [.ref (ad 41), .ref (ad 42), .ref (ad 43), .int ik, .ref (ad 44), .int kn, .ref (ad 45), .int (nI n), .int th, .int m, .int q, .int te, .long fx, .long fy, .long nx, .long ny, .long ux, .long uy, .int us, .long px, .long py, .ref (ad 46), .ref (ad 47), .int (nI (p + 1)), .int bg, .int 1, .int le, .int fi, .int re, .int ca]) (Nat.le_of_ble_eq_true rfl) rfl dX9_takesNumber_53 (fun gg10 hh11 aa12 => ?_)
  have AA13 : Agr [40] G gg10 := aa12.wk (by simp)
  refine G_goto C 4 dX9_takesNumber_56 (by decide) ?_
  refine G_aload_n C 0 dX9_takesNumber_4 rfl rfl ?_
  refine G_get C 40 (by decide) hh11 rfl inA9 25 (by decide) rfl kf_X9_206 rfl dX9_takesNumber_5 ?_
  refine G_if_eq C 59 dX9_takesNumber_8 (by decide) (fun h => absurd h (by decide)) (fun _ => ?_)
  refine G_iload_n C 2 dX9_takesNumber_11 rfl rfl ?_
  refine G_iconst C (v := 2) dX9_takesNumber_12 (by decide) ?_
  refine G_icmp_ge C 59 dX9_takesNumber_13 (by decide) (fun h => absurd h (by decide)) (fun _ => ?_)
  refine G_aload_n C 0 dX9_takesNumber_16 rfl rfl ?_
  refine G_callV C (As := []) (rest := []) (c_X9_here hh11 ((aa12 45 (by decide)).trans g45) hn (show (p + 1) ≤ 70 by omega)) ca_X9_here km_X9_209 (by decide) hh11 rfl rfl rfl rfl (by decide) (Nat.le_of_ble_eq_true rfl) (by decide) dX9_takesNumber_17 (fun vv16 gg17 qq18 => ?_)
  obtain ⟨rfl, rfl⟩ := qq18
  refine G_bipush C (v := 48) dX9_takesNumber_20 (by decide) ?_
  refine G_bipush C (v := 57) dX9_takesNumber_22 (by decide) ?_
  refine G_callS C (As := [.int (hM tm n (p + 1)), .int 48, .int 57]) (rest := []) c_X9_in ca_X9_in km_X9_50 rfl rfl (by decide) (Nat.le_of_ble_eq_true rfl) (by decide) dX9_takesNumber_24 (fun vv19 gg20 qq21 => ?_)
  obtain ⟨rfl, rfl⟩ := qq21
  refine G_if_eq C 59 dX9_takesNumber_27 (by decide) (fun c27_22 => ?_) (fun c27_22 => False.elim (c27_22 hd1))
  refine G_aload_n C 0 dX9_takesNumber_59 rfl rfl ?_
  refine G_aload_n C 0 dX9_takesNumber_60 rfl rfl ?_
  refine G_get C 40 (by decide) hh11 rfl inA9 25 (by decide) rfl kf_X9_206 rfl dX9_takesNumber_61 ?_
  refine G_if_eq C 75 dX9_takesNumber_64 (by decide) (fun h => absurd h (by decide)) (fun _ => ?_)
  refine G_iload_n C 2 dX9_takesNumber_67 rfl rfl ?_
  refine G_if_le C 75 dX9_takesNumber_68 (by decide) (fun h => absurd h (by decide)) (fun _ => ?_)
  refine G_iconst C (v := 1) dX9_takesNumber_71 (by decide) ?_
  refine G_goto C 76 dX9_takesNumber_72 (by decide) ?_
  refine G_putp C 40 (by decide) hh11 rfl inA9 tyX9_ok nmX9 25 (by decide) rfl kf_X9_206 rfl rfl rfl (fs' := [.ref (ad 41), .ref (ad 42), .ref (ad 43), .int ik, .ref (ad 44), .int kn, .ref (ad 45), .int (nI n), .int th, .int m, .int q, .int te, .long fx, .long fy, .long nx, .long ny, .long ux, .long uy, .int us, .long px, .long py, .ref (ad 46), .ref (ad 47), .int (nI (p + 1)), .int bg, .int 1, .int le, .int fi, .int re, .int ca]) (Nat.le_of_ble_eq_true rfl) rfl dX9_takesNumber_76 (fun gg23 hh24 aa25 => ?_)
  have AA26 : Agr [40] G gg23 := AA13.tr aa25 (by simp) (by simp)
  refine G_iload_n C 1 dX9_takesNumber_79 rfl rfl ?_
  exact G_zret C hr rfl dX9_takesNumber_80 ⟨rfl, hh24, AA26⟩

abbrev rm_X9_tn12 : Room := ({ frames := 1, cells := 0, slots := 0, locals := 22 } : Room)
set_option maxRecDepth 100000 in
set_option maxHeartbeats 4000000 in
theorem c_X9_tn12 {L : GL} {ad : Nat → Nat} {G : Nat → va_E} {p : Nat} {n : Nat} {tm : Nat → Int32} {ik kn th m q te us bg le fi re ca : Int32} {fx fy nx ny ux uy px py : Int64}  (g40 : G 40 = .inr (9, [.ref (ad 41), .ref (ad 42), .ref (ad 43), .int ik, .ref (ad 44), .int kn, .ref (ad 45), .int (nI n), .int th, .int m, .int q, .int te, .long fx, .long fy, .long nx, .long ny, .long ux, .long uy, .int us, .long px, .long py, .ref (ad 46), .ref (ad 47), .int (nI p), .int bg, .int 1, .int le, .int fi, .int re, .int ca])) (g45 : G 45 = .inl (L.ac 0, 60, .inl tm)) (hn : n ≤ 60) (hpp : p ≤ 60) (hd0 : ¬ dgF (hM tm n p) = 0) (hd1 : ¬ dgF (hM tm n (p + 1)) = 0) : GM L yX9_takesNumber cX9_takesNumber 3 ((some .int)) rm_X9_tn12 50 ad G [.ref (ad 40)] (fun vo G' => vo = some (.int (10 * (0 + hM tm n p - 48) + hM tm n (p + 1) - 48)) ∧ G' 40 = .inr (9, [.ref (ad 41), .ref (ad 42), .ref (ad 43), .int ik, .ref (ad 44), .int kn, .ref (ad 45), .int (nI n), .int th, .int m, .int q, .int te, .long fx, .long fy, .long nx, .long ny, .long ux, .long uy, .int us, .long px, .long py, .ref (ad 46), .ref (ad 47), .int (nI (p + 1 + 1)), .int bg, .int 1, .int le, .int fi, .int re, .int ca]) ∧ Agr [40] G G') := by
  refine GM.of (own := RX9) (lo := [(0, .ref (ad 40))]) (by decide +kernel) rfl rfl (Nat.le_of_ble_eq_true rfl) (fun E C hr => ?_)
  refine G_iconst C (v := 0) dX9_takesNumber_0 (by decide) ?_
  refine G_istore_n C 1 (lo' := [(1, .int 0), (0, .ref (ad 40))]) dX9_takesNumber_1 rfl (by decide) rfl ?_
  refine G_iconst C (v := 0) dX9_takesNumber_2 (by decide) ?_
  refine G_istore_n C 2 (lo' := [(2, .int 0), (1, .int 0), (0, .ref (ad 40))]) dX9_takesNumber_3 rfl (by decide) rfl ?_
  refine G_aload_n C 0 dX9_takesNumber_4 rfl rfl ?_
  refine G_get C 40 (by decide) g40 rfl inA9 25 (by decide) rfl kf_X9_206 rfl dX9_takesNumber_5 ?_
  refine G_if_eq C 59 dX9_takesNumber_8 (by decide) (fun h => absurd h (by decide)) (fun _ => ?_)
  refine G_iload_n C 2 dX9_takesNumber_11 rfl rfl ?_
  refine G_iconst C (v := 2) dX9_takesNumber_12 (by decide) ?_
  refine G_icmp_ge C 59 dX9_takesNumber_13 (by decide) (fun h => absurd h (by decide)) (fun _ => ?_)
  refine G_aload_n C 0 dX9_takesNumber_16 rfl rfl ?_
  refine G_callV C (As := []) (rest := []) (c_X9_here g40 g45 hn (show p ≤ 70 by omega)) ca_X9_here km_X9_209 (by decide) g40 rfl rfl rfl rfl (by decide) (Nat.le_of_ble_eq_true rfl) (by decide) dX9_takesNumber_17 (fun vv1 gg2 qq3 => ?_)
  obtain ⟨rfl, rfl⟩ := qq3
  refine G_bipush C (v := 48) dX9_takesNumber_20 (by decide) ?_
  refine G_bipush C (v := 57) dX9_takesNumber_22 (by decide) ?_
  refine G_callS C (As := [.int (hM tm n p), .int 48, .int 57]) (rest := []) c_X9_in ca_X9_in km_X9_50 rfl rfl (by decide) (Nat.le_of_ble_eq_true rfl) (by decide) dX9_takesNumber_24 (fun vv4 gg5 qq6 => ?_)
  obtain ⟨rfl, rfl⟩ := qq6
  refine G_if_eq C 59 dX9_takesNumber_27 (by decide) (fun c27 => False.elim (hd0 c27)) (fun c27 => ?_)
  refine G_bipush C (v := 10) dX9_takesNumber_30 (by decide) ?_
  refine G_iload_n C 1 dX9_takesNumber_32 rfl rfl ?_
  refine G_imul C dX9_takesNumber_33 ?_
  refine GW.topr (y := 0) (by decide) ?_
  refine G_aload_n C 0 dX9_takesNumber_34 rfl rfl ?_
  refine G_callV C (As := []) (rest := [.int 0]) (c_X9_here g40 g45 hn (show p ≤ 70 by omega)) ca_X9_here km_X9_209 (by decide) g40 rfl rfl rfl rfl (by decide) (Nat.le_of_ble_eq_true rfl) (by decide) dX9_takesNumber_35 (fun vv7 gg8 qq9 => ?_)
  obtain ⟨rfl, rfl⟩ := qq9
  refine G_iadd C dX9_takesNumber_38 ?_
  refine G_bipush C (v := 48) dX9_takesNumber_39 (by decide) ?_
  refine G_isub C dX9_takesNumber_41 ?_
  refine G_istore_n C 1 (lo' := [(1, .int ((0 + (hM tm n p)) - 48)), (2, .int 0), (0, .ref (ad 40))]) dX9_takesNumber_42 rfl (by decide) rfl ?_
  refine G_iinc C (v := 1) (lo' := [(2, .int 1), (1, .int ((0 + (hM tm n p)) - 48)), (0, .ref (ad 40))]) dX9_takesNumber_43 rfl (by decide) (by decide) rfl ?_
  refine G_aload_n C 0 dX9_takesNumber_46 rfl rfl ?_
  refine G_dup C dX9_takesNumber_47 rfl ?_
  refine G_get C 40 (by decide) g40 rfl inA9 23 (by decide) rfl kf_X9_203 rfl dX9_takesNumber_48 ?_
  refine G_iconst C (v := 1) dX9_takesNumber_51 (by decide) ?_
  refine G_iadd C dX9_takesNumber_52 ?_
  refine GW.topr (cI_add (a := p) (b := 1) rfl rfl) ?_
  refine G_putp C 40 (by decide) g40 rfl inA9 tyX9_ok nmX9 23 (by decide) rfl kf_X9_203 rfl rfl rfl (fs' := [.ref (ad 41), .ref (ad 42), .ref (ad 43), .int ik, .ref (ad 44), .int kn, .ref (ad 45), .int (nI n), .int th, .int m, .int q, .int te, .long fx, .long fy, .long nx, .long ny, .long ux, .long uy, .int us, .long px, .long py, .ref (ad 46), .ref (ad 47), .int (nI (p + 1)), .int bg, .int 1, .int le, .int fi, .int re, .int ca]) (Nat.le_of_ble_eq_true rfl) rfl dX9_takesNumber_53 (fun gg10 hh11 aa12 => ?_)
  have AA13 : Agr [40] G gg10 := aa12.wk (by simp)
  refine G_goto C 4 dX9_takesNumber_56 (by decide) ?_
  refine G_aload_n C 0 dX9_takesNumber_4 rfl rfl ?_
  refine G_get C 40 (by decide) hh11 rfl inA9 25 (by decide) rfl kf_X9_206 rfl dX9_takesNumber_5 ?_
  refine G_if_eq C 59 dX9_takesNumber_8 (by decide) (fun h => absurd h (by decide)) (fun _ => ?_)
  refine G_iload_n C 2 dX9_takesNumber_11 rfl rfl ?_
  refine G_iconst C (v := 2) dX9_takesNumber_12 (by decide) ?_
  refine G_icmp_ge C 59 dX9_takesNumber_13 (by decide) (fun h => absurd h (by decide)) (fun _ => ?_)
  refine G_aload_n C 0 dX9_takesNumber_16 rfl rfl ?_
  refine G_callV C (As := []) (rest := []) (c_X9_here hh11 ((aa12 45 (by decide)).trans g45) hn (show (p + 1) ≤ 70 by omega)) ca_X9_here km_X9_209 (by decide) hh11 rfl rfl rfl rfl (by decide) (Nat.le_of_ble_eq_true rfl) (by decide) dX9_takesNumber_17 (fun vv16 gg17 qq18 => ?_)
  obtain ⟨rfl, rfl⟩ := qq18
  refine G_bipush C (v := 48) dX9_takesNumber_20 (by decide) ?_
  refine G_bipush C (v := 57) dX9_takesNumber_22 (by decide) ?_
  refine G_callS C (As := [.int (hM tm n (p + 1)), .int 48, .int 57]) (rest := []) c_X9_in ca_X9_in km_X9_50 rfl rfl (by decide) (Nat.le_of_ble_eq_true rfl) (by decide) dX9_takesNumber_24 (fun vv19 gg20 qq21 => ?_)
  obtain ⟨rfl, rfl⟩ := qq21
  refine G_if_eq C 59 dX9_takesNumber_27 (by decide) (fun c27_22 => False.elim (hd1 c27_22)) (fun c27_22 => ?_)
  refine G_bipush C (v := 10) dX9_takesNumber_30 (by decide) ?_
  refine G_iload_n C 1 dX9_takesNumber_32 rfl rfl ?_
  refine G_imul C dX9_takesNumber_33 ?_
  refine G_aload_n C 0 dX9_takesNumber_34 rfl rfl ?_
  refine G_callV C (As := []) (rest := [.int (10 * ((0 + (hM tm n p)) - 48))]) (c_X9_here hh11 ((aa12 45 (by decide)).trans g45) hn (show (p + 1) ≤ 70 by omega)) ca_X9_here km_X9_209 (by decide) hh11 rfl rfl rfl rfl (by decide) (Nat.le_of_ble_eq_true rfl) (by decide) dX9_takesNumber_35 (fun vv23 gg24 qq25 => ?_)
  obtain ⟨rfl, rfl⟩ := qq25
  refine G_iadd C dX9_takesNumber_38 ?_
  refine G_bipush C (v := 48) dX9_takesNumber_39 (by decide) ?_
  refine G_isub C dX9_takesNumber_41 ?_
  refine G_istore_n C 1 (lo' := [(1, .int (((10 * ((0 + (hM tm n p)) - 48)) + (hM tm n (p + 1))) - 48)), (2, .int 1), (0, .ref (ad 40))]) dX9_takesNumber_42 rfl (by decide) rfl ?_
  refine G_iinc C (v := 2) (lo' := [(2, .int 2), (1, .int (((10 * ((0 + (hM tm n p)) - 48)) + (hM tm n (p + 1))) - 48)), (0, .ref (ad 40))]) dX9_takesNumber_43 rfl (by decide) (by decide) rfl ?_
  refine G_aload_n C 0 dX9_takesNumber_46 rfl rfl ?_
  refine G_dup C dX9_takesNumber_47 rfl ?_
  refine G_get C 40 (by decide) hh11 rfl inA9 23 (by decide) rfl kf_X9_203 rfl dX9_takesNumber_48 ?_
  refine G_iconst C (v := 1) dX9_takesNumber_51 (by decide) ?_
  refine G_iadd C dX9_takesNumber_52 ?_
  refine GW.topr (cI_add (a := (p + 1)) (b := 1) rfl rfl) ?_
  refine G_putp C 40 (by decide) hh11 rfl inA9 tyX9_ok nmX9 23 (by decide) rfl kf_X9_203 rfl rfl rfl (fs' := [.ref (ad 41), .ref (ad 42), .ref (ad 43), .int ik, .ref (ad 44), .int kn, .ref (ad 45), .int (nI n), .int th, .int m, .int q, .int te, .long fx, .long fy, .long nx, .long ny, .long ux, .long uy, .int us, .long px, .long py, .ref (ad 46), .ref (ad 47), .int (nI ((p + 1) + 1)), .int bg, .int 1, .int le, .int fi, .int re, .int ca]) (Nat.le_of_ble_eq_true rfl) rfl dX9_takesNumber_53 (fun gg26 hh27 aa28 => ?_)
  have AA29 : Agr [40] G gg26 := AA13.tr aa28 (by simp) (by simp)
  refine G_goto C 4 dX9_takesNumber_56 (by decide) ?_
  refine G_aload_n C 0 dX9_takesNumber_4 rfl rfl ?_
  refine G_get C 40 (by decide) hh27 rfl inA9 25 (by decide) rfl kf_X9_206 rfl dX9_takesNumber_5 ?_
  refine G_if_eq C 59 dX9_takesNumber_8 (by decide) (fun h => absurd h (by decide)) (fun _ => ?_)
  refine G_iload_n C 2 dX9_takesNumber_11 rfl rfl ?_
  refine G_iconst C (v := 2) dX9_takesNumber_12 (by decide) ?_
  refine G_icmp_ge C 59 dX9_takesNumber_13 (by decide) (fun _ => ?_) (fun h => absurd h (by decide))
  refine G_aload_n C 0 dX9_takesNumber_59 rfl rfl ?_
  refine G_aload_n C 0 dX9_takesNumber_60 rfl rfl ?_
  refine G_get C 40 (by decide) hh27 rfl inA9 25 (by decide) rfl kf_X9_206 rfl dX9_takesNumber_61 ?_
  refine G_if_eq C 75 dX9_takesNumber_64 (by decide) (fun h => absurd h (by decide)) (fun _ => ?_)
  refine G_iload_n C 2 dX9_takesNumber_67 rfl rfl ?_
  refine G_if_le C 75 dX9_takesNumber_68 (by decide) (fun h => absurd h (by decide)) (fun _ => ?_)
  refine G_iconst C (v := 1) dX9_takesNumber_71 (by decide) ?_
  refine G_goto C 76 dX9_takesNumber_72 (by decide) ?_
  refine G_putp C 40 (by decide) hh27 rfl inA9 tyX9_ok nmX9 25 (by decide) rfl kf_X9_206 rfl rfl rfl (fs' := [.ref (ad 41), .ref (ad 42), .ref (ad 43), .int ik, .ref (ad 44), .int kn, .ref (ad 45), .int (nI n), .int th, .int m, .int q, .int te, .long fx, .long fy, .long nx, .long ny, .long ux, .long uy, .int us, .long px, .long py, .ref (ad 46), .ref (ad 47), .int (nI ((p + 1) + 1)), .int bg, .int 1, .int le, .int fi, .int re, .int ca]) (Nat.le_of_ble_eq_true rfl) rfl dX9_takesNumber_76 (fun gg32 hh33 aa34 => ?_)
  have AA35 : Agr [40] G gg32 := AA29.tr aa34 (by simp) (by simp)
  refine G_iload_n C 1 dX9_takesNumber_79 rfl rfl ?_
  exact G_zret C hr rfl dX9_takesNumber_80 ⟨rfl, hh33, AA35⟩

abbrev rm_X9_to0 : Room := ({ frames := 2, cells := 0, slots := 0, locals := 44 } : Room)
set_option maxRecDepth 100000 in
set_option maxHeartbeats 4000000 in
theorem c_X9_to0 {L : GL} {ad : Nat → Nat} {G : Nat → va_E} {p : Nat} {n : Nat} {tm : Nat → Int32} {ik kn th m q te us bg fo le fi re ca : Int32} {fx fy nx ny ux uy px py : Int64}  (g40 : G 40 = .inr (9, [.ref (ad 41), .ref (ad 42), .ref (ad 43), .int ik, .ref (ad 44), .int kn, .ref (ad 45), .int (nI n), .int th, .int m, .int q, .int te, .long fx, .long fy, .long nx, .long ny, .long ux, .long uy, .int us, .long px, .long py, .ref (ad 46), .ref (ad 47), .int (nI p), .int bg, .int fo, .int le, .int fi, .int re, .int ca])) (g45 : G 45 = .inl (L.ac 0, 60, .inl tm)) (hn : n ≤ 60) (hpp : p ≤ 60) (hio : ioF (hM tm n p) = 0) : GM L yX9_takesOrder cX9_takesOrder 1 (none) rm_X9_to0 50 ad G [.ref (ad 40)] (fun vo G' => vo = none ∧ G' 40 = .inr (9, [.ref (ad 41), .ref (ad 42), .ref (ad 43), .int ik, .ref (ad 44), .int kn, .ref (ad 45), .int (nI n), .int th, .int m, .int q, .int te, .long fx, .long fy, .long nx, .long ny, .long ux, .long uy, .int us, .long px, .long py, .ref (ad 46), .ref (ad 47), .int (nI p), .int (nI p), .int 0, .int (hM tm n p), .int 0, .int re, .int ca]) ∧ Agr [40] G G') := by
  refine GM.of (own := RX9) (lo := [(0, .ref (ad 40))]) (by decide +kernel) rfl rfl (Nat.le_of_ble_eq_true rfl) (fun E C hr => ?_)
  refine G_aload_n C 0 dX9_takesOrder_0 rfl rfl ?_
  refine G_aload_n C 0 dX9_takesOrder_1 rfl rfl ?_
  refine G_get C 40 (by decide) g40 rfl inA9 23 (by decide) rfl kf_X9_203 rfl dX9_takesOrder_2 ?_
  refine G_putp C 40 (by decide) g40 rfl inA9 tyX9_ok nmX9 24 (by decide) rfl kf_X9_212 rfl rfl rfl (fs' := [.ref (ad 41), .ref (ad 42), .ref (ad 43), .int ik, .ref (ad 44), .int kn, .ref (ad 45), .int (nI n), .int th, .int m, .int q, .int te, .long fx, .long fy, .long nx, .long ny, .long ux, .long uy, .int us, .long px, .long py, .ref (ad 46), .ref (ad 47), .int (nI p), .int (nI p), .int fo, .int le, .int fi, .int re, .int ca]) (Nat.le_of_ble_eq_true rfl) rfl dX9_takesOrder_5 (fun gg1 hh2 aa3 => ?_)
  have AA4 : Agr [40] G gg1 := aa3.wk (by simp)
  refine G_aload_n C 0 dX9_takesOrder_8 rfl rfl ?_
  refine G_iconst C (v := 1) dX9_takesOrder_9 (by decide) ?_
  refine G_putp C 40 (by decide) hh2 rfl inA9 tyX9_ok nmX9 25 (by decide) rfl kf_X9_206 rfl rfl rfl (fs' := [.ref (ad 41), .ref (ad 42), .ref (ad 43), .int ik, .ref (ad 44), .int kn, .ref (ad 45), .int (nI n), .int th, .int m, .int q, .int te, .long fx, .long fy, .long nx, .long ny, .long ux, .long uy, .int us, .long px, .long py, .ref (ad 46), .ref (ad 47), .int (nI p), .int (nI p), .int 1, .int le, .int fi, .int re, .int ca]) (Nat.le_of_ble_eq_true rfl) rfl dX9_takesOrder_10 (fun gg5 hh6 aa7 => ?_)
  have AA8 : Agr [40] G gg5 := AA4.tr aa7 (by simp) (by simp)
  refine G_aload_n C 0 dX9_takesOrder_13 rfl rfl ?_
  refine G_aload_n C 0 dX9_takesOrder_14 rfl rfl ?_
  refine G_callV C (As := []) (rest := [.ref (ad 40)]) (c_X9_here hh6 ((aa7 45 (by decide)).trans ((aa3 45 (by decide)).trans g45)) hn (show p ≤ 70 by omega)) ca_X9_here km_X9_209 (by decide) hh6 rfl rfl rfl rfl (by decide) (Nat.le_of_ble_eq_true rfl) (by decide) dX9_takesOrder_15 (fun vv9 gg10 qq11 => ?_)
  obtain ⟨rfl, rfl⟩ := qq11
  refine G_putp C 40 (by decide) hh6 rfl inA9 tyX9_ok nmX9 26 (by decide) rfl kf_X9_215 rfl rfl rfl (fs' := [.ref (ad 41), .ref (ad 42), .ref (ad 43), .int ik, .ref (ad 44), .int kn, .ref (ad 45), .int (nI n), .int th, .int m, .int q, .int te, .long fx, .long fy, .long nx, .long ny, .long ux, .long uy, .int us, .long px, .long py, .ref (ad 46), .ref (ad 47), .int (nI p), .int (nI p), .int 1, .int (hM tm n p), .int fi, .int re, .int ca]) (Nat.le_of_ble_eq_true rfl) rfl dX9_takesOrder_18 (fun gg12 hh13 aa14 => ?_)
  have AA15 : Agr [40] G gg12 := AA8.tr aa14 (by simp) (by simp)
  refine G_aload_n C 0 dX9_takesOrder_21 rfl rfl ?_
  refine G_aload_n C 0 dX9_takesOrder_22 rfl rfl ?_
  refine G_get C 40 (by decide) hh13 rfl inA9 26 (by decide) rfl kf_X9_215 rfl dX9_takesOrder_23 ?_
  refine G_bipush C (v := 108) dX9_takesOrder_26 (by decide) ?_
  refine G_icmp_eq C 58 dX9_takesOrder_28 (by decide) (fun c28 => False.elim (absurd hio (by rw [ioF, if_pos c28]; decide))) (fun c28 => ?_)
  refine G_aload_n C 0 dX9_takesOrder_31 rfl rfl ?_
  refine G_get C 40 (by decide) hh13 rfl inA9 26 (by decide) rfl kf_X9_215 rfl dX9_takesOrder_32 ?_
  refine G_bipush C (v := 116) dX9_takesOrder_35 (by decide) ?_
  refine G_icmp_eq C 58 dX9_takesOrder_37 (by decide) (fun c37 => False.elim (absurd hio (by rw [ioF, if_neg c28, if_pos c37]; decide))) (fun c37 => ?_)
  refine G_aload_n C 0 dX9_takesOrder_40 rfl rfl ?_
  refine G_get C 40 (by decide) hh13 rfl inA9 26 (by decide) rfl kf_X9_215 rfl dX9_takesOrder_41 ?_
  refine G_bipush C (v := 109) dX9_takesOrder_44 (by decide) ?_
  refine G_icmp_eq C 58 dX9_takesOrder_46 (by decide) (fun c46 => False.elim (absurd hio (by rw [ioF, if_neg c28, if_neg c37, if_pos c46]; decide))) (fun c46 => ?_)
  refine G_aload_n C 0 dX9_takesOrder_49 rfl rfl ?_
  refine G_get C 40 (by decide) hh13 rfl inA9 26 (by decide) rfl kf_X9_215 rfl dX9_takesOrder_50 ?_
  refine G_bipush C (v := 98) dX9_takesOrder_53 (by decide) ?_
  refine G_icmp_ne C 62 dX9_takesOrder_55 (by decide) (fun c55 => ?_) (fun c55 => False.elim (absurd hio (by rw [ioF, if_neg c28, if_neg c37, if_neg c46, if_pos c55]; decide)))
  refine G_iconst C (v := 0) dX9_takesOrder_62 (by decide) ?_
  refine G_callV C (As := [.int 0]) (rest := []) (c_X9_takes10 hh13) ca_X9_takes km_X9_218 (by decide) hh13 rfl rfl rfl rfl (by decide) (Nat.le_of_ble_eq_true rfl) (by decide) dX9_takesOrder_63 (fun vv16 gg17 qq18 => ?_)
  obtain ⟨rfl, hh19, aa20⟩ := qq18
  have AA21 : Agr [40] G gg17 := AA15.tr aa20 (by simp) (by simp)
  refine G_aload_n C 0 dX9_takesOrder_66 rfl rfl ?_
  refine G_aload_n C 0 dX9_takesOrder_67 rfl rfl ?_
  refine G_callV C (As := []) (rest := [.ref (ad 40)]) (c_X9_tn0 hh19) ca_X9_takesNumber km_X9_222 (by decide) hh19 rfl rfl rfl rfl (by decide) (Nat.le_of_ble_eq_true rfl) (by decide) dX9_takesOrder_68 (fun vv22 gg23 qq24 => ?_)
  obtain ⟨rfl, hh25, aa26⟩ := qq24
  have AA27 : Agr [40] G gg23 := AA21.tr aa26 (by simp) (by simp)
  refine G_putp C 40 (by decide) hh25 rfl inA9 tyX9_ok nmX9 27 (by decide) rfl kf_X9_225 rfl rfl rfl (fs' := [.ref (ad 41), .ref (ad 42), .ref (ad 43), .int ik, .ref (ad 44), .int kn, .ref (ad 45), .int (nI n), .int th, .int m, .int q, .int te, .long fx, .long fy, .long nx, .long ny, .long ux, .long uy, .int us, .long px, .long py, .ref (ad 46), .ref (ad 47), .int (nI p), .int (nI p), .int 0, .int (hM tm n p), .int 0, .int re, .int ca]) (Nat.le_of_ble_eq_true rfl) rfl dX9_takesOrder_71 (fun gg28 hh29 aa30 => ?_)
  have AA31 : Agr [40] G gg28 := AA27.tr aa30 (by simp) (by simp)
  refine G_aload_n C 0 dX9_takesOrder_74 rfl rfl ?_
  refine G_aload_n C 0 dX9_takesOrder_75 rfl rfl ?_
  refine G_callV C (As := []) (rest := [.ref (ad 40)]) (c_X9_here hh29 ((aa30 45 (by decide)).trans ((aa26 45 (by decide)).trans ((aa20 45 (by decide)).trans ((aa14 45 (by decide)).trans ((aa7 45 (by decide)).trans ((aa3 45 (by decide)).trans g45)))))) hn (show p ≤ 70 by omega)) ca_X9_here km_X9_209 (by decide) hh29 rfl rfl rfl rfl (by decide) (Nat.le_of_ble_eq_true rfl) (by decide) dX9_takesOrder_76 (fun vv32 gg33 qq34 => ?_)
  obtain ⟨rfl, rfl⟩ := qq34
  refine G_bipush C (v := 59) dX9_takesOrder_79 (by decide) ?_
  refine G_icmp_ne C 88 dX9_takesOrder_81 (by decide) (fun c81 => ?_) (fun c81 => ?_)
  · refine G_iconst C (v := 0) dX9_takesOrder_88 (by decide) ?_
    refine G_callV C (As := [.int 0]) (rest := []) (c_X9_takes0 hh29) ca_X9_takes km_X9_218 (by decide) hh29 rfl rfl rfl rfl (by decide) (Nat.le_of_ble_eq_true rfl) (by decide) dX9_takesOrder_89 (fun vv35 gg36 qq37 => ?_)
    obtain ⟨rfl, hh38, aa39⟩ := qq37
    have AA40 : Agr [40] G gg36 := AA31.tr aa39 (by simp) (by simp)
    exact G_vret C hr dX9_takesOrder_92 ⟨rfl, hh38, AA40⟩
  · refine G_iconst C (v := 1) dX9_takesOrder_84 (by decide) ?_
    refine G_goto C 89 dX9_takesOrder_85 (by decide) ?_
    refine G_callV C (As := [.int 1]) (rest := []) (c_X9_takes0 hh29) ca_X9_takes km_X9_218 (by decide) hh29 rfl rfl rfl rfl (by decide) (Nat.le_of_ble_eq_true rfl) (by decide) dX9_takesOrder_89 (fun vv41 gg42 qq43 => ?_)
    obtain ⟨rfl, hh44, aa45⟩ := qq43
    have AA46 : Agr [40] G gg42 := AA31.tr aa45 (by simp) (by simp)
    exact G_vret C hr dX9_takesOrder_92 ⟨rfl, hh44, AA46⟩

abbrev rm_X9_to10 : Room := ({ frames := 2, cells := 0, slots := 0, locals := 44 } : Room)
set_option maxRecDepth 100000 in
set_option maxHeartbeats 4000000 in
theorem c_X9_to10 {L : GL} {ad : Nat → Nat} {G : Nat → va_E} {p : Nat} {n : Nat} {tm : Nat → Int32} {ik kn th m q te us bg fo le fi re ca : Int32} {fx fy nx ny ux uy px py : Int64}  (g40 : G 40 = .inr (9, [.ref (ad 41), .ref (ad 42), .ref (ad 43), .int ik, .ref (ad 44), .int kn, .ref (ad 45), .int (nI n), .int th, .int m, .int q, .int te, .long fx, .long fy, .long nx, .long ny, .long ux, .long uy, .int us, .long px, .long py, .ref (ad 46), .ref (ad 47), .int (nI p), .int bg, .int fo, .int le, .int fi, .int re, .int ca])) (g45 : G 45 = .inl (L.ac 0, 60, .inl tm)) (hn : n ≤ 60) (hpp : p < 60) (hio : ¬ ioF (hM tm n p) = 0) (hd0 : dgF (hM tm n (p + 1)) = 0) : GM L yX9_takesOrder cX9_takesOrder 1 (none) rm_X9_to10 50 ad G [.ref (ad 40)] (fun vo G' => vo = none ∧ G' 40 = .inr (9, [.ref (ad 41), .ref (ad 42), .ref (ad 43), .int ik, .ref (ad 44), .int kn, .ref (ad 45), .int (nI n), .int th, .int m, .int q, .int te, .long fx, .long fy, .long nx, .long ny, .long ux, .long uy, .int us, .long px, .long py, .ref (ad 46), .ref (ad 47), .int (nI (p + 1)), .int (nI p), .int 0, .int (hM tm n p), .int 0, .int re, .int ca]) ∧ Agr [40] G G') := by
  refine GM.of (own := RX9) (lo := [(0, .ref (ad 40))]) (by decide +kernel) rfl rfl (Nat.le_of_ble_eq_true rfl) (fun E C hr => ?_)
  refine G_aload_n C 0 dX9_takesOrder_0 rfl rfl ?_
  refine G_aload_n C 0 dX9_takesOrder_1 rfl rfl ?_
  refine G_get C 40 (by decide) g40 rfl inA9 23 (by decide) rfl kf_X9_203 rfl dX9_takesOrder_2 ?_
  refine G_putp C 40 (by decide) g40 rfl inA9 tyX9_ok nmX9 24 (by decide) rfl kf_X9_212 rfl rfl rfl (fs' := [.ref (ad 41), .ref (ad 42), .ref (ad 43), .int ik, .ref (ad 44), .int kn, .ref (ad 45), .int (nI n), .int th, .int m, .int q, .int te, .long fx, .long fy, .long nx, .long ny, .long ux, .long uy, .int us, .long px, .long py, .ref (ad 46), .ref (ad 47), .int (nI p), .int (nI p), .int fo, .int le, .int fi, .int re, .int ca]) (Nat.le_of_ble_eq_true rfl) rfl dX9_takesOrder_5 (fun gg1 hh2 aa3 => ?_)
  have AA4 : Agr [40] G gg1 := aa3.wk (by simp)
  refine G_aload_n C 0 dX9_takesOrder_8 rfl rfl ?_
  refine G_iconst C (v := 1) dX9_takesOrder_9 (by decide) ?_
  refine G_putp C 40 (by decide) hh2 rfl inA9 tyX9_ok nmX9 25 (by decide) rfl kf_X9_206 rfl rfl rfl (fs' := [.ref (ad 41), .ref (ad 42), .ref (ad 43), .int ik, .ref (ad 44), .int kn, .ref (ad 45), .int (nI n), .int th, .int m, .int q, .int te, .long fx, .long fy, .long nx, .long ny, .long ux, .long uy, .int us, .long px, .long py, .ref (ad 46), .ref (ad 47), .int (nI p), .int (nI p), .int 1, .int le, .int fi, .int re, .int ca]) (Nat.le_of_ble_eq_true rfl) rfl dX9_takesOrder_10 (fun gg5 hh6 aa7 => ?_)
  have AA8 : Agr [40] G gg5 := AA4.tr aa7 (by simp) (by simp)
  refine G_aload_n C 0 dX9_takesOrder_13 rfl rfl ?_
  refine G_aload_n C 0 dX9_takesOrder_14 rfl rfl ?_
  refine G_callV C (As := []) (rest := [.ref (ad 40)]) (c_X9_here hh6 ((aa7 45 (by decide)).trans ((aa3 45 (by decide)).trans g45)) hn (show p ≤ 70 by omega)) ca_X9_here km_X9_209 (by decide) hh6 rfl rfl rfl rfl (by decide) (Nat.le_of_ble_eq_true rfl) (by decide) dX9_takesOrder_15 (fun vv9 gg10 qq11 => ?_)
  obtain ⟨rfl, rfl⟩ := qq11
  refine G_putp C 40 (by decide) hh6 rfl inA9 tyX9_ok nmX9 26 (by decide) rfl kf_X9_215 rfl rfl rfl (fs' := [.ref (ad 41), .ref (ad 42), .ref (ad 43), .int ik, .ref (ad 44), .int kn, .ref (ad 45), .int (nI n), .int th, .int m, .int q, .int te, .long fx, .long fy, .long nx, .long ny, .long ux, .long uy, .int us, .long px, .long py, .ref (ad 46), .ref (ad 47), .int (nI p), .int (nI p), .int 1, .int (hM tm n p), .int fi, .int re, .int ca]) (Nat.le_of_ble_eq_true rfl) rfl dX9_takesOrder_18 (fun gg12 hh13 aa14 => ?_)
  have AA15 : Agr [40] G gg12 := AA8.tr aa14 (by simp) (by simp)
  refine G_aload_n C 0 dX9_takesOrder_21 rfl rfl ?_
  refine G_aload_n C 0 dX9_takesOrder_22 rfl rfl ?_
  refine G_get C 40 (by decide) hh13 rfl inA9 26 (by decide) rfl kf_X9_215 rfl dX9_takesOrder_23 ?_
  refine G_bipush C (v := 108) dX9_takesOrder_26 (by decide) ?_
  refine G_icmp_eq C 58 dX9_takesOrder_28 (by decide) (fun c28 => ?_) (fun c28 => ?_)
  · refine G_iconst C (v := 1) dX9_takesOrder_58 (by decide) ?_
    refine G_goto C 63 dX9_takesOrder_59 (by decide) ?_
    refine G_callV C (As := [.int 1]) (rest := []) (c_X9_takes11 hh13) ca_X9_takes km_X9_218 (by decide) hh13 rfl rfl rfl rfl (by decide) (Nat.le_of_ble_eq_true rfl) (by decide) dX9_takesOrder_63 (fun vv16 gg17 qq18 => ?_)
    obtain ⟨rfl, hh19, aa20⟩ := qq18
    have AA21 : Agr [40] G gg17 := AA15.tr aa20 (by simp) (by simp)
    refine G_aload_n C 0 dX9_takesOrder_66 rfl rfl ?_
    refine G_aload_n C 0 dX9_takesOrder_67 rfl rfl ?_
    refine G_callV C (As := []) (rest := [.ref (ad 40)]) (c_X9_tn10 hh19 ((aa20 45 (by decide)).trans ((aa14 45 (by decide)).trans ((aa7 45 (by decide)).trans ((aa3 45 (by decide)).trans g45)))) hn (show p + 1 ≤ 60 by omega) hd0) ca_X9_takesNumber km_X9_222 (by decide) hh19 rfl rfl rfl rfl (by decide) (Nat.le_of_ble_eq_true rfl) (by decide) dX9_takesOrder_68 (fun vv22 gg23 qq24 => ?_)
    obtain ⟨rfl, hh25, aa26⟩ := qq24
    have AA27 : Agr [40] G gg23 := AA21.tr aa26 (by simp) (by simp)
    refine G_putp C 40 (by decide) hh25 rfl inA9 tyX9_ok nmX9 27 (by decide) rfl kf_X9_225 rfl rfl rfl (fs' := [.ref (ad 41), .ref (ad 42), .ref (ad 43), .int ik, .ref (ad 44), .int kn, .ref (ad 45), .int (nI n), .int th, .int m, .int q, .int te, .long fx, .long fy, .long nx, .long ny, .long ux, .long uy, .int us, .long px, .long py, .ref (ad 46), .ref (ad 47), .int (nI (p + 1)), .int (nI p), .int 0, .int (hM tm n p), .int 0, .int re, .int ca]) (Nat.le_of_ble_eq_true rfl) rfl dX9_takesOrder_71 (fun gg28 hh29 aa30 => ?_)
    have AA31 : Agr [40] G gg28 := AA27.tr aa30 (by simp) (by simp)
    refine G_aload_n C 0 dX9_takesOrder_74 rfl rfl ?_
    refine G_aload_n C 0 dX9_takesOrder_75 rfl rfl ?_
    refine G_callV C (As := []) (rest := [.ref (ad 40)]) (c_X9_here hh29 ((aa30 45 (by decide)).trans ((aa26 45 (by decide)).trans ((aa20 45 (by decide)).trans ((aa14 45 (by decide)).trans ((aa7 45 (by decide)).trans ((aa3 45 (by decide)).trans g45)))))) hn (show (p + 1) ≤ 70 by omega)) ca_X9_here km_X9_209 (by decide) hh29 rfl rfl rfl rfl (by decide) (Nat.le_of_ble_eq_true rfl) (by decide) dX9_takesOrder_76 (fun vv32 gg33 qq34 => ?_)
    obtain ⟨rfl, rfl⟩ := qq34
    refine G_bipush C (v := 59) dX9_takesOrder_79 (by decide) ?_
    refine G_icmp_ne C 88 dX9_takesOrder_81 (by decide) (fun c81 => ?_) (fun c81 => ?_)
    · refine G_iconst C (v := 0) dX9_takesOrder_88 (by decide) ?_
      refine G_callV C (As := [.int 0]) (rest := []) (c_X9_takes0 hh29) ca_X9_takes km_X9_218 (by decide) hh29 rfl rfl rfl rfl (by decide) (Nat.le_of_ble_eq_true rfl) (by decide) dX9_takesOrder_89 (fun vv35 gg36 qq37 => ?_)
      obtain ⟨rfl, hh38, aa39⟩ := qq37
      have AA40 : Agr [40] G gg36 := AA31.tr aa39 (by simp) (by simp)
      exact G_vret C hr dX9_takesOrder_92 ⟨rfl, hh38, AA40⟩
    · refine G_iconst C (v := 1) dX9_takesOrder_84 (by decide) ?_
      refine G_goto C 89 dX9_takesOrder_85 (by decide) ?_
      refine G_callV C (As := [.int 1]) (rest := []) (c_X9_takes0 hh29) ca_X9_takes km_X9_218 (by decide) hh29 rfl rfl rfl rfl (by decide) (Nat.le_of_ble_eq_true rfl) (by decide) dX9_takesOrder_89 (fun vv41 gg42 qq43 => ?_)
      obtain ⟨rfl, hh44, aa45⟩ := qq43
      have AA46 : Agr [40] G gg42 := AA31.tr aa45 (by simp) (by simp)
      exact G_vret C hr dX9_takesOrder_92 ⟨rfl, hh44, AA46⟩
  · refine G_aload_n C 0 dX9_takesOrder_31 rfl rfl ?_
    refine G_get C 40 (by decide) hh13 rfl inA9 26 (by decide) rfl kf_X9_215 rfl dX9_takesOrder_32 ?_
    refine G_bipush C (v := 116) dX9_takesOrder_35 (by decide) ?_
    refine G_icmp_eq C 58 dX9_takesOrder_37 (by decide) (fun c37 => ?_) (fun c37 => ?_)
    · refine G_iconst C (v := 1) dX9_takesOrder_58 (by decide) ?_
      refine G_goto C 63 dX9_takesOrder_59 (by decide) ?_
      refine G_callV C (As := [.int 1]) (rest := []) (c_X9_takes11 hh13) ca_X9_takes km_X9_218 (by decide) hh13 rfl rfl rfl rfl (by decide) (Nat.le_of_ble_eq_true rfl) (by decide) dX9_takesOrder_63 (fun vv47 gg48 qq49 => ?_)
      obtain ⟨rfl, hh50, aa51⟩ := qq49
      have AA52 : Agr [40] G gg48 := AA15.tr aa51 (by simp) (by simp)
      refine G_aload_n C 0 dX9_takesOrder_66 rfl rfl ?_
      refine G_aload_n C 0 dX9_takesOrder_67 rfl rfl ?_
      refine G_callV C (As := []) (rest := [.ref (ad 40)]) (c_X9_tn10 hh50 ((aa51 45 (by decide)).trans ((aa14 45 (by decide)).trans ((aa7 45 (by decide)).trans ((aa3 45 (by decide)).trans g45)))) hn (show p + 1 ≤ 60 by omega) hd0) ca_X9_takesNumber km_X9_222 (by decide) hh50 rfl rfl rfl rfl (by decide) (Nat.le_of_ble_eq_true rfl) (by decide) dX9_takesOrder_68 (fun vv53 gg54 qq55 => ?_)
      obtain ⟨rfl, hh56, aa57⟩ := qq55
      have AA58 : Agr [40] G gg54 := AA52.tr aa57 (by simp) (by simp)
      refine G_putp C 40 (by decide) hh56 rfl inA9 tyX9_ok nmX9 27 (by decide) rfl kf_X9_225 rfl rfl rfl (fs' := [.ref (ad 41), .ref (ad 42), .ref (ad 43), .int ik, .ref (ad 44), .int kn, .ref (ad 45), .int (nI n), .int th, .int m, .int q, .int te, .long fx, .long fy, .long nx, .long ny, .long ux, .long uy, .int us, .long px, .long py, .ref (ad 46), .ref (ad 47), .int (nI (p + 1)), .int (nI p), .int 0, .int (hM tm n p), .int 0, .int re, .int ca]) (Nat.le_of_ble_eq_true rfl) rfl dX9_takesOrder_71 (fun gg59 hh60 aa61 => ?_)
      have AA62 : Agr [40] G gg59 := AA58.tr aa61 (by simp) (by simp)
      refine G_aload_n C 0 dX9_takesOrder_74 rfl rfl ?_
      refine G_aload_n C 0 dX9_takesOrder_75 rfl rfl ?_
      refine G_callV C (As := []) (rest := [.ref (ad 40)]) (c_X9_here hh60 ((aa61 45 (by decide)).trans ((aa57 45 (by decide)).trans ((aa51 45 (by decide)).trans ((aa14 45 (by decide)).trans ((aa7 45 (by decide)).trans ((aa3 45 (by decide)).trans g45)))))) hn (show (p + 1) ≤ 70 by omega)) ca_X9_here km_X9_209 (by decide) hh60 rfl rfl rfl rfl (by decide) (Nat.le_of_ble_eq_true rfl) (by decide) dX9_takesOrder_76 (fun vv63 gg64 qq65 => ?_)
      obtain ⟨rfl, rfl⟩ := qq65
      refine G_bipush C (v := 59) dX9_takesOrder_79 (by decide) ?_
      refine G_icmp_ne C 88 dX9_takesOrder_81 (by decide) (fun c81 => ?_) (fun c81 => ?_)
      · refine G_iconst C (v := 0) dX9_takesOrder_88 (by decide) ?_
        refine G_callV C (As := [.int 0]) (rest := []) (c_X9_takes0 hh60) ca_X9_takes km_X9_218 (by decide) hh60 rfl rfl rfl rfl (by decide) (Nat.le_of_ble_eq_true rfl) (by decide) dX9_takesOrder_89 (fun vv66 gg67 qq68 => ?_)
        obtain ⟨rfl, hh69, aa70⟩ := qq68
        have AA71 : Agr [40] G gg67 := AA62.tr aa70 (by simp) (by simp)
        exact G_vret C hr dX9_takesOrder_92 ⟨rfl, hh69, AA71⟩
      · refine G_iconst C (v := 1) dX9_takesOrder_84 (by decide) ?_
        refine G_goto C 89 dX9_takesOrder_85 (by decide) ?_
        refine G_callV C (As := [.int 1]) (rest := []) (c_X9_takes0 hh60) ca_X9_takes km_X9_218 (by decide) hh60 rfl rfl rfl rfl (by decide) (Nat.le_of_ble_eq_true rfl) (by decide) dX9_takesOrder_89 (fun vv72 gg73 qq74 => ?_)
        obtain ⟨rfl, hh75, aa76⟩ := qq74
        have AA77 : Agr [40] G gg73 := AA62.tr aa76 (by simp) (by simp)
        exact G_vret C hr dX9_takesOrder_92 ⟨rfl, hh75, AA77⟩
    · refine G_aload_n C 0 dX9_takesOrder_40 rfl rfl ?_
      refine G_get C 40 (by decide) hh13 rfl inA9 26 (by decide) rfl kf_X9_215 rfl dX9_takesOrder_41 ?_
      refine G_bipush C (v := 109) dX9_takesOrder_44 (by decide) ?_
      refine G_icmp_eq C 58 dX9_takesOrder_46 (by decide) (fun c46 => ?_) (fun c46 => ?_)
      · refine G_iconst C (v := 1) dX9_takesOrder_58 (by decide) ?_
        refine G_goto C 63 dX9_takesOrder_59 (by decide) ?_
        refine G_callV C (As := [.int 1]) (rest := []) (c_X9_takes11 hh13) ca_X9_takes km_X9_218 (by decide) hh13 rfl rfl rfl rfl (by decide) (Nat.le_of_ble_eq_true rfl) (by decide) dX9_takesOrder_63 (fun vv78 gg79 qq80 => ?_)
        obtain ⟨rfl, hh81, aa82⟩ := qq80
        have AA83 : Agr [40] G gg79 := AA15.tr aa82 (by simp) (by simp)
        refine G_aload_n C 0 dX9_takesOrder_66 rfl rfl ?_
        refine G_aload_n C 0 dX9_takesOrder_67 rfl rfl ?_
        refine G_callV C (As := []) (rest := [.ref (ad 40)]) (c_X9_tn10 hh81 ((aa82 45 (by decide)).trans ((aa14 45 (by decide)).trans ((aa7 45 (by decide)).trans ((aa3 45 (by decide)).trans g45)))) hn (show p + 1 ≤ 60 by omega) hd0) ca_X9_takesNumber km_X9_222 (by decide) hh81 rfl rfl rfl rfl (by decide) (Nat.le_of_ble_eq_true rfl) (by decide) dX9_takesOrder_68 (fun vv84 gg85 qq86 => ?_)
        obtain ⟨rfl, hh87, aa88⟩ := qq86
        have AA89 : Agr [40] G gg85 := AA83.tr aa88 (by simp) (by simp)
        refine G_putp C 40 (by decide) hh87 rfl inA9 tyX9_ok nmX9 27 (by decide) rfl kf_X9_225 rfl rfl rfl (fs' := [.ref (ad 41), .ref (ad 42), .ref (ad 43), .int ik, .ref (ad 44), .int kn, .ref (ad 45), .int (nI n), .int th, .int m, .int q, .int te, .long fx, .long fy, .long nx, .long ny, .long ux, .long uy, .int us, .long px, .long py, .ref (ad 46), .ref (ad 47), .int (nI (p + 1)), .int (nI p), .int 0, .int (hM tm n p), .int 0, .int re, .int ca]) (Nat.le_of_ble_eq_true rfl) rfl dX9_takesOrder_71 (fun gg90 hh91 aa92 => ?_)
        have AA93 : Agr [40] G gg90 := AA89.tr aa92 (by simp) (by simp)
        refine G_aload_n C 0 dX9_takesOrder_74 rfl rfl ?_
        refine G_aload_n C 0 dX9_takesOrder_75 rfl rfl ?_
        refine G_callV C (As := []) (rest := [.ref (ad 40)]) (c_X9_here hh91 ((aa92 45 (by decide)).trans ((aa88 45 (by decide)).trans ((aa82 45 (by decide)).trans ((aa14 45 (by decide)).trans ((aa7 45 (by decide)).trans ((aa3 45 (by decide)).trans g45)))))) hn (show (p + 1) ≤ 70 by omega)) ca_X9_here km_X9_209 (by decide) hh91 rfl rfl rfl rfl (by decide) (Nat.le_of_ble_eq_true rfl) (by decide) dX9_takesOrder_76 (fun vv94 gg95 qq96 => ?_)
        obtain ⟨rfl, rfl⟩ := qq96
        refine G_bipush C (v := 59) dX9_takesOrder_79 (by decide) ?_
        refine G_icmp_ne C 88 dX9_takesOrder_81 (by decide) (fun c81 => ?_) (fun c81 => ?_)
        · refine G_iconst C (v := 0) dX9_takesOrder_88 (by decide) ?_
          refine G_callV C (As := [.int 0]) (rest := []) (c_X9_takes0 hh91) ca_X9_takes km_X9_218 (by decide) hh91 rfl rfl rfl rfl (by decide) (Nat.le_of_ble_eq_true rfl) (by decide) dX9_takesOrder_89 (fun vv97 gg98 qq99 => ?_)
          obtain ⟨rfl, hh100, aa101⟩ := qq99
          have AA102 : Agr [40] G gg98 := AA93.tr aa101 (by simp) (by simp)
          exact G_vret C hr dX9_takesOrder_92 ⟨rfl, hh100, AA102⟩
        · refine G_iconst C (v := 1) dX9_takesOrder_84 (by decide) ?_
          refine G_goto C 89 dX9_takesOrder_85 (by decide) ?_
          refine G_callV C (As := [.int 1]) (rest := []) (c_X9_takes0 hh91) ca_X9_takes km_X9_218 (by decide) hh91 rfl rfl rfl rfl (by decide) (Nat.le_of_ble_eq_true rfl) (by decide) dX9_takesOrder_89 (fun vv103 gg104 qq105 => ?_)
          obtain ⟨rfl, hh106, aa107⟩ := qq105
          have AA108 : Agr [40] G gg104 := AA93.tr aa107 (by simp) (by simp)
          exact G_vret C hr dX9_takesOrder_92 ⟨rfl, hh106, AA108⟩
      · refine G_aload_n C 0 dX9_takesOrder_49 rfl rfl ?_
        refine G_get C 40 (by decide) hh13 rfl inA9 26 (by decide) rfl kf_X9_215 rfl dX9_takesOrder_50 ?_
        refine G_bipush C (v := 98) dX9_takesOrder_53 (by decide) ?_
        refine G_icmp_ne C 62 dX9_takesOrder_55 (by decide) (fun c55 => False.elim (hio (by rw [ioF, if_neg c28, if_neg c37, if_neg c46, if_neg c55]))) (fun c55 => ?_)
        refine G_iconst C (v := 1) dX9_takesOrder_58 (by decide) ?_
        refine G_goto C 63 dX9_takesOrder_59 (by decide) ?_
        refine G_callV C (As := [.int 1]) (rest := []) (c_X9_takes11 hh13) ca_X9_takes km_X9_218 (by decide) hh13 rfl rfl rfl rfl (by decide) (Nat.le_of_ble_eq_true rfl) (by decide) dX9_takesOrder_63 (fun vv109 gg110 qq111 => ?_)
        obtain ⟨rfl, hh112, aa113⟩ := qq111
        have AA114 : Agr [40] G gg110 := AA15.tr aa113 (by simp) (by simp)
        refine G_aload_n C 0 dX9_takesOrder_66 rfl rfl ?_
        refine G_aload_n C 0 dX9_takesOrder_67 rfl rfl ?_
        refine G_callV C (As := []) (rest := [.ref (ad 40)]) (c_X9_tn10 hh112 ((aa113 45 (by decide)).trans ((aa14 45 (by decide)).trans ((aa7 45 (by decide)).trans ((aa3 45 (by decide)).trans g45)))) hn (show p + 1 ≤ 60 by omega) hd0) ca_X9_takesNumber km_X9_222 (by decide) hh112 rfl rfl rfl rfl (by decide) (Nat.le_of_ble_eq_true rfl) (by decide) dX9_takesOrder_68 (fun vv115 gg116 qq117 => ?_)
        obtain ⟨rfl, hh118, aa119⟩ := qq117
        have AA120 : Agr [40] G gg116 := AA114.tr aa119 (by simp) (by simp)
        refine G_putp C 40 (by decide) hh118 rfl inA9 tyX9_ok nmX9 27 (by decide) rfl kf_X9_225 rfl rfl rfl (fs' := [.ref (ad 41), .ref (ad 42), .ref (ad 43), .int ik, .ref (ad 44), .int kn, .ref (ad 45), .int (nI n), .int th, .int m, .int q, .int te, .long fx, .long fy, .long nx, .long ny, .long ux, .long uy, .int us, .long px, .long py, .ref (ad 46), .ref (ad 47), .int (nI (p + 1)), .int (nI p), .int 0, .int (hM tm n p), .int 0, .int re, .int ca]) (Nat.le_of_ble_eq_true rfl) rfl dX9_takesOrder_71 (fun gg121 hh122 aa123 => ?_)
        have AA124 : Agr [40] G gg121 := AA120.tr aa123 (by simp) (by simp)
        refine G_aload_n C 0 dX9_takesOrder_74 rfl rfl ?_
        refine G_aload_n C 0 dX9_takesOrder_75 rfl rfl ?_
        refine G_callV C (As := []) (rest := [.ref (ad 40)]) (c_X9_here hh122 ((aa123 45 (by decide)).trans ((aa119 45 (by decide)).trans ((aa113 45 (by decide)).trans ((aa14 45 (by decide)).trans ((aa7 45 (by decide)).trans ((aa3 45 (by decide)).trans g45)))))) hn (show (p + 1) ≤ 70 by omega)) ca_X9_here km_X9_209 (by decide) hh122 rfl rfl rfl rfl (by decide) (Nat.le_of_ble_eq_true rfl) (by decide) dX9_takesOrder_76 (fun vv125 gg126 qq127 => ?_)
        obtain ⟨rfl, rfl⟩ := qq127
        refine G_bipush C (v := 59) dX9_takesOrder_79 (by decide) ?_
        refine G_icmp_ne C 88 dX9_takesOrder_81 (by decide) (fun c81 => ?_) (fun c81 => ?_)
        · refine G_iconst C (v := 0) dX9_takesOrder_88 (by decide) ?_
          refine G_callV C (As := [.int 0]) (rest := []) (c_X9_takes0 hh122) ca_X9_takes km_X9_218 (by decide) hh122 rfl rfl rfl rfl (by decide) (Nat.le_of_ble_eq_true rfl) (by decide) dX9_takesOrder_89 (fun vv128 gg129 qq130 => ?_)
          obtain ⟨rfl, hh131, aa132⟩ := qq130
          have AA133 : Agr [40] G gg129 := AA124.tr aa132 (by simp) (by simp)
          exact G_vret C hr dX9_takesOrder_92 ⟨rfl, hh131, AA133⟩
        · refine G_iconst C (v := 1) dX9_takesOrder_84 (by decide) ?_
          refine G_goto C 89 dX9_takesOrder_85 (by decide) ?_
          refine G_callV C (As := [.int 1]) (rest := []) (c_X9_takes0 hh122) ca_X9_takes km_X9_218 (by decide) hh122 rfl rfl rfl rfl (by decide) (Nat.le_of_ble_eq_true rfl) (by decide) dX9_takesOrder_89 (fun vv134 gg135 qq136 => ?_)
          obtain ⟨rfl, hh137, aa138⟩ := qq136
          have AA139 : Agr [40] G gg135 := AA124.tr aa138 (by simp) (by simp)
          exact G_vret C hr dX9_takesOrder_92 ⟨rfl, hh137, AA139⟩

abbrev rm_X9_to11N : Room := ({ frames := 2, cells := 0, slots := 0, locals := 44 } : Room)
set_option maxRecDepth 100000 in
set_option maxHeartbeats 4000000 in
theorem c_X9_to11N {L : GL} {ad : Nat → Nat} {G : Nat → va_E} {p : Nat} {n : Nat} {tm : Nat → Int32} {ik kn th m q te us bg fo le fi re ca : Int32} {fx fy nx ny ux uy px py : Int64}  (g40 : G 40 = .inr (9, [.ref (ad 41), .ref (ad 42), .ref (ad 43), .int ik, .ref (ad 44), .int kn, .ref (ad 45), .int (nI n), .int th, .int m, .int q, .int te, .long fx, .long fy, .long nx, .long ny, .long ux, .long uy, .int us, .long px, .long py, .ref (ad 46), .ref (ad 47), .int (nI p), .int bg, .int fo, .int le, .int fi, .int re, .int ca])) (g45 : G 45 = .inl (L.ac 0, 60, .inl tm)) (hn : n ≤ 60) (hpp : p < 60) (hio : ¬ ioF (hM tm n p) = 0) (hd0 : ¬ dgF (hM tm n (p + 1)) = 0) (hd1 : dgF (hM tm n (p + 1 + 1)) = 0) (hse : ¬ hM tm n (p + 1 + 1) = 59) : GM L yX9_takesOrder cX9_takesOrder 1 (none) rm_X9_to11N 50 ad G [.ref (ad 40)] (fun vo G' => vo = none ∧ G' 40 = .inr (9, [.ref (ad 41), .ref (ad 42), .ref (ad 43), .int ik, .ref (ad 44), .int kn, .ref (ad 45), .int (nI n), .int th, .int m, .int q, .int te, .long fx, .long fy, .long nx, .long ny, .long ux, .long uy, .int us, .long px, .long py, .ref (ad 46), .ref (ad 47), .int (nI (p + 1 + 1)), .int (nI p), .int 0, .int (hM tm n p), .int (0 + hM tm n (p + 1) - 48), .int re, .int ca]) ∧ Agr [40] G G') := by
  refine GM.of (own := RX9) (lo := [(0, .ref (ad 40))]) (by decide +kernel) rfl rfl (Nat.le_of_ble_eq_true rfl) (fun E C hr => ?_)
  refine G_aload_n C 0 dX9_takesOrder_0 rfl rfl ?_
  refine G_aload_n C 0 dX9_takesOrder_1 rfl rfl ?_
  refine G_get C 40 (by decide) g40 rfl inA9 23 (by decide) rfl kf_X9_203 rfl dX9_takesOrder_2 ?_
  refine G_putp C 40 (by decide) g40 rfl inA9 tyX9_ok nmX9 24 (by decide) rfl kf_X9_212 rfl rfl rfl (fs' := [.ref (ad 41), .ref (ad 42), .ref (ad 43), .int ik, .ref (ad 44), .int kn, .ref (ad 45), .int (nI n), .int th, .int m, .int q, .int te, .long fx, .long fy, .long nx, .long ny, .long ux, .long uy, .int us, .long px, .long py, .ref (ad 46), .ref (ad 47), .int (nI p), .int (nI p), .int fo, .int le, .int fi, .int re, .int ca]) (Nat.le_of_ble_eq_true rfl) rfl dX9_takesOrder_5 (fun gg1 hh2 aa3 => ?_)
  have AA4 : Agr [40] G gg1 := aa3.wk (by simp)
  refine G_aload_n C 0 dX9_takesOrder_8 rfl rfl ?_
  refine G_iconst C (v := 1) dX9_takesOrder_9 (by decide) ?_
  refine G_putp C 40 (by decide) hh2 rfl inA9 tyX9_ok nmX9 25 (by decide) rfl kf_X9_206 rfl rfl rfl (fs' := [.ref (ad 41), .ref (ad 42), .ref (ad 43), .int ik, .ref (ad 44), .int kn, .ref (ad 45), .int (nI n), .int th, .int m, .int q, .int te, .long fx, .long fy, .long nx, .long ny, .long ux, .long uy, .int us, .long px, .long py, .ref (ad 46), .ref (ad 47), .int (nI p), .int (nI p), .int 1, .int le, .int fi, .int re, .int ca]) (Nat.le_of_ble_eq_true rfl) rfl dX9_takesOrder_10 (fun gg5 hh6 aa7 => ?_)
  have AA8 : Agr [40] G gg5 := AA4.tr aa7 (by simp) (by simp)
  refine G_aload_n C 0 dX9_takesOrder_13 rfl rfl ?_
  refine G_aload_n C 0 dX9_takesOrder_14 rfl rfl ?_
  refine G_callV C (As := []) (rest := [.ref (ad 40)]) (c_X9_here hh6 ((aa7 45 (by decide)).trans ((aa3 45 (by decide)).trans g45)) hn (show p ≤ 70 by omega)) ca_X9_here km_X9_209 (by decide) hh6 rfl rfl rfl rfl (by decide) (Nat.le_of_ble_eq_true rfl) (by decide) dX9_takesOrder_15 (fun vv9 gg10 qq11 => ?_)
  obtain ⟨rfl, rfl⟩ := qq11
  refine G_putp C 40 (by decide) hh6 rfl inA9 tyX9_ok nmX9 26 (by decide) rfl kf_X9_215 rfl rfl rfl (fs' := [.ref (ad 41), .ref (ad 42), .ref (ad 43), .int ik, .ref (ad 44), .int kn, .ref (ad 45), .int (nI n), .int th, .int m, .int q, .int te, .long fx, .long fy, .long nx, .long ny, .long ux, .long uy, .int us, .long px, .long py, .ref (ad 46), .ref (ad 47), .int (nI p), .int (nI p), .int 1, .int (hM tm n p), .int fi, .int re, .int ca]) (Nat.le_of_ble_eq_true rfl) rfl dX9_takesOrder_18 (fun gg12 hh13 aa14 => ?_)
  have AA15 : Agr [40] G gg12 := AA8.tr aa14 (by simp) (by simp)
  refine G_aload_n C 0 dX9_takesOrder_21 rfl rfl ?_
  refine G_aload_n C 0 dX9_takesOrder_22 rfl rfl ?_
  refine G_get C 40 (by decide) hh13 rfl inA9 26 (by decide) rfl kf_X9_215 rfl dX9_takesOrder_23 ?_
  refine G_bipush C (v := 108) dX9_takesOrder_26 (by decide) ?_
  refine G_icmp_eq C 58 dX9_takesOrder_28 (by decide) (fun c28 => ?_) (fun c28 => ?_)
  · refine G_iconst C (v := 1) dX9_takesOrder_58 (by decide) ?_
    refine G_goto C 63 dX9_takesOrder_59 (by decide) ?_
    refine G_callV C (As := [.int 1]) (rest := []) (c_X9_takes11 hh13) ca_X9_takes km_X9_218 (by decide) hh13 rfl rfl rfl rfl (by decide) (Nat.le_of_ble_eq_true rfl) (by decide) dX9_takesOrder_63 (fun vv16 gg17 qq18 => ?_)
    obtain ⟨rfl, hh19, aa20⟩ := qq18
    have AA21 : Agr [40] G gg17 := AA15.tr aa20 (by simp) (by simp)
    refine G_aload_n C 0 dX9_takesOrder_66 rfl rfl ?_
    refine G_aload_n C 0 dX9_takesOrder_67 rfl rfl ?_
    refine G_callV C (As := []) (rest := [.ref (ad 40)]) (c_X9_tn11 hh19 ((aa20 45 (by decide)).trans ((aa14 45 (by decide)).trans ((aa7 45 (by decide)).trans ((aa3 45 (by decide)).trans g45)))) hn (show p + 1 ≤ 60 by omega) hd0 hd1) ca_X9_takesNumber km_X9_222 (by decide) hh19 rfl rfl rfl rfl (by decide) (Nat.le_of_ble_eq_true rfl) (by decide) dX9_takesOrder_68 (fun vv22 gg23 qq24 => ?_)
    obtain ⟨rfl, hh25, aa26⟩ := qq24
    have AA27 : Agr [40] G gg23 := AA21.tr aa26 (by simp) (by simp)
    refine G_putp C 40 (by decide) hh25 rfl inA9 tyX9_ok nmX9 27 (by decide) rfl kf_X9_225 rfl rfl rfl (fs' := [.ref (ad 41), .ref (ad 42), .ref (ad 43), .int ik, .ref (ad 44), .int kn, .ref (ad 45), .int (nI n), .int th, .int m, .int q, .int te, .long fx, .long fy, .long nx, .long ny, .long ux, .long uy, .int us, .long px, .long py, .ref (ad 46), .ref (ad 47), .int (nI ((p + 1) + 1)), .int (nI p), .int 1, .int (hM tm n p), .int (0 + hM tm n (p + 1) - 48), .int re, .int ca]) (Nat.le_of_ble_eq_true rfl) rfl dX9_takesOrder_71 (fun gg28 hh29 aa30 => ?_)
    have AA31 : Agr [40] G gg28 := AA27.tr aa30 (by simp) (by simp)
    refine G_aload_n C 0 dX9_takesOrder_74 rfl rfl ?_
    refine G_aload_n C 0 dX9_takesOrder_75 rfl rfl ?_
    refine G_callV C (As := []) (rest := [.ref (ad 40)]) (c_X9_here hh29 ((aa30 45 (by decide)).trans ((aa26 45 (by decide)).trans ((aa20 45 (by decide)).trans ((aa14 45 (by decide)).trans ((aa7 45 (by decide)).trans ((aa3 45 (by decide)).trans g45)))))) hn (show ((p + 1) + 1) ≤ 70 by omega)) ca_X9_here km_X9_209 (by decide) hh29 rfl rfl rfl rfl (by decide) (Nat.le_of_ble_eq_true rfl) (by decide) dX9_takesOrder_76 (fun vv32 gg33 qq34 => ?_)
    obtain ⟨rfl, rfl⟩ := qq34
    refine G_bipush C (v := 59) dX9_takesOrder_79 (by decide) ?_
    refine G_icmp_ne C 88 dX9_takesOrder_81 (by decide) (fun c81 => ?_) (fun c81 => False.elim (hse c81))
    refine G_iconst C (v := 0) dX9_takesOrder_88 (by decide) ?_
    refine G_callV C (As := [.int 0]) (rest := []) (c_X9_takes10 hh29) ca_X9_takes km_X9_218 (by decide) hh29 rfl rfl rfl rfl (by decide) (Nat.le_of_ble_eq_true rfl) (by decide) dX9_takesOrder_89 (fun vv35 gg36 qq37 => ?_)
    obtain ⟨rfl, hh38, aa39⟩ := qq37
    have AA40 : Agr [40] G gg36 := AA31.tr aa39 (by simp) (by simp)
    exact G_vret C hr dX9_takesOrder_92 ⟨rfl, hh38, AA40⟩
  · refine G_aload_n C 0 dX9_takesOrder_31 rfl rfl ?_
    refine G_get C 40 (by decide) hh13 rfl inA9 26 (by decide) rfl kf_X9_215 rfl dX9_takesOrder_32 ?_
    refine G_bipush C (v := 116) dX9_takesOrder_35 (by decide) ?_
    refine G_icmp_eq C 58 dX9_takesOrder_37 (by decide) (fun c37 => ?_) (fun c37 => ?_)
    · refine G_iconst C (v := 1) dX9_takesOrder_58 (by decide) ?_
      refine G_goto C 63 dX9_takesOrder_59 (by decide) ?_
      refine G_callV C (As := [.int 1]) (rest := []) (c_X9_takes11 hh13) ca_X9_takes km_X9_218 (by decide) hh13 rfl rfl rfl rfl (by decide) (Nat.le_of_ble_eq_true rfl) (by decide) dX9_takesOrder_63 (fun vv41 gg42 qq43 => ?_)
      obtain ⟨rfl, hh44, aa45⟩ := qq43
      have AA46 : Agr [40] G gg42 := AA15.tr aa45 (by simp) (by simp)
      refine G_aload_n C 0 dX9_takesOrder_66 rfl rfl ?_
      refine G_aload_n C 0 dX9_takesOrder_67 rfl rfl ?_
      refine G_callV C (As := []) (rest := [.ref (ad 40)]) (c_X9_tn11 hh44 ((aa45 45 (by decide)).trans ((aa14 45 (by decide)).trans ((aa7 45 (by decide)).trans ((aa3 45 (by decide)).trans g45)))) hn (show p + 1 ≤ 60 by omega) hd0 hd1) ca_X9_takesNumber km_X9_222 (by decide) hh44 rfl rfl rfl rfl (by decide) (Nat.le_of_ble_eq_true rfl) (by decide) dX9_takesOrder_68 (fun vv47 gg48 qq49 => ?_)
      obtain ⟨rfl, hh50, aa51⟩ := qq49
      have AA52 : Agr [40] G gg48 := AA46.tr aa51 (by simp) (by simp)
      refine G_putp C 40 (by decide) hh50 rfl inA9 tyX9_ok nmX9 27 (by decide) rfl kf_X9_225 rfl rfl rfl (fs' := [.ref (ad 41), .ref (ad 42), .ref (ad 43), .int ik, .ref (ad 44), .int kn, .ref (ad 45), .int (nI n), .int th, .int m, .int q, .int te, .long fx, .long fy, .long nx, .long ny, .long ux, .long uy, .int us, .long px, .long py, .ref (ad 46), .ref (ad 47), .int (nI ((p + 1) + 1)), .int (nI p), .int 1, .int (hM tm n p), .int (0 + hM tm n (p + 1) - 48), .int re, .int ca]) (Nat.le_of_ble_eq_true rfl) rfl dX9_takesOrder_71 (fun gg53 hh54 aa55 => ?_)
      have AA56 : Agr [40] G gg53 := AA52.tr aa55 (by simp) (by simp)
      refine G_aload_n C 0 dX9_takesOrder_74 rfl rfl ?_
      refine G_aload_n C 0 dX9_takesOrder_75 rfl rfl ?_
      refine G_callV C (As := []) (rest := [.ref (ad 40)]) (c_X9_here hh54 ((aa55 45 (by decide)).trans ((aa51 45 (by decide)).trans ((aa45 45 (by decide)).trans ((aa14 45 (by decide)).trans ((aa7 45 (by decide)).trans ((aa3 45 (by decide)).trans g45)))))) hn (show ((p + 1) + 1) ≤ 70 by omega)) ca_X9_here km_X9_209 (by decide) hh54 rfl rfl rfl rfl (by decide) (Nat.le_of_ble_eq_true rfl) (by decide) dX9_takesOrder_76 (fun vv57 gg58 qq59 => ?_)
      obtain ⟨rfl, rfl⟩ := qq59
      refine G_bipush C (v := 59) dX9_takesOrder_79 (by decide) ?_
      refine G_icmp_ne C 88 dX9_takesOrder_81 (by decide) (fun c81 => ?_) (fun c81 => False.elim (hse c81))
      refine G_iconst C (v := 0) dX9_takesOrder_88 (by decide) ?_
      refine G_callV C (As := [.int 0]) (rest := []) (c_X9_takes10 hh54) ca_X9_takes km_X9_218 (by decide) hh54 rfl rfl rfl rfl (by decide) (Nat.le_of_ble_eq_true rfl) (by decide) dX9_takesOrder_89 (fun vv60 gg61 qq62 => ?_)
      obtain ⟨rfl, hh63, aa64⟩ := qq62
      have AA65 : Agr [40] G gg61 := AA56.tr aa64 (by simp) (by simp)
      exact G_vret C hr dX9_takesOrder_92 ⟨rfl, hh63, AA65⟩
    · refine G_aload_n C 0 dX9_takesOrder_40 rfl rfl ?_
      refine G_get C 40 (by decide) hh13 rfl inA9 26 (by decide) rfl kf_X9_215 rfl dX9_takesOrder_41 ?_
      refine G_bipush C (v := 109) dX9_takesOrder_44 (by decide) ?_
      refine G_icmp_eq C 58 dX9_takesOrder_46 (by decide) (fun c46 => ?_) (fun c46 => ?_)
      · refine G_iconst C (v := 1) dX9_takesOrder_58 (by decide) ?_
        refine G_goto C 63 dX9_takesOrder_59 (by decide) ?_
        refine G_callV C (As := [.int 1]) (rest := []) (c_X9_takes11 hh13) ca_X9_takes km_X9_218 (by decide) hh13 rfl rfl rfl rfl (by decide) (Nat.le_of_ble_eq_true rfl) (by decide) dX9_takesOrder_63 (fun vv66 gg67 qq68 => ?_)
        obtain ⟨rfl, hh69, aa70⟩ := qq68
        have AA71 : Agr [40] G gg67 := AA15.tr aa70 (by simp) (by simp)
        refine G_aload_n C 0 dX9_takesOrder_66 rfl rfl ?_
        refine G_aload_n C 0 dX9_takesOrder_67 rfl rfl ?_
        refine G_callV C (As := []) (rest := [.ref (ad 40)]) (c_X9_tn11 hh69 ((aa70 45 (by decide)).trans ((aa14 45 (by decide)).trans ((aa7 45 (by decide)).trans ((aa3 45 (by decide)).trans g45)))) hn (show p + 1 ≤ 60 by omega) hd0 hd1) ca_X9_takesNumber km_X9_222 (by decide) hh69 rfl rfl rfl rfl (by decide) (Nat.le_of_ble_eq_true rfl) (by decide) dX9_takesOrder_68 (fun vv72 gg73 qq74 => ?_)
        obtain ⟨rfl, hh75, aa76⟩ := qq74
        have AA77 : Agr [40] G gg73 := AA71.tr aa76 (by simp) (by simp)
        refine G_putp C 40 (by decide) hh75 rfl inA9 tyX9_ok nmX9 27 (by decide) rfl kf_X9_225 rfl rfl rfl (fs' := [.ref (ad 41), .ref (ad 42), .ref (ad 43), .int ik, .ref (ad 44), .int kn, .ref (ad 45), .int (nI n), .int th, .int m, .int q, .int te, .long fx, .long fy, .long nx, .long ny, .long ux, .long uy, .int us, .long px, .long py, .ref (ad 46), .ref (ad 47), .int (nI ((p + 1) + 1)), .int (nI p), .int 1, .int (hM tm n p), .int (0 + hM tm n (p + 1) - 48), .int re, .int ca]) (Nat.le_of_ble_eq_true rfl) rfl dX9_takesOrder_71 (fun gg78 hh79 aa80 => ?_)
        have AA81 : Agr [40] G gg78 := AA77.tr aa80 (by simp) (by simp)
        refine G_aload_n C 0 dX9_takesOrder_74 rfl rfl ?_
        refine G_aload_n C 0 dX9_takesOrder_75 rfl rfl ?_
        refine G_callV C (As := []) (rest := [.ref (ad 40)]) (c_X9_here hh79 ((aa80 45 (by decide)).trans ((aa76 45 (by decide)).trans ((aa70 45 (by decide)).trans ((aa14 45 (by decide)).trans ((aa7 45 (by decide)).trans ((aa3 45 (by decide)).trans g45)))))) hn (show ((p + 1) + 1) ≤ 70 by omega)) ca_X9_here km_X9_209 (by decide) hh79 rfl rfl rfl rfl (by decide) (Nat.le_of_ble_eq_true rfl) (by decide) dX9_takesOrder_76 (fun vv82 gg83 qq84 => ?_)
        obtain ⟨rfl, rfl⟩ := qq84
        refine G_bipush C (v := 59) dX9_takesOrder_79 (by decide) ?_
        refine G_icmp_ne C 88 dX9_takesOrder_81 (by decide) (fun c81 => ?_) (fun c81 => False.elim (hse c81))
        refine G_iconst C (v := 0) dX9_takesOrder_88 (by decide) ?_
        refine G_callV C (As := [.int 0]) (rest := []) (c_X9_takes10 hh79) ca_X9_takes km_X9_218 (by decide) hh79 rfl rfl rfl rfl (by decide) (Nat.le_of_ble_eq_true rfl) (by decide) dX9_takesOrder_89 (fun vv85 gg86 qq87 => ?_)
        obtain ⟨rfl, hh88, aa89⟩ := qq87
        have AA90 : Agr [40] G gg86 := AA81.tr aa89 (by simp) (by simp)
        exact G_vret C hr dX9_takesOrder_92 ⟨rfl, hh88, AA90⟩
      · refine G_aload_n C 0 dX9_takesOrder_49 rfl rfl ?_
        refine G_get C 40 (by decide) hh13 rfl inA9 26 (by decide) rfl kf_X9_215 rfl dX9_takesOrder_50 ?_
        refine G_bipush C (v := 98) dX9_takesOrder_53 (by decide) ?_
        refine G_icmp_ne C 62 dX9_takesOrder_55 (by decide) (fun c55 => False.elim (hio (by rw [ioF, if_neg c28, if_neg c37, if_neg c46, if_neg c55]))) (fun c55 => ?_)
        refine G_iconst C (v := 1) dX9_takesOrder_58 (by decide) ?_
        refine G_goto C 63 dX9_takesOrder_59 (by decide) ?_
        refine G_callV C (As := [.int 1]) (rest := []) (c_X9_takes11 hh13) ca_X9_takes km_X9_218 (by decide) hh13 rfl rfl rfl rfl (by decide) (Nat.le_of_ble_eq_true rfl) (by decide) dX9_takesOrder_63 (fun vv91 gg92 qq93 => ?_)
        obtain ⟨rfl, hh94, aa95⟩ := qq93
        have AA96 : Agr [40] G gg92 := AA15.tr aa95 (by simp) (by simp)
        refine G_aload_n C 0 dX9_takesOrder_66 rfl rfl ?_
        refine G_aload_n C 0 dX9_takesOrder_67 rfl rfl ?_
        refine G_callV C (As := []) (rest := [.ref (ad 40)]) (c_X9_tn11 hh94 ((aa95 45 (by decide)).trans ((aa14 45 (by decide)).trans ((aa7 45 (by decide)).trans ((aa3 45 (by decide)).trans g45)))) hn (show p + 1 ≤ 60 by omega) hd0 hd1) ca_X9_takesNumber km_X9_222 (by decide) hh94 rfl rfl rfl rfl (by decide) (Nat.le_of_ble_eq_true rfl) (by decide) dX9_takesOrder_68 (fun vv97 gg98 qq99 => ?_)
        obtain ⟨rfl, hh100, aa101⟩ := qq99
        have AA102 : Agr [40] G gg98 := AA96.tr aa101 (by simp) (by simp)
        refine G_putp C 40 (by decide) hh100 rfl inA9 tyX9_ok nmX9 27 (by decide) rfl kf_X9_225 rfl rfl rfl (fs' := [.ref (ad 41), .ref (ad 42), .ref (ad 43), .int ik, .ref (ad 44), .int kn, .ref (ad 45), .int (nI n), .int th, .int m, .int q, .int te, .long fx, .long fy, .long nx, .long ny, .long ux, .long uy, .int us, .long px, .long py, .ref (ad 46), .ref (ad 47), .int (nI ((p + 1) + 1)), .int (nI p), .int 1, .int (hM tm n p), .int (0 + hM tm n (p + 1) - 48), .int re, .int ca]) (Nat.le_of_ble_eq_true rfl) rfl dX9_takesOrder_71 (fun gg103 hh104 aa105 => ?_)
        have AA106 : Agr [40] G gg103 := AA102.tr aa105 (by simp) (by simp)
        refine G_aload_n C 0 dX9_takesOrder_74 rfl rfl ?_
        refine G_aload_n C 0 dX9_takesOrder_75 rfl rfl ?_
        refine G_callV C (As := []) (rest := [.ref (ad 40)]) (c_X9_here hh104 ((aa105 45 (by decide)).trans ((aa101 45 (by decide)).trans ((aa95 45 (by decide)).trans ((aa14 45 (by decide)).trans ((aa7 45 (by decide)).trans ((aa3 45 (by decide)).trans g45)))))) hn (show ((p + 1) + 1) ≤ 70 by omega)) ca_X9_here km_X9_209 (by decide) hh104 rfl rfl rfl rfl (by decide) (Nat.le_of_ble_eq_true rfl) (by decide) dX9_takesOrder_76 (fun vv107 gg108 qq109 => ?_)
        obtain ⟨rfl, rfl⟩ := qq109
        refine G_bipush C (v := 59) dX9_takesOrder_79 (by decide) ?_
        refine G_icmp_ne C 88 dX9_takesOrder_81 (by decide) (fun c81 => ?_) (fun c81 => False.elim (hse c81))
        refine G_iconst C (v := 0) dX9_takesOrder_88 (by decide) ?_
        refine G_callV C (As := [.int 0]) (rest := []) (c_X9_takes10 hh104) ca_X9_takes km_X9_218 (by decide) hh104 rfl rfl rfl rfl (by decide) (Nat.le_of_ble_eq_true rfl) (by decide) dX9_takesOrder_89 (fun vv110 gg111 qq112 => ?_)
        obtain ⟨rfl, hh113, aa114⟩ := qq112
        have AA115 : Agr [40] G gg111 := AA106.tr aa114 (by simp) (by simp)
        exact G_vret C hr dX9_takesOrder_92 ⟨rfl, hh113, AA115⟩

abbrev rm_X9_to11Y : Room := ({ frames := 2, cells := 0, slots := 0, locals := 44 } : Room)
set_option maxRecDepth 100000 in
set_option maxHeartbeats 4000000 in
theorem c_X9_to11Y {L : GL} {ad : Nat → Nat} {G : Nat → va_E} {p : Nat} {n : Nat} {tm : Nat → Int32} {ik kn th m q te us bg fo le fi re ca : Int32} {fx fy nx ny ux uy px py : Int64}  (g40 : G 40 = .inr (9, [.ref (ad 41), .ref (ad 42), .ref (ad 43), .int ik, .ref (ad 44), .int kn, .ref (ad 45), .int (nI n), .int th, .int m, .int q, .int te, .long fx, .long fy, .long nx, .long ny, .long ux, .long uy, .int us, .long px, .long py, .ref (ad 46), .ref (ad 47), .int (nI p), .int bg, .int fo, .int le, .int fi, .int re, .int ca])) (g45 : G 45 = .inl (L.ac 0, 60, .inl tm)) (hn : n ≤ 60) (hpp : p < 60) (hio : ¬ ioF (hM tm n p) = 0) (hd0 : ¬ dgF (hM tm n (p + 1)) = 0) (hd1 : dgF (hM tm n (p + 1 + 1)) = 0) (hse : hM tm n (p + 1 + 1) = 59) : GM L yX9_takesOrder cX9_takesOrder 1 (none) rm_X9_to11Y 50 ad G [.ref (ad 40)] (fun vo G' => vo = none ∧ G' 40 = .inr (9, [.ref (ad 41), .ref (ad 42), .ref (ad 43), .int ik, .ref (ad 44), .int kn, .ref (ad 45), .int (nI n), .int th, .int m, .int q, .int te, .long fx, .long fy, .long nx, .long ny, .long ux, .long uy, .int us, .long px, .long py, .ref (ad 46), .ref (ad 47), .int (nI (p + 1 + 1 + 1)), .int (nI p), .int 1, .int (hM tm n p), .int (0 + hM tm n (p + 1) - 48), .int re, .int ca]) ∧ Agr [40] G G') := by
  refine GM.of (own := RX9) (lo := [(0, .ref (ad 40))]) (by decide +kernel) rfl rfl (Nat.le_of_ble_eq_true rfl) (fun E C hr => ?_)
  refine G_aload_n C 0 dX9_takesOrder_0 rfl rfl ?_
  refine G_aload_n C 0 dX9_takesOrder_1 rfl rfl ?_
  refine G_get C 40 (by decide) g40 rfl inA9 23 (by decide) rfl kf_X9_203 rfl dX9_takesOrder_2 ?_
  refine G_putp C 40 (by decide) g40 rfl inA9 tyX9_ok nmX9 24 (by decide) rfl kf_X9_212 rfl rfl rfl (fs' := [.ref (ad 41), .ref (ad 42), .ref (ad 43), .int ik, .ref (ad 44), .int kn, .ref (ad 45), .int (nI n), .int th, .int m, .int q, .int te, .long fx, .long fy, .long nx, .long ny, .long ux, .long uy, .int us, .long px, .long py, .ref (ad 46), .ref (ad 47), .int (nI p), .int (nI p), .int fo, .int le, .int fi, .int re, .int ca]) (Nat.le_of_ble_eq_true rfl) rfl dX9_takesOrder_5 (fun gg1 hh2 aa3 => ?_)
  have AA4 : Agr [40] G gg1 := aa3.wk (by simp)
  refine G_aload_n C 0 dX9_takesOrder_8 rfl rfl ?_
  refine G_iconst C (v := 1) dX9_takesOrder_9 (by decide) ?_
  refine G_putp C 40 (by decide) hh2 rfl inA9 tyX9_ok nmX9 25 (by decide) rfl kf_X9_206 rfl rfl rfl (fs' := [.ref (ad 41), .ref (ad 42), .ref (ad 43), .int ik, .ref (ad 44), .int kn, .ref (ad 45), .int (nI n), .int th, .int m, .int q, .int te, .long fx, .long fy, .long nx, .long ny, .long ux, .long uy, .int us, .long px, .long py, .ref (ad 46), .ref (ad 47), .int (nI p), .int (nI p), .int 1, .int le, .int fi, .int re, .int ca]) (Nat.le_of_ble_eq_true rfl) rfl dX9_takesOrder_10 (fun gg5 hh6 aa7 => ?_)
  have AA8 : Agr [40] G gg5 := AA4.tr aa7 (by simp) (by simp)
  refine G_aload_n C 0 dX9_takesOrder_13 rfl rfl ?_
  refine G_aload_n C 0 dX9_takesOrder_14 rfl rfl ?_
  refine G_callV C (As := []) (rest := [.ref (ad 40)]) (c_X9_here hh6 ((aa7 45 (by decide)).trans ((aa3 45 (by decide)).trans g45)) hn (show p ≤ 70 by omega)) ca_X9_here km_X9_209 (by decide) hh6 rfl rfl rfl rfl (by decide) (Nat.le_of_ble_eq_true rfl) (by decide) dX9_takesOrder_15 (fun vv9 gg10 qq11 => ?_)
  obtain ⟨rfl, rfl⟩ := qq11
  refine G_putp C 40 (by decide) hh6 rfl inA9 tyX9_ok nmX9 26 (by decide) rfl kf_X9_215 rfl rfl rfl (fs' := [.ref (ad 41), .ref (ad 42), .ref (ad 43), .int ik, .ref (ad 44), .int kn, .ref (ad 45), .int (nI n), .int th, .int m, .int q, .int te, .long fx, .long fy, .long nx, .long ny, .long ux, .long uy, .int us, .long px, .long py, .ref (ad 46), .ref (ad 47), .int (nI p), .int (nI p), .int 1, .int (hM tm n p), .int fi, .int re, .int ca]) (Nat.le_of_ble_eq_true rfl) rfl dX9_takesOrder_18 (fun gg12 hh13 aa14 => ?_)
  have AA15 : Agr [40] G gg12 := AA8.tr aa14 (by simp) (by simp)
  refine G_aload_n C 0 dX9_takesOrder_21 rfl rfl ?_
  refine G_aload_n C 0 dX9_takesOrder_22 rfl rfl ?_
  refine G_get C 40 (by decide) hh13 rfl inA9 26 (by decide) rfl kf_X9_215 rfl dX9_takesOrder_23 ?_
  refine G_bipush C (v := 108) dX9_takesOrder_26 (by decide) ?_
  refine G_icmp_eq C 58 dX9_takesOrder_28 (by decide) (fun c28 => ?_) (fun c28 => ?_)
  · refine G_iconst C (v := 1) dX9_takesOrder_58 (by decide) ?_
    refine G_goto C 63 dX9_takesOrder_59 (by decide) ?_
    refine G_callV C (As := [.int 1]) (rest := []) (c_X9_takes11 hh13) ca_X9_takes km_X9_218 (by decide) hh13 rfl rfl rfl rfl (by decide) (Nat.le_of_ble_eq_true rfl) (by decide) dX9_takesOrder_63 (fun vv16 gg17 qq18 => ?_)
    obtain ⟨rfl, hh19, aa20⟩ := qq18
    have AA21 : Agr [40] G gg17 := AA15.tr aa20 (by simp) (by simp)
    refine G_aload_n C 0 dX9_takesOrder_66 rfl rfl ?_
    refine G_aload_n C 0 dX9_takesOrder_67 rfl rfl ?_
    refine G_callV C (As := []) (rest := [.ref (ad 40)]) (c_X9_tn11 hh19 ((aa20 45 (by decide)).trans ((aa14 45 (by decide)).trans ((aa7 45 (by decide)).trans ((aa3 45 (by decide)).trans g45)))) hn (show p + 1 ≤ 60 by omega) hd0 hd1) ca_X9_takesNumber km_X9_222 (by decide) hh19 rfl rfl rfl rfl (by decide) (Nat.le_of_ble_eq_true rfl) (by decide) dX9_takesOrder_68 (fun vv22 gg23 qq24 => ?_)
    obtain ⟨rfl, hh25, aa26⟩ := qq24
    have AA27 : Agr [40] G gg23 := AA21.tr aa26 (by simp) (by simp)
    refine G_putp C 40 (by decide) hh25 rfl inA9 tyX9_ok nmX9 27 (by decide) rfl kf_X9_225 rfl rfl rfl (fs' := [.ref (ad 41), .ref (ad 42), .ref (ad 43), .int ik, .ref (ad 44), .int kn, .ref (ad 45), .int (nI n), .int th, .int m, .int q, .int te, .long fx, .long fy, .long nx, .long ny, .long ux, .long uy, .int us, .long px, .long py, .ref (ad 46), .ref (ad 47), .int (nI ((p + 1) + 1)), .int (nI p), .int 1, .int (hM tm n p), .int (0 + hM tm n (p + 1) - 48), .int re, .int ca]) (Nat.le_of_ble_eq_true rfl) rfl dX9_takesOrder_71 (fun gg28 hh29 aa30 => ?_)
    have AA31 : Agr [40] G gg28 := AA27.tr aa30 (by simp) (by simp)
    refine G_aload_n C 0 dX9_takesOrder_74 rfl rfl ?_
    refine G_aload_n C 0 dX9_takesOrder_75 rfl rfl ?_
    refine G_callV C (As := []) (rest := [.ref (ad 40)]) (c_X9_here hh29 ((aa30 45 (by decide)).trans ((aa26 45 (by decide)).trans ((aa20 45 (by decide)).trans ((aa14 45 (by decide)).trans ((aa7 45 (by decide)).trans ((aa3 45 (by decide)).trans g45)))))) hn (show ((p + 1) + 1) ≤ 70 by omega)) ca_X9_here km_X9_209 (by decide) hh29 rfl rfl rfl rfl (by decide) (Nat.le_of_ble_eq_true rfl) (by decide) dX9_takesOrder_76 (fun vv32 gg33 qq34 => ?_)
    obtain ⟨rfl, rfl⟩ := qq34
    refine G_bipush C (v := 59) dX9_takesOrder_79 (by decide) ?_
    refine G_icmp_ne C 88 dX9_takesOrder_81 (by decide) (fun c81 => False.elim (c81 hse)) (fun c81 => ?_)
    refine G_iconst C (v := 1) dX9_takesOrder_84 (by decide) ?_
    refine G_goto C 89 dX9_takesOrder_85 (by decide) ?_
    refine G_callV C (As := [.int 1]) (rest := []) (c_X9_takes11 hh29) ca_X9_takes km_X9_218 (by decide) hh29 rfl rfl rfl rfl (by decide) (Nat.le_of_ble_eq_true rfl) (by decide) dX9_takesOrder_89 (fun vv35 gg36 qq37 => ?_)
    obtain ⟨rfl, hh38, aa39⟩ := qq37
    have AA40 : Agr [40] G gg36 := AA31.tr aa39 (by simp) (by simp)
    exact G_vret C hr dX9_takesOrder_92 ⟨rfl, hh38, AA40⟩
  · refine G_aload_n C 0 dX9_takesOrder_31 rfl rfl ?_
    refine G_get C 40 (by decide) hh13 rfl inA9 26 (by decide) rfl kf_X9_215 rfl dX9_takesOrder_32 ?_
    refine G_bipush C (v := 116) dX9_takesOrder_35 (by decide) ?_
    refine G_icmp_eq C 58 dX9_takesOrder_37 (by decide) (fun c37 => ?_) (fun c37 => ?_)
    · refine G_iconst C (v := 1) dX9_takesOrder_58 (by decide) ?_
      refine G_goto C 63 dX9_takesOrder_59 (by decide) ?_
      refine G_callV C (As := [.int 1]) (rest := []) (c_X9_takes11 hh13) ca_X9_takes km_X9_218 (by decide) hh13 rfl rfl rfl rfl (by decide) (Nat.le_of_ble_eq_true rfl) (by decide) dX9_takesOrder_63 (fun vv41 gg42 qq43 => ?_)
      obtain ⟨rfl, hh44, aa45⟩ := qq43
      have AA46 : Agr [40] G gg42 := AA15.tr aa45 (by simp) (by simp)
      refine G_aload_n C 0 dX9_takesOrder_66 rfl rfl ?_
      refine G_aload_n C 0 dX9_takesOrder_67 rfl rfl ?_
      refine G_callV C (As := []) (rest := [.ref (ad 40)]) (c_X9_tn11 hh44 ((aa45 45 (by decide)).trans ((aa14 45 (by decide)).trans ((aa7 45 (by decide)).trans ((aa3 45 (by decide)).trans g45)))) hn (show p + 1 ≤ 60 by omega) hd0 hd1) ca_X9_takesNumber km_X9_222 (by decide) hh44 rfl rfl rfl rfl (by decide) (Nat.le_of_ble_eq_true rfl) (by decide) dX9_takesOrder_68 (fun vv47 gg48 qq49 => ?_)
      obtain ⟨rfl, hh50, aa51⟩ := qq49
      have AA52 : Agr [40] G gg48 := AA46.tr aa51 (by simp) (by simp)
      refine G_putp C 40 (by decide) hh50 rfl inA9 tyX9_ok nmX9 27 (by decide) rfl kf_X9_225 rfl rfl rfl (fs' := [.ref (ad 41), .ref (ad 42), .ref (ad 43), .int ik, .ref (ad 44), .int kn, .ref (ad 45), .int (nI n), .int th, .int m, .int q, .int te, .long fx, .long fy, .long nx, .long ny, .long ux, .long uy, .int us, .long px, .long py, .ref (ad 46), .ref (ad 47), .int (nI ((p + 1) + 1)), .int (nI p), .int 1, .int (hM tm n p), .int (0 + hM tm n (p + 1) - 48), .int re, .int ca]) (Nat.le_of_ble_eq_true rfl) rfl dX9_takesOrder_71 (fun gg53 hh54 aa55 => ?_)
      have AA56 : Agr [40] G gg53 := AA52.tr aa55 (by simp) (by simp)
      refine G_aload_n C 0 dX9_takesOrder_74 rfl rfl ?_
      refine G_aload_n C 0 dX9_takesOrder_75 rfl rfl ?_
      refine G_callV C (As := []) (rest := [.ref (ad 40)]) (c_X9_here hh54 ((aa55 45 (by decide)).trans ((aa51 45 (by decide)).trans ((aa45 45 (by decide)).trans ((aa14 45 (by decide)).trans ((aa7 45 (by decide)).trans ((aa3 45 (by decide)).trans g45)))))) hn (show ((p + 1) + 1) ≤ 70 by omega)) ca_X9_here km_X9_209 (by decide) hh54 rfl rfl rfl rfl (by decide) (Nat.le_of_ble_eq_true rfl) (by decide) dX9_takesOrder_76 (fun vv57 gg58 qq59 => ?_)
      obtain ⟨rfl, rfl⟩ := qq59
      refine G_bipush C (v := 59) dX9_takesOrder_79 (by decide) ?_
      refine G_icmp_ne C 88 dX9_takesOrder_81 (by decide) (fun c81 => False.elim (c81 hse)) (fun c81 => ?_)
      refine G_iconst C (v := 1) dX9_takesOrder_84 (by decide) ?_
      refine G_goto C 89 dX9_takesOrder_85 (by decide) ?_
      refine G_callV C (As := [.int 1]) (rest := []) (c_X9_takes11 hh54) ca_X9_takes km_X9_218 (by decide) hh54 rfl rfl rfl rfl (by decide) (Nat.le_of_ble_eq_true rfl) (by decide) dX9_takesOrder_89 (fun vv60 gg61 qq62 => ?_)
      obtain ⟨rfl, hh63, aa64⟩ := qq62
      have AA65 : Agr [40] G gg61 := AA56.tr aa64 (by simp) (by simp)
      exact G_vret C hr dX9_takesOrder_92 ⟨rfl, hh63, AA65⟩
    · refine G_aload_n C 0 dX9_takesOrder_40 rfl rfl ?_
      refine G_get C 40 (by decide) hh13 rfl inA9 26 (by decide) rfl kf_X9_215 rfl dX9_takesOrder_41 ?_
      refine G_bipush C (v := 109) dX9_takesOrder_44 (by decide) ?_
      refine G_icmp_eq C 58 dX9_takesOrder_46 (by decide) (fun c46 => ?_) (fun c46 => ?_)
      · refine G_iconst C (v := 1) dX9_takesOrder_58 (by decide) ?_
        refine G_goto C 63 dX9_takesOrder_59 (by decide) ?_
        refine G_callV C (As := [.int 1]) (rest := []) (c_X9_takes11 hh13) ca_X9_takes km_X9_218 (by decide) hh13 rfl rfl rfl rfl (by decide) (Nat.le_of_ble_eq_true rfl) (by decide) dX9_takesOrder_63 (fun vv66 gg67 qq68 => ?_)
        obtain ⟨rfl, hh69, aa70⟩ := qq68
        have AA71 : Agr [40] G gg67 := AA15.tr aa70 (by simp) (by simp)
        refine G_aload_n C 0 dX9_takesOrder_66 rfl rfl ?_
        refine G_aload_n C 0 dX9_takesOrder_67 rfl rfl ?_
        refine G_callV C (As := []) (rest := [.ref (ad 40)]) (c_X9_tn11 hh69 ((aa70 45 (by decide)).trans ((aa14 45 (by decide)).trans ((aa7 45 (by decide)).trans ((aa3 45 (by decide)).trans g45)))) hn (show p + 1 ≤ 60 by omega) hd0 hd1) ca_X9_takesNumber km_X9_222 (by decide) hh69 rfl rfl rfl rfl (by decide) (Nat.le_of_ble_eq_true rfl) (by decide) dX9_takesOrder_68 (fun vv72 gg73 qq74 => ?_)
        obtain ⟨rfl, hh75, aa76⟩ := qq74
        have AA77 : Agr [40] G gg73 := AA71.tr aa76 (by simp) (by simp)
        refine G_putp C 40 (by decide) hh75 rfl inA9 tyX9_ok nmX9 27 (by decide) rfl kf_X9_225 rfl rfl rfl (fs' := [.ref (ad 41), .ref (ad 42), .ref (ad 43), .int ik, .ref (ad 44), .int kn, .ref (ad 45), .int (nI n), .int th, .int m, .int q, .int te, .long fx, .long fy, .long nx, .long ny, .long ux, .long uy, .int us, .long px, .long py, .ref (ad 46), .ref (ad 47), .int (nI ((p + 1) + 1)), .int (nI p), .int 1, .int (hM tm n p), .int (0 + hM tm n (p + 1) - 48), .int re, .int ca]) (Nat.le_of_ble_eq_true rfl) rfl dX9_takesOrder_71 (fun gg78 hh79 aa80 => ?_)
        have AA81 : Agr [40] G gg78 := AA77.tr aa80 (by simp) (by simp)
        refine G_aload_n C 0 dX9_takesOrder_74 rfl rfl ?_
        refine G_aload_n C 0 dX9_takesOrder_75 rfl rfl ?_
        refine G_callV C (As := []) (rest := [.ref (ad 40)]) (c_X9_here hh79 ((aa80 45 (by decide)).trans ((aa76 45 (by decide)).trans ((aa70 45 (by decide)).trans ((aa14 45 (by decide)).trans ((aa7 45 (by decide)).trans ((aa3 45 (by decide)).trans g45)))))) hn (show ((p + 1) + 1) ≤ 70 by omega)) ca_X9_here km_X9_209 (by decide) hh79 rfl rfl rfl rfl (by decide) (Nat.le_of_ble_eq_true rfl) (by decide) dX9_takesOrder_76 (fun vv82 gg83 qq84 => ?_)
        obtain ⟨rfl, rfl⟩ := qq84
        refine G_bipush C (v := 59) dX9_takesOrder_79 (by decide) ?_
        refine G_icmp_ne C 88 dX9_takesOrder_81 (by decide) (fun c81 => False.elim (c81 hse)) (fun c81 => ?_)
        refine G_iconst C (v := 1) dX9_takesOrder_84 (by decide) ?_
        refine G_goto C 89 dX9_takesOrder_85 (by decide) ?_
        refine G_callV C (As := [.int 1]) (rest := []) (c_X9_takes11 hh79) ca_X9_takes km_X9_218 (by decide) hh79 rfl rfl rfl rfl (by decide) (Nat.le_of_ble_eq_true rfl) (by decide) dX9_takesOrder_89 (fun vv85 gg86 qq87 => ?_)
        obtain ⟨rfl, hh88, aa89⟩ := qq87
        have AA90 : Agr [40] G gg86 := AA81.tr aa89 (by simp) (by simp)
        exact G_vret C hr dX9_takesOrder_92 ⟨rfl, hh88, AA90⟩
      · refine G_aload_n C 0 dX9_takesOrder_49 rfl rfl ?_
        refine G_get C 40 (by decide) hh13 rfl inA9 26 (by decide) rfl kf_X9_215 rfl dX9_takesOrder_50 ?_
        refine G_bipush C (v := 98) dX9_takesOrder_53 (by decide) ?_
        refine G_icmp_ne C 62 dX9_takesOrder_55 (by decide) (fun c55 => False.elim (hio (by rw [ioF, if_neg c28, if_neg c37, if_neg c46, if_neg c55]))) (fun c55 => ?_)
        refine G_iconst C (v := 1) dX9_takesOrder_58 (by decide) ?_
        refine G_goto C 63 dX9_takesOrder_59 (by decide) ?_
        refine G_callV C (As := [.int 1]) (rest := []) (c_X9_takes11 hh13) ca_X9_takes km_X9_218 (by decide) hh13 rfl rfl rfl rfl (by decide) (Nat.le_of_ble_eq_true rfl) (by decide) dX9_takesOrder_63 (fun vv91 gg92 qq93 => ?_)
        obtain ⟨rfl, hh94, aa95⟩ := qq93
        have AA96 : Agr [40] G gg92 := AA15.tr aa95 (by simp) (by simp)
        refine G_aload_n C 0 dX9_takesOrder_66 rfl rfl ?_
        refine G_aload_n C 0 dX9_takesOrder_67 rfl rfl ?_
        refine G_callV C (As := []) (rest := [.ref (ad 40)]) (c_X9_tn11 hh94 ((aa95 45 (by decide)).trans ((aa14 45 (by decide)).trans ((aa7 45 (by decide)).trans ((aa3 45 (by decide)).trans g45)))) hn (show p + 1 ≤ 60 by omega) hd0 hd1) ca_X9_takesNumber km_X9_222 (by decide) hh94 rfl rfl rfl rfl (by decide) (Nat.le_of_ble_eq_true rfl) (by decide) dX9_takesOrder_68 (fun vv97 gg98 qq99 => ?_)
        obtain ⟨rfl, hh100, aa101⟩ := qq99
        have AA102 : Agr [40] G gg98 := AA96.tr aa101 (by simp) (by simp)
        refine G_putp C 40 (by decide) hh100 rfl inA9 tyX9_ok nmX9 27 (by decide) rfl kf_X9_225 rfl rfl rfl (fs' := [.ref (ad 41), .ref (ad 42), .ref (ad 43), .int ik, .ref (ad 44), .int kn, .ref (ad 45), .int (nI n), .int th, .int m, .int q, .int te, .long fx, .long fy, .long nx, .long ny, .long ux, .long uy, .int us, .long px, .long py, .ref (ad 46), .ref (ad 47), .int (nI ((p + 1) + 1)), .int (nI p), .int 1, .int (hM tm n p), .int (0 + hM tm n (p + 1) - 48), .int re, .int ca]) (Nat.le_of_ble_eq_true rfl) rfl dX9_takesOrder_71 (fun gg103 hh104 aa105 => ?_)
        have AA106 : Agr [40] G gg103 := AA102.tr aa105 (by simp) (by simp)
        refine G_aload_n C 0 dX9_takesOrder_74 rfl rfl ?_
        refine G_aload_n C 0 dX9_takesOrder_75 rfl rfl ?_
        refine G_callV C (As := []) (rest := [.ref (ad 40)]) (c_X9_here hh104 ((aa105 45 (by decide)).trans ((aa101 45 (by decide)).trans ((aa95 45 (by decide)).trans ((aa14 45 (by decide)).trans ((aa7 45 (by decide)).trans ((aa3 45 (by decide)).trans g45)))))) hn (show ((p + 1) + 1) ≤ 70 by omega)) ca_X9_here km_X9_209 (by decide) hh104 rfl rfl rfl rfl (by decide) (Nat.le_of_ble_eq_true rfl) (by decide) dX9_takesOrder_76 (fun vv107 gg108 qq109 => ?_)
        obtain ⟨rfl, rfl⟩ := qq109
        refine G_bipush C (v := 59) dX9_takesOrder_79 (by decide) ?_
        refine G_icmp_ne C 88 dX9_takesOrder_81 (by decide) (fun c81 => False.elim (c81 hse)) (fun c81 => ?_)
        refine G_iconst C (v := 1) dX9_takesOrder_84 (by decide) ?_
        refine G_goto C 89 dX9_takesOrder_85 (by decide) ?_
        refine G_callV C (As := [.int 1]) (rest := []) (c_X9_takes11 hh104) ca_X9_takes km_X9_218 (by decide) hh104 rfl rfl rfl rfl (by decide) (Nat.le_of_ble_eq_true rfl) (by decide) dX9_takesOrder_89 (fun vv110 gg111 qq112 => ?_)
        obtain ⟨rfl, hh113, aa114⟩ := qq112
        have AA115 : Agr [40] G gg111 := AA106.tr aa114 (by simp) (by simp)
        exact G_vret C hr dX9_takesOrder_92 ⟨rfl, hh113, AA115⟩

abbrev rm_X9_to12N : Room := ({ frames := 2, cells := 0, slots := 0, locals := 44 } : Room)
set_option maxRecDepth 100000 in
set_option maxHeartbeats 4000000 in
theorem c_X9_to12N {L : GL} {ad : Nat → Nat} {G : Nat → va_E} {p : Nat} {n : Nat} {tm : Nat → Int32} {ik kn th m q te us bg fo le fi re ca : Int32} {fx fy nx ny ux uy px py : Int64}  (g40 : G 40 = .inr (9, [.ref (ad 41), .ref (ad 42), .ref (ad 43), .int ik, .ref (ad 44), .int kn, .ref (ad 45), .int (nI n), .int th, .int m, .int q, .int te, .long fx, .long fy, .long nx, .long ny, .long ux, .long uy, .int us, .long px, .long py, .ref (ad 46), .ref (ad 47), .int (nI p), .int bg, .int fo, .int le, .int fi, .int re, .int ca])) (g45 : G 45 = .inl (L.ac 0, 60, .inl tm)) (hn : n ≤ 60) (hpp : p < 60) (hio : ¬ ioF (hM tm n p) = 0) (hd0 : ¬ dgF (hM tm n (p + 1)) = 0) (hd1 : ¬ dgF (hM tm n (p + 1 + 1)) = 0) (hse : ¬ hM tm n (p + 1 + 1 + 1) = 59) : GM L yX9_takesOrder cX9_takesOrder 1 (none) rm_X9_to12N 50 ad G [.ref (ad 40)] (fun vo G' => vo = none ∧ G' 40 = .inr (9, [.ref (ad 41), .ref (ad 42), .ref (ad 43), .int ik, .ref (ad 44), .int kn, .ref (ad 45), .int (nI n), .int th, .int m, .int q, .int te, .long fx, .long fy, .long nx, .long ny, .long ux, .long uy, .int us, .long px, .long py, .ref (ad 46), .ref (ad 47), .int (nI (p + 1 + 1 + 1)), .int (nI p), .int 0, .int (hM tm n p), .int (10 * (0 + hM tm n (p + 1) - 48) + hM tm n (p + 1 + 1) - 48), .int re, .int ca]) ∧ Agr [40] G G') := by
  refine GM.of (own := RX9) (lo := [(0, .ref (ad 40))]) (by decide +kernel) rfl rfl (Nat.le_of_ble_eq_true rfl) (fun E C hr => ?_)
  refine G_aload_n C 0 dX9_takesOrder_0 rfl rfl ?_
  refine G_aload_n C 0 dX9_takesOrder_1 rfl rfl ?_
  refine G_get C 40 (by decide) g40 rfl inA9 23 (by decide) rfl kf_X9_203 rfl dX9_takesOrder_2 ?_
  refine G_putp C 40 (by decide) g40 rfl inA9 tyX9_ok nmX9 24 (by decide) rfl kf_X9_212 rfl rfl rfl (fs' := [.ref (ad 41), .ref (ad 42), .ref (ad 43), .int ik, .ref (ad 44), .int kn, .ref (ad 45), .int (nI n), .int th, .int m, .int q, .int te, .long fx, .long fy, .long nx, .long ny, .long ux, .long uy, .int us, .long px, .long py, .ref (ad 46), .ref (ad 47), .int (nI p), .int (nI p), .int fo, .int le, .int fi, .int re, .int ca]) (Nat.le_of_ble_eq_true rfl) rfl dX9_takesOrder_5 (fun gg1 hh2 aa3 => ?_)
  have AA4 : Agr [40] G gg1 := aa3.wk (by simp)
  refine G_aload_n C 0 dX9_takesOrder_8 rfl rfl ?_
  refine G_iconst C (v := 1) dX9_takesOrder_9 (by decide) ?_
  refine G_putp C 40 (by decide) hh2 rfl inA9 tyX9_ok nmX9 25 (by decide) rfl kf_X9_206 rfl rfl rfl (fs' := [.ref (ad 41), .ref (ad 42), .ref (ad 43), .int ik, .ref (ad 44), .int kn, .ref (ad 45), .int (nI n), .int th, .int m, .int q, .int te, .long fx, .long fy, .long nx, .long ny, .long ux, .long uy, .int us, .long px, .long py, .ref (ad 46), .ref (ad 47), .int (nI p), .int (nI p), .int 1, .int le, .int fi, .int re, .int ca]) (Nat.le_of_ble_eq_true rfl) rfl dX9_takesOrder_10 (fun gg5 hh6 aa7 => ?_)
  have AA8 : Agr [40] G gg5 := AA4.tr aa7 (by simp) (by simp)
  refine G_aload_n C 0 dX9_takesOrder_13 rfl rfl ?_
  refine G_aload_n C 0 dX9_takesOrder_14 rfl rfl ?_
  refine G_callV C (As := []) (rest := [.ref (ad 40)]) (c_X9_here hh6 ((aa7 45 (by decide)).trans ((aa3 45 (by decide)).trans g45)) hn (show p ≤ 70 by omega)) ca_X9_here km_X9_209 (by decide) hh6 rfl rfl rfl rfl (by decide) (Nat.le_of_ble_eq_true rfl) (by decide) dX9_takesOrder_15 (fun vv9 gg10 qq11 => ?_)
  obtain ⟨rfl, rfl⟩ := qq11
  refine G_putp C 40 (by decide) hh6 rfl inA9 tyX9_ok nmX9 26 (by decide) rfl kf_X9_215 rfl rfl rfl (fs' := [.ref (ad 41), .ref (ad 42), .ref (ad 43), .int ik, .ref (ad 44), .int kn, .ref (ad 45), .int (nI n), .int th, .int m, .int q, .int te, .long fx, .long fy, .long nx, .long ny, .long ux, .long uy, .int us, .long px, .long py, .ref (ad 46), .ref (ad 47), .int (nI p), .int (nI p), .int 1, .int (hM tm n p), .int fi, .int re, .int ca]) (Nat.le_of_ble_eq_true rfl) rfl dX9_takesOrder_18 (fun gg12 hh13 aa14 => ?_)
  have AA15 : Agr [40] G gg12 := AA8.tr aa14 (by simp) (by simp)
  refine G_aload_n C 0 dX9_takesOrder_21 rfl rfl ?_
  refine G_aload_n C 0 dX9_takesOrder_22 rfl rfl ?_
  refine G_get C 40 (by decide) hh13 rfl inA9 26 (by decide) rfl kf_X9_215 rfl dX9_takesOrder_23 ?_
  refine G_bipush C (v := 108) dX9_takesOrder_26 (by decide) ?_
  refine G_icmp_eq C 58 dX9_takesOrder_28 (by decide) (fun c28 => ?_) (fun c28 => ?_)
  · refine G_iconst C (v := 1) dX9_takesOrder_58 (by decide) ?_
    refine G_goto C 63 dX9_takesOrder_59 (by decide) ?_
    refine G_callV C (As := [.int 1]) (rest := []) (c_X9_takes11 hh13) ca_X9_takes km_X9_218 (by decide) hh13 rfl rfl rfl rfl (by decide) (Nat.le_of_ble_eq_true rfl) (by decide) dX9_takesOrder_63 (fun vv16 gg17 qq18 => ?_)
    obtain ⟨rfl, hh19, aa20⟩ := qq18
    have AA21 : Agr [40] G gg17 := AA15.tr aa20 (by simp) (by simp)
    refine G_aload_n C 0 dX9_takesOrder_66 rfl rfl ?_
    refine G_aload_n C 0 dX9_takesOrder_67 rfl rfl ?_
    refine G_callV C (As := []) (rest := [.ref (ad 40)]) (c_X9_tn12 hh19 ((aa20 45 (by decide)).trans ((aa14 45 (by decide)).trans ((aa7 45 (by decide)).trans ((aa3 45 (by decide)).trans g45)))) hn (show p + 1 ≤ 60 by omega) hd0 hd1) ca_X9_takesNumber km_X9_222 (by decide) hh19 rfl rfl rfl rfl (by decide) (Nat.le_of_ble_eq_true rfl) (by decide) dX9_takesOrder_68 (fun vv22 gg23 qq24 => ?_)
    obtain ⟨rfl, hh25, aa26⟩ := qq24
    have AA27 : Agr [40] G gg23 := AA21.tr aa26 (by simp) (by simp)
    refine G_putp C 40 (by decide) hh25 rfl inA9 tyX9_ok nmX9 27 (by decide) rfl kf_X9_225 rfl rfl rfl (fs' := [.ref (ad 41), .ref (ad 42), .ref (ad 43), .int ik, .ref (ad 44), .int kn, .ref (ad 45), .int (nI n), .int th, .int m, .int q, .int te, .long fx, .long fy, .long nx, .long ny, .long ux, .long uy, .int us, .long px, .long py, .ref (ad 46), .ref (ad 47), .int (nI ((p + 1) + 1 + 1)), .int (nI p), .int 1, .int (hM tm n p), .int (10 * (0 + hM tm n (p + 1) - 48) + hM tm n ((p + 1) + 1) - 48), .int re, .int ca]) (Nat.le_of_ble_eq_true rfl) rfl dX9_takesOrder_71 (fun gg28 hh29 aa30 => ?_)
    have AA31 : Agr [40] G gg28 := AA27.tr aa30 (by simp) (by simp)
    refine G_aload_n C 0 dX9_takesOrder_74 rfl rfl ?_
    refine G_aload_n C 0 dX9_takesOrder_75 rfl rfl ?_
    refine G_callV C (As := []) (rest := [.ref (ad 40)]) (c_X9_here hh29 ((aa30 45 (by decide)).trans ((aa26 45 (by decide)).trans ((aa20 45 (by decide)).trans ((aa14 45 (by decide)).trans ((aa7 45 (by decide)).trans ((aa3 45 (by decide)).trans g45)))))) hn (show ((p + 1) + 1 + 1) ≤ 70 by omega)) ca_X9_here km_X9_209 (by decide) hh29 rfl rfl rfl rfl (by decide) (Nat.le_of_ble_eq_true rfl) (by decide) dX9_takesOrder_76 (fun vv32 gg33 qq34 => ?_)
    obtain ⟨rfl, rfl⟩ := qq34
    refine G_bipush C (v := 59) dX9_takesOrder_79 (by decide) ?_
    refine G_icmp_ne C 88 dX9_takesOrder_81 (by decide) (fun c81 => ?_) (fun c81 => False.elim (hse c81))
    refine G_iconst C (v := 0) dX9_takesOrder_88 (by decide) ?_
    refine G_callV C (As := [.int 0]) (rest := []) (c_X9_takes10 hh29) ca_X9_takes km_X9_218 (by decide) hh29 rfl rfl rfl rfl (by decide) (Nat.le_of_ble_eq_true rfl) (by decide) dX9_takesOrder_89 (fun vv35 gg36 qq37 => ?_)
    obtain ⟨rfl, hh38, aa39⟩ := qq37
    have AA40 : Agr [40] G gg36 := AA31.tr aa39 (by simp) (by simp)
    exact G_vret C hr dX9_takesOrder_92 ⟨rfl, hh38, AA40⟩
  · refine G_aload_n C 0 dX9_takesOrder_31 rfl rfl ?_
    refine G_get C 40 (by decide) hh13 rfl inA9 26 (by decide) rfl kf_X9_215 rfl dX9_takesOrder_32 ?_
    refine G_bipush C (v := 116) dX9_takesOrder_35 (by decide) ?_
    refine G_icmp_eq C 58 dX9_takesOrder_37 (by decide) (fun c37 => ?_) (fun c37 => ?_)
    · refine G_iconst C (v := 1) dX9_takesOrder_58 (by decide) ?_
      refine G_goto C 63 dX9_takesOrder_59 (by decide) ?_
      refine G_callV C (As := [.int 1]) (rest := []) (c_X9_takes11 hh13) ca_X9_takes km_X9_218 (by decide) hh13 rfl rfl rfl rfl (by decide) (Nat.le_of_ble_eq_true rfl) (by decide) dX9_takesOrder_63 (fun vv41 gg42 qq43 => ?_)
      obtain ⟨rfl, hh44, aa45⟩ := qq43
      have AA46 : Agr [40] G gg42 := AA15.tr aa45 (by simp) (by simp)
      refine G_aload_n C 0 dX9_takesOrder_66 rfl rfl ?_
      refine G_aload_n C 0 dX9_takesOrder_67 rfl rfl ?_
      refine G_callV C (As := []) (rest := [.ref (ad 40)]) (c_X9_tn12 hh44 ((aa45 45 (by decide)).trans ((aa14 45 (by decide)).trans ((aa7 45 (by decide)).trans ((aa3 45 (by decide)).trans g45)))) hn (show p + 1 ≤ 60 by omega) hd0 hd1) ca_X9_takesNumber km_X9_222 (by decide) hh44 rfl rfl rfl rfl (by decide) (Nat.le_of_ble_eq_true rfl) (by decide) dX9_takesOrder_68 (fun vv47 gg48 qq49 => ?_)
      obtain ⟨rfl, hh50, aa51⟩ := qq49
      have AA52 : Agr [40] G gg48 := AA46.tr aa51 (by simp) (by simp)
      refine G_putp C 40 (by decide) hh50 rfl inA9 tyX9_ok nmX9 27 (by decide) rfl kf_X9_225 rfl rfl rfl (fs' := [.ref (ad 41), .ref (ad 42), .ref (ad 43), .int ik, .ref (ad 44), .int kn, .ref (ad 45), .int (nI n), .int th, .int m, .int q, .int te, .long fx, .long fy, .long nx, .long ny, .long ux, .long uy, .int us, .long px, .long py, .ref (ad 46), .ref (ad 47), .int (nI ((p + 1) + 1 + 1)), .int (nI p), .int 1, .int (hM tm n p), .int (10 * (0 + hM tm n (p + 1) - 48) + hM tm n ((p + 1) + 1) - 48), .int re, .int ca]) (Nat.le_of_ble_eq_true rfl) rfl dX9_takesOrder_71 (fun gg53 hh54 aa55 => ?_)
      have AA56 : Agr [40] G gg53 := AA52.tr aa55 (by simp) (by simp)
      refine G_aload_n C 0 dX9_takesOrder_74 rfl rfl ?_
      refine G_aload_n C 0 dX9_takesOrder_75 rfl rfl ?_
      refine G_callV C (As := []) (rest := [.ref (ad 40)]) (c_X9_here hh54 ((aa55 45 (by decide)).trans ((aa51 45 (by decide)).trans ((aa45 45 (by decide)).trans ((aa14 45 (by decide)).trans ((aa7 45 (by decide)).trans ((aa3 45 (by decide)).trans g45)))))) hn (show ((p + 1) + 1 + 1) ≤ 70 by omega)) ca_X9_here km_X9_209 (by decide) hh54 rfl rfl rfl rfl (by decide) (Nat.le_of_ble_eq_true rfl) (by decide) dX9_takesOrder_76 (fun vv57 gg58 qq59 => ?_)
      obtain ⟨rfl, rfl⟩ := qq59
      refine G_bipush C (v := 59) dX9_takesOrder_79 (by decide) ?_
      refine G_icmp_ne C 88 dX9_takesOrder_81 (by decide) (fun c81 => ?_) (fun c81 => False.elim (hse c81))
      refine G_iconst C (v := 0) dX9_takesOrder_88 (by decide) ?_
      refine G_callV C (As := [.int 0]) (rest := []) (c_X9_takes10 hh54) ca_X9_takes km_X9_218 (by decide) hh54 rfl rfl rfl rfl (by decide) (Nat.le_of_ble_eq_true rfl) (by decide) dX9_takesOrder_89 (fun vv60 gg61 qq62 => ?_)
      obtain ⟨rfl, hh63, aa64⟩ := qq62
      have AA65 : Agr [40] G gg61 := AA56.tr aa64 (by simp) (by simp)
      exact G_vret C hr dX9_takesOrder_92 ⟨rfl, hh63, AA65⟩
    · refine G_aload_n C 0 dX9_takesOrder_40 rfl rfl ?_
      refine G_get C 40 (by decide) hh13 rfl inA9 26 (by decide) rfl kf_X9_215 rfl dX9_takesOrder_41 ?_
      refine G_bipush C (v := 109) dX9_takesOrder_44 (by decide) ?_
      refine G_icmp_eq C 58 dX9_takesOrder_46 (by decide) (fun c46 => ?_) (fun c46 => ?_)
      · refine G_iconst C (v := 1) dX9_takesOrder_58 (by decide) ?_
        refine G_goto C 63 dX9_takesOrder_59 (by decide) ?_
        refine G_callV C (As := [.int 1]) (rest := []) (c_X9_takes11 hh13) ca_X9_takes km_X9_218 (by decide) hh13 rfl rfl rfl rfl (by decide) (Nat.le_of_ble_eq_true rfl) (by decide) dX9_takesOrder_63 (fun vv66 gg67 qq68 => ?_)
        obtain ⟨rfl, hh69, aa70⟩ := qq68
        have AA71 : Agr [40] G gg67 := AA15.tr aa70 (by simp) (by simp)
        refine G_aload_n C 0 dX9_takesOrder_66 rfl rfl ?_
        refine G_aload_n C 0 dX9_takesOrder_67 rfl rfl ?_
        refine G_callV C (As := []) (rest := [.ref (ad 40)]) (c_X9_tn12 hh69 ((aa70 45 (by decide)).trans ((aa14 45 (by decide)).trans ((aa7 45 (by decide)).trans ((aa3 45 (by decide)).trans g45)))) hn (show p + 1 ≤ 60 by omega) hd0 hd1) ca_X9_takesNumber km_X9_222 (by decide) hh69 rfl rfl rfl rfl (by decide) (Nat.le_of_ble_eq_true rfl) (by decide) dX9_takesOrder_68 (fun vv72 gg73 qq74 => ?_)
        obtain ⟨rfl, hh75, aa76⟩ := qq74
        have AA77 : Agr [40] G gg73 := AA71.tr aa76 (by simp) (by simp)
        refine G_putp C 40 (by decide) hh75 rfl inA9 tyX9_ok nmX9 27 (by decide) rfl kf_X9_225 rfl rfl rfl (fs' := [.ref (ad 41), .ref (ad 42), .ref (ad 43), .int ik, .ref (ad 44), .int kn, .ref (ad 45), .int (nI n), .int th, .int m, .int q, .int te, .long fx, .long fy, .long nx, .long ny, .long ux, .long uy, .int us, .long px, .long py, .ref (ad 46), .ref (ad 47), .int (nI ((p + 1) + 1 + 1)), .int (nI p), .int 1, .int (hM tm n p), .int (10 * (0 + hM tm n (p + 1) - 48) + hM tm n ((p + 1) + 1) - 48), .int re, .int ca]) (Nat.le_of_ble_eq_true rfl) rfl dX9_takesOrder_71 (fun gg78 hh79 aa80 => ?_)
        have AA81 : Agr [40] G gg78 := AA77.tr aa80 (by simp) (by simp)
        refine G_aload_n C 0 dX9_takesOrder_74 rfl rfl ?_
        refine G_aload_n C 0 dX9_takesOrder_75 rfl rfl ?_
        refine G_callV C (As := []) (rest := [.ref (ad 40)]) (c_X9_here hh79 ((aa80 45 (by decide)).trans ((aa76 45 (by decide)).trans ((aa70 45 (by decide)).trans ((aa14 45 (by decide)).trans ((aa7 45 (by decide)).trans ((aa3 45 (by decide)).trans g45)))))) hn (show ((p + 1) + 1 + 1) ≤ 70 by omega)) ca_X9_here km_X9_209 (by decide) hh79 rfl rfl rfl rfl (by decide) (Nat.le_of_ble_eq_true rfl) (by decide) dX9_takesOrder_76 (fun vv82 gg83 qq84 => ?_)
        obtain ⟨rfl, rfl⟩ := qq84
        refine G_bipush C (v := 59) dX9_takesOrder_79 (by decide) ?_
        refine G_icmp_ne C 88 dX9_takesOrder_81 (by decide) (fun c81 => ?_) (fun c81 => False.elim (hse c81))
        refine G_iconst C (v := 0) dX9_takesOrder_88 (by decide) ?_
        refine G_callV C (As := [.int 0]) (rest := []) (c_X9_takes10 hh79) ca_X9_takes km_X9_218 (by decide) hh79 rfl rfl rfl rfl (by decide) (Nat.le_of_ble_eq_true rfl) (by decide) dX9_takesOrder_89 (fun vv85 gg86 qq87 => ?_)
        obtain ⟨rfl, hh88, aa89⟩ := qq87
        have AA90 : Agr [40] G gg86 := AA81.tr aa89 (by simp) (by simp)
        exact G_vret C hr dX9_takesOrder_92 ⟨rfl, hh88, AA90⟩
      · refine G_aload_n C 0 dX9_takesOrder_49 rfl rfl ?_
        refine G_get C 40 (by decide) hh13 rfl inA9 26 (by decide) rfl kf_X9_215 rfl dX9_takesOrder_50 ?_
        refine G_bipush C (v := 98) dX9_takesOrder_53 (by decide) ?_
        refine G_icmp_ne C 62 dX9_takesOrder_55 (by decide) (fun c55 => False.elim (hio (by rw [ioF, if_neg c28, if_neg c37, if_neg c46, if_neg c55]))) (fun c55 => ?_)
        refine G_iconst C (v := 1) dX9_takesOrder_58 (by decide) ?_
        refine G_goto C 63 dX9_takesOrder_59 (by decide) ?_
        refine G_callV C (As := [.int 1]) (rest := []) (c_X9_takes11 hh13) ca_X9_takes km_X9_218 (by decide) hh13 rfl rfl rfl rfl (by decide) (Nat.le_of_ble_eq_true rfl) (by decide) dX9_takesOrder_63 (fun vv91 gg92 qq93 => ?_)
        obtain ⟨rfl, hh94, aa95⟩ := qq93
        have AA96 : Agr [40] G gg92 := AA15.tr aa95 (by simp) (by simp)
        refine G_aload_n C 0 dX9_takesOrder_66 rfl rfl ?_
        refine G_aload_n C 0 dX9_takesOrder_67 rfl rfl ?_
        refine G_callV C (As := []) (rest := [.ref (ad 40)]) (c_X9_tn12 hh94 ((aa95 45 (by decide)).trans ((aa14 45 (by decide)).trans ((aa7 45 (by decide)).trans ((aa3 45 (by decide)).trans g45)))) hn (show p + 1 ≤ 60 by omega) hd0 hd1) ca_X9_takesNumber km_X9_222 (by decide) hh94 rfl rfl rfl rfl (by decide) (Nat.le_of_ble_eq_true rfl) (by decide) dX9_takesOrder_68 (fun vv97 gg98 qq99 => ?_)
        obtain ⟨rfl, hh100, aa101⟩ := qq99
        have AA102 : Agr [40] G gg98 := AA96.tr aa101 (by simp) (by simp)
        refine G_putp C 40 (by decide) hh100 rfl inA9 tyX9_ok nmX9 27 (by decide) rfl kf_X9_225 rfl rfl rfl (fs' := [.ref (ad 41), .ref (ad 42), .ref (ad 43), .int ik, .ref (ad 44), .int kn, .ref (ad 45), .int (nI n), .int th, .int m, .int q, .int te, .long fx, .long fy, .long nx, .long ny, .long ux, .long uy, .int us, .long px, .long py, .ref (ad 46), .ref (ad 47), .int (nI ((p + 1) + 1 + 1)), .int (nI p), .int 1, .int (hM tm n p), .int (10 * (0 + hM tm n (p + 1) - 48) + hM tm n ((p + 1) + 1) - 48), .int re, .int ca]) (Nat.le_of_ble_eq_true rfl) rfl dX9_takesOrder_71 (fun gg103 hh104 aa105 => ?_)
        have AA106 : Agr [40] G gg103 := AA102.tr aa105 (by simp) (by simp)
        refine G_aload_n C 0 dX9_takesOrder_74 rfl rfl ?_
        refine G_aload_n C 0 dX9_takesOrder_75 rfl rfl ?_
        refine G_callV C (As := []) (rest := [.ref (ad 40)]) (c_X9_here hh104 ((aa105 45 (by decide)).trans ((aa101 45 (by decide)).trans ((aa95 45 (by decide)).trans ((aa14 45 (by decide)).trans ((aa7 45 (by decide)).trans ((aa3 45 (by decide)).trans g45)))))) hn (show ((p + 1) + 1 + 1) ≤ 70 by omega)) ca_X9_here km_X9_209 (by decide) hh104 rfl rfl rfl rfl (by decide) (Nat.le_of_ble_eq_true rfl) (by decide) dX9_takesOrder_76 (fun vv107 gg108 qq109 => ?_)
        obtain ⟨rfl, rfl⟩ := qq109
        refine G_bipush C (v := 59) dX9_takesOrder_79 (by decide) ?_
        refine G_icmp_ne C 88 dX9_takesOrder_81 (by decide) (fun c81 => ?_) (fun c81 => False.elim (hse c81))
        refine G_iconst C (v := 0) dX9_takesOrder_88 (by decide) ?_
        refine G_callV C (As := [.int 0]) (rest := []) (c_X9_takes10 hh104) ca_X9_takes km_X9_218 (by decide) hh104 rfl rfl rfl rfl (by decide) (Nat.le_of_ble_eq_true rfl) (by decide) dX9_takesOrder_89 (fun vv110 gg111 qq112 => ?_)
        obtain ⟨rfl, hh113, aa114⟩ := qq112
        have AA115 : Agr [40] G gg111 := AA106.tr aa114 (by simp) (by simp)
        exact G_vret C hr dX9_takesOrder_92 ⟨rfl, hh113, AA115⟩

abbrev rm_X9_to12Y : Room := ({ frames := 2, cells := 0, slots := 0, locals := 44 } : Room)
set_option maxRecDepth 100000 in
set_option maxHeartbeats 4000000 in
theorem c_X9_to12Y {L : GL} {ad : Nat → Nat} {G : Nat → va_E} {p : Nat} {n : Nat} {tm : Nat → Int32} {ik kn th m q te us bg fo le fi re ca : Int32} {fx fy nx ny ux uy px py : Int64}  (g40 : G 40 = .inr (9, [.ref (ad 41), .ref (ad 42), .ref (ad 43), .int ik, .ref (ad 44), .int kn, .ref (ad 45), .int (nI n), .int th, .int m, .int q, .int te, .long fx, .long fy, .long nx, .long ny, .long ux, .long uy, .int us, .long px, .long py, .ref (ad 46), .ref (ad 47), .int (nI p), .int bg, .int fo, .int le, .int fi, .int re, .int ca])) (g45 : G 45 = .inl (L.ac 0, 60, .inl tm)) (hn : n ≤ 60) (hpp : p < 60) (hio : ¬ ioF (hM tm n p) = 0) (hd0 : ¬ dgF (hM tm n (p + 1)) = 0) (hd1 : ¬ dgF (hM tm n (p + 1 + 1)) = 0) (hse : hM tm n (p + 1 + 1 + 1) = 59) : GM L yX9_takesOrder cX9_takesOrder 1 (none) rm_X9_to12Y 50 ad G [.ref (ad 40)] (fun vo G' => vo = none ∧ G' 40 = .inr (9, [.ref (ad 41), .ref (ad 42), .ref (ad 43), .int ik, .ref (ad 44), .int kn, .ref (ad 45), .int (nI n), .int th, .int m, .int q, .int te, .long fx, .long fy, .long nx, .long ny, .long ux, .long uy, .int us, .long px, .long py, .ref (ad 46), .ref (ad 47), .int (nI (p + 1 + 1 + 1 + 1)), .int (nI p), .int 1, .int (hM tm n p), .int (10 * (0 + hM tm n (p + 1) - 48) + hM tm n (p + 1 + 1) - 48), .int re, .int ca]) ∧ Agr [40] G G') := by
  refine GM.of (own := RX9) (lo := [(0, .ref (ad 40))]) (by decide +kernel) rfl rfl (Nat.le_of_ble_eq_true rfl) (fun E C hr => ?_)
  refine G_aload_n C 0 dX9_takesOrder_0 rfl rfl ?_
  refine G_aload_n C 0 dX9_takesOrder_1 rfl rfl ?_
  refine G_get C 40 (by decide) g40 rfl inA9 23 (by decide) rfl kf_X9_203 rfl dX9_takesOrder_2 ?_
  refine G_putp C 40 (by decide) g40 rfl inA9 tyX9_ok nmX9 24 (by decide) rfl kf_X9_212 rfl rfl rfl (fs' := [.ref (ad 41), .ref (ad 42), .ref (ad 43), .int ik, .ref (ad 44), .int kn, .ref (ad 45), .int (nI n), .int th, .int m, .int q, .int te, .long fx, .long fy, .long nx, .long ny, .long ux, .long uy, .int us, .long px, .long py, .ref (ad 46), .ref (ad 47), .int (nI p), .int (nI p), .int fo, .int le, .int fi, .int re, .int ca]) (Nat.le_of_ble_eq_true rfl) rfl dX9_takesOrder_5 (fun gg1 hh2 aa3 => ?_)
  have AA4 : Agr [40] G gg1 := aa3.wk (by simp)
  refine G_aload_n C 0 dX9_takesOrder_8 rfl rfl ?_
  refine G_iconst C (v := 1) dX9_takesOrder_9 (by decide) ?_
  refine G_putp C 40 (by decide) hh2 rfl inA9 tyX9_ok nmX9 25 (by decide) rfl kf_X9_206 rfl rfl rfl (fs' := [.ref (ad 41), .ref (ad 42), .ref (ad 43), .int ik, .ref (ad 44), .int kn, .ref (ad 45), .int (nI n), .int th, .int m, .int q, .int te, .long fx, .long fy, .long nx, .long ny, .long ux, .long uy, .int us, .long px, .long py, .ref (ad 46), .ref (ad 47), .int (nI p), .int (nI p), .int 1, .int le, .int fi, .int re, .int ca]) (Nat.le_of_ble_eq_true rfl) rfl dX9_takesOrder_10 (fun gg5 hh6 aa7 => ?_)
  have AA8 : Agr [40] G gg5 := AA4.tr aa7 (by simp) (by simp)
  refine G_aload_n C 0 dX9_takesOrder_13 rfl rfl ?_
  refine G_aload_n C 0 dX9_takesOrder_14 rfl rfl ?_
  refine G_callV C (As := []) (rest := [.ref (ad 40)]) (c_X9_here hh6 ((aa7 45 (by decide)).trans ((aa3 45 (by decide)).trans g45)) hn (show p ≤ 70 by omega)) ca_X9_here km_X9_209 (by decide) hh6 rfl rfl rfl rfl (by decide) (Nat.le_of_ble_eq_true rfl) (by decide) dX9_takesOrder_15 (fun vv9 gg10 qq11 => ?_)
  obtain ⟨rfl, rfl⟩ := qq11
  refine G_putp C 40 (by decide) hh6 rfl inA9 tyX9_ok nmX9 26 (by decide) rfl kf_X9_215 rfl rfl rfl (fs' := [.ref (ad 41), .ref (ad 42), .ref (ad 43), .int ik, .ref (ad 44), .int kn, .ref (ad 45), .int (nI n), .int th, .int m, .int q, .int te, .long fx, .long fy, .long nx, .long ny, .long ux, .long uy, .int us, .long px, .long py, .ref (ad 46), .ref (ad 47), .int (nI p), .int (nI p), .int 1, .int (hM tm n p), .int fi, .int re, .int ca]) (Nat.le_of_ble_eq_true rfl) rfl dX9_takesOrder_18 (fun gg12 hh13 aa14 => ?_)
  have AA15 : Agr [40] G gg12 := AA8.tr aa14 (by simp) (by simp)
  refine G_aload_n C 0 dX9_takesOrder_21 rfl rfl ?_
  refine G_aload_n C 0 dX9_takesOrder_22 rfl rfl ?_
  refine G_get C 40 (by decide) hh13 rfl inA9 26 (by decide) rfl kf_X9_215 rfl dX9_takesOrder_23 ?_
  refine G_bipush C (v := 108) dX9_takesOrder_26 (by decide) ?_
  refine G_icmp_eq C 58 dX9_takesOrder_28 (by decide) (fun c28 => ?_) (fun c28 => ?_)
  · refine G_iconst C (v := 1) dX9_takesOrder_58 (by decide) ?_
    refine G_goto C 63 dX9_takesOrder_59 (by decide) ?_
    refine G_callV C (As := [.int 1]) (rest := []) (c_X9_takes11 hh13) ca_X9_takes km_X9_218 (by decide) hh13 rfl rfl rfl rfl (by decide) (Nat.le_of_ble_eq_true rfl) (by decide) dX9_takesOrder_63 (fun vv16 gg17 qq18 => ?_)
    obtain ⟨rfl, hh19, aa20⟩ := qq18
    have AA21 : Agr [40] G gg17 := AA15.tr aa20 (by simp) (by simp)
    refine G_aload_n C 0 dX9_takesOrder_66 rfl rfl ?_
    refine G_aload_n C 0 dX9_takesOrder_67 rfl rfl ?_
    refine G_callV C (As := []) (rest := [.ref (ad 40)]) (c_X9_tn12 hh19 ((aa20 45 (by decide)).trans ((aa14 45 (by decide)).trans ((aa7 45 (by decide)).trans ((aa3 45 (by decide)).trans g45)))) hn (show p + 1 ≤ 60 by omega) hd0 hd1) ca_X9_takesNumber km_X9_222 (by decide) hh19 rfl rfl rfl rfl (by decide) (Nat.le_of_ble_eq_true rfl) (by decide) dX9_takesOrder_68 (fun vv22 gg23 qq24 => ?_)
    obtain ⟨rfl, hh25, aa26⟩ := qq24
    have AA27 : Agr [40] G gg23 := AA21.tr aa26 (by simp) (by simp)
    refine G_putp C 40 (by decide) hh25 rfl inA9 tyX9_ok nmX9 27 (by decide) rfl kf_X9_225 rfl rfl rfl (fs' := [.ref (ad 41), .ref (ad 42), .ref (ad 43), .int ik, .ref (ad 44), .int kn, .ref (ad 45), .int (nI n), .int th, .int m, .int q, .int te, .long fx, .long fy, .long nx, .long ny, .long ux, .long uy, .int us, .long px, .long py, .ref (ad 46), .ref (ad 47), .int (nI ((p + 1) + 1 + 1)), .int (nI p), .int 1, .int (hM tm n p), .int (10 * (0 + hM tm n (p + 1) - 48) + hM tm n ((p + 1) + 1) - 48), .int re, .int ca]) (Nat.le_of_ble_eq_true rfl) rfl dX9_takesOrder_71 (fun gg28 hh29 aa30 => ?_)
    have AA31 : Agr [40] G gg28 := AA27.tr aa30 (by simp) (by simp)
    refine G_aload_n C 0 dX9_takesOrder_74 rfl rfl ?_
    refine G_aload_n C 0 dX9_takesOrder_75 rfl rfl ?_
    refine G_callV C (As := []) (rest := [.ref (ad 40)]) (c_X9_here hh29 ((aa30 45 (by decide)).trans ((aa26 45 (by decide)).trans ((aa20 45 (by decide)).trans ((aa14 45 (by decide)).trans ((aa7 45 (by decide)).trans ((aa3 45 (by decide)).trans g45)))))) hn (show ((p + 1) + 1 + 1) ≤ 70 by omega)) ca_X9_here km_X9_209 (by decide) hh29 rfl rfl rfl rfl (by decide) (Nat.le_of_ble_eq_true rfl) (by decide) dX9_takesOrder_76 (fun vv32 gg33 qq34 => ?_)
    obtain ⟨rfl, rfl⟩ := qq34
    refine G_bipush C (v := 59) dX9_takesOrder_79 (by decide) ?_
    refine G_icmp_ne C 88 dX9_takesOrder_81 (by decide) (fun c81 => False.elim (c81 hse)) (fun c81 => ?_)
    refine G_iconst C (v := 1) dX9_takesOrder_84 (by decide) ?_
    refine G_goto C 89 dX9_takesOrder_85 (by decide) ?_
    refine G_callV C (As := [.int 1]) (rest := []) (c_X9_takes11 hh29) ca_X9_takes km_X9_218 (by decide) hh29 rfl rfl rfl rfl (by decide) (Nat.le_of_ble_eq_true rfl) (by decide) dX9_takesOrder_89 (fun vv35 gg36 qq37 => ?_)
    obtain ⟨rfl, hh38, aa39⟩ := qq37
    have AA40 : Agr [40] G gg36 := AA31.tr aa39 (by simp) (by simp)
    exact G_vret C hr dX9_takesOrder_92 ⟨rfl, hh38, AA40⟩
  · refine G_aload_n C 0 dX9_takesOrder_31 rfl rfl ?_
    refine G_get C 40 (by decide) hh13 rfl inA9 26 (by decide) rfl kf_X9_215 rfl dX9_takesOrder_32 ?_
    refine G_bipush C (v := 116) dX9_takesOrder_35 (by decide) ?_
    refine G_icmp_eq C 58 dX9_takesOrder_37 (by decide) (fun c37 => ?_) (fun c37 => ?_)
    · refine G_iconst C (v := 1) dX9_takesOrder_58 (by decide) ?_
      refine G_goto C 63 dX9_takesOrder_59 (by decide) ?_
      refine G_callV C (As := [.int 1]) (rest := []) (c_X9_takes11 hh13) ca_X9_takes km_X9_218 (by decide) hh13 rfl rfl rfl rfl (by decide) (Nat.le_of_ble_eq_true rfl) (by decide) dX9_takesOrder_63 (fun vv41 gg42 qq43 => ?_)
      obtain ⟨rfl, hh44, aa45⟩ := qq43
      have AA46 : Agr [40] G gg42 := AA15.tr aa45 (by simp) (by simp)
      refine G_aload_n C 0 dX9_takesOrder_66 rfl rfl ?_
      refine G_aload_n C 0 dX9_takesOrder_67 rfl rfl ?_
      refine G_callV C (As := []) (rest := [.ref (ad 40)]) (c_X9_tn12 hh44 ((aa45 45 (by decide)).trans ((aa14 45 (by decide)).trans ((aa7 45 (by decide)).trans ((aa3 45 (by decide)).trans g45)))) hn (show p + 1 ≤ 60 by omega) hd0 hd1) ca_X9_takesNumber km_X9_222 (by decide) hh44 rfl rfl rfl rfl (by decide) (Nat.le_of_ble_eq_true rfl) (by decide) dX9_takesOrder_68 (fun vv47 gg48 qq49 => ?_)
      obtain ⟨rfl, hh50, aa51⟩ := qq49
      have AA52 : Agr [40] G gg48 := AA46.tr aa51 (by simp) (by simp)
      refine G_putp C 40 (by decide) hh50 rfl inA9 tyX9_ok nmX9 27 (by decide) rfl kf_X9_225 rfl rfl rfl (fs' := [.ref (ad 41), .ref (ad 42), .ref (ad 43), .int ik, .ref (ad 44), .int kn, .ref (ad 45), .int (nI n), .int th, .int m, .int q, .int te, .long fx, .long fy, .long nx, .long ny, .long ux, .long uy, .int us, .long px, .long py, .ref (ad 46), .ref (ad 47), .int (nI ((p + 1) + 1 + 1)), .int (nI p), .int 1, .int (hM tm n p), .int (10 * (0 + hM tm n (p + 1) - 48) + hM tm n ((p + 1) + 1) - 48), .int re, .int ca]) (Nat.le_of_ble_eq_true rfl) rfl dX9_takesOrder_71 (fun gg53 hh54 aa55 => ?_)
      have AA56 : Agr [40] G gg53 := AA52.tr aa55 (by simp) (by simp)
      refine G_aload_n C 0 dX9_takesOrder_74 rfl rfl ?_
      refine G_aload_n C 0 dX9_takesOrder_75 rfl rfl ?_
      refine G_callV C (As := []) (rest := [.ref (ad 40)]) (c_X9_here hh54 ((aa55 45 (by decide)).trans ((aa51 45 (by decide)).trans ((aa45 45 (by decide)).trans ((aa14 45 (by decide)).trans ((aa7 45 (by decide)).trans ((aa3 45 (by decide)).trans g45)))))) hn (show ((p + 1) + 1 + 1) ≤ 70 by omega)) ca_X9_here km_X9_209 (by decide) hh54 rfl rfl rfl rfl (by decide) (Nat.le_of_ble_eq_true rfl) (by decide) dX9_takesOrder_76 (fun vv57 gg58 qq59 => ?_)
      obtain ⟨rfl, rfl⟩ := qq59
      refine G_bipush C (v := 59) dX9_takesOrder_79 (by decide) ?_
      refine G_icmp_ne C 88 dX9_takesOrder_81 (by decide) (fun c81 => False.elim (c81 hse)) (fun c81 => ?_)
      refine G_iconst C (v := 1) dX9_takesOrder_84 (by decide) ?_
      refine G_goto C 89 dX9_takesOrder_85 (by decide) ?_
      refine G_callV C (As := [.int 1]) (rest := []) (c_X9_takes11 hh54) ca_X9_takes km_X9_218 (by decide) hh54 rfl rfl rfl rfl (by decide) (Nat.le_of_ble_eq_true rfl) (by decide) dX9_takesOrder_89 (fun vv60 gg61 qq62 => ?_)
      obtain ⟨rfl, hh63, aa64⟩ := qq62
      have AA65 : Agr [40] G gg61 := AA56.tr aa64 (by simp) (by simp)
      exact G_vret C hr dX9_takesOrder_92 ⟨rfl, hh63, AA65⟩
    · refine G_aload_n C 0 dX9_takesOrder_40 rfl rfl ?_
      refine G_get C 40 (by decide) hh13 rfl inA9 26 (by decide) rfl kf_X9_215 rfl dX9_takesOrder_41 ?_
      refine G_bipush C (v := 109) dX9_takesOrder_44 (by decide) ?_
      refine G_icmp_eq C 58 dX9_takesOrder_46 (by decide) (fun c46 => ?_) (fun c46 => ?_)
      · refine G_iconst C (v := 1) dX9_takesOrder_58 (by decide) ?_
        refine G_goto C 63 dX9_takesOrder_59 (by decide) ?_
        refine G_callV C (As := [.int 1]) (rest := []) (c_X9_takes11 hh13) ca_X9_takes km_X9_218 (by decide) hh13 rfl rfl rfl rfl (by decide) (Nat.le_of_ble_eq_true rfl) (by decide) dX9_takesOrder_63 (fun vv66 gg67 qq68 => ?_)
        obtain ⟨rfl, hh69, aa70⟩ := qq68
        have AA71 : Agr [40] G gg67 := AA15.tr aa70 (by simp) (by simp)
        refine G_aload_n C 0 dX9_takesOrder_66 rfl rfl ?_
        refine G_aload_n C 0 dX9_takesOrder_67 rfl rfl ?_
        refine G_callV C (As := []) (rest := [.ref (ad 40)]) (c_X9_tn12 hh69 ((aa70 45 (by decide)).trans ((aa14 45 (by decide)).trans ((aa7 45 (by decide)).trans ((aa3 45 (by decide)).trans g45)))) hn (show p + 1 ≤ 60 by omega) hd0 hd1) ca_X9_takesNumber km_X9_222 (by decide) hh69 rfl rfl rfl rfl (by decide) (Nat.le_of_ble_eq_true rfl) (by decide) dX9_takesOrder_68 (fun vv72 gg73 qq74 => ?_)
        obtain ⟨rfl, hh75, aa76⟩ := qq74
        have AA77 : Agr [40] G gg73 := AA71.tr aa76 (by simp) (by simp)
        refine G_putp C 40 (by decide) hh75 rfl inA9 tyX9_ok nmX9 27 (by decide) rfl kf_X9_225 rfl rfl rfl (fs' := [.ref (ad 41), .ref (ad 42), .ref (ad 43), .int ik, .ref (ad 44), .int kn, .ref (ad 45), .int (nI n), .int th, .int m, .int q, .int te, .long fx, .long fy, .long nx, .long ny, .long ux, .long uy, .int us, .long px, .long py, .ref (ad 46), .ref (ad 47), .int (nI ((p + 1) + 1 + 1)), .int (nI p), .int 1, .int (hM tm n p), .int (10 * (0 + hM tm n (p + 1) - 48) + hM tm n ((p + 1) + 1) - 48), .int re, .int ca]) (Nat.le_of_ble_eq_true rfl) rfl dX9_takesOrder_71 (fun gg78 hh79 aa80 => ?_)
        have AA81 : Agr [40] G gg78 := AA77.tr aa80 (by simp) (by simp)
        refine G_aload_n C 0 dX9_takesOrder_74 rfl rfl ?_
        refine G_aload_n C 0 dX9_takesOrder_75 rfl rfl ?_
        refine G_callV C (As := []) (rest := [.ref (ad 40)]) (c_X9_here hh79 ((aa80 45 (by decide)).trans ((aa76 45 (by decide)).trans ((aa70 45 (by decide)).trans ((aa14 45 (by decide)).trans ((aa7 45 (by decide)).trans ((aa3 45 (by decide)).trans g45)))))) hn (show ((p + 1) + 1 + 1) ≤ 70 by omega)) ca_X9_here km_X9_209 (by decide) hh79 rfl rfl rfl rfl (by decide) (Nat.le_of_ble_eq_true rfl) (by decide) dX9_takesOrder_76 (fun vv82 gg83 qq84 => ?_)
        obtain ⟨rfl, rfl⟩ := qq84
        refine G_bipush C (v := 59) dX9_takesOrder_79 (by decide) ?_
        refine G_icmp_ne C 88 dX9_takesOrder_81 (by decide) (fun c81 => False.elim (c81 hse)) (fun c81 => ?_)
        refine G_iconst C (v := 1) dX9_takesOrder_84 (by decide) ?_
        refine G_goto C 89 dX9_takesOrder_85 (by decide) ?_
        refine G_callV C (As := [.int 1]) (rest := []) (c_X9_takes11 hh79) ca_X9_takes km_X9_218 (by decide) hh79 rfl rfl rfl rfl (by decide) (Nat.le_of_ble_eq_true rfl) (by decide) dX9_takesOrder_89 (fun vv85 gg86 qq87 => ?_)
        obtain ⟨rfl, hh88, aa89⟩ := qq87
        have AA90 : Agr [40] G gg86 := AA81.tr aa89 (by simp) (by simp)
        exact G_vret C hr dX9_takesOrder_92 ⟨rfl, hh88, AA90⟩
      · refine G_aload_n C 0 dX9_takesOrder_49 rfl rfl ?_
        refine G_get C 40 (by decide) hh13 rfl inA9 26 (by decide) rfl kf_X9_215 rfl dX9_takesOrder_50 ?_
        refine G_bipush C (v := 98) dX9_takesOrder_53 (by decide) ?_
        refine G_icmp_ne C 62 dX9_takesOrder_55 (by decide) (fun c55 => False.elim (hio (by rw [ioF, if_neg c28, if_neg c37, if_neg c46, if_neg c55]))) (fun c55 => ?_)
        refine G_iconst C (v := 1) dX9_takesOrder_58 (by decide) ?_
        refine G_goto C 63 dX9_takesOrder_59 (by decide) ?_
        refine G_callV C (As := [.int 1]) (rest := []) (c_X9_takes11 hh13) ca_X9_takes km_X9_218 (by decide) hh13 rfl rfl rfl rfl (by decide) (Nat.le_of_ble_eq_true rfl) (by decide) dX9_takesOrder_63 (fun vv91 gg92 qq93 => ?_)
        obtain ⟨rfl, hh94, aa95⟩ := qq93
        have AA96 : Agr [40] G gg92 := AA15.tr aa95 (by simp) (by simp)
        refine G_aload_n C 0 dX9_takesOrder_66 rfl rfl ?_
        refine G_aload_n C 0 dX9_takesOrder_67 rfl rfl ?_
        refine G_callV C (As := []) (rest := [.ref (ad 40)]) (c_X9_tn12 hh94 ((aa95 45 (by decide)).trans ((aa14 45 (by decide)).trans ((aa7 45 (by decide)).trans ((aa3 45 (by decide)).trans g45)))) hn (show p + 1 ≤ 60 by omega) hd0 hd1) ca_X9_takesNumber km_X9_222 (by decide) hh94 rfl rfl rfl rfl (by decide) (Nat.le_of_ble_eq_true rfl) (by decide) dX9_takesOrder_68 (fun vv97 gg98 qq99 => ?_)
        obtain ⟨rfl, hh100, aa101⟩ := qq99
        have AA102 : Agr [40] G gg98 := AA96.tr aa101 (by simp) (by simp)
        refine G_putp C 40 (by decide) hh100 rfl inA9 tyX9_ok nmX9 27 (by decide) rfl kf_X9_225 rfl rfl rfl (fs' := [.ref (ad 41), .ref (ad 42), .ref (ad 43), .int ik, .ref (ad 44), .int kn, .ref (ad 45), .int (nI n), .int th, .int m, .int q, .int te, .long fx, .long fy, .long nx, .long ny, .long ux, .long uy, .int us, .long px, .long py, .ref (ad 46), .ref (ad 47), .int (nI ((p + 1) + 1 + 1)), .int (nI p), .int 1, .int (hM tm n p), .int (10 * (0 + hM tm n (p + 1) - 48) + hM tm n ((p + 1) + 1) - 48), .int re, .int ca]) (Nat.le_of_ble_eq_true rfl) rfl dX9_takesOrder_71 (fun gg103 hh104 aa105 => ?_)
        have AA106 : Agr [40] G gg103 := AA102.tr aa105 (by simp) (by simp)
        refine G_aload_n C 0 dX9_takesOrder_74 rfl rfl ?_
        refine G_aload_n C 0 dX9_takesOrder_75 rfl rfl ?_
        refine G_callV C (As := []) (rest := [.ref (ad 40)]) (c_X9_here hh104 ((aa105 45 (by decide)).trans ((aa101 45 (by decide)).trans ((aa95 45 (by decide)).trans ((aa14 45 (by decide)).trans ((aa7 45 (by decide)).trans ((aa3 45 (by decide)).trans g45)))))) hn (show ((p + 1) + 1 + 1) ≤ 70 by omega)) ca_X9_here km_X9_209 (by decide) hh104 rfl rfl rfl rfl (by decide) (Nat.le_of_ble_eq_true rfl) (by decide) dX9_takesOrder_76 (fun vv107 gg108 qq109 => ?_)
        obtain ⟨rfl, rfl⟩ := qq109
        refine G_bipush C (v := 59) dX9_takesOrder_79 (by decide) ?_
        refine G_icmp_ne C 88 dX9_takesOrder_81 (by decide) (fun c81 => False.elim (c81 hse)) (fun c81 => ?_)
        refine G_iconst C (v := 1) dX9_takesOrder_84 (by decide) ?_
        refine G_goto C 89 dX9_takesOrder_85 (by decide) ?_
        refine G_callV C (As := [.int 1]) (rest := []) (c_X9_takes11 hh104) ca_X9_takes km_X9_218 (by decide) hh104 rfl rfl rfl rfl (by decide) (Nat.le_of_ble_eq_true rfl) (by decide) dX9_takesOrder_89 (fun vv110 gg111 qq112 => ?_)
        obtain ⟨rfl, hh113, aa114⟩ := qq112
        have AA115 : Agr [40] G gg111 := AA106.tr aa114 (by simp) (by simp)
        exact G_vret C hr dX9_takesOrder_92 ⟨rfl, hh113, AA115⟩

