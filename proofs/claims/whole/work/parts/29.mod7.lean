/-- the character that the model sees at p -/
def hM (tm : Nat → Int32) (n p : Nat) : Int32 := if p < n then tm p else 0
abbrev rm_X9_here : Room := ({ frames := 0, cells := 0, slots := 0, locals := 0 } : Room)
set_option maxRecDepth 100000 in
set_option maxHeartbeats 4000000 in
theorem c_X9_here {L : GL} {ad : Nat → Nat} {G : Nat → va_E} {p : Nat} {n : Nat} {tm : Nat → Int32} {ik kn th m q te us bg fo le fi re ca : Int32} {fx fy nx ny ux uy px py : Int64}  (g40 : G 40 = .inr (9, [.ref (ad 41), .ref (ad 42), .ref (ad 43), .int ik, .ref (ad 44), .int kn, .ref (ad 45), .int (nI n), .int th, .int m, .int q, .int te, .long fx, .long fy, .long nx, .long ny, .long ux, .long uy, .int us, .long px, .long py, .ref (ad 46), .ref (ad 47), .int (nI p), .int bg, .int fo, .int le, .int fi, .int re, .int ca])) (g45 : G 45 = .inl (L.ac 0, 60, .inl tm)) (hn : n ≤ 60) (hpp : p ≤ 70) : GM L yX9_here cX9_here 1 ((some .int)) rm_X9_here 50 ad G [.ref (ad 40)] (fun vo G' => vo = some (.int (hM tm n p)) ∧ G = G') := by
  refine GM.of (own := RX9) (lo := [(0, .ref (ad 40))]) (by decide +kernel) rfl rfl (Nat.le_of_ble_eq_true rfl) (fun E C hr => ?_)
  refine G_aload_n C 0 dX9_here_0 rfl rfl ?_
  refine G_get C 40 (by decide) g40 rfl inA9 23 (by decide) rfl kf_X9_203 rfl dX9_here_1 ?_
  refine G_aload_n C 0 dX9_here_4 rfl rfl ?_
  refine G_get C 40 (by decide) g40 rfl inA9 7 (by decide) rfl kf_X9_200 rfl dX9_here_5 ?_
  refine G_icmp_ge C 23 dX9_here_8 (by decide) (fun c8 => ?_) (fun c8 => ?_)
  · have c8n : n ≤ p := (cI_le (a := n) (b := p) rfl rfl (by omega) (by omega)).mp c8
    refine G_iconst C (v := 0) dX9_here_23 (by decide) ?_
    exact G_zret C hr rfl dX9_here_24 ⟨(by rw [hM, if_neg (by omega)]), rfl⟩
  · have c8n : ¬ n ≤ p := fun z => c8 ((cI_le (a := n) (b := p) rfl rfl (by omega) (by omega)).mpr z)
    refine G_aload_n C 0 dX9_here_11 rfl rfl ?_
    refine G_get C 40 (by decide) g40 rfl inA9 6 (by decide) rfl kf_X9_22 rfl dX9_here_12 ?_
    refine G_aload_n C 0 dX9_here_15 rfl rfl ?_
    refine G_get C 40 (by decide) g40 rfl inA9 23 (by decide) rfl kf_X9_203 rfl dX9_here_16 ?_
    refine G_ialdN C 45 (by decide) p g45 rfl (by omega) (by omega) dX9_here_19 ?_
    refine G_goto C 24 dX9_here_20 (by decide) ?_
    exact G_zret C hr rfl dX9_here_24 ⟨(by rw [hM, if_pos (by omega)]), rfl⟩

abbrev rm_X9_takes0 : Room := ({ frames := 0, cells := 0, slots := 0, locals := 0 } : Room)
set_option maxRecDepth 100000 in
set_option maxHeartbeats 4000000 in
theorem c_X9_takes0 {L : GL} {ad : Nat → Nat} {G : Nat → va_E} {b : Int32} {ik kn ln th m q te us sp bg le fi re ca : Int32} {fx fy nx ny ux uy px py : Int64}  (g40 : G 40 = .inr (9, [.ref (ad 41), .ref (ad 42), .ref (ad 43), .int ik, .ref (ad 44), .int kn, .ref (ad 45), .int ln, .int th, .int m, .int q, .int te, .long fx, .long fy, .long nx, .long ny, .long ux, .long uy, .int us, .long px, .long py, .ref (ad 46), .ref (ad 47), .int sp, .int bg, .int 0, .int le, .int fi, .int re, .int ca]))  : GM L yX9_takes cX9_takes 2 (none) rm_X9_takes0 50 ad G [.ref (ad 40), .int b] (fun vo G' => vo = none ∧ G' 40 = .inr (9, [.ref (ad 41), .ref (ad 42), .ref (ad 43), .int ik, .ref (ad 44), .int kn, .ref (ad 45), .int ln, .int th, .int m, .int q, .int te, .long fx, .long fy, .long nx, .long ny, .long ux, .long uy, .int us, .long px, .long py, .ref (ad 46), .ref (ad 47), .int (sp + 0), .int bg, .int 0, .int le, .int fi, .int re, .int ca]) ∧ Agr [40] G G') := by
  refine GM.of (own := RX9) (lo := [(0, .ref (ad 40)), (1, .int b)]) (by decide +kernel) rfl rfl (Nat.le_of_ble_eq_true rfl) (fun E C hr => ?_)
  refine G_aload_n C 0 dX9_takes_0 rfl rfl ?_
  refine G_aload_n C 0 dX9_takes_1 rfl rfl ?_
  refine G_get C 40 (by decide) g40 rfl inA9 25 (by decide) rfl kf_X9_206 rfl dX9_takes_2 ?_
  refine G_if_eq C 16 dX9_takes_5 (by decide) (fun _ => ?_) (fun h => absurd h (by decide))
  refine G_iconst C (v := 0) dX9_takes_16 (by decide) ?_
  refine G_putp C 40 (by decide) g40 rfl inA9 tyX9_ok nmX9 25 (by decide) rfl kf_X9_206 rfl rfl rfl (fs' := [.ref (ad 41), .ref (ad 42), .ref (ad 43), .int ik, .ref (ad 44), .int kn, .ref (ad 45), .int ln, .int th, .int m, .int q, .int te, .long fx, .long fy, .long nx, .long ny, .long ux, .long uy, .int us, .long px, .long py, .ref (ad 46), .ref (ad 47), .int sp, .int bg, .int 0, .int le, .int fi, .int re, .int ca]) (Nat.le_of_ble_eq_true rfl) rfl dX9_takes_17 (fun gg1 hh2 aa3 => ?_)
  have AA4 : Agr [40] G gg1 := aa3.wk (by simp)
  refine G_aload_n C 0 dX9_takes_20 rfl rfl ?_
  refine G_dup C dX9_takes_21 rfl ?_
  refine G_get C 40 (by decide) hh2 rfl inA9 23 (by decide) rfl kf_X9_203 rfl dX9_takes_22 ?_
  refine G_aload_n C 0 dX9_takes_25 rfl rfl ?_
  refine G_get C 40 (by decide) hh2 rfl inA9 25 (by decide) rfl kf_X9_206 rfl dX9_takes_26 ?_
  refine G_if_eq C 36 dX9_takes_29 (by decide) (fun _ => ?_) (fun h => absurd h (by decide))
  refine G_iconst C (v := 0) dX9_takes_36 (by decide) ?_
  refine G_iadd C dX9_takes_37 ?_
  refine G_putp C 40 (by decide) hh2 rfl inA9 tyX9_ok nmX9 23 (by decide) rfl kf_X9_203 rfl rfl rfl (fs' := [.ref (ad 41), .ref (ad 42), .ref (ad 43), .int ik, .ref (ad 44), .int kn, .ref (ad 45), .int ln, .int th, .int m, .int q, .int te, .long fx, .long fy, .long nx, .long ny, .long ux, .long uy, .int us, .long px, .long py, .ref (ad 46), .ref (ad 47), .int (sp + 0), .int bg, .int 0, .int le, .int fi, .int re, .int ca]) (Nat.le_of_ble_eq_true rfl) rfl dX9_takes_38 (fun gg5 hh6 aa7 => ?_)
  have AA8 : Agr [40] G gg5 := AA4.tr aa7 (by simp) (by simp)
  exact G_vret C hr dX9_takes_41 ⟨rfl, hh6, AA8⟩

abbrev rm_X9_takes10 : Room := ({ frames := 0, cells := 0, slots := 0, locals := 0 } : Room)
set_option maxRecDepth 100000 in
set_option maxHeartbeats 4000000 in
theorem c_X9_takes10 {L : GL} {ad : Nat → Nat} {G : Nat → va_E} {ik kn ln th m q te us sp bg le fi re ca : Int32} {fx fy nx ny ux uy px py : Int64}  (g40 : G 40 = .inr (9, [.ref (ad 41), .ref (ad 42), .ref (ad 43), .int ik, .ref (ad 44), .int kn, .ref (ad 45), .int ln, .int th, .int m, .int q, .int te, .long fx, .long fy, .long nx, .long ny, .long ux, .long uy, .int us, .long px, .long py, .ref (ad 46), .ref (ad 47), .int sp, .int bg, .int 1, .int le, .int fi, .int re, .int ca]))  : GM L yX9_takes cX9_takes 2 (none) rm_X9_takes10 50 ad G [.ref (ad 40), .int 0] (fun vo G' => vo = none ∧ G' 40 = .inr (9, [.ref (ad 41), .ref (ad 42), .ref (ad 43), .int ik, .ref (ad 44), .int kn, .ref (ad 45), .int ln, .int th, .int m, .int q, .int te, .long fx, .long fy, .long nx, .long ny, .long ux, .long uy, .int us, .long px, .long py, .ref (ad 46), .ref (ad 47), .int (sp + 0), .int bg, .int 0, .int le, .int fi, .int re, .int ca]) ∧ Agr [40] G G') := by
  refine GM.of (own := RX9) (lo := [(0, .ref (ad 40)), (1, .int 0)]) (by decide +kernel) rfl rfl (Nat.le_of_ble_eq_true rfl) (fun E C hr => ?_)
  refine G_aload_n C 0 dX9_takes_0 rfl rfl ?_
  refine G_aload_n C 0 dX9_takes_1 rfl rfl ?_
  refine G_get C 40 (by decide) g40 rfl inA9 25 (by decide) rfl kf_X9_206 rfl dX9_takes_2 ?_
  refine G_if_eq C 16 dX9_takes_5 (by decide) (fun h => absurd h (by decide)) (fun _ => ?_)
  refine G_iload_n C 1 dX9_takes_8 rfl rfl ?_
  refine G_if_eq C 16 dX9_takes_9 (by decide) (fun _ => ?_) (fun h => absurd h (by decide))
  refine G_iconst C (v := 0) dX9_takes_16 (by decide) ?_
  refine G_putp C 40 (by decide) g40 rfl inA9 tyX9_ok nmX9 25 (by decide) rfl kf_X9_206 rfl rfl rfl (fs' := [.ref (ad 41), .ref (ad 42), .ref (ad 43), .int ik, .ref (ad 44), .int kn, .ref (ad 45), .int ln, .int th, .int m, .int q, .int te, .long fx, .long fy, .long nx, .long ny, .long ux, .long uy, .int us, .long px, .long py, .ref (ad 46), .ref (ad 47), .int sp, .int bg, .int 0, .int le, .int fi, .int re, .int ca]) (Nat.le_of_ble_eq_true rfl) rfl dX9_takes_17 (fun gg1 hh2 aa3 => ?_)
  have AA4 : Agr [40] G gg1 := aa3.wk (by simp)
  refine G_aload_n C 0 dX9_takes_20 rfl rfl ?_
  refine G_dup C dX9_takes_21 rfl ?_
  refine G_get C 40 (by decide) hh2 rfl inA9 23 (by decide) rfl kf_X9_203 rfl dX9_takes_22 ?_
  refine G_aload_n C 0 dX9_takes_25 rfl rfl ?_
  refine G_get C 40 (by decide) hh2 rfl inA9 25 (by decide) rfl kf_X9_206 rfl dX9_takes_26 ?_
  refine G_if_eq C 36 dX9_takes_29 (by decide) (fun _ => ?_) (fun h => absurd h (by decide))
  refine G_iconst C (v := 0) dX9_takes_36 (by decide) ?_
  refine G_iadd C dX9_takes_37 ?_
  refine G_putp C 40 (by decide) hh2 rfl inA9 tyX9_ok nmX9 23 (by decide) rfl kf_X9_203 rfl rfl rfl (fs' := [.ref (ad 41), .ref (ad 42), .ref (ad 43), .int ik, .ref (ad 44), .int kn, .ref (ad 45), .int ln, .int th, .int m, .int q, .int te, .long fx, .long fy, .long nx, .long ny, .long ux, .long uy, .int us, .long px, .long py, .ref (ad 46), .ref (ad 47), .int (sp + 0), .int bg, .int 0, .int le, .int fi, .int re, .int ca]) (Nat.le_of_ble_eq_true rfl) rfl dX9_takes_38 (fun gg5 hh6 aa7 => ?_)
  have AA8 : Agr [40] G gg5 := AA4.tr aa7 (by simp) (by simp)
  exact G_vret C hr dX9_takes_41 ⟨rfl, hh6, AA8⟩

abbrev rm_X9_takes11 : Room := ({ frames := 0, cells := 0, slots := 0, locals := 0 } : Room)
set_option maxRecDepth 100000 in
set_option maxHeartbeats 4000000 in
theorem c_X9_takes11 {L : GL} {ad : Nat → Nat} {G : Nat → va_E} {ik kn ln th m q te us sp bg le fi re ca : Int32} {fx fy nx ny ux uy px py : Int64}  (g40 : G 40 = .inr (9, [.ref (ad 41), .ref (ad 42), .ref (ad 43), .int ik, .ref (ad 44), .int kn, .ref (ad 45), .int ln, .int th, .int m, .int q, .int te, .long fx, .long fy, .long nx, .long ny, .long ux, .long uy, .int us, .long px, .long py, .ref (ad 46), .ref (ad 47), .int sp, .int bg, .int 1, .int le, .int fi, .int re, .int ca]))  : GM L yX9_takes cX9_takes 2 (none) rm_X9_takes11 50 ad G [.ref (ad 40), .int 1] (fun vo G' => vo = none ∧ G' 40 = .inr (9, [.ref (ad 41), .ref (ad 42), .ref (ad 43), .int ik, .ref (ad 44), .int kn, .ref (ad 45), .int ln, .int th, .int m, .int q, .int te, .long fx, .long fy, .long nx, .long ny, .long ux, .long uy, .int us, .long px, .long py, .ref (ad 46), .ref (ad 47), .int (sp + 1), .int bg, .int 1, .int le, .int fi, .int re, .int ca]) ∧ Agr [40] G G') := by
  refine GM.of (own := RX9) (lo := [(0, .ref (ad 40)), (1, .int 1)]) (by decide +kernel) rfl rfl (Nat.le_of_ble_eq_true rfl) (fun E C hr => ?_)
  refine G_aload_n C 0 dX9_takes_0 rfl rfl ?_
  refine G_aload_n C 0 dX9_takes_1 rfl rfl ?_
  refine G_get C 40 (by decide) g40 rfl inA9 25 (by decide) rfl kf_X9_206 rfl dX9_takes_2 ?_
  refine G_if_eq C 16 dX9_takes_5 (by decide) (fun h => absurd h (by decide)) (fun _ => ?_)
  refine G_iload_n C 1 dX9_takes_8 rfl rfl ?_
  refine G_if_eq C 16 dX9_takes_9 (by decide) (fun h => absurd h (by decide)) (fun _ => ?_)
  refine G_iconst C (v := 1) dX9_takes_12 (by decide) ?_
  refine G_goto C 17 dX9_takes_13 (by decide) ?_
  refine G_putp C 40 (by decide) g40 rfl inA9 tyX9_ok nmX9 25 (by decide) rfl kf_X9_206 rfl rfl rfl (fs' := [.ref (ad 41), .ref (ad 42), .ref (ad 43), .int ik, .ref (ad 44), .int kn, .ref (ad 45), .int ln, .int th, .int m, .int q, .int te, .long fx, .long fy, .long nx, .long ny, .long ux, .long uy, .int us, .long px, .long py, .ref (ad 46), .ref (ad 47), .int sp, .int bg, .int 1, .int le, .int fi, .int re, .int ca]) (Nat.le_of_ble_eq_true rfl) rfl dX9_takes_17 (fun gg1 hh2 aa3 => ?_)
  have AA4 : Agr [40] G gg1 := aa3.wk (by simp)
  refine G_aload_n C 0 dX9_takes_20 rfl rfl ?_
  refine G_dup C dX9_takes_21 rfl ?_
  refine G_get C 40 (by decide) hh2 rfl inA9 23 (by decide) rfl kf_X9_203 rfl dX9_takes_22 ?_
  refine G_aload_n C 0 dX9_takes_25 rfl rfl ?_
  refine G_get C 40 (by decide) hh2 rfl inA9 25 (by decide) rfl kf_X9_206 rfl dX9_takes_26 ?_
  refine G_if_eq C 36 dX9_takes_29 (by decide) (fun h => absurd h (by decide)) (fun _ => ?_)
  refine G_iconst C (v := 1) dX9_takes_32 (by decide) ?_
  refine G_goto C 37 dX9_takes_33 (by decide) ?_
  refine G_iadd C dX9_takes_37 ?_
  refine G_putp C 40 (by decide) hh2 rfl inA9 tyX9_ok nmX9 23 (by decide) rfl kf_X9_203 rfl rfl rfl (fs' := [.ref (ad 41), .ref (ad 42), .ref (ad 43), .int ik, .ref (ad 44), .int kn, .ref (ad 45), .int ln, .int th, .int m, .int q, .int te, .long fx, .long fy, .long nx, .long ny, .long ux, .long uy, .int us, .long px, .long py, .ref (ad 46), .ref (ad 47), .int (sp + 1), .int bg, .int 1, .int le, .int fi, .int re, .int ca]) (Nat.le_of_ble_eq_true rfl) rfl dX9_takes_38 (fun gg5 hh6 aa7 => ?_)
  have AA8 : Agr [40] G gg5 := AA4.tr aa7 (by simp) (by simp)
  exact G_vret C hr dX9_takes_41 ⟨rfl, hh6, AA8⟩

abbrev rm_X9_tn0 : Room := ({ frames := 0, cells := 0, slots := 0, locals := 0 } : Room)
set_option maxRecDepth 100000 in
set_option maxHeartbeats 4000000 in
theorem c_X9_tn0 {L : GL} {ad : Nat → Nat} {G : Nat → va_E} {ik kn ln th m q te us sp bg le fi re ca : Int32} {fx fy nx ny ux uy px py : Int64}  (g40 : G 40 = .inr (9, [.ref (ad 41), .ref (ad 42), .ref (ad 43), .int ik, .ref (ad 44), .int kn, .ref (ad 45), .int ln, .int th, .int m, .int q, .int te, .long fx, .long fy, .long nx, .long ny, .long ux, .long uy, .int us, .long px, .long py, .ref (ad 46), .ref (ad 47), .int sp, .int bg, .int 0, .int le, .int fi, .int re, .int ca]))  : GM L yX9_takesNumber cX9_takesNumber 3 ((some .int)) rm_X9_tn0 50 ad G [.ref (ad 40)] (fun vo G' => vo = some (.int 0) ∧ G' 40 = .inr (9, [.ref (ad 41), .ref (ad 42), .ref (ad 43), .int ik, .ref (ad 44), .int kn, .ref (ad 45), .int ln, .int th, .int m, .int q, .int te, .long fx, .long fy, .long nx, .long ny, .long ux, .long uy, .int us, .long px, .long py, .ref (ad 46), .ref (ad 47), .int sp, .int bg, .int 0, .int le, .int fi, .int re, .int ca]) ∧ Agr [40] G G') := by
  refine GM.of (own := RX9) (lo := [(0, .ref (ad 40))]) (by decide +kernel) rfl rfl (Nat.le_of_ble_eq_true rfl) (fun E C hr => ?_)
  refine G_iconst C (v := 0) dX9_takesNumber_0 (by decide) ?_
  refine G_istore_n C 1 (lo' := [(1, .int 0), (0, .ref (ad 40))]) dX9_takesNumber_1 rfl (by decide) rfl ?_
  refine G_iconst C (v := 0) dX9_takesNumber_2 (by decide) ?_
  refine G_istore_n C 2 (lo' := [(2, .int 0), (1, .int 0), (0, .ref (ad 40))]) dX9_takesNumber_3 rfl (by decide) rfl ?_
  refine G_aload_n C 0 dX9_takesNumber_4 rfl rfl ?_
  refine G_get C 40 (by decide) g40 rfl inA9 25 (by decide) rfl kf_X9_206 rfl dX9_takesNumber_5 ?_
  refine G_if_eq C 59 dX9_takesNumber_8 (by decide) (fun _ => ?_) (fun h => absurd h (by decide))
  refine G_aload_n C 0 dX9_takesNumber_59 rfl rfl ?_
  refine G_aload_n C 0 dX9_takesNumber_60 rfl rfl ?_
  refine G_get C 40 (by decide) g40 rfl inA9 25 (by decide) rfl kf_X9_206 rfl dX9_takesNumber_61 ?_
  refine G_if_eq C 75 dX9_takesNumber_64 (by decide) (fun _ => ?_) (fun h => absurd h (by decide))
  refine G_iconst C (v := 0) dX9_takesNumber_75 (by decide) ?_
  refine G_putp C 40 (by decide) g40 rfl inA9 tyX9_ok nmX9 25 (by decide) rfl kf_X9_206 rfl rfl rfl (fs' := [.ref (ad 41), .ref (ad 42), .ref (ad 43), .int ik, .ref (ad 44), .int kn, .ref (ad 45), .int ln, .int th, .int m, .int q, .int te, .long fx, .long fy, .long nx, .long ny, .long ux, .long uy, .int us, .long px, .long py, .ref (ad 46), .ref (ad 47), .int sp, .int bg, .int 0, .int le, .int fi, .int re, .int ca]) (Nat.le_of_ble_eq_true rfl) rfl dX9_takesNumber_76 (fun gg1 hh2 aa3 => ?_)
  have AA4 : Agr [40] G gg1 := aa3.wk (by simp)
  refine G_iload_n C 1 dX9_takesNumber_79 rfl rfl ?_
  exact G_zret C hr rfl dX9_takesNumber_80 ⟨rfl, hh2, AA4⟩

abbrev rm_X9_tn10 : Room := ({ frames := 1, cells := 0, slots := 0, locals := 22 } : Room)
set_option maxRecDepth 100000 in
set_option maxHeartbeats 4000000 in
theorem c_X9_tn10 {L : GL} {ad : Nat → Nat} {G : Nat → va_E} {p : Nat} {n : Nat} {tm : Nat → Int32} {ik kn th m q te us bg le fi re ca : Int32} {fx fy nx ny ux uy px py : Int64}  (g40 : G 40 = .inr (9, [.ref (ad 41), .ref (ad 42), .ref (ad 43), .int ik, .ref (ad 44), .int kn, .ref (ad 45), .int (nI n), .int th, .int m, .int q, .int te, .long fx, .long fy, .long nx, .long ny, .long ux, .long uy, .int us, .long px, .long py, .ref (ad 46), .ref (ad 47), .int (nI p), .int bg, .int 1, .int le, .int fi, .int re, .int ca])) (g45 : G 45 = .inl (L.ac 0, 60, .inl tm)) (hn : n ≤ 60) (hpp : p ≤ 60) (hd0 : dgF (hM tm n p) = 0) : GM L yX9_takesNumber cX9_takesNumber 3 ((some .int)) rm_X9_tn10 50 ad G [.ref (ad 40)] (fun vo G' => vo = some (.int 0) ∧ G' 40 = .inr (9, [.ref (ad 41), .ref (ad 42), .ref (ad 43), .int ik, .ref (ad 44), .int kn, .ref (ad 45), .int (nI n), .int th, .int m, .int q, .int te, .long fx, .long fy, .long nx, .long ny, .long ux, .long uy, .int us, .long px, .long py, .ref (ad 46), .ref (ad 47), .int (nI p), .int bg, .int 0, .int le, .int fi, .int re, .int ca]) ∧ Agr [40] G G') := by
  refine GM.of (own := RX9) (lo := [(0, .ref (ad 40))]) (by decide +kernel) rfl rfl (Nat.le_of_ble_eq_true rfl) (fun E C hr => ?_)
  refine G_iconst C (v := 0) dX9_takesNumber_0 (by decide) ?_
  refine G_istore_n C 1 (lo' := [(1, .int 0), (0, .ref (ad 40))]) dX9_takesNumber_1 rfl (by decide) rfl ?_
  refine G_iconst C (v := 0) dX9_takesNumber_2 (by decide) ?_
  refine G_istore_n C 2 (lo' := [(2, .int 0), (1, .int 0), (0, .ref (ad 40))]) dX9_takesNumber_3 rfl (by decide) rfl ?_
  refine G_aload_n C 0 dX9_takesNumber_4 rfl rfl ?_
  refine G_get C 40 (by decide) g40 rfl inA9 25 (by decide) rfl kf_X9_206 rfl dX9_takesNumber_5 ?_
  refine G_if_eq C 59 dX9_takesNumber_8 (by decide) (fun h => absurd h (by decide)) (fun _ => ?_)
  refine G_iload_n C 2 dX9_takesNumber_11 rfl rfl ?_
  refine G_iconst C (v := 2) dX9_takesNumber_12 (by decide) ?_
  refine G_icmp_ge C 59 dX9_takesNumber_13 (by decide) (fun h => absurd h (by decide)) (fun _ => ?_)
  refine G_aload_n C 0 dX9_takesNumber_16 rfl rfl ?_
  refine G_callV C (As := []) (rest := []) (c_X9_here g40 g45 hn (show p ≤ 70 by omega)) ca_X9_here km_X9_209 (by decide) g40 rfl rfl rfl rfl (by decide) (Nat.le_of_ble_eq_true rfl) (by decide) dX9_takesNumber_17 (fun vv1 gg2 qq3 => ?_)
  obtain ⟨rfl, rfl⟩ := qq3
  refine G_bipush C (v := 48) dX9_takesNumber_20 (by decide) ?_
  refine G_bipush C (v := 57) dX9_takesNumber_22 (by decide) ?_
  refine G_callS C (As := [.int (hM tm n p), .int 48, .int 57]) (rest := []) c_X9_in ca_X9_in km_X9_50 rfl rfl (by decide) (Nat.le_of_ble_eq_true rfl) (by decide) dX9_takesNumber_24 (fun vv4 gg5 qq6 => ?_)
  obtain ⟨rfl, rfl⟩ := qq6
  refine G_if_eq C 59 dX9_takesNumber_27 (by decide) (fun c27 => ?_) (fun c27 => False.elim (c27 hd0))
  refine G_aload_n C 0 dX9_takesNumber_59 rfl rfl ?_
  refine G_aload_n C 0 dX9_takesNumber_60 rfl rfl ?_
  refine G_get C 40 (by decide) g40 rfl inA9 25 (by decide) rfl kf_X9_206 rfl dX9_takesNumber_61 ?_
  refine G_if_eq C 75 dX9_takesNumber_64 (by decide) (fun h => absurd h (by decide)) (fun _ => ?_)
  refine G_iload_n C 2 dX9_takesNumber_67 rfl rfl ?_
  refine G_if_le C 75 dX9_takesNumber_68 (by decide) (fun _ => ?_) (fun h => absurd h (by decide))
  refine G_iconst C (v := 0) dX9_takesNumber_75 (by decide) ?_
  refine G_putp C 40 (by decide) g40 rfl inA9 tyX9_ok nmX9 25 (by decide) rfl kf_X9_206 rfl rfl rfl (fs' := [.ref (ad 41), .ref (ad 42), .ref (ad 43), .int ik, .ref (ad 44), .int kn, .ref (ad 45), .int (nI n), .int th, .int m, .int q, .int te, .long fx, .long fy, .long nx, .long ny, .long ux, .long uy, .int us, .long px, .long py, .ref (ad 46), .ref (ad 47), .int (nI p), .int bg, .int 0, .int le, .int fi, .int re, .int ca]) (Nat.le_of_ble_eq_true rfl) rfl dX9_takesNumber_76 (fun gg7 hh8 aa9 => ?_)
  have AA10 : Agr [40] G gg7 := aa9.wk (by simp)
  refine G_iload_n C 1 dX9_takesNumber_79 rfl rfl ?_
  exact G_zret C hr rfl dX9_takesNumber_80 ⟨rfl, hh8, AA10⟩

abbrev rm_X9_tn11 : Room := ({ frames := 1, cells := 0, slots := 0, locals := 22 } : Room)
set_option maxRecDepth 100000 in
set_option maxHeartbeats 4000000 in
theorem c_X9_tn11 {L : GL} {ad : Nat → Nat} {G : Nat → va_E} {p : Nat} {n : Nat} {tm : Nat → Int32} {ik kn th m q te us bg le fi re ca : Int32} {fx fy nx ny ux uy px py : Int64}  (g40 : G 40 = .inr (9, [.ref (ad 41), .ref (ad 42), .ref (ad 43), .int ik, .ref (ad 44), .int kn, .ref (ad 45), .int (nI n), .int th, .int m, .int q, .int te, .long fx, .long fy, .long nx, .long ny, .long ux, .long uy, .int us, .long px, .long py, .ref (ad 46), .ref (ad 47), .int (nI p), .int bg, .int 1, .int le, .int fi, .int re, .int ca])) (g45 : G 45 = .inl (L.ac 0, 60, .inl tm)) (hn : n ≤ 60) (hpp : p ≤ 60) (hd0 : ¬ dgF (hM tm n p) = 0) (hd1 : dgF (hM tm n (p + 1)) = 0) : GM L yX9_takesNumber cX9_takesNumber 3 ((some .int)) rm_X9_tn11 50 ad G [.ref (ad 40)] (fun vo G' => vo = some (.int (0 + hM tm n p - 48)) ∧ G' 40 = .inr (9, [.ref (ad 41), .ref (ad 42), .ref (ad 43), .int ik, .ref (ad 44), .int kn, .ref (ad 45), .int (nI n), .int th, .int m, .int q, .int te, .long fx, .long fy, .long nx, .long ny, .long ux, .long uy, .int us, .long px, .long py, .ref (ad 46), .ref (ad 47), .int (nI (p + 1)), .int bg, .int 1, .int le, .int fi, .int re, .int ca]) ∧ Agr [40] G G') := by
  refine GM.of (own := RX9) (lo := [(0, .ref (ad 40))]) (by decide +kernel) rfl rfl (Nat.le_of_ble_eq_true rfl) (fun E C hr => ?_)
  refine G_iconst C (v := 0) dX9_takesNumber_0 (by decide) ?_
  refine G_istore_n C 1 (lo' := [(1, .int 0), (0, .ref (ad 40))]) dX9_takesNumber_1 rfl (by decide) rfl ?_
  refine G_iconst C (v := 0) dX9_takesNumber_2 (by decide) ?_
  refine G_istore_n C 2 (lo' := [(2, .int 0), (1, .int 0), (0, .ref (ad 40))]) dX9_takesNumber_3 rfl (by decide) rfl ?_
  refine G_aload_n C 0 dX9_takesNumber_4 rfl rfl ?_
  refine G_get C 40 (by decide) g40 rfl inA9 25 (by decide) rfl kf_X9_206 rfl dX9_takesNumber_5 ?_
  refine G_if_eq C 59 dX9_takesNumber_8 (by decide) (fun h => absurd h (by decide)) (fun _ => ?_)
  refine G_iload_n C 2 dX9_takesNumber_11 rfl rfl ?_
  refine G_iconst C (v := 2) dX9_takesNumber_12 (by decide) ?_
  refine G_icmp_ge C 59 dX9_takesNumber_13 (by decide) (fun h => absurd h (by decide)) (fun _ => ?_)
  refine G_aload_n C 0 dX9_takesNumber_16 rfl rfl ?_
  refine G_callV C (As := []) (rest := []) (c_X9_here g40 g45 hn (show p ≤ 70 by omega)) ca_X9_here km_X9_209 (by decide) g40 rfl rfl rfl rfl (by decide) (Nat.le_of_ble_eq_true rfl) (by decide) dX9_takesNumber_17 (fun vv1 gg2 qq3 => ?_)
  obtain ⟨rfl, rfl⟩ := qq3
  refine G_bipush C (v := 48) dX9_takesNumber_20 (by decide) ?_
  refine G_bipush C (v := 57) dX9_takesNumber_22 (by decide) ?_
  refine G_callS C (As := [.int (hM tm n p), .int 48, .int 57]) (rest := []) c_X9_in ca_X9_in km_X9_50 rfl rfl (by decide) (Nat.le_of_ble_eq_true rfl) (by decide) dX9_takesNumber_24 (fun vv4 gg5 qq6 => ?_)
  obtain ⟨rfl, rfl⟩ := qq6
  refine G_if_eq C 59 dX9_takesNumber_27 (by decide) (fun c27 => False.elim (hd0 c27)) (fun c27 => ?_)
  refine G_bipush C (v := 10) dX9_takesNumber_30 (by decide) ?_
  refine G_iload_n C 1 dX9_takesNumber_32 rfl rfl ?_
  refine G_imul C dX9_takesNumber_33 ?_
  refine GW.topr (y := 0) (by decide) ?_
  refine G_aload_n C 0 dX9_takesNumber_34 rfl rfl ?_
  refine G_callV C (As := []) (rest := [.int 0]) (c_X9_here g40 g45 hn (show p ≤ 70 by omega)) ca_X9_here km_X9_209 (by decide) g40 rfl rfl rfl rfl (by decide) (Nat.le_of_ble_eq_true rfl) (by decide) dX9_takesNumber_35 (fun vv7 gg8 qq9 => ?_)
  obtain ⟨rfl, rfl⟩ := qq9
  refine G_iadd C dX9_takesNumber_38 ?_
  refine G_bipush C (v := 48) dX9_takesNumber_39 (by decide) ?_
  refine G_isub C dX9_takesNumber_41 ?_
  refine G_istore_n C 1 (lo' := [(1, .int ((0 + (hM tm n p)) - 48)), (2, .int 0), (0, .ref (ad 40))]) dX9_takesNumber_42 rfl (by decide) rfl ?_
  refine G_iinc C (v := 1) (lo' := [(2, .int 1), (1, .int ((0 + (hM tm n p)) - 48)), (0, .ref (ad 40))]) dX9_takesNumber_43 rfl (by decide) (by decide) rfl ?_
  refine G_aload_n C 0 dX9_takesNumber_46 rfl rfl ?_
  refine G_dup C dX9_takesNumber_47 rfl ?_
  refine G_get C 40 (by decide) g40 rfl inA9 23 (by decide) rfl kf_X9_203 rfl dX9_takesNumber_48 ?_
  refine G_iconst C (v := 1) dX9_takesNumber_51 (by decide) ?_
  refine G_iadd C dX9_takesNumber_52 ?_
  refine GW.topr (cI_add (a := p) (b := 1) rfl rfl) ?_
  refine G_putp C 40 (by decide) g40 rfl inA9 tyX9_ok nmX9 23 (by decide) rfl kf_X9_203 rfl rfl rfl (fs' := [.ref (ad 41), .ref (ad 42), .ref (ad 43), .int ik, .ref (ad 44), .int kn, .ref (ad 45), .int (nI n), .int th, .int m, .int q, .int te, .long fx, .long fy, .long nx, .long ny, .long ux, .long uy, .int us, .long px, .long py, .ref (ad 46), .ref (ad 47), .int (nI (p + 1)), .int bg, .int 1, .int le, .int fi, .int re, .int ca]) (Nat.le_of_ble_eq_true rfl) rfl dX9_takesNumber_53 (fun gg10 hh11 aa12 => ?_)
  have AA13 : Agr [40] G gg10 := aa12.wk (by simp)
  refine G_goto C 4 dX9_takesNumber_56 (by decide) ?_
  refine G_aload_n C 0 dX9_takesNumber_4 rfl rfl ?_
  refine G_get C 40 (by decide) hh11 rfl inA9 25 (by decide) rfl kf_X9_206 rfl dX9_takesNumber_5 ?_
  refine G_if_eq C 59 dX9_takesNumber_8 (by decide) (fun h => absurd h (by decide)) (fun _ => ?_)
  refine G_iload_n C 2 dX9_takesNumber_11 rfl rfl ?_
  refine G_iconst C (v := 2) dX9_takesNumber_12 (by decide) ?_
  refine G_icmp_ge C 59 dX9_takesNumber_13 (by decide) (fun h => absurd h (by decide)) (fun _ => ?_)
  refine G_aload_n C 0 dX9_takesNumber_16 rfl rfl ?_
  refine G_callV C (As := []) (rest := []) (c_X9_here hh11 ((aa12 45 (by decide)).trans g45) hn (show (p + 1) ≤ 70 by omega)) ca_X9_here km_X9_209 (by decide) hh11 rfl rfl rfl rfl (by decide) (Nat.le_of_ble_eq_true rfl) (by decide) dX9_takesNumber_17 (fun vv16 gg17 qq18 => ?_)
  obtain ⟨rfl, rfl⟩ := qq18
  refine G_bipush C (v := 48) dX9_takesNumber_20 (by decide) ?_
  refine G_bipush C (v := 57) dX9_takesNumber_22 (by decide) ?_
  refine G_callS C (As := [.int (hM tm n (p + 1)), .int 48, .int 57]) (rest := []) c_X9_in ca_X9_in km_X9_50 rfl rfl (by decide) (Nat.le_of_ble_eq_true rfl) (by decide) dX9_takesNumber_24 (fun vv19 gg20 qq21 => ?_)
  obtain ⟨rfl, rfl⟩ := qq21
  refine G_if_eq C 59 dX9_takesNumber_27 (by decide) (fun c27_22 => ?_) (fun c27_22 => False.elim (c27_22 hd1))
  refine G_aload_n C 0 dX9_takesNumber_59 rfl rfl ?_
  refine G_aload_n C 0 dX9_takesNumber_60 rfl rfl ?_
  refine G_get C 40 (by decide) hh11 rfl inA9 25 (by decide) rfl kf_X9_206 rfl dX9_takesNumber_61 ?_
  refine G_if_eq C 75 dX9_takesNumber_64 (by decide) (fun h => absurd h (by decide)) (fun _ => ?_)
  refine G_iload_n C 2 dX9_takesNumber_67 rfl rfl ?_
  refine G_if_le C 75 dX9_takesNumber_68 (by decide) (fun h => absurd h (by decide)) (fun _ => ?_)
  refine G_iconst C (v := 1) dX9_takesNumber_71 (by decide) ?_
  refine G_goto C 76 dX9_takesNumber_72 (by decide) ?_
  refine G_putp C 40 (by decide) hh11 rfl inA9 tyX9_ok nmX9 25 (by decide) rfl kf_X9_206 rfl rfl rfl (fs' := [.ref (ad 41), .ref (ad 42), .ref (ad 43), .int ik, .ref (ad 44), .int kn, .ref (ad 45), .int (nI n), .int th, .int m, .int q, .int te, .long fx, .long fy, .long nx, .long ny, .long ux, .long uy, .int us, .long px, .long py, .ref (ad 46), .ref (ad 47), .int (nI (p + 1)), .int bg, .int 1, .int le, .int fi, .int re, .int ca]) (Nat.le_of_ble_eq_true rfl) rfl dX9_takesNumber_76 (fun gg23 hh24 aa25 => ?_)
  have AA26 : Agr [40] G gg23 := AA13.tr aa25 (by simp) (by simp)
  refine G_iload_n C 1 dX9_takesNumber_79 rfl rfl ?_
  exact G_zret C hr rfl dX9_takesNumber_80 ⟨rfl, hh24, AA26⟩

abbrev rm_X9_tn12 : Room := ({ frames := 1, cells := 0, slots := 0, locals := 22 } : Room)
set_option maxRecDepth 100000 in
set_option maxHeartbeats 4000000 in
theorem c_X9_tn12 {L : GL} {ad : Nat → Nat} {G : Nat → va_E} {p : Nat} {n : Nat} {tm : Nat → Int32} {ik kn th m q te us bg le fi re ca : Int32} {fx fy nx ny ux uy px py : Int64}  (g40 : G 40 = .inr (9, [.ref (ad 41), .ref (ad 42), .ref (ad 43), .int ik, .ref (ad 44), .int kn, .ref (ad 45), .int (nI n), .int th, .int m, .int q, .int te, .long fx, .long fy, .long nx, .long ny, .long ux, .long uy, .int us, .long px, .long py, .ref (ad 46), .ref (ad 47), .int (nI p), .int bg, .int 1, .int le, .int fi, .int re, .int ca])) (g45 : G 45 = .inl (L.ac 0, 60, .inl tm)) (hn : n ≤ 60) (hpp : p ≤ 60) (hd0 : ¬ dgF (hM tm n p) = 0) (hd1 : ¬ dgF (hM tm n (p + 1)) = 0) : GM L yX9_takesNumber cX9_takesNumber 3 ((some .int)) rm_X9_tn12 50 ad G [.ref (ad 40)] (fun vo G' => vo = some (.int (10 * (0 + hM tm n p - 48) + hM tm n (p + 1) - 48)) ∧ G' 40 = .inr (9, [.ref (ad 41), .ref (ad 42), .ref (ad 43), .int ik, .ref (ad 44), .int kn, .ref (ad 45), .int (nI n), .int th, .int m, .int q, .int te, .long fx, .long fy, .long nx, .long ny, .long ux, .long uy, .int us, .long px, .long py, .ref (ad 46), .ref (ad 47), .int (nI (p + 1 + 1)), .int bg, .int 1, .int le, .int fi, .int re, .int ca]) ∧ Agr [40] G G') := by
  refine GM.of (own := RX9) (lo := [(0, .ref (ad 40))]) (by decide +kernel) rfl rfl (Nat.le_of_ble_eq_true rfl) (fun E C hr => ?_)
  refine G_iconst C (v := 0) dX9_takesNumber_0 (by decide) ?_
  refine G_istore_n C 1 (lo' := [(1, .int 0), (0, .ref (ad 40))]) dX9_takesNumber_1 rfl (by decide) rfl ?_
  refine G_iconst C (v := 0) dX9_takesNumber_2 (by decide) ?_
  refine G_istore_n C 2 (lo' := [(2, .int 0), (1, .int 0), (0, .ref (ad 40))]) dX9_takesNumber_3 rfl (by decide) rfl ?_
  refine G_aload_n C 0 dX9_takesNumber_4 rfl rfl ?_
  refine G_get C 40 (by decide) g40 rfl inA9 25 (by decide) rfl kf_X9_206 rfl dX9_takesNumber_5 ?_
  refine G_if_eq C 59 dX9_takesNumber_8 (by decide) (fun h => absurd h (by decide)) (fun _ => ?_)
  refine G_iload_n C 2 dX9_takesNumber_11 rfl rfl ?_
  refine G_iconst C (v := 2) dX9_takesNumber_12 (by decide) ?_
  refine G_icmp_ge C 59 dX9_takesNumber_13 (by decide) (fun h => absurd h (by decide)) (fun _ => ?_)
  refine G_aload_n C 0 dX9_takesNumber_16 rfl rfl ?_
  refine G_callV C (As := []) (rest := []) (c_X9_here g40 g45 hn (show p ≤ 70 by omega)) ca_X9_here km_X9_209 (by decide) g40 rfl rfl rfl rfl (by decide) (Nat.le_of_ble_eq_true rfl) (by decide) dX9_takesNumber_17 (fun vv1 gg2 qq3 => ?_)
  obtain ⟨rfl, rfl⟩ := qq3
  refine G_bipush C (v := 48) dX9_takesNumber_20 (by decide) ?_
  refine G_bipush C (v := 57) dX9_takesNumber_22 (by decide) ?_
  refine G_callS C (As := [.int (hM tm n p), .int 48, .int 57]) (rest := []) c_X9_in ca_X9_in km_X9_50 rfl rfl (by decide) (Nat.le_of_ble_eq_true rfl) (by decide) dX9_takesNumber_24 (fun vv4 gg5 qq6 => ?_)
  obtain ⟨rfl, rfl⟩ := qq6
  refine G_if_eq C 59 dX9_takesNumber_27 (by decide) (fun c27 => False.elim (hd0 c27)) (fun c27 => ?_)
  refine G_bipush C (v := 10) dX9_takesNumber_30 (by decide) ?_
  refine G_iload_n C 1 dX9_takesNumber_32 rfl rfl ?_
  refine G_imul C dX9_takesNumber_33 ?_
  refine GW.topr (y := 0) (by decide) ?_
  refine G_aload_n C 0 dX9_takesNumber_34 rfl rfl ?_
  refine G_callV C (As := []) (rest := [.int 0]) (c_X9_here g40 g45 hn (show p ≤ 70 by omega)) ca_X9_here km_X9_209 (by decide) g40 rfl rfl rfl rfl (by decide) (Nat.le_of_ble_eq_true rfl) (by decide) dX9_takesNumber_35 (fun vv7 gg8 qq9 => ?_)
  obtain ⟨rfl, rfl⟩ := qq9
  refine G_iadd C dX9_takesNumber_38 ?_
  refine G_bipush C (v := 48) dX9_takesNumber_39 (by decide) ?_
  refine G_isub C dX9_takesNumber_41 ?_
  refine G_istore_n C 1 (lo' := [(1, .int ((0 + (hM tm n p)) - 48)), (2, .int 0), (0, .ref (ad 40))]) dX9_takesNumber_42 rfl (by decide) rfl ?_
  refine G_iinc C (v := 1) (lo' := [(2, .int 1), (1, .int ((0 + (hM tm n p)) - 48)), (0, .ref (ad 40))]) dX9_takesNumber_43 rfl (by decide) (by decide) rfl ?_
  refine G_aload_n C 0 dX9_takesNumber_46 rfl rfl ?_
  refine G_dup C dX9_takesNumber_47 rfl ?_
  refine G_get C 40 (by decide) g40 rfl inA9 23 (by decide) rfl kf_X9_203 rfl dX9_takesNumber_48 ?_
  refine G_iconst C (v := 1) dX9_takesNumber_51 (by decide) ?_
  refine G_iadd C dX9_takesNumber_52 ?_
  refine GW.topr (cI_add (a := p) (b := 1) rfl rfl) ?_
  refine G_putp C 40 (by decide) g40 rfl inA9 tyX9_ok nmX9 23 (by decide) rfl kf_X9_203 rfl rfl rfl (fs' := [.ref (ad 41), .ref (ad 42), .ref (ad 43), .int ik, .ref (ad 44), .int kn, .ref (ad 45), .int (nI n), .int th, .int m, .int q, .int te, .long fx, .long fy, .long nx, .long ny, .long ux, .long uy, .int us, .long px, .long py, .ref (ad 46), .ref (ad 47), .int (nI (p + 1)), .int bg, .int 1, .int le, .int fi, .int re, .int ca]) (Nat.le_of_ble_eq_true rfl) rfl dX9_takesNumber_53 (fun gg10 hh11 aa12 => ?_)
  have AA13 : Agr [40] G gg10 := aa12.wk (by simp)
  refine G_goto C 4 dX9_takesNumber_56 (by decide) ?_
  refine G_aload_n C 0 dX9_takesNumber_4 rfl rfl ?_
  refine G_get C 40 (by decide) hh11 rfl inA9 25 (by decide) rfl kf_X9_206 rfl dX9_takesNumber_5 ?_
  refine G_if_eq C 59 dX9_takesNumber_8 (by decide) (fun h => absurd h (by decide)) (fun _ => ?_)
  refine G_iload_n C 2 dX9_takesNumber_11 rfl rfl ?_
  refine G_iconst C (v := 2) dX9_takesNumber_12 (by decide) ?_
  refine G_icmp_ge C 59 dX9_takesNumber_13 (by decide) (fun h => absurd h (by decide)) (fun _ => ?_)
  refine G_aload_n C 0 dX9_takesNumber_16 rfl rfl ?_
  refine G_callV C (As := []) (rest := []) (c_X9_here hh11 ((aa12 45 (by decide)).trans g45) hn (show (p + 1) ≤ 70 by omega)) ca_X9_here km_X9_209 (by decide) hh11 rfl rfl rfl rfl (by decide) (Nat.le_of_ble_eq_true rfl) (by decide) dX9_takesNumber_17 (fun vv16 gg17 qq18 => ?_)
  obtain ⟨rfl, rfl⟩ := qq18
  refine G_bipush C (v := 48) dX9_takesNumber_20 (by decide) ?_
  refine G_bipush C (v := 57) dX9_takesNumber_22 (by decide) ?_
  refine G_callS C (As := [.int (hM tm n (p + 1)), .int 48, .int 57]) (rest := []) c_X9_in ca_X9_in km_X9_50 rfl rfl (by decide) (Nat.le_of_ble_eq_true rfl) (by decide) dX9_takesNumber_24 (fun vv19 gg20 qq21 => ?_)
  obtain ⟨rfl, rfl⟩ := qq21
  refine G_if_eq C 59 dX9_takesNumber_27 (by decide) (fun c27_22 => False.elim (hd1 c27_22)) (fun c27_22 => ?_)
  refine G_bipush C (v := 10) dX9_takesNumber_30 (by decide) ?_
  refine G_iload_n C 1 dX9_takesNumber_32 rfl rfl ?_
  refine G_imul C dX9_takesNumber_33 ?_
  refine G_aload_n C 0 dX9_takesNumber_34 rfl rfl ?_
  refine G_callV C (As := []) (rest := [.int (10 * ((0 + (hM tm n p)) - 48))]) (c_X9_here hh11 ((aa12 45 (by decide)).trans g45) hn (show (p + 1) ≤ 70 by omega)) ca_X9_here km_X9_209 (by decide) hh11 rfl rfl rfl rfl (by decide) (Nat.le_of_ble_eq_true rfl) (by decide) dX9_takesNumber_35 (fun vv23 gg24 qq25 => ?_)
  obtain ⟨rfl, rfl⟩ := qq25
  refine G_iadd C dX9_takesNumber_38 ?_
  refine G_bipush C (v := 48) dX9_takesNumber_39 (by decide) ?_
  refine G_isub C dX9_takesNumber_41 ?_
  refine G_istore_n C 1 (lo' := [(1, .int (((10 * ((0 + (hM tm n p)) - 48)) + (hM tm n (p + 1))) - 48)), (2, .int 1), (0, .ref (ad 40))]) dX9_takesNumber_42 rfl (by decide) rfl ?_
  refine G_iinc C (v := 2) (lo' := [(2, .int 2), (1, .int (((10 * ((0 + (hM tm n p)) - 48)) + (hM tm n (p + 1))) - 48)), (0, .ref (ad 40))]) dX9_takesNumber_43 rfl (by decide) (by decide) rfl ?_
  refine G_aload_n C 0 dX9_takesNumber_46 rfl rfl ?_
  refine G_dup C dX9_takesNumber_47 rfl ?_
  refine G_get C 40 (by decide) hh11 rfl inA9 23 (by decide) rfl kf_X9_203 rfl dX9_takesNumber_48 ?_
  refine G_iconst C (v := 1) dX9_takesNumber_51 (by decide) ?_
  refine G_iadd C dX9_takesNumber_52 ?_
  refine GW.topr (cI_add (a := (p + 1)) (b := 1) rfl rfl) ?_
  refine G_putp C 40 (by decide) hh11 rfl inA9 tyX9_ok nmX9 23 (by decide) rfl kf_X9_203 rfl rfl rfl (fs' := [.ref (ad 41), .ref (ad 42), .ref (ad 43), .int ik, .ref (ad 44), .int kn, .ref (ad 45), .int (nI n), .int th, .int m, .int q, .int te, .long fx, .long fy, .long nx, .long ny, .long ux, .long uy, .int us, .long px, .long py, .ref (ad 46), .ref (ad 47), .int (nI ((p + 1) + 1)), .int bg, .int 1, .int le, .int fi, .int re, .int ca]) (Nat.le_of_ble_eq_true rfl) rfl dX9_takesNumber_53 (fun gg26 hh27 aa28 => ?_)
  have AA29 : Agr [40] G gg26 := AA13.tr aa28 (by simp) (by simp)
  refine G_goto C 4 dX9_takesNumber_56 (by decide) ?_
  refine G_aload_n C 0 dX9_takesNumber_4 rfl rfl ?_
  refine G_get C 40 (by decide) hh27 rfl inA9 25 (by decide) rfl kf_X9_206 rfl dX9_takesNumber_5 ?_
  refine G_if_eq C 59 dX9_takesNumber_8 (by decide) (fun h => absurd h (by decide)) (fun _ => ?_)
  refine G_iload_n C 2 dX9_takesNumber_11 rfl rfl ?_
  refine G_iconst C (v := 2) dX9_takesNumber_12 (by decide) ?_
  refine G_icmp_ge C 59 dX9_takesNumber_13 (by decide) (fun _ => ?_) (fun h => absurd h (by decide))
  refine G_aload_n C 0 dX9_takesNumber_59 rfl rfl ?_
  refine G_aload_n C 0 dX9_takesNumber_60 rfl rfl ?_
  refine G_get C 40 (by decide) hh27 rfl inA9 25 (by decide) rfl kf_X9_206 rfl dX9_takesNumber_61 ?_
  refine G_if_eq C 75 dX9_takesNumber_64 (by decide) (fun h => absurd h (by decide)) (fun _ => ?_)
  refine G_iload_n C 2 dX9_takesNumber_67 rfl rfl ?_
  refine G_if_le C 75 dX9_takesNumber_68 (by decide) (fun h => absurd h (by decide)) (fun _ => ?_)
  refine G_iconst C (v := 1) dX9_takesNumber_71 (by decide) ?_
  refine G_goto C 76 dX9_takesNumber_72 (by decide) ?_
  refine G_putp C 40 (by decide) hh27 rfl inA9 tyX9_ok nmX9 25 (by decide) rfl kf_X9_206 rfl rfl rfl (fs' := [.ref (ad 41), .ref (ad 42), .ref (ad 43), .int ik, .ref (ad 44), .int kn, .ref (ad 45), .int (nI n), .int th, .int m, .int q, .int te, .long fx, .long fy, .long nx, .long ny, .long ux, .long uy, .int us, .long px, .long py, .ref (ad 46), .ref (ad 47), .int (nI ((p + 1) + 1)), .int bg, .int 1, .int le, .int fi, .int re, .int ca]) (Nat.le_of_ble_eq_true rfl) rfl dX9_takesNumber_76 (fun gg32 hh33 aa34 => ?_)
  have AA35 : Agr [40] G gg32 := AA29.tr aa34 (by simp) (by simp)
  refine G_iload_n C 1 dX9_takesNumber_79 rfl rfl ?_
  exact G_zret C hr rfl dX9_takesNumber_80 ⟨rfl, hh33, AA35⟩

