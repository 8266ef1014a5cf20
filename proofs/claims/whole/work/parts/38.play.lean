theorem rd_inv {tx : Nat → Int32} {ln : Int32} {s : FS} (hr : s.2.2.1 = 0) (hk : okH s.2.2.2.2.1) (hL : okL s.2.2.2.2.1 s.2.2.2.2.2.1) :
    ((rdF tx ln s).2.2.1 = 0 ∨ (rdF tx ln s).2.2.1 = 1 ∨ (rdF tx ln s).2.2.1 = 2) ∧ okH (rdF tx ln s).2.2.2.2.1 ∧ okL (rdF tx ln s).2.2.2.2.1 (rdF tx ln s).2.2.2.2.2.1 := by
  have h : ∀ n w, ((orF tx ln s n w).2.2.1 = 0 ∨ (orF tx ln s n w).2.2.1 = 1 ∨ (orF tx ln s n w).2.2.1 = 2) ∧ okH (orF tx ln s n w).2.2.2.2.1 ∧ okL (orF tx ln s n w).2.2.2.2.1 (orF tx ln s n w).2.2.2.2.2.1 := fun n w => by
    unfold orF
    split
    · rename_i hc
      exact ⟨Or.inl hr, okH_co hk hc, okL_co hk hL hc⟩
    · exact ⟨Or.inr (Or.inr rfl), hk, hL⟩
  unfold rdF
  split
  · split
    · exact h _ _
    · exact ⟨Or.inr (Or.inl rfl), hk, hL⟩
  · split
    · exact h _ _
    · exact ⟨Or.inr (Or.inl rfl), hk, hL⟩
theorem fr_inv {tx : Nat → Int32} {len : Nat} : ∀ (n : Nat) (s : FS), (s.2.2.1 = 0 ∨ s.2.2.1 = 1 ∨ s.2.2.1 = 2) → okH s.2.2.2.2.1 → okL s.2.2.2.2.1 s.2.2.2.2.2.1 →
    ((fRun tx len n s).2.2.1 = 0 ∨ (fRun tx len n s).2.2.1 = 1 ∨ (fRun tx len n s).2.2.1 = 2) ∧ okH (fRun tx len n s).2.2.2.2.1 ∧ okL (fRun tx len n s).2.2.2.2.1 (fRun tx len n s).2.2.2.2.2.1
  | 0, s, hr, hk, hL => ⟨hr, hk, hL⟩
  | n + 1, s, hr, hk, hL => by
    rw [fRun]
    split
    · rename_i h
      have := rd_inv (tx := tx) (ln := nI len) h.2 hk hL
      exact fr_inv n _ this.1 this.2.1 this.2.2
    · exact ⟨hr, hk, hL⟩
theorem fr_all {tx : Nat → Int32} {len : Nat} {f : Nat → Int32} {l ml : Int32} (hk : okH f) (hL : okL f l) :
    ((fRun tx len 60 (0, 0, 0, 0, f, l, ml)).2.2.1 = 0 ∨ (fRun tx len 60 (0, 0, 0, 0, f, l, ml)).2.2.1 = 1 ∨ (fRun tx len 60 (0, 0, 0, 0, f, l, ml)).2.2.1 = 2) ∧ okH (fRun tx len 60 (0, 0, 0, 0, f, l, ml)).2.2.2.2.1 ∧ okL (fRun tx len 60 (0, 0, 0, 0, f, l, ml)).2.2.2.2.1 (fRun tx len 60 (0, 0, 0, 0, f, l, ml)).2.2.2.2.2.1 := fr_inv 60 _ (Or.inl rfl) hk hL
theorem fr_pos {tx : Nat → Int32} {len : Nat} {f : Nat → Int32} {l ml : Int32} (hk : okH f) (hL : okL f l) (h : ¬ (fRun tx len 60 (0, 0, 0, 0, f, l, ml)).2.2.1 = 0) : ¬ (fRun tx len 60 (0, 0, 0, 0, f, l, ml)).2.2.1 ≤ 0 := by
  rcases (fr_all (tx := tx) (len := len) (ml := ml) hk hL).1 with e | e | e
  · exact absurd e h
  · rw [e]; decide
  · rw [e]; decide
abbrev rm_X9_ft0 : Room := ({ frames := 8, cells := 0, slots := 0, locals := 172 } : Room)
set_option maxRecDepth 100000 in
set_option maxHeartbeats 4000000 in
theorem c_X9_ft0 {L : GL} {ad : Nat → Nat} {G : Nat → va_E} {w : Int32} {len : Nat} {l : Int32} {tx tm f2 : Nat → Int32} {ik kn th m q te us sp bg fo le fi re ca : Int32} {fx fy nx ny ux uy px py : Int64} {ml : Int32} {f : Nat → Int32}  (g40 : G 40 = .inr (9, [.ref (ad 41), .ref (ad 42), .ref (ad 43), .int ik, .ref (ad 44), .int kn, .ref (ad 45), .int (nI len), .int th, .int m, .int q, .int te, .long fx, .long fy, .long nx, .long ny, .long ux, .long uy, .int us, .long px, .long py, .ref (ad 46), .ref (ad 47), .int sp, .int bg, .int fo, .int le, .int fi, .int re, .int ca])) (g41 : G 41 = .inl (L.ac 0, 60, .inl (sv f ml))) (g42 : G 42 = .inl (L.ac 0, 60, .inl f2)) (g45 : G 45 = .inl (L.ac 0, 60, .inl tm)) (hn6 : len ≤ 60) (hk0 : okH f) (hL0 : okL f l) (he : ∀ j, j < len → tx j = tm j) (hz : (fRun tx len 60 (0, 0, 0, 0, f, l, ml)).2.2.1 = 0) : GM L yX9_faultTold cX9_faultTold 3 ((some .int)) rm_X9_ft0 50 ad G [.ref (ad 40), .int w] (fun vo G' => ∃ (j1 : Int32) (j2 : Int32) (j3 : Int32) (j4 : Int64) (j5 : Int64) (j6 : Int64) (j7 : Int64) (u1 : Int64) (u2 : Int64) (u3 : Int32) (p1 : Int64) (p2 : Int64) (k1 : Int32) (k2 : Int32) (k3 : Int32) (k4 : Int32) (k5 : Int32) (k6 : Int32), vo = some (.int 0) ∧ G' 40 = .inr (9, [.ref (ad 41), .ref (ad 42), .ref (ad 43), .int ik, .ref (ad 44), .int kn, .ref (ad 45), .int (nI len), .int 1, .int j1, .int j2, .int j3, .long j4, .long j5, .long j6, .long j7, .long u1, .long u2, .int u3, .long p1, .long p2, .ref (ad 46), .ref (ad 47), .int k1, .int k2, .int k3, .int k4, .int k5, .int 0, .int k6]) ∧ G' 41 = .inl (L.ac 0, 60, .inl (sv f ml)) ∧ G' 42 = .inl (L.ac 0, 60, .inl (sv f ml)) ∧ Agr [40, 41, 42] G G') := by
  refine GM.of (own := RX9) (lo := [(0, .ref (ad 40)), (1, .int w)]) (by decide +kernel) rfl rfl (Nat.le_of_ble_eq_true rfl) (fun E C hr => ?_)
  refine G_aload_n C 0 dX9_faultTold_0 rfl rfl ?_
  refine G_iconst C (v := 0) dX9_faultTold_1 (by decide) ?_
  refine G_putp C 40 (by decide) g40 rfl inA9 tyX9_ok nmX9 8 (by decide) rfl kf_X9_32 rfl rfl rfl (fs' := [.ref (ad 41), .ref (ad 42), .ref (ad 43), .int ik, .ref (ad 44), .int kn, .ref (ad 45), .int (nI len), .int 0, .int m, .int q, .int te, .long fx, .long fy, .long nx, .long ny, .long ux, .long uy, .int us, .long px, .long py, .ref (ad 46), .ref (ad 47), .int sp, .int bg, .int fo, .int le, .int fi, .int re, .int ca]) (Nat.le_of_ble_eq_true rfl) rfl dX9_faultTold_2 (fun gg1 hh2 aa3 => ?_)
  have AA4 : Agr [40] G gg1 := aa3.wk (by simp)
  refine G_aload_n C 0 dX9_faultTold_5 rfl rfl ?_
  refine G_get C 40 (by decide) hh2 rfl inA9 0 (by decide) rfl kf_X9_7 rfl dX9_faultTold_6 ?_
  refine G_iconst C (v := 0) dX9_faultTold_9 (by decide) ?_
  refine G_aload_n C 0 dX9_faultTold_10 rfl rfl ?_
  refine G_get C 40 (by decide) hh2 rfl inA9 1 (by decide) rfl kf_X9_13 rfl dX9_faultTold_11 ?_
  refine G_iconst C (v := 0) dX9_faultTold_14 (by decide) ?_
  refine G_callS C (As := [.ref (ad 41), .int 0, .ref (ad 42), .int 0]) (rest := []) (c_X9_copies (at1 := 0) (by1 := 0) (by decide) (by decide) ((aa3 41 (by decide)).trans g41) ((aa3 42 (by decide)).trans g42) (by decide) (by omega) (by omega) (by omega) (by omega)) ca_X9_copies km_X9_36 rfl rfl (by decide) (Nat.le_of_ble_eq_true rfl) (by decide) dX9_faultTold_15 (fun vv5 gg6 qq7 => ?_)
  obtain ⟨rfl, hh8, aa9⟩ := qq7
  have AA10 : Agr [40, 42] G gg6 := AA4.tr aa9 (by simp) (by simp)
  refine GW.ren 42 (by decide) (t0 := 0) (sv f ml) hh8 (cpK_all) (fun gg11 hh12 aa13 => ?_)
  have AA14 : Agr [40, 42] G gg11 := AA10.tr aa13 (by simp) (by simp)
  refine G_aload_n C 0 dX9_faultTold_18 rfl rfl ?_
  refine G_callV C (As := []) (rest := []) (c_X9_doesAll ((aa13 40 (by decide)).trans ((aa9 40 (by decide)).trans hh2)) ((aa13 41 (by decide)).trans ((aa9 41 (by decide)).trans ((aa3 41 (by decide)).trans g41))) ((aa13 45 (by decide)).trans ((aa9 45 (by decide)).trans ((aa3 45 (by decide)).trans g45))) hn6 hk0 hL0 he) ca_X9_doesAll km_X9_239 (by decide) ((aa13 40 (by decide)).trans ((aa9 40 (by decide)).trans hh2)) rfl rfl rfl rfl (by decide) (Nat.le_of_ble_eq_true rfl) (by decide) dX9_faultTold_19 (fun vv15 gg16 qq17 => ?_)
  obtain ⟨j_18, j_19, j_20, j_21, j_22, j_23, j_24, u_25, u_26, u_27, p_28, p_29, k_30, k_31, k_32, k_33, k_34, k_35, rfl, pp36, hh37, hh38, aa39⟩ := qq17
  have AA40 : Agr [40, 42, 41] G gg16 := AA14.tr aa39 (by simp) (by simp)
  refine G_istore_n C 2 (lo' := [(2, .int ((fRun tx len 60 (0, 0, 0, 0, f, l, ml)).1)), (0, .ref (ad 40)), (1, .int w)]) dX9_faultTold_22 rfl (by decide) rfl ?_
  refine G_aload_n C 0 dX9_faultTold_23 rfl rfl ?_
  refine G_get C 40 (by decide) hh37 rfl inA9 1 (by decide) rfl kf_X9_13 rfl dX9_faultTold_24 ?_
  refine G_iconst C (v := 0) dX9_faultTold_27 (by decide) ?_
  refine G_aload_n C 0 dX9_faultTold_28 rfl rfl ?_
  refine G_get C 40 (by decide) hh37 rfl inA9 0 (by decide) rfl kf_X9_7 rfl dX9_faultTold_29 ?_
  refine G_iconst C (v := 0) dX9_faultTold_32 (by decide) ?_
  refine G_callS C (As := [.ref (ad 42), .int 0, .ref (ad 41), .int 0]) (rest := []) (c_X9_copies (at1 := 0) (by1 := 0) (by decide) (by decide) ((aa39 42 (by decide)).trans hh12) hh38 (by decide) (by omega) (by omega) (by omega) (by omega)) ca_X9_copies km_X9_36 rfl rfl (by decide) (Nat.le_of_ble_eq_true rfl) (by decide) dX9_faultTold_33 (fun vv41 gg42 qq43 => ?_)
  obtain ⟨rfl, hh44, aa45⟩ := qq43
  have AA46 : Agr [40, 42, 41] G gg42 := AA40.tr aa45 (by simp) (by simp)
  refine GW.ren 41 (by decide) (t0 := 0) (sv f ml) hh44 (cpK_all) (fun gg47 hh48 aa49 => ?_)
  have AA50 : Agr [40, 42, 41] G gg47 := AA46.tr aa49 (by simp) (by simp)
  refine G_aload_n C 0 dX9_faultTold_36 rfl rfl ?_
  refine G_get C 40 (by decide) ((aa49 40 (by decide)).trans ((aa45 40 (by decide)).trans hh37)) rfl inA9 28 (by decide) rfl kf_X9_228 rfl dX9_faultTold_37 ?_
  refine G_if_ne C 51 dX9_faultTold_40 (by decide) (fun c40 => False.elim (c40 hz)) (fun c40 => ?_)
  refine G_aload_n C 0 dX9_faultTold_43 rfl rfl ?_
  refine G_iconst C (v := 1) dX9_faultTold_44 (by decide) ?_
  refine G_callV C (As := [.int 1]) (rest := []) (c_X9_fails ((aa49 40 (by decide)).trans ((aa45 40 (by decide)).trans hh37))) ca_X9_fails km_X9_43 (by decide) ((aa49 40 (by decide)).trans ((aa45 40 (by decide)).trans hh37)) rfl rfl rfl rfl (by decide) (Nat.le_of_ble_eq_true rfl) (by decide) dX9_faultTold_45 (fun vv51 gg52 qq53 => ?_)
  obtain ⟨rfl, hh54, aa55⟩ := qq53
  have AA56 : Agr [40, 42, 41] G gg52 := AA50.tr aa55 (by simp) (by simp)
  refine G_goto C 78 dX9_faultTold_48 (by decide) ?_
  exact G_zret C hr rfl dX9_faultTold_78 ⟨_, _, _, _, _, _, _, _, _, _, _, _, _, _, _, _, _, _, rfl, (by rw [hh54, hz]), ((aa55 41 (by decide)).trans hh48), ((aa55 42 (by decide)).trans ((aa49 42 (by decide)).trans ((aa45 42 (by decide)).trans ((aa39 42 (by decide)).trans hh12)))), (AA56.wk (by simp))⟩

abbrev rm_X9_ftY0 : Room := ({ frames := 8, cells := 0, slots := 0, locals := 172 } : Room)
set_option maxRecDepth 100000 in
set_option maxHeartbeats 4000000 in
theorem c_X9_ftY0 {L : GL} {ad : Nat → Nat} {G : Nat → va_E} {len : Nat} {l : Int32} {tx tm f2 : Nat → Int32} {ik kn th m q te us sp bg fo le fi re ca : Int32} {fx fy nx ny ux uy px py : Int64} {ml : Int32} {f : Nat → Int32}  (g40 : G 40 = .inr (9, [.ref (ad 41), .ref (ad 42), .ref (ad 43), .int ik, .ref (ad 44), .int kn, .ref (ad 45), .int (nI len), .int th, .int m, .int q, .int te, .long fx, .long fy, .long nx, .long ny, .long ux, .long uy, .int us, .long px, .long py, .ref (ad 46), .ref (ad 47), .int sp, .int bg, .int fo, .int le, .int fi, .int re, .int ca])) (g41 : G 41 = .inl (L.ac 0, 60, .inl (sv f ml))) (g42 : G 42 = .inl (L.ac 0, 60, .inl f2)) (g45 : G 45 = .inl (L.ac 0, 60, .inl tm)) (hn6 : len ≤ 60) (hk0 : okH f) (hL0 : okL f l) (he : ∀ j, j < len → tx j = tm j) (hz : ¬ (fRun tx len 60 (0, 0, 0, 0, f, l, ml)).2.2.1 = 0) : GM L yX9_faultTold cX9_faultTold 3 ((some .int)) rm_X9_ftY0 50 ad G [.ref (ad 40), .int 0] (fun vo G' => ∃ (j1 : Int32) (j2 : Int32) (j3 : Int32) (j4 : Int64) (j5 : Int64) (j6 : Int64) (j7 : Int64) (u1 : Int64) (u2 : Int64) (u3 : Int32) (p1 : Int64) (p2 : Int64) (k1 : Int32) (k2 : Int32) (k3 : Int32) (k4 : Int32) (k5 : Int32) (k6 : Int32), vo = some (.int (nI (fRun tx len 60 (0, 0, 0, 0, f, l, ml)).2.1)) ∧ G' 40 = .inr (9, [.ref (ad 41), .ref (ad 42), .ref (ad 43), .int ik, .ref (ad 44), .int kn, .ref (ad 45), .int (nI len), .int 0, .int j1, .int j2, .int j3, .long j4, .long j5, .long j6, .long j7, .long u1, .long u2, .int u3, .long p1, .long p2, .ref (ad 46), .ref (ad 47), .int k1, .int k2, .int k3, .int k4, .int k5, .int ((fRun tx len 60 (0, 0, 0, 0, f, l, ml)).2.2.1), .int k6]) ∧ G' 41 = .inl (L.ac 0, 60, .inl (sv f ml)) ∧ G' 42 = .inl (L.ac 0, 60, .inl (sv f ml)) ∧ Agr [40, 41, 42] G G') := by
  refine GM.of (own := RX9) (lo := [(0, .ref (ad 40)), (1, .int 0)]) (by decide +kernel) rfl rfl (Nat.le_of_ble_eq_true rfl) (fun E C hr => ?_)
  refine G_aload_n C 0 dX9_faultTold_0 rfl rfl ?_
  refine G_iconst C (v := 0) dX9_faultTold_1 (by decide) ?_
  refine G_putp C 40 (by decide) g40 rfl inA9 tyX9_ok nmX9 8 (by decide) rfl kf_X9_32 rfl rfl rfl (fs' := [.ref (ad 41), .ref (ad 42), .ref (ad 43), .int ik, .ref (ad 44), .int kn, .ref (ad 45), .int (nI len), .int 0, .int m, .int q, .int te, .long fx, .long fy, .long nx, .long ny, .long ux, .long uy, .int us, .long px, .long py, .ref (ad 46), .ref (ad 47), .int sp, .int bg, .int fo, .int le, .int fi, .int re, .int ca]) (Nat.le_of_ble_eq_true rfl) rfl dX9_faultTold_2 (fun gg1 hh2 aa3 => ?_)
  have AA4 : Agr [40] G gg1 := aa3.wk (by simp)
  refine G_aload_n C 0 dX9_faultTold_5 rfl rfl ?_
  refine G_get C 40 (by decide) hh2 rfl inA9 0 (by decide) rfl kf_X9_7 rfl dX9_faultTold_6 ?_
  refine G_iconst C (v := 0) dX9_faultTold_9 (by decide) ?_
  refine G_aload_n C 0 dX9_faultTold_10 rfl rfl ?_
  refine G_get C 40 (by decide) hh2 rfl inA9 1 (by decide) rfl kf_X9_13 rfl dX9_faultTold_11 ?_
  refine G_iconst C (v := 0) dX9_faultTold_14 (by decide) ?_
  refine G_callS C (As := [.ref (ad 41), .int 0, .ref (ad 42), .int 0]) (rest := []) (c_X9_copies (at1 := 0) (by1 := 0) (by decide) (by decide) ((aa3 41 (by decide)).trans g41) ((aa3 42 (by decide)).trans g42) (by decide) (by omega) (by omega) (by omega) (by omega)) ca_X9_copies km_X9_36 rfl rfl (by decide) (Nat.le_of_ble_eq_true rfl) (by decide) dX9_faultTold_15 (fun vv5 gg6 qq7 => ?_)
  obtain ⟨rfl, hh8, aa9⟩ := qq7
  have AA10 : Agr [40, 42] G gg6 := AA4.tr aa9 (by simp) (by simp)
  refine GW.ren 42 (by decide) (t0 := 0) (sv f ml) hh8 (cpK_all) (fun gg11 hh12 aa13 => ?_)
  have AA14 : Agr [40, 42] G gg11 := AA10.tr aa13 (by simp) (by simp)
  refine G_aload_n C 0 dX9_faultTold_18 rfl rfl ?_
  refine G_callV C (As := []) (rest := []) (c_X9_doesAll ((aa13 40 (by decide)).trans ((aa9 40 (by decide)).trans hh2)) ((aa13 41 (by decide)).trans ((aa9 41 (by decide)).trans ((aa3 41 (by decide)).trans g41))) ((aa13 45 (by decide)).trans ((aa9 45 (by decide)).trans ((aa3 45 (by decide)).trans g45))) hn6 hk0 hL0 he) ca_X9_doesAll km_X9_239 (by decide) ((aa13 40 (by decide)).trans ((aa9 40 (by decide)).trans hh2)) rfl rfl rfl rfl (by decide) (Nat.le_of_ble_eq_true rfl) (by decide) dX9_faultTold_19 (fun vv15 gg16 qq17 => ?_)
  obtain ⟨j_18, j_19, j_20, j_21, j_22, j_23, j_24, u_25, u_26, u_27, p_28, p_29, k_30, k_31, k_32, k_33, k_34, k_35, rfl, pp36, hh37, hh38, aa39⟩ := qq17
  have AA40 : Agr [40, 42, 41] G gg16 := AA14.tr aa39 (by simp) (by simp)
  refine G_istore_n C 2 (lo' := [(2, .int ((fRun tx len 60 (0, 0, 0, 0, f, l, ml)).1)), (0, .ref (ad 40)), (1, .int 0)]) dX9_faultTold_22 rfl (by decide) rfl ?_
  refine G_aload_n C 0 dX9_faultTold_23 rfl rfl ?_
  refine G_get C 40 (by decide) hh37 rfl inA9 1 (by decide) rfl kf_X9_13 rfl dX9_faultTold_24 ?_
  refine G_iconst C (v := 0) dX9_faultTold_27 (by decide) ?_
  refine G_aload_n C 0 dX9_faultTold_28 rfl rfl ?_
  refine G_get C 40 (by decide) hh37 rfl inA9 0 (by decide) rfl kf_X9_7 rfl dX9_faultTold_29 ?_
  refine G_iconst C (v := 0) dX9_faultTold_32 (by decide) ?_
  refine G_callS C (As := [.ref (ad 42), .int 0, .ref (ad 41), .int 0]) (rest := []) (c_X9_copies (at1 := 0) (by1 := 0) (by decide) (by decide) ((aa39 42 (by decide)).trans hh12) hh38 (by decide) (by omega) (by omega) (by omega) (by omega)) ca_X9_copies km_X9_36 rfl rfl (by decide) (Nat.le_of_ble_eq_true rfl) (by decide) dX9_faultTold_33 (fun vv41 gg42 qq43 => ?_)
  obtain ⟨rfl, hh44, aa45⟩ := qq43
  have AA46 : Agr [40, 42, 41] G gg42 := AA40.tr aa45 (by simp) (by simp)
  refine GW.ren 41 (by decide) (t0 := 0) (sv f ml) hh44 (cpK_all) (fun gg47 hh48 aa49 => ?_)
  have AA50 : Agr [40, 42, 41] G gg47 := AA46.tr aa49 (by simp) (by simp)
  refine G_aload_n C 0 dX9_faultTold_36 rfl rfl ?_
  refine G_get C 40 (by decide) ((aa49 40 (by decide)).trans ((aa45 40 (by decide)).trans hh37)) rfl inA9 28 (by decide) rfl kf_X9_228 rfl dX9_faultTold_37 ?_
  refine G_if_ne C 51 dX9_faultTold_40 (by decide) (fun c40 => ?_) (fun c40 => False.elim (hz c40))
  refine G_iload_n C 1 dX9_faultTold_51 rfl rfl ?_
  refine G_if_ne C 62 dX9_faultTold_52 (by decide) (fun h => absurd h (by decide)) (fun _ => ?_)
  refine G_aload_n C 0 dX9_faultTold_55 rfl rfl ?_
  refine G_get C 40 (by decide) ((aa49 40 (by decide)).trans ((aa45 40 (by decide)).trans hh37)) rfl inA9 24 (by decide) rfl kf_X9_212 rfl dX9_faultTold_56 ?_
  refine G_goto C 78 dX9_faultTold_59 (by decide) ?_
  exact G_zret C hr rfl dX9_faultTold_78 ⟨_, _, _, _, _, _, _, _, _, _, _, _, _, _, _, _, _, _, (by rw [(pp36 hz).1]), ((aa49 40 (by decide)).trans ((aa45 40 (by decide)).trans hh37)), hh48, ((aa49 42 (by decide)).trans ((aa45 42 (by decide)).trans ((aa39 42 (by decide)).trans hh12))), (AA50.wk (by simp))⟩

abbrev rm_X9_ftY1 : Room := ({ frames := 8, cells := 0, slots := 0, locals := 172 } : Room)
set_option maxRecDepth 100000 in
set_option maxHeartbeats 4000000 in
theorem c_X9_ftY1 {L : GL} {ad : Nat → Nat} {G : Nat → va_E} {len : Nat} {l : Int32} {tx tm f2 : Nat → Int32} {ik kn th m q te us sp bg fo le fi re ca : Int32} {fx fy nx ny ux uy px py : Int64} {ml : Int32} {f : Nat → Int32}  (g40 : G 40 = .inr (9, [.ref (ad 41), .ref (ad 42), .ref (ad 43), .int ik, .ref (ad 44), .int kn, .ref (ad 45), .int (nI len), .int th, .int m, .int q, .int te, .long fx, .long fy, .long nx, .long ny, .long ux, .long uy, .int us, .long px, .long py, .ref (ad 46), .ref (ad 47), .int sp, .int bg, .int fo, .int le, .int fi, .int re, .int ca])) (g41 : G 41 = .inl (L.ac 0, 60, .inl (sv f ml))) (g42 : G 42 = .inl (L.ac 0, 60, .inl f2)) (g45 : G 45 = .inl (L.ac 0, 60, .inl tm)) (hn6 : len ≤ 60) (hk0 : okH f) (hL0 : okL f l) (he : ∀ j, j < len → tx j = tm j) (hz : ¬ (fRun tx len 60 (0, 0, 0, 0, f, l, ml)).2.2.1 = 0) : GM L yX9_faultTold cX9_faultTold 3 ((some .int)) rm_X9_ftY1 50 ad G [.ref (ad 40), .int 1] (fun vo G' => ∃ (j1 : Int32) (j2 : Int32) (j3 : Int32) (j4 : Int64) (j5 : Int64) (j6 : Int64) (j7 : Int64) (u1 : Int64) (u2 : Int64) (u3 : Int32) (p1 : Int64) (p2 : Int64) (k1 : Int32) (k2 : Int32) (k3 : Int32) (k4 : Int32) (k5 : Int32) (k6 : Int32), vo = some (.int ((fRun tx len 60 (0, 0, 0, 0, f, l, ml)).2.2.1)) ∧ G' 40 = .inr (9, [.ref (ad 41), .ref (ad 42), .ref (ad 43), .int ik, .ref (ad 44), .int kn, .ref (ad 45), .int (nI len), .int 0, .int j1, .int j2, .int j3, .long j4, .long j5, .long j6, .long j7, .long u1, .long u2, .int u3, .long p1, .long p2, .ref (ad 46), .ref (ad 47), .int k1, .int k2, .int k3, .int k4, .int k5, .int ((fRun tx len 60 (0, 0, 0, 0, f, l, ml)).2.2.1), .int k6]) ∧ G' 41 = .inl (L.ac 0, 60, .inl (sv f ml)) ∧ G' 42 = .inl (L.ac 0, 60, .inl (sv f ml)) ∧ Agr [40, 41, 42] G G') := by
  refine GM.of (own := RX9) (lo := [(0, .ref (ad 40)), (1, .int 1)]) (by decide +kernel) rfl rfl (Nat.le_of_ble_eq_true rfl) (fun E C hr => ?_)
  refine G_aload_n C 0 dX9_faultTold_0 rfl rfl ?_
  refine G_iconst C (v := 0) dX9_faultTold_1 (by decide) ?_
  refine G_putp C 40 (by decide) g40 rfl inA9 tyX9_ok nmX9 8 (by decide) rfl kf_X9_32 rfl rfl rfl (fs' := [.ref (ad 41), .ref (ad 42), .ref (ad 43), .int ik, .ref (ad 44), .int kn, .ref (ad 45), .int (nI len), .int 0, .int m, .int q, .int te, .long fx, .long fy, .long nx, .long ny, .long ux, .long uy, .int us, .long px, .long py, .ref (ad 46), .ref (ad 47), .int sp, .int bg, .int fo, .int le, .int fi, .int re, .int ca]) (Nat.le_of_ble_eq_true rfl) rfl dX9_faultTold_2 (fun gg1 hh2 aa3 => ?_)
  have AA4 : Agr [40] G gg1 := aa3.wk (by simp)
  refine G_aload_n C 0 dX9_faultTold_5 rfl rfl ?_
  refine G_get C 40 (by decide) hh2 rfl inA9 0 (by decide) rfl kf_X9_7 rfl dX9_faultTold_6 ?_
  refine G_iconst C (v := 0) dX9_faultTold_9 (by decide) ?_
  refine G_aload_n C 0 dX9_faultTold_10 rfl rfl ?_
  refine G_get C 40 (by decide) hh2 rfl inA9 1 (by decide) rfl kf_X9_13 rfl dX9_faultTold_11 ?_
  refine G_iconst C (v := 0) dX9_faultTold_14 (by decide) ?_
  refine G_callS C (As := [.ref (ad 41), .int 0, .ref (ad 42), .int 0]) (rest := []) (c_X9_copies (at1 := 0) (by1 := 0) (by decide) (by decide) ((aa3 41 (by decide)).trans g41) ((aa3 42 (by decide)).trans g42) (by decide) (by omega) (by omega) (by omega) (by omega)) ca_X9_copies km_X9_36 rfl rfl (by decide) (Nat.le_of_ble_eq_true rfl) (by decide) dX9_faultTold_15 (fun vv5 gg6 qq7 => ?_)
  obtain ⟨rfl, hh8, aa9⟩ := qq7
  have AA10 : Agr [40, 42] G gg6 := AA4.tr aa9 (by simp) (by simp)
  refine GW.ren 42 (by decide) (t0 := 0) (sv f ml) hh8 (cpK_all) (fun gg11 hh12 aa13 => ?_)
  have AA14 : Agr [40, 42] G gg11 := AA10.tr aa13 (by simp) (by simp)
  refine G_aload_n C 0 dX9_faultTold_18 rfl rfl ?_
  refine G_callV C (As := []) (rest := []) (c_X9_doesAll ((aa13 40 (by decide)).trans ((aa9 40 (by decide)).trans hh2)) ((aa13 41 (by decide)).trans ((aa9 41 (by decide)).trans ((aa3 41 (by decide)).trans g41))) ((aa13 45 (by decide)).trans ((aa9 45 (by decide)).trans ((aa3 45 (by decide)).trans g45))) hn6 hk0 hL0 he) ca_X9_doesAll km_X9_239 (by decide) ((aa13 40 (by decide)).trans ((aa9 40 (by decide)).trans hh2)) rfl rfl rfl rfl (by decide) (Nat.le_of_ble_eq_true rfl) (by decide) dX9_faultTold_19 (fun vv15 gg16 qq17 => ?_)
  obtain ⟨j_18, j_19, j_20, j_21, j_22, j_23, j_24, u_25, u_26, u_27, p_28, p_29, k_30, k_31, k_32, k_33, k_34, k_35, rfl, pp36, hh37, hh38, aa39⟩ := qq17
  have AA40 : Agr [40, 42, 41] G gg16 := AA14.tr aa39 (by simp) (by simp)
  refine G_istore_n C 2 (lo' := [(2, .int ((fRun tx len 60 (0, 0, 0, 0, f, l, ml)).1)), (0, .ref (ad 40)), (1, .int 1)]) dX9_faultTold_22 rfl (by decide) rfl ?_
  refine G_aload_n C 0 dX9_faultTold_23 rfl rfl ?_
  refine G_get C 40 (by decide) hh37 rfl inA9 1 (by decide) rfl kf_X9_13 rfl dX9_faultTold_24 ?_
  refine G_iconst C (v := 0) dX9_faultTold_27 (by decide) ?_
  refine G_aload_n C 0 dX9_faultTold_28 rfl rfl ?_
  refine G_get C 40 (by decide) hh37 rfl inA9 0 (by decide) rfl kf_X9_7 rfl dX9_faultTold_29 ?_
  refine G_iconst C (v := 0) dX9_faultTold_32 (by decide) ?_
  refine G_callS C (As := [.ref (ad 42), .int 0, .ref (ad 41), .int 0]) (rest := []) (c_X9_copies (at1 := 0) (by1 := 0) (by decide) (by decide) ((aa39 42 (by decide)).trans hh12) hh38 (by decide) (by omega) (by omega) (by omega) (by omega)) ca_X9_copies km_X9_36 rfl rfl (by decide) (Nat.le_of_ble_eq_true rfl) (by decide) dX9_faultTold_33 (fun vv41 gg42 qq43 => ?_)
  obtain ⟨rfl, hh44, aa45⟩ := qq43
  have AA46 : Agr [40, 42, 41] G gg42 := AA40.tr aa45 (by simp) (by simp)
  refine GW.ren 41 (by decide) (t0 := 0) (sv f ml) hh44 (cpK_all) (fun gg47 hh48 aa49 => ?_)
  have AA50 : Agr [40, 42, 41] G gg47 := AA46.tr aa49 (by simp) (by simp)
  refine G_aload_n C 0 dX9_faultTold_36 rfl rfl ?_
  refine G_get C 40 (by decide) ((aa49 40 (by decide)).trans ((aa45 40 (by decide)).trans hh37)) rfl inA9 28 (by decide) rfl kf_X9_228 rfl dX9_faultTold_37 ?_
  refine G_if_ne C 51 dX9_faultTold_40 (by decide) (fun c40 => ?_) (fun c40 => False.elim (hz c40))
  refine G_iload_n C 1 dX9_faultTold_51 rfl rfl ?_
  refine G_if_ne C 62 dX9_faultTold_52 (by decide) (fun _ => ?_) (fun h => absurd h (by decide))
  refine G_iload_n C 1 dX9_faultTold_62 rfl rfl ?_
  refine G_iconst C (v := 1) dX9_faultTold_63 (by decide) ?_
  refine G_icmp_ne C 74 dX9_faultTold_64 (by decide) (fun h => absurd h (by decide)) (fun _ => ?_)
  refine G_aload_n C 0 dX9_faultTold_67 rfl rfl ?_
  refine G_get C 40 (by decide) ((aa49 40 (by decide)).trans ((aa45 40 (by decide)).trans hh37)) rfl inA9 28 (by decide) rfl kf_X9_228 rfl dX9_faultTold_68 ?_
  refine G_goto C 78 dX9_faultTold_71 (by decide) ?_
  exact G_zret C hr rfl dX9_faultTold_78 ⟨_, _, _, _, _, _, _, _, _, _, _, _, _, _, _, _, _, _, rfl, ((aa49 40 (by decide)).trans ((aa45 40 (by decide)).trans hh37)), hh48, ((aa49 42 (by decide)).trans ((aa45 42 (by decide)).trans ((aa39 42 (by decide)).trans hh12))), (AA50.wk (by simp))⟩

abbrev rm_X9_ftY2 : Room := ({ frames := 8, cells := 0, slots := 0, locals := 172 } : Room)
set_option maxRecDepth 100000 in
set_option maxHeartbeats 4000000 in
theorem c_X9_ftY2 {L : GL} {ad : Nat → Nat} {G : Nat → va_E} {len : Nat} {l : Int32} {tx tm f2 : Nat → Int32} {ik kn th m q te us sp bg fo le fi re ca : Int32} {fx fy nx ny ux uy px py : Int64} {ml : Int32} {f : Nat → Int32}  (g40 : G 40 = .inr (9, [.ref (ad 41), .ref (ad 42), .ref (ad 43), .int ik, .ref (ad 44), .int kn, .ref (ad 45), .int (nI len), .int th, .int m, .int q, .int te, .long fx, .long fy, .long nx, .long ny, .long ux, .long uy, .int us, .long px, .long py, .ref (ad 46), .ref (ad 47), .int sp, .int bg, .int fo, .int le, .int fi, .int re, .int ca])) (g41 : G 41 = .inl (L.ac 0, 60, .inl (sv f ml))) (g42 : G 42 = .inl (L.ac 0, 60, .inl f2)) (g45 : G 45 = .inl (L.ac 0, 60, .inl tm)) (hn6 : len ≤ 60) (hk0 : okH f) (hL0 : okL f l) (he : ∀ j, j < len → tx j = tm j) (hz : ¬ (fRun tx len 60 (0, 0, 0, 0, f, l, ml)).2.2.1 = 0) : GM L yX9_faultTold cX9_faultTold 3 ((some .int)) rm_X9_ftY2 50 ad G [.ref (ad 40), .int 2] (fun vo G' => ∃ (j1 : Int32) (j2 : Int32) (j3 : Int32) (j4 : Int64) (j5 : Int64) (j6 : Int64) (j7 : Int64) (u1 : Int64) (u2 : Int64) (u3 : Int32) (p1 : Int64) (p2 : Int64) (k1 : Int32) (k2 : Int32) (k3 : Int32) (k4 : Int32) (k5 : Int32) (k6 : Int32), vo = some (.int ((fRun tx len 60 (0, 0, 0, 0, f, l, ml)).2.2.2.1)) ∧ G' 40 = .inr (9, [.ref (ad 41), .ref (ad 42), .ref (ad 43), .int ik, .ref (ad 44), .int kn, .ref (ad 45), .int (nI len), .int 0, .int j1, .int j2, .int j3, .long j4, .long j5, .long j6, .long j7, .long u1, .long u2, .int u3, .long p1, .long p2, .ref (ad 46), .ref (ad 47), .int k1, .int k2, .int k3, .int k4, .int k5, .int ((fRun tx len 60 (0, 0, 0, 0, f, l, ml)).2.2.1), .int k6]) ∧ G' 41 = .inl (L.ac 0, 60, .inl (sv f ml)) ∧ G' 42 = .inl (L.ac 0, 60, .inl (sv f ml)) ∧ Agr [40, 41, 42] G G') := by
  refine GM.of (own := RX9) (lo := [(0, .ref (ad 40)), (1, .int 2)]) (by decide +kernel) rfl rfl (Nat.le_of_ble_eq_true rfl) (fun E C hr => ?_)
  refine G_aload_n C 0 dX9_faultTold_0 rfl rfl ?_
  refine G_iconst C (v := 0) dX9_faultTold_1 (by decide) ?_
  refine G_putp C 40 (by decide) g40 rfl inA9 tyX9_ok nmX9 8 (by decide) rfl kf_X9_32 rfl rfl rfl (fs' := [.ref (ad 41), .ref (ad 42), .ref (ad 43), .int ik, .ref (ad 44), .int kn, .ref (ad 45), .int (nI len), .int 0, .int m, .int q, .int te, .long fx, .long fy, .long nx, .long ny, .long ux, .long uy, .int us, .long px, .long py, .ref (ad 46), .ref (ad 47), .int sp, .int bg, .int fo, .int le, .int fi, .int re, .int ca]) (Nat.le_of_ble_eq_true rfl) rfl dX9_faultTold_2 (fun gg1 hh2 aa3 => ?_)
  have AA4 : Agr [40] G gg1 := aa3.wk (by simp)
  refine G_aload_n C 0 dX9_faultTold_5 rfl rfl ?_
  refine G_get C 40 (by decide) hh2 rfl inA9 0 (by decide) rfl kf_X9_7 rfl dX9_faultTold_6 ?_
  refine G_iconst C (v := 0) dX9_faultTold_9 (by decide) ?_
  refine G_aload_n C 0 dX9_faultTold_10 rfl rfl ?_
  refine G_get C 40 (by decide) hh2 rfl inA9 1 (by decide) rfl kf_X9_13 rfl dX9_faultTold_11 ?_
  refine G_iconst C (v := 0) dX9_faultTold_14 (by decide) ?_
  refine G_callS C (As := [.ref (ad 41), .int 0, .ref (ad 42), .int 0]) (rest := []) (c_X9_copies (at1 := 0) (by1 := 0) (by decide) (by decide) ((aa3 41 (by decide)).trans g41) ((aa3 42 (by decide)).trans g42) (by decide) (by omega) (by omega) (by omega) (by omega)) ca_X9_copies km_X9_36 rfl rfl (by decide) (Nat.le_of_ble_eq_true rfl) (by decide) dX9_faultTold_15 (fun vv5 gg6 qq7 => ?_)
  obtain ⟨rfl, hh8, aa9⟩ := qq7
  have AA10 : Agr [40, 42] G gg6 := AA4.tr aa9 (by simp) (by simp)
  refine GW.ren 42 (by decide) (t0 := 0) (sv f ml) hh8 (cpK_all) (fun gg11 hh12 aa13 => ?_)
  have AA14 : Agr [40, 42] G gg11 := AA10.tr aa13 (by simp) (by simp)
  refine G_aload_n C 0 dX9_faultTold_18 rfl rfl ?_
  refine G_callV C (As := []) (rest := []) (c_X9_doesAll ((aa13 40 (by decide)).trans ((aa9 40 (by decide)).trans hh2)) ((aa13 41 (by decide)).trans ((aa9 41 (by decide)).trans ((aa3 41 (by decide)).trans g41))) ((aa13 45 (by decide)).trans ((aa9 45 (by decide)).trans ((aa3 45 (by decide)).trans g45))) hn6 hk0 hL0 he) ca_X9_doesAll km_X9_239 (by decide) ((aa13 40 (by decide)).trans ((aa9 40 (by decide)).trans hh2)) rfl rfl rfl rfl (by decide) (Nat.le_of_ble_eq_true rfl) (by decide) dX9_faultTold_19 (fun vv15 gg16 qq17 => ?_)
  obtain ⟨j_18, j_19, j_20, j_21, j_22, j_23, j_24, u_25, u_26, u_27, p_28, p_29, k_30, k_31, k_32, k_33, k_34, k_35, rfl, pp36, hh37, hh38, aa39⟩ := qq17
  have AA40 : Agr [40, 42, 41] G gg16 := AA14.tr aa39 (by simp) (by simp)
  refine G_istore_n C 2 (lo' := [(2, .int ((fRun tx len 60 (0, 0, 0, 0, f, l, ml)).1)), (0, .ref (ad 40)), (1, .int 2)]) dX9_faultTold_22 rfl (by decide) rfl ?_
  refine G_aload_n C 0 dX9_faultTold_23 rfl rfl ?_
  refine G_get C 40 (by decide) hh37 rfl inA9 1 (by decide) rfl kf_X9_13 rfl dX9_faultTold_24 ?_
  refine G_iconst C (v := 0) dX9_faultTold_27 (by decide) ?_
  refine G_aload_n C 0 dX9_faultTold_28 rfl rfl ?_
  refine G_get C 40 (by decide) hh37 rfl inA9 0 (by decide) rfl kf_X9_7 rfl dX9_faultTold_29 ?_
  refine G_iconst C (v := 0) dX9_faultTold_32 (by decide) ?_
  refine G_callS C (As := [.ref (ad 42), .int 0, .ref (ad 41), .int 0]) (rest := []) (c_X9_copies (at1 := 0) (by1 := 0) (by decide) (by decide) ((aa39 42 (by decide)).trans hh12) hh38 (by decide) (by omega) (by omega) (by omega) (by omega)) ca_X9_copies km_X9_36 rfl rfl (by decide) (Nat.le_of_ble_eq_true rfl) (by decide) dX9_faultTold_33 (fun vv41 gg42 qq43 => ?_)
  obtain ⟨rfl, hh44, aa45⟩ := qq43
  have AA46 : Agr [40, 42, 41] G gg42 := AA40.tr aa45 (by simp) (by simp)
  refine GW.ren 41 (by decide) (t0 := 0) (sv f ml) hh44 (cpK_all) (fun gg47 hh48 aa49 => ?_)
  have AA50 : Agr [40, 42, 41] G gg47 := AA46.tr aa49 (by simp) (by simp)
  refine G_aload_n C 0 dX9_faultTold_36 rfl rfl ?_
  refine G_get C 40 (by decide) ((aa49 40 (by decide)).trans ((aa45 40 (by decide)).trans hh37)) rfl inA9 28 (by decide) rfl kf_X9_228 rfl dX9_faultTold_37 ?_
  refine G_if_ne C 51 dX9_faultTold_40 (by decide) (fun c40 => ?_) (fun c40 => False.elim (hz c40))
  refine G_iload_n C 1 dX9_faultTold_51 rfl rfl ?_
  refine G_if_ne C 62 dX9_faultTold_52 (by decide) (fun _ => ?_) (fun h => absurd h (by decide))
  refine G_iload_n C 1 dX9_faultTold_62 rfl rfl ?_
  refine G_iconst C (v := 1) dX9_faultTold_63 (by decide) ?_
  refine G_icmp_ne C 74 dX9_faultTold_64 (by decide) (fun _ => ?_) (fun h => absurd h (by decide))
  refine G_aload_n C 0 dX9_faultTold_74 rfl rfl ?_
  refine G_get C 40 (by decide) ((aa49 40 (by decide)).trans ((aa45 40 (by decide)).trans hh37)) rfl inA9 29 (by decide) rfl kf_X9_236 rfl dX9_faultTold_75 ?_
  exact G_zret C hr rfl dX9_faultTold_78 ⟨_, _, _, _, _, _, _, _, _, _, _, _, _, _, _, _, _, _, (by rw [(pp36 hz).2]), ((aa49 40 (by decide)).trans ((aa45 40 (by decide)).trans hh37)), hh48, ((aa49 42 (by decide)).trans ((aa45 42 (by decide)).trans ((aa39 42 (by decide)).trans hh12))), (AA50.wk (by simp))⟩

abbrev rm_X9_faultPosition0 : Room := ({ frames := 9, cells := 0, slots := 0, locals := 194 } : Room)
set_option maxRecDepth 100000 in
set_option maxHeartbeats 4000000 in
theorem c_X9_faultPosition0 {L : GL} {ad : Nat → Nat} {G : Nat → va_E} {len : Nat} {l : Int32} {tx tm f2 : Nat → Int32} {ik kn th m q te us sp bg fo le fi re ca : Int32} {fx fy nx ny ux uy px py : Int64} {ml : Int32} {f : Nat → Int32}  (g40 : G 40 = .inr (9, [.ref (ad 41), .ref (ad 42), .ref (ad 43), .int ik, .ref (ad 44), .int kn, .ref (ad 45), .int (nI len), .int th, .int m, .int q, .int te, .long fx, .long fy, .long nx, .long ny, .long ux, .long uy, .int us, .long px, .long py, .ref (ad 46), .ref (ad 47), .int sp, .int bg, .int fo, .int le, .int fi, .int re, .int ca])) (g41 : G 41 = .inl (L.ac 0, 60, .inl (sv f ml))) (g42 : G 42 = .inl (L.ac 0, 60, .inl f2)) (g45 : G 45 = .inl (L.ac 0, 60, .inl tm)) (hn6 : len ≤ 60) (hk0 : okH f) (hL0 : okL f l) (he : ∀ j, j < len → tx j = tm j) (hz : (fRun tx len 60 (0, 0, 0, 0, f, l, ml)).2.2.1 = 0) : GM L yX9_faultPosition cX9_faultPosition 1 ((some .int)) rm_X9_faultPosition0 50 ad G [.ref (ad 40)] (fun vo G' => ∃ (j1 : Int32) (j2 : Int32) (j3 : Int32) (j4 : Int64) (j5 : Int64) (j6 : Int64) (j7 : Int64) (u1 : Int64) (u2 : Int64) (u3 : Int32) (p1 : Int64) (p2 : Int64) (k1 : Int32) (k2 : Int32) (k3 : Int32) (k4 : Int32) (k5 : Int32) (k6 : Int32), vo = some (.int 0) ∧ G' 40 = .inr (9, [.ref (ad 41), .ref (ad 42), .ref (ad 43), .int ik, .ref (ad 44), .int kn, .ref (ad 45), .int (nI len), .int 1, .int j1, .int j2, .int j3, .long j4, .long j5, .long j6, .long j7, .long u1, .long u2, .int u3, .long p1, .long p2, .ref (ad 46), .ref (ad 47), .int k1, .int k2, .int k3, .int k4, .int k5, .int 0, .int k6]) ∧ G' 41 = .inl (L.ac 0, 60, .inl (sv f ml)) ∧ G' 42 = .inl (L.ac 0, 60, .inl (sv f ml)) ∧ Agr [40, 41, 42] G G') := by
  refine GM.of (own := RX9) (lo := [(0, .ref (ad 40))]) (by decide +kernel) rfl rfl (Nat.le_of_ble_eq_true rfl) (fun E C hr => ?_)
  refine G_aload_n C 0 dX9_faultPosition_0 rfl rfl ?_
  refine G_iconst C (v := 0) dX9_faultPosition_1 (by decide) ?_
  refine G_callV C (As := [.int 0]) (rest := []) (c_X9_ft0 g40 g41 g42 g45 hn6 hk0 hL0 he hz) ca_X9_faultTold km_X9_242 (by decide) g40 rfl rfl rfl rfl (by decide) (Nat.le_of_ble_eq_true rfl) (by decide) dX9_faultPosition_2 (fun vv1 gg2 qq3 => ?_)
  obtain ⟨j_4, j_5, j_6, j_7, j_8, j_9, j_10, u_11, u_12, u_13, p_14, p_15, k_16, k_17, k_18, k_19, k_20, k_21, rfl, hh22, hh23, hh24, aa25⟩ := qq3
  have AA26 : Agr [40, 41, 42] G gg2 := aa25.wk (by simp)
  exact G_zret C hr rfl dX9_faultPosition_5 ⟨_, _, _, _, _, _, _, _, _, _, _, _, _, _, _, _, _, _, rfl, hh22, hh23, hh24, AA26⟩

abbrev rm_X9_faultPositionY : Room := ({ frames := 9, cells := 0, slots := 0, locals := 194 } : Room)
set_option maxRecDepth 100000 in
set_option maxHeartbeats 4000000 in
theorem c_X9_faultPositionY {L : GL} {ad : Nat → Nat} {G : Nat → va_E} {len : Nat} {l : Int32} {tx tm f2 : Nat → Int32} {ik kn th m q te us sp bg fo le fi re ca : Int32} {fx fy nx ny ux uy px py : Int64} {ml : Int32} {f : Nat → Int32}  (g40 : G 40 = .inr (9, [.ref (ad 41), .ref (ad 42), .ref (ad 43), .int ik, .ref (ad 44), .int kn, .ref (ad 45), .int (nI len), .int th, .int m, .int q, .int te, .long fx, .long fy, .long nx, .long ny, .long ux, .long uy, .int us, .long px, .long py, .ref (ad 46), .ref (ad 47), .int sp, .int bg, .int fo, .int le, .int fi, .int re, .int ca])) (g41 : G 41 = .inl (L.ac 0, 60, .inl (sv f ml))) (g42 : G 42 = .inl (L.ac 0, 60, .inl f2)) (g45 : G 45 = .inl (L.ac 0, 60, .inl tm)) (hn6 : len ≤ 60) (hk0 : okH f) (hL0 : okL f l) (he : ∀ j, j < len → tx j = tm j) (hz : ¬ (fRun tx len 60 (0, 0, 0, 0, f, l, ml)).2.2.1 = 0) : GM L yX9_faultPosition cX9_faultPosition 1 ((some .int)) rm_X9_faultPositionY 50 ad G [.ref (ad 40)] (fun vo G' => ∃ (j1 : Int32) (j2 : Int32) (j3 : Int32) (j4 : Int64) (j5 : Int64) (j6 : Int64) (j7 : Int64) (u1 : Int64) (u2 : Int64) (u3 : Int32) (p1 : Int64) (p2 : Int64) (k1 : Int32) (k2 : Int32) (k3 : Int32) (k4 : Int32) (k5 : Int32) (k6 : Int32), vo = some (.int (nI (fRun tx len 60 (0, 0, 0, 0, f, l, ml)).2.1)) ∧ G' 40 = .inr (9, [.ref (ad 41), .ref (ad 42), .ref (ad 43), .int ik, .ref (ad 44), .int kn, .ref (ad 45), .int (nI len), .int 0, .int j1, .int j2, .int j3, .long j4, .long j5, .long j6, .long j7, .long u1, .long u2, .int u3, .long p1, .long p2, .ref (ad 46), .ref (ad 47), .int k1, .int k2, .int k3, .int k4, .int k5, .int ((fRun tx len 60 (0, 0, 0, 0, f, l, ml)).2.2.1), .int k6]) ∧ G' 41 = .inl (L.ac 0, 60, .inl (sv f ml)) ∧ G' 42 = .inl (L.ac 0, 60, .inl (sv f ml)) ∧ Agr [40, 41, 42] G G') := by
  refine GM.of (own := RX9) (lo := [(0, .ref (ad 40))]) (by decide +kernel) rfl rfl (Nat.le_of_ble_eq_true rfl) (fun E C hr => ?_)
  refine G_aload_n C 0 dX9_faultPosition_0 rfl rfl ?_
  refine G_iconst C (v := 0) dX9_faultPosition_1 (by decide) ?_
  refine G_callV C (As := [.int 0]) (rest := []) (c_X9_ftY0 g40 g41 g42 g45 hn6 hk0 hL0 he hz) ca_X9_faultTold km_X9_242 (by decide) g40 rfl rfl rfl rfl (by decide) (Nat.le_of_ble_eq_true rfl) (by decide) dX9_faultPosition_2 (fun vv1 gg2 qq3 => ?_)
  obtain ⟨j_4, j_5, j_6, j_7, j_8, j_9, j_10, u_11, u_12, u_13, p_14, p_15, k_16, k_17, k_18, k_19, k_20, k_21, rfl, hh22, hh23, hh24, aa25⟩ := qq3
  have AA26 : Agr [40, 41, 42] G gg2 := aa25.wk (by simp)
  exact G_zret C hr rfl dX9_faultPosition_5 ⟨_, _, _, _, _, _, _, _, _, _, _, _, _, _, _, _, _, _, rfl, hh22, hh23, hh24, AA26⟩

abbrev rm_X9_faultReason0 : Room := ({ frames := 9, cells := 0, slots := 0, locals := 194 } : Room)
set_option maxRecDepth 100000 in
set_option maxHeartbeats 4000000 in
theorem c_X9_faultReason0 {L : GL} {ad : Nat → Nat} {G : Nat → va_E} {len : Nat} {l : Int32} {tx tm f2 : Nat → Int32} {ik kn th m q te us sp bg fo le fi re ca : Int32} {fx fy nx ny ux uy px py : Int64} {ml : Int32} {f : Nat → Int32}  (g40 : G 40 = .inr (9, [.ref (ad 41), .ref (ad 42), .ref (ad 43), .int ik, .ref (ad 44), .int kn, .ref (ad 45), .int (nI len), .int th, .int m, .int q, .int te, .long fx, .long fy, .long nx, .long ny, .long ux, .long uy, .int us, .long px, .long py, .ref (ad 46), .ref (ad 47), .int sp, .int bg, .int fo, .int le, .int fi, .int re, .int ca])) (g41 : G 41 = .inl (L.ac 0, 60, .inl (sv f ml))) (g42 : G 42 = .inl (L.ac 0, 60, .inl f2)) (g45 : G 45 = .inl (L.ac 0, 60, .inl tm)) (hn6 : len ≤ 60) (hk0 : okH f) (hL0 : okL f l) (he : ∀ j, j < len → tx j = tm j) (hz : (fRun tx len 60 (0, 0, 0, 0, f, l, ml)).2.2.1 = 0) : GM L yX9_faultReason cX9_faultReason 1 ((some .int)) rm_X9_faultReason0 50 ad G [.ref (ad 40)] (fun vo G' => ∃ (j1 : Int32) (j2 : Int32) (j3 : Int32) (j4 : Int64) (j5 : Int64) (j6 : Int64) (j7 : Int64) (u1 : Int64) (u2 : Int64) (u3 : Int32) (p1 : Int64) (p2 : Int64) (k1 : Int32) (k2 : Int32) (k3 : Int32) (k4 : Int32) (k5 : Int32) (k6 : Int32), vo = some (.int 0) ∧ G' 40 = .inr (9, [.ref (ad 41), .ref (ad 42), .ref (ad 43), .int ik, .ref (ad 44), .int kn, .ref (ad 45), .int (nI len), .int 1, .int j1, .int j2, .int j3, .long j4, .long j5, .long j6, .long j7, .long u1, .long u2, .int u3, .long p1, .long p2, .ref (ad 46), .ref (ad 47), .int k1, .int k2, .int k3, .int k4, .int k5, .int 0, .int k6]) ∧ G' 41 = .inl (L.ac 0, 60, .inl (sv f ml)) ∧ G' 42 = .inl (L.ac 0, 60, .inl (sv f ml)) ∧ Agr [40, 41, 42] G G') := by
  refine GM.of (own := RX9) (lo := [(0, .ref (ad 40))]) (by decide +kernel) rfl rfl (Nat.le_of_ble_eq_true rfl) (fun E C hr => ?_)
  refine G_aload_n C 0 dX9_faultReason_0 rfl rfl ?_
  refine G_iconst C (v := 1) dX9_faultReason_1 (by decide) ?_
  refine G_callV C (As := [.int 1]) (rest := []) (c_X9_ft0 g40 g41 g42 g45 hn6 hk0 hL0 he hz) ca_X9_faultTold km_X9_242 (by decide) g40 rfl rfl rfl rfl (by decide) (Nat.le_of_ble_eq_true rfl) (by decide) dX9_faultReason_2 (fun vv1 gg2 qq3 => ?_)
  obtain ⟨j_4, j_5, j_6, j_7, j_8, j_9, j_10, u_11, u_12, u_13, p_14, p_15, k_16, k_17, k_18, k_19, k_20, k_21, rfl, hh22, hh23, hh24, aa25⟩ := qq3
  have AA26 : Agr [40, 41, 42] G gg2 := aa25.wk (by simp)
  exact G_zret C hr rfl dX9_faultReason_5 ⟨_, _, _, _, _, _, _, _, _, _, _, _, _, _, _, _, _, _, rfl, hh22, hh23, hh24, AA26⟩

abbrev rm_X9_faultReasonY : Room := ({ frames := 9, cells := 0, slots := 0, locals := 194 } : Room)
set_option maxRecDepth 100000 in
set_option maxHeartbeats 4000000 in
theorem c_X9_faultReasonY {L : GL} {ad : Nat → Nat} {G : Nat → va_E} {len : Nat} {l : Int32} {tx tm f2 : Nat → Int32} {ik kn th m q te us sp bg fo le fi re ca : Int32} {fx fy nx ny ux uy px py : Int64} {ml : Int32} {f : Nat → Int32}  (g40 : G 40 = .inr (9, [.ref (ad 41), .ref (ad 42), .ref (ad 43), .int ik, .ref (ad 44), .int kn, .ref (ad 45), .int (nI len), .int th, .int m, .int q, .int te, .long fx, .long fy, .long nx, .long ny, .long ux, .long uy, .int us, .long px, .long py, .ref (ad 46), .ref (ad 47), .int sp, .int bg, .int fo, .int le, .int fi, .int re, .int ca])) (g41 : G 41 = .inl (L.ac 0, 60, .inl (sv f ml))) (g42 : G 42 = .inl (L.ac 0, 60, .inl f2)) (g45 : G 45 = .inl (L.ac 0, 60, .inl tm)) (hn6 : len ≤ 60) (hk0 : okH f) (hL0 : okL f l) (he : ∀ j, j < len → tx j = tm j) (hz : ¬ (fRun tx len 60 (0, 0, 0, 0, f, l, ml)).2.2.1 = 0) : GM L yX9_faultReason cX9_faultReason 1 ((some .int)) rm_X9_faultReasonY 50 ad G [.ref (ad 40)] (fun vo G' => ∃ (j1 : Int32) (j2 : Int32) (j3 : Int32) (j4 : Int64) (j5 : Int64) (j6 : Int64) (j7 : Int64) (u1 : Int64) (u2 : Int64) (u3 : Int32) (p1 : Int64) (p2 : Int64) (k1 : Int32) (k2 : Int32) (k3 : Int32) (k4 : Int32) (k5 : Int32) (k6 : Int32), vo = some (.int ((fRun tx len 60 (0, 0, 0, 0, f, l, ml)).2.2.1)) ∧ G' 40 = .inr (9, [.ref (ad 41), .ref (ad 42), .ref (ad 43), .int ik, .ref (ad 44), .int kn, .ref (ad 45), .int (nI len), .int 0, .int j1, .int j2, .int j3, .long j4, .long j5, .long j6, .long j7, .long u1, .long u2, .int u3, .long p1, .long p2, .ref (ad 46), .ref (ad 47), .int k1, .int k2, .int k3, .int k4, .int k5, .int ((fRun tx len 60 (0, 0, 0, 0, f, l, ml)).2.2.1), .int k6]) ∧ G' 41 = .inl (L.ac 0, 60, .inl (sv f ml)) ∧ G' 42 = .inl (L.ac 0, 60, .inl (sv f ml)) ∧ Agr [40, 41, 42] G G') := by
  refine GM.of (own := RX9) (lo := [(0, .ref (ad 40))]) (by decide +kernel) rfl rfl (Nat.le_of_ble_eq_true rfl) (fun E C hr => ?_)
  refine G_aload_n C 0 dX9_faultReason_0 rfl rfl ?_
  refine G_iconst C (v := 1) dX9_faultReason_1 (by decide) ?_
  refine G_callV C (As := [.int 1]) (rest := []) (c_X9_ftY1 g40 g41 g42 g45 hn6 hk0 hL0 he hz) ca_X9_faultTold km_X9_242 (by decide) g40 rfl rfl rfl rfl (by decide) (Nat.le_of_ble_eq_true rfl) (by decide) dX9_faultReason_2 (fun vv1 gg2 qq3 => ?_)
  obtain ⟨j_4, j_5, j_6, j_7, j_8, j_9, j_10, u_11, u_12, u_13, p_14, p_15, k_16, k_17, k_18, k_19, k_20, k_21, rfl, hh22, hh23, hh24, aa25⟩ := qq3
  have AA26 : Agr [40, 41, 42] G gg2 := aa25.wk (by simp)
  exact G_zret C hr rfl dX9_faultReason_5 ⟨_, _, _, _, _, _, _, _, _, _, _, _, _, _, _, _, _, _, rfl, hh22, hh23, hh24, AA26⟩

abbrev rm_X9_faultCause0 : Room := ({ frames := 9, cells := 0, slots := 0, locals := 194 } : Room)
set_option maxRecDepth 100000 in
set_option maxHeartbeats 4000000 in
theorem c_X9_faultCause0 {L : GL} {ad : Nat → Nat} {G : Nat → va_E} {len : Nat} {l : Int32} {tx tm f2 : Nat → Int32} {ik kn th m q te us sp bg fo le fi re ca : Int32} {fx fy nx ny ux uy px py : Int64} {ml : Int32} {f : Nat → Int32}  (g40 : G 40 = .inr (9, [.ref (ad 41), .ref (ad 42), .ref (ad 43), .int ik, .ref (ad 44), .int kn, .ref (ad 45), .int (nI len), .int th, .int m, .int q, .int te, .long fx, .long fy, .long nx, .long ny, .long ux, .long uy, .int us, .long px, .long py, .ref (ad 46), .ref (ad 47), .int sp, .int bg, .int fo, .int le, .int fi, .int re, .int ca])) (g41 : G 41 = .inl (L.ac 0, 60, .inl (sv f ml))) (g42 : G 42 = .inl (L.ac 0, 60, .inl f2)) (g45 : G 45 = .inl (L.ac 0, 60, .inl tm)) (hn6 : len ≤ 60) (hk0 : okH f) (hL0 : okL f l) (he : ∀ j, j < len → tx j = tm j) (hz : (fRun tx len 60 (0, 0, 0, 0, f, l, ml)).2.2.1 = 0) : GM L yX9_faultCause cX9_faultCause 1 ((some .int)) rm_X9_faultCause0 50 ad G [.ref (ad 40)] (fun vo G' => ∃ (j1 : Int32) (j2 : Int32) (j3 : Int32) (j4 : Int64) (j5 : Int64) (j6 : Int64) (j7 : Int64) (u1 : Int64) (u2 : Int64) (u3 : Int32) (p1 : Int64) (p2 : Int64) (k1 : Int32) (k2 : Int32) (k3 : Int32) (k4 : Int32) (k5 : Int32) (k6 : Int32), vo = some (.int 0) ∧ G' 40 = .inr (9, [.ref (ad 41), .ref (ad 42), .ref (ad 43), .int ik, .ref (ad 44), .int kn, .ref (ad 45), .int (nI len), .int 1, .int j1, .int j2, .int j3, .long j4, .long j5, .long j6, .long j7, .long u1, .long u2, .int u3, .long p1, .long p2, .ref (ad 46), .ref (ad 47), .int k1, .int k2, .int k3, .int k4, .int k5, .int 0, .int k6]) ∧ G' 41 = .inl (L.ac 0, 60, .inl (sv f ml)) ∧ G' 42 = .inl (L.ac 0, 60, .inl (sv f ml)) ∧ Agr [40, 41, 42] G G') := by
  refine GM.of (own := RX9) (lo := [(0, .ref (ad 40))]) (by decide +kernel) rfl rfl (Nat.le_of_ble_eq_true rfl) (fun E C hr => ?_)
  refine G_aload_n C 0 dX9_faultCause_0 rfl rfl ?_
  refine G_iconst C (v := 2) dX9_faultCause_1 (by decide) ?_
  refine G_callV C (As := [.int 2]) (rest := []) (c_X9_ft0 g40 g41 g42 g45 hn6 hk0 hL0 he hz) ca_X9_faultTold km_X9_242 (by decide) g40 rfl rfl rfl rfl (by decide) (Nat.le_of_ble_eq_true rfl) (by decide) dX9_faultCause_2 (fun vv1 gg2 qq3 => ?_)
  obtain ⟨j_4, j_5, j_6, j_7, j_8, j_9, j_10, u_11, u_12, u_13, p_14, p_15, k_16, k_17, k_18, k_19, k_20, k_21, rfl, hh22, hh23, hh24, aa25⟩ := qq3
  have AA26 : Agr [40, 41, 42] G gg2 := aa25.wk (by simp)
  exact G_zret C hr rfl dX9_faultCause_5 ⟨_, _, _, _, _, _, _, _, _, _, _, _, _, _, _, _, _, _, rfl, hh22, hh23, hh24, AA26⟩

abbrev rm_X9_faultCauseY : Room := ({ frames := 9, cells := 0, slots := 0, locals := 194 } : Room)
set_option maxRecDepth 100000 in
set_option maxHeartbeats 4000000 in
theorem c_X9_faultCauseY {L : GL} {ad : Nat → Nat} {G : Nat → va_E} {len : Nat} {l : Int32} {tx tm f2 : Nat → Int32} {ik kn th m q te us sp bg fo le fi re ca : Int32} {fx fy nx ny ux uy px py : Int64} {ml : Int32} {f : Nat → Int32}  (g40 : G 40 = .inr (9, [.ref (ad 41), .ref (ad 42), .ref (ad 43), .int ik, .ref (ad 44), .int kn, .ref (ad 45), .int (nI len), .int th, .int m, .int q, .int te, .long fx, .long fy, .long nx, .long ny, .long ux, .long uy, .int us, .long px, .long py, .ref (ad 46), .ref (ad 47), .int sp, .int bg, .int fo, .int le, .int fi, .int re, .int ca])) (g41 : G 41 = .inl (L.ac 0, 60, .inl (sv f ml))) (g42 : G 42 = .inl (L.ac 0, 60, .inl f2)) (g45 : G 45 = .inl (L.ac 0, 60, .inl tm)) (hn6 : len ≤ 60) (hk0 : okH f) (hL0 : okL f l) (he : ∀ j, j < len → tx j = tm j) (hz : ¬ (fRun tx len 60 (0, 0, 0, 0, f, l, ml)).2.2.1 = 0) : GM L yX9_faultCause cX9_faultCause 1 ((some .int)) rm_X9_faultCauseY 50 ad G [.ref (ad 40)] (fun vo G' => ∃ (j1 : Int32) (j2 : Int32) (j3 : Int32) (j4 : Int64) (j5 : Int64) (j6 : Int64) (j7 : Int64) (u1 : Int64) (u2 : Int64) (u3 : Int32) (p1 : Int64) (p2 : Int64) (k1 : Int32) (k2 : Int32) (k3 : Int32) (k4 : Int32) (k5 : Int32) (k6 : Int32), vo = some (.int ((fRun tx len 60 (0, 0, 0, 0, f, l, ml)).2.2.2.1)) ∧ G' 40 = .inr (9, [.ref (ad 41), .ref (ad 42), .ref (ad 43), .int ik, .ref (ad 44), .int kn, .ref (ad 45), .int (nI len), .int 0, .int j1, .int j2, .int j3, .long j4, .long j5, .long j6, .long j7, .long u1, .long u2, .int u3, .long p1, .long p2, .ref (ad 46), .ref (ad 47), .int k1, .int k2, .int k3, .int k4, .int k5, .int ((fRun tx len 60 (0, 0, 0, 0, f, l, ml)).2.2.1), .int k6]) ∧ G' 41 = .inl (L.ac 0, 60, .inl (sv f ml)) ∧ G' 42 = .inl (L.ac 0, 60, .inl (sv f ml)) ∧ Agr [40, 41, 42] G G') := by
  refine GM.of (own := RX9) (lo := [(0, .ref (ad 40))]) (by decide +kernel) rfl rfl (Nat.le_of_ble_eq_true rfl) (fun E C hr => ?_)
  refine G_aload_n C 0 dX9_faultCause_0 rfl rfl ?_
  refine G_iconst C (v := 2) dX9_faultCause_1 (by decide) ?_
  refine G_callV C (As := [.int 2]) (rest := []) (c_X9_ftY2 g40 g41 g42 g45 hn6 hk0 hL0 he hz) ca_X9_faultTold km_X9_242 (by decide) g40 rfl rfl rfl rfl (by decide) (Nat.le_of_ble_eq_true rfl) (by decide) dX9_faultCause_2 (fun vv1 gg2 qq3 => ?_)
  obtain ⟨j_4, j_5, j_6, j_7, j_8, j_9, j_10, u_11, u_12, u_13, p_14, p_15, k_16, k_17, k_18, k_19, k_20, k_21, rfl, hh22, hh23, hh24, aa25⟩ := qq3
  have AA26 : Agr [40, 41, 42] G gg2 := aa25.wk (by simp)
  exact G_zret C hr rfl dX9_faultCause_5 ⟨_, _, _, _, _, _, _, _, _, _, _, _, _, _, _, _, _, _, rfl, hh22, hh23, hh24, AA26⟩

abbrev rm_X9_playF : Room := ({ frames := 8, cells := 0, slots := 0, locals := 172 } : Room)
set_option maxRecDepth 100000 in
set_option maxHeartbeats 4000000 in
theorem c_X9_playF {L : GL} {ad : Nat → Nat} {G : Nat → va_E} {len : Nat} {l : Int32} {tx tm f2 : Nat → Int32} {ik kn th m q te us sp bg fo le fi re ca : Int32} {fx fy nx ny ux uy px py : Int64} {ml : Int32} {f : Nat → Int32}  (g40 : G 40 = .inr (9, [.ref (ad 41), .ref (ad 42), .ref (ad 43), .int ik, .ref (ad 44), .int kn, .ref (ad 45), .int (nI len), .int th, .int m, .int q, .int te, .long fx, .long fy, .long nx, .long ny, .long ux, .long uy, .int us, .long px, .long py, .ref (ad 46), .ref (ad 47), .int sp, .int bg, .int fo, .int le, .int fi, .int re, .int ca])) (g41 : G 41 = .inl (L.ac 0, 60, .inl (sv f ml))) (g42 : G 42 = .inl (L.ac 0, 60, .inl f2)) (g45 : G 45 = .inl (L.ac 0, 60, .inl tm)) (hn6 : len ≤ 60) (hk0 : okH f) (hL0 : okL f l) (he : ∀ j, j < len → tx j = tm j) (hz : ¬ (fRun tx len 60 (0, 0, 0, 0, f, l, ml)).2.2.1 = 0) : GM L yX9_play cX9_play 2 ((some .int)) rm_X9_playF 50 ad G [.ref (ad 40)] (fun vo G' => ∃ (j1 : Int32) (j2 : Int32) (j3 : Int32) (j4 : Int64) (j5 : Int64) (j6 : Int64) (j7 : Int64) (u1 : Int64) (u2 : Int64) (u3 : Int32) (p1 : Int64) (p2 : Int64) (k1 : Int32) (k2 : Int32) (k3 : Int32) (k4 : Int32) (k5 : Int32) (k6 : Int32), vo = some (.int 0) ∧ G' 40 = .inr (9, [.ref (ad 41), .ref (ad 42), .ref (ad 43), .int ik, .ref (ad 44), .int kn, .ref (ad 45), .int (nI len), .int 1, .int j1, .int j2, .int j3, .long j4, .long j5, .long j6, .long j7, .long u1, .long u2, .int u3, .long p1, .long p2, .ref (ad 46), .ref (ad 47), .int k1, .int k2, .int k3, .int k4, .int k5, .int ((fRun tx len 60 (0, 0, 0, 0, f, l, ml)).2.2.1), .int k6]) ∧ G' 41 = .inl (L.ac 0, 60, .inl (sv f ml)) ∧ G' 42 = .inl (L.ac 0, 60, .inl (sv f ml)) ∧ Agr [40, 41, 42] G G') := by
  refine GM.of (own := RX9) (lo := [(0, .ref (ad 40))]) (by decide +kernel) rfl rfl (Nat.le_of_ble_eq_true rfl) (fun E C hr => ?_)
  refine G_aload_n C 0 dX9_play_0 rfl rfl ?_
  refine G_callV C (As := []) (rest := []) (c_X9_begins g40 g41 g42) ca_X9_begins km_X9_139 (by decide) g40 rfl rfl rfl rfl (by decide) (Nat.le_of_ble_eq_true rfl) (by decide) dX9_play_1 (fun vv1 gg2 qq3 => ?_)
  obtain ⟨rfl, hh4, hh5, aa6⟩ := qq3
  have AA7 : Agr [40, 42] G gg2 := aa6.wk (by simp)
  refine G_aload_n C 0 dX9_play_4 rfl rfl ?_
  refine G_callV C (As := []) (rest := []) (c_X9_doesAll hh4 ((aa6 41 (by decide)).trans g41) ((aa6 45 (by decide)).trans g45) hn6 hk0 hL0 he) ca_X9_doesAll km_X9_239 (by decide) hh4 rfl rfl rfl rfl (by decide) (Nat.le_of_ble_eq_true rfl) (by decide) dX9_play_5 (fun vv8 gg9 qq10 => ?_)
  obtain ⟨j_11, j_12, j_13, j_14, j_15, j_16, j_17, u_18, u_19, u_20, p_21, p_22, k_23, k_24, k_25, k_26, k_27, k_28, rfl, pp29, hh30, hh31, aa32⟩ := qq10
  have AA33 : Agr [40, 42, 41] G gg9 := AA7.tr aa32 (by simp) (by simp)
  refine G_istore_n C 1 (lo' := [(1, .int ((fRun tx len 60 (0, 0, 0, 0, f, l, ml)).1)), (0, .ref (ad 40))]) dX9_play_8 rfl (by decide) rfl ?_
  refine G_aload_n C 0 dX9_play_9 rfl rfl ?_
  refine G_get C 40 (by decide) hh30 rfl inA9 28 (by decide) rfl kf_X9_228 rfl dX9_play_10 ?_
  refine G_if_le C 35 dX9_play_13 (by decide) (fun c13 => False.elim (fr_pos hk0 hL0 hz c13)) (fun c13 => ?_)
  refine G_aload_n C 0 dX9_play_16 rfl rfl ?_
  refine G_get C 40 (by decide) hh30 rfl inA9 1 (by decide) rfl kf_X9_13 rfl dX9_play_17 ?_
  refine G_iconst C (v := 0) dX9_play_20 (by decide) ?_
  refine G_aload_n C 0 dX9_play_21 rfl rfl ?_
  refine G_get C 40 (by decide) hh30 rfl inA9 0 (by decide) rfl kf_X9_7 rfl dX9_play_22 ?_
  refine G_iconst C (v := 0) dX9_play_25 (by decide) ?_
  refine G_callS C (As := [.ref (ad 42), .int 0, .ref (ad 41), .int 0]) (rest := []) (c_X9_copies (at1 := 0) (by1 := 0) (by decide) (by decide) ((aa32 42 (by decide)).trans hh5) hh31 (by decide) (by omega) (by omega) (by omega) (by omega)) ca_X9_copies km_X9_36 rfl rfl (by decide) (Nat.le_of_ble_eq_true rfl) (by decide) dX9_play_26 (fun vv34 gg35 qq36 => ?_)
  obtain ⟨rfl, hh37, aa38⟩ := qq36
  have AA39 : Agr [40, 42, 41] G gg35 := AA33.tr aa38 (by simp) (by simp)
  refine GW.ren 41 (by decide) (t0 := 0) (sv f ml) hh37 (cpK_all) (fun gg40 hh41 aa42 => ?_)
  have AA43 : Agr [40, 42, 41] G gg40 := AA39.tr aa42 (by simp) (by simp)
  refine G_aload_n C 0 dX9_play_29 rfl rfl ?_
  refine G_iconst C (v := 1) dX9_play_30 (by decide) ?_
  refine G_callV C (As := [.int 1]) (rest := []) (c_X9_fails ((aa42 40 (by decide)).trans ((aa38 40 (by decide)).trans hh30))) ca_X9_fails km_X9_43 (by decide) ((aa42 40 (by decide)).trans ((aa38 40 (by decide)).trans hh30)) rfl rfl rfl rfl (by decide) (Nat.le_of_ble_eq_true rfl) (by decide) dX9_play_31 (fun vv44 gg45 qq46 => ?_)
  obtain ⟨rfl, hh47, aa48⟩ := qq46
  have AA49 : Agr [40, 42, 41] G gg45 := AA43.tr aa48 (by simp) (by simp)
  exact G_zret C hr rfl dX9_play_34 ⟨_, _, _, _, _, _, _, _, _, _, _, _, _, _, _, _, _, _, rfl, hh47, ((aa48 41 (by decide)).trans hh41), ((aa48 42 (by decide)).trans ((aa42 42 (by decide)).trans ((aa38 42 (by decide)).trans ((aa32 42 (by decide)).trans hh5)))), (AA49.wk (by simp))⟩

abbrev rm_X9_playR : Room := ({ frames := 8, cells := 0, slots := 0, locals := 172 } : Room)
set_option maxRecDepth 100000 in
set_option maxHeartbeats 4000000 in
theorem c_X9_playR {L : GL} {ad : Nat → Nat} {G : Nat → va_E} {len : Nat} {l : Int32} {tx tm f2 : Nat → Int32} {ik th m q te us sp bg fo le fi re ca : Int32} {fx fy nx ny ux uy px py : Int64} {ml : Int32} {f : Nat → Int32} {pf : Nat → Int32} {hs : List HE}  (g40 : G 40 = .inr (9, [.ref (ad 41), .ref (ad 42), .ref (ad 43), .int ik, .ref (ad 44), .int (nI hs.length), .ref (ad 45), .int (nI len), .int th, .int m, .int q, .int te, .long fx, .long fy, .long nx, .long ny, .long ux, .long uy, .int us, .long px, .long py, .ref (ad 46), .ref (ad 47), .int sp, .int bg, .int fo, .int le, .int fi, .int re, .int ca])) (g41 : G 41 = .inl (L.ac 0, 60, .inl (sv f ml))) (g42 : G 42 = .inl (L.ac 0, 60, .inl f2)) (g44 : G 44 = .inl (L.ac 0, 240, .inl pf)) (g45 : G 45 = .inl (L.ac 0, 60, .inl tm)) (hn6 : len ≤ 60) (hk0 : okH f) (hL0 : okL f l) (he : ∀ j, j < len → tx j = tm j) (hz : (fRun tx len 60 (0, 0, 0, 0, f, l, ml)).2.2.1 = 0) (hP : PastR pf hs) (h4 : hs.length ≤ 4) : GM L yX9_play cX9_play 2 ((some .int)) rm_X9_playR 50 ad G [.ref (ad 40)] (fun vo G' => ∃ (pf2 : Nat → Int32) (j1 : Int32) (j2 : Int32) (j3 : Int32) (j4 : Int64) (j5 : Int64) (j6 : Int64) (j7 : Int64) (u1 : Int64) (u2 : Int64) (u3 : Int32) (p1 : Int64) (p2 : Int64) (k1 : Int32) (k2 : Int32) (k3 : Int32) (k4 : Int32) (k5 : Int32) (k6 : Int32), vo = some (.int ((fRun tx len 60 (0, 0, 0, 0, f, l, ml)).1)) ∧ (PastR pf2 (hpush hs (f, l, ml))) ∧ G' 40 = .inr (9, [.ref (ad 41), .ref (ad 42), .ref (ad 43), .int ik, .ref (ad 44), .int (nI (hpush hs (f, l, ml)).length), .ref (ad 45), .int (nI len), .int 0, .int j1, .int j2, .int j3, .long j4, .long j5, .long j6, .long j7, .long u1, .long u2, .int u3, .long p1, .long p2, .ref (ad 46), .ref (ad 47), .int k1, .int k2, .int k3, .int k4, .int k5, .int 0, .int k6]) ∧ G' 41 = .inl (L.ac 0, 60, .inl (sv (fRun tx len 60 (0, 0, 0, 0, f, l, ml)).2.2.2.2.1 (fRun tx len 60 (0, 0, 0, 0, f, l, ml)).2.2.2.2.2.2)) ∧ G' 42 = .inl (L.ac 0, 60, .inl (sv f ml)) ∧ G' 44 = .inl (L.ac 0, 240, .inl pf2) ∧ Agr [40, 41, 42, 44] G G') := by
  refine GM.of (own := RX9) (lo := [(0, .ref (ad 40))]) (by decide +kernel) rfl rfl (Nat.le_of_ble_eq_true rfl) (fun E C hr => ?_)
  refine G_aload_n C 0 dX9_play_0 rfl rfl ?_
  refine G_callV C (As := []) (rest := []) (c_X9_begins g40 g41 g42) ca_X9_begins km_X9_139 (by decide) g40 rfl rfl rfl rfl (by decide) (Nat.le_of_ble_eq_true rfl) (by decide) dX9_play_1 (fun vv1 gg2 qq3 => ?_)
  obtain ⟨rfl, hh4, hh5, aa6⟩ := qq3
  have AA7 : Agr [40, 42] G gg2 := aa6.wk (by simp)
  refine G_aload_n C 0 dX9_play_4 rfl rfl ?_
  refine G_callV C (As := []) (rest := []) (c_X9_doesAll hh4 ((aa6 41 (by decide)).trans g41) ((aa6 45 (by decide)).trans g45) hn6 hk0 hL0 he) ca_X9_doesAll km_X9_239 (by decide) hh4 rfl rfl rfl rfl (by decide) (Nat.le_of_ble_eq_true rfl) (by decide) dX9_play_5 (fun vv8 gg9 qq10 => ?_)
  obtain ⟨j_11, j_12, j_13, j_14, j_15, j_16, j_17, u_18, u_19, u_20, p_21, p_22, k_23, k_24, k_25, k_26, k_27, k_28, rfl, pp29, hh30, hh31, aa32⟩ := qq10
  have AA33 : Agr [40, 42, 41] G gg9 := AA7.tr aa32 (by simp) (by simp)
  refine G_istore_n C 1 (lo' := [(1, .int ((fRun tx len 60 (0, 0, 0, 0, f, l, ml)).1)), (0, .ref (ad 40))]) dX9_play_8 rfl (by decide) rfl ?_
  refine G_aload_n C 0 dX9_play_9 rfl rfl ?_
  refine G_get C 40 (by decide) hh30 rfl inA9 28 (by decide) rfl kf_X9_228 rfl dX9_play_10 ?_
  refine G_if_le C 35 dX9_play_13 (by decide) (fun c13 => ?_) (fun c13 => False.elim (c13 (Int32.le_of_eq hz)))
  refine G_aload_n C 0 dX9_play_35 rfl rfl ?_
  refine G_callV C (As := []) (rest := []) (c_X9_records (l := l) hh30 ((aa32 42 (by decide)).trans hh5) ((aa32 44 (by decide)).trans ((aa6 44 (by decide)).trans g44)) hP h4) ca_X9_records km_X9_47 (by decide) hh30 rfl rfl rfl rfl (by decide) (Nat.le_of_ble_eq_true rfl) (by decide) dX9_play_36 (fun vv34 gg35 qq36 => ?_)
  obtain ⟨pf_37, rfl, pp38, hh39, hh40, aa41⟩ := qq36
  have AA42 : Agr [40, 42, 41, 44] G gg35 := AA33.tr aa41 (by simp) (by simp)
  refine G_iload_n C 1 dX9_play_39 rfl rfl ?_
  exact G_zret C hr rfl dX9_play_40 ⟨_, _, _, _, _, _, _, _, _, _, _, _, _, _, _, _, _, _, _, rfl, pp38, (by rw [hh39, hz]), ((aa41 41 (by decide)).trans hh31), ((aa41 42 (by decide)).trans ((aa32 42 (by decide)).trans hh5)), hh40, (AA42.wk (by simp))⟩

