def nrB (d h : Nat) : Bool := !((pwr d h).2 == 0) && decide (FP.fdiv (FP.l2f (pwr d h).1) (FP.l2f (pwr d h).2) &&& 0x7fffffff ≤ 0x7f800000)
theorem nr_all : ∀ d, d < 61 → pern d ≠ 0 → ∀ h, h < 40 → h ≤ gpn d → 1 ≤ h → nrB d h = true := by decide +kernel
theorem nr_ok {d h : Nat} (hd : d < 61) (hp : pern d ≠ 0) (hg : h ≤ gpn d) (h1 : 1 ≤ h) : ¬ (pwr d h).2 = 0 ∧ FP.fdiv (FP.l2f (pwr d h).1) (FP.l2f (pwr d h).2) &&& 0x7fffffff ≤ 0x7f800000 := by
  have h39 := gp_lt d hd
  have h2 := nr_all d hd hp h (by omega) hg h1
  rw [nrB, Bool.and_eq_true] at h2
  exact ⟨fun z => by have h3 := h2.1; rw [z] at h3; exact absurd h3 (by decide), of_decide_eq_true h2.2⟩
theorem in_no2 {p : Int32} (h : p < 32 ∨ ¬ p ≤ 126) : (if p < 32 then (0 : Int32) else if 126 < p then 0 else 1) = 0 := by
  by_cases z : p < 32
  · rw [if_pos z]
  · rcases h with y | y
    · exact absurd y z
    · rw [if_neg z, if_pos (Int32.not_le.mp y)]
theorem in_yes2 {p : Int32} (h1 : ¬ p < 32) (h2 : p ≤ 126) : (if p < 32 then (0 : Int32) else if 126 < p then 0 else 1) = 1 := by rw [if_neg h1, if_neg (Int32.not_lt.mpr h2)]
theorem cp_sv {pf f : Nat → Int32} {ml : Int32} {hs : List HE} {e : HE} (h : PastR pf (hs ++ [e])) : ∀ j, j < 60 → cpK pf (60 * hs.length) (sv f ml) 0 60 j = sv e.1 e.2.2 j := by
  intro j hj
  have hz : 0 ≤ j ∧ j < 0 + 60 := ⟨Nat.zero_le _, by omega⟩
  rw [cpK, if_pos hz, Nat.sub_zero]
  exact h hs.length e (by rw [List.getElem?_append_right (Nat.le_refl _), Nat.sub_self]; rfl) j hj
theorem past_i {pf : Nat → Int32} {hs : List HE} {e : HE} (h : PastR pf (hs ++ [e])) : PastR pf hs := by
  intro i e2 he j hj
  refine h i e2 ?_ j hj
  rw [List.getElem?_append_left]
  · exact he
  · rcases Nat.lt_or_ge i hs.length with z | z
    · exact z
    · rw [List.getElem?_eq_none (by omega)] at he; exact absurd he (by simp)
abbrev rm_X9_nearRoot0 : Room := ({ frames := 5, cells := 0, slots := 0, locals := 108 } : Room)
set_option maxRecDepth 100000 in
set_option maxHeartbeats 4000000 in
theorem c_X9_nearRoot0 {L : GL} {ad : Nat → Nat} {G : Nat → va_E} {d : Nat} {ik kn ln th m q te us sp bg fo le fi re ca : Int32} {fx fy nx ny ux uy px py : Int64} {ml : Int32} {f : Nat → Int32}  (g40 : G 40 = .inr (9, [.ref (ad 41), .ref (ad 42), .ref (ad 43), .int ik, .ref (ad 44), .int kn, .ref (ad 45), .int ln, .int th, .int m, .int q, .int te, .long fx, .long fy, .long nx, .long ny, .long ux, .long uy, .int us, .long px, .long py, .ref (ad 46), .ref (ad 47), .int sp, .int bg, .int fo, .int le, .int fi, .int re, .int ca])) (g41 : G 41 = .inl (L.ac 0, 60, .inl (sv f ml))) (h2 : 2 ≤ d) (h60 : d ≤ 60) (hp : pern d ≠ 0) (hf : f d = nI 0) : GM L yX9_nearRoot cX9_nearRoot 2 ((some .float)) rm_X9_nearRoot0 50 ad G [.ref (ad 40), .int (nI d)] (fun vo G' => ∃ (j1 : Int32) (j2 : Int32) (j3 : Int32) (j4 : Int64) (j5 : Int64) (j6 : Int64) (j7 : Int64) (u1 : Int64) (u2 : Int64) (u3 : Int32) (p1 : Int64) (p2 : Int64), vo = some (.float FP.fconst0) ∧ G' 40 = .inr (9, [.ref (ad 41), .ref (ad 42), .ref (ad 43), .int ik, .ref (ad 44), .int kn, .ref (ad 45), .int ln, .int 2, .int j1, .int j2, .int j3, .long j4, .long j5, .long j6, .long j7, .long u1, .long u2, .int u3, .long p1, .long p2, .ref (ad 46), .ref (ad 47), .int sp, .int bg, .int fo, .int le, .int fi, .int re, .int ca]) ∧ Agr [40] G G') := by
  refine GM.of (own := RX9) (lo := [(0, .ref (ad 40)), (1, .int (nI d))]) (by decide +kernel) rfl rfl (Nat.le_of_ble_eq_true rfl) (fun E C hr => ?_)
  have hg : 0 ≤ gpn d := Nat.zero_le _
  have hro : 0 ≤ f d := by rw [hf]; decide
  refine G_aload_n C 0 dX9_nearRoot_0 rfl rfl ?_
  refine G_iload_n C 1 dX9_nearRoot_1 rfl rfl ?_
  refine G_callV C (As := [.int (nI d)]) (rest := []) (c_X9_asksStoneR g40 g41 h2 h60 hro) ca_X9_asksStone km_X9_174 (by decide) g40 rfl rfl rfl rfl (by decide) (Nat.le_of_ble_eq_true rfl) (by decide) dX9_nearRoot_2 (fun vv1 gg2 qq3 => ?_)
  obtain ⟨rfl, hh4, aa5⟩ := qq3
  have AA6 : Agr [40] G gg2 := aa5.wk (by simp)
  refine G_if_ne C 10 dX9_nearRoot_5 (by decide) (fun _ => ?_) (fun h => absurd h (by decide))
  refine G_aload_n C 0 dX9_nearRoot_10 rfl rfl ?_
  refine G_iload_n C 1 dX9_nearRoot_11 rfl rfl ?_
  refine G_aload_n C 0 dX9_nearRoot_12 rfl rfl ?_
  refine G_iload_n C 1 dX9_nearRoot_13 rfl rfl ?_
  refine G_callV C (As := [.int (nI d)]) (rest := [.int (nI d), .ref (ad 40)]) (c_X9_stand hh4 ((aa5 41 (by decide)).trans g41) h2 h60) ca_X9_stand km_X9_89 (by decide) hh4 rfl rfl rfl rfl (by decide) (Nat.le_of_ble_eq_true rfl) (by decide) dX9_nearRoot_14 (fun vv7 gg8 qq9 => ?_)
  obtain ⟨rfl, rfl⟩ := qq9
  refine GW.topr (y := nI 0) hf ?_
  refine G_callV C (As := [.int (nI d), .int (nI 0)]) (rest := []) (c_X9_reaches hh4 h2 h60 hp hg) ca_X9_reaches km_X9_136 (by decide) hh4 rfl rfl rfl rfl (by decide) (Nat.le_of_ble_eq_true rfl) (by decide) dX9_nearRoot_17 (fun vv10 gg11 qq12 => ?_)
  obtain ⟨j_13, j_14, j_15, j_16, j_17, j_18, j_19, rfl, hh20, aa21⟩ := qq12
  have AA22 : Agr [40] G gg11 := AA6.tr aa21 (by simp) (by simp)
  refine G_aload_n C 0 dX9_nearRoot_20 rfl rfl ?_
  refine G_aload_n C 0 dX9_nearRoot_21 rfl rfl ?_
  refine G_get C 40 (by decide) hh20 rfl inA9 20 (by decide) rfl kf_X9_107 rfl dX9_nearRoot_22 ?_
  refine G_lconst C (v := 0) dX9_nearRoot_25 (by decide) ?_
  refine G_lc_ne C 34 dX9_nearRoot_26 dX9_nearRoot_27 (by decide) (fun c26 => False.elim (c26 rfl)) (fun c26 => ?_)
  refine G_iconst C (v := 2) dX9_nearRoot_30 (by decide) ?_
  refine G_goto C 35 dX9_nearRoot_31 (by decide) ?_
  refine G_putp C 40 (by decide) hh20 rfl inA9 tyX9_ok nmX9 8 (by decide) rfl kf_X9_32 rfl rfl rfl (fs' := [.ref (ad 41), .ref (ad 42), .ref (ad 43), .int ik, .ref (ad 44), .int kn, .ref (ad 45), .int ln, .int 2, .int j_13, .int j_14, .int j_15, .long j_16, .long j_17, .long j_18, .long j_19, .long ((tUx d).toInt64), .long ((tUy d).toInt64), .int (sgF (nI d)), .long ((pwr d 0).1), .long ((pwr d 0).2), .ref (ad 46), .ref (ad 47), .int sp, .int bg, .int fo, .int le, .int fi, .int re, .int ca]) (Nat.le_of_ble_eq_true rfl) rfl dX9_nearRoot_35 (fun gg23 hh24 aa25 => ?_)
  have AA26 : Agr [40] G gg23 := AA22.tr aa25 (by simp) (by simp)
  refine G_aload_n C 0 dX9_nearRoot_38 rfl rfl ?_
  refine G_get C 40 (by decide) hh24 rfl inA9 20 (by decide) rfl kf_X9_107 rfl dX9_nearRoot_39 ?_
  refine G_lconst C (v := 0) dX9_nearRoot_42 (by decide) ?_
  refine G_lc_ne C 51 dX9_nearRoot_43 dX9_nearRoot_44 (by decide) (fun c43 => False.elim (c43 rfl)) (fun c43 => ?_)
  refine G_fconst0 C dX9_nearRoot_47 ?_
  refine G_goto C 62 dX9_nearRoot_48 (by decide) ?_
  exact G_fret C hr dX9_nearRoot_62 ⟨_, _, _, _, _, _, _, _, _, _, _, _, rfl, hh24, AA26⟩

abbrev rm_X9_nearRootR : Room := ({ frames := 5, cells := 0, slots := 0, locals := 108 } : Room)
set_option maxRecDepth 100000 in
set_option maxHeartbeats 4000000 in
theorem c_X9_nearRootR {L : GL} {ad : Nat → Nat} {G : Nat → va_E} {d h : Nat} {ik kn ln th m q te us sp bg fo le fi re ca : Int32} {fx fy nx ny ux uy px py : Int64} {ml : Int32} {f : Nat → Int32}  (g40 : G 40 = .inr (9, [.ref (ad 41), .ref (ad 42), .ref (ad 43), .int ik, .ref (ad 44), .int kn, .ref (ad 45), .int ln, .int th, .int m, .int q, .int te, .long fx, .long fy, .long nx, .long ny, .long ux, .long uy, .int us, .long px, .long py, .ref (ad 46), .ref (ad 47), .int sp, .int bg, .int fo, .int le, .int fi, .int re, .int ca])) (g41 : G 41 = .inl (L.ac 0, 60, .inl (sv f ml))) (h2 : 2 ≤ d) (h60 : d ≤ 60) (hp : pern d ≠ 0) (hg : h ≤ gpn d) (hf : f d = nI h) (h1 : 1 ≤ h) : GM L yX9_nearRoot cX9_nearRoot 2 ((some .float)) rm_X9_nearRootR 50 ad G [.ref (ad 40), .int (nI d)] (fun vo G' => ∃ (j1 : Int32) (j2 : Int32) (j3 : Int32) (j4 : Int64) (j5 : Int64) (j6 : Int64) (j7 : Int64) (u1 : Int64) (u2 : Int64) (u3 : Int32) (p1 : Int64) (p2 : Int64), vo = some (.float (FP.fdiv (FP.l2f (pwr d h).1) (FP.l2f (pwr d h).2))) ∧ G' 40 = .inr (9, [.ref (ad 41), .ref (ad 42), .ref (ad 43), .int ik, .ref (ad 44), .int kn, .ref (ad 45), .int ln, .int 0, .int j1, .int j2, .int j3, .long j4, .long j5, .long j6, .long j7, .long u1, .long u2, .int u3, .long p1, .long p2, .ref (ad 46), .ref (ad 47), .int sp, .int bg, .int fo, .int le, .int fi, .int re, .int ca]) ∧ Agr [40] G G') := by
  refine GM.of (own := RX9) (lo := [(0, .ref (ad 40)), (1, .int (nI d))]) (by decide +kernel) rfl rfl (Nat.le_of_ble_eq_true rfl) (fun E C hr => ?_)
  have h39 := gp_lt d (by omega)
  have hro : 0 ≤ f d := by rw [hf]; exact nI_pos' (by omega)
  have hnr := nr_ok (by omega) hp hg h1
  refine G_aload_n C 0 dX9_nearRoot_0 rfl rfl ?_
  refine G_iload_n C 1 dX9_nearRoot_1 rfl rfl ?_
  refine G_callV C (As := [.int (nI d)]) (rest := []) (c_X9_asksStoneR g40 g41 h2 h60 hro) ca_X9_asksStone km_X9_174 (by decide) g40 rfl rfl rfl rfl (by decide) (Nat.le_of_ble_eq_true rfl) (by decide) dX9_nearRoot_2 (fun vv1 gg2 qq3 => ?_)
  obtain ⟨rfl, hh4, aa5⟩ := qq3
  have AA6 : Agr [40] G gg2 := aa5.wk (by simp)
  refine G_if_ne C 10 dX9_nearRoot_5 (by decide) (fun _ => ?_) (fun h => absurd h (by decide))
  refine G_aload_n C 0 dX9_nearRoot_10 rfl rfl ?_
  refine G_iload_n C 1 dX9_nearRoot_11 rfl rfl ?_
  refine G_aload_n C 0 dX9_nearRoot_12 rfl rfl ?_
  refine G_iload_n C 1 dX9_nearRoot_13 rfl rfl ?_
  refine G_callV C (As := [.int (nI d)]) (rest := [.int (nI d), .ref (ad 40)]) (c_X9_stand hh4 ((aa5 41 (by decide)).trans g41) h2 h60) ca_X9_stand km_X9_89 (by decide) hh4 rfl rfl rfl rfl (by decide) (Nat.le_of_ble_eq_true rfl) (by decide) dX9_nearRoot_14 (fun vv7 gg8 qq9 => ?_)
  obtain ⟨rfl, rfl⟩ := qq9
  refine GW.topr (y := nI h) hf ?_
  refine G_callV C (As := [.int (nI d), .int (nI h)]) (rest := []) (c_X9_reaches hh4 h2 h60 hp hg) ca_X9_reaches km_X9_136 (by decide) hh4 rfl rfl rfl rfl (by decide) (Nat.le_of_ble_eq_true rfl) (by decide) dX9_nearRoot_17 (fun vv10 gg11 qq12 => ?_)
  obtain ⟨j_13, j_14, j_15, j_16, j_17, j_18, j_19, rfl, hh20, aa21⟩ := qq12
  have AA22 : Agr [40] G gg11 := AA6.tr aa21 (by simp) (by simp)
  refine G_aload_n C 0 dX9_nearRoot_20 rfl rfl ?_
  refine G_aload_n C 0 dX9_nearRoot_21 rfl rfl ?_
  refine G_get C 40 (by decide) hh20 rfl inA9 20 (by decide) rfl kf_X9_107 rfl dX9_nearRoot_22 ?_
  refine G_lconst C (v := 0) dX9_nearRoot_25 (by decide) ?_
  refine G_lc_ne C 34 dX9_nearRoot_26 dX9_nearRoot_27 (by decide) (fun c26 => ?_) (fun c26 => False.elim (hnr.1 c26))
  refine G_iconst C (v := 0) dX9_nearRoot_34 (by decide) ?_
  refine G_putp C 40 (by decide) hh20 rfl inA9 tyX9_ok nmX9 8 (by decide) rfl kf_X9_32 rfl rfl rfl (fs' := [.ref (ad 41), .ref (ad 42), .ref (ad 43), .int ik, .ref (ad 44), .int kn, .ref (ad 45), .int ln, .int 0, .int j_13, .int j_14, .int j_15, .long j_16, .long j_17, .long j_18, .long j_19, .long ((tUx d).toInt64), .long ((tUy d).toInt64), .int (sgF (nI d)), .long ((pwr d h).1), .long ((pwr d h).2), .ref (ad 46), .ref (ad 47), .int sp, .int bg, .int fo, .int le, .int fi, .int re, .int ca]) (Nat.le_of_ble_eq_true rfl) rfl dX9_nearRoot_35 (fun gg23 hh24 aa25 => ?_)
  have AA26 : Agr [40] G gg23 := AA22.tr aa25 (by simp) (by simp)
  refine G_aload_n C 0 dX9_nearRoot_38 rfl rfl ?_
  refine G_get C 40 (by decide) hh24 rfl inA9 20 (by decide) rfl kf_X9_107 rfl dX9_nearRoot_39 ?_
  refine G_lconst C (v := 0) dX9_nearRoot_42 (by decide) ?_
  refine G_lc_ne C 51 dX9_nearRoot_43 dX9_nearRoot_44 (by decide) (fun c43 => ?_) (fun c43 => False.elim (hnr.1 c43))
  refine G_aload_n C 0 dX9_nearRoot_51 rfl rfl ?_
  refine G_get C 40 (by decide) hh24 rfl inA9 19 (by decide) rfl kf_X9_104 rfl dX9_nearRoot_52 ?_
  refine G_l2f C dX9_nearRoot_55 ?_
  refine G_aload_n C 0 dX9_nearRoot_56 rfl rfl ?_
  refine G_get C 40 (by decide) hh24 rfl inA9 20 (by decide) rfl kf_X9_107 rfl dX9_nearRoot_57 ?_
  refine G_l2f C dX9_nearRoot_60 ?_
  refine G_fdiv C dX9_nearRoot_61 hnr.2 ?_
  exact G_fret C hr dX9_nearRoot_62 ⟨_, _, _, _, _, _, _, _, _, _, _, _, rfl, hh24, AA26⟩

abbrev rm_X9_typeA : Room := ({ frames := 1, cells := 0, slots := 0, locals := 22 } : Room)
set_option maxRecDepth 100000 in
set_option maxHeartbeats 4000000 in
theorem c_X9_typeA {L : GL} {ad : Nat → Nat} {G : Nat → va_E} {c : Int32} {ik kn ln th m q te us sp bg fo le fi re ca : Int32} {fx fy nx ny ux uy px py : Int64}  (g40 : G 40 = .inr (9, [.ref (ad 41), .ref (ad 42), .ref (ad 43), .int ik, .ref (ad 44), .int kn, .ref (ad 45), .int ln, .int th, .int m, .int q, .int te, .long fx, .long fy, .long nx, .long ny, .long ux, .long uy, .int us, .long px, .long py, .ref (ad 46), .ref (ad 47), .int sp, .int bg, .int fo, .int le, .int fi, .int re, .int ca])) (hc : c < 32 ∨ ¬ c ≤ 126) : GM L yX9_type cX9_type 2 ((some .int)) rm_X9_typeA 50 ad G [.ref (ad 40), .int c] (fun vo G' => vo = some (.int 0) ∧ G' 40 = .inr (9, [.ref (ad 41), .ref (ad 42), .ref (ad 43), .int ik, .ref (ad 44), .int kn, .ref (ad 45), .int ln, .int 1, .int m, .int q, .int te, .long fx, .long fy, .long nx, .long ny, .long ux, .long uy, .int us, .long px, .long py, .ref (ad 46), .ref (ad 47), .int sp, .int bg, .int fo, .int le, .int fi, .int re, .int ca]) ∧ Agr [40] G G') := by
  refine GM.of (own := RX9) (lo := [(0, .ref (ad 40)), (1, .int c)]) (by decide +kernel) rfl rfl (Nat.le_of_ble_eq_true rfl) (fun E C hr => ?_)
  refine G_aload_n C 0 dX9_type_0 rfl rfl ?_
  refine G_iconst C (v := 0) dX9_type_1 (by decide) ?_
  refine G_putp C 40 (by decide) g40 rfl inA9 tyX9_ok nmX9 8 (by decide) rfl kf_X9_32 rfl rfl rfl (fs' := [.ref (ad 41), .ref (ad 42), .ref (ad 43), .int ik, .ref (ad 44), .int kn, .ref (ad 45), .int ln, .int 0, .int m, .int q, .int te, .long fx, .long fy, .long nx, .long ny, .long ux, .long uy, .int us, .long px, .long py, .ref (ad 46), .ref (ad 47), .int sp, .int bg, .int fo, .int le, .int fi, .int re, .int ca]) (Nat.le_of_ble_eq_true rfl) rfl dX9_type_2 (fun gg1 hh2 aa3 => ?_)
  have AA4 : Agr [40] G gg1 := aa3.wk (by simp)
  refine G_iload_n C 1 dX9_type_5 rfl rfl ?_
  refine G_bipush C (v := 32) dX9_type_6 (by decide) ?_
  refine G_bipush C (v := 126) dX9_type_8 (by decide) ?_
  refine G_callS C (As := [.int c, .int 32, .int 126]) (rest := []) c_X9_in ca_X9_in km_X9_50 rfl rfl (by decide) (Nat.le_of_ble_eq_true rfl) (by decide) dX9_type_10 (fun vv5 gg6 qq7 => ?_)
  obtain ⟨rfl, rfl⟩ := qq7
  refine GW.topr (y := 0) (in_no2 hc) ?_
  refine G_if_ne C 22 dX9_type_13 (by decide) (fun h => absurd h (by decide)) (fun _ => ?_)
  refine G_aload_n C 0 dX9_type_16 rfl rfl ?_
  refine G_iconst C (v := 1) dX9_type_17 (by decide) ?_
  refine G_callV C (As := [.int 1]) (rest := []) (c_X9_fails hh2) ca_X9_fails km_X9_43 (by decide) hh2 rfl rfl rfl rfl (by decide) (Nat.le_of_ble_eq_true rfl) (by decide) dX9_type_18 (fun vv8 gg9 qq10 => ?_)
  obtain ⟨rfl, hh11, aa12⟩ := qq10
  have AA13 : Agr [40] G gg9 := AA4.tr aa12 (by simp) (by simp)
  exact G_zret C hr rfl dX9_type_21 ⟨rfl, hh11, AA13⟩

abbrev rm_X9_typeF : Room := ({ frames := 1, cells := 0, slots := 0, locals := 22 } : Room)
set_option maxRecDepth 100000 in
set_option maxHeartbeats 4000000 in
theorem c_X9_typeF {L : GL} {ad : Nat → Nat} {G : Nat → va_E} {c : Int32} {ik kn th m q te us sp bg fo le fi re ca : Int32} {fx fy nx ny ux uy px py : Int64}  (g40 : G 40 = .inr (9, [.ref (ad 41), .ref (ad 42), .ref (ad 43), .int ik, .ref (ad 44), .int kn, .ref (ad 45), .int 60, .int th, .int m, .int q, .int te, .long fx, .long fy, .long nx, .long ny, .long ux, .long uy, .int us, .long px, .long py, .ref (ad 46), .ref (ad 47), .int sp, .int bg, .int fo, .int le, .int fi, .int re, .int ca])) (hc1 : ¬ c < 32) (hc2 : c ≤ 126) : GM L yX9_type cX9_type 2 ((some .int)) rm_X9_typeF 50 ad G [.ref (ad 40), .int c] (fun vo G' => vo = some (.int 0) ∧ G' 40 = .inr (9, [.ref (ad 41), .ref (ad 42), .ref (ad 43), .int ik, .ref (ad 44), .int kn, .ref (ad 45), .int 60, .int 2, .int m, .int q, .int te, .long fx, .long fy, .long nx, .long ny, .long ux, .long uy, .int us, .long px, .long py, .ref (ad 46), .ref (ad 47), .int sp, .int bg, .int fo, .int le, .int fi, .int re, .int ca]) ∧ Agr [40] G G') := by
  refine GM.of (own := RX9) (lo := [(0, .ref (ad 40)), (1, .int c)]) (by decide +kernel) rfl rfl (Nat.le_of_ble_eq_true rfl) (fun E C hr => ?_)
  refine G_aload_n C 0 dX9_type_0 rfl rfl ?_
  refine G_iconst C (v := 0) dX9_type_1 (by decide) ?_
  refine G_putp C 40 (by decide) g40 rfl inA9 tyX9_ok nmX9 8 (by decide) rfl kf_X9_32 rfl rfl rfl (fs' := [.ref (ad 41), .ref (ad 42), .ref (ad 43), .int ik, .ref (ad 44), .int kn, .ref (ad 45), .int 60, .int 0, .int m, .int q, .int te, .long fx, .long fy, .long nx, .long ny, .long ux, .long uy, .int us, .long px, .long py, .ref (ad 46), .ref (ad 47), .int sp, .int bg, .int fo, .int le, .int fi, .int re, .int ca]) (Nat.le_of_ble_eq_true rfl) rfl dX9_type_2 (fun gg1 hh2 aa3 => ?_)
  have AA4 : Agr [40] G gg1 := aa3.wk (by simp)
  refine G_iload_n C 1 dX9_type_5 rfl rfl ?_
  refine G_bipush C (v := 32) dX9_type_6 (by decide) ?_
  refine G_bipush C (v := 126) dX9_type_8 (by decide) ?_
  refine G_callS C (As := [.int c, .int 32, .int 126]) (rest := []) c_X9_in ca_X9_in km_X9_50 rfl rfl (by decide) (Nat.le_of_ble_eq_true rfl) (by decide) dX9_type_10 (fun vv5 gg6 qq7 => ?_)
  obtain ⟨rfl, rfl⟩ := qq7
  refine GW.topr (y := 1) (in_yes2 hc1 hc2) ?_
  refine G_if_ne C 22 dX9_type_13 (by decide) (fun _ => ?_) (fun h => absurd h (by decide))
  refine G_aload_n C 0 dX9_type_22 rfl rfl ?_
  refine G_get C 40 (by decide) hh2 rfl inA9 7 (by decide) rfl kf_X9_200 rfl dX9_type_23 ?_
  refine G_bipush C (v := 60) dX9_type_26 (by decide) ?_
  refine G_icmp_ne C 37 dX9_type_28 (by decide) (fun h => absurd h (by decide)) (fun _ => ?_)
  refine G_aload_n C 0 dX9_type_31 rfl rfl ?_
  refine G_iconst C (v := 2) dX9_type_32 (by decide) ?_
  refine G_callV C (As := [.int 2]) (rest := []) (c_X9_fails hh2) ca_X9_fails km_X9_43 (by decide) hh2 rfl rfl rfl rfl (by decide) (Nat.le_of_ble_eq_true rfl) (by decide) dX9_type_33 (fun vv8 gg9 qq10 => ?_)
  obtain ⟨rfl, hh11, aa12⟩ := qq10
  have AA13 : Agr [40] G gg9 := AA4.tr aa12 (by simp) (by simp)
  exact G_zret C hr rfl dX9_type_36 ⟨rfl, hh11, AA13⟩

abbrev rm_X9_typeR : Room := ({ frames := 1, cells := 0, slots := 0, locals := 22 } : Room)
set_option maxRecDepth 100000 in
set_option maxHeartbeats 4000000 in
theorem c_X9_typeR {L : GL} {ad : Nat → Nat} {G : Nat → va_E} {c : Int32} {n : Nat} {tm : Nat → Int32} {ik kn th m q te us sp bg fo le fi re ca : Int32} {fx fy nx ny ux uy px py : Int64}  (g40 : G 40 = .inr (9, [.ref (ad 41), .ref (ad 42), .ref (ad 43), .int ik, .ref (ad 44), .int kn, .ref (ad 45), .int (nI n), .int th, .int m, .int q, .int te, .long fx, .long fy, .long nx, .long ny, .long ux, .long uy, .int us, .long px, .long py, .ref (ad 46), .ref (ad 47), .int sp, .int bg, .int fo, .int le, .int fi, .int re, .int ca])) (g45 : G 45 = .inl (L.ac 0, 60, .inl tm)) (hc1 : ¬ c < 32) (hc2 : c ≤ 126) (hn : n < 60) : GM L yX9_type cX9_type 2 ((some .int)) rm_X9_typeR 50 ad G [.ref (ad 40), .int c] (fun vo G' => vo = some (.int (nI (n + 1))) ∧ G' 40 = .inr (9, [.ref (ad 41), .ref (ad 42), .ref (ad 43), .int ik, .ref (ad 44), .int kn, .ref (ad 45), .int (nI (n + 1)), .int 0, .int m, .int q, .int te, .long fx, .long fy, .long nx, .long ny, .long ux, .long uy, .int us, .long px, .long py, .ref (ad 46), .ref (ad 47), .int sp, .int bg, .int fo, .int le, .int fi, .int re, .int ca]) ∧ G' 45 = .inl (L.ac 0, 60, .inl (upd tm n c)) ∧ Agr [40, 45] G G') := by
  refine GM.of (own := RX9) (lo := [(0, .ref (ad 40)), (1, .int c)]) (by decide +kernel) rfl rfl (Nat.le_of_ble_eq_true rfl) (fun E C hr => ?_)
  refine G_aload_n C 0 dX9_type_0 rfl rfl ?_
  refine G_iconst C (v := 0) dX9_type_1 (by decide) ?_
  refine G_putp C 40 (by decide) g40 rfl inA9 tyX9_ok nmX9 8 (by decide) rfl kf_X9_32 rfl rfl rfl (fs' := [.ref (ad 41), .ref (ad 42), .ref (ad 43), .int ik, .ref (ad 44), .int kn, .ref (ad 45), .int (nI n), .int 0, .int m, .int q, .int te, .long fx, .long fy, .long nx, .long ny, .long ux, .long uy, .int us, .long px, .long py, .ref (ad 46), .ref (ad 47), .int sp, .int bg, .int fo, .int le, .int fi, .int re, .int ca]) (Nat.le_of_ble_eq_true rfl) rfl dX9_type_2 (fun gg1 hh2 aa3 => ?_)
  have AA4 : Agr [40] G gg1 := aa3.wk (by simp)
  refine G_iload_n C 1 dX9_type_5 rfl rfl ?_
  refine G_bipush C (v := 32) dX9_type_6 (by decide) ?_
  refine G_bipush C (v := 126) dX9_type_8 (by decide) ?_
  refine G_callS C (As := [.int c, .int 32, .int 126]) (rest := []) c_X9_in ca_X9_in km_X9_50 rfl rfl (by decide) (Nat.le_of_ble_eq_true rfl) (by decide) dX9_type_10 (fun vv5 gg6 qq7 => ?_)
  obtain ⟨rfl, rfl⟩ := qq7
  refine GW.topr (y := 1) (in_yes2 hc1 hc2) ?_
  refine G_if_ne C 22 dX9_type_13 (by decide) (fun _ => ?_) (fun h => absurd h (by decide))
  refine G_aload_n C 0 dX9_type_22 rfl rfl ?_
  refine G_get C 40 (by decide) hh2 rfl inA9 7 (by decide) rfl kf_X9_200 rfl dX9_type_23 ?_
  refine G_bipush C (v := 60) dX9_type_26 (by decide) ?_
  refine G_icmp_ne C 37 dX9_type_28 (by decide) (fun c28 => ?_) (fun c28 => False.elim (by have := (cI_eq (a := n) (b := 60) rfl rfl (by omega) (by omega)).mp c28; omega))
  have c28n : ¬ n = 60 := fun z => c28 ((cI_eq (a := n) (b := 60) rfl rfl (by omega) (by omega)).mpr z)
  refine G_aload_n C 0 dX9_type_37 rfl rfl ?_
  refine G_get C 40 (by decide) hh2 rfl inA9 6 (by decide) rfl kf_X9_22 rfl dX9_type_38 ?_
  refine G_aload_n C 0 dX9_type_41 rfl rfl ?_
  refine G_get C 40 (by decide) hh2 rfl inA9 7 (by decide) rfl kf_X9_200 rfl dX9_type_42 ?_
  refine G_iload_n C 1 dX9_type_45 rfl rfl ?_
  refine G_iastN C 45 (by decide) n ((aa3 45 (by decide)).trans g45) rfl (by omega) (by omega) dX9_type_46 (fun gg8 hh9 aa10 => ?_)
  have AA11 : Agr [40, 45] G gg8 := AA4.tr aa10 (by simp) (by simp)
  refine G_aload_n C 0 dX9_type_47 rfl rfl ?_
  refine G_dup C dX9_type_48 rfl ?_
  refine G_get C 40 (by decide) ((aa10 40 (by decide)).trans hh2) rfl inA9 7 (by decide) rfl kf_X9_200 rfl dX9_type_49 ?_
  refine G_iconst C (v := 1) dX9_type_52 (by decide) ?_
  refine G_iadd C dX9_type_53 ?_
  refine GW.topr (cI_add (a := n) (b := 1) rfl rfl) ?_
  refine G_putp C 40 (by decide) ((aa10 40 (by decide)).trans hh2) rfl inA9 tyX9_ok nmX9 7 (by decide) rfl kf_X9_200 rfl rfl rfl (fs' := [.ref (ad 41), .ref (ad 42), .ref (ad 43), .int ik, .ref (ad 44), .int kn, .ref (ad 45), .int (nI (n + 1)), .int 0, .int m, .int q, .int te, .long fx, .long fy, .long nx, .long ny, .long ux, .long uy, .int us, .long px, .long py, .ref (ad 46), .ref (ad 47), .int sp, .int bg, .int fo, .int le, .int fi, .int re, .int ca]) (Nat.le_of_ble_eq_true rfl) rfl dX9_type_54 (fun gg12 hh13 aa14 => ?_)
  have AA15 : Agr [40, 45] G gg12 := AA11.tr aa14 (by simp) (by simp)
  refine G_aload_n C 0 dX9_type_57 rfl rfl ?_
  refine G_get C 40 (by decide) hh13 rfl inA9 7 (by decide) rfl kf_X9_200 rfl dX9_type_58 ?_
  exact G_zret C hr rfl dX9_type_61 ⟨rfl, hh13, ((aa14 45 (by decide)).trans hh9), AA15⟩

abbrev rm_X9_keep : Room := ({ frames := 2, cells := 0, slots := 0, locals := 43 } : Room)
set_option maxRecDepth 100000 in
set_option maxHeartbeats 4000000 in
theorem c_X9_keep {L : GL} {ad : Nat → Nat} {G : Nat → va_E} {ik kn ln th m q te us sp bg fo le fi re ca : Int32} {fx fy nx ny ux uy px py : Int64} {ml : Int32} {f : Nat → Int32} {f3 : Nat → Int32}  (g40 : G 40 = .inr (9, [.ref (ad 41), .ref (ad 42), .ref (ad 43), .int ik, .ref (ad 44), .int kn, .ref (ad 45), .int ln, .int th, .int m, .int q, .int te, .long fx, .long fy, .long nx, .long ny, .long ux, .long uy, .int us, .long px, .long py, .ref (ad 46), .ref (ad 47), .int sp, .int bg, .int fo, .int le, .int fi, .int re, .int ca])) (g41 : G 41 = .inl (L.ac 0, 60, .inl (sv f ml))) (g43 : G 43 = .inl (L.ac 0, 60, .inl f3))  : GM L yX9_keep cX9_keep 1 ((some .int)) rm_X9_keep 50 ad G [.ref (ad 40)] (fun vo G' => vo = some (.int (manyF f 59)) ∧ G' 40 = .inr (9, [.ref (ad 41), .ref (ad 42), .ref (ad 43), .int 1, .ref (ad 44), .int kn, .ref (ad 45), .int ln, .int 0, .int m, .int q, .int te, .long fx, .long fy, .long nx, .long ny, .long ux, .long uy, .int us, .long px, .long py, .ref (ad 46), .ref (ad 47), .int sp, .int bg, .int fo, .int le, .int fi, .int re, .int ca]) ∧ G' 43 = .inl (L.ac 0, 60, .inl (sv f ml)) ∧ Agr [40, 43] G G') := by
  refine GM.of (own := RX9) (lo := [(0, .ref (ad 40))]) (by decide +kernel) rfl rfl (Nat.le_of_ble_eq_true rfl) (fun E C hr => ?_)
  refine G_aload_n C 0 dX9_keep_0 rfl rfl ?_
  refine G_iconst C (v := 0) dX9_keep_1 (by decide) ?_
  refine G_putp C 40 (by decide) g40 rfl inA9 tyX9_ok nmX9 8 (by decide) rfl kf_X9_32 rfl rfl rfl (fs' := [.ref (ad 41), .ref (ad 42), .ref (ad 43), .int ik, .ref (ad 44), .int kn, .ref (ad 45), .int ln, .int 0, .int m, .int q, .int te, .long fx, .long fy, .long nx, .long ny, .long ux, .long uy, .int us, .long px, .long py, .ref (ad 46), .ref (ad 47), .int sp, .int bg, .int fo, .int le, .int fi, .int re, .int ca]) (Nat.le_of_ble_eq_true rfl) rfl dX9_keep_2 (fun gg1 hh2 aa3 => ?_)
  have AA4 : Agr [40] G gg1 := aa3.wk (by simp)
  refine G_aload_n C 0 dX9_keep_5 rfl rfl ?_
  refine G_iconst C (v := 1) dX9_keep_6 (by decide) ?_
  refine G_putp C 40 (by decide) hh2 rfl inA9 tyX9_ok nmX9 3 (by decide) rfl kf_X9_157 rfl rfl rfl (fs' := [.ref (ad 41), .ref (ad 42), .ref (ad 43), .int 1, .ref (ad 44), .int kn, .ref (ad 45), .int ln, .int 0, .int m, .int q, .int te, .long fx, .long fy, .long nx, .long ny, .long ux, .long uy, .int us, .long px, .long py, .ref (ad 46), .ref (ad 47), .int sp, .int bg, .int fo, .int le, .int fi, .int re, .int ca]) (Nat.le_of_ble_eq_true rfl) rfl dX9_keep_7 (fun gg5 hh6 aa7 => ?_)
  have AA8 : Agr [40] G gg5 := AA4.tr aa7 (by simp) (by simp)
  refine G_aload_n C 0 dX9_keep_10 rfl rfl ?_
  refine G_get C 40 (by decide) hh6 rfl inA9 0 (by decide) rfl kf_X9_7 rfl dX9_keep_11 ?_
  refine G_iconst C (v := 0) dX9_keep_14 (by decide) ?_
  refine G_aload_n C 0 dX9_keep_15 rfl rfl ?_
  refine G_get C 40 (by decide) hh6 rfl inA9 2 (by decide) rfl kf_X9_16 rfl dX9_keep_16 ?_
  refine G_iconst C (v := 0) dX9_keep_19 (by decide) ?_
  refine G_callS C (As := [.ref (ad 41), .int 0, .ref (ad 43), .int 0]) (rest := []) (c_X9_copies (at1 := 0) (by1 := 0) (by decide) (by decide) ((aa7 41 (by decide)).trans ((aa3 41 (by decide)).trans g41)) ((aa7 43 (by decide)).trans ((aa3 43 (by decide)).trans g43)) (by decide) (by omega) (by omega) (by omega) (by omega)) ca_X9_copies km_X9_36 rfl rfl (by decide) (Nat.le_of_ble_eq_true rfl) (by decide) dX9_keep_20 (fun vv9 gg10 qq11 => ?_)
  obtain ⟨rfl, hh12, aa13⟩ := qq11
  have AA14 : Agr [40, 43] G gg10 := AA8.tr aa13 (by simp) (by simp)
  refine GW.ren 43 (by decide) (t0 := 0) (sv f ml) hh12 (cpK_all) (fun gg15 hh16 aa17 => ?_)
  have AA18 : Agr [40, 43] G gg15 := AA14.tr aa17 (by simp) (by simp)
  refine G_aload_n C 0 dX9_keep_23 rfl rfl ?_
  refine G_callV C (As := []) (rest := []) (c_X9_many ((aa17 40 (by decide)).trans ((aa13 40 (by decide)).trans hh6)) ((aa17 41 (by decide)).trans ((aa13 41 (by decide)).trans ((aa7 41 (by decide)).trans ((aa3 41 (by decide)).trans g41))))) ca_X9_many km_X9_122 (by decide) ((aa17 40 (by decide)).trans ((aa13 40 (by decide)).trans hh6)) rfl rfl rfl rfl (by decide) (Nat.le_of_ble_eq_true rfl) (by decide) dX9_keep_24 (fun vv19 gg20 qq21 => ?_)
  obtain ⟨rfl, rfl⟩ := qq21
  exact G_zret C hr rfl dX9_keep_27 ⟨rfl, ((aa17 40 (by decide)).trans ((aa13 40 (by decide)).trans hh6)), hh16, AA18⟩

abbrev rm_X9_goBackA : Room := ({ frames := 2, cells := 0, slots := 0, locals := 44 } : Room)
set_option maxRecDepth 100000 in
set_option maxHeartbeats 4000000 in
theorem c_X9_goBackA {L : GL} {ad : Nat → Nat} {G : Nat → va_E} {kn ln th m q te us sp bg fo le fi re ca : Int32} {fx fy nx ny ux uy px py : Int64} {ml : Int32} {f : Nat → Int32} {f2 : Nat → Int32}  (g40 : G 40 = .inr (9, [.ref (ad 41), .ref (ad 42), .ref (ad 43), .int 0, .ref (ad 44), .int kn, .ref (ad 45), .int ln, .int th, .int m, .int q, .int te, .long fx, .long fy, .long nx, .long ny, .long ux, .long uy, .int us, .long px, .long py, .ref (ad 46), .ref (ad 47), .int sp, .int bg, .int fo, .int le, .int fi, .int re, .int ca])) (g41 : G 41 = .inl (L.ac 0, 60, .inl (sv f ml))) (g42 : G 42 = .inl (L.ac 0, 60, .inl f2))  : GM L yX9_goBack cX9_goBack 1 ((some .int)) rm_X9_goBackA 50 ad G [.ref (ad 40)] (fun vo G' => vo = some (.int 0) ∧ G' 40 = .inr (9, [.ref (ad 41), .ref (ad 42), .ref (ad 43), .int 0, .ref (ad 44), .int kn, .ref (ad 45), .int ln, .int 1, .int m, .int q, .int te, .long fx, .long fy, .long nx, .long ny, .long ux, .long uy, .int us, .long px, .long py, .ref (ad 46), .ref (ad 47), .int sp, .int bg, .int fo, .int le, .int fi, .int re, .int ca]) ∧ G' 42 = .inl (L.ac 0, 60, .inl (sv f ml)) ∧ Agr [40, 42] G G') := by
  refine GM.of (own := RX9) (lo := [(0, .ref (ad 40))]) (by decide +kernel) rfl rfl (Nat.le_of_ble_eq_true rfl) (fun E C hr => ?_)
  refine G_aload_n C 0 dX9_goBack_0 rfl rfl ?_
  refine G_callV C (As := []) (rest := []) (c_X9_begins g40 g41 g42) ca_X9_begins km_X9_139 (by decide) g40 rfl rfl rfl rfl (by decide) (Nat.le_of_ble_eq_true rfl) (by decide) dX9_goBack_1 (fun vv1 gg2 qq3 => ?_)
  obtain ⟨rfl, hh4, hh5, aa6⟩ := qq3
  have AA7 : Agr [40, 42] G gg2 := aa6.wk (by simp)
  refine G_aload_n C 0 dX9_goBack_4 rfl rfl ?_
  refine G_get C 40 (by decide) hh4 rfl inA9 3 (by decide) rfl kf_X9_157 rfl dX9_goBack_5 ?_
  refine G_if_ne C 17 dX9_goBack_8 (by decide) (fun h => absurd h (by decide)) (fun _ => ?_)
  refine G_aload_n C 0 dX9_goBack_11 rfl rfl ?_
  refine G_iconst C (v := 1) dX9_goBack_12 (by decide) ?_
  refine G_callV C (As := [.int 1]) (rest := []) (c_X9_fails hh4) ca_X9_fails km_X9_43 (by decide) hh4 rfl rfl rfl rfl (by decide) (Nat.le_of_ble_eq_true rfl) (by decide) dX9_goBack_13 (fun vv8 gg9 qq10 => ?_)
  obtain ⟨rfl, hh11, aa12⟩ := qq10
  have AA13 : Agr [40, 42] G gg9 := AA7.tr aa12 (by simp) (by simp)
  exact G_zret C hr rfl dX9_goBack_16 ⟨rfl, hh11, ((aa12 42 (by decide)).trans hh5), AA13⟩

abbrev rm_X9_goBackR : Room := ({ frames := 2, cells := 0, slots := 0, locals := 45 } : Room)
set_option maxRecDepth 100000 in
set_option maxHeartbeats 4000000 in
theorem c_X9_goBackR {L : GL} {ad : Nat → Nat} {G : Nat → va_E} {l : Int32} {ln th m q te us sp bg fo le fi re ca : Int32} {fx fy nx ny ux uy px py : Int64} {ml : Int32} {f : Nat → Int32} {f2 : Nat → Int32} {pf : Nat → Int32} {hs : List HE} {f3 : Nat → Int32} {ml3 : Int32}  (g40 : G 40 = .inr (9, [.ref (ad 41), .ref (ad 42), .ref (ad 43), .int 1, .ref (ad 44), .int (nI hs.length), .ref (ad 45), .int ln, .int th, .int m, .int q, .int te, .long fx, .long fy, .long nx, .long ny, .long ux, .long uy, .int us, .long px, .long py, .ref (ad 46), .ref (ad 47), .int sp, .int bg, .int fo, .int le, .int fi, .int re, .int ca])) (g41 : G 41 = .inl (L.ac 0, 60, .inl (sv f ml))) (g42 : G 42 = .inl (L.ac 0, 60, .inl f2)) (g43 : G 43 = .inl (L.ac 0, 60, .inl (sv f3 ml3))) (g44 : G 44 = .inl (L.ac 0, 240, .inl pf)) (hP : PastR pf hs) (h4 : hs.length ≤ 4) : GM L yX9_goBack cX9_goBack 1 ((some .int)) rm_X9_goBackR 50 ad G [.ref (ad 40)] (fun vo G' => ∃ (pf2 : Nat → Int32), vo = some (.int (manyF f3 59)) ∧ (PastR pf2 (hpush hs (f, l, ml))) ∧ G' 40 = .inr (9, [.ref (ad 41), .ref (ad 42), .ref (ad 43), .int 1, .ref (ad 44), .int (nI (hpush hs (f, l, ml)).length), .ref (ad 45), .int ln, .int 0, .int m, .int q, .int te, .long fx, .long fy, .long nx, .long ny, .long ux, .long uy, .int us, .long px, .long py, .ref (ad 46), .ref (ad 47), .int sp, .int bg, .int fo, .int le, .int fi, .int re, .int ca]) ∧ G' 41 = .inl (L.ac 0, 60, .inl (sv f3 ml3)) ∧ G' 42 = .inl (L.ac 0, 60, .inl (sv f ml)) ∧ G' 44 = .inl (L.ac 0, 240, .inl pf2) ∧ Agr [40, 41, 42, 44] G G') := by
  refine GM.of (own := RX9) (lo := [(0, .ref (ad 40))]) (by decide +kernel) rfl rfl (Nat.le_of_ble_eq_true rfl) (fun E C hr => ?_)
  refine G_aload_n C 0 dX9_goBack_0 rfl rfl ?_
  refine G_callV C (As := []) (rest := []) (c_X9_begins g40 g41 g42) ca_X9_begins km_X9_139 (by decide) g40 rfl rfl rfl rfl (by decide) (Nat.le_of_ble_eq_true rfl) (by decide) dX9_goBack_1 (fun vv1 gg2 qq3 => ?_)
  obtain ⟨rfl, hh4, hh5, aa6⟩ := qq3
  have AA7 : Agr [40, 42] G gg2 := aa6.wk (by simp)
  refine G_aload_n C 0 dX9_goBack_4 rfl rfl ?_
  refine G_get C 40 (by decide) hh4 rfl inA9 3 (by decide) rfl kf_X9_157 rfl dX9_goBack_5 ?_
  refine G_if_ne C 17 dX9_goBack_8 (by decide) (fun _ => ?_) (fun h => absurd h (by decide))
  refine G_aload_n C 0 dX9_goBack_17 rfl rfl ?_
  refine G_get C 40 (by decide) hh4 rfl inA9 2 (by decide) rfl kf_X9_16 rfl dX9_goBack_18 ?_
  refine G_iconst C (v := 0) dX9_goBack_21 (by decide) ?_
  refine G_aload_n C 0 dX9_goBack_22 rfl rfl ?_
  refine G_get C 40 (by decide) hh4 rfl inA9 0 (by decide) rfl kf_X9_7 rfl dX9_goBack_23 ?_
  refine G_iconst C (v := 0) dX9_goBack_26 (by decide) ?_
  refine G_callS C (As := [.ref (ad 43), .int 0, .ref (ad 41), .int 0]) (rest := []) (c_X9_copies (at1 := 0) (by1 := 0) (by decide) (by decide) ((aa6 43 (by decide)).trans g43) ((aa6 41 (by decide)).trans g41) (by decide) (by omega) (by omega) (by omega) (by omega)) ca_X9_copies km_X9_36 rfl rfl (by decide) (Nat.le_of_ble_eq_true rfl) (by decide) dX9_goBack_27 (fun vv8 gg9 qq10 => ?_)
  obtain ⟨rfl, hh11, aa12⟩ := qq10
  have AA13 : Agr [40, 42, 41] G gg9 := AA7.tr aa12 (by simp) (by simp)
  refine GW.ren 41 (by decide) (t0 := 0) (sv f3 ml3) hh11 (cpK_all) (fun gg14 hh15 aa16 => ?_)
  have AA17 : Agr [40, 42, 41] G gg14 := AA13.tr aa16 (by simp) (by simp)
  refine G_aload_n C 0 dX9_goBack_30 rfl rfl ?_
  refine G_callV C (As := []) (rest := []) (c_X9_records (l := l) ((aa16 40 (by decide)).trans ((aa12 40 (by decide)).trans hh4)) ((aa16 42 (by decide)).trans ((aa12 42 (by decide)).trans hh5)) ((aa16 44 (by decide)).trans ((aa12 44 (by decide)).trans ((aa6 44 (by decide)).trans g44))) hP h4) ca_X9_records km_X9_47 (by decide) ((aa16 40 (by decide)).trans ((aa12 40 (by decide)).trans hh4)) rfl rfl rfl rfl (by decide) (Nat.le_of_ble_eq_true rfl) (by decide) dX9_goBack_31 (fun vv18 gg19 qq20 => ?_)
  obtain ⟨pf_21, rfl, pp22, hh23, hh24, aa25⟩ := qq20
  have AA26 : Agr [40, 42, 41, 44] G gg19 := AA17.tr aa25 (by simp) (by simp)
  refine G_aload_n C 0 dX9_goBack_34 rfl rfl ?_
  refine G_callV C (As := []) (rest := []) (c_X9_many hh23 ((aa25 41 (by decide)).trans hh15)) ca_X9_many km_X9_122 (by decide) hh23 rfl rfl rfl rfl (by decide) (Nat.le_of_ble_eq_true rfl) (by decide) dX9_goBack_35 (fun vv27 gg28 qq29 => ?_)
  obtain ⟨rfl, rfl⟩ := qq29
  exact G_zret C hr rfl dX9_goBack_38 ⟨_, rfl, pp22, hh23, ((aa25 41 (by decide)).trans hh15), ((aa25 42 (by decide)).trans ((aa16 42 (by decide)).trans ((aa12 42 (by decide)).trans hh5))), hh24, (AA26.wk (by simp))⟩

abbrev rm_X9_undoA : Room := ({ frames := 1, cells := 0, slots := 0, locals := 21 } : Room)
set_option maxRecDepth 100000 in
set_option maxHeartbeats 4000000 in
theorem c_X9_undoA {L : GL} {ad : Nat → Nat} {G : Nat → va_E} {ik ln th m q te us sp bg fo le fi re ca : Int32} {fx fy nx ny ux uy px py : Int64}  (g40 : G 40 = .inr (9, [.ref (ad 41), .ref (ad 42), .ref (ad 43), .int ik, .ref (ad 44), .int 0, .ref (ad 45), .int ln, .int th, .int m, .int q, .int te, .long fx, .long fy, .long nx, .long ny, .long ux, .long uy, .int us, .long px, .long py, .ref (ad 46), .ref (ad 47), .int sp, .int bg, .int fo, .int le, .int fi, .int re, .int ca]))  : GM L yX9_undo cX9_undo 1 ((some .int)) rm_X9_undoA 50 ad G [.ref (ad 40)] (fun vo G' => vo = some (.int 0) ∧ G' 40 = .inr (9, [.ref (ad 41), .ref (ad 42), .ref (ad 43), .int ik, .ref (ad 44), .int 0, .ref (ad 45), .int ln, .int 1, .int m, .int q, .int te, .long fx, .long fy, .long nx, .long ny, .long ux, .long uy, .int us, .long px, .long py, .ref (ad 46), .ref (ad 47), .int sp, .int bg, .int fo, .int le, .int fi, .int re, .int ca]) ∧ Agr [40] G G') := by
  refine GM.of (own := RX9) (lo := [(0, .ref (ad 40))]) (by decide +kernel) rfl rfl (Nat.le_of_ble_eq_true rfl) (fun E C hr => ?_)
  refine G_aload_n C 0 dX9_undo_0 rfl rfl ?_
  refine G_iconst C (v := 0) dX9_undo_1 (by decide) ?_
  refine G_putp C 40 (by decide) g40 rfl inA9 tyX9_ok nmX9 8 (by decide) rfl kf_X9_32 rfl rfl rfl (fs' := [.ref (ad 41), .ref (ad 42), .ref (ad 43), .int ik, .ref (ad 44), .int 0, .ref (ad 45), .int ln, .int 0, .int m, .int q, .int te, .long fx, .long fy, .long nx, .long ny, .long ux, .long uy, .int us, .long px, .long py, .ref (ad 46), .ref (ad 47), .int sp, .int bg, .int fo, .int le, .int fi, .int re, .int ca]) (Nat.le_of_ble_eq_true rfl) rfl dX9_undo_2 (fun gg1 hh2 aa3 => ?_)
  have AA4 : Agr [40] G gg1 := aa3.wk (by simp)
  refine G_aload_n C 0 dX9_undo_5 rfl rfl ?_
  refine G_get C 40 (by decide) hh2 rfl inA9 5 (by decide) rfl kf_X9_40 rfl dX9_undo_6 ?_
  refine G_if_ne C 18 dX9_undo_9 (by decide) (fun h => absurd h (by decide)) (fun _ => ?_)
  refine G_aload_n C 0 dX9_undo_12 rfl rfl ?_
  refine G_iconst C (v := 1) dX9_undo_13 (by decide) ?_
  refine G_callV C (As := [.int 1]) (rest := []) (c_X9_fails hh2) ca_X9_fails km_X9_43 (by decide) hh2 rfl rfl rfl rfl (by decide) (Nat.le_of_ble_eq_true rfl) (by decide) dX9_undo_14 (fun vv5 gg6 qq7 => ?_)
  obtain ⟨rfl, hh8, aa9⟩ := qq7
  have AA10 : Agr [40] G gg6 := AA4.tr aa9 (by simp) (by simp)
  exact G_zret C hr rfl dX9_undo_17 ⟨rfl, hh8, AA10⟩

abbrev rm_X9_undoR : Room := ({ frames := 1, cells := 0, slots := 0, locals := 24 } : Room)
set_option maxRecDepth 100000 in
set_option maxHeartbeats 4000000 in
theorem c_X9_undoR {L : GL} {ad : Nat → Nat} {G : Nat → va_E} {e : HE} {ik ln th m q te us sp bg fo le fi re ca : Int32} {fx fy nx ny ux uy px py : Int64} {ml : Int32} {f : Nat → Int32} {pf : Nat → Int32} {hs : List HE}  (g40 : G 40 = .inr (9, [.ref (ad 41), .ref (ad 42), .ref (ad 43), .int ik, .ref (ad 44), .int (nI (hs.length + 1)), .ref (ad 45), .int ln, .int th, .int m, .int q, .int te, .long fx, .long fy, .long nx, .long ny, .long ux, .long uy, .int us, .long px, .long py, .ref (ad 46), .ref (ad 47), .int sp, .int bg, .int fo, .int le, .int fi, .int re, .int ca])) (g41 : G 41 = .inl (L.ac 0, 60, .inl (sv f ml))) (g44 : G 44 = .inl (L.ac 0, 240, .inl pf)) (hP : PastR pf (hs ++ [e])) (h4 : hs.length < 4) : GM L yX9_undo cX9_undo 1 ((some .int)) rm_X9_undoR 50 ad G [.ref (ad 40)] (fun vo G' => vo = some (.int (nI hs.length)) ∧ (PastR pf hs) ∧ G' 40 = .inr (9, [.ref (ad 41), .ref (ad 42), .ref (ad 43), .int ik, .ref (ad 44), .int (nI hs.length), .ref (ad 45), .int ln, .int 0, .int m, .int q, .int te, .long fx, .long fy, .long nx, .long ny, .long ux, .long uy, .int us, .long px, .long py, .ref (ad 46), .ref (ad 47), .int sp, .int bg, .int fo, .int le, .int fi, .int re, .int ca]) ∧ G' 41 = .inl (L.ac 0, 60, .inl (sv e.1 e.2.2)) ∧ Agr [40, 41] G G') := by
  refine GM.of (own := RX9) (lo := [(0, .ref (ad 40))]) (by decide +kernel) rfl rfl (Nat.le_of_ble_eq_true rfl) (fun E C hr => ?_)
  refine G_aload_n C 0 dX9_undo_0 rfl rfl ?_
  refine G_iconst C (v := 0) dX9_undo_1 (by decide) ?_
  refine G_putp C 40 (by decide) g40 rfl inA9 tyX9_ok nmX9 8 (by decide) rfl kf_X9_32 rfl rfl rfl (fs' := [.ref (ad 41), .ref (ad 42), .ref (ad 43), .int ik, .ref (ad 44), .int (nI (hs.length + 1)), .ref (ad 45), .int ln, .int 0, .int m, .int q, .int te, .long fx, .long fy, .long nx, .long ny, .long ux, .long uy, .int us, .long px, .long py, .ref (ad 46), .ref (ad 47), .int sp, .int bg, .int fo, .int le, .int fi, .int re, .int ca]) (Nat.le_of_ble_eq_true rfl) rfl dX9_undo_2 (fun gg1 hh2 aa3 => ?_)
  have AA4 : Agr [40] G gg1 := aa3.wk (by simp)
  refine G_aload_n C 0 dX9_undo_5 rfl rfl ?_
  refine G_get C 40 (by decide) hh2 rfl inA9 5 (by decide) rfl kf_X9_40 rfl dX9_undo_6 ?_
  refine G_if_ne C 18 dX9_undo_9 (by decide) (fun c9 => ?_) (fun c9 => False.elim (nI_ne0 (by omega) (by omega) c9))
  have c9n : ¬ (hs.length + 1) = 0 := fun z => c9 ((cI_eq (a := (hs.length + 1)) (b := 0) rfl rfl (by omega) (by omega)).mpr z)
  refine G_aload_n C 0 dX9_undo_18 rfl rfl ?_
  refine G_dup C dX9_undo_19 rfl ?_
  refine G_get C 40 (by decide) hh2 rfl inA9 5 (by decide) rfl kf_X9_40 rfl dX9_undo_20 ?_
  refine G_iconst C (v := 1) dX9_undo_23 (by decide) ?_
  refine G_isub C dX9_undo_24 ?_
  refine GW.topr (y := nI hs.length) (nI_pred hs.length) ?_
  refine G_putp C 40 (by decide) hh2 rfl inA9 tyX9_ok nmX9 5 (by decide) rfl kf_X9_40 rfl rfl rfl (fs' := [.ref (ad 41), .ref (ad 42), .ref (ad 43), .int ik, .ref (ad 44), .int (nI hs.length), .ref (ad 45), .int ln, .int 0, .int m, .int q, .int te, .long fx, .long fy, .long nx, .long ny, .long ux, .long uy, .int us, .long px, .long py, .ref (ad 46), .ref (ad 47), .int sp, .int bg, .int fo, .int le, .int fi, .int re, .int ca]) (Nat.le_of_ble_eq_true rfl) rfl dX9_undo_25 (fun gg5 hh6 aa7 => ?_)
  have AA8 : Agr [40] G gg5 := AA4.tr aa7 (by simp) (by simp)
  refine G_aload_n C 0 dX9_undo_28 rfl rfl ?_
  refine G_get C 40 (by decide) hh6 rfl inA9 4 (by decide) rfl kf_X9_19 rfl dX9_undo_29 ?_
  refine G_bipush C (v := 60) dX9_undo_32 (by decide) ?_
  refine G_aload_n C 0 dX9_undo_34 rfl rfl ?_
  refine G_get C 40 (by decide) hh6 rfl inA9 5 (by decide) rfl kf_X9_40 rfl dX9_undo_35 ?_
  refine G_imul C dX9_undo_38 ?_
  refine GW.topr (cI_mul (a := 60) (b := hs.length) rfl rfl) ?_
  refine G_aload_n C 0 dX9_undo_39 rfl rfl ?_
  refine G_get C 40 (by decide) hh6 rfl inA9 0 (by decide) rfl kf_X9_7 rfl dX9_undo_40 ?_
  refine G_iconst C (v := 0) dX9_undo_43 (by decide) ?_
  refine G_callS C (As := [.ref (ad 44), .int (nI (60 * hs.length)), .ref (ad 41), .int 0]) (rest := []) (c_X9_copies (at1 := 60 * hs.length) (by1 := 0) (by decide) (by decide) ((aa7 44 (by decide)).trans ((aa3 44 (by decide)).trans g44)) ((aa7 41 (by decide)).trans ((aa3 41 (by decide)).trans g41)) (by decide) (by omega) (by omega) (by omega) (by omega)) ca_X9_copies km_X9_36 rfl rfl (by decide) (Nat.le_of_ble_eq_true rfl) (by decide) dX9_undo_44 (fun vv9 gg10 qq11 => ?_)
  obtain ⟨rfl, hh12, aa13⟩ := qq11
  have AA14 : Agr [40, 41] G gg10 := AA8.tr aa13 (by simp) (by simp)
  refine GW.ren 41 (by decide) (t0 := 0) (sv e.1 e.2.2) hh12 (cp_sv hP) (fun gg15 hh16 aa17 => ?_)
  have AA18 : Agr [40, 41] G gg15 := AA14.tr aa17 (by simp) (by simp)
  refine G_aload_n C 0 dX9_undo_47 rfl rfl ?_
  refine G_get C 40 (by decide) ((aa17 40 (by decide)).trans ((aa13 40 (by decide)).trans hh6)) rfl inA9 5 (by decide) rfl kf_X9_40 rfl dX9_undo_48 ?_
  exact G_zret C hr rfl dX9_undo_51 ⟨rfl, past_i hP, ((aa17 40 (by decide)).trans ((aa13 40 (by decide)).trans hh6)), hh16, AA18⟩

