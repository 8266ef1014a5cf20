/-- what the model's past holds -/
def PastR (pf : Nat → Int32) (hs : List HE) : Prop := ∀ (i : Nat) (e : HE), hs[i]? = some e → ∀ j, j < 60 → pf (60 * i + j) = sv e.1 e.2.2 j
def shK (pf : Nat → Int32) (k : Nat) : Nat → Int32 := fun j => if j < k then pf (j + 60) else pf j
theorem shK_s {pf : Nat → Int32} {k : Nat} : ∀ j, upd (shK pf k) k (shK pf k (k + 60)) j = shK pf (k + 1) j := by
  intro j
  have h0 : ¬ k + 60 < k := by omega
  by_cases e : j = k
  · subst e
    have h1 : upd (shK pf j) j (shK pf j (j + 60)) j = shK pf j (j + 60) := by simp [upd]
    rw [h1]; unfold shK; rw [if_neg h0, if_pos (by omega)]
  · by_cases h : j < k
    · have h2 : j < k + 1 := by omega
      simp only [upd, shK, if_neg e, if_pos h, if_pos h2]
    · have h2 : ¬ j < k + 1 := by omega
      simp only [upd, shK, if_neg e, if_neg h, if_neg h2]
theorem past_a {pf f f2 : Nat → Int32} {hs : List HE} {l ml : Int32} (h : PastR pf hs) (hb : ∀ j, j < 60 → f2 j = sv f ml j) : PastR (cpK f2 0 pf (60 * hs.length) 60) (hs ++ [(f, l, ml)]) := by
  intro i e he j hj
  by_cases hi : i < hs.length
  · rw [List.getElem?_append_left hi] at he
    have hz : ¬ (60 * hs.length ≤ 60 * i + j ∧ 60 * i + j < 60 * hs.length + 60) := fun z => by omega
    rw [cpK, if_neg hz]
    exact h i e he j hj
  · rw [List.getElem?_append_right (by omega)] at he
    have h0 : i - hs.length = 0 := by
      rcases Nat.eq_zero_or_pos (i - hs.length) with z | z
      · exact z
      · rw [List.getElem?_eq_none (by simp; omega)] at he; exact absurd he (by simp)
    rw [h0] at he
    obtain rfl : (f, l, ml) = e := Option.some.inj he
    have hz : 60 * hs.length ≤ 60 * i + j ∧ 60 * i + j < 60 * hs.length + 60 := ⟨by omega, by omega⟩
    rw [cpK, if_pos hz, show 0 + (60 * i + j - 60 * hs.length) = j by omega]
    exact hb j hj
theorem past_b {pf f f2 : Nat → Int32} {hs : List HE} {l ml : Int32} (h : PastR pf hs) (h4 : hs.length = 4) (hb : ∀ j, j < 60 → f2 j = sv f ml j) : PastR (cpK f2 0 (shK pf 180) 180 60) (hs.drop 1 ++ [(f, l, ml)]) := by
  have hd : (hs.drop 1).length = 3 := by rw [List.length_drop, h4]
  have h3 : PastR (shK pf 180) (hs.drop 1) := by
    intro i e he j hj
    have hi : i < 3 := by
      rcases Nat.lt_or_ge i 3 with z | z
      · exact z
      · rw [List.getElem?_eq_none (by omega)] at he; exact absurd he (by simp)
    rw [List.getElem?_drop] at he
    have := h (1 + i) e he j hj
    rw [shK, if_pos (by omega), ← this]
    congr 1; omega
  have := past_a (f2 := f2) (l := l) h3 hb
  rw [hd] at this
  exact this
theorem ng2 {c : Nat} (hc : c < 1000) : ¬ nI c = -11 ∧ ¬ nI c = -12 := by
  have h := nI_toInt (n := c) (by omega)
  constructor <;> intro z <;> rw [z] at h
  · have e : (-11 : Int32).toInt = -11 := rfl
    rw [e] at h; omega
  · have e : (-12 : Int32).toInt = -12 := rfl
    rw [e] at h; omega
theorem many_nat (f : Nat → Int32) : ∀ j, ∃ c, c ≤ j ∧ manyF f j = nI c
  | 0 => ⟨0, Nat.le_refl _, rfl⟩
  | j + 1 => by
    obtain ⟨c, hc, e⟩ := many_nat f j
    by_cases z : f (j + 2) < 0
    · exact ⟨c, by omega, by rw [manyF, if_pos z, e]; exact nI_add c 0⟩
    · exact ⟨c + 1, by omega, by rw [manyF, if_neg z, e]; exact nI_add c 1⟩
theorem many_ng (f : Nat → Int32) : ¬ manyF f 59 = -11 ∧ ¬ manyF f 59 = -12 := by
  obtain ⟨c, hc, e⟩ := many_nat f 59
  rw [e]; exact ng2 (by omega)
abbrev rm_X9_recordsA : Room := ({ frames := 1, cells := 0, slots := 0, locals := 24 } : Room)
set_option maxRecDepth 100000 in
set_option maxHeartbeats 4000000 in
theorem c_X9_recordsA {L : GL} {ad : Nat → Nat} {G : Nat → va_E} {n : Nat} {ik ln th m q te us sp bg fo le fi re ca : Int32} {fx fy nx ny ux uy px py : Int64} {f2 pf : Nat → Int32}  (g40 : G 40 = .inr (9, [.ref (ad 41), .ref (ad 42), .ref (ad 43), .int ik, .ref (ad 44), .int (nI n), .ref (ad 45), .int ln, .int th, .int m, .int q, .int te, .long fx, .long fy, .long nx, .long ny, .long ux, .long uy, .int us, .long px, .long py, .ref (ad 46), .ref (ad 47), .int sp, .int bg, .int fo, .int le, .int fi, .int re, .int ca])) (g42 : G 42 = .inl (L.ac 0, 60, .inl f2)) (g44 : G 44 = .inl (L.ac 0, 240, .inl pf)) (hn4 : n < 4) : GM L yX9_records cX9_records 2 (none) rm_X9_recordsA 50 ad G [.ref (ad 40)] (fun vo G' => vo = none ∧ G' 40 = .inr (9, [.ref (ad 41), .ref (ad 42), .ref (ad 43), .int ik, .ref (ad 44), .int (nI (n + 1)), .ref (ad 45), .int ln, .int th, .int m, .int q, .int te, .long fx, .long fy, .long nx, .long ny, .long ux, .long uy, .int us, .long px, .long py, .ref (ad 46), .ref (ad 47), .int sp, .int bg, .int fo, .int le, .int fi, .int re, .int ca]) ∧ G' 44 = .inl (L.ac 0, 240, .inl (cpK f2 0 pf (60 * n) 60)) ∧ Agr [40, 44] G G') := by
  refine GM.of (own := RX9) (lo := [(0, .ref (ad 40))]) (by decide +kernel) rfl rfl (Nat.le_of_ble_eq_true rfl) (fun E C hr => ?_)
  refine G_aload_n C 0 dX9_records_0 rfl rfl ?_
  refine G_get C 40 (by decide) g40 rfl inA9 5 (by decide) rfl kf_X9_40 rfl dX9_records_1 ?_
  refine G_iconst C (v := 4) dX9_records_4 (by decide) ?_
  refine G_icmp_ne C 48 dX9_records_5 (by decide) (fun c5 => ?_) (fun c5 => False.elim (by have := (cI_eq (a := n) (b := 4) rfl rfl (by omega) (by omega)).mp c5; omega))
  have c5n : ¬ n = 4 := fun z => c5 ((cI_eq (a := n) (b := 4) rfl rfl (by omega) (by omega)).mpr z)
  refine G_aload_n C 0 dX9_records_48 rfl rfl ?_
  refine G_get C 40 (by decide) g40 rfl inA9 1 (by decide) rfl kf_X9_13 rfl dX9_records_49 ?_
  refine G_iconst C (v := 0) dX9_records_52 (by decide) ?_
  refine G_aload_n C 0 dX9_records_53 rfl rfl ?_
  refine G_get C 40 (by decide) g40 rfl inA9 4 (by decide) rfl kf_X9_19 rfl dX9_records_54 ?_
  refine G_bipush C (v := 60) dX9_records_57 (by decide) ?_
  refine G_aload_n C 0 dX9_records_59 rfl rfl ?_
  refine G_get C 40 (by decide) g40 rfl inA9 5 (by decide) rfl kf_X9_40 rfl dX9_records_60 ?_
  refine G_imul C dX9_records_63 ?_
  refine GW.topr (cI_mul (a := 60) (b := n) rfl rfl) ?_
  refine G_callS C (As := [.ref (ad 42), .int 0, .ref (ad 44), .int (nI (60 * n))]) (rest := []) (c_X9_copies (at1 := 0) (by1 := 60 * n) (by decide) (by decide) g42 g44 (by decide) (by omega) (by omega) (by omega) (by omega)) ca_X9_copies km_X9_36 rfl rfl (by decide) (Nat.le_of_ble_eq_true rfl) (by decide) dX9_records_64 (fun vv1 gg2 qq3 => ?_)
  obtain ⟨rfl, hh4, aa5⟩ := qq3
  have AA6 : Agr [44] G gg2 := aa5.wk (by simp)
  refine G_aload_n C 0 dX9_records_67 rfl rfl ?_
  refine G_dup C dX9_records_68 rfl ?_
  refine G_get C 40 (by decide) ((aa5 40 (by decide)).trans g40) rfl inA9 5 (by decide) rfl kf_X9_40 rfl dX9_records_69 ?_
  refine G_iconst C (v := 1) dX9_records_72 (by decide) ?_
  refine G_iadd C dX9_records_73 ?_
  refine GW.topr (cI_add (a := n) (b := 1) rfl rfl) ?_
  refine G_putp C 40 (by decide) ((aa5 40 (by decide)).trans g40) rfl inA9 tyX9_ok nmX9 5 (by decide) rfl kf_X9_40 rfl rfl rfl (fs' := [.ref (ad 41), .ref (ad 42), .ref (ad 43), .int ik, .ref (ad 44), .int (nI (n + 1)), .ref (ad 45), .int ln, .int th, .int m, .int q, .int te, .long fx, .long fy, .long nx, .long ny, .long ux, .long uy, .int us, .long px, .long py, .ref (ad 46), .ref (ad 47), .int sp, .int bg, .int fo, .int le, .int fi, .int re, .int ca]) (Nat.le_of_ble_eq_true rfl) rfl dX9_records_74 (fun gg7 hh8 aa9 => ?_)
  have AA10 : Agr [44, 40] G gg7 := AA6.tr aa9 (by simp) (by simp)
  exact G_vret C hr dX9_records_77 ⟨rfl, hh8, ((aa9 44 (by decide)).trans hh4), (AA10.wk (by simp))⟩

abbrev rm_X9_recordsB : Room := ({ frames := 1, cells := 0, slots := 0, locals := 24 } : Room)
set_option maxRecDepth 100000 in
set_option maxHeartbeats 4000000 in
theorem c_X9_recordsB {L : GL} {ad : Nat → Nat} {G : Nat → va_E} {ik ln th m q te us sp bg fo le fi re ca : Int32} {fx fy nx ny ux uy px py : Int64} {f2 pf : Nat → Int32}  (g40 : G 40 = .inr (9, [.ref (ad 41), .ref (ad 42), .ref (ad 43), .int ik, .ref (ad 44), .int 4, .ref (ad 45), .int ln, .int th, .int m, .int q, .int te, .long fx, .long fy, .long nx, .long ny, .long ux, .long uy, .int us, .long px, .long py, .ref (ad 46), .ref (ad 47), .int sp, .int bg, .int fo, .int le, .int fi, .int re, .int ca])) (g42 : G 42 = .inl (L.ac 0, 60, .inl f2)) (g44 : G 44 = .inl (L.ac 0, 240, .inl pf))  : GM L yX9_records cX9_records 2 (none) rm_X9_recordsB 50 ad G [.ref (ad 40)] (fun vo G' => vo = none ∧ G' 40 = .inr (9, [.ref (ad 41), .ref (ad 42), .ref (ad 43), .int ik, .ref (ad 44), .int 4, .ref (ad 45), .int ln, .int th, .int m, .int q, .int te, .long fx, .long fy, .long nx, .long ny, .long ux, .long uy, .int us, .long px, .long py, .ref (ad 46), .ref (ad 47), .int sp, .int bg, .int fo, .int le, .int fi, .int re, .int ca]) ∧ G' 44 = .inl (L.ac 0, 240, .inl (cpK f2 0 (shK pf 180) 180 60)) ∧ Agr [40, 44] G G') := by
  refine GM.of (own := RX9) (lo := [(0, .ref (ad 40))]) (by decide +kernel) rfl rfl (Nat.le_of_ble_eq_true rfl) (fun E C hr => ?_)
  refine G_aload_n C 0 dX9_records_0 rfl rfl ?_
  refine G_get C 40 (by decide) g40 rfl inA9 5 (by decide) rfl kf_X9_40 rfl dX9_records_1 ?_
  refine G_iconst C (v := 4) dX9_records_4 (by decide) ?_
  refine G_icmp_ne C 48 dX9_records_5 (by decide) (fun h => absurd h (by decide)) (fun _ => ?_)
  refine G_iconst C (v := 0) dX9_records_8 (by decide) ?_
  refine GW.ren 44 (by decide) (t0 := 0) (shK pf 0) g44 (fun j _ => by simp [shK]) (fun gg1 hh2 aa3 => ?_)
  have AA4 : Agr [44] G gg1 := aa3.wk (by simp)
  refine G_istore_n C 1 (lo' := [(1, .int 0), (0, .ref (ad 40))]) dX9_records_9 rfl (by decide) rfl ?_
  have key10 : ∀ (n : Nat) (k : Nat) (G1 : Nat → va_E) (hf10_44 : G1 44 = .inl (L.ac 0, 240, .inl (shK pf k))) (ha10 : Agr [44] G G1) (hn : 180 - k < n) (hk : k ≤ 180), GW L E 50 ad G1 0 0 10 [(1, .int (nI k)), (0, .ref (ad 40))] [] := by
    intro n
    induction n with
    | zero =>
      intro k G1 hf10_44 ha10 hn hk
      exact absurd hn (Nat.not_lt_zero _)
    | succ n ih =>
      intro k G1 hf10_44 ha10 hn hk
      refine G_iload_n C 1 dX9_records_10 rfl rfl ?_
      refine G_sipush C (v := 180) dX9_records_11 (by decide) ?_
      refine G_icmp_ge C 38 dX9_records_14 (by decide) (fun c14 => ?_) (fun c14 => ?_)
      · have c14n : 180 ≤ k := (cI_le (a := 180) (b := k) rfl rfl (by omega) (by omega)).mp c14
        refine G_aload_n C 0 dX9_records_38 rfl rfl ?_
        refine G_dup C dX9_records_39 rfl ?_
        refine G_get C 40 (by decide) ((ha10 40 (by decide)).trans g40) rfl inA9 5 (by decide) rfl kf_X9_40 rfl dX9_records_40 ?_
        refine G_iconst C (v := 1) dX9_records_43 (by decide) ?_
        refine G_isub C dX9_records_44 ?_
        refine GW.topr (y := 3) (by decide) ?_
        refine G_putp C 40 (by decide) ((ha10 40 (by decide)).trans g40) rfl inA9 tyX9_ok nmX9 5 (by decide) rfl kf_X9_40 rfl rfl rfl (fs' := [.ref (ad 41), .ref (ad 42), .ref (ad 43), .int ik, .ref (ad 44), .int 3, .ref (ad 45), .int ln, .int th, .int m, .int q, .int te, .long fx, .long fy, .long nx, .long ny, .long ux, .long uy, .int us, .long px, .long py, .ref (ad 46), .ref (ad 47), .int sp, .int bg, .int fo, .int le, .int fi, .int re, .int ca]) (Nat.le_of_ble_eq_true rfl) rfl dX9_records_45 (fun gg5 hh6 aa7 => ?_)
        have AA8 : Agr [44, 40] G gg5 := ha10.tr aa7 (by simp) (by simp)
        refine G_aload_n C 0 dX9_records_48 rfl rfl ?_
        refine G_get C 40 (by decide) hh6 rfl inA9 1 (by decide) rfl kf_X9_13 rfl dX9_records_49 ?_
        refine G_iconst C (v := 0) dX9_records_52 (by decide) ?_
        refine G_aload_n C 0 dX9_records_53 rfl rfl ?_
        refine G_get C 40 (by decide) hh6 rfl inA9 4 (by decide) rfl kf_X9_19 rfl dX9_records_54 ?_
        refine G_bipush C (v := 60) dX9_records_57 (by decide) ?_
        refine G_aload_n C 0 dX9_records_59 rfl rfl ?_
        refine G_get C 40 (by decide) hh6 rfl inA9 5 (by decide) rfl kf_X9_40 rfl dX9_records_60 ?_
        refine G_imul C dX9_records_63 ?_
        refine GW.topr (y := 180) (by decide) ?_
        refine G_callS C (As := [.ref (ad 42), .int 0, .ref (ad 44), .int 180]) (rest := []) (c_X9_copies (at1 := 0) (by1 := 180) (by decide) (by decide) ((aa7 42 (by decide)).trans ((ha10 42 (by decide)).trans g42)) ((aa7 44 (by decide)).trans hf10_44) (by decide) (by omega) (by omega) (by omega) (by omega)) ca_X9_copies km_X9_36 rfl rfl (by decide) (Nat.le_of_ble_eq_true rfl) (by decide) dX9_records_64 (fun vv9 gg10 qq11 => ?_)
        obtain ⟨rfl, hh12, aa13⟩ := qq11
        have AA14 : Agr [44, 40] G gg10 := AA8.tr aa13 (by simp) (by simp)
        refine G_aload_n C 0 dX9_records_67 rfl rfl ?_
        refine G_dup C dX9_records_68 rfl ?_
        refine G_get C 40 (by decide) ((aa13 40 (by decide)).trans hh6) rfl inA9 5 (by decide) rfl kf_X9_40 rfl dX9_records_69 ?_
        refine G_iconst C (v := 1) dX9_records_72 (by decide) ?_
        refine G_iadd C dX9_records_73 ?_
        refine GW.topr (y := 4) (by decide) ?_
        refine G_putp C 40 (by decide) ((aa13 40 (by decide)).trans hh6) rfl inA9 tyX9_ok nmX9 5 (by decide) rfl kf_X9_40 rfl rfl rfl (fs' := [.ref (ad 41), .ref (ad 42), .ref (ad 43), .int ik, .ref (ad 44), .int 4, .ref (ad 45), .int ln, .int th, .int m, .int q, .int te, .long fx, .long fy, .long nx, .long ny, .long ux, .long uy, .int us, .long px, .long py, .ref (ad 46), .ref (ad 47), .int sp, .int bg, .int fo, .int le, .int fi, .int re, .int ca]) (Nat.le_of_ble_eq_true rfl) rfl dX9_records_74 (fun gg15 hh16 aa17 => ?_)
        have AA18 : Agr [44, 40] G gg15 := AA14.tr aa17 (by simp) (by simp)
        exact G_vret C hr dX9_records_77 ⟨rfl, hh16, (by rw [((aa17 44 (by decide)).trans hh12), show k = 180 by omega]), (AA18.wk (by simp))⟩
      · have c14n : ¬ 180 ≤ k := fun z => c14 ((cI_le (a := 180) (b := k) rfl rfl (by omega) (by omega)).mpr z)
        refine G_aload_n C 0 dX9_records_17 rfl rfl ?_
        refine G_get C 40 (by decide) ((ha10 40 (by decide)).trans g40) rfl inA9 4 (by decide) rfl kf_X9_19 rfl dX9_records_18 ?_
        refine G_iload_n C 1 dX9_records_21 rfl rfl ?_
        refine G_aload_n C 0 dX9_records_22 rfl rfl ?_
        refine G_get C 40 (by decide) ((ha10 40 (by decide)).trans g40) rfl inA9 4 (by decide) rfl kf_X9_19 rfl dX9_records_23 ?_
        refine G_iload_n C 1 dX9_records_26 rfl rfl ?_
        refine G_bipush C (v := 60) dX9_records_27 (by decide) ?_
        refine G_iadd C dX9_records_29 ?_
        refine GW.topr (cI_add (a := k) (b := 60) rfl rfl) ?_
        refine G_ialdN C 44 (by decide) (k + 60) hf10_44 rfl (by omega) (by omega) dX9_records_30 ?_
        refine G_iastN C 44 (by decide) k hf10_44 rfl (by omega) (by omega) dX9_records_31 (fun gg19 hh20 aa21 => ?_)
        have AA22 : Agr [44] G gg19 := ha10.tr aa21 (by simp) (by simp)
        refine GW.ren 44 (by decide) (t0 := 0) (shK pf (k + 1)) hh20 (fun j _ => shK_s j) (fun gg23 hh24 aa25 => ?_)
        have AA26 : Agr [44] G gg23 := AA22.tr aa25 (by simp) (by simp)
        refine G_iinc C (v := nI (k + 1)) (lo' := [(1, .int (nI (k + 1))), (0, .ref (ad 40))]) dX9_records_32 rfl (nI_add _ _) (by decide) rfl ?_
        refine G_goto C 10 dX9_records_35 (by decide) ?_
        exact ih (k + 1) gg23 hh24 AA26 (by omega) (by omega)
  exact key10 181 0 gg1 hh2 AA4 (by omega) (Nat.zero_le _)

set_option maxRecDepth 100000 in
set_option maxHeartbeats 4000000 in
theorem c_X9_records {L : GL} {ad : Nat → Nat} {G : Nat → va_E} (l : Int32) {ik ln th m q te us sp bg fo le fi re ca : Int32} {fx fy nx ny ux uy px py : Int64} {ml : Int32} {f : Nat → Int32} {pf : Nat → Int32} {hs : List HE} (g40 : G 40 = .inr (9, [.ref (ad 41), .ref (ad 42), .ref (ad 43), .int ik, .ref (ad 44), .int (nI hs.length), .ref (ad 45), .int ln, .int th, .int m, .int q, .int te, .long fx, .long fy, .long nx, .long ny, .long ux, .long uy, .int us, .long px, .long py, .ref (ad 46), .ref (ad 47), .int sp, .int bg, .int fo, .int le, .int fi, .int re, .int ca])) (g42 : G 42 = .inl (L.ac 0, 60, .inl (sv f ml))) (g44 : G 44 = .inl (L.ac 0, 240, .inl pf)) (hP : PastR pf hs) (h4 : hs.length ≤ 4) : GM L yX9_records cX9_records 2 (none) rm_X9_recordsA 50 ad G [.ref (ad 40)] (fun vo G' => ∃ (pf2 : Nat → Int32), vo = none ∧ (PastR pf2 (hpush hs (f, l, ml))) ∧ G' 40 = .inr (9, [.ref (ad 41), .ref (ad 42), .ref (ad 43), .int ik, .ref (ad 44), .int (nI (hpush hs (f, l, ml)).length), .ref (ad 45), .int ln, .int th, .int m, .int q, .int te, .long fx, .long fy, .long nx, .long ny, .long ux, .long uy, .int us, .long px, .long py, .ref (ad 46), .ref (ad 47), .int sp, .int bg, .int fo, .int le, .int fi, .int re, .int ca]) ∧ G' 44 = .inl (L.ac 0, 240, .inl pf2) ∧ Agr [40, 44] G G') := by
  by_cases z : hs.length < 4
  · refine GM.mono (c_X9_recordsA g40 g42 g44 z) (fun v G' hq => ?_)
    obtain ⟨rfl, w1, w2, w3⟩ := hq
    have e : hpush hs (f, l, ml) = hs ++ [(f, l, ml)] := by rw [hpush, if_pos z]
    exact ⟨_, rfl, e ▸ past_a hP (fun _ _ => rfl), by rw [w1, e, List.length_append]; rfl, w2, w3⟩
  · have z4 : hs.length = 4 := by omega
    refine GM.mono (c_X9_recordsB (by rw [g40, z4]; rfl) g42 g44) (fun v G' hq => ?_)
    obtain ⟨rfl, w1, w2, w3⟩ := hq
    have e : hpush hs (f, l, ml) = hs.drop 1 ++ [(f, l, ml)] := by rw [hpush, if_neg z]
    exact ⟨_, rfl, e ▸ past_b hP z4 (fun _ _ => rfl), by rw [w1, e, List.length_append, List.length_drop, z4]; rfl, w2, w3⟩
abbrev rm_X9_endsA : Room := ({ frames := 1, cells := 0, slots := 0, locals := 21 } : Room)
set_option maxRecDepth 100000 in
set_option maxHeartbeats 4000000 in
theorem c_X9_endsA {L : GL} {ad : Nat → Nat} {G : Nat → va_E} {ik kn ln th m q te us sp bg fo le fi re ca : Int32} {fx fy nx ny ux uy px py : Int64}  (g40 : G 40 = .inr (9, [.ref (ad 41), .ref (ad 42), .ref (ad 43), .int ik, .ref (ad 44), .int kn, .ref (ad 45), .int ln, .int th, .int m, .int q, .int te, .long fx, .long fy, .long nx, .long ny, .long ux, .long uy, .int us, .long px, .long py, .ref (ad 46), .ref (ad 47), .int sp, .int bg, .int fo, .int le, .int fi, .int re, .int ca]))  : GM L yX9_ends cX9_ends 2 ((some .int)) rm_X9_endsA 50 ad G [.ref (ad 40), .int (-11)] (fun vo G' => vo = some (.int 0) ∧ G' 40 = .inr (9, [.ref (ad 41), .ref (ad 42), .ref (ad 43), .int ik, .ref (ad 44), .int kn, .ref (ad 45), .int ln, .int 1, .int m, .int q, .int te, .long fx, .long fy, .long nx, .long ny, .long ux, .long uy, .int us, .long px, .long py, .ref (ad 46), .ref (ad 47), .int sp, .int bg, .int fo, .int le, .int fi, .int re, .int ca]) ∧ Agr [40] G G') := by
  refine GM.of (own := RX9) (lo := [(0, .ref (ad 40)), (1, .int (-11))]) (by decide +kernel) rfl rfl (Nat.le_of_ble_eq_true rfl) (fun E C hr => ?_)
  refine G_iload_n C 1 dX9_ends_0 rfl rfl ?_
  refine G_bipush C (v := (-11)) dX9_ends_1 (by decide) ?_
  refine G_icmp_ne C 12 dX9_ends_3 (by decide) (fun h => absurd h (by decide)) (fun _ => ?_)
  refine G_aload_n C 0 dX9_ends_6 rfl rfl ?_
  refine G_iconst C (v := 1) dX9_ends_7 (by decide) ?_
  refine G_callV C (As := [.int 1]) (rest := []) (c_X9_fails g40) ca_X9_fails km_X9_43 (by decide) g40 rfl rfl rfl rfl (by decide) (Nat.le_of_ble_eq_true rfl) (by decide) dX9_ends_8 (fun vv1 gg2 qq3 => ?_)
  obtain ⟨rfl, hh4, aa5⟩ := qq3
  have AA6 : Agr [40] G gg2 := aa5.wk (by simp)
  exact G_zret C hr rfl dX9_ends_11 ⟨rfl, hh4, AA6⟩

abbrev rm_X9_endsS : Room := ({ frames := 1, cells := 0, slots := 0, locals := 21 } : Room)
set_option maxRecDepth 100000 in
set_option maxHeartbeats 4000000 in
theorem c_X9_endsS {L : GL} {ad : Nat → Nat} {G : Nat → va_E} {ik kn ln th m q te us sp bg fo le fi re ca : Int32} {fx fy nx ny ux uy px py : Int64}  (g40 : G 40 = .inr (9, [.ref (ad 41), .ref (ad 42), .ref (ad 43), .int ik, .ref (ad 44), .int kn, .ref (ad 45), .int ln, .int th, .int m, .int q, .int te, .long fx, .long fy, .long nx, .long ny, .long ux, .long uy, .int us, .long px, .long py, .ref (ad 46), .ref (ad 47), .int sp, .int bg, .int fo, .int le, .int fi, .int re, .int ca]))  : GM L yX9_ends cX9_ends 2 ((some .int)) rm_X9_endsS 50 ad G [.ref (ad 40), .int (-12)] (fun vo G' => vo = some (.int 0) ∧ G' 40 = .inr (9, [.ref (ad 41), .ref (ad 42), .ref (ad 43), .int ik, .ref (ad 44), .int kn, .ref (ad 45), .int ln, .int 2, .int m, .int q, .int te, .long fx, .long fy, .long nx, .long ny, .long ux, .long uy, .int us, .long px, .long py, .ref (ad 46), .ref (ad 47), .int sp, .int bg, .int fo, .int le, .int fi, .int re, .int ca]) ∧ Agr [40] G G') := by
  refine GM.of (own := RX9) (lo := [(0, .ref (ad 40)), (1, .int (-12))]) (by decide +kernel) rfl rfl (Nat.le_of_ble_eq_true rfl) (fun E C hr => ?_)
  refine G_iload_n C 1 dX9_ends_0 rfl rfl ?_
  refine G_bipush C (v := (-11)) dX9_ends_1 (by decide) ?_
  refine G_icmp_ne C 12 dX9_ends_3 (by decide) (fun _ => ?_) (fun h => absurd h (by decide))
  refine G_iload_n C 1 dX9_ends_12 rfl rfl ?_
  refine G_bipush C (v := (-12)) dX9_ends_13 (by decide) ?_
  refine G_icmp_ne C 24 dX9_ends_15 (by decide) (fun h => absurd h (by decide)) (fun _ => ?_)
  refine G_aload_n C 0 dX9_ends_18 rfl rfl ?_
  refine G_iconst C (v := 2) dX9_ends_19 (by decide) ?_
  refine G_callV C (As := [.int 2]) (rest := []) (c_X9_fails g40) ca_X9_fails km_X9_43 (by decide) g40 rfl rfl rfl rfl (by decide) (Nat.le_of_ble_eq_true rfl) (by decide) dX9_ends_20 (fun vv1 gg2 qq3 => ?_)
  obtain ⟨rfl, hh4, aa5⟩ := qq3
  have AA6 : Agr [40] G gg2 := aa5.wk (by simp)
  exact G_zret C hr rfl dX9_ends_23 ⟨rfl, hh4, AA6⟩

abbrev rm_X9_endsR : Room := ({ frames := 2, cells := 0, slots := 0, locals := 45 } : Room)
set_option maxRecDepth 100000 in
set_option maxHeartbeats 4000000 in
theorem c_X9_endsR {L : GL} {ad : Nat → Nat} {G : Nat → va_E} {told : Int32} {l : Int32} {ik ln th m q te us sp bg fo le fi re ca : Int32} {fx fy nx ny ux uy px py : Int64} {ml : Int32} {f : Nat → Int32} {pf : Nat → Int32} {hs : List HE}  (g40 : G 40 = .inr (9, [.ref (ad 41), .ref (ad 42), .ref (ad 43), .int ik, .ref (ad 44), .int (nI hs.length), .ref (ad 45), .int ln, .int th, .int m, .int q, .int te, .long fx, .long fy, .long nx, .long ny, .long ux, .long uy, .int us, .long px, .long py, .ref (ad 46), .ref (ad 47), .int sp, .int bg, .int fo, .int le, .int fi, .int re, .int ca])) (g42 : G 42 = .inl (L.ac 0, 60, .inl (sv f ml))) (g44 : G 44 = .inl (L.ac 0, 240, .inl pf)) (hP : PastR pf hs) (h4 : hs.length ≤ 4) (hA : ¬ told = -11) (hB : ¬ told = -12) : GM L yX9_ends cX9_ends 2 ((some .int)) rm_X9_endsR 50 ad G [.ref (ad 40), .int told] (fun vo G' => ∃ (pf2 : Nat → Int32), vo = some (.int told) ∧ (PastR pf2 (hpush hs (f, l, ml))) ∧ G' 40 = .inr (9, [.ref (ad 41), .ref (ad 42), .ref (ad 43), .int ik, .ref (ad 44), .int (nI (hpush hs (f, l, ml)).length), .ref (ad 45), .int ln, .int th, .int m, .int q, .int te, .long fx, .long fy, .long nx, .long ny, .long ux, .long uy, .int us, .long px, .long py, .ref (ad 46), .ref (ad 47), .int sp, .int bg, .int fo, .int le, .int fi, .int re, .int ca]) ∧ G' 44 = .inl (L.ac 0, 240, .inl pf2) ∧ Agr [40, 44] G G') := by
  refine GM.of (own := RX9) (lo := [(0, .ref (ad 40)), (1, .int told)]) (by decide +kernel) rfl rfl (Nat.le_of_ble_eq_true rfl) (fun E C hr => ?_)
  refine G_iload_n C 1 dX9_ends_0 rfl rfl ?_
  refine G_bipush C (v := (-11)) dX9_ends_1 (by decide) ?_
  refine G_icmp_ne C 12 dX9_ends_3 (by decide) (fun c3 => ?_) (fun c3 => False.elim (hA c3))
  refine G_iload_n C 1 dX9_ends_12 rfl rfl ?_
  refine G_bipush C (v := (-12)) dX9_ends_13 (by decide) ?_
  refine G_icmp_ne C 24 dX9_ends_15 (by decide) (fun c15 => ?_) (fun c15 => False.elim (hB c15))
  refine G_aload_n C 0 dX9_ends_24 rfl rfl ?_
  refine G_callV C (As := []) (rest := []) (c_X9_records (l := l) g40 g42 g44 hP h4) ca_X9_records km_X9_47 (by decide) g40 rfl rfl rfl rfl (by decide) (Nat.le_of_ble_eq_true rfl) (by decide) dX9_ends_25 (fun vv1 gg2 qq3 => ?_)
  obtain ⟨pf_4, rfl, pp5, hh6, hh7, aa8⟩ := qq3
  have AA9 : Agr [40, 44] G gg2 := aa8.wk (by simp)
  refine G_iload_n C 1 dX9_ends_28 rfl rfl ?_
  exact G_zret C hr rfl dX9_ends_29 ⟨_, rfl, pp5, hh6, hh7, AA9⟩

abbrev rm_X9_layA : Room := ({ frames := 3, cells := 0, slots := 0, locals := 63 } : Room)
set_option maxRecDepth 100000 in
set_option maxHeartbeats 4000000 in
theorem c_X9_layA {L : GL} {ad : Nat → Nat} {G : Nat → va_E} {n : Int32} {ik kn ln th m q te us sp bg fo le fi re ca : Int32} {fx fy nx ny ux uy px py : Int64} {ml : Int32} {f : Nat → Int32} {f2 : Nat → Int32}  (g40 : G 40 = .inr (9, [.ref (ad 41), .ref (ad 42), .ref (ad 43), .int ik, .ref (ad 44), .int kn, .ref (ad 45), .int ln, .int th, .int m, .int q, .int te, .long fx, .long fy, .long nx, .long ny, .long ux, .long uy, .int us, .long px, .long py, .ref (ad 46), .ref (ad 47), .int sp, .int bg, .int fo, .int le, .int fi, .int re, .int ca])) (g41 : G 41 = .inl (L.ac 0, 60, .inl (sv f ml))) (g42 : G 42 = .inl (L.ac 0, 60, .inl f2)) (hn0 : numF n = 0) : GM L yX9_lay cX9_lay 2 ((some .int)) rm_X9_layA 50 ad G [.ref (ad 40), .int n] (fun vo G' => vo = some (.int 0) ∧ G' 40 = .inr (9, [.ref (ad 41), .ref (ad 42), .ref (ad 43), .int ik, .ref (ad 44), .int kn, .ref (ad 45), .int ln, .int 1, .int m, .int q, .int te, .long fx, .long fy, .long nx, .long ny, .long ux, .long uy, .int us, .long px, .long py, .ref (ad 46), .ref (ad 47), .int sp, .int bg, .int fo, .int le, .int fi, .int re, .int ca]) ∧ G' 42 = .inl (L.ac 0, 60, .inl (sv f ml)) ∧ Agr [40, 42] G G') := by
  refine GM.of (own := RX9) (lo := [(0, .ref (ad 40)), (1, .int n)]) (by decide +kernel) rfl rfl (Nat.le_of_ble_eq_true rfl) (fun E C hr => ?_)
  refine G_aload_n C 0 dX9_lay_0 rfl rfl ?_
  refine G_callV C (As := []) (rest := []) (c_X9_begins g40 g41 g42) ca_X9_begins km_X9_139 (by decide) g40 rfl rfl rfl rfl (by decide) (Nat.le_of_ble_eq_true rfl) (by decide) dX9_lay_1 (fun vv1 gg2 qq3 => ?_)
  obtain ⟨rfl, hh4, hh5, aa6⟩ := qq3
  have AA7 : Agr [40, 42] G gg2 := aa6.wk (by simp)
  refine G_aload_n C 0 dX9_lay_4 rfl rfl ?_
  refine G_aload_n C 0 dX9_lay_5 rfl rfl ?_
  refine G_iload_n C 1 dX9_lay_6 rfl rfl ?_
  refine G_callV C (As := [.int n]) (rest := [.ref (ad 40)]) (c_X9_goLayA hh4 ((aa6 41 (by decide)).trans g41) hn0) ca_X9_goLay km_X9_142 (by decide) hh4 rfl rfl rfl rfl (by decide) (Nat.le_of_ble_eq_true rfl) (by decide) dX9_lay_7 (fun vv8 gg9 qq10 => ?_)
  obtain ⟨rfl, rfl⟩ := qq10
  refine G_callV C (As := [.int (-11)]) (rest := []) (c_X9_endsA hh4) ca_X9_ends km_X9_145 (by decide) hh4 rfl rfl rfl rfl (by decide) (Nat.le_of_ble_eq_true rfl) (by decide) dX9_lay_10 (fun vv11 gg12 qq13 => ?_)
  obtain ⟨rfl, hh14, aa15⟩ := qq13
  have AA16 : Agr [40, 42] G gg12 := AA7.tr aa15 (by simp) (by simp)
  exact G_zret C hr rfl dX9_lay_13 ⟨rfl, hh14, ((aa15 42 (by decide)).trans hh5), AA16⟩

abbrev rm_X9_layS : Room := ({ frames := 4, cells := 0, slots := 0, locals := 85 } : Room)
set_option maxRecDepth 100000 in
set_option maxHeartbeats 4000000 in
theorem c_X9_layS {L : GL} {ad : Nat → Nat} {G : Nat → va_E} {d : Nat} {ik kn ln th m q te us sp bg fo le fi re ca : Int32} {fx fy nx ny ux uy px py : Int64} {ml : Int32} {f : Nat → Int32} {f2 : Nat → Int32}  (g40 : G 40 = .inr (9, [.ref (ad 41), .ref (ad 42), .ref (ad 43), .int ik, .ref (ad 44), .int kn, .ref (ad 45), .int ln, .int th, .int m, .int q, .int te, .long fx, .long fy, .long nx, .long ny, .long ux, .long uy, .int us, .long px, .long py, .ref (ad 46), .ref (ad 47), .int sp, .int bg, .int fo, .int le, .int fi, .int re, .int ca])) (g41 : G 41 = .inl (L.ac 0, 60, .inl (sv f ml))) (g42 : G 42 = .inl (L.ac 0, 60, .inl f2)) (h2 : 2 ≤ d) (h60 : d ≤ 60) (hro : ¬ rsF f d ≤ 0) : GM L yX9_lay cX9_lay 2 ((some .int)) rm_X9_layS 50 ad G [.ref (ad 40), .int (nI d)] (fun vo G' => vo = some (.int 0) ∧ G' 40 = .inr (9, [.ref (ad 41), .ref (ad 42), .ref (ad 43), .int ik, .ref (ad 44), .int kn, .ref (ad 45), .int ln, .int 2, .int m, .int q, .int te, .long fx, .long fy, .long nx, .long ny, .long ux, .long uy, .int us, .long px, .long py, .ref (ad 46), .ref (ad 47), .int sp, .int bg, .int fo, .int le, .int fi, .int re, .int ca]) ∧ G' 42 = .inl (L.ac 0, 60, .inl (sv f ml)) ∧ Agr [40, 42] G G') := by
  refine GM.of (own := RX9) (lo := [(0, .ref (ad 40)), (1, .int (nI d))]) (by decide +kernel) rfl rfl (Nat.le_of_ble_eq_true rfl) (fun E C hr => ?_)
  refine G_aload_n C 0 dX9_lay_0 rfl rfl ?_
  refine G_callV C (As := []) (rest := []) (c_X9_begins g40 g41 g42) ca_X9_begins km_X9_139 (by decide) g40 rfl rfl rfl rfl (by decide) (Nat.le_of_ble_eq_true rfl) (by decide) dX9_lay_1 (fun vv1 gg2 qq3 => ?_)
  obtain ⟨rfl, hh4, hh5, aa6⟩ := qq3
  have AA7 : Agr [40, 42] G gg2 := aa6.wk (by simp)
  refine G_aload_n C 0 dX9_lay_4 rfl rfl ?_
  refine G_aload_n C 0 dX9_lay_5 rfl rfl ?_
  refine G_iload_n C 1 dX9_lay_6 rfl rfl ?_
  refine G_callV C (As := [.int (nI d)]) (rest := [.ref (ad 40)]) (c_X9_goLayS hh4 ((aa6 41 (by decide)).trans g41) h2 h60 hro) ca_X9_goLay km_X9_142 (by decide) hh4 rfl rfl rfl rfl (by decide) (Nat.le_of_ble_eq_true rfl) (by decide) dX9_lay_7 (fun vv8 gg9 qq10 => ?_)
  obtain ⟨rfl, rfl⟩ := qq10
  refine G_callV C (As := [.int (-12)]) (rest := []) (c_X9_endsS hh4) ca_X9_ends km_X9_145 (by decide) hh4 rfl rfl rfl rfl (by decide) (Nat.le_of_ble_eq_true rfl) (by decide) dX9_lay_10 (fun vv11 gg12 qq13 => ?_)
  obtain ⟨rfl, hh14, aa15⟩ := qq13
  have AA16 : Agr [40, 42] G gg12 := AA7.tr aa15 (by simp) (by simp)
  exact G_zret C hr rfl dX9_lay_13 ⟨rfl, hh14, ((aa15 42 (by decide)).trans hh5), AA16⟩

abbrev rm_X9_takeA : Room := ({ frames := 3, cells := 0, slots := 0, locals := 64 } : Room)
set_option maxRecDepth 100000 in
set_option maxHeartbeats 4000000 in
theorem c_X9_takeA {L : GL} {ad : Nat → Nat} {G : Nat → va_E} {n : Int32} {ik kn ln th m q te us sp bg fo le fi re ca : Int32} {fx fy nx ny ux uy px py : Int64} {ml : Int32} {f : Nat → Int32} {f2 : Nat → Int32}  (g40 : G 40 = .inr (9, [.ref (ad 41), .ref (ad 42), .ref (ad 43), .int ik, .ref (ad 44), .int kn, .ref (ad 45), .int ln, .int th, .int m, .int q, .int te, .long fx, .long fy, .long nx, .long ny, .long ux, .long uy, .int us, .long px, .long py, .ref (ad 46), .ref (ad 47), .int sp, .int bg, .int fo, .int le, .int fi, .int re, .int ca])) (g41 : G 41 = .inl (L.ac 0, 60, .inl (sv f ml))) (g42 : G 42 = .inl (L.ac 0, 60, .inl f2)) (hn0 : numF n = 0) : GM L yX9_take cX9_take 2 ((some .int)) rm_X9_takeA 50 ad G [.ref (ad 40), .int n] (fun vo G' => vo = some (.int 0) ∧ G' 40 = .inr (9, [.ref (ad 41), .ref (ad 42), .ref (ad 43), .int ik, .ref (ad 44), .int kn, .ref (ad 45), .int ln, .int 1, .int m, .int q, .int te, .long fx, .long fy, .long nx, .long ny, .long ux, .long uy, .int us, .long px, .long py, .ref (ad 46), .ref (ad 47), .int sp, .int bg, .int fo, .int le, .int fi, .int re, .int ca]) ∧ G' 42 = .inl (L.ac 0, 60, .inl (sv f ml)) ∧ Agr [40, 42] G G') := by
  refine GM.of (own := RX9) (lo := [(0, .ref (ad 40)), (1, .int n)]) (by decide +kernel) rfl rfl (Nat.le_of_ble_eq_true rfl) (fun E C hr => ?_)
  refine G_aload_n C 0 dX9_take_0 rfl rfl ?_
  refine G_callV C (As := []) (rest := []) (c_X9_begins g40 g41 g42) ca_X9_begins km_X9_139 (by decide) g40 rfl rfl rfl rfl (by decide) (Nat.le_of_ble_eq_true rfl) (by decide) dX9_take_1 (fun vv1 gg2 qq3 => ?_)
  obtain ⟨rfl, hh4, hh5, aa6⟩ := qq3
  have AA7 : Agr [40, 42] G gg2 := aa6.wk (by simp)
  refine G_aload_n C 0 dX9_take_4 rfl rfl ?_
  refine G_aload_n C 0 dX9_take_5 rfl rfl ?_
  refine G_iload_n C 1 dX9_take_6 rfl rfl ?_
  refine G_callV C (As := [.int n]) (rest := [.ref (ad 40)]) (c_X9_goTakeA hh4 ((aa6 41 (by decide)).trans g41) hn0) ca_X9_goTake km_X9_148 (by decide) hh4 rfl rfl rfl rfl (by decide) (Nat.le_of_ble_eq_true rfl) (by decide) dX9_take_7 (fun vv8 gg9 qq10 => ?_)
  obtain ⟨rfl, rfl⟩ := qq10
  refine G_callV C (As := [.int (-11)]) (rest := []) (c_X9_endsA hh4) ca_X9_ends km_X9_145 (by decide) hh4 rfl rfl rfl rfl (by decide) (Nat.le_of_ble_eq_true rfl) (by decide) dX9_take_10 (fun vv11 gg12 qq13 => ?_)
  obtain ⟨rfl, hh14, aa15⟩ := qq13
  have AA16 : Agr [40, 42] G gg12 := AA7.tr aa15 (by simp) (by simp)
  exact G_zret C hr rfl dX9_take_13 ⟨rfl, hh14, ((aa15 42 (by decide)).trans hh5), AA16⟩

abbrev rm_X9_takeS : Room := ({ frames := 3, cells := 0, slots := 0, locals := 64 } : Room)
set_option maxRecDepth 100000 in
set_option maxHeartbeats 4000000 in
theorem c_X9_takeS {L : GL} {ad : Nat → Nat} {G : Nat → va_E} {d : Nat} {ik kn ln th m q te us sp bg fo le fi re ca : Int32} {fx fy nx ny ux uy px py : Int64} {ml : Int32} {f : Nat → Int32} {f2 : Nat → Int32}  (g40 : G 40 = .inr (9, [.ref (ad 41), .ref (ad 42), .ref (ad 43), .int ik, .ref (ad 44), .int kn, .ref (ad 45), .int ln, .int th, .int m, .int q, .int te, .long fx, .long fy, .long nx, .long ny, .long ux, .long uy, .int us, .long px, .long py, .ref (ad 46), .ref (ad 47), .int sp, .int bg, .int fo, .int le, .int fi, .int re, .int ca])) (g41 : G 41 = .inl (L.ac 0, 60, .inl (sv f ml))) (g42 : G 42 = .inl (L.ac 0, 60, .inl f2)) (h2 : 2 ≤ d) (h60 : d ≤ 60) (hro : f d < 0) : GM L yX9_take cX9_take 2 ((some .int)) rm_X9_takeS 50 ad G [.ref (ad 40), .int (nI d)] (fun vo G' => vo = some (.int 0) ∧ G' 40 = .inr (9, [.ref (ad 41), .ref (ad 42), .ref (ad 43), .int ik, .ref (ad 44), .int kn, .ref (ad 45), .int ln, .int 2, .int m, .int q, .int te, .long fx, .long fy, .long nx, .long ny, .long ux, .long uy, .int us, .long px, .long py, .ref (ad 46), .ref (ad 47), .int sp, .int bg, .int fo, .int le, .int fi, .int re, .int ca]) ∧ G' 42 = .inl (L.ac 0, 60, .inl (sv f ml)) ∧ Agr [40, 42] G G') := by
  refine GM.of (own := RX9) (lo := [(0, .ref (ad 40)), (1, .int (nI d))]) (by decide +kernel) rfl rfl (Nat.le_of_ble_eq_true rfl) (fun E C hr => ?_)
  refine G_aload_n C 0 dX9_take_0 rfl rfl ?_
  refine G_callV C (As := []) (rest := []) (c_X9_begins g40 g41 g42) ca_X9_begins km_X9_139 (by decide) g40 rfl rfl rfl rfl (by decide) (Nat.le_of_ble_eq_true rfl) (by decide) dX9_take_1 (fun vv1 gg2 qq3 => ?_)
  obtain ⟨rfl, hh4, hh5, aa6⟩ := qq3
  have AA7 : Agr [40, 42] G gg2 := aa6.wk (by simp)
  refine G_aload_n C 0 dX9_take_4 rfl rfl ?_
  refine G_aload_n C 0 dX9_take_5 rfl rfl ?_
  refine G_iload_n C 1 dX9_take_6 rfl rfl ?_
  refine G_callV C (As := [.int (nI d)]) (rest := [.ref (ad 40)]) (c_X9_goTakeS hh4 ((aa6 41 (by decide)).trans g41) h2 h60 hro) ca_X9_goTake km_X9_148 (by decide) hh4 rfl rfl rfl rfl (by decide) (Nat.le_of_ble_eq_true rfl) (by decide) dX9_take_7 (fun vv8 gg9 qq10 => ?_)
  obtain ⟨rfl, rfl⟩ := qq10
  refine G_callV C (As := [.int (-12)]) (rest := []) (c_X9_endsS hh4) ca_X9_ends km_X9_145 (by decide) hh4 rfl rfl rfl rfl (by decide) (Nat.le_of_ble_eq_true rfl) (by decide) dX9_take_10 (fun vv11 gg12 qq13 => ?_)
  obtain ⟨rfl, hh14, aa15⟩ := qq13
  have AA16 : Agr [40, 42] G gg12 := AA7.tr aa15 (by simp) (by simp)
  exact G_zret C hr rfl dX9_take_13 ⟨rfl, hh14, ((aa15 42 (by decide)).trans hh5), AA16⟩

abbrev rm_X9_layR : Room := ({ frames := 4, cells := 0, slots := 0, locals := 85 } : Room)
set_option maxRecDepth 100000 in
set_option maxHeartbeats 4000000 in
theorem c_X9_layR {L : GL} {ad : Nat → Nat} {G : Nat → va_E} {d : Nat} {l : Int32} {ik ln th m q te us sp bg fo le fi re ca : Int32} {fx fy nx ny ux uy px py : Int64} {ml : Int32} {f : Nat → Int32} {f2 : Nat → Int32} {pf : Nat → Int32} {hs : List HE}  (g40 : G 40 = .inr (9, [.ref (ad 41), .ref (ad 42), .ref (ad 43), .int ik, .ref (ad 44), .int (nI hs.length), .ref (ad 45), .int ln, .int th, .int m, .int q, .int te, .long fx, .long fy, .long nx, .long ny, .long ux, .long uy, .int us, .long px, .long py, .ref (ad 46), .ref (ad 47), .int sp, .int bg, .int fo, .int le, .int fi, .int re, .int ca])) (g41 : G 41 = .inl (L.ac 0, 60, .inl (sv f ml))) (g42 : G 42 = .inl (L.ac 0, 60, .inl f2)) (g44 : G 44 = .inl (L.ac 0, 240, .inl pf)) (h2 : 2 ≤ d) (h60 : d ≤ 60) (hro : rsF f d ≤ 0) (hP : PastR pf hs) (h4 : hs.length ≤ 4) : GM L yX9_lay cX9_lay 2 ((some .int)) rm_X9_layR 50 ad G [.ref (ad 40), .int (nI d)] (fun vo G' => ∃ (pf2 : Nat → Int32), vo = some (.int (manyF (upd f d 0) 59)) ∧ (PastR pf2 (hpush hs (f, l, ml))) ∧ G' 40 = .inr (9, [.ref (ad 41), .ref (ad 42), .ref (ad 43), .int ik, .ref (ad 44), .int (nI (hpush hs (f, l, ml)).length), .ref (ad 45), .int ln, .int 0, .int m, .int q, .int te, .long fx, .long fy, .long nx, .long ny, .long ux, .long uy, .int us, .long px, .long py, .ref (ad 46), .ref (ad 47), .int sp, .int bg, .int fo, .int le, .int fi, .int re, .int ca]) ∧ G' 41 = .inl (L.ac 0, 60, .inl (sv (upd f d 0) ml)) ∧ G' 42 = .inl (L.ac 0, 60, .inl (sv f ml)) ∧ G' 44 = .inl (L.ac 0, 240, .inl pf2) ∧ Agr [40, 41, 42, 44] G G') := by
  refine GM.of (own := RX9) (lo := [(0, .ref (ad 40)), (1, .int (nI d))]) (by decide +kernel) rfl rfl (Nat.le_of_ble_eq_true rfl) (fun E C hr => ?_)
  refine G_aload_n C 0 dX9_lay_0 rfl rfl ?_
  refine G_callV C (As := []) (rest := []) (c_X9_begins g40 g41 g42) ca_X9_begins km_X9_139 (by decide) g40 rfl rfl rfl rfl (by decide) (Nat.le_of_ble_eq_true rfl) (by decide) dX9_lay_1 (fun vv1 gg2 qq3 => ?_)
  obtain ⟨rfl, hh4, hh5, aa6⟩ := qq3
  have AA7 : Agr [40, 42] G gg2 := aa6.wk (by simp)
  refine G_aload_n C 0 dX9_lay_4 rfl rfl ?_
  refine G_aload_n C 0 dX9_lay_5 rfl rfl ?_
  refine G_iload_n C 1 dX9_lay_6 rfl rfl ?_
  refine G_callV C (As := [.int (nI d)]) (rest := [.ref (ad 40)]) (c_X9_goLayR hh4 ((aa6 41 (by decide)).trans g41) h2 h60 hro) ca_X9_goLay km_X9_142 (by decide) hh4 rfl rfl rfl rfl (by decide) (Nat.le_of_ble_eq_true rfl) (by decide) dX9_lay_7 (fun vv8 gg9 qq10 => ?_)
  obtain ⟨rfl, hh11, aa12⟩ := qq10
  have AA13 : Agr [40, 42, 41] G gg9 := AA7.tr aa12 (by simp) (by simp)
  refine G_callV C (As := [.int (manyF (upd f d 0) 59)]) (rest := []) (c_X9_endsR (l := l) ((aa12 40 (by decide)).trans hh4) ((aa12 42 (by decide)).trans hh5) ((aa12 44 (by decide)).trans ((aa6 44 (by decide)).trans g44)) hP h4 ((many_ng _).1) ((many_ng _).2)) ca_X9_ends km_X9_145 (by decide) ((aa12 40 (by decide)).trans hh4) rfl rfl rfl rfl (by decide) (Nat.le_of_ble_eq_true rfl) (by decide) dX9_lay_10 (fun vv14 gg15 qq16 => ?_)
  obtain ⟨pf_17, rfl, pp18, hh19, hh20, aa21⟩ := qq16
  have AA22 : Agr [40, 42, 41, 44] G gg15 := AA13.tr aa21 (by simp) (by simp)
  exact G_zret C hr rfl dX9_lay_13 ⟨_, rfl, pp18, hh19, ((aa21 41 (by decide)).trans hh11), ((aa21 42 (by decide)).trans ((aa12 42 (by decide)).trans hh5)), hh20, (AA22.wk (by simp))⟩

abbrev rm_X9_takeR : Room := ({ frames := 3, cells := 0, slots := 0, locals := 66 } : Room)
set_option maxRecDepth 100000 in
set_option maxHeartbeats 4000000 in
theorem c_X9_takeR {L : GL} {ad : Nat → Nat} {G : Nat → va_E} {d h : Nat} {l : Int32} {ik ln th m q te us sp bg fo le fi re ca : Int32} {fx fy nx ny ux uy px py : Int64} {ml : Int32} {f : Nat → Int32} {f2 : Nat → Int32} {pf : Nat → Int32} {hs : List HE}  (g40 : G 40 = .inr (9, [.ref (ad 41), .ref (ad 42), .ref (ad 43), .int ik, .ref (ad 44), .int (nI hs.length), .ref (ad 45), .int ln, .int th, .int m, .int q, .int te, .long fx, .long fy, .long nx, .long ny, .long ux, .long uy, .int us, .long px, .long py, .ref (ad 46), .ref (ad 47), .int sp, .int bg, .int fo, .int le, .int fi, .int re, .int ca])) (g41 : G 41 = .inl (L.ac 0, 60, .inl (sv f ml))) (g42 : G 42 = .inl (L.ac 0, 60, .inl f2)) (g44 : G 44 = .inl (L.ac 0, 240, .inl pf)) (h2 : 2 ≤ d) (h60 : d ≤ 60) (hg : h ≤ gpn d) (hf : f d = nI h) (hP : PastR pf hs) (h4 : hs.length ≤ 4) : GM L yX9_take cX9_take 2 ((some .int)) rm_X9_takeR 50 ad G [.ref (ad 40), .int (nI d)] (fun vo G' => ∃ (pf2 : Nat → Int32), vo = some (.int (f d)) ∧ (PastR pf2 (hpush hs (f, l, ml))) ∧ G' 40 = .inr (9, [.ref (ad 41), .ref (ad 42), .ref (ad 43), .int ik, .ref (ad 44), .int (nI (hpush hs (f, l, ml)).length), .ref (ad 45), .int ln, .int 0, .int m, .int q, .int te, .long fx, .long fy, .long nx, .long ny, .long ux, .long uy, .int us, .long px, .long py, .ref (ad 46), .ref (ad 47), .int sp, .int bg, .int fo, .int le, .int fi, .int re, .int ca]) ∧ G' 41 = .inl (L.ac 0, 60, .inl (sv (upd f d (-1)) ml)) ∧ G' 42 = .inl (L.ac 0, 60, .inl (sv f ml)) ∧ G' 44 = .inl (L.ac 0, 240, .inl pf2) ∧ Agr [40, 41, 42, 44] G G') := by
  refine GM.of (own := RX9) (lo := [(0, .ref (ad 40)), (1, .int (nI d))]) (by decide +kernel) rfl rfl (Nat.le_of_ble_eq_true rfl) (fun E C hr => ?_)
  have h39 := gp_lt d (by omega)
  have hro : 0 ≤ f d := by rw [hf]; exact nI_pos' (by omega)
  have hA : ¬ f d = -11 ∧ ¬ f d = -12 := by rw [hf]; exact ng2 (by omega)
  refine G_aload_n C 0 dX9_take_0 rfl rfl ?_
  refine G_callV C (As := []) (rest := []) (c_X9_begins g40 g41 g42) ca_X9_begins km_X9_139 (by decide) g40 rfl rfl rfl rfl (by decide) (Nat.le_of_ble_eq_true rfl) (by decide) dX9_take_1 (fun vv1 gg2 qq3 => ?_)
  obtain ⟨rfl, hh4, hh5, aa6⟩ := qq3
  have AA7 : Agr [40, 42] G gg2 := aa6.wk (by simp)
  refine G_aload_n C 0 dX9_take_4 rfl rfl ?_
  refine G_aload_n C 0 dX9_take_5 rfl rfl ?_
  refine G_iload_n C 1 dX9_take_6 rfl rfl ?_
  refine G_callV C (As := [.int (nI d)]) (rest := [.ref (ad 40)]) (c_X9_goTakeR hh4 ((aa6 41 (by decide)).trans g41) h2 h60 hro) ca_X9_goTake km_X9_148 (by decide) hh4 rfl rfl rfl rfl (by decide) (Nat.le_of_ble_eq_true rfl) (by decide) dX9_take_7 (fun vv8 gg9 qq10 => ?_)
  obtain ⟨rfl, hh11, aa12⟩ := qq10
  have AA13 : Agr [40, 42, 41] G gg9 := AA7.tr aa12 (by simp) (by simp)
  refine G_callV C (As := [.int (f d)]) (rest := []) (c_X9_endsR (l := l) ((aa12 40 (by decide)).trans hh4) ((aa12 42 (by decide)).trans hh5) ((aa12 44 (by decide)).trans ((aa6 44 (by decide)).trans g44)) hP h4 hA.1 hA.2) ca_X9_ends km_X9_145 (by decide) ((aa12 40 (by decide)).trans hh4) rfl rfl rfl rfl (by decide) (Nat.le_of_ble_eq_true rfl) (by decide) dX9_take_10 (fun vv14 gg15 qq16 => ?_)
  obtain ⟨pf_17, rfl, pp18, hh19, hh20, aa21⟩ := qq16
  have AA22 : Agr [40, 42, 41, 44] G gg15 := AA13.tr aa21 (by simp) (by simp)
  exact G_zret C hr rfl dX9_take_13 ⟨_, rfl, pp18, hh19, ((aa21 41 (by decide)).trans hh11), ((aa21 42 (by decide)).trans ((aa12 42 (by decide)).trans hh5)), hh20, (AA22.wk (by simp))⟩

abbrev rm_X9_millA : Room := ({ frames := 3, cells := 0, slots := 0, locals := 64 } : Room)
set_option maxRecDepth 100000 in
set_option maxHeartbeats 4000000 in
theorem c_X9_millA {L : GL} {ad : Nat → Nat} {G : Nat → va_E} {n : Int32} {ik kn ln th m q te us sp bg fo le fi re ca : Int32} {fx fy nx ny ux uy px py : Int64} {ml : Int32} {f : Nat → Int32} {f2 : Nat → Int32}  (g40 : G 40 = .inr (9, [.ref (ad 41), .ref (ad 42), .ref (ad 43), .int ik, .ref (ad 44), .int kn, .ref (ad 45), .int ln, .int th, .int m, .int q, .int te, .long fx, .long fy, .long nx, .long ny, .long ux, .long uy, .int us, .long px, .long py, .ref (ad 46), .ref (ad 47), .int sp, .int bg, .int fo, .int le, .int fi, .int re, .int ca])) (g41 : G 41 = .inl (L.ac 0, 60, .inl (sv f ml))) (g42 : G 42 = .inl (L.ac 0, 60, .inl f2)) (hn0 : numF n = 0) : GM L yX9_mill cX9_mill 3 ((some .long)) rm_X9_millA 50 ad G [.ref (ad 40), .int n] (fun vo G' => vo = some (.long 0) ∧ G' 40 = .inr (9, [.ref (ad 41), .ref (ad 42), .ref (ad 43), .int ik, .ref (ad 44), .int kn, .ref (ad 45), .int ln, .int 1, .int m, .int q, .int te, .long fx, .long fy, .long nx, .long ny, .long ux, .long uy, .int us, .long px, .long py, .ref (ad 46), .ref (ad 47), .int sp, .int bg, .int fo, .int le, .int fi, .int re, .int ca]) ∧ G' 42 = .inl (L.ac 0, 60, .inl (sv f ml)) ∧ Agr [40, 42] G G') := by
  refine GM.of (own := RX9) (lo := [(0, .ref (ad 40)), (1, .int n)]) (by decide +kernel) rfl rfl (Nat.le_of_ble_eq_true rfl) (fun E C hr => ?_)
  refine G_aload_n C 0 dX9_mill_0 rfl rfl ?_
  refine G_callV C (As := []) (rest := []) (c_X9_begins g40 g41 g42) ca_X9_begins km_X9_139 (by decide) g40 rfl rfl rfl rfl (by decide) (Nat.le_of_ble_eq_true rfl) (by decide) dX9_mill_1 (fun vv1 gg2 qq3 => ?_)
  obtain ⟨rfl, hh4, hh5, aa6⟩ := qq3
  have AA7 : Agr [40, 42] G gg2 := aa6.wk (by simp)
  refine G_aload_n C 0 dX9_mill_4 rfl rfl ?_
  refine G_aload_n C 0 dX9_mill_5 rfl rfl ?_
  refine G_iload_n C 1 dX9_mill_6 rfl rfl ?_
  refine G_callV C (As := [.int n]) (rest := [.ref (ad 40)]) (c_X9_goMillA hh4 ((aa6 41 (by decide)).trans g41) hn0) ca_X9_goMill km_X9_151 (by decide) hh4 rfl rfl rfl rfl (by decide) (Nat.le_of_ble_eq_true rfl) (by decide) dX9_mill_7 (fun vv8 gg9 qq10 => ?_)
  obtain ⟨rfl, rfl⟩ := qq10
  refine G_callV C (As := [.int (-11)]) (rest := []) (c_X9_endsA hh4) ca_X9_ends km_X9_145 (by decide) hh4 rfl rfl rfl rfl (by decide) (Nat.le_of_ble_eq_true rfl) (by decide) dX9_mill_10 (fun vv11 gg12 qq13 => ?_)
  obtain ⟨rfl, hh14, aa15⟩ := qq13
  have AA16 : Agr [40, 42] G gg12 := AA7.tr aa15 (by simp) (by simp)
  refine G_istore_n C 2 (lo' := [(2, .int 0), (0, .ref (ad 40)), (1, .int n)]) dX9_mill_13 rfl (by decide) rfl ?_
  refine G_aload_n C 0 dX9_mill_14 rfl rfl ?_
  refine G_get C 40 (by decide) hh14 rfl inA9 8 (by decide) rfl kf_X9_32 rfl dX9_mill_15 ?_
  refine G_if_le C 26 dX9_mill_18 (by decide) (fun h => absurd h (by decide)) (fun _ => ?_)
  refine G_iload_n C 2 dX9_mill_21 rfl rfl ?_
  refine G_i2l C (v := 0) dX9_mill_22 (by decide) ?_
  refine G_goto C 30 dX9_mill_23 (by decide) ?_
  exact G_lret C hr dX9_mill_30 ⟨rfl, hh14, ((aa15 42 (by decide)).trans hh5), AA16⟩

abbrev rm_X9_millBackA : Room := ({ frames := 3, cells := 0, slots := 0, locals := 64 } : Room)
set_option maxRecDepth 100000 in
set_option maxHeartbeats 4000000 in
theorem c_X9_millBackA {L : GL} {ad : Nat → Nat} {G : Nat → va_E} {n : Int32} {ik kn ln th m q te us sp bg fo le fi re ca : Int32} {fx fy nx ny ux uy px py : Int64} {ml : Int32} {f : Nat → Int32} {f2 : Nat → Int32}  (g40 : G 40 = .inr (9, [.ref (ad 41), .ref (ad 42), .ref (ad 43), .int ik, .ref (ad 44), .int kn, .ref (ad 45), .int ln, .int th, .int m, .int q, .int te, .long fx, .long fy, .long nx, .long ny, .long ux, .long uy, .int us, .long px, .long py, .ref (ad 46), .ref (ad 47), .int sp, .int bg, .int fo, .int le, .int fi, .int re, .int ca])) (g41 : G 41 = .inl (L.ac 0, 60, .inl (sv f ml))) (g42 : G 42 = .inl (L.ac 0, 60, .inl f2)) (hn0 : numF n = 0) : GM L yX9_millBack cX9_millBack 3 ((some .long)) rm_X9_millBackA 50 ad G [.ref (ad 40), .int n] (fun vo G' => vo = some (.long 0) ∧ G' 40 = .inr (9, [.ref (ad 41), .ref (ad 42), .ref (ad 43), .int ik, .ref (ad 44), .int kn, .ref (ad 45), .int ln, .int 1, .int m, .int q, .int te, .long fx, .long fy, .long nx, .long ny, .long ux, .long uy, .int us, .long px, .long py, .ref (ad 46), .ref (ad 47), .int sp, .int bg, .int fo, .int le, .int fi, .int re, .int ca]) ∧ G' 42 = .inl (L.ac 0, 60, .inl (sv f ml)) ∧ Agr [40, 42] G G') := by
  refine GM.of (own := RX9) (lo := [(0, .ref (ad 40)), (1, .int n)]) (by decide +kernel) rfl rfl (Nat.le_of_ble_eq_true rfl) (fun E C hr => ?_)
  refine G_aload_n C 0 dX9_millBack_0 rfl rfl ?_
  refine G_callV C (As := []) (rest := []) (c_X9_begins g40 g41 g42) ca_X9_begins km_X9_139 (by decide) g40 rfl rfl rfl rfl (by decide) (Nat.le_of_ble_eq_true rfl) (by decide) dX9_millBack_1 (fun vv1 gg2 qq3 => ?_)
  obtain ⟨rfl, hh4, hh5, aa6⟩ := qq3
  have AA7 : Agr [40, 42] G gg2 := aa6.wk (by simp)
  refine G_aload_n C 0 dX9_millBack_4 rfl rfl ?_
  refine G_aload_n C 0 dX9_millBack_5 rfl rfl ?_
  refine G_iload_n C 1 dX9_millBack_6 rfl rfl ?_
  refine G_callV C (As := [.int n]) (rest := [.ref (ad 40)]) (c_X9_goBackwardA hh4 ((aa6 41 (by decide)).trans g41) hn0) ca_X9_goBackward km_X9_154 (by decide) hh4 rfl rfl rfl rfl (by decide) (Nat.le_of_ble_eq_true rfl) (by decide) dX9_millBack_7 (fun vv8 gg9 qq10 => ?_)
  obtain ⟨rfl, rfl⟩ := qq10
  refine G_callV C (As := [.int (-11)]) (rest := []) (c_X9_endsA hh4) ca_X9_ends km_X9_145 (by decide) hh4 rfl rfl rfl rfl (by decide) (Nat.le_of_ble_eq_true rfl) (by decide) dX9_millBack_10 (fun vv11 gg12 qq13 => ?_)
  obtain ⟨rfl, hh14, aa15⟩ := qq13
  have AA16 : Agr [40, 42] G gg12 := AA7.tr aa15 (by simp) (by simp)
  refine G_istore_n C 2 (lo' := [(2, .int 0), (0, .ref (ad 40)), (1, .int n)]) dX9_millBack_13 rfl (by decide) rfl ?_
  refine G_aload_n C 0 dX9_millBack_14 rfl rfl ?_
  refine G_get C 40 (by decide) hh14 rfl inA9 8 (by decide) rfl kf_X9_32 rfl dX9_millBack_15 ?_
  refine G_if_le C 26 dX9_millBack_18 (by decide) (fun h => absurd h (by decide)) (fun _ => ?_)
  refine G_iload_n C 2 dX9_millBack_21 rfl rfl ?_
  refine G_i2l C (v := 0) dX9_millBack_22 (by decide) ?_
  refine G_goto C 30 dX9_millBack_23 (by decide) ?_
  exact G_lret C hr dX9_millBack_30 ⟨rfl, hh14, ((aa15 42 (by decide)).trans hh5), AA16⟩

abbrev rm_X9_millS1 : Room := ({ frames := 3, cells := 0, slots := 0, locals := 64 } : Room)
set_option maxRecDepth 100000 in
set_option maxHeartbeats 4000000 in
theorem c_X9_millS1 {L : GL} {ad : Nat → Nat} {G : Nat → va_E} {d : Nat} {ik kn ln th m q te us sp bg fo le fi re ca : Int32} {fx fy nx ny ux uy px py : Int64} {ml : Int32} {f : Nat → Int32} {f2 : Nat → Int32}  (g40 : G 40 = .inr (9, [.ref (ad 41), .ref (ad 42), .ref (ad 43), .int ik, .ref (ad 44), .int kn, .ref (ad 45), .int ln, .int th, .int m, .int q, .int te, .long fx, .long fy, .long nx, .long ny, .long ux, .long uy, .int us, .long px, .long py, .ref (ad 46), .ref (ad 47), .int sp, .int bg, .int fo, .int le, .int fi, .int re, .int ca])) (g41 : G 41 = .inl (L.ac 0, 60, .inl (sv f ml))) (g42 : G 42 = .inl (L.ac 0, 60, .inl f2)) (h2 : 2 ≤ d) (h60 : d ≤ 60) (hro : f d < 0) : GM L yX9_mill cX9_mill 3 ((some .long)) rm_X9_millS1 50 ad G [.ref (ad 40), .int (nI d)] (fun vo G' => ∃ (j1 : Int32) (j2 : Int32) (j3 : Int32) (j4 : Int64) (j5 : Int64) (j6 : Int64) (j7 : Int64) (u1 : Int64) (u2 : Int64) (u3 : Int32) (p1 : Int64) (p2 : Int64), vo = some (.long 0) ∧ G' 40 = .inr (9, [.ref (ad 41), .ref (ad 42), .ref (ad 43), .int ik, .ref (ad 44), .int kn, .ref (ad 45), .int ln, .int 2, .int j1, .int j2, .int j3, .long j4, .long j5, .long j6, .long j7, .long u1, .long u2, .int u3, .long p1, .long p2, .ref (ad 46), .ref (ad 47), .int sp, .int bg, .int fo, .int le, .int fi, .int re, .int ca]) ∧ G' 42 = .inl (L.ac 0, 60, .inl (sv f ml)) ∧ Agr [40, 42] G G') := by
  refine GM.of (own := RX9) (lo := [(0, .ref (ad 40)), (1, .int (nI d))]) (by decide +kernel) rfl rfl (Nat.le_of_ble_eq_true rfl) (fun E C hr => ?_)
  refine G_aload_n C 0 dX9_mill_0 rfl rfl ?_
  refine G_callV C (As := []) (rest := []) (c_X9_begins g40 g41 g42) ca_X9_begins km_X9_139 (by decide) g40 rfl rfl rfl rfl (by decide) (Nat.le_of_ble_eq_true rfl) (by decide) dX9_mill_1 (fun vv1 gg2 qq3 => ?_)
  obtain ⟨rfl, hh4, hh5, aa6⟩ := qq3
  have AA7 : Agr [40, 42] G gg2 := aa6.wk (by simp)
  refine G_aload_n C 0 dX9_mill_4 rfl rfl ?_
  refine G_aload_n C 0 dX9_mill_5 rfl rfl ?_
  refine G_iload_n C 1 dX9_mill_6 rfl rfl ?_
  refine G_callV C (As := [.int (nI d)]) (rest := [.ref (ad 40)]) (c_X9_goMillS1 hh4 ((aa6 41 (by decide)).trans g41) h2 h60 hro) ca_X9_goMill km_X9_151 (by decide) hh4 rfl rfl rfl rfl (by decide) (Nat.le_of_ble_eq_true rfl) (by decide) dX9_mill_7 (fun vv8 gg9 qq10 => ?_)
  obtain ⟨j_11, j_12, j_13, j_14, j_15, j_16, j_17, u_18, u_19, u_20, p_21, p_22, rfl, hh23, aa24⟩ := qq10
  have AA25 : Agr [40, 42] G gg9 := AA7.tr aa24 (by simp) (by simp)
  refine G_callV C (As := [.int (-12)]) (rest := []) (c_X9_endsS hh23) ca_X9_ends km_X9_145 (by decide) hh23 rfl rfl rfl rfl (by decide) (Nat.le_of_ble_eq_true rfl) (by decide) dX9_mill_10 (fun vv26 gg27 qq28 => ?_)
  obtain ⟨rfl, hh29, aa30⟩ := qq28
  have AA31 : Agr [40, 42] G gg27 := AA25.tr aa30 (by simp) (by simp)
  refine G_istore_n C 2 (lo' := [(2, .int 0), (0, .ref (ad 40)), (1, .int (nI d))]) dX9_mill_13 rfl (by decide) rfl ?_
  refine G_aload_n C 0 dX9_mill_14 rfl rfl ?_
  refine G_get C 40 (by decide) hh29 rfl inA9 8 (by decide) rfl kf_X9_32 rfl dX9_mill_15 ?_
  refine G_if_le C 26 dX9_mill_18 (by decide) (fun h => absurd h (by decide)) (fun _ => ?_)
  refine G_iload_n C 2 dX9_mill_21 rfl rfl ?_
  refine G_i2l C (v := 0) dX9_mill_22 (by decide) ?_
  refine G_goto C 30 dX9_mill_23 (by decide) ?_
  exact G_lret C hr dX9_mill_30 ⟨_, _, _, _, _, _, _, _, _, _, _, _, rfl, hh29, ((aa30 42 (by decide)).trans ((aa24 42 (by decide)).trans hh5)), AA31⟩

abbrev rm_X9_millS2 : Room := ({ frames := 6, cells := 0, slots := 0, locals := 130 } : Room)
set_option maxRecDepth 100000 in
set_option maxHeartbeats 4000000 in
theorem c_X9_millS2 {L : GL} {ad : Nat → Nat} {G : Nat → va_E} {d h : Nat} {ik kn ln th m q te us sp bg fo le fi re ca : Int32} {fx fy nx ny ux uy px py : Int64} {ml : Int32} {f : Nat → Int32} {f2 : Nat → Int32}  (g40 : G 40 = .inr (9, [.ref (ad 41), .ref (ad 42), .ref (ad 43), .int ik, .ref (ad 44), .int kn, .ref (ad 45), .int ln, .int th, .int m, .int q, .int te, .long fx, .long fy, .long nx, .long ny, .long ux, .long uy, .int us, .long px, .long py, .ref (ad 46), .ref (ad 47), .int sp, .int bg, .int fo, .int le, .int fi, .int re, .int ca])) (g41 : G 41 = .inl (L.ac 0, 60, .inl (sv f ml))) (g42 : G 42 = .inl (L.ac 0, 60, .inl f2)) (h2 : 2 ≤ d) (h60 : d ≤ 60) (hp : pern d ≠ 0) (hg : h ≤ gpn d) (hf : f d = nI h) (hro : ¬ h < gpn d) : GM L yX9_mill cX9_mill 3 ((some .long)) rm_X9_millS2 50 ad G [.ref (ad 40), .int (nI d)] (fun vo G' => ∃ (j1 : Int32) (j2 : Int32) (j3 : Int32) (j4 : Int64) (j5 : Int64) (j6 : Int64) (j7 : Int64) (u1 : Int64) (u2 : Int64) (u3 : Int32) (p1 : Int64) (p2 : Int64), vo = some (.long 0) ∧ G' 40 = .inr (9, [.ref (ad 41), .ref (ad 42), .ref (ad 43), .int ik, .ref (ad 44), .int kn, .ref (ad 45), .int ln, .int 2, .int j1, .int j2, .int j3, .long j4, .long j5, .long j6, .long j7, .long u1, .long u2, .int u3, .long p1, .long p2, .ref (ad 46), .ref (ad 47), .int sp, .int bg, .int fo, .int le, .int fi, .int re, .int ca]) ∧ G' 42 = .inl (L.ac 0, 60, .inl (sv f ml)) ∧ Agr [40, 42] G G') := by
  refine GM.of (own := RX9) (lo := [(0, .ref (ad 40)), (1, .int (nI d))]) (by decide +kernel) rfl rfl (Nat.le_of_ble_eq_true rfl) (fun E C hr => ?_)
  refine G_aload_n C 0 dX9_mill_0 rfl rfl ?_
  refine G_callV C (As := []) (rest := []) (c_X9_begins g40 g41 g42) ca_X9_begins km_X9_139 (by decide) g40 rfl rfl rfl rfl (by decide) (Nat.le_of_ble_eq_true rfl) (by decide) dX9_mill_1 (fun vv1 gg2 qq3 => ?_)
  obtain ⟨rfl, hh4, hh5, aa6⟩ := qq3
  have AA7 : Agr [40, 42] G gg2 := aa6.wk (by simp)
  refine G_aload_n C 0 dX9_mill_4 rfl rfl ?_
  refine G_aload_n C 0 dX9_mill_5 rfl rfl ?_
  refine G_iload_n C 1 dX9_mill_6 rfl rfl ?_
  refine G_callV C (As := [.int (nI d)]) (rest := [.ref (ad 40)]) (c_X9_goMillS2 hh4 ((aa6 41 (by decide)).trans g41) h2 h60 hp hg hf hro) ca_X9_goMill km_X9_151 (by decide) hh4 rfl rfl rfl rfl (by decide) (Nat.le_of_ble_eq_true rfl) (by decide) dX9_mill_7 (fun vv8 gg9 qq10 => ?_)
  obtain ⟨j_11, j_12, j_13, j_14, j_15, j_16, j_17, u_18, u_19, u_20, p_21, p_22, rfl, hh23, aa24⟩ := qq10
  have AA25 : Agr [40, 42] G gg9 := AA7.tr aa24 (by simp) (by simp)
  refine G_callV C (As := [.int (-12)]) (rest := []) (c_X9_endsS hh23) ca_X9_ends km_X9_145 (by decide) hh23 rfl rfl rfl rfl (by decide) (Nat.le_of_ble_eq_true rfl) (by decide) dX9_mill_10 (fun vv26 gg27 qq28 => ?_)
  obtain ⟨rfl, hh29, aa30⟩ := qq28
  have AA31 : Agr [40, 42] G gg27 := AA25.tr aa30 (by simp) (by simp)
  refine G_istore_n C 2 (lo' := [(2, .int 0), (0, .ref (ad 40)), (1, .int (nI d))]) dX9_mill_13 rfl (by decide) rfl ?_
  refine G_aload_n C 0 dX9_mill_14 rfl rfl ?_
  refine G_get C 40 (by decide) hh29 rfl inA9 8 (by decide) rfl kf_X9_32 rfl dX9_mill_15 ?_
  refine G_if_le C 26 dX9_mill_18 (by decide) (fun h => absurd h (by decide)) (fun _ => ?_)
  refine G_iload_n C 2 dX9_mill_21 rfl rfl ?_
  refine G_i2l C (v := 0) dX9_mill_22 (by decide) ?_
  refine G_goto C 30 dX9_mill_23 (by decide) ?_
  exact G_lret C hr dX9_mill_30 ⟨_, _, _, _, _, _, _, _, _, _, _, _, rfl, hh29, ((aa30 42 (by decide)).trans ((aa24 42 (by decide)).trans hh5)), AA31⟩

abbrev rm_X9_millBackS : Room := ({ frames := 3, cells := 0, slots := 0, locals := 64 } : Room)
set_option maxRecDepth 100000 in
set_option maxHeartbeats 4000000 in
theorem c_X9_millBackS {L : GL} {ad : Nat → Nat} {G : Nat → va_E} {d : Nat} {ik kn ln th m q te us sp bg fo le fi re ca : Int32} {fx fy nx ny ux uy px py : Int64} {ml : Int32} {f : Nat → Int32} {f2 : Nat → Int32}  (g40 : G 40 = .inr (9, [.ref (ad 41), .ref (ad 42), .ref (ad 43), .int ik, .ref (ad 44), .int kn, .ref (ad 45), .int ln, .int th, .int m, .int q, .int te, .long fx, .long fy, .long nx, .long ny, .long ux, .long uy, .int us, .long px, .long py, .ref (ad 46), .ref (ad 47), .int sp, .int bg, .int fo, .int le, .int fi, .int re, .int ca])) (g41 : G 41 = .inl (L.ac 0, 60, .inl (sv f ml))) (g42 : G 42 = .inl (L.ac 0, 60, .inl f2)) (h2 : 2 ≤ d) (h60 : d ≤ 60) (hro : f d < 1) : GM L yX9_millBack cX9_millBack 3 ((some .long)) rm_X9_millBackS 50 ad G [.ref (ad 40), .int (nI d)] (fun vo G' => ∃ (j1 : Int32) (j2 : Int32) (j3 : Int32) (j4 : Int64) (j5 : Int64) (j6 : Int64) (j7 : Int64) (u1 : Int64) (u2 : Int64) (u3 : Int32) (p1 : Int64) (p2 : Int64), vo = some (.long 0) ∧ G' 40 = .inr (9, [.ref (ad 41), .ref (ad 42), .ref (ad 43), .int ik, .ref (ad 44), .int kn, .ref (ad 45), .int ln, .int 2, .int j1, .int j2, .int j3, .long j4, .long j5, .long j6, .long j7, .long u1, .long u2, .int u3, .long p1, .long p2, .ref (ad 46), .ref (ad 47), .int sp, .int bg, .int fo, .int le, .int fi, .int re, .int ca]) ∧ G' 42 = .inl (L.ac 0, 60, .inl (sv f ml)) ∧ Agr [40, 42] G G') := by
  refine GM.of (own := RX9) (lo := [(0, .ref (ad 40)), (1, .int (nI d))]) (by decide +kernel) rfl rfl (Nat.le_of_ble_eq_true rfl) (fun E C hr => ?_)
  refine G_aload_n C 0 dX9_millBack_0 rfl rfl ?_
  refine G_callV C (As := []) (rest := []) (c_X9_begins g40 g41 g42) ca_X9_begins km_X9_139 (by decide) g40 rfl rfl rfl rfl (by decide) (Nat.le_of_ble_eq_true rfl) (by decide) dX9_millBack_1 (fun vv1 gg2 qq3 => ?_)
  obtain ⟨rfl, hh4, hh5, aa6⟩ := qq3
  have AA7 : Agr [40, 42] G gg2 := aa6.wk (by simp)
  refine G_aload_n C 0 dX9_millBack_4 rfl rfl ?_
  refine G_aload_n C 0 dX9_millBack_5 rfl rfl ?_
  refine G_iload_n C 1 dX9_millBack_6 rfl rfl ?_
  refine G_callV C (As := [.int (nI d)]) (rest := [.ref (ad 40)]) (c_X9_goBackwardS hh4 ((aa6 41 (by decide)).trans g41) h2 h60 hro) ca_X9_goBackward km_X9_154 (by decide) hh4 rfl rfl rfl rfl (by decide) (Nat.le_of_ble_eq_true rfl) (by decide) dX9_millBack_7 (fun vv8 gg9 qq10 => ?_)
  obtain ⟨j_11, j_12, j_13, j_14, j_15, j_16, j_17, u_18, u_19, u_20, p_21, p_22, rfl, hh23, aa24⟩ := qq10
  have AA25 : Agr [40, 42] G gg9 := AA7.tr aa24 (by simp) (by simp)
  refine G_callV C (As := [.int (-12)]) (rest := []) (c_X9_endsS hh23) ca_X9_ends km_X9_145 (by decide) hh23 rfl rfl rfl rfl (by decide) (Nat.le_of_ble_eq_true rfl) (by decide) dX9_millBack_10 (fun vv26 gg27 qq28 => ?_)
  obtain ⟨rfl, hh29, aa30⟩ := qq28
  have AA31 : Agr [40, 42] G gg27 := AA25.tr aa30 (by simp) (by simp)
  refine G_istore_n C 2 (lo' := [(2, .int 0), (0, .ref (ad 40)), (1, .int (nI d))]) dX9_millBack_13 rfl (by decide) rfl ?_
  refine G_aload_n C 0 dX9_millBack_14 rfl rfl ?_
  refine G_get C 40 (by decide) hh29 rfl inA9 8 (by decide) rfl kf_X9_32 rfl dX9_millBack_15 ?_
  refine G_if_le C 26 dX9_millBack_18 (by decide) (fun h => absurd h (by decide)) (fun _ => ?_)
  refine G_iload_n C 2 dX9_millBack_21 rfl rfl ?_
  refine G_i2l C (v := 0) dX9_millBack_22 (by decide) ?_
  refine G_goto C 30 dX9_millBack_23 (by decide) ?_
  exact G_lret C hr dX9_millBack_30 ⟨_, _, _, _, _, _, _, _, _, _, _, _, rfl, hh29, ((aa30 42 (by decide)).trans ((aa24 42 (by decide)).trans hh5)), AA31⟩

abbrev rm_X9_millR : Room := ({ frames := 6, cells := 0, slots := 0, locals := 130 } : Room)
set_option maxRecDepth 100000 in
set_option maxHeartbeats 4000000 in
theorem c_X9_millR {L : GL} {ad : Nat → Nat} {G : Nat → va_E} {d h : Nat} {l : Int32} {ik ln th m q te us sp bg fo le fi re ca : Int32} {fx fy nx ny ux uy px py : Int64} {ml : Int32} {f : Nat → Int32} {f2 : Nat → Int32} {pf : Nat → Int32} {hs : List HE}  (g40 : G 40 = .inr (9, [.ref (ad 41), .ref (ad 42), .ref (ad 43), .int ik, .ref (ad 44), .int (nI hs.length), .ref (ad 45), .int ln, .int th, .int m, .int q, .int te, .long fx, .long fy, .long nx, .long ny, .long ux, .long uy, .int us, .long px, .long py, .ref (ad 46), .ref (ad 47), .int sp, .int bg, .int fo, .int le, .int fi, .int re, .int ca])) (g41 : G 41 = .inl (L.ac 0, 60, .inl (sv f ml))) (g42 : G 42 = .inl (L.ac 0, 60, .inl f2)) (g44 : G 44 = .inl (L.ac 0, 240, .inl pf)) (h2 : 2 ≤ d) (h60 : d ≤ 60) (hp : pern d ≠ 0) (hg : h ≤ gpn d) (hf : f d = nI h) (hro : h < gpn d) (hP : PastR pf hs) (h4 : hs.length ≤ 4) : GM L yX9_mill cX9_mill 3 ((some .long)) rm_X9_millR 50 ad G [.ref (ad 40), .int (nI d)] (fun vo G' => ∃ (j1 : Int32) (j2 : Int32) (j3 : Int32) (j4 : Int64) (j5 : Int64) (j6 : Int64) (j7 : Int64) (u1 : Int64) (u2 : Int64) (u3 : Int32) (p1 : Int64) (p2 : Int64) (pf2 : Nat → Int32), vo = some (.long ((pwr d (h + 1)).1)) ∧ (PastR pf2 (hpush hs (f, l, ml))) ∧ G' 40 = .inr (9, [.ref (ad 41), .ref (ad 42), .ref (ad 43), .int ik, .ref (ad 44), .int (nI (hpush hs (f, l, ml)).length), .ref (ad 45), .int ln, .int 0, .int j1, .int j2, .int j3, .long j4, .long j5, .long j6, .long j7, .long u1, .long u2, .int u3, .long p1, .long p2, .ref (ad 46), .ref (ad 47), .int sp, .int bg, .int fo, .int le, .int fi, .int re, .int ca]) ∧ G' 41 = .inl (L.ac 0, 60, .inl (sv (upd f d (nI (h + 1))) (ml + 1))) ∧ G' 42 = .inl (L.ac 0, 60, .inl (sv f ml)) ∧ G' 44 = .inl (L.ac 0, 240, .inl pf2) ∧ Agr [40, 41, 42, 44] G G') := by
  refine GM.of (own := RX9) (lo := [(0, .ref (ad 40)), (1, .int (nI d))]) (by decide +kernel) rfl rfl (Nat.le_of_ble_eq_true rfl) (fun E C hr => ?_)
  refine G_aload_n C 0 dX9_mill_0 rfl rfl ?_
  refine G_callV C (As := []) (rest := []) (c_X9_begins g40 g41 g42) ca_X9_begins km_X9_139 (by decide) g40 rfl rfl rfl rfl (by decide) (Nat.le_of_ble_eq_true rfl) (by decide) dX9_mill_1 (fun vv1 gg2 qq3 => ?_)
  obtain ⟨rfl, hh4, hh5, aa6⟩ := qq3
  have AA7 : Agr [40, 42] G gg2 := aa6.wk (by simp)
  refine G_aload_n C 0 dX9_mill_4 rfl rfl ?_
  refine G_aload_n C 0 dX9_mill_5 rfl rfl ?_
  refine G_iload_n C 1 dX9_mill_6 rfl rfl ?_
  refine G_callV C (As := [.int (nI d)]) (rest := [.ref (ad 40)]) (c_X9_goMillR hh4 ((aa6 41 (by decide)).trans g41) h2 h60 hp hg hf hro) ca_X9_goMill km_X9_151 (by decide) hh4 rfl rfl rfl rfl (by decide) (Nat.le_of_ble_eq_true rfl) (by decide) dX9_mill_7 (fun vv8 gg9 qq10 => ?_)
  obtain ⟨j_11, j_12, j_13, j_14, j_15, j_16, j_17, u_18, u_19, u_20, p_21, p_22, rfl, pp23, hh24, hh25, aa26⟩ := qq10
  have AA27 : Agr [40, 42, 41] G gg9 := AA7.tr aa26 (by simp) (by simp)
  refine G_callV C (As := [.int 0]) (rest := []) (c_X9_endsR (l := l) hh24 ((aa26 42 (by decide)).trans hh5) ((aa26 44 (by decide)).trans ((aa6 44 (by decide)).trans g44)) hP h4 (by decide) (by decide)) ca_X9_ends km_X9_145 (by decide) hh24 rfl rfl rfl rfl (by decide) (Nat.le_of_ble_eq_true rfl) (by decide) dX9_mill_10 (fun vv28 gg29 qq30 => ?_)
  obtain ⟨pf_31, rfl, pp32, hh33, hh34, aa35⟩ := qq30
  have AA36 : Agr [40, 42, 41, 44] G gg29 := AA27.tr aa35 (by simp) (by simp)
  refine G_istore_n C 2 (lo' := [(2, .int 0), (0, .ref (ad 40)), (1, .int (nI d))]) dX9_mill_13 rfl (by decide) rfl ?_
  refine G_aload_n C 0 dX9_mill_14 rfl rfl ?_
  refine G_get C 40 (by decide) hh33 rfl inA9 8 (by decide) rfl kf_X9_32 rfl dX9_mill_15 ?_
  refine G_if_le C 26 dX9_mill_18 (by decide) (fun _ => ?_) (fun h => absurd h (by decide))
  refine G_aload_n C 0 dX9_mill_26 rfl rfl ?_
  refine G_get C 40 (by decide) hh33 rfl inA9 19 (by decide) rfl kf_X9_104 rfl dX9_mill_27 ?_
  exact G_lret C hr dX9_mill_30 ⟨_, _, _, _, _, _, _, _, _, _, _, _, _, (by rw [pp23]), pp32, hh33, ((aa35 41 (by decide)).trans hh25), ((aa35 42 (by decide)).trans ((aa26 42 (by decide)).trans hh5)), hh34, (AA36.wk (by simp))⟩

abbrev rm_X9_millBackR : Room := ({ frames := 6, cells := 0, slots := 0, locals := 130 } : Room)
set_option maxRecDepth 100000 in
set_option maxHeartbeats 4000000 in
theorem c_X9_millBackR {L : GL} {ad : Nat → Nat} {G : Nat → va_E} {d k : Nat} {l : Int32} {ik ln th m q te us sp bg fo le fi re ca : Int32} {fx fy nx ny ux uy px py : Int64} {ml : Int32} {f : Nat → Int32} {f2 : Nat → Int32} {pf : Nat → Int32} {hs : List HE}  (g40 : G 40 = .inr (9, [.ref (ad 41), .ref (ad 42), .ref (ad 43), .int ik, .ref (ad 44), .int (nI hs.length), .ref (ad 45), .int ln, .int th, .int m, .int q, .int te, .long fx, .long fy, .long nx, .long ny, .long ux, .long uy, .int us, .long px, .long py, .ref (ad 46), .ref (ad 47), .int sp, .int bg, .int fo, .int le, .int fi, .int re, .int ca])) (g41 : G 41 = .inl (L.ac 0, 60, .inl (sv f ml))) (g42 : G 42 = .inl (L.ac 0, 60, .inl f2)) (g44 : G 44 = .inl (L.ac 0, 240, .inl pf)) (h2 : 2 ≤ d) (h60 : d ≤ 60) (hp : pern d ≠ 0) (hg : k + 1 ≤ gpn d) (hf : f d = nI (k + 1)) (hP : PastR pf hs) (h4 : hs.length ≤ 4) : GM L yX9_millBack cX9_millBack 3 ((some .long)) rm_X9_millBackR 50 ad G [.ref (ad 40), .int (nI d)] (fun vo G' => ∃ (j1 : Int32) (j2 : Int32) (j3 : Int32) (j4 : Int64) (j5 : Int64) (j6 : Int64) (j7 : Int64) (u1 : Int64) (u2 : Int64) (u3 : Int32) (p1 : Int64) (p2 : Int64) (pf2 : Nat → Int32), vo = some (.long ((pwr d k).1)) ∧ (PastR pf2 (hpush hs (f, l, ml))) ∧ G' 40 = .inr (9, [.ref (ad 41), .ref (ad 42), .ref (ad 43), .int ik, .ref (ad 44), .int (nI (hpush hs (f, l, ml)).length), .ref (ad 45), .int ln, .int 0, .int j1, .int j2, .int j3, .long j4, .long j5, .long j6, .long j7, .long u1, .long u2, .int u3, .long p1, .long p2, .ref (ad 46), .ref (ad 47), .int sp, .int bg, .int fo, .int le, .int fi, .int re, .int ca]) ∧ G' 41 = .inl (L.ac 0, 60, .inl (sv (upd f d (nI k)) ml)) ∧ G' 42 = .inl (L.ac 0, 60, .inl (sv f ml)) ∧ G' 44 = .inl (L.ac 0, 240, .inl pf2) ∧ Agr [40, 41, 42, 44] G G') := by
  refine GM.of (own := RX9) (lo := [(0, .ref (ad 40)), (1, .int (nI d))]) (by decide +kernel) rfl rfl (Nat.le_of_ble_eq_true rfl) (fun E C hr => ?_)
  refine G_aload_n C 0 dX9_millBack_0 rfl rfl ?_
  refine G_callV C (As := []) (rest := []) (c_X9_begins g40 g41 g42) ca_X9_begins km_X9_139 (by decide) g40 rfl rfl rfl rfl (by decide) (Nat.le_of_ble_eq_true rfl) (by decide) dX9_millBack_1 (fun vv1 gg2 qq3 => ?_)
  obtain ⟨rfl, hh4, hh5, aa6⟩ := qq3
  have AA7 : Agr [40, 42] G gg2 := aa6.wk (by simp)
  refine G_aload_n C 0 dX9_millBack_4 rfl rfl ?_
  refine G_aload_n C 0 dX9_millBack_5 rfl rfl ?_
  refine G_iload_n C 1 dX9_millBack_6 rfl rfl ?_
  refine G_callV C (As := [.int (nI d)]) (rest := [.ref (ad 40)]) (c_X9_goBackwardR hh4 ((aa6 41 (by decide)).trans g41) h2 h60 hp hg hf) ca_X9_goBackward km_X9_154 (by decide) hh4 rfl rfl rfl rfl (by decide) (Nat.le_of_ble_eq_true rfl) (by decide) dX9_millBack_7 (fun vv8 gg9 qq10 => ?_)
  obtain ⟨j_11, j_12, j_13, j_14, j_15, j_16, j_17, u_18, u_19, u_20, p_21, p_22, rfl, pp23, hh24, hh25, aa26⟩ := qq10
  have AA27 : Agr [40, 42, 41] G gg9 := AA7.tr aa26 (by simp) (by simp)
  refine G_callV C (As := [.int 0]) (rest := []) (c_X9_endsR (l := l) hh24 ((aa26 42 (by decide)).trans hh5) ((aa26 44 (by decide)).trans ((aa6 44 (by decide)).trans g44)) hP h4 (by decide) (by decide)) ca_X9_ends km_X9_145 (by decide) hh24 rfl rfl rfl rfl (by decide) (Nat.le_of_ble_eq_true rfl) (by decide) dX9_millBack_10 (fun vv28 gg29 qq30 => ?_)
  obtain ⟨pf_31, rfl, pp32, hh33, hh34, aa35⟩ := qq30
  have AA36 : Agr [40, 42, 41, 44] G gg29 := AA27.tr aa35 (by simp) (by simp)
  refine G_istore_n C 2 (lo' := [(2, .int 0), (0, .ref (ad 40)), (1, .int (nI d))]) dX9_millBack_13 rfl (by decide) rfl ?_
  refine G_aload_n C 0 dX9_millBack_14 rfl rfl ?_
  refine G_get C 40 (by decide) hh33 rfl inA9 8 (by decide) rfl kf_X9_32 rfl dX9_millBack_15 ?_
  refine G_if_le C 26 dX9_millBack_18 (by decide) (fun _ => ?_) (fun h => absurd h (by decide))
  refine G_aload_n C 0 dX9_millBack_26 rfl rfl ?_
  refine G_get C 40 (by decide) hh33 rfl inA9 19 (by decide) rfl kf_X9_104 rfl dX9_millBack_27 ?_
  exact G_lret C hr dX9_millBack_30 ⟨_, _, _, _, _, _, _, _, _, _, _, _, _, (by rw [pp23]), pp32, hh33, ((aa35 41 (by decide)).trans hh25), ((aa35 42 (by decide)).trans ((aa26 42 (by decide)).trans hh5)), hh34, (AA36.wk (by simp))⟩

