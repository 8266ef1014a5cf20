/-! the model: numbers' walks -/
theorem wr_sq : ∀ d, d < 61 → 1 ≤ wr d ∧ wr d ≤ 7 ∧ wr d * wr d ≤ d ∧ d < (wr d + 1) * (wr d + 1) ∨ d = 0 := by decide +kernel
theorem wr_le : ∀ d, d < 61 → wr d * wr d ≤ 60 := by decide +kernel
theorem wr_un {d i : Nat} (hd : d < 61) (h1 : 1 ≤ i) (h : i * i ≤ d) (h2 : d < (i + 1) * (i + 1)) : i = wr d := by
  rcases wr_sq d hd with ⟨a, b, c, e⟩ | e
  · rcases Nat.lt_trichotomy i (wr d) with z | z | z
    · have := Nat.mul_le_mul (show i + 1 ≤ wr d from z) (show i + 1 ≤ wr d from z); omega
    · exact z
    · have := Nat.mul_le_mul (show wr d + 1 ≤ i from z) (show wr d + 1 ≤ i from z); omega
  · subst e; have := Nat.mul_le_mul h1 h1; omega
def iqL (q : Int32) : Bool := !(q == 0)
/-- x and y before, x and y, in longs -/
def uL (d : Nat) : Nat → Int64 × Int64 × Int64 × Int64
  | 0 => (1, 0, (nI (wr d)).toInt64, 1)
  | i + 1 => ((uL d i).2.2.1, (uL d i).2.2.2, (tsq d (i + 1)).2.2.toInt64 * (uL d i).2.2.1 + (uL d i).1, (tsq d (i + 1)).2.2.toInt64 * (uL d i).2.2.2 + (uL d i).2.1)
theorem ul_ok : ∀ d, d < 61 → pern d ≠ 0 → (uL d (pern d - 1)).2.2.1 = (tUx d).toInt64 ∧ (uL d (pern d - 1)).2.2.2 = (tUy d).toInt64 := by decide +kernel
def qWalk (d : Nat) : Nat → Int32 × Int32 × Int32 → Bool
  | 0, s => !(s.2.1 == 0)
  | n + 1, s => !(s.2.1 == 0) && qWalk d n (tnF (nI d) (nI (wr d)) s.1 s.2.1 s.2.2)
theorem qw_all : ∀ d, d < 61 → pern d ≠ 0 → qWalk d 100 (tsq d 0) = true := by decide +kernel
theorem qw_at {d : Nat} : ∀ n i, qWalk d n (tsq d i) = true → ∀ j, i ≤ j → j ≤ i + n → ¬ (tsq d j).2.1 = 0
  | 0, i, h, j, h1, h2 => by
    have : j = i := by omega
    subst this; intro z; rw [qWalk, z] at h; exact absurd h (by decide)
  | n + 1, i, h, j, h1, h2 => by
    rw [qWalk, Bool.and_eq_true] at h
    by_cases e : j = i
    · subst e; intro z; have := h.1; rw [z] at this; exact absurd this (by decide)
    · exact qw_at n (i + 1) h.2 j (by omega) (by omega)
theorem q_ne {d i : Nat} (hd : d ≤ 60) (hp : pern d ≠ 0) (hi : i ≤ 100) : ¬ (tsq d i).2.1 = 0 := qw_at 100 0 (qw_all d (by omega) hp) i (by omega) (by omega)
theorem tsq_s {d i : Nat} (hd : d ≤ 60) (hp : pern d ≠ 0) (hi : i < 100) : tsq d (i + 1) = ((tsq d i).2.1 * (tsq d i).2.2 - (tsq d i).1, (nI d - ((tsq d i).2.1 * (tsq d i).2.2 - (tsq d i).1) * ((tsq d i).2.1 * (tsq d i).2.2 - (tsq d i).1)) / (tsq d i).2.1,
    (nI (wr d) + ((tsq d i).2.1 * (tsq d i).2.2 - (tsq d i).1)) / ((nI d - ((tsq d i).2.1 * (tsq d i).2.2 - (tsq d i).1) * ((tsq d i).2.1 * (tsq d i).2.2 - (tsq d i).1)) / (tsq d i).2.1)) := by
  have h1 := q_ne (i := i) hd hp (by omega)
  have h2 := q_ne (i := i + 1) hd hp (by omega)
  have e : tsq d (i + 1) = tnF (nI d) (nI (wr d)) (tsq d i).1 (tsq d i).2.1 (tsq d i).2.2 := rfl
  rw [e, tnF, if_neg h1] at h2
  rw [e, tnF, if_neg h1]
  by_cases z : (nI d - ((tsq d i).2.1 * (tsq d i).2.2 - (tsq d i).1) * ((tsq d i).2.1 * (tsq d i).2.2 - (tsq d i).1)) / (tsq d i).2.1 = 0
  · rw [if_pos z] at h2; exact absurd z h2
  · rw [if_neg z]
abbrev rm_X9_in : Room := ({ frames := 0, cells := 0, slots := 0, locals := 0 } : Room)
set_option maxRecDepth 100000 in
set_option maxHeartbeats 4000000 in
theorem c_X9_in {L : GL} {ad : Nat → Nat} {G : Nat → va_E} {a b c : Int32}    : GM L yX9_in cX9_in 3 ((some .boolean)) rm_X9_in 50 ad G [.int a, .int b, .int c] (fun vo G' => vo = some (.int (if a < b then 0 else if c < a then 0 else 1)) ∧ G = G') := by
  refine GM.of (own := RX9) (lo := [(0, .int a), (1, .int b), (2, .int c)]) (by decide +kernel) rfl rfl (Nat.le_of_ble_eq_true rfl) (fun E C hr => ?_)
  refine G_iload_n C 0 dX9_in_0 rfl rfl ?_
  refine G_iload_n C 1 dX9_in_1 rfl rfl ?_
  refine G_icmp_lt C 14 dX9_in_2 (by decide) (fun c2 => ?_) (fun c2 => ?_)
  · refine G_iconst C (v := 0) dX9_in_14 (by decide) ?_
    exact G_zret C hr rfl dX9_in_15 ⟨by simp only [if_pos c2], rfl⟩
  · refine G_iload_n C 0 dX9_in_5 rfl rfl ?_
    refine G_iload_n C 2 dX9_in_6 rfl rfl ?_
    refine G_icmp_gt C 14 dX9_in_7 (by decide) (fun c7 => ?_) (fun c7 => ?_)
    · refine G_iconst C (v := 0) dX9_in_14 (by decide) ?_
      exact G_zret C hr rfl dX9_in_15 ⟨by simp only [if_neg c2, if_pos c7], rfl⟩
    · refine G_iconst C (v := 1) dX9_in_10 (by decide) ?_
      refine G_goto C 15 dX9_in_11 (by decide) ?_
      exact G_zret C hr rfl dX9_in_15 ⟨by simp only [if_neg c2, if_neg c7], rfl⟩

abbrev rm_X9_isNumber : Room := ({ frames := 1, cells := 0, slots := 0, locals := 22 } : Room)
set_option maxRecDepth 100000 in
set_option maxHeartbeats 4000000 in
theorem c_X9_isNumber {L : GL} {ad : Nat → Nat} {G : Nat → va_E} {n : Int32}    : GM L yX9_isNumber cX9_isNumber 1 ((some .boolean)) rm_X9_isNumber 50 ad G [.int n] (fun vo G' => vo = some (.int (numF n)) ∧ G = G') := by
  refine GM.of (own := RX9) (lo := [(0, .int n)]) (by decide +kernel) rfl rfl (Nat.le_of_ble_eq_true rfl) (fun E C hr => ?_)
  refine G_iload_n C 0 dX9_isNumber_0 rfl rfl ?_
  refine G_iconst C (v := 2) dX9_isNumber_1 (by decide) ?_
  refine G_bipush C (v := 60) dX9_isNumber_2 (by decide) ?_
  refine G_callS C (As := [.int n, .int 2, .int 60]) (rest := []) c_X9_in ca_X9_in km_X9_50 rfl rfl (by decide) (Nat.le_of_ble_eq_true rfl) (by decide) dX9_isNumber_4 (fun vv1 gg2 qq3 => ?_)
  obtain ⟨rfl, rfl⟩ := qq3
  exact G_zret C hr (by split <;> first | rfl | (split <;> rfl)) dX9_isNumber_7 ⟨rfl, rfl⟩

abbrev rm_X9_root : Room := ({ frames := 0, cells := 0, slots := 0, locals := 0 } : Room)
set_option maxRecDepth 100000 in
set_option maxHeartbeats 4000000 in
theorem c_X9_root {L : GL} {ad : Nat → Nat} {G : Nat → va_E} {d : Nat}   (h2 : 2 ≤ d) (h60 : d ≤ 60) : GM L yX9_root cX9_root 2 ((some .int)) rm_X9_root 50 ad G [.int (nI d)] (fun vo G' => vo = some (.int (nI (wr d))) ∧ G = G') := by
  refine GM.of (own := RX9) (lo := [(0, .int (nI d))]) (by decide +kernel) rfl rfl (Nat.le_of_ble_eq_true rfl) (fun E C hr => ?_)
  refine G_iconst C (v := 1) dX9_root_0 (by decide) ?_
  refine G_istore_n C 1 (lo' := [(1, .int 1), (0, .int (nI d))]) dX9_root_1 rfl (by decide) rfl ?_
  have key2 : ∀ (n : Nat) (i : Nat)  (hn : 8 - i < n) (hi : 1 ≤ i ∧ i ≤ 7) (hs : i * i ≤ d), GW L E 50 ad G 0 0 2 [(1, .int (nI i)), (0, .int (nI d))] [] := by
    intro n
    induction n with
    | zero =>
      intro i  hn hi hs
      exact absurd hn (Nat.not_lt_zero _)
    | succ n ih =>
      intro i  hn hi hs
      have him : (i + 1) * (i + 1) ≤ 64 := Nat.mul_le_mul (show i + 1 ≤ 8 by omega) (show i + 1 ≤ 8 by omega)
      refine G_iload_n C 1 dX9_root_2 rfl rfl ?_
      refine G_iconst C (v := 1) dX9_root_3 (by decide) ?_
      refine G_iadd C dX9_root_4 ?_
      refine GW.topr (cI_add (a := i) (b := 1) rfl rfl) ?_
      refine G_iload_n C 1 dX9_root_5 rfl rfl ?_
      refine G_iconst C (v := 1) dX9_root_6 (by decide) ?_
      refine G_iadd C dX9_root_7 ?_
      refine GW.topr (cI_add (a := i) (b := 1) rfl rfl) ?_
      refine G_imul C dX9_root_8 ?_
      refine GW.topr (cI_mul (a := (i + 1)) (b := (i + 1)) rfl rfl) ?_
      refine G_iload_n C 0 dX9_root_9 rfl rfl ?_
      refine G_icmp_gt C 19 dX9_root_10 (by decide) (fun c10 => ?_) (fun c10 => ?_)
      · have c10n : d < ((i + 1) * (i + 1)) := (cI_lt (a := d) (b := ((i + 1) * (i + 1))) rfl rfl (by omega) (by omega)).mp c10
        refine G_iload_n C 1 dX9_root_19 rfl rfl ?_
        exact G_zret C hr rfl dX9_root_20 ⟨(by rw [wr_un (by omega) hi.1 hs (by omega)]), rfl⟩
      · have c10n : ¬ d < ((i + 1) * (i + 1)) := fun z => c10 ((cI_lt (a := d) (b := ((i + 1) * (i + 1))) rfl rfl (by omega) (by omega)).mpr z)
        refine G_iinc C (v := nI (i + 1)) (lo' := [(1, .int (nI (i + 1))), (0, .int (nI d))]) dX9_root_13 rfl (nI_add _ _) (by decide) rfl ?_
        refine G_goto C 2 dX9_root_16 (by decide) ?_
        exact ih (i + 1) (by omega) (by have : i < 7 := (Nat.lt_or_ge i 7).elim id (fun z => by have := Nat.mul_le_mul (show 8 ≤ i + 1 by omega) (show 8 ≤ i + 1 by omega); omega); omega) (by omega)
  exact key2 8 1 (by omega) (by omega) (by omega)

abbrev rm_X9_isSquare : Room := ({ frames := 1, cells := 0, slots := 0, locals := 21 } : Room)
set_option maxRecDepth 100000 in
set_option maxHeartbeats 4000000 in
theorem c_X9_isSquare {L : GL} {ad : Nat → Nat} {G : Nat → va_E} {d : Nat}   (h2 : 2 ≤ d) (h60 : d ≤ 60) : GM L yX9_isSquare cX9_isSquare 1 ((some .boolean)) rm_X9_isSquare 50 ad G [.int (nI d)] (fun vo G' => vo = some (.int (if pern d = 0 then 1 else 0)) ∧ G = G') := by
  refine GM.of (own := RX9) (lo := [(0, .int (nI d))]) (by decide +kernel) rfl rfl (Nat.le_of_ble_eq_true rfl) (fun E C hr => ?_)
  have hw9 := wr_le d (by omega)
  refine G_iload_n C 0 dX9_isSquare_0 rfl rfl ?_
  refine G_callS C (As := [.int (nI d)]) (rest := []) (c_X9_root h2 h60) ca_X9_root km_X9_54 rfl rfl (by decide) (Nat.le_of_ble_eq_true rfl) (by decide) dX9_isSquare_1 (fun vv1 gg2 qq3 => ?_)
  obtain ⟨rfl, rfl⟩ := qq3
  refine G_iload_n C 0 dX9_isSquare_4 rfl rfl ?_
  refine G_callS C (As := [.int (nI d)]) (rest := [.int (nI (wr d))]) (c_X9_root h2 h60) ca_X9_root km_X9_54 rfl rfl (by decide) (Nat.le_of_ble_eq_true rfl) (by decide) dX9_isSquare_5 (fun vv4 gg5 qq6 => ?_)
  obtain ⟨rfl, rfl⟩ := qq6
  refine G_imul C dX9_isSquare_8 ?_
  refine GW.topr (cI_mul (a := (wr d)) (b := (wr d)) rfl rfl) ?_
  have hsq := sq_ok d (by omega) h2
  rw [nI_mul] at hsq
  refine G_iload_n C 0 dX9_isSquare_9 rfl rfl ?_
  refine G_icmp_ne C 17 dX9_isSquare_10 (by decide) (fun c10 => ?_) (fun c10 => ?_)
  · have c10n : ¬ ((wr d) * (wr d)) = d := fun z => c10 ((cI_eq (a := ((wr d) * (wr d))) (b := d) rfl rfl (by omega) (by omega)).mpr z)
    refine G_iconst C (v := 0) dX9_isSquare_17 (by decide) ?_
    exact G_zret C hr rfl dX9_isSquare_18 ⟨(by rw [if_neg (fun z => c10 (hsq.mpr z))]), rfl⟩
  · have c10n : ((wr d) * (wr d)) = d := (cI_eq (a := ((wr d) * (wr d))) (b := d) rfl rfl (by omega) (by omega)).mp c10
    refine G_iconst C (v := 1) dX9_isSquare_13 (by decide) ?_
    refine G_goto C 18 dX9_isSquare_14 (by decide) ?_
    exact G_zret C hr rfl dX9_isSquare_18 ⟨(by rw [if_pos (hsq.mp c10)]), rfl⟩

abbrev rm_X9_beginsTerms : Room := ({ frames := 1, cells := 0, slots := 0, locals := 21 } : Room)
set_option maxRecDepth 100000 in
set_option maxHeartbeats 4000000 in
theorem c_X9_beginsTerms {L : GL} {ad : Nat → Nat} {G : Nat → va_E} {d : Nat} {ik kn ln th m q te us sp bg fo le fi re ca : Int32} {fx fy nx ny ux uy px py : Int64}  (g40 : G 40 = .inr (9, [.ref (ad 41), .ref (ad 42), .ref (ad 43), .int ik, .ref (ad 44), .int kn, .ref (ad 45), .int ln, .int th, .int m, .int q, .int te, .long fx, .long fy, .long nx, .long ny, .long ux, .long uy, .int us, .long px, .long py, .ref (ad 46), .ref (ad 47), .int sp, .int bg, .int fo, .int le, .int fi, .int re, .int ca])) (h2 : 2 ≤ d) (h60 : d ≤ 60) : GM L yX9_beginsTerms cX9_beginsTerms 2 (none) rm_X9_beginsTerms 50 ad G [.ref (ad 40), .int (nI d)] (fun vo G' => vo = none ∧ G' 40 = .inr (9, [.ref (ad 41), .ref (ad 42), .ref (ad 43), .int ik, .ref (ad 44), .int kn, .ref (ad 45), .int ln, .int th, .int ((tsq d 0).1), .int ((tsq d 0).2.1), .int ((tsq d 0).2.2), .long ((uL d 0).1), .long ((uL d 0).2.1), .long ((uL d 0).2.2.1), .long ((uL d 0).2.2.2), .long ux, .long uy, .int us, .long px, .long py, .ref (ad 46), .ref (ad 47), .int sp, .int bg, .int fo, .int le, .int fi, .int re, .int ca]) ∧ Agr [40] G G') := by
  refine GM.of (own := RX9) (lo := [(0, .ref (ad 40)), (1, .int (nI d))]) (by decide +kernel) rfl rfl (Nat.le_of_ble_eq_true rfl) (fun E C hr => ?_)
  refine G_aload_n C 0 dX9_beginsTerms_0 rfl rfl ?_
  refine G_iconst C (v := 0) dX9_beginsTerms_1 (by decide) ?_
  refine G_putp C 40 (by decide) g40 rfl inA9 tyX9_ok nmX9 9 (by decide) rfl kf_X9_57 rfl rfl rfl (fs' := [.ref (ad 41), .ref (ad 42), .ref (ad 43), .int ik, .ref (ad 44), .int kn, .ref (ad 45), .int ln, .int th, .int 0, .int q, .int te, .long fx, .long fy, .long nx, .long ny, .long ux, .long uy, .int us, .long px, .long py, .ref (ad 46), .ref (ad 47), .int sp, .int bg, .int fo, .int le, .int fi, .int re, .int ca]) (Nat.le_of_ble_eq_true rfl) rfl dX9_beginsTerms_2 (fun gg1 hh2 aa3 => ?_)
  have AA4 : Agr [40] G gg1 := aa3.wk (by simp)
  refine G_aload_n C 0 dX9_beginsTerms_5 rfl rfl ?_
  refine G_iconst C (v := 1) dX9_beginsTerms_6 (by decide) ?_
  refine G_putp C 40 (by decide) hh2 rfl inA9 tyX9_ok nmX9 10 (by decide) rfl kf_X9_60 rfl rfl rfl (fs' := [.ref (ad 41), .ref (ad 42), .ref (ad 43), .int ik, .ref (ad 44), .int kn, .ref (ad 45), .int ln, .int th, .int 0, .int 1, .int te, .long fx, .long fy, .long nx, .long ny, .long ux, .long uy, .int us, .long px, .long py, .ref (ad 46), .ref (ad 47), .int sp, .int bg, .int fo, .int le, .int fi, .int re, .int ca]) (Nat.le_of_ble_eq_true rfl) rfl dX9_beginsTerms_7 (fun gg5 hh6 aa7 => ?_)
  have AA8 : Agr [40] G gg5 := AA4.tr aa7 (by simp) (by simp)
  refine G_aload_n C 0 dX9_beginsTerms_10 rfl rfl ?_
  refine G_iload_n C 1 dX9_beginsTerms_11 rfl rfl ?_
  refine G_callS C (As := [.int (nI d)]) (rest := [.ref (ad 40)]) (c_X9_root h2 h60) ca_X9_root km_X9_54 rfl rfl (by decide) (Nat.le_of_ble_eq_true rfl) (by decide) dX9_beginsTerms_12 (fun vv9 gg10 qq11 => ?_)
  obtain ⟨rfl, rfl⟩ := qq11
  refine G_putp C 40 (by decide) hh6 rfl inA9 tyX9_ok nmX9 11 (by decide) rfl kf_X9_63 rfl rfl rfl (fs' := [.ref (ad 41), .ref (ad 42), .ref (ad 43), .int ik, .ref (ad 44), .int kn, .ref (ad 45), .int ln, .int th, .int 0, .int 1, .int (nI (wr d)), .long fx, .long fy, .long nx, .long ny, .long ux, .long uy, .int us, .long px, .long py, .ref (ad 46), .ref (ad 47), .int sp, .int bg, .int fo, .int le, .int fi, .int re, .int ca]) (Nat.le_of_ble_eq_true rfl) rfl dX9_beginsTerms_15 (fun gg12 hh13 aa14 => ?_)
  have AA15 : Agr [40] G gg12 := AA8.tr aa14 (by simp) (by simp)
  refine G_aload_n C 0 dX9_beginsTerms_18 rfl rfl ?_
  refine G_lconst C (v := 1) dX9_beginsTerms_19 (by decide) ?_
  refine G_putp C 40 (by decide) hh13 rfl inA9 tyX9_ok nmX9 12 (by decide) rfl kf_X9_66 rfl rfl rfl (fs' := [.ref (ad 41), .ref (ad 42), .ref (ad 43), .int ik, .ref (ad 44), .int kn, .ref (ad 45), .int ln, .int th, .int 0, .int 1, .int (nI (wr d)), .long 1, .long fy, .long nx, .long ny, .long ux, .long uy, .int us, .long px, .long py, .ref (ad 46), .ref (ad 47), .int sp, .int bg, .int fo, .int le, .int fi, .int re, .int ca]) (Nat.le_of_ble_eq_true rfl) rfl dX9_beginsTerms_20 (fun gg16 hh17 aa18 => ?_)
  have AA19 : Agr [40] G gg16 := AA15.tr aa18 (by simp) (by simp)
  refine G_aload_n C 0 dX9_beginsTerms_23 rfl rfl ?_
  refine G_lconst C (v := 0) dX9_beginsTerms_24 (by decide) ?_
  refine G_putp C 40 (by decide) hh17 rfl inA9 tyX9_ok nmX9 13 (by decide) rfl kf_X9_70 rfl rfl rfl (fs' := [.ref (ad 41), .ref (ad 42), .ref (ad 43), .int ik, .ref (ad 44), .int kn, .ref (ad 45), .int ln, .int th, .int 0, .int 1, .int (nI (wr d)), .long 1, .long 0, .long nx, .long ny, .long ux, .long uy, .int us, .long px, .long py, .ref (ad 46), .ref (ad 47), .int sp, .int bg, .int fo, .int le, .int fi, .int re, .int ca]) (Nat.le_of_ble_eq_true rfl) rfl dX9_beginsTerms_25 (fun gg20 hh21 aa22 => ?_)
  have AA23 : Agr [40] G gg20 := AA19.tr aa22 (by simp) (by simp)
  refine G_aload_n C 0 dX9_beginsTerms_28 rfl rfl ?_
  refine G_aload_n C 0 dX9_beginsTerms_29 rfl rfl ?_
  refine G_get C 40 (by decide) hh21 rfl inA9 11 (by decide) rfl kf_X9_63 rfl dX9_beginsTerms_30 ?_
  refine G_i2l C dX9_beginsTerms_33 rfl ?_
  refine G_putp C 40 (by decide) hh21 rfl inA9 tyX9_ok nmX9 14 (by decide) rfl kf_X9_73 rfl rfl rfl (fs' := [.ref (ad 41), .ref (ad 42), .ref (ad 43), .int ik, .ref (ad 44), .int kn, .ref (ad 45), .int ln, .int th, .int 0, .int 1, .int (nI (wr d)), .long 1, .long 0, .long ((nI (wr d)).toInt64), .long ny, .long ux, .long uy, .int us, .long px, .long py, .ref (ad 46), .ref (ad 47), .int sp, .int bg, .int fo, .int le, .int fi, .int re, .int ca]) (Nat.le_of_ble_eq_true rfl) rfl dX9_beginsTerms_34 (fun gg24 hh25 aa26 => ?_)
  have AA27 : Agr [40] G gg24 := AA23.tr aa26 (by simp) (by simp)
  refine G_aload_n C 0 dX9_beginsTerms_37 rfl rfl ?_
  refine G_lconst C (v := 1) dX9_beginsTerms_38 (by decide) ?_
  refine G_putp C 40 (by decide) hh25 rfl inA9 tyX9_ok nmX9 15 (by decide) rfl kf_X9_76 rfl rfl rfl (fs' := [.ref (ad 41), .ref (ad 42), .ref (ad 43), .int ik, .ref (ad 44), .int kn, .ref (ad 45), .int ln, .int th, .int 0, .int 1, .int (nI (wr d)), .long 1, .long 0, .long ((nI (wr d)).toInt64), .long 1, .long ux, .long uy, .int us, .long px, .long py, .ref (ad 46), .ref (ad 47), .int sp, .int bg, .int fo, .int le, .int fi, .int re, .int ca]) (Nat.le_of_ble_eq_true rfl) rfl dX9_beginsTerms_39 (fun gg28 hh29 aa30 => ?_)
  have AA31 : Agr [40] G gg28 := AA27.tr aa30 (by simp) (by simp)
  exact G_vret C hr dX9_beginsTerms_42 ⟨rfl, hh29, AA31⟩

abbrev rm_X9_nextTerm : Room := ({ frames := 1, cells := 0, slots := 0, locals := 21 } : Room)
set_option maxRecDepth 100000 in
set_option maxHeartbeats 4000000 in
theorem c_X9_nextTerm {L : GL} {ad : Nat → Nat} {G : Nat → va_E} {d i : Nat} {ik kn ln th us sp bg fo le fi re ca : Int32} {fx fy nx ny ux uy px py : Int64}  (g40 : G 40 = .inr (9, [.ref (ad 41), .ref (ad 42), .ref (ad 43), .int ik, .ref (ad 44), .int kn, .ref (ad 45), .int ln, .int th, .int ((tsq d i).1), .int ((tsq d i).2.1), .int ((tsq d i).2.2), .long fx, .long fy, .long nx, .long ny, .long ux, .long uy, .int us, .long px, .long py, .ref (ad 46), .ref (ad 47), .int sp, .int bg, .int fo, .int le, .int fi, .int re, .int ca])) (h2 : 2 ≤ d) (h60 : d ≤ 60) (hp : pern d ≠ 0) (hi : i < 100) : GM L yX9_nextTerm cX9_nextTerm 2 (none) rm_X9_nextTerm 50 ad G [.ref (ad 40), .int (nI d)] (fun vo G' => vo = none ∧ G' 40 = .inr (9, [.ref (ad 41), .ref (ad 42), .ref (ad 43), .int ik, .ref (ad 44), .int kn, .ref (ad 45), .int ln, .int th, .int ((tsq d (i + 1)).1), .int ((tsq d (i + 1)).2.1), .int ((tsq d (i + 1)).2.2), .long fx, .long fy, .long nx, .long ny, .long ux, .long uy, .int us, .long px, .long py, .ref (ad 46), .ref (ad 47), .int sp, .int bg, .int fo, .int le, .int fi, .int re, .int ca]) ∧ Agr [40] G G') := by
  refine GM.of (own := RX9) (lo := [(0, .ref (ad 40)), (1, .int (nI d))]) (by decide +kernel) rfl rfl (Nat.le_of_ble_eq_true rfl) (fun E C hr => ?_)
  refine G_aload_n C 0 dX9_nextTerm_0 rfl rfl ?_
  refine G_aload_n C 0 dX9_nextTerm_1 rfl rfl ?_
  refine G_get C 40 (by decide) g40 rfl inA9 10 (by decide) rfl kf_X9_60 rfl dX9_nextTerm_2 ?_
  refine G_aload_n C 0 dX9_nextTerm_5 rfl rfl ?_
  refine G_get C 40 (by decide) g40 rfl inA9 11 (by decide) rfl kf_X9_63 rfl dX9_nextTerm_6 ?_
  refine G_imul C dX9_nextTerm_9 ?_
  refine G_aload_n C 0 dX9_nextTerm_10 rfl rfl ?_
  refine G_get C 40 (by decide) g40 rfl inA9 9 (by decide) rfl kf_X9_57 rfl dX9_nextTerm_11 ?_
  refine G_isub C dX9_nextTerm_14 ?_
  refine G_putp C 40 (by decide) g40 rfl inA9 tyX9_ok nmX9 9 (by decide) rfl kf_X9_57 rfl rfl rfl (fs' := [.ref (ad 41), .ref (ad 42), .ref (ad 43), .int ik, .ref (ad 44), .int kn, .ref (ad 45), .int ln, .int th, .int ((((tsq d i).2.1) * ((tsq d i).2.2)) - ((tsq d i).1)), .int ((tsq d i).2.1), .int ((tsq d i).2.2), .long fx, .long fy, .long nx, .long ny, .long ux, .long uy, .int us, .long px, .long py, .ref (ad 46), .ref (ad 47), .int sp, .int bg, .int fo, .int le, .int fi, .int re, .int ca]) (Nat.le_of_ble_eq_true rfl) rfl dX9_nextTerm_15 (fun gg1 hh2 aa3 => ?_)
  have AA4 : Agr [40] G gg1 := aa3.wk (by simp)
  refine G_aload_n C 0 dX9_nextTerm_18 rfl rfl ?_
  refine G_iload_n C 1 dX9_nextTerm_19 rfl rfl ?_
  refine G_aload_n C 0 dX9_nextTerm_20 rfl rfl ?_
  refine G_get C 40 (by decide) hh2 rfl inA9 9 (by decide) rfl kf_X9_57 rfl dX9_nextTerm_21 ?_
  refine G_aload_n C 0 dX9_nextTerm_24 rfl rfl ?_
  refine G_get C 40 (by decide) hh2 rfl inA9 9 (by decide) rfl kf_X9_57 rfl dX9_nextTerm_25 ?_
  refine G_imul C dX9_nextTerm_28 ?_
  refine G_isub C dX9_nextTerm_29 ?_
  refine G_aload_n C 0 dX9_nextTerm_30 rfl rfl ?_
  refine G_get C 40 (by decide) hh2 rfl inA9 10 (by decide) rfl kf_X9_60 rfl dX9_nextTerm_31 ?_
  refine G_idiv C dX9_nextTerm_34 (q_ne h60 hp (by omega)) ?_
  refine G_putp C 40 (by decide) hh2 rfl inA9 tyX9_ok nmX9 10 (by decide) rfl kf_X9_60 rfl rfl rfl (fs' := [.ref (ad 41), .ref (ad 42), .ref (ad 43), .int ik, .ref (ad 44), .int kn, .ref (ad 45), .int ln, .int th, .int ((((tsq d i).2.1) * ((tsq d i).2.2)) - ((tsq d i).1)), .int (((nI d) - (((((tsq d i).2.1) * ((tsq d i).2.2)) - ((tsq d i).1)) * ((((tsq d i).2.1) * ((tsq d i).2.2)) - ((tsq d i).1)))) / ((tsq d i).2.1)), .int ((tsq d i).2.2), .long fx, .long fy, .long nx, .long ny, .long ux, .long uy, .int us, .long px, .long py, .ref (ad 46), .ref (ad 47), .int sp, .int bg, .int fo, .int le, .int fi, .int re, .int ca]) (Nat.le_of_ble_eq_true rfl) rfl dX9_nextTerm_35 (fun gg5 hh6 aa7 => ?_)
  have AA8 : Agr [40] G gg5 := AA4.tr aa7 (by simp) (by simp)
  refine G_aload_n C 0 dX9_nextTerm_38 rfl rfl ?_
  refine G_iload_n C 1 dX9_nextTerm_39 rfl rfl ?_
  refine G_callS C (As := [.int (nI d)]) (rest := [.ref (ad 40)]) (c_X9_root h2 h60) ca_X9_root km_X9_54 rfl rfl (by decide) (Nat.le_of_ble_eq_true rfl) (by decide) dX9_nextTerm_40 (fun vv9 gg10 qq11 => ?_)
  obtain ⟨rfl, rfl⟩ := qq11
  refine G_aload_n C 0 dX9_nextTerm_43 rfl rfl ?_
  refine G_get C 40 (by decide) hh6 rfl inA9 9 (by decide) rfl kf_X9_57 rfl dX9_nextTerm_44 ?_
  refine G_iadd C dX9_nextTerm_47 ?_
  refine G_aload_n C 0 dX9_nextTerm_48 rfl rfl ?_
  refine G_get C 40 (by decide) hh6 rfl inA9 10 (by decide) rfl kf_X9_60 rfl dX9_nextTerm_49 ?_
  refine G_idiv C dX9_nextTerm_52 (fun z => q_ne (i := i + 1) h60 hp (by omega) (by rw [tsq_s h60 hp hi]; exact z)) ?_
  refine G_putp C 40 (by decide) hh6 rfl inA9 tyX9_ok nmX9 11 (by decide) rfl kf_X9_63 rfl rfl rfl (fs' := [.ref (ad 41), .ref (ad 42), .ref (ad 43), .int ik, .ref (ad 44), .int kn, .ref (ad 45), .int ln, .int th, .int ((((tsq d i).2.1) * ((tsq d i).2.2)) - ((tsq d i).1)), .int (((nI d) - (((((tsq d i).2.1) * ((tsq d i).2.2)) - ((tsq d i).1)) * ((((tsq d i).2.1) * ((tsq d i).2.2)) - ((tsq d i).1)))) / ((tsq d i).2.1)), .int (((nI (wr d)) + ((((tsq d i).2.1) * ((tsq d i).2.2)) - ((tsq d i).1))) / (((nI d) - (((((tsq d i).2.1) * ((tsq d i).2.2)) - ((tsq d i).1)) * ((((tsq d i).2.1) * ((tsq d i).2.2)) - ((tsq d i).1)))) / ((tsq d i).2.1))), .long fx, .long fy, .long nx, .long ny, .long ux, .long uy, .int us, .long px, .long py, .ref (ad 46), .ref (ad 47), .int sp, .int bg, .int fo, .int le, .int fi, .int re, .int ca]) (Nat.le_of_ble_eq_true rfl) rfl dX9_nextTerm_53 (fun gg12 hh13 aa14 => ?_)
  have AA15 : Agr [40] G gg12 := AA8.tr aa14 (by simp) (by simp)
  exact G_vret C hr dX9_nextTerm_56 ⟨rfl, (by rw [hh13, tsq_s h60 hp hi]), AA15⟩

abbrev rm_X9_adds : Room := ({ frames := 0, cells := 0, slots := 0, locals := 0 } : Room)
set_option maxRecDepth 100000 in
set_option maxHeartbeats 4000000 in
theorem c_X9_adds {L : GL} {ad : Nat → Nat} {G : Nat → va_E} {d i : Nat} {ik kn ln th m q us sp bg fo le fi re ca : Int32} {ux uy px py : Int64}  (g40 : G 40 = .inr (9, [.ref (ad 41), .ref (ad 42), .ref (ad 43), .int ik, .ref (ad 44), .int kn, .ref (ad 45), .int ln, .int th, .int m, .int q, .int ((tsq d (i + 1)).2.2), .long ((uL d i).1), .long ((uL d i).2.1), .long ((uL d i).2.2.1), .long ((uL d i).2.2.2), .long ux, .long uy, .int us, .long px, .long py, .ref (ad 46), .ref (ad 47), .int sp, .int bg, .int fo, .int le, .int fi, .int re, .int ca]))  : GM L yX9_adds cX9_adds 5 (none) rm_X9_adds 50 ad G [.ref (ad 40)] (fun vo G' => vo = none ∧ G' 40 = .inr (9, [.ref (ad 41), .ref (ad 42), .ref (ad 43), .int ik, .ref (ad 44), .int kn, .ref (ad 45), .int ln, .int th, .int m, .int q, .int ((tsq d (i + 1)).2.2), .long ((uL d (i + 1)).1), .long ((uL d (i + 1)).2.1), .long ((uL d (i + 1)).2.2.1), .long ((uL d (i + 1)).2.2.2), .long ux, .long uy, .int us, .long px, .long py, .ref (ad 46), .ref (ad 47), .int sp, .int bg, .int fo, .int le, .int fi, .int re, .int ca]) ∧ Agr [40] G G') := by
  refine GM.of (own := RX9) (lo := [(0, .ref (ad 40))]) (by decide +kernel) rfl rfl (Nat.le_of_ble_eq_true rfl) (fun E C hr => ?_)
  refine G_aload_n C 0 dX9_adds_0 rfl rfl ?_
  refine G_get C 40 (by decide) g40 rfl inA9 11 (by decide) rfl kf_X9_63 rfl dX9_adds_1 ?_
  refine G_i2l C dX9_adds_4 rfl ?_
  refine G_aload_n C 0 dX9_adds_5 rfl rfl ?_
  refine G_get C 40 (by decide) g40 rfl inA9 14 (by decide) rfl kf_X9_73 rfl dX9_adds_6 ?_
  refine G_lmul C dX9_adds_9 ?_
  refine G_aload_n C 0 dX9_adds_10 rfl rfl ?_
  refine G_get C 40 (by decide) g40 rfl inA9 12 (by decide) rfl kf_X9_66 rfl dX9_adds_11 ?_
  refine G_ladd C dX9_adds_14 ?_
  refine G_lstore_n C 1 (lo' := [(1, .long (((((tsq d (i + 1)).2.2).toInt64) * ((uL d i).2.2.1)) + ((uL d i).1))), (0, .ref (ad 40))]) dX9_adds_15 rfl (by decide) rfl ?_
  refine G_aload_n C 0 dX9_adds_16 rfl rfl ?_
  refine G_get C 40 (by decide) g40 rfl inA9 11 (by decide) rfl kf_X9_63 rfl dX9_adds_17 ?_
  refine G_i2l C dX9_adds_20 rfl ?_
  refine G_aload_n C 0 dX9_adds_21 rfl rfl ?_
  refine G_get C 40 (by decide) g40 rfl inA9 15 (by decide) rfl kf_X9_76 rfl dX9_adds_22 ?_
  refine G_lmul C dX9_adds_25 ?_
  refine G_aload_n C 0 dX9_adds_26 rfl rfl ?_
  refine G_get C 40 (by decide) g40 rfl inA9 13 (by decide) rfl kf_X9_70 rfl dX9_adds_27 ?_
  refine G_ladd C dX9_adds_30 ?_
  refine G_lstore_n C 3 (lo' := [(3, .long (((((tsq d (i + 1)).2.2).toInt64) * ((uL d i).2.2.2)) + ((uL d i).2.1))), (1, .long (((((tsq d (i + 1)).2.2).toInt64) * ((uL d i).2.2.1)) + ((uL d i).1))), (0, .ref (ad 40))]) dX9_adds_31 rfl (by decide) rfl ?_
  refine G_aload_n C 0 dX9_adds_32 rfl rfl ?_
  refine G_aload_n C 0 dX9_adds_33 rfl rfl ?_
  refine G_get C 40 (by decide) g40 rfl inA9 14 (by decide) rfl kf_X9_73 rfl dX9_adds_34 ?_
  refine G_putp C 40 (by decide) g40 rfl inA9 tyX9_ok nmX9 12 (by decide) rfl kf_X9_66 rfl rfl rfl (fs' := [.ref (ad 41), .ref (ad 42), .ref (ad 43), .int ik, .ref (ad 44), .int kn, .ref (ad 45), .int ln, .int th, .int m, .int q, .int ((tsq d (i + 1)).2.2), .long ((uL d i).2.2.1), .long ((uL d i).2.1), .long ((uL d i).2.2.1), .long ((uL d i).2.2.2), .long ux, .long uy, .int us, .long px, .long py, .ref (ad 46), .ref (ad 47), .int sp, .int bg, .int fo, .int le, .int fi, .int re, .int ca]) (Nat.le_of_ble_eq_true rfl) rfl dX9_adds_37 (fun gg1 hh2 aa3 => ?_)
  have AA4 : Agr [40] G gg1 := aa3.wk (by simp)
  refine G_aload_n C 0 dX9_adds_40 rfl rfl ?_
  refine G_aload_n C 0 dX9_adds_41 rfl rfl ?_
  refine G_get C 40 (by decide) hh2 rfl inA9 15 (by decide) rfl kf_X9_76 rfl dX9_adds_42 ?_
  refine G_putp C 40 (by decide) hh2 rfl inA9 tyX9_ok nmX9 13 (by decide) rfl kf_X9_70 rfl rfl rfl (fs' := [.ref (ad 41), .ref (ad 42), .ref (ad 43), .int ik, .ref (ad 44), .int kn, .ref (ad 45), .int ln, .int th, .int m, .int q, .int ((tsq d (i + 1)).2.2), .long ((uL d i).2.2.1), .long ((uL d i).2.2.2), .long ((uL d i).2.2.1), .long ((uL d i).2.2.2), .long ux, .long uy, .int us, .long px, .long py, .ref (ad 46), .ref (ad 47), .int sp, .int bg, .int fo, .int le, .int fi, .int re, .int ca]) (Nat.le_of_ble_eq_true rfl) rfl dX9_adds_45 (fun gg5 hh6 aa7 => ?_)
  have AA8 : Agr [40] G gg5 := AA4.tr aa7 (by simp) (by simp)
  refine G_aload_n C 0 dX9_adds_48 rfl rfl ?_
  refine G_lload_n C 1 dX9_adds_49 rfl rfl ?_
  refine G_putp C 40 (by decide) hh6 rfl inA9 tyX9_ok nmX9 14 (by decide) rfl kf_X9_73 rfl rfl rfl (fs' := [.ref (ad 41), .ref (ad 42), .ref (ad 43), .int ik, .ref (ad 44), .int kn, .ref (ad 45), .int ln, .int th, .int m, .int q, .int ((tsq d (i + 1)).2.2), .long ((uL d i).2.2.1), .long ((uL d i).2.2.2), .long (((((tsq d (i + 1)).2.2).toInt64) * ((uL d i).2.2.1)) + ((uL d i).1)), .long ((uL d i).2.2.2), .long ux, .long uy, .int us, .long px, .long py, .ref (ad 46), .ref (ad 47), .int sp, .int bg, .int fo, .int le, .int fi, .int re, .int ca]) (Nat.le_of_ble_eq_true rfl) rfl dX9_adds_50 (fun gg9 hh10 aa11 => ?_)
  have AA12 : Agr [40] G gg9 := AA8.tr aa11 (by simp) (by simp)
  refine G_aload_n C 0 dX9_adds_53 rfl rfl ?_
  refine G_lload_n C 3 dX9_adds_54 rfl rfl ?_
  refine G_putp C 40 (by decide) hh10 rfl inA9 tyX9_ok nmX9 15 (by decide) rfl kf_X9_76 rfl rfl rfl (fs' := [.ref (ad 41), .ref (ad 42), .ref (ad 43), .int ik, .ref (ad 44), .int kn, .ref (ad 45), .int ln, .int th, .int m, .int q, .int ((tsq d (i + 1)).2.2), .long ((uL d i).2.2.1), .long ((uL d i).2.2.2), .long (((((tsq d (i + 1)).2.2).toInt64) * ((uL d i).2.2.1)) + ((uL d i).1)), .long (((((tsq d (i + 1)).2.2).toInt64) * ((uL d i).2.2.2)) + ((uL d i).2.1)), .long ux, .long uy, .int us, .long px, .long py, .ref (ad 46), .ref (ad 47), .int sp, .int bg, .int fo, .int le, .int fi, .int re, .int ca]) (Nat.le_of_ble_eq_true rfl) rfl dX9_adds_55 (fun gg13 hh14 aa15 => ?_)
  have AA16 : Agr [40] G gg13 := AA12.tr aa15 (by simp) (by simp)
  exact G_vret C hr dX9_adds_58 ⟨rfl, hh14, AA16⟩

abbrev rm_X9_period : Room := ({ frames := 2, cells := 0, slots := 0, locals := 42 } : Room)
set_option maxRecDepth 100000 in
set_option maxHeartbeats 4000000 in
theorem c_X9_period {L : GL} {ad : Nat → Nat} {G : Nat → va_E} {d : Nat} {ik kn ln th m q te us sp bg fo le fi re ca : Int32} {fx fy nx ny ux uy px py : Int64}  (g40 : G 40 = .inr (9, [.ref (ad 41), .ref (ad 42), .ref (ad 43), .int ik, .ref (ad 44), .int kn, .ref (ad 45), .int ln, .int th, .int m, .int q, .int te, .long fx, .long fy, .long nx, .long ny, .long ux, .long uy, .int us, .long px, .long py, .ref (ad 46), .ref (ad 47), .int sp, .int bg, .int fo, .int le, .int fi, .int re, .int ca])) (h2 : 2 ≤ d) (h60 : d ≤ 60) (hp : pern d ≠ 0) : GM L yX9_period cX9_period 3 ((some .int)) rm_X9_period 50 ad G [.ref (ad 40), .int (nI d)] (fun vo G' => ∃ (j1 : Int32) (j2 : Int32) (j3 : Int32) (j4 : Int64) (j5 : Int64), vo = some (.int (nI (pern d))) ∧ G' 40 = .inr (9, [.ref (ad 41), .ref (ad 42), .ref (ad 43), .int ik, .ref (ad 44), .int kn, .ref (ad 45), .int ln, .int th, .int j1, .int j2, .int j3, .long j4, .long j5, .long ((tUx d).toInt64), .long ((tUy d).toInt64), .long ux, .long uy, .int us, .long px, .long py, .ref (ad 46), .ref (ad 47), .int sp, .int bg, .int fo, .int le, .int fi, .int re, .int ca]) ∧ Agr [40] G G') := by
  refine GM.of (own := RX9) (lo := [(0, .ref (ad 40)), (1, .int (nI d))]) (by decide +kernel) rfl rfl (Nat.le_of_ble_eq_true rfl) (fun E C hr => ?_)
  refine G_aload_n C 0 dX9_period_0 rfl rfl ?_
  refine G_iload_n C 1 dX9_period_1 rfl rfl ?_
  refine G_callV C (As := [.int (nI d)]) (rest := []) (c_X9_beginsTerms g40 h2 h60) ca_X9_beginsTerms km_X9_79 (by decide) g40 rfl rfl rfl rfl (by decide) (Nat.le_of_ble_eq_true rfl) (by decide) dX9_period_2 (fun vv1 gg2 qq3 => ?_)
  obtain ⟨rfl, hh4, aa5⟩ := qq3
  have AA6 : Agr [40] G gg2 := aa5.wk (by simp)
  refine G_iconst C (v := 1) dX9_period_5 (by decide) ?_
  refine G_istore_n C 2 (lo' := [(2, .int 1), (0, .ref (ad 40)), (1, .int (nI d))]) dX9_period_6 rfl (by decide) rfl ?_
  refine G_aload_n C 0 dX9_period_7 rfl rfl ?_
  refine G_iload_n C 1 dX9_period_8 rfl rfl ?_
  refine G_callV C (As := [.int (nI d)]) (rest := []) (c_X9_nextTerm hh4 h2 h60 hp (show 0 < 100 by decide)) ca_X9_nextTerm km_X9_83 (by decide) hh4 rfl rfl rfl rfl (by decide) (Nat.le_of_ble_eq_true rfl) (by decide) dX9_period_9 (fun vv7 gg8 qq9 => ?_)
  obtain ⟨rfl, hh10, aa11⟩ := qq9
  have AA12 : Agr [40] G gg8 := AA6.tr aa11 (by simp) (by simp)
  have key12 : ∀ (n : Nat) (i : Nat) (G1 : Nat → va_E) (hf12_40 : G1 40 = .inr (9, [.ref (ad 41), .ref (ad 42), .ref (ad 43), .int ik, .ref (ad 44), .int kn, .ref (ad 45), .int ln, .int th, .int ((tsq d (i + 1)).1), .int ((tsq d (i + 1)).2.1), .int ((tsq d (i + 1)).2.2), .long ((uL d i).1), .long ((uL d i).2.1), .long ((uL d i).2.2.1), .long ((uL d i).2.2.2), .long ux, .long uy, .int us, .long px, .long py, .ref (ad 46), .ref (ad 47), .int sp, .int bg, .int fo, .int le, .int fi, .int re, .int ca])) (ha12 : Agr [40] G G1) (hn : pern d - i < n) (hi : i < pern d), GW L E 50 ad G1 0 0 12 [(2, .int (nI (i + 1))), (0, .ref (ad 40)), (1, .int (nI d))] [] := by
    intro n
    induction n with
    | zero =>
      intro i G1 hf12_40 ha12 hn hi
      exact absurd hn (Nat.not_lt_zero _)
    | succ n ih =>
      intro i G1 hf12_40 ha12 hn hi
      have h12 := per_lt d (by omega)
      have hpe := per_end d (by omega) i (by omega) hi
      rw [show (2 : Int32) * nI (wr d) = nI (2 * wr d) from nI_mul 2 (wr d)] at hpe
      refine G_aload_n C 0 dX9_period_12 rfl rfl ?_
      refine G_get C 40 (by decide) hf12_40 rfl inA9 11 (by decide) rfl kf_X9_63 rfl dX9_period_13 ?_
      refine G_iconst C (v := 2) dX9_period_16 (by decide) ?_
      refine G_iload_n C 1 dX9_period_17 rfl rfl ?_
      refine G_callS C (As := [.int (nI d)]) (rest := [.int 2, .int ((tsq d (i + 1)).2.2)]) (c_X9_root h2 h60) ca_X9_root km_X9_54 rfl rfl (by decide) (Nat.le_of_ble_eq_true rfl) (by decide) dX9_period_18 (fun vv13 gg14 qq15 => ?_)
      obtain ⟨rfl, rfl⟩ := qq15
      refine G_imul C dX9_period_21 ?_
      refine GW.topr (cI_mul (a := 2) (b := (wr d)) rfl rfl) ?_
      refine G_icmp_eq C 40 dX9_period_22 (by decide) (fun c22 => ?_) (fun c22 => ?_)
      · refine G_iload_n C 2 dX9_period_40 rfl rfl ?_
        exact G_zret C hr rfl dX9_period_41 ⟨_, _, _, _, _, (by rw [hpe.mp c22]), (by rw [hf12_40, ← (ul_ok d (by omega) hp).1, ← (ul_ok d (by omega) hp).2, show pern d - 1 = i by have := hpe.mp c22; omega]), ha12⟩
      · refine G_aload_n C 0 dX9_period_25 rfl rfl ?_
        refine G_callV C (As := []) (rest := []) (c_X9_adds  hf12_40) ca_X9_adds km_X9_86 (by decide) hf12_40 rfl rfl rfl rfl (by decide) (Nat.le_of_ble_eq_true rfl) (by decide) dX9_period_26 (fun vv16 gg17 qq18 => ?_)
        obtain ⟨rfl, hh19, aa20⟩ := qq18
        have AA21 : Agr [40] G gg17 := ha12.tr aa20 (by simp) (by simp)
        refine G_aload_n C 0 dX9_period_29 rfl rfl ?_
        refine G_iload_n C 1 dX9_period_30 rfl rfl ?_
        refine G_callV C (As := [.int (nI d)]) (rest := []) (c_X9_nextTerm hh19 h2 h60 hp (show i + 1 < 100 by omega)) ca_X9_nextTerm km_X9_83 (by decide) hh19 rfl rfl rfl rfl (by decide) (Nat.le_of_ble_eq_true rfl) (by decide) dX9_period_31 (fun vv22 gg23 qq24 => ?_)
        obtain ⟨rfl, hh25, aa26⟩ := qq24
        have AA27 : Agr [40] G gg23 := AA21.tr aa26 (by simp) (by simp)
        refine G_iinc C (v := nI ((i + 1) + 1)) (lo' := [(2, .int (nI ((i + 1) + 1))), (0, .ref (ad 40)), (1, .int (nI d))]) dX9_period_34 rfl (nI_add _ _) (by decide) rfl ?_
        refine G_goto C 12 dX9_period_37 (by decide) ?_
        exact ih (i + 1) gg23 hh25 AA27 (by have : i + 1 ≠ pern d := fun z => c22 (hpe.mpr z); omega) (by have : i + 1 ≠ pern d := fun z => c22 (hpe.mpr z); omega)
  exact key12 (pern d + 1) 0 gg8 hh10 AA12 (by omega) (by omega)

