theorem nI_dec {h i : Nat} (hi : i < h) : nI (h - i) + (-1) = nI (h - (i + 1)) := by
  obtain ⟨k, hk⟩ : ∃ k, h - i = k + 1 := ⟨h - i - 1, by omega⟩
  rw [hk, show h - (i + 1) = k by omega, ← Int32.sub_eq_add_neg]
  exact nI_pred k
/-- one step of the model's powers -/
def grF (ux uy : Int64) (n : Int32) (x y : Int64) : Int32 × Int64 × Int64 :=
  if x ≤ 1000000000000000 / ux then (if x * ux + n.toInt64 * y * uy ≤ 1000000000000000 then (1, x * ux + n.toInt64 * y * uy, x * uy + y * ux) else (0, x, y)) else (0, x, y)
theorem grw_0 : ∀ d, d < 61 → pern d ≠ 0 → ∀ k, k < 40 → k ≤ gpn d → (grF (tUx d).toInt64 (tUy d).toInt64 (nI d) (pwr d k).1 (pwr d k).2).1 = (if k < gpn d then 1 else 0) ∧
    (grF (tUx d).toInt64 (tUy d).toInt64 (nI d) (pwr d k).1 (pwr d k).2).2.1 = (pwr d (if k < gpn d then k + 1 else k)).1 ∧ (grF (tUx d).toInt64 (tUy d).toInt64 (nI d) (pwr d k).1 (pwr d k).2).2.2 = (pwr d (if k < gpn d then k + 1 else k)).2 := by decide +kernel
theorem ux_ne : ∀ d, d < 61 → pern d ≠ 0 → ¬ (tUx d).toInt64 = 0 := by decide +kernel
theorem sg_d : ∀ d, d < 61 → pern d ≠ 0 → sgF (nI d) = if nI (pern d) - nI (pern d) / 2 * 2 = 0 then 1 else -1 := by decide +kernel
abbrev rm_X9_beginsPowers : Room := ({ frames := 3, cells := 0, slots := 0, locals := 64 } : Room)
set_option maxRecDepth 100000 in
set_option maxHeartbeats 4000000 in
theorem c_X9_beginsPowers {L : GL} {ad : Nat → Nat} {G : Nat → va_E} {d : Nat} {ik kn ln th m q te us sp bg fo le fi re ca : Int32} {fx fy nx ny ux uy px py : Int64}  (g40 : G 40 = .inr (9, [.ref (ad 41), .ref (ad 42), .ref (ad 43), .int ik, .ref (ad 44), .int kn, .ref (ad 45), .int ln, .int th, .int m, .int q, .int te, .long fx, .long fy, .long nx, .long ny, .long ux, .long uy, .int us, .long px, .long py, .ref (ad 46), .ref (ad 47), .int sp, .int bg, .int fo, .int le, .int fi, .int re, .int ca])) (h2 : 2 ≤ d) (h60 : d ≤ 60) (hp : pern d ≠ 0) : GM L yX9_beginsPowers cX9_beginsPowers 2 (none) rm_X9_beginsPowers 50 ad G [.ref (ad 40), .int (nI d)] (fun vo G' => ∃ (j1 : Int32) (j2 : Int32) (j3 : Int32) (j4 : Int64) (j5 : Int64) (j6 : Int64) (j7 : Int64), vo = none ∧ G' 40 = .inr (9, [.ref (ad 41), .ref (ad 42), .ref (ad 43), .int ik, .ref (ad 44), .int kn, .ref (ad 45), .int ln, .int th, .int j1, .int j2, .int j3, .long j4, .long j5, .long j6, .long j7, .long ((tUx d).toInt64), .long ((tUy d).toInt64), .int (sgF (nI d)), .long ((pwr d 0).1), .long ((pwr d 0).2), .ref (ad 46), .ref (ad 47), .int sp, .int bg, .int fo, .int le, .int fi, .int re, .int ca]) ∧ Agr [40] G G') := by
  refine GM.of (own := RX9) (lo := [(0, .ref (ad 40)), (1, .int (nI d))]) (by decide +kernel) rfl rfl (Nat.le_of_ble_eq_true rfl) (fun E C hr => ?_)
  refine G_aload_n C 0 dX9_beginsPowers_0 rfl rfl ?_
  refine G_aload_n C 0 dX9_beginsPowers_1 rfl rfl ?_
  refine G_iload_n C 1 dX9_beginsPowers_2 rfl rfl ?_
  refine G_callV C (As := [.int (nI d)]) (rest := [.ref (ad 40)]) (c_X9_period g40 h2 h60 hp) ca_X9_period km_X9_92 (by decide) g40 rfl rfl rfl rfl (by decide) (Nat.le_of_ble_eq_true rfl) (by decide) dX9_beginsPowers_3 (fun vv1 gg2 qq3 => ?_)
  obtain ⟨j_4, j_5, j_6, j_7, j_8, rfl, hh9, aa10⟩ := qq3
  have AA11 : Agr [40] G gg2 := aa10.wk (by simp)
  refine G_iconst C (v := 2) dX9_beginsPowers_6 (by decide) ?_
  refine G_irem C dX9_beginsPowers_7 (by decide) ?_
  refine G_if_ne C 15 dX9_beginsPowers_8 (by decide) (fun c8 => ?_) (fun c8 => ?_)
  · refine G_iconst C (v := (-1)) dX9_beginsPowers_15 (by decide) ?_
    refine GW.topr (y := sgF (nI d)) (by rw [sg_d d (by omega) hp, if_neg c8]) ?_
    refine G_putp C 40 (by decide) hh9 rfl inA9 tyX9_ok nmX9 18 (by decide) rfl kf_X9_95 rfl rfl rfl (fs' := [.ref (ad 41), .ref (ad 42), .ref (ad 43), .int ik, .ref (ad 44), .int kn, .ref (ad 45), .int ln, .int th, .int j_4, .int j_5, .int j_6, .long j_7, .long j_8, .long ((tUx d).toInt64), .long ((tUy d).toInt64), .long ux, .long uy, .int (sgF (nI d)), .long px, .long py, .ref (ad 46), .ref (ad 47), .int sp, .int bg, .int fo, .int le, .int fi, .int re, .int ca]) (Nat.le_of_ble_eq_true rfl) rfl dX9_beginsPowers_16 (fun gg12 hh13 aa14 => ?_)
    have AA15 : Agr [40] G gg12 := AA11.tr aa14 (by simp) (by simp)
    refine G_aload_n C 0 dX9_beginsPowers_19 rfl rfl ?_
    refine G_aload_n C 0 dX9_beginsPowers_20 rfl rfl ?_
    refine G_get C 40 (by decide) hh13 rfl inA9 14 (by decide) rfl kf_X9_73 rfl dX9_beginsPowers_21 ?_
    refine G_putp C 40 (by decide) hh13 rfl inA9 tyX9_ok nmX9 16 (by decide) rfl kf_X9_98 rfl rfl rfl (fs' := [.ref (ad 41), .ref (ad 42), .ref (ad 43), .int ik, .ref (ad 44), .int kn, .ref (ad 45), .int ln, .int th, .int j_4, .int j_5, .int j_6, .long j_7, .long j_8, .long ((tUx d).toInt64), .long ((tUy d).toInt64), .long ((tUx d).toInt64), .long uy, .int (sgF (nI d)), .long px, .long py, .ref (ad 46), .ref (ad 47), .int sp, .int bg, .int fo, .int le, .int fi, .int re, .int ca]) (Nat.le_of_ble_eq_true rfl) rfl dX9_beginsPowers_24 (fun gg16 hh17 aa18 => ?_)
    have AA19 : Agr [40] G gg16 := AA15.tr aa18 (by simp) (by simp)
    refine G_aload_n C 0 dX9_beginsPowers_27 rfl rfl ?_
    refine G_aload_n C 0 dX9_beginsPowers_28 rfl rfl ?_
    refine G_get C 40 (by decide) hh17 rfl inA9 15 (by decide) rfl kf_X9_76 rfl dX9_beginsPowers_29 ?_
    refine G_putp C 40 (by decide) hh17 rfl inA9 tyX9_ok nmX9 17 (by decide) rfl kf_X9_101 rfl rfl rfl (fs' := [.ref (ad 41), .ref (ad 42), .ref (ad 43), .int ik, .ref (ad 44), .int kn, .ref (ad 45), .int ln, .int th, .int j_4, .int j_5, .int j_6, .long j_7, .long j_8, .long ((tUx d).toInt64), .long ((tUy d).toInt64), .long ((tUx d).toInt64), .long ((tUy d).toInt64), .int (sgF (nI d)), .long px, .long py, .ref (ad 46), .ref (ad 47), .int sp, .int bg, .int fo, .int le, .int fi, .int re, .int ca]) (Nat.le_of_ble_eq_true rfl) rfl dX9_beginsPowers_32 (fun gg20 hh21 aa22 => ?_)
    have AA23 : Agr [40] G gg20 := AA19.tr aa22 (by simp) (by simp)
    refine G_aload_n C 0 dX9_beginsPowers_35 rfl rfl ?_
    refine G_lconst C (v := 1) dX9_beginsPowers_36 (by decide) ?_
    refine G_putp C 40 (by decide) hh21 rfl inA9 tyX9_ok nmX9 19 (by decide) rfl kf_X9_104 rfl rfl rfl (fs' := [.ref (ad 41), .ref (ad 42), .ref (ad 43), .int ik, .ref (ad 44), .int kn, .ref (ad 45), .int ln, .int th, .int j_4, .int j_5, .int j_6, .long j_7, .long j_8, .long ((tUx d).toInt64), .long ((tUy d).toInt64), .long ((tUx d).toInt64), .long ((tUy d).toInt64), .int (sgF (nI d)), .long 1, .long py, .ref (ad 46), .ref (ad 47), .int sp, .int bg, .int fo, .int le, .int fi, .int re, .int ca]) (Nat.le_of_ble_eq_true rfl) rfl dX9_beginsPowers_37 (fun gg24 hh25 aa26 => ?_)
    have AA27 : Agr [40] G gg24 := AA23.tr aa26 (by simp) (by simp)
    refine G_aload_n C 0 dX9_beginsPowers_40 rfl rfl ?_
    refine G_lconst C (v := 0) dX9_beginsPowers_41 (by decide) ?_
    refine G_putp C 40 (by decide) hh25 rfl inA9 tyX9_ok nmX9 20 (by decide) rfl kf_X9_107 rfl rfl rfl (fs' := [.ref (ad 41), .ref (ad 42), .ref (ad 43), .int ik, .ref (ad 44), .int kn, .ref (ad 45), .int ln, .int th, .int j_4, .int j_5, .int j_6, .long j_7, .long j_8, .long ((tUx d).toInt64), .long ((tUy d).toInt64), .long ((tUx d).toInt64), .long ((tUy d).toInt64), .int (sgF (nI d)), .long 1, .long 0, .ref (ad 46), .ref (ad 47), .int sp, .int bg, .int fo, .int le, .int fi, .int re, .int ca]) (Nat.le_of_ble_eq_true rfl) rfl dX9_beginsPowers_42 (fun gg28 hh29 aa30 => ?_)
    have AA31 : Agr [40] G gg28 := AA27.tr aa30 (by simp) (by simp)
    exact G_vret C hr dX9_beginsPowers_45 ⟨_, _, _, _, _, _, _, rfl, hh29, AA31⟩
  · refine G_iconst C (v := 1) dX9_beginsPowers_11 (by decide) ?_
    refine G_goto C 16 dX9_beginsPowers_12 (by decide) ?_
    refine GW.topr (y := sgF (nI d)) (by rw [sg_d d (by omega) hp, if_pos c8]) ?_
    refine G_putp C 40 (by decide) hh9 rfl inA9 tyX9_ok nmX9 18 (by decide) rfl kf_X9_95 rfl rfl rfl (fs' := [.ref (ad 41), .ref (ad 42), .ref (ad 43), .int ik, .ref (ad 44), .int kn, .ref (ad 45), .int ln, .int th, .int j_4, .int j_5, .int j_6, .long j_7, .long j_8, .long ((tUx d).toInt64), .long ((tUy d).toInt64), .long ux, .long uy, .int (sgF (nI d)), .long px, .long py, .ref (ad 46), .ref (ad 47), .int sp, .int bg, .int fo, .int le, .int fi, .int re, .int ca]) (Nat.le_of_ble_eq_true rfl) rfl dX9_beginsPowers_16 (fun gg32 hh33 aa34 => ?_)
    have AA35 : Agr [40] G gg32 := AA11.tr aa34 (by simp) (by simp)
    refine G_aload_n C 0 dX9_beginsPowers_19 rfl rfl ?_
    refine G_aload_n C 0 dX9_beginsPowers_20 rfl rfl ?_
    refine G_get C 40 (by decide) hh33 rfl inA9 14 (by decide) rfl kf_X9_73 rfl dX9_beginsPowers_21 ?_
    refine G_putp C 40 (by decide) hh33 rfl inA9 tyX9_ok nmX9 16 (by decide) rfl kf_X9_98 rfl rfl rfl (fs' := [.ref (ad 41), .ref (ad 42), .ref (ad 43), .int ik, .ref (ad 44), .int kn, .ref (ad 45), .int ln, .int th, .int j_4, .int j_5, .int j_6, .long j_7, .long j_8, .long ((tUx d).toInt64), .long ((tUy d).toInt64), .long ((tUx d).toInt64), .long uy, .int (sgF (nI d)), .long px, .long py, .ref (ad 46), .ref (ad 47), .int sp, .int bg, .int fo, .int le, .int fi, .int re, .int ca]) (Nat.le_of_ble_eq_true rfl) rfl dX9_beginsPowers_24 (fun gg36 hh37 aa38 => ?_)
    have AA39 : Agr [40] G gg36 := AA35.tr aa38 (by simp) (by simp)
    refine G_aload_n C 0 dX9_beginsPowers_27 rfl rfl ?_
    refine G_aload_n C 0 dX9_beginsPowers_28 rfl rfl ?_
    refine G_get C 40 (by decide) hh37 rfl inA9 15 (by decide) rfl kf_X9_76 rfl dX9_beginsPowers_29 ?_
    refine G_putp C 40 (by decide) hh37 rfl inA9 tyX9_ok nmX9 17 (by decide) rfl kf_X9_101 rfl rfl rfl (fs' := [.ref (ad 41), .ref (ad 42), .ref (ad 43), .int ik, .ref (ad 44), .int kn, .ref (ad 45), .int ln, .int th, .int j_4, .int j_5, .int j_6, .long j_7, .long j_8, .long ((tUx d).toInt64), .long ((tUy d).toInt64), .long ((tUx d).toInt64), .long ((tUy d).toInt64), .int (sgF (nI d)), .long px, .long py, .ref (ad 46), .ref (ad 47), .int sp, .int bg, .int fo, .int le, .int fi, .int re, .int ca]) (Nat.le_of_ble_eq_true rfl) rfl dX9_beginsPowers_32 (fun gg40 hh41 aa42 => ?_)
    have AA43 : Agr [40] G gg40 := AA39.tr aa42 (by simp) (by simp)
    refine G_aload_n C 0 dX9_beginsPowers_35 rfl rfl ?_
    refine G_lconst C (v := 1) dX9_beginsPowers_36 (by decide) ?_
    refine G_putp C 40 (by decide) hh41 rfl inA9 tyX9_ok nmX9 19 (by decide) rfl kf_X9_104 rfl rfl rfl (fs' := [.ref (ad 41), .ref (ad 42), .ref (ad 43), .int ik, .ref (ad 44), .int kn, .ref (ad 45), .int ln, .int th, .int j_4, .int j_5, .int j_6, .long j_7, .long j_8, .long ((tUx d).toInt64), .long ((tUy d).toInt64), .long ((tUx d).toInt64), .long ((tUy d).toInt64), .int (sgF (nI d)), .long 1, .long py, .ref (ad 46), .ref (ad 47), .int sp, .int bg, .int fo, .int le, .int fi, .int re, .int ca]) (Nat.le_of_ble_eq_true rfl) rfl dX9_beginsPowers_37 (fun gg44 hh45 aa46 => ?_)
    have AA47 : Agr [40] G gg44 := AA43.tr aa46 (by simp) (by simp)
    refine G_aload_n C 0 dX9_beginsPowers_40 rfl rfl ?_
    refine G_lconst C (v := 0) dX9_beginsPowers_41 (by decide) ?_
    refine G_putp C 40 (by decide) hh45 rfl inA9 tyX9_ok nmX9 20 (by decide) rfl kf_X9_107 rfl rfl rfl (fs' := [.ref (ad 41), .ref (ad 42), .ref (ad 43), .int ik, .ref (ad 44), .int kn, .ref (ad 45), .int ln, .int th, .int j_4, .int j_5, .int j_6, .long j_7, .long j_8, .long ((tUx d).toInt64), .long ((tUy d).toInt64), .long ((tUx d).toInt64), .long ((tUy d).toInt64), .int (sgF (nI d)), .long 1, .long 0, .ref (ad 46), .ref (ad 47), .int sp, .int bg, .int fo, .int le, .int fi, .int re, .int ca]) (Nat.le_of_ble_eq_true rfl) rfl dX9_beginsPowers_42 (fun gg48 hh49 aa50 => ?_)
    have AA51 : Agr [40] G gg48 := AA47.tr aa50 (by simp) (by simp)
    exact G_vret C hr dX9_beginsPowers_45 ⟨_, _, _, _, _, _, _, rfl, hh49, AA51⟩

abbrev rm_X9_grows : Room := ({ frames := 0, cells := 0, slots := 0, locals := 0 } : Room)
set_option maxRecDepth 100000 in
set_option maxHeartbeats 4000000 in
theorem c_X9_grows {L : GL} {ad : Nat → Nat} {G : Nat → va_E} {n : Int32} {ik kn ln th m q te us sp bg fo le fi re ca : Int32} {fx fy nx ny ux uy px py : Int64}  (g40 : G 40 = .inr (9, [.ref (ad 41), .ref (ad 42), .ref (ad 43), .int ik, .ref (ad 44), .int kn, .ref (ad 45), .int ln, .int th, .int m, .int q, .int te, .long fx, .long fy, .long nx, .long ny, .long ux, .long uy, .int us, .long px, .long py, .ref (ad 46), .ref (ad 47), .int sp, .int bg, .int fo, .int le, .int fi, .int re, .int ca])) (hu : ¬ ux = 0) : GM L yX9_grows cX9_grows 4 ((some .boolean)) rm_X9_grows 50 ad G [.ref (ad 40), .int n] (fun vo G' => vo = some (.int ((grF ux uy n px py).1)) ∧ G' 40 = .inr (9, [.ref (ad 41), .ref (ad 42), .ref (ad 43), .int ik, .ref (ad 44), .int kn, .ref (ad 45), .int ln, .int th, .int m, .int q, .int te, .long fx, .long fy, .long nx, .long ny, .long ux, .long uy, .int us, .long ((grF ux uy n px py).2.1), .long ((grF ux uy n px py).2.2), .ref (ad 46), .ref (ad 47), .int sp, .int bg, .int fo, .int le, .int fi, .int re, .int ca]) ∧ Agr [40] G G') := by
  refine GM.of (own := RX9) (lo := [(0, .ref (ad 40)), (1, .int n)]) (by decide +kernel) rfl rfl (Nat.le_of_ble_eq_true rfl) (fun E C hr => ?_)
  refine G_aload_n C 0 dX9_grows_0 rfl rfl ?_
  refine G_get C 40 (by decide) g40 rfl inA9 19 (by decide) rfl kf_X9_104 rfl dX9_grows_1 ?_
  refine G_ldc2 C dX9_grows_4 kl_X9_110 ?_
  refine G_aload_n C 0 dX9_grows_7 rfl rfl ?_
  refine G_get C 40 (by decide) g40 rfl inA9 16 (by decide) rfl kf_X9_98 rfl dX9_grows_8 ?_
  refine G_ldiv C dX9_grows_11 hu ?_
  refine G_lc_le C 18 dX9_grows_12 dX9_grows_13 (by decide) (fun c12 => ?_) (fun c12 => ?_)
  · refine G_aload_n C 0 dX9_grows_18 rfl rfl ?_
    refine G_get C 40 (by decide) g40 rfl inA9 19 (by decide) rfl kf_X9_104 rfl dX9_grows_19 ?_
    refine G_aload_n C 0 dX9_grows_22 rfl rfl ?_
    refine G_get C 40 (by decide) g40 rfl inA9 16 (by decide) rfl kf_X9_98 rfl dX9_grows_23 ?_
    refine G_lmul C dX9_grows_26 ?_
    refine G_iload_n C 1 dX9_grows_27 rfl rfl ?_
    refine G_i2l C dX9_grows_28 rfl ?_
    refine G_aload_n C 0 dX9_grows_29 rfl rfl ?_
    refine G_get C 40 (by decide) g40 rfl inA9 20 (by decide) rfl kf_X9_107 rfl dX9_grows_30 ?_
    refine G_lmul C dX9_grows_33 ?_
    refine G_aload_n C 0 dX9_grows_34 rfl rfl ?_
    refine G_get C 40 (by decide) g40 rfl inA9 17 (by decide) rfl kf_X9_101 rfl dX9_grows_35 ?_
    refine G_lmul C dX9_grows_38 ?_
    refine G_ladd C dX9_grows_39 ?_
    refine G_lstore_n C 2 (lo' := [(2, .long ((px * ux) + ((n.toInt64 * py) * uy))), (0, .ref (ad 40)), (1, .int n)]) dX9_grows_40 rfl (by decide) rfl ?_
    refine G_lload_n C 2 dX9_grows_41 rfl rfl ?_
    refine G_ldc2 C dX9_grows_42 kl_X9_110 ?_
    refine G_lc_le C 51 dX9_grows_45 dX9_grows_46 (by decide) (fun c45 => ?_) (fun c45 => ?_)
    · refine G_aload_n C 0 dX9_grows_51 rfl rfl ?_
      refine G_aload_n C 0 dX9_grows_52 rfl rfl ?_
      refine G_get C 40 (by decide) g40 rfl inA9 19 (by decide) rfl kf_X9_104 rfl dX9_grows_53 ?_
      refine G_aload_n C 0 dX9_grows_56 rfl rfl ?_
      refine G_get C 40 (by decide) g40 rfl inA9 17 (by decide) rfl kf_X9_101 rfl dX9_grows_57 ?_
      refine G_lmul C dX9_grows_60 ?_
      refine G_aload_n C 0 dX9_grows_61 rfl rfl ?_
      refine G_get C 40 (by decide) g40 rfl inA9 20 (by decide) rfl kf_X9_107 rfl dX9_grows_62 ?_
      refine G_aload_n C 0 dX9_grows_65 rfl rfl ?_
      refine G_get C 40 (by decide) g40 rfl inA9 16 (by decide) rfl kf_X9_98 rfl dX9_grows_66 ?_
      refine G_lmul C dX9_grows_69 ?_
      refine G_ladd C dX9_grows_70 ?_
      refine G_putp C 40 (by decide) g40 rfl inA9 tyX9_ok nmX9 20 (by decide) rfl kf_X9_107 rfl rfl rfl (fs' := [.ref (ad 41), .ref (ad 42), .ref (ad 43), .int ik, .ref (ad 44), .int kn, .ref (ad 45), .int ln, .int th, .int m, .int q, .int te, .long fx, .long fy, .long nx, .long ny, .long ux, .long uy, .int us, .long px, .long ((px * uy) + (py * ux)), .ref (ad 46), .ref (ad 47), .int sp, .int bg, .int fo, .int le, .int fi, .int re, .int ca]) (Nat.le_of_ble_eq_true rfl) rfl dX9_grows_71 (fun gg1 hh2 aa3 => ?_)
      have AA4 : Agr [40] G gg1 := aa3.wk (by simp)
      refine G_aload_n C 0 dX9_grows_74 rfl rfl ?_
      refine G_lload_n C 2 dX9_grows_75 rfl rfl ?_
      refine G_putp C 40 (by decide) hh2 rfl inA9 tyX9_ok nmX9 19 (by decide) rfl kf_X9_104 rfl rfl rfl (fs' := [.ref (ad 41), .ref (ad 42), .ref (ad 43), .int ik, .ref (ad 44), .int kn, .ref (ad 45), .int ln, .int th, .int m, .int q, .int te, .long fx, .long fy, .long nx, .long ny, .long ux, .long uy, .int us, .long ((px * ux) + ((n.toInt64 * py) * uy)), .long ((px * uy) + (py * ux)), .ref (ad 46), .ref (ad 47), .int sp, .int bg, .int fo, .int le, .int fi, .int re, .int ca]) (Nat.le_of_ble_eq_true rfl) rfl dX9_grows_76 (fun gg5 hh6 aa7 => ?_)
      have AA8 : Agr [40] G gg5 := AA4.tr aa7 (by simp) (by simp)
      refine G_iconst C (v := 1) dX9_grows_79 (by decide) ?_
      exact G_zret C hr rfl dX9_grows_80 ⟨(by rw [grF, if_pos c12, if_pos c45]), (by rw [hh6, grF, if_pos c12, if_pos c45]), AA8⟩
    · refine G_iconst C (v := 0) dX9_grows_49 (by decide) ?_
      exact G_zret C hr rfl dX9_grows_50 ⟨(by rw [grF, if_pos c12, if_neg c45]), (by rw [g40, grF, if_pos c12, if_neg c45]), Agr.rf⟩
  · refine G_iconst C (v := 0) dX9_grows_16 (by decide) ?_
    exact G_zret C hr rfl dX9_grows_17 ⟨(by rw [grF, if_neg c12]), (by rw [g40, grF, if_neg c12]), Agr.rf⟩

set_option maxRecDepth 100000 in
set_option maxHeartbeats 4000000 in
theorem c_growK {L : GL} {ad : Nat → Nat} {G : Nat → va_E} {d k : Nat} {ik kn ln th m q te us sp bg fo le fi re ca : Int32} {fx fy nx ny : Int64} (g40 : G 40 = .inr (9, [.ref (ad 41), .ref (ad 42), .ref (ad 43), .int ik, .ref (ad 44), .int kn, .ref (ad 45), .int ln, .int th, .int m, .int q, .int te, .long fx, .long fy, .long nx, .long ny, .long ((tUx d).toInt64), .long ((tUy d).toInt64), .int us, .long ((pwr d k).1), .long ((pwr d k).2), .ref (ad 46), .ref (ad 47), .int sp, .int bg, .int fo, .int le, .int fi, .int re, .int ca])) (h60 : d ≤ 60) (hp : pern d ≠ 0) (hk : k ≤ gpn d) : GM L yX9_grows cX9_grows 4 ((some .boolean)) rm_X9_grows 50 ad G [.ref (ad 40), .int (nI d)] (fun vo G' => vo = some (.int (if k < gpn d then 1 else 0)) ∧ G' 40 = .inr (9, [.ref (ad 41), .ref (ad 42), .ref (ad 43), .int ik, .ref (ad 44), .int kn, .ref (ad 45), .int ln, .int th, .int m, .int q, .int te, .long fx, .long fy, .long nx, .long ny, .long ((tUx d).toInt64), .long ((tUy d).toInt64), .int us, .long ((pwr d (if k < gpn d then k + 1 else k)).1), .long ((pwr d (if k < gpn d then k + 1 else k)).2), .ref (ad 46), .ref (ad 47), .int sp, .int bg, .int fo, .int le, .int fi, .int re, .int ca]) ∧ Agr [40] G G') := by
  refine GM.mono (c_X9_grows g40 (ux_ne d (by omega) hp)) (fun v G' hq => ?_)
  obtain ⟨rfl, w1, w2⟩ := hq
  have h39 := gp_lt d (by omega)
  have hgr := grw_0 d (by omega) hp k (by omega) hk
  exact ⟨by rw [hgr.1], by rw [w1, hgr.2.1, hgr.2.2], w2⟩
abbrev rm_X9_reaches : Room := ({ frames := 4, cells := 0, slots := 0, locals := 85 } : Room)
set_option maxRecDepth 100000 in
set_option maxHeartbeats 4000000 in
theorem c_X9_reaches {L : GL} {ad : Nat → Nat} {G : Nat → va_E} {d h : Nat} {ik kn ln th m q te us sp bg fo le fi re ca : Int32} {fx fy nx ny ux uy px py : Int64}  (g40 : G 40 = .inr (9, [.ref (ad 41), .ref (ad 42), .ref (ad 43), .int ik, .ref (ad 44), .int kn, .ref (ad 45), .int ln, .int th, .int m, .int q, .int te, .long fx, .long fy, .long nx, .long ny, .long ux, .long uy, .int us, .long px, .long py, .ref (ad 46), .ref (ad 47), .int sp, .int bg, .int fo, .int le, .int fi, .int re, .int ca])) (h2 : 2 ≤ d) (h60 : d ≤ 60) (hp : pern d ≠ 0) (hg : h ≤ gpn d) : GM L yX9_reaches cX9_reaches 4 (none) rm_X9_reaches 50 ad G [.ref (ad 40), .int (nI d), .int (nI h)] (fun vo G' => ∃ (j1 : Int32) (j2 : Int32) (j3 : Int32) (j4 : Int64) (j5 : Int64) (j6 : Int64) (j7 : Int64), vo = none ∧ G' 40 = .inr (9, [.ref (ad 41), .ref (ad 42), .ref (ad 43), .int ik, .ref (ad 44), .int kn, .ref (ad 45), .int ln, .int th, .int j1, .int j2, .int j3, .long j4, .long j5, .long j6, .long j7, .long ((tUx d).toInt64), .long ((tUy d).toInt64), .int (sgF (nI d)), .long ((pwr d h).1), .long ((pwr d h).2), .ref (ad 46), .ref (ad 47), .int sp, .int bg, .int fo, .int le, .int fi, .int re, .int ca]) ∧ Agr [40] G G') := by
  refine GM.of (own := RX9) (lo := [(0, .ref (ad 40)), (1, .int (nI d)), (2, .int (nI h))]) (by decide +kernel) rfl rfl (Nat.le_of_ble_eq_true rfl) (fun E C hr => ?_)
  refine G_aload_n C 0 dX9_reaches_0 rfl rfl ?_
  refine G_iload_n C 1 dX9_reaches_1 rfl rfl ?_
  refine G_callV C (As := [.int (nI d)]) (rest := []) (c_X9_beginsPowers g40 h2 h60 hp) ca_X9_beginsPowers km_X9_112 (by decide) g40 rfl rfl rfl rfl (by decide) (Nat.le_of_ble_eq_true rfl) (by decide) dX9_reaches_2 (fun vv1 gg2 qq3 => ?_)
  obtain ⟨j_4, j_5, j_6, j_7, j_8, j_9, j_10, rfl, hh11, aa12⟩ := qq3
  have AA13 : Agr [40] G gg2 := aa12.wk (by simp)
  refine G_iload_n C 2 dX9_reaches_5 rfl rfl ?_
  refine G_istore_n C 3 (lo' := [(3, .int (nI h)), (0, .ref (ad 40)), (1, .int (nI d)), (2, .int (nI h))]) dX9_reaches_6 rfl (by decide) rfl ?_
  have key7 : ∀ (n : Nat) (i : Nat) (j1 j2 j3 : Int32) (j4 j5 j6 j7 : Int64) (G1 : Nat → va_E) (hf7_40 : G1 40 = .inr (9, [.ref (ad 41), .ref (ad 42), .ref (ad 43), .int ik, .ref (ad 44), .int kn, .ref (ad 45), .int ln, .int th, .int j1, .int j2, .int j3, .long j4, .long j5, .long j6, .long j7, .long ((tUx d).toInt64), .long ((tUy d).toInt64), .int (sgF (nI d)), .long ((pwr d i).1), .long ((pwr d i).2), .ref (ad 46), .ref (ad 47), .int sp, .int bg, .int fo, .int le, .int fi, .int re, .int ca])) (ha7 : Agr [40] G G1) (hn : h - i < n) (hi : i ≤ h), GW L E 50 ad G1 0 0 7 [(3, .int (nI (h - i))), (0, .ref (ad 40)), (1, .int (nI d)), (2, .int (nI h))] [] := by
    intro n
    induction n with
    | zero =>
      intro i j1 j2 j3 j4 j5 j6 j7 G1 hf7_40 ha7 hn hi
      exact absurd hn (Nat.not_lt_zero _)
    | succ n ih =>
      intro i j1 j2 j3 j4 j5 j6 j7 G1 hf7_40 ha7 hn hi
      have h39 := gp_lt d (by omega)
      refine G_iload_n C 3 dX9_reaches_7 rfl rfl ?_
      refine G_if_le C 25 dX9_reaches_8 (by decide) (fun c8 => ?_) (fun c8 => ?_)
      · have c8n : (h - i) ≤ 0 := (cI_le (a := (h - i)) (b := 0) rfl rfl (by omega) (by omega)).mp c8
        exact G_vret C hr dX9_reaches_25 ⟨_, _, _, _, _, _, _, rfl, (by rw [hf7_40, show i = h by omega]), ha7⟩
      · have c8n : ¬ (h - i) ≤ 0 := fun z => c8 ((cI_le (a := (h - i)) (b := 0) rfl rfl (by omega) (by omega)).mpr z)
        refine G_aload_n C 0 dX9_reaches_11 rfl rfl ?_
        refine G_iload_n C 1 dX9_reaches_12 rfl rfl ?_
        refine G_callV C (As := [.int (nI d)]) (rest := []) (c_growK hf7_40 h60 hp (show i ≤ gpn d by omega)) ca_X9_grows km_X9_115 (by decide) hf7_40 rfl rfl rfl rfl (by decide) (Nat.le_of_ble_eq_true rfl) (by decide) dX9_reaches_13 (fun vv14 gg15 qq16 => ?_)
        obtain ⟨rfl, hh17, aa18⟩ := qq16
        have AA19 : Agr [40] G gg15 := ha7.tr aa18 (by simp) (by simp)
        refine G_if_eq C 25 dX9_reaches_16 (by decide) (fun c16 => False.elim (by rw [if_pos (show i < gpn d by omega)] at c16; exact absurd c16 (by decide))) (fun c16 => ?_)
        rw [if_pos (show i < gpn d by omega)] at hh17
        refine G_iinc C (v := ((nI (h - i)) + (-1))) (lo' := [(3, .int ((nI (h - i)) + (-1))), (0, .ref (ad 40)), (1, .int (nI d)), (2, .int (nI h))]) dX9_reaches_19 rfl rfl (by decide) rfl ?_
        refine GW.loe (lo' := [(3, .int (nI (h - (i + 1)))), (0, .ref (ad 40)), (1, .int (nI d)), (2, .int (nI h))]) (by rw [show nI (h - i) + (-1) = nI (h - (i + 1)) from nI_dec (by omega)]) ?_
        refine G_goto C 7 dX9_reaches_22 (by decide) ?_
        exact ih (i + 1) _ _ _ _ _ _ _ gg15 hh17 AA19 (by omega) (by omega)
  exact key7 (h + 1) 0 _ _ _ _ _ _ _ gg2 hh11 AA13 (by omega) (Nat.zero_le _)

