theorem go_x1 {d k : Nat} (h : k < gpn d) : xk d (nxk d k) = (pwr d (if k < gpn d then k + 1 else k)).1 := by rw [nxk, if_pos h, if_pos h, xk, if_neg (Nat.succ_ne_zero _)]
theorem go_y1 {d k : Nat} (h : k < gpn d) : yk d (nxk d k) = (pwr d (if k < gpn d then k + 1 else k)).2 := by rw [nxk, if_pos h, if_pos h, yk, if_neg (Nat.succ_ne_zero _)]
theorem go_x0 {d k : Nat} (h : ¬ k < gpn d) : xk d (nxk d k) = 0 := by rw [nxk, if_neg h]; rfl
theorem go_y0 {d k : Nat} (h : ¬ k < gpn d) : yk d (nxk d k) = 0 := by rw [nxk, if_neg h]; rfl
/-- the model's rows of the next solutions, below j + 2 -/
def NXj (kap : Nat → Nat) (xx yy : Nat → Int64) (j : Nat) : Prop := ∀ d, 2 ≤ d → d < j + 2 → xx d = xk d (kap d) ∧ yy d = yk d (kap d)
theorem nxj_0 {kap : Nat → Nat} {xx yy : Nat → Int64} : NXj kap xx yy 0 := fun d h2 h3 => by omega
theorem nxj_s {kap : Nat → Nat} {xx yy x2 y2 : Nat → Int64} {j : Nat} (h : NXj kap xx yy j) (a : ∀ i, i ≠ j + 2 → x2 i = xx i ∧ y2 i = yy i) (b : x2 (j + 2) = xk (j + 2) (kap (j + 2))) (c : y2 (j + 2) = yk (j + 2) (kap (j + 2))) : NXj kap x2 y2 (j + 1) := by
  intro d h2 h3
  by_cases e : d = j + 2
  · rw [e]; exact ⟨b, c⟩
  · rw [(a d e).1, (a d e).2]; exact h d h2 (by omega)
theorem nxj_n {kap : Nat → Nat} {xx yy : Nat → Int64} {j : Nat} (h : NXj kap xx yy j) (e : kap (j + 2) = 0) : NXj kap (vp_updL xx (j + 2) 0) (vp_updL yy (j + 2) 0) (j + 1) :=
  nxj_s h (fun i hi => ⟨pk_uLn hi, pk_uLn hi⟩) (by rw [pk_uLs, e]; rfl) (by rw [pk_uLs, e]; rfl)
theorem nxj_y {kap : Nat → Nat} {xx yy : Nat → Int64} {j : Nat} (h : NXj kap xx yy j) (e : kap (j + 2) = 1) (hg : 0 < gpn (j + 2)) : NXj kap (vp_updL (vp_updL xx (j + 2) 1) (j + 2) (xk (j + 2) (nxk (j + 2) 0))) (vp_updL (vp_updL yy (j + 2) 0) (j + 2) (yk (j + 2) (nxk (j + 2) 0))) (j + 1) := by
  have n : nxk (j + 2) 0 = 1 := if_pos hg
  exact nxj_s h (fun i hi => ⟨by rw [pk_uLn hi, pk_uLn hi], by rw [pk_uLn hi, pk_uLn hi]⟩) (by rw [pk_uLs, e, n]) (by rw [pk_uLs, e, n])
theorem nxj_p {kap : Nat → Nat} {xx yy : Nat → Int64} {r : Nat} (h : NXj kap xx yy 59) : NXj (stp kap r) (vp_updL xx r (xk r (nxk r (kap r)))) (vp_updL yy r (yk r (nxk r (kap r)))) 59 := by
  intro d h2 h3
  by_cases e : d = r
  · rw [e, pk_uLs, pk_uLs, stp, kpU_y]; exact ⟨rfl, rfl⟩
  · rw [pk_uLn e, pk_uLn e, stp, kpU_n e]; exact h d h2 h3
theorem nxj_l {kap : Nat → Nat} {xx yy : Nat → Int64} (h : NXj kap xx yy 59) : lnF xx 59 = lst kap := ln_congr 59 (fun d h2 h3 => (h d h2 h3).1)
theorem nxj_v {kap : Nat → Nat} {xx yy : Nat → Int64} {d : Nat} (h : NXj kap xx yy 59) (h2 : 2 ≤ d) (h60 : d ≤ 60) (hd : kap d ≠ 0) : xx d = (pwr d (kap d)).1 ∧ yy d = (pwr d (kap d)).2 := by
  have a := h d h2 (by omega)
  rw [xk, if_neg hd, yk, if_neg hd] at a
  exact a
theorem lst_60 (kap : Nat → Nat) : lst kap ≤ 60 := (ln_le (xa kap) 59).1
theorem kp_n {f : Nat → Int32} {i : Nat} (h : lst (kp f i) ≠ 0) : kp f (i + 1) = stp (kp f i) (lst (kp f i)) := by rw [kp, if_neg h]
abbrev rm_X9_goesOn : Room := ({ frames := 4, cells := 0, slots := 0, locals := 85 } : Room)
set_option maxRecDepth 100000 in
set_option maxHeartbeats 4000000 in
theorem c_X9_goesOn {L : GL} {ad : Nat → Nat} {G : Nat → va_E} {d k : Nat} {xx yy : Nat → Int64} {ik kn ln th m q te us sp bg fo le fi re ca : Int32} {fx fy nx ny ux uy px py : Int64}  (g40 : G 40 = .inr (9, [.ref (ad 41), .ref (ad 42), .ref (ad 43), .int ik, .ref (ad 44), .int kn, .ref (ad 45), .int ln, .int th, .int m, .int q, .int te, .long fx, .long fy, .long nx, .long ny, .long ux, .long uy, .int us, .long px, .long py, .ref (ad 46), .ref (ad 47), .int sp, .int bg, .int fo, .int le, .int fi, .int re, .int ca])) (g46 : G 46 = .inl (L.ac 1, 61, .inr (.inl xx))) (g47 : G 47 = .inl (L.ac 1, 61, .inr (.inl yy))) (h2 : 2 ≤ d) (h60 : d ≤ 60) (hp : pern d ≠ 0) (hg : k ≤ gpn d) (hx0 : xx d = (pwr d k).1) (hy0 : yy d = (pwr d k).2) : GM L yX9_goesOn cX9_goesOn 3 (none) rm_X9_goesOn 50 ad G [.ref (ad 40), .int (nI d)] (fun vo G' => ∃ (j1 : Int32) (j2 : Int32) (j3 : Int32) (j4 : Int64) (j5 : Int64) (j6 : Int64) (j7 : Int64) (u1 : Int64) (u2 : Int64) (u3 : Int32) (p1 : Int64) (p2 : Int64), vo = none ∧ G' 40 = .inr (9, [.ref (ad 41), .ref (ad 42), .ref (ad 43), .int ik, .ref (ad 44), .int kn, .ref (ad 45), .int ln, .int th, .int j1, .int j2, .int j3, .long j4, .long j5, .long j6, .long j7, .long u1, .long u2, .int u3, .long p1, .long p2, .ref (ad 46), .ref (ad 47), .int sp, .int bg, .int fo, .int le, .int fi, .int re, .int ca]) ∧ G' 46 = .inl (L.ac 1, 61, .inr (.inl (vp_updL xx d (xk d (nxk d k))))) ∧ G' 47 = .inl (L.ac 1, 61, .inr (.inl (vp_updL yy d (yk d (nxk d k))))) ∧ Agr [40, 46, 47] G G') := by
  refine GM.of (own := RX9) (lo := [(0, .ref (ad 40)), (1, .int (nI d))]) (by decide +kernel) rfl rfl (Nat.le_of_ble_eq_true rfl) (fun E C hr => ?_)
  refine G_aload_n C 0 dX9_goesOn_0 rfl rfl ?_
  refine G_iload_n C 1 dX9_goesOn_1 rfl rfl ?_
  refine G_callV C (As := [.int (nI d)]) (rest := []) (c_X9_beginsPowers g40 h2 h60 hp) ca_X9_beginsPowers km_X9_112 (by decide) g40 rfl rfl rfl rfl (by decide) (Nat.le_of_ble_eq_true rfl) (by decide) dX9_goesOn_2 (fun vv1 gg2 qq3 => ?_)
  obtain ⟨j_4, j_5, j_6, j_7, j_8, j_9, j_10, rfl, hh11, aa12⟩ := qq3
  have AA13 : Agr [40] G gg2 := aa12.wk (by simp)
  refine G_aload_n C 0 dX9_goesOn_5 rfl rfl ?_
  refine G_aload_n C 0 dX9_goesOn_6 rfl rfl ?_
  refine G_get C 40 (by decide) hh11 rfl inA9 21 (by decide) rfl kf_X9_25 rfl dX9_goesOn_7 ?_
  refine G_iload_n C 1 dX9_goesOn_10 rfl rfl ?_
  refine G_laldN C 46 (by decide) d ((aa12 46 (by decide)).trans g46) rfl (by omega) (by omega) dX9_goesOn_11 ?_
  refine GW.toprl (y := (pwr d k).1) (hx0) ?_
  refine G_putp C 40 (by decide) hh11 rfl inA9 tyX9_ok nmX9 19 (by decide) rfl kf_X9_104 rfl rfl rfl (fs' := [.ref (ad 41), .ref (ad 42), .ref (ad 43), .int ik, .ref (ad 44), .int kn, .ref (ad 45), .int ln, .int th, .int j_4, .int j_5, .int j_6, .long j_7, .long j_8, .long j_9, .long j_10, .long ((tUx d).toInt64), .long ((tUy d).toInt64), .int (sgF (nI d)), .long ((pwr d k).1), .long ((pwr d 0).2), .ref (ad 46), .ref (ad 47), .int sp, .int bg, .int fo, .int le, .int fi, .int re, .int ca]) (Nat.le_of_ble_eq_true rfl) rfl dX9_goesOn_12 (fun gg14 hh15 aa16 => ?_)
  have AA17 : Agr [40] G gg14 := AA13.tr aa16 (by simp) (by simp)
  refine G_aload_n C 0 dX9_goesOn_15 rfl rfl ?_
  refine G_aload_n C 0 dX9_goesOn_16 rfl rfl ?_
  refine G_get C 40 (by decide) hh15 rfl inA9 22 (by decide) rfl kf_X9_29 rfl dX9_goesOn_17 ?_
  refine G_iload_n C 1 dX9_goesOn_20 rfl rfl ?_
  refine G_laldN C 47 (by decide) d ((aa16 47 (by decide)).trans ((aa12 47 (by decide)).trans g47)) rfl (by omega) (by omega) dX9_goesOn_21 ?_
  refine GW.toprl (y := (pwr d k).2) (hy0) ?_
  refine G_putp C 40 (by decide) hh15 rfl inA9 tyX9_ok nmX9 20 (by decide) rfl kf_X9_107 rfl rfl rfl (fs' := [.ref (ad 41), .ref (ad 42), .ref (ad 43), .int ik, .ref (ad 44), .int kn, .ref (ad 45), .int ln, .int th, .int j_4, .int j_5, .int j_6, .long j_7, .long j_8, .long j_9, .long j_10, .long ((tUx d).toInt64), .long ((tUy d).toInt64), .int (sgF (nI d)), .long ((pwr d k).1), .long ((pwr d k).2), .ref (ad 46), .ref (ad 47), .int sp, .int bg, .int fo, .int le, .int fi, .int re, .int ca]) (Nat.le_of_ble_eq_true rfl) rfl dX9_goesOn_22 (fun gg18 hh19 aa20 => ?_)
  have AA21 : Agr [40] G gg18 := AA17.tr aa20 (by simp) (by simp)
  refine G_aload_n C 0 dX9_goesOn_25 rfl rfl ?_
  refine G_iload_n C 1 dX9_goesOn_26 rfl rfl ?_
  refine G_callV C (As := [.int (nI d)]) (rest := []) (c_growK hh19 h60 hp hg) ca_X9_grows km_X9_115 (by decide) hh19 rfl rfl rfl rfl (by decide) (Nat.le_of_ble_eq_true rfl) (by decide) dX9_goesOn_27 (fun vv22 gg23 qq24 => ?_)
  obtain ⟨rfl, hh25, aa26⟩ := qq24
  have AA27 : Agr [40] G gg23 := AA21.tr aa26 (by simp) (by simp)
  by_cases hkg : k < gpn d
  · refine GW.topr (y := 1) (if_pos hkg) ?_
    refine G_istore_n C 2 (lo' := [(2, .int 1), (0, .ref (ad 40)), (1, .int (nI d))]) dX9_goesOn_30 rfl (by decide) rfl ?_
    refine G_aload_n C 0 dX9_goesOn_31 rfl rfl ?_
    refine G_get C 40 (by decide) hh25 rfl inA9 21 (by decide) rfl kf_X9_25 rfl dX9_goesOn_32 ?_
    refine G_iload_n C 1 dX9_goesOn_35 rfl rfl ?_
    refine G_iload_n C 2 dX9_goesOn_36 rfl rfl ?_
    refine G_if_eq C 47 dX9_goesOn_37 (by decide) (fun h => absurd h (by decide)) (fun _ => ?_)
    refine G_aload_n C 0 dX9_goesOn_40 rfl rfl ?_
    refine G_get C 40 (by decide) hh25 rfl inA9 19 (by decide) rfl kf_X9_104 rfl dX9_goesOn_41 ?_
    refine G_goto C 48 dX9_goesOn_44 (by decide) ?_
    refine G_lastN C 46 (by decide) d ((aa26 46 (by decide)).trans ((aa20 46 (by decide)).trans ((aa16 46 (by decide)).trans ((aa12 46 (by decide)).trans g46)))) rfl (by omega) (by omega) dX9_goesOn_48 (fun gg28 hh29 aa30 => ?_)
    have AA31 : Agr [40, 46] G gg28 := AA27.tr aa30 (by simp) (by simp)
    refine G_aload_n C 0 dX9_goesOn_49 rfl rfl ?_
    refine G_get C 40 (by decide) ((aa30 40 (by decide)).trans hh25) rfl inA9 22 (by decide) rfl kf_X9_29 rfl dX9_goesOn_50 ?_
    refine G_iload_n C 1 dX9_goesOn_53 rfl rfl ?_
    refine G_iload_n C 2 dX9_goesOn_54 rfl rfl ?_
    refine G_if_eq C 65 dX9_goesOn_55 (by decide) (fun h => absurd h (by decide)) (fun _ => ?_)
    refine G_aload_n C 0 dX9_goesOn_58 rfl rfl ?_
    refine G_get C 40 (by decide) ((aa30 40 (by decide)).trans hh25) rfl inA9 20 (by decide) rfl kf_X9_107 rfl dX9_goesOn_59 ?_
    refine G_goto C 66 dX9_goesOn_62 (by decide) ?_
    refine G_lastN C 47 (by decide) d ((aa30 47 (by decide)).trans ((aa26 47 (by decide)).trans ((aa20 47 (by decide)).trans ((aa16 47 (by decide)).trans ((aa12 47 (by decide)).trans g47))))) rfl (by omega) (by omega) dX9_goesOn_66 (fun gg32 hh33 aa34 => ?_)
    have AA35 : Agr [40, 46, 47] G gg32 := AA31.tr aa34 (by simp) (by simp)
    exact G_vret C hr dX9_goesOn_67 ⟨_, _, _, _, _, _, _, _, _, _, _, _, rfl, ((aa34 40 (by decide)).trans ((aa30 40 (by decide)).trans hh25)), (by rw [((aa34 46 (by decide)).trans hh29), go_x1 hkg]), (by rw [hh33, go_y1 hkg]), AA35⟩
  · refine GW.topr (y := 0) (if_neg hkg) ?_
    refine G_istore_n C 2 (lo' := [(2, .int 0), (0, .ref (ad 40)), (1, .int (nI d))]) dX9_goesOn_30 rfl (by decide) rfl ?_
    refine G_aload_n C 0 dX9_goesOn_31 rfl rfl ?_
    refine G_get C 40 (by decide) hh25 rfl inA9 21 (by decide) rfl kf_X9_25 rfl dX9_goesOn_32 ?_
    refine G_iload_n C 1 dX9_goesOn_35 rfl rfl ?_
    refine G_iload_n C 2 dX9_goesOn_36 rfl rfl ?_
    refine G_if_eq C 47 dX9_goesOn_37 (by decide) (fun _ => ?_) (fun h => absurd h (by decide))
    refine G_lconst C (v := 0) dX9_goesOn_47 (by decide) ?_
    refine G_lastN C 46 (by decide) d ((aa26 46 (by decide)).trans ((aa20 46 (by decide)).trans ((aa16 46 (by decide)).trans ((aa12 46 (by decide)).trans g46)))) rfl (by omega) (by omega) dX9_goesOn_48 (fun gg36 hh37 aa38 => ?_)
    have AA39 : Agr [40, 46] G gg36 := AA27.tr aa38 (by simp) (by simp)
    refine G_aload_n C 0 dX9_goesOn_49 rfl rfl ?_
    refine G_get C 40 (by decide) ((aa38 40 (by decide)).trans hh25) rfl inA9 22 (by decide) rfl kf_X9_29 rfl dX9_goesOn_50 ?_
    refine G_iload_n C 1 dX9_goesOn_53 rfl rfl ?_
    refine G_iload_n C 2 dX9_goesOn_54 rfl rfl ?_
    refine G_if_eq C 65 dX9_goesOn_55 (by decide) (fun _ => ?_) (fun h => absurd h (by decide))
    refine G_lconst C (v := 0) dX9_goesOn_65 (by decide) ?_
    refine G_lastN C 47 (by decide) d ((aa38 47 (by decide)).trans ((aa26 47 (by decide)).trans ((aa20 47 (by decide)).trans ((aa16 47 (by decide)).trans ((aa12 47 (by decide)).trans g47))))) rfl (by omega) (by omega) dX9_goesOn_66 (fun gg40 hh41 aa42 => ?_)
    have AA43 : Agr [40, 46, 47] G gg40 := AA39.tr aa42 (by simp) (by simp)
    exact G_vret C hr dX9_goesOn_67 ⟨_, _, _, _, _, _, _, _, _, _, _, _, rfl, ((aa42 40 (by decide)).trans ((aa38 40 (by decide)).trans hh25)), (by rw [((aa42 46 (by decide)).trans hh37), go_x0 hkg]), (by rw [hh41, go_y0 hkg]), AA43⟩

abbrev rm_X9_beginsSolutions : Room := ({ frames := 5, cells := 0, slots := 0, locals := 107 } : Room)
set_option maxRecDepth 100000 in
set_option maxHeartbeats 4000000 in
theorem c_X9_beginsSolutions {L : GL} {ad : Nat → Nat} {G : Nat → va_E} {xx yy : Nat → Int64} {ik kn ln th m q te us sp bg fo le fi re ca : Int32} {fx fy nx ny ux uy px py : Int64} {ml : Int32} {f : Nat → Int32}  (g40 : G 40 = .inr (9, [.ref (ad 41), .ref (ad 42), .ref (ad 43), .int ik, .ref (ad 44), .int kn, .ref (ad 45), .int ln, .int th, .int m, .int q, .int te, .long fx, .long fy, .long nx, .long ny, .long ux, .long uy, .int us, .long px, .long py, .ref (ad 46), .ref (ad 47), .int sp, .int bg, .int fo, .int le, .int fi, .int re, .int ca])) (g41 : G 41 = .inl (L.ac 0, 60, .inl (sv f ml))) (g46 : G 46 = .inl (L.ac 1, 61, .inr (.inl xx))) (g47 : G 47 = .inl (L.ac 1, 61, .inr (.inl yy))) (hk : okH f) : GM L yX9_beginsSolutions cX9_beginsSolutions 3 (none) rm_X9_beginsSolutions 50 ad G [.ref (ad 40)] (fun vo G' => ∃ (j1 : Int32) (j2 : Int32) (j3 : Int32) (j4 : Int64) (j5 : Int64) (j6 : Int64) (j7 : Int64) (u1 : Int64) (u2 : Int64) (u3 : Int32) (p1 : Int64) (p2 : Int64) (x1 : Nat → Int64) (y1 : Nat → Int64), vo = none ∧ (NXj (k0 f) x1 y1 59) ∧ G' 40 = .inr (9, [.ref (ad 41), .ref (ad 42), .ref (ad 43), .int ik, .ref (ad 44), .int kn, .ref (ad 45), .int ln, .int th, .int j1, .int j2, .int j3, .long j4, .long j5, .long j6, .long j7, .long u1, .long u2, .int u3, .long p1, .long p2, .ref (ad 46), .ref (ad 47), .int sp, .int bg, .int fo, .int le, .int fi, .int re, .int ca]) ∧ G' 46 = .inl (L.ac 1, 61, .inr (.inl x1)) ∧ G' 47 = .inl (L.ac 1, 61, .inr (.inl y1)) ∧ Agr [40, 46, 47] G G') := by
  refine GM.of (own := RX9) (lo := [(0, .ref (ad 40))]) (by decide +kernel) rfl rfl (Nat.le_of_ble_eq_true rfl) (fun E C hr => ?_)
  refine G_iconst C (v := 2) dX9_beginsSolutions_0 (by decide) ?_
  refine G_istore_n C 1 (lo' := [(1, .int 2), (0, .ref (ad 40))]) dX9_beginsSolutions_1 rfl (by decide) rfl ?_
  have key2 : ∀ (n : Nat) (j : Nat) (j1 : Int32) (j2 : Int32) (j3 : Int32) (j4 : Int64) (j5 : Int64) (j6 : Int64) (j7 : Int64) (u1 : Int64) (u2 : Int64) (u3 : Int32) (p1 : Int64) (p2 : Int64) (x1 y1 : Nat → Int64) (G1 : Nat → va_E) (hf2_40 : G1 40 = .inr (9, [.ref (ad 41), .ref (ad 42), .ref (ad 43), .int ik, .ref (ad 44), .int kn, .ref (ad 45), .int ln, .int th, .int j1, .int j2, .int j3, .long j4, .long j5, .long j6, .long j7, .long u1, .long u2, .int u3, .long p1, .long p2, .ref (ad 46), .ref (ad 47), .int sp, .int bg, .int fo, .int le, .int fi, .int re, .int ca])) (hf2_46 : G1 46 = .inl (L.ac 1, 61, .inr (.inl x1))) (hf2_47 : G1 47 = .inl (L.ac 1, 61, .inr (.inl y1))) (ha2 : Agr [40, 46, 47] G G1) (hn : 59 - j < n) (hj : j ≤ 59) (hN : NXj (k0 f) x1 y1 j), GW L E 50 ad G1 0 0 2 [(1, .int (nI (j + 2))), (0, .ref (ad 40))] [] := by
    intro n
    induction n with
    | zero =>
      intro j j1 j2 j3 j4 j5 j6 j7 u1 u2 u3 p1 p2 x1 y1 G1 hf2_40 hf2_46 hf2_47 ha2 hn hj hN
      exact absurd hn (Nat.not_lt_zero _)
    | succ n ih =>
      intro j j1 j2 j3 j4 j5 j6 j7 u1 u2 u3 p1 p2 x1 y1 G1 hf2_40 hf2_46 hf2_47 ha2 hn hj hN
      refine G_iload_n C 1 dX9_beginsSolutions_2 rfl rfl ?_
      refine G_bipush C (v := 60) dX9_beginsSolutions_3 (by decide) ?_
      refine G_icmp_gt C 59 dX9_beginsSolutions_5 (by decide) (fun c5 => ?_) (fun c5 => ?_)
      · have c5n : 60 < (j + 2) := (cI_lt (a := 60) (b := (j + 2)) rfl rfl (by omega) (by omega)).mp c5
        exact G_vret C hr dX9_beginsSolutions_59 ⟨_, _, _, _, _, _, _, _, _, _, _, _, _, _, rfl, (show j = 59 by omega) ▸ hN, hf2_40, hf2_46, hf2_47, ha2⟩
      · have c5n : ¬ 60 < (j + 2) := fun z => c5 ((cI_lt (a := 60) (b := (j + 2)) rfl rfl (by omega) (by omega)).mpr z)
        refine G_aload_n C 0 dX9_beginsSolutions_8 rfl rfl ?_
        refine G_iload_n C 1 dX9_beginsSolutions_9 rfl rfl ?_
        refine G_callV C (As := [.int (nI (j + 2))]) (rest := []) (c_X9_stand hf2_40 ((ha2 41 (by decide)).trans g41) (by omega) (by omega)) ca_X9_stand km_X9_89 (by decide) hf2_40 rfl rfl rfl rfl (by decide) (Nat.le_of_ble_eq_true rfl) (by decide) dX9_beginsSolutions_10 (fun vv1 gg2 qq3 => ?_)
        obtain ⟨rfl, rfl⟩ := qq3
        refine G_if_lt C 20 dX9_beginsSolutions_13 (by decide) (fun c13 => ?_) (fun c13 => ?_)
        · refine G_iconst C (v := 0) dX9_beginsSolutions_20 (by decide) ?_
          refine G_istore_n C 2 (lo' := [(2, .int 0), (1, .int (nI (j + 2))), (0, .ref (ad 40))]) dX9_beginsSolutions_21 rfl (by decide) rfl ?_
          refine G_aload_n C 0 dX9_beginsSolutions_22 rfl rfl ?_
          refine G_get C 40 (by decide) hf2_40 rfl inA9 21 (by decide) rfl kf_X9_25 rfl dX9_beginsSolutions_23 ?_
          refine G_iload_n C 1 dX9_beginsSolutions_26 rfl rfl ?_
          refine G_iload_n C 2 dX9_beginsSolutions_27 rfl rfl ?_
          refine G_if_eq C 35 dX9_beginsSolutions_28 (by decide) (fun _ => ?_) (fun h => absurd h (by decide))
          refine G_lconst C (v := 0) dX9_beginsSolutions_35 (by decide) ?_
          refine G_lastN C 46 (by decide) (j + 2) hf2_46 rfl (by omega) (by omega) dX9_beginsSolutions_36 (fun gg4 hh5 aa6 => ?_)
          have AA7 : Agr [40, 46, 47] G gg4 := ha2.tr aa6 (by simp) (by simp)
          refine G_aload_n C 0 dX9_beginsSolutions_37 rfl rfl ?_
          refine G_get C 40 (by decide) ((aa6 40 (by decide)).trans hf2_40) rfl inA9 22 (by decide) rfl kf_X9_29 rfl dX9_beginsSolutions_38 ?_
          refine G_iload_n C 1 dX9_beginsSolutions_41 rfl rfl ?_
          refine G_lconst C (v := 0) dX9_beginsSolutions_42 (by decide) ?_
          refine G_lastN C 47 (by decide) (j + 2) ((aa6 47 (by decide)).trans hf2_47) rfl (by omega) (by omega) dX9_beginsSolutions_43 (fun gg8 hh9 aa10 => ?_)
          have AA11 : Agr [40, 46, 47] G gg8 := AA7.tr aa10 (by simp) (by simp)
          refine G_iload_n C 2 dX9_beginsSolutions_44 rfl rfl ?_
          refine G_if_eq C 53 dX9_beginsSolutions_45 (by decide) (fun _ => ?_) (fun h => absurd h (by decide))
          refine G_iinc C (v := nI ((j + 2) + 1)) (lo' := [(1, .int (nI ((j + 2) + 1))), (2, .int 0), (0, .ref (ad 40))]) dX9_beginsSolutions_53 rfl (nI_add _ _) (by decide) rfl ?_
          refine G_goto C 2 dX9_beginsSolutions_56 (by decide) ?_
          refine GW.pick [0, 2] [(1, .int (nI ((j + 2) + 1))), (0, .ref (ad 40))] rfl ?_
          exact ih (j + 1) _ _ _ _ _ _ _ _ _ _ _ _ _ _ gg8 ((aa10 40 (by decide)).trans ((aa6 40 (by decide)).trans hf2_40)) ((aa10 46 (by decide)).trans hh5) hh9 AA11 (by omega) (by omega) (nxj_n hN (if_pos c13))
        · refine G_iconst C (v := 1) dX9_beginsSolutions_16 (by decide) ?_
          refine G_goto C 21 dX9_beginsSolutions_17 (by decide) ?_
          refine G_istore_n C 2 (lo' := [(2, .int 1), (1, .int (nI (j + 2))), (0, .ref (ad 40))]) dX9_beginsSolutions_21 rfl (by decide) rfl ?_
          refine G_aload_n C 0 dX9_beginsSolutions_22 rfl rfl ?_
          refine G_get C 40 (by decide) hf2_40 rfl inA9 21 (by decide) rfl kf_X9_25 rfl dX9_beginsSolutions_23 ?_
          refine G_iload_n C 1 dX9_beginsSolutions_26 rfl rfl ?_
          refine G_iload_n C 2 dX9_beginsSolutions_27 rfl rfl ?_
          refine G_if_eq C 35 dX9_beginsSolutions_28 (by decide) (fun h => absurd h (by decide)) (fun _ => ?_)
          refine G_lconst C (v := 1) dX9_beginsSolutions_31 (by decide) ?_
          refine G_goto C 36 dX9_beginsSolutions_32 (by decide) ?_
          refine G_lastN C 46 (by decide) (j + 2) hf2_46 rfl (by omega) (by omega) dX9_beginsSolutions_36 (fun gg12 hh13 aa14 => ?_)
          have AA15 : Agr [40, 46, 47] G gg12 := ha2.tr aa14 (by simp) (by simp)
          refine G_aload_n C 0 dX9_beginsSolutions_37 rfl rfl ?_
          refine G_get C 40 (by decide) ((aa14 40 (by decide)).trans hf2_40) rfl inA9 22 (by decide) rfl kf_X9_29 rfl dX9_beginsSolutions_38 ?_
          refine G_iload_n C 1 dX9_beginsSolutions_41 rfl rfl ?_
          refine G_lconst C (v := 0) dX9_beginsSolutions_42 (by decide) ?_
          refine G_lastN C 47 (by decide) (j + 2) ((aa14 47 (by decide)).trans hf2_47) rfl (by omega) (by omega) dX9_beginsSolutions_43 (fun gg16 hh17 aa18 => ?_)
          have AA19 : Agr [40, 46, 47] G gg16 := AA15.tr aa18 (by simp) (by simp)
          refine G_iload_n C 2 dX9_beginsSolutions_44 rfl rfl ?_
          refine G_if_eq C 53 dX9_beginsSolutions_45 (by decide) (fun h => absurd h (by decide)) (fun _ => ?_)
          have hpj := okK_0 hk (j + 2) (by omega) (by omega) (by rw [k0, if_neg c13]; exact Nat.one_ne_zero)
          refine G_aload_n C 0 dX9_beginsSolutions_48 rfl rfl ?_
          refine G_iload_n C 1 dX9_beginsSolutions_49 rfl rfl ?_
          refine G_callV C (As := [.int (nI (j + 2))]) (rest := []) (c_X9_goesOn (k := 0) ((aa18 40 (by decide)).trans ((aa14 40 (by decide)).trans hf2_40)) ((aa18 46 (by decide)).trans hh13) hh17 (by omega) (by omega) hpj.1 (Nat.zero_le _) pk_uLs pk_uLs) ca_X9_goesOn km_X9_180 (by decide) ((aa18 40 (by decide)).trans ((aa14 40 (by decide)).trans hf2_40)) rfl rfl rfl rfl (by decide) (Nat.le_of_ble_eq_true rfl) (by decide) dX9_beginsSolutions_50 (fun vv20 gg21 qq22 => ?_)
          obtain ⟨j_23, j_24, j_25, j_26, j_27, j_28, j_29, u_30, u_31, u_32, p_33, p_34, rfl, hh35, hh36, hh37, aa38⟩ := qq22
          have AA39 : Agr [40, 46, 47] G gg21 := AA19.tr aa38 (by simp) (by simp)
          refine G_iinc C (v := nI ((j + 2) + 1)) (lo' := [(1, .int (nI ((j + 2) + 1))), (2, .int 1), (0, .ref (ad 40))]) dX9_beginsSolutions_53 rfl (nI_add _ _) (by decide) rfl ?_
          refine G_goto C 2 dX9_beginsSolutions_56 (by decide) ?_
          refine GW.pick [0, 2] [(1, .int (nI ((j + 2) + 1))), (0, .ref (ad 40))] rfl ?_
          exact ih (j + 1) _ _ _ _ _ _ _ _ _ _ _ _ _ _ gg21 hh35 hh36 hh37 AA39 (by omega) (by omega) (nxj_y hN (if_neg c13) (gp_1 _ (by omega) hpj.1))
  exact key2 60 0 _ _ _ _ _ _ _ _ _ _ _ _ _ _ G g40 g46 g47 Agr.rf (by omega) (Nat.zero_le _) (nxj_0)

abbrev rm_X9_leastNext : Room := ({ frames := 0, cells := 0, slots := 0, locals := 0 } : Room)
set_option maxRecDepth 100000 in
set_option maxHeartbeats 4000000 in
theorem c_X9_leastNext {L : GL} {ad : Nat → Nat} {G : Nat → va_E} {xx : Nat → Int64} {ik kn ln th m q te us sp bg fo le fi re ca : Int32} {fx fy nx ny ux uy px py : Int64}  (g40 : G 40 = .inr (9, [.ref (ad 41), .ref (ad 42), .ref (ad 43), .int ik, .ref (ad 44), .int kn, .ref (ad 45), .int ln, .int th, .int m, .int q, .int te, .long fx, .long fy, .long nx, .long ny, .long ux, .long uy, .int us, .long px, .long py, .ref (ad 46), .ref (ad 47), .int sp, .int bg, .int fo, .int le, .int fi, .int re, .int ca])) (g46 : G 46 = .inl (L.ac 1, 61, .inr (.inl xx)))  : GM L yX9_leastNext cX9_leastNext 4 ((some .int)) rm_X9_leastNext 50 ad G [.ref (ad 40)] (fun vo G' => vo = some (.int (nI (lnF xx 59))) ∧ G = G') := by
  refine GM.of (own := RX9) (lo := [(0, .ref (ad 40))]) (by decide +kernel) rfl rfl (Nat.le_of_ble_eq_true rfl) (fun E C hr => ?_)
  refine G_iconst C (v := 0) dX9_leastNext_0 (by decide) ?_
  refine G_istore_n C 1 (lo' := [(1, .int 0), (0, .ref (ad 40))]) dX9_leastNext_1 rfl (by decide) rfl ?_
  refine G_iconst C (v := 2) dX9_leastNext_2 (by decide) ?_
  refine G_istore_n C 2 (lo' := [(2, .int 2), (1, .int 0), (0, .ref (ad 40))]) dX9_leastNext_3 rfl (by decide) rfl ?_
  have key4 : ∀ (n : Nat) (j : Nat)  (hn : 59 - j < n) (hj : j ≤ 59), GW L E 50 ad G 0 0 4 [(2, .int (nI (j + 2))), (1, .int (nI (lnF xx j))), (0, .ref (ad 40))] [] := by
    intro n
    induction n with
    | zero =>
      intro j  hn hj
      exact absurd hn (Nat.not_lt_zero _)
    | succ n ih =>
      intro j  hn hj
      have hll := (ln_le xx j).1
      refine G_iload_n C 2 dX9_leastNext_4 rfl rfl ?_
      refine G_bipush C (v := 60) dX9_leastNext_5 (by decide) ?_
      refine G_icmp_gt C 63 dX9_leastNext_7 (by decide) (fun c7 => ?_) (fun c7 => ?_)
      · have c7n : 60 < (j + 2) := (cI_lt (a := 60) (b := (j + 2)) rfl rfl (by omega) (by omega)).mp c7
        refine G_iload_n C 1 dX9_leastNext_63 rfl rfl ?_
        exact G_zret C hr rfl dX9_leastNext_64 ⟨(by rw [show 59 = j by omega]), rfl⟩
      · have c7n : ¬ 60 < (j + 2) := fun z => c7 ((cI_lt (a := 60) (b := (j + 2)) rfl rfl (by omega) (by omega)).mpr z)
        refine G_aload_n C 0 dX9_leastNext_10 rfl rfl ?_
        refine G_get C 40 (by decide) g40 rfl inA9 21 (by decide) rfl kf_X9_25 rfl dX9_leastNext_11 ?_
        refine G_iload_n C 2 dX9_leastNext_14 rfl rfl ?_
        refine G_laldN C 46 (by decide) (j + 2) g46 rfl (by omega) (by omega) dX9_leastNext_15 ?_
        refine G_lconst C (v := 0) dX9_leastNext_16 (by decide) ?_
        refine G_lc_le C 45 dX9_leastNext_17 dX9_leastNext_18 (by decide) (fun c17 => ?_) (fun c17 => ?_)
        · refine G_iconst C (v := 0) dX9_leastNext_45 (by decide) ?_
          refine G_istore_n C 3 (lo' := [(3, .int 0), (2, .int (nI (j + 2))), (1, .int (nI (lnF xx j))), (0, .ref (ad 40))]) dX9_leastNext_46 rfl (by decide) rfl ?_
          refine G_iload_n C 3 dX9_leastNext_47 rfl rfl ?_
          refine G_if_eq C 55 dX9_leastNext_48 (by decide) (fun _ => ?_) (fun h => absurd h (by decide))
          refine G_iload_n C 1 dX9_leastNext_55 rfl rfl ?_
          refine G_istore_n C 1 (lo' := [(1, .int (nI (lnF xx j))), (3, .int 0), (2, .int (nI (j + 2))), (0, .ref (ad 40))]) dX9_leastNext_56 rfl (by decide) rfl ?_
          refine GW.loe (lo' := [(1, .int (nI (lnF xx (j + 1)))), (3, .int 0), (2, .int (nI (j + 2))), (0, .ref (ad 40))]) (by rw [lnF, if_pos c17]) ?_
          refine G_iinc C (v := nI ((j + 2) + 1)) (lo' := [(2, .int (nI ((j + 2) + 1))), (1, .int (nI (lnF xx (j + 1)))), (3, .int 0), (0, .ref (ad 40))]) dX9_leastNext_57 rfl (nI_add _ _) (by decide) rfl ?_
          refine G_goto C 4 dX9_leastNext_60 (by decide) ?_
          refine GW.pick [0, 1, 3] [(2, .int (nI ((j + 2) + 1))), (1, .int (nI (lnF xx (j + 1)))), (0, .ref (ad 40))] rfl ?_
          exact ih (j + 1) (by omega) (by omega)
        · refine G_iload_n C 1 dX9_leastNext_21 rfl rfl ?_
          refine G_if_eq C 41 dX9_leastNext_22 (by decide) (fun c22 => ?_) (fun c22 => ?_)
          · have c22n : (lnF xx j) = 0 := (cI_eq (a := (lnF xx j)) (b := 0) rfl rfl (by omega) (by omega)).mp c22
            refine G_iconst C (v := 1) dX9_leastNext_41 (by decide) ?_
            refine G_goto C 46 dX9_leastNext_42 (by decide) ?_
            refine G_istore_n C 3 (lo' := [(3, .int 1), (2, .int (nI (j + 2))), (1, .int (nI (lnF xx j))), (0, .ref (ad 40))]) dX9_leastNext_46 rfl (by decide) rfl ?_
            refine G_iload_n C 3 dX9_leastNext_47 rfl rfl ?_
            refine G_if_eq C 55 dX9_leastNext_48 (by decide) (fun h => absurd h (by decide)) (fun _ => ?_)
            refine G_iload_n C 2 dX9_leastNext_51 rfl rfl ?_
            refine G_goto C 56 dX9_leastNext_52 (by decide) ?_
            refine G_istore_n C 1 (lo' := [(1, .int (nI (j + 2))), (3, .int 1), (2, .int (nI (j + 2))), (0, .ref (ad 40))]) dX9_leastNext_56 rfl (by decide) rfl ?_
            refine GW.loe (lo' := [(1, .int (nI (lnF xx (j + 1)))), (3, .int 1), (2, .int (nI (j + 2))), (0, .ref (ad 40))]) (by rw [lnF, if_neg c17, if_pos c22n]) ?_
            refine G_iinc C (v := nI ((j + 2) + 1)) (lo' := [(2, .int (nI ((j + 2) + 1))), (1, .int (nI (lnF xx (j + 1)))), (3, .int 1), (0, .ref (ad 40))]) dX9_leastNext_57 rfl (nI_add _ _) (by decide) rfl ?_
            refine G_goto C 4 dX9_leastNext_60 (by decide) ?_
            refine GW.pick [0, 1, 3] [(2, .int (nI ((j + 2) + 1))), (1, .int (nI (lnF xx (j + 1)))), (0, .ref (ad 40))] rfl ?_
            exact ih (j + 1) (by omega) (by omega)
          · have c22n : ¬ (lnF xx j) = 0 := fun z => c22 ((cI_eq (a := (lnF xx j)) (b := 0) rfl rfl (by omega) (by omega)).mpr z)
            refine G_aload_n C 0 dX9_leastNext_25 rfl rfl ?_
            refine G_get C 40 (by decide) g40 rfl inA9 21 (by decide) rfl kf_X9_25 rfl dX9_leastNext_26 ?_
            refine G_iload_n C 2 dX9_leastNext_29 rfl rfl ?_
            refine G_laldN C 46 (by decide) (j + 2) g46 rfl (by omega) (by omega) dX9_leastNext_30 ?_
            refine G_aload_n C 0 dX9_leastNext_31 rfl rfl ?_
            refine G_get C 40 (by decide) g40 rfl inA9 21 (by decide) rfl kf_X9_25 rfl dX9_leastNext_32 ?_
            refine G_iload_n C 1 dX9_leastNext_35 rfl rfl ?_
            refine G_laldN C 46 (by decide) (lnF xx j) g46 rfl (by omega) (by omega) dX9_leastNext_36 ?_
            refine G_lc_ge C 45 dX9_leastNext_37 dX9_leastNext_38 (by decide) (fun c37 => ?_) (fun c37 => ?_)
            · refine G_iconst C (v := 0) dX9_leastNext_45 (by decide) ?_
              refine G_istore_n C 3 (lo' := [(3, .int 0), (2, .int (nI (j + 2))), (1, .int (nI (lnF xx j))), (0, .ref (ad 40))]) dX9_leastNext_46 rfl (by decide) rfl ?_
              refine G_iload_n C 3 dX9_leastNext_47 rfl rfl ?_
              refine G_if_eq C 55 dX9_leastNext_48 (by decide) (fun _ => ?_) (fun h => absurd h (by decide))
              refine G_iload_n C 1 dX9_leastNext_55 rfl rfl ?_
              refine G_istore_n C 1 (lo' := [(1, .int (nI (lnF xx j))), (3, .int 0), (2, .int (nI (j + 2))), (0, .ref (ad 40))]) dX9_leastNext_56 rfl (by decide) rfl ?_
              refine GW.loe (lo' := [(1, .int (nI (lnF xx (j + 1)))), (3, .int 0), (2, .int (nI (j + 2))), (0, .ref (ad 40))]) (by rw [lnF, if_neg c17, if_neg c22n, if_pos c37]) ?_
              refine G_iinc C (v := nI ((j + 2) + 1)) (lo' := [(2, .int (nI ((j + 2) + 1))), (1, .int (nI (lnF xx (j + 1)))), (3, .int 0), (0, .ref (ad 40))]) dX9_leastNext_57 rfl (nI_add _ _) (by decide) rfl ?_
              refine G_goto C 4 dX9_leastNext_60 (by decide) ?_
              refine GW.pick [0, 1, 3] [(2, .int (nI ((j + 2) + 1))), (1, .int (nI (lnF xx (j + 1)))), (0, .ref (ad 40))] rfl ?_
              exact ih (j + 1) (by omega) (by omega)
            · refine G_iconst C (v := 1) dX9_leastNext_41 (by decide) ?_
              refine G_goto C 46 dX9_leastNext_42 (by decide) ?_
              refine G_istore_n C 3 (lo' := [(3, .int 1), (2, .int (nI (j + 2))), (1, .int (nI (lnF xx j))), (0, .ref (ad 40))]) dX9_leastNext_46 rfl (by decide) rfl ?_
              refine G_iload_n C 3 dX9_leastNext_47 rfl rfl ?_
              refine G_if_eq C 55 dX9_leastNext_48 (by decide) (fun h => absurd h (by decide)) (fun _ => ?_)
              refine G_iload_n C 2 dX9_leastNext_51 rfl rfl ?_
              refine G_goto C 56 dX9_leastNext_52 (by decide) ?_
              refine G_istore_n C 1 (lo' := [(1, .int (nI (j + 2))), (3, .int 1), (2, .int (nI (j + 2))), (0, .ref (ad 40))]) dX9_leastNext_56 rfl (by decide) rfl ?_
              refine GW.loe (lo' := [(1, .int (nI (lnF xx (j + 1)))), (3, .int 1), (2, .int (nI (j + 2))), (0, .ref (ad 40))]) (by rw [lnF, if_neg c17, if_neg c22n, if_neg c37]) ?_
              refine G_iinc C (v := nI ((j + 2) + 1)) (lo' := [(2, .int (nI ((j + 2) + 1))), (1, .int (nI (lnF xx (j + 1)))), (3, .int 1), (0, .ref (ad 40))]) dX9_leastNext_57 rfl (nI_add _ _) (by decide) rfl ?_
              refine G_goto C 4 dX9_leastNext_60 (by decide) ?_
              refine GW.pick [0, 1, 3] [(2, .int (nI ((j + 2) + 1))), (1, .int (nI (lnF xx (j + 1)))), (0, .ref (ad 40))] rfl ?_
              exact ih (j + 1) (by omega) (by omega)
  exact key4 60 0 (by omega) (Nat.zero_le _)

abbrev rm_X9_countTo : Room := ({ frames := 6, cells := 0, slots := 0, locals := 129 } : Room)
set_option maxRecDepth 100000 in
set_option maxHeartbeats 4000000 in
theorem c_X9_countTo {L : GL} {ad : Nat → Nat} {G : Nat → va_E} {b : Int64} {xx yy : Nat → Int64} {ik kn ln th m q te us sp bg fo le fi re ca : Int32} {fx fy nx ny ux uy px py : Int64} {ml : Int32} {f : Nat → Int32}  (g40 : G 40 = .inr (9, [.ref (ad 41), .ref (ad 42), .ref (ad 43), .int ik, .ref (ad 44), .int kn, .ref (ad 45), .int ln, .int th, .int m, .int q, .int te, .long fx, .long fy, .long nx, .long ny, .long ux, .long uy, .int us, .long px, .long py, .ref (ad 46), .ref (ad 47), .int sp, .int bg, .int fo, .int le, .int fi, .int re, .int ca])) (g41 : G 41 = .inl (L.ac 0, 60, .inl (sv f ml))) (g46 : G 46 = .inl (L.ac 1, 61, .inr (.inl xx))) (g47 : G 47 = .inl (L.ac 1, 61, .inr (.inl yy))) (hk : okH f) : GM L yX9_countTo cX9_countTo 5 ((some .int)) rm_X9_countTo 50 ad G [.ref (ad 40), .long b] (fun vo G' => ∃ (j1 : Int32) (j2 : Int32) (j3 : Int32) (j4 : Int64) (j5 : Int64) (j6 : Int64) (j7 : Int64) (u1 : Int64) (u2 : Int64) (u3 : Int32) (p1 : Int64) (p2 : Int64) (x1 : Nat → Int64) (y1 : Nat → Int64), vo = some (.int (cuF f b 59)) ∧ G' 40 = .inr (9, [.ref (ad 41), .ref (ad 42), .ref (ad 43), .int ik, .ref (ad 44), .int kn, .ref (ad 45), .int ln, .int th, .int j1, .int j2, .int j3, .long j4, .long j5, .long j6, .long j7, .long u1, .long u2, .int u3, .long p1, .long p2, .ref (ad 46), .ref (ad 47), .int sp, .int bg, .int fo, .int le, .int fi, .int re, .int ca]) ∧ G' 46 = .inl (L.ac 1, 61, .inr (.inl x1)) ∧ G' 47 = .inl (L.ac 1, 61, .inr (.inl y1)) ∧ Agr [40, 46, 47] G G') := by
  refine GM.of (own := RX9) (lo := [(0, .ref (ad 40)), (1, .long b)]) (by decide +kernel) rfl rfl (Nat.le_of_ble_eq_true rfl) (fun E C hr => ?_)
  refine G_aload_n C 0 dX9_countTo_0 rfl rfl ?_
  refine G_callV C (As := []) (rest := []) (c_X9_beginsSolutions g40 g41 g46 g47 hk) ca_X9_beginsSolutions km_X9_183 (by decide) g40 rfl rfl rfl rfl (by decide) (Nat.le_of_ble_eq_true rfl) (by decide) dX9_countTo_1 (fun vv1 gg2 qq3 => ?_)
  obtain ⟨j_4, j_5, j_6, j_7, j_8, j_9, j_10, u_11, u_12, u_13, p_14, p_15, x_16, y_17, rfl, pp18, hh19, hh20, hh21, aa22⟩ := qq3
  have AA23 : Agr [40, 46, 47] G gg2 := aa22.wk (by simp)
  refine G_iconst C (v := 0) dX9_countTo_4 (by decide) ?_
  refine G_istore_n C 3 (lo' := [(3, .int 0), (0, .ref (ad 40)), (1, .long b)]) dX9_countTo_5 rfl (by decide) rfl ?_
  refine G_aload_n C 0 dX9_countTo_6 rfl rfl ?_
  refine G_callV C (As := []) (rest := []) (c_X9_leastNext hh19 hh20) ca_X9_leastNext km_X9_186 (by decide) hh19 rfl rfl rfl rfl (by decide) (Nat.le_of_ble_eq_true rfl) (by decide) dX9_countTo_7 (fun vv24 gg25 qq26 => ?_)
  obtain ⟨rfl, rfl⟩ := qq26
  refine GW.topr (y := nI (lst (k0 f))) (by rw [nxj_l (pp18)]) ?_
  refine G_istore C (lo' := [(4, .int (nI (lst (k0 f)))), (3, .int 0), (0, .ref (ad 40)), (1, .long b)]) dX9_countTo_10 (by decide) rfl ?_
  have key12 : ∀ (n : Nat) (i : Nat) (kap : Nat → Nat) (j1 : Int32) (j2 : Int32) (j3 : Int32) (j4 : Int64) (j5 : Int64) (j6 : Int64) (j7 : Int64) (u1 : Int64) (u2 : Int64) (u3 : Int32) (p1 : Int64) (p2 : Int64) (x1 y1 : Nat → Int64) (G1 : Nat → va_E) (hf12_40 : G1 40 = .inr (9, [.ref (ad 41), .ref (ad 42), .ref (ad 43), .int ik, .ref (ad 44), .int kn, .ref (ad 45), .int ln, .int th, .int j1, .int j2, .int j3, .long j4, .long j5, .long j6, .long j7, .long u1, .long u2, .int u3, .long p1, .long p2, .ref (ad 46), .ref (ad 47), .int sp, .int bg, .int fo, .int le, .int fi, .int re, .int ca])) (hf12_46 : G1 46 = .inl (L.ac 1, 61, .inr (.inl x1))) (hf12_47 : G1 47 = .inl (L.ac 1, 61, .inr (.inl y1))) (ha12 : Agr [40, 46, 47] G G1) (hn : rmK kap < n) (hK : okK kap) (hN : NXj kap x1 y1 59) (hT : i + cnS b kap = cnS b (k0 f)), GW L E 50 ad G1 0 0 12 [(4, .int (nI (lst kap))), (3, .int (nI i)), (0, .ref (ad 40)), (1, .long b)] [] := by
    intro n
    induction n with
    | zero =>
      intro i kap j1 j2 j3 j4 j5 j6 j7 u1 u2 u3 p1 p2 x1 y1 G1 hf12_40 hf12_46 hf12_47 ha12 hn hK hN hT
      exact absurd hn (Nat.not_lt_zero _)
    | succ n ih =>
      intro i kap j1 j2 j3 j4 j5 j6 j7 u1 u2 u3 p1 p2 x1 y1 G1 hf12_40 hf12_46 hf12_47 ha12 hn hK hN hT
      have hl := lst_60 kap
      refine G_iload C dX9_countTo_12 rfl ?_
      refine G_if_le C 47 dX9_countTo_14 (by decide) (fun c14 => ?_) (fun c14 => ?_)
      · have c14n : (lst kap) ≤ 0 := (cI_le (a := (lst kap)) (b := 0) rfl rfl (by omega) (by omega)).mp c14
        refine G_iload_n C 3 dX9_countTo_47 rfl rfl ?_
        exact G_zret C hr rfl dX9_countTo_48 ⟨_, _, _, _, _, _, _, _, _, _, _, _, _, _, (by rw [← cs_0 hk 59 (Nat.le_refl _), show sumN (fun d => cnR b d (k0 f d)) 59 = i from (show cnS b (k0 f) = i by have := cs_z (b := b) hK (by omega); omega)]), hf12_40, hf12_46, hf12_47, ha12⟩
      · have c14n : ¬ (lst kap) ≤ 0 := fun z => c14 ((cI_le (a := (lst kap)) (b := 0) rfl rfl (by omega) (by omega)).mpr z)
        have hs := lst_s hK (show lst kap ≠ 0 by omega)
        have hpr := hK _ hs.1 hl hs.2.2.1
        have hv := nxj_v hN hs.1 hl hs.2.2.1
        have hxv : x1 (lst kap) = xa kap (lst kap) := (hN _ hs.1 hs.2.1).1
        refine G_aload_n C 0 dX9_countTo_17 rfl rfl ?_
        refine G_get C 40 (by decide) hf12_40 rfl inA9 21 (by decide) rfl kf_X9_25 rfl dX9_countTo_18 ?_
        refine G_iload C dX9_countTo_21 rfl ?_
        refine G_laldN C 46 (by decide) (lst kap) hf12_46 rfl (by omega) (by omega) dX9_countTo_23 ?_
        refine G_lload_n C 1 dX9_countTo_24 rfl rfl ?_
        refine G_lc_gt C 47 dX9_countTo_25 dX9_countTo_26 (by decide) (fun c25 => ?_) (fun c25 => ?_)
        · refine G_iload_n C 3 dX9_countTo_47 rfl rfl ?_
          exact G_zret C hr rfl dX9_countTo_48 ⟨_, _, _, _, _, _, _, _, _, _, _, _, _, _, (by rw [← cs_0 hk 59 (Nat.le_refl _), show sumN (fun d => cnR b d (k0 f d)) 59 = i from (show cnS b (k0 f) = i by have := cs_n (b := b) hK hs (by rw [← hxv]; exact Int64.not_le.mpr c25); omega)]), hf12_40, hf12_46, hf12_47, ha12⟩
        · refine G_iinc C (v := nI (i + 1)) (lo' := [(3, .int (nI (i + 1))), (4, .int (nI (lst kap))), (0, .ref (ad 40)), (1, .long b)]) dX9_countTo_29 rfl (nI_add _ _) (by decide) rfl ?_
          refine G_aload_n C 0 dX9_countTo_32 rfl rfl ?_
          refine G_iload C dX9_countTo_33 rfl ?_
          refine G_callV C (As := [.int (nI (lst kap))]) (rest := []) (c_X9_goesOn (k := (kap (lst kap))) hf12_40 hf12_46 hf12_47 hs.1 hl hpr.1 hpr.2 hv.1 hv.2) ca_X9_goesOn km_X9_180 (by decide) hf12_40 rfl rfl rfl rfl (by decide) (Nat.le_of_ble_eq_true rfl) (by decide) dX9_countTo_35 (fun vv27 gg28 qq29 => ?_)
          obtain ⟨j_30, j_31, j_32, j_33, j_34, j_35, j_36, u_37, u_38, u_39, p_40, p_41, rfl, hh42, hh43, hh44, aa45⟩ := qq29
          have AA46 : Agr [40, 46, 47] G gg28 := ha12.tr aa45 (by simp) (by simp)
          refine G_aload_n C 0 dX9_countTo_38 rfl rfl ?_
          refine G_callV C (As := []) (rest := []) (c_X9_leastNext hh42 hh43) ca_X9_leastNext km_X9_186 (by decide) hh42 rfl rfl rfl rfl (by decide) (Nat.le_of_ble_eq_true rfl) (by decide) dX9_countTo_39 (fun vv47 gg48 qq49 => ?_)
          obtain ⟨rfl, rfl⟩ := qq49
          have hN2 := nxj_p (r := lst kap) hN
          refine GW.topr (y := nI (lst (stp kap (lst kap)))) (by rw [nxj_l (hN2)]) ?_
          refine G_istore C (lo' := [(4, .int (nI (lst (stp kap (lst kap))))), (3, .int (nI (i + 1))), (0, .ref (ad 40)), (1, .long b)]) dX9_countTo_42 (by decide) rfl ?_
          refine G_goto C 12 dX9_countTo_44 (by decide) ?_
          exact ih (i + 1) (stp kap (lst kap)) _ _ _ _ _ _ _ _ _ _ _ _ _ _ gg28 hh42 hh43 hh44 AA46 (by have := rm_s hs.1 hl hs.2.2.1 hpr.2; omega) (okK_s hK hs.2.2.1) (hN2) (by have := cs_y (b := b) hK hs.1 hl hs.2.2.1 (by rw [← hxv]; exact Int64.not_lt.mp c25); omega)
  exact key12 (rmK (k0 f) + 1) 0 (k0 f) _ _ _ _ _ _ _ _ _ _ _ _ _ _ gg2 hh19 hh20 hh21 AA23 (Nat.lt_succ_self _) (okK_0 hk) (pp18) (Nat.zero_add _)

abbrev rm_X9_solutions : Room := ({ frames := 7, cells := 0, slots := 0, locals := 153 } : Room)
set_option maxRecDepth 100000 in
set_option maxHeartbeats 4000000 in
theorem c_X9_solutions {L : GL} {ad : Nat → Nat} {G : Nat → va_E} {xx yy : Nat → Int64} {ik kn ln th m q te us sp bg fo le fi re ca : Int32} {fx fy nx ny ux uy px py : Int64} {ml : Int32} {f : Nat → Int32}  (g40 : G 40 = .inr (9, [.ref (ad 41), .ref (ad 42), .ref (ad 43), .int ik, .ref (ad 44), .int kn, .ref (ad 45), .int ln, .int th, .int m, .int q, .int te, .long fx, .long fy, .long nx, .long ny, .long ux, .long uy, .int us, .long px, .long py, .ref (ad 46), .ref (ad 47), .int sp, .int bg, .int fo, .int le, .int fi, .int re, .int ca])) (g41 : G 41 = .inl (L.ac 0, 60, .inl (sv f ml))) (g46 : G 46 = .inl (L.ac 1, 61, .inr (.inl xx))) (g47 : G 47 = .inl (L.ac 1, 61, .inr (.inl yy))) (hk : okH f) : GM L yX9_solutions cX9_solutions 1 ((some .int)) rm_X9_solutions 50 ad G [.ref (ad 40)] (fun vo G' => ∃ (j1 : Int32) (j2 : Int32) (j3 : Int32) (j4 : Int64) (j5 : Int64) (j6 : Int64) (j7 : Int64) (u1 : Int64) (u2 : Int64) (u3 : Int32) (p1 : Int64) (p2 : Int64) (x1 : Nat → Int64) (y1 : Nat → Int64), vo = some (.int (cuF f 1000000000000000 59)) ∧ G' 40 = .inr (9, [.ref (ad 41), .ref (ad 42), .ref (ad 43), .int ik, .ref (ad 44), .int kn, .ref (ad 45), .int ln, .int 0, .int j1, .int j2, .int j3, .long j4, .long j5, .long j6, .long j7, .long u1, .long u2, .int u3, .long p1, .long p2, .ref (ad 46), .ref (ad 47), .int sp, .int bg, .int fo, .int le, .int fi, .int re, .int ca]) ∧ G' 46 = .inl (L.ac 1, 61, .inr (.inl x1)) ∧ G' 47 = .inl (L.ac 1, 61, .inr (.inl y1)) ∧ Agr [40, 46, 47] G G') := by
  refine GM.of (own := RX9) (lo := [(0, .ref (ad 40))]) (by decide +kernel) rfl rfl (Nat.le_of_ble_eq_true rfl) (fun E C hr => ?_)
  refine G_aload_n C 0 dX9_solutions_0 rfl rfl ?_
  refine G_iconst C (v := 0) dX9_solutions_1 (by decide) ?_
  refine G_putp C 40 (by decide) g40 rfl inA9 tyX9_ok nmX9 8 (by decide) rfl kf_X9_32 rfl rfl rfl (fs' := [.ref (ad 41), .ref (ad 42), .ref (ad 43), .int ik, .ref (ad 44), .int kn, .ref (ad 45), .int ln, .int 0, .int m, .int q, .int te, .long fx, .long fy, .long nx, .long ny, .long ux, .long uy, .int us, .long px, .long py, .ref (ad 46), .ref (ad 47), .int sp, .int bg, .int fo, .int le, .int fi, .int re, .int ca]) (Nat.le_of_ble_eq_true rfl) rfl dX9_solutions_2 (fun gg1 hh2 aa3 => ?_)
  have AA4 : Agr [40] G gg1 := aa3.wk (by simp)
  refine G_aload_n C 0 dX9_solutions_5 rfl rfl ?_
  refine G_ldc2 C dX9_solutions_6 kl_X9_110 ?_
  refine G_callV C (As := [.long 1000000000000000]) (rest := []) (c_X9_countTo hh2 ((aa3 41 (by decide)).trans g41) ((aa3 46 (by decide)).trans g46) ((aa3 47 (by decide)).trans g47) hk) ca_X9_countTo km_X9_189 (by decide) hh2 rfl rfl rfl rfl (by decide) (Nat.le_of_ble_eq_true rfl) (by decide) dX9_solutions_9 (fun vv5 gg6 qq7 => ?_)
  obtain ⟨j_8, j_9, j_10, j_11, j_12, j_13, j_14, u_15, u_16, u_17, p_18, p_19, x_20, y_21, rfl, hh22, hh23, hh24, aa25⟩ := qq7
  have AA26 : Agr [40, 46, 47] G gg6 := AA4.tr aa25 (by simp) (by simp)
  exact G_zret C hr rfl dX9_solutions_12 ⟨_, _, _, _, _, _, _, _, _, _, _, _, _, _, rfl, hh22, hh23, hh24, AA26⟩

abbrev rm_X9_solutionsUpToA : Room := ({ frames := 1, cells := 0, slots := 0, locals := 21 } : Room)
set_option maxRecDepth 100000 in
set_option maxHeartbeats 4000000 in
theorem c_X9_solutionsUpToA {L : GL} {ad : Nat → Nat} {G : Nat → va_E} {b : Int64} {ik kn ln th m q te us sp bg fo le fi re ca : Int32} {fx fy nx ny ux uy px py : Int64}  (g40 : G 40 = .inr (9, [.ref (ad 41), .ref (ad 42), .ref (ad 43), .int ik, .ref (ad 44), .int kn, .ref (ad 45), .int ln, .int th, .int m, .int q, .int te, .long fx, .long fy, .long nx, .long ny, .long ux, .long uy, .int us, .long px, .long py, .ref (ad 46), .ref (ad 47), .int sp, .int bg, .int fo, .int le, .int fi, .int re, .int ca])) (hb : b < 0 ∨ 1000000000000000 < b) : GM L yX9_solutionsUpTo cX9_solutionsUpTo 3 ((some .int)) rm_X9_solutionsUpToA 50 ad G [.ref (ad 40), .long b] (fun vo G' => vo = some (.int 0) ∧ G' 40 = .inr (9, [.ref (ad 41), .ref (ad 42), .ref (ad 43), .int ik, .ref (ad 44), .int kn, .ref (ad 45), .int ln, .int 1, .int m, .int q, .int te, .long fx, .long fy, .long nx, .long ny, .long ux, .long uy, .int us, .long px, .long py, .ref (ad 46), .ref (ad 47), .int sp, .int bg, .int fo, .int le, .int fi, .int re, .int ca]) ∧ Agr [40] G G') := by
  refine GM.of (own := RX9) (lo := [(0, .ref (ad 40)), (1, .long b)]) (by decide +kernel) rfl rfl (Nat.le_of_ble_eq_true rfl) (fun E C hr => ?_)
  refine G_aload_n C 0 dX9_solutionsUpTo_0 rfl rfl ?_
  refine G_lload_n C 1 dX9_solutionsUpTo_1 rfl rfl ?_
  refine G_lconst C (v := 0) dX9_solutionsUpTo_2 (by decide) ?_
  refine G_lc_lt C 19 dX9_solutionsUpTo_3 dX9_solutionsUpTo_4 (by decide) (fun c3 => ?_) (fun c3 => ?_)
  · refine G_iconst C (v := 0) dX9_solutionsUpTo_19 (by decide) ?_
    refine G_callV C (As := [.int 0]) (rest := []) (c_X9_asks0 g40) ca_X9_asks km_X9_161 (by decide) g40 rfl rfl rfl rfl (by decide) (Nat.le_of_ble_eq_true rfl) (by decide) dX9_solutionsUpTo_20 (fun vv1 gg2 qq3 => ?_)
    obtain ⟨rfl, hh4, aa5⟩ := qq3
    have AA6 : Agr [40] G gg2 := aa5.wk (by simp)
    refine G_if_eq C 34 dX9_solutionsUpTo_23 (by decide) (fun _ => ?_) (fun h => absurd h (by decide))
    refine G_iconst C (v := 0) dX9_solutionsUpTo_34 (by decide) ?_
    exact G_zret C hr rfl dX9_solutionsUpTo_35 ⟨rfl, hh4, AA6⟩
  · refine G_lload_n C 1 dX9_solutionsUpTo_7 rfl rfl ?_
    refine G_ldc2 C dX9_solutionsUpTo_8 kl_X9_110 ?_
    refine G_lc_gt C 19 dX9_solutionsUpTo_11 dX9_solutionsUpTo_12 (by decide) (fun c11 => ?_) (fun c11 => False.elim (hb.elim c3 c11))
    refine G_iconst C (v := 0) dX9_solutionsUpTo_19 (by decide) ?_
    refine G_callV C (As := [.int 0]) (rest := []) (c_X9_asks0 g40) ca_X9_asks km_X9_161 (by decide) g40 rfl rfl rfl rfl (by decide) (Nat.le_of_ble_eq_true rfl) (by decide) dX9_solutionsUpTo_20 (fun vv7 gg8 qq9 => ?_)
    obtain ⟨rfl, hh10, aa11⟩ := qq9
    have AA12 : Agr [40] G gg8 := aa11.wk (by simp)
    refine G_if_eq C 34 dX9_solutionsUpTo_23 (by decide) (fun _ => ?_) (fun h => absurd h (by decide))
    refine G_iconst C (v := 0) dX9_solutionsUpTo_34 (by decide) ?_
    exact G_zret C hr rfl dX9_solutionsUpTo_35 ⟨rfl, hh10, AA12⟩

abbrev rm_X9_solutionsUpToR : Room := ({ frames := 7, cells := 0, slots := 0, locals := 153 } : Room)
set_option maxRecDepth 100000 in
set_option maxHeartbeats 4000000 in
theorem c_X9_solutionsUpToR {L : GL} {ad : Nat → Nat} {G : Nat → va_E} {b : Int64} {xx yy : Nat → Int64} {ik kn ln th m q te us sp bg fo le fi re ca : Int32} {fx fy nx ny ux uy px py : Int64} {ml : Int32} {f : Nat → Int32}  (g40 : G 40 = .inr (9, [.ref (ad 41), .ref (ad 42), .ref (ad 43), .int ik, .ref (ad 44), .int kn, .ref (ad 45), .int ln, .int th, .int m, .int q, .int te, .long fx, .long fy, .long nx, .long ny, .long ux, .long uy, .int us, .long px, .long py, .ref (ad 46), .ref (ad 47), .int sp, .int bg, .int fo, .int le, .int fi, .int re, .int ca])) (g41 : G 41 = .inl (L.ac 0, 60, .inl (sv f ml))) (g46 : G 46 = .inl (L.ac 1, 61, .inr (.inl xx))) (g47 : G 47 = .inl (L.ac 1, 61, .inr (.inl yy))) (hk : okH f) (hb1 : ¬ b < 0) (hb2 : ¬ 1000000000000000 < b) : GM L yX9_solutionsUpTo cX9_solutionsUpTo 3 ((some .int)) rm_X9_solutionsUpToR 50 ad G [.ref (ad 40), .long b] (fun vo G' => ∃ (j1 : Int32) (j2 : Int32) (j3 : Int32) (j4 : Int64) (j5 : Int64) (j6 : Int64) (j7 : Int64) (u1 : Int64) (u2 : Int64) (u3 : Int32) (p1 : Int64) (p2 : Int64) (x1 : Nat → Int64) (y1 : Nat → Int64), vo = some (.int (cuF f b 59)) ∧ G' 40 = .inr (9, [.ref (ad 41), .ref (ad 42), .ref (ad 43), .int ik, .ref (ad 44), .int kn, .ref (ad 45), .int ln, .int 0, .int j1, .int j2, .int j3, .long j4, .long j5, .long j6, .long j7, .long u1, .long u2, .int u3, .long p1, .long p2, .ref (ad 46), .ref (ad 47), .int sp, .int bg, .int fo, .int le, .int fi, .int re, .int ca]) ∧ G' 46 = .inl (L.ac 1, 61, .inr (.inl x1)) ∧ G' 47 = .inl (L.ac 1, 61, .inr (.inl y1)) ∧ Agr [40, 46, 47] G G') := by
  refine GM.of (own := RX9) (lo := [(0, .ref (ad 40)), (1, .long b)]) (by decide +kernel) rfl rfl (Nat.le_of_ble_eq_true rfl) (fun E C hr => ?_)
  refine G_aload_n C 0 dX9_solutionsUpTo_0 rfl rfl ?_
  refine G_lload_n C 1 dX9_solutionsUpTo_1 rfl rfl ?_
  refine G_lconst C (v := 0) dX9_solutionsUpTo_2 (by decide) ?_
  refine G_lc_lt C 19 dX9_solutionsUpTo_3 dX9_solutionsUpTo_4 (by decide) (fun c3 => False.elim (hb1 c3)) (fun c3 => ?_)
  refine G_lload_n C 1 dX9_solutionsUpTo_7 rfl rfl ?_
  refine G_ldc2 C dX9_solutionsUpTo_8 kl_X9_110 ?_
  refine G_lc_gt C 19 dX9_solutionsUpTo_11 dX9_solutionsUpTo_12 (by decide) (fun c11 => False.elim (hb2 c11)) (fun c11 => ?_)
  refine G_iconst C (v := 1) dX9_solutionsUpTo_15 (by decide) ?_
  refine G_goto C 20 dX9_solutionsUpTo_16 (by decide) ?_
  refine G_callV C (As := [.int 1]) (rest := []) (c_X9_asks1 g40) ca_X9_asks km_X9_161 (by decide) g40 rfl rfl rfl rfl (by decide) (Nat.le_of_ble_eq_true rfl) (by decide) dX9_solutionsUpTo_20 (fun vv1 gg2 qq3 => ?_)
  obtain ⟨rfl, hh4, aa5⟩ := qq3
  have AA6 : Agr [40] G gg2 := aa5.wk (by simp)
  refine G_if_eq C 34 dX9_solutionsUpTo_23 (by decide) (fun h => absurd h (by decide)) (fun _ => ?_)
  refine G_aload_n C 0 dX9_solutionsUpTo_26 rfl rfl ?_
  refine G_lload_n C 1 dX9_solutionsUpTo_27 rfl rfl ?_
  refine G_callV C (As := [.long b]) (rest := []) (c_X9_countTo hh4 ((aa5 41 (by decide)).trans g41) ((aa5 46 (by decide)).trans g46) ((aa5 47 (by decide)).trans g47) hk) ca_X9_countTo km_X9_189 (by decide) hh4 rfl rfl rfl rfl (by decide) (Nat.le_of_ble_eq_true rfl) (by decide) dX9_solutionsUpTo_28 (fun vv7 gg8 qq9 => ?_)
  obtain ⟨j_10, j_11, j_12, j_13, j_14, j_15, j_16, u_17, u_18, u_19, p_20, p_21, x_22, y_23, rfl, hh24, hh25, hh26, aa27⟩ := qq9
  have AA28 : Agr [40, 46, 47] G gg8 := AA6.tr aa27 (by simp) (by simp)
  refine G_goto C 35 dX9_solutionsUpTo_31 (by decide) ?_
  exact G_zret C hr rfl dX9_solutionsUpTo_35 ⟨_, _, _, _, _, _, _, _, _, _, _, _, _, _, rfl, hh24, hh25, hh26, AA28⟩

abbrev rm_X9_solA : Room := ({ frames := 1, cells := 0, slots := 0, locals := 21 } : Room)
set_option maxRecDepth 100000 in
set_option maxHeartbeats 4000000 in
theorem c_X9_solA {L : GL} {ad : Nat → Nat} {G : Nat → va_E} {n : Int32} {ik kn ln th m q te us sp bg fo le fi re ca : Int32} {fx fy nx ny ux uy px py : Int64}  (g40 : G 40 = .inr (9, [.ref (ad 41), .ref (ad 42), .ref (ad 43), .int ik, .ref (ad 44), .int kn, .ref (ad 45), .int ln, .int th, .int m, .int q, .int te, .long fx, .long fy, .long nx, .long ny, .long ux, .long uy, .int us, .long px, .long py, .ref (ad 46), .ref (ad 47), .int sp, .int bg, .int fo, .int le, .int fi, .int re, .int ca])) (hro : n < 0) : GM L yX9_solution cX9_solution 4 ((some .int)) rm_X9_solA 50 ad G [.ref (ad 40), .int n] (fun vo G' => vo = some (.int 0) ∧ G' 40 = .inr (9, [.ref (ad 41), .ref (ad 42), .ref (ad 43), .int ik, .ref (ad 44), .int kn, .ref (ad 45), .int ln, .int 1, .int m, .int q, .int te, .long fx, .long fy, .long nx, .long ny, .long ux, .long uy, .int us, .long px, .long py, .ref (ad 46), .ref (ad 47), .int sp, .int bg, .int fo, .int le, .int fi, .int re, .int ca]) ∧ Agr [40] G G') := by
  refine GM.of (own := RX9) (lo := [(0, .ref (ad 40)), (1, .int n)]) (by decide +kernel) rfl rfl (Nat.le_of_ble_eq_true rfl) (fun E C hr => ?_)
  refine G_aload_n C 0 dX9_solution_0 rfl rfl ?_
  refine G_iload_n C 1 dX9_solution_1 rfl rfl ?_
  refine G_if_lt C 9 dX9_solution_2 (by decide) (fun c2 => ?_) (fun c2 => False.elim (c2 hro))
  refine G_iconst C (v := 0) dX9_solution_9 (by decide) ?_
  refine G_callV C (As := [.int 0]) (rest := []) (c_X9_asks0 g40) ca_X9_asks km_X9_161 (by decide) g40 rfl rfl rfl rfl (by decide) (Nat.le_of_ble_eq_true rfl) (by decide) dX9_solution_10 (fun vv1 gg2 qq3 => ?_)
  obtain ⟨rfl, hh4, aa5⟩ := qq3
  have AA6 : Agr [40] G gg2 := aa5.wk (by simp)
  refine G_if_ne C 18 dX9_solution_13 (by decide) (fun h => absurd h (by decide)) (fun _ => ?_)
  refine G_iconst C (v := 0) dX9_solution_16 (by decide) ?_
  exact G_zret C hr rfl dX9_solution_17 ⟨rfl, hh4, AA6⟩

abbrev rm_X9_solZ : Room := ({ frames := 6, cells := 0, slots := 0, locals := 129 } : Room)
set_option maxRecDepth 100000 in
set_option maxHeartbeats 4000000 in
theorem c_X9_solZ {L : GL} {ad : Nat → Nat} {G : Nat → va_E} {p : Nat} {xx yy : Nat → Int64} {ik kn ln th m q te us sp bg fo le fi re ca : Int32} {fx fy nx ny ux uy px py : Int64} {ml : Int32} {f : Nat → Int32}  (g40 : G 40 = .inr (9, [.ref (ad 41), .ref (ad 42), .ref (ad 43), .int ik, .ref (ad 44), .int kn, .ref (ad 45), .int ln, .int th, .int m, .int q, .int te, .long fx, .long fy, .long nx, .long ny, .long ux, .long uy, .int us, .long px, .long py, .ref (ad 46), .ref (ad 47), .int sp, .int bg, .int fo, .int le, .int fi, .int re, .int ca])) (g41 : G 41 = .inl (L.ac 0, 60, .inl (sv f ml))) (g46 : G 46 = .inl (L.ac 1, 61, .inr (.inl xx))) (g47 : G 47 = .inl (L.ac 1, 61, .inr (.inl yy))) (hk : okH f) (hp31 : p < 2147483648) (hz : lst (kp f p) = 0) : GM L yX9_solution cX9_solution 4 ((some .int)) rm_X9_solZ 50 ad G [.ref (ad 40), .int (nI p)] (fun vo G' => ∃ (j1 : Int32) (j2 : Int32) (j3 : Int32) (j4 : Int64) (j5 : Int64) (j6 : Int64) (j7 : Int64) (u1 : Int64) (u2 : Int64) (u3 : Int32) (p1 : Int64) (p2 : Int64) (x1 : Nat → Int64) (y1 : Nat → Int64), vo = some (.int 0) ∧ (NXj (kp f p) x1 y1 59) ∧ G' 40 = .inr (9, [.ref (ad 41), .ref (ad 42), .ref (ad 43), .int ik, .ref (ad 44), .int kn, .ref (ad 45), .int ln, .int 2, .int j1, .int j2, .int j3, .long j4, .long j5, .long j6, .long j7, .long u1, .long u2, .int u3, .long p1, .long p2, .ref (ad 46), .ref (ad 47), .int sp, .int bg, .int fo, .int le, .int fi, .int re, .int ca]) ∧ G' 46 = .inl (L.ac 1, 61, .inr (.inl x1)) ∧ G' 47 = .inl (L.ac 1, 61, .inr (.inl y1)) ∧ Agr [40, 46, 47] G G') := by
  refine GM.of (own := RX9) (lo := [(0, .ref (ad 40)), (1, .int (nI p))]) (by decide +kernel) rfl rfl (Nat.le_of_ble_eq_true rfl) (fun E C hr => ?_)
  refine G_aload_n C 0 dX9_solution_0 rfl rfl ?_
  refine G_iload_n C 1 dX9_solution_1 rfl rfl ?_
  refine G_if_lt C 9 dX9_solution_2 (by decide) (fun c2 => False.elim (absurd c2 (nI_pos hp31))) (fun c2 => ?_)
  have c2n : ¬ p < 0 := fun z => c2 ((cI_lt (a := p) (b := 0) rfl rfl (by omega) (by omega)).mpr z)
  refine G_iconst C (v := 1) dX9_solution_5 (by decide) ?_
  refine G_goto C 10 dX9_solution_6 (by decide) ?_
  refine G_callV C (As := [.int 1]) (rest := []) (c_X9_asks1 g40) ca_X9_asks km_X9_161 (by decide) g40 rfl rfl rfl rfl (by decide) (Nat.le_of_ble_eq_true rfl) (by decide) dX9_solution_10 (fun vv1 gg2 qq3 => ?_)
  obtain ⟨rfl, hh4, aa5⟩ := qq3
  have AA6 : Agr [40] G gg2 := aa5.wk (by simp)
  refine G_if_ne C 18 dX9_solution_13 (by decide) (fun _ => ?_) (fun h => absurd h (by decide))
  refine G_aload_n C 0 dX9_solution_18 rfl rfl ?_
  refine G_callV C (As := []) (rest := []) (c_X9_beginsSolutions hh4 ((aa5 41 (by decide)).trans g41) ((aa5 46 (by decide)).trans g46) ((aa5 47 (by decide)).trans g47) hk) ca_X9_beginsSolutions km_X9_183 (by decide) hh4 rfl rfl rfl rfl (by decide) (Nat.le_of_ble_eq_true rfl) (by decide) dX9_solution_19 (fun vv7 gg8 qq9 => ?_)
  obtain ⟨j_10, j_11, j_12, j_13, j_14, j_15, j_16, u_17, u_18, u_19, p_20, p_21, x_22, y_23, rfl, pp24, hh25, hh26, hh27, aa28⟩ := qq9
  have AA29 : Agr [40, 46, 47] G gg8 := AA6.tr aa28 (by simp) (by simp)
  refine G_aload_n C 0 dX9_solution_22 rfl rfl ?_
  refine G_callV C (As := []) (rest := []) (c_X9_leastNext hh25 hh26) ca_X9_leastNext km_X9_186 (by decide) hh25 rfl rfl rfl rfl (by decide) (Nat.le_of_ble_eq_true rfl) (by decide) dX9_solution_23 (fun vv30 gg31 qq32 => ?_)
  obtain ⟨rfl, rfl⟩ := qq32
  refine GW.topr (y := nI (lst (k0 f))) (by rw [nxj_l (pp24)]) ?_
  refine G_istore_n C 2 (lo' := [(2, .int (nI (lst (k0 f)))), (0, .ref (ad 40)), (1, .int (nI p))]) dX9_solution_26 rfl (by decide) rfl ?_
  refine G_iload_n C 1 dX9_solution_27 rfl rfl ?_
  refine G_istore_n C 3 (lo' := [(3, .int (nI p)), (2, .int (nI (lst (k0 f)))), (0, .ref (ad 40)), (1, .int (nI p))]) dX9_solution_28 rfl (by decide) rfl ?_
  have key29 : ∀ (n : Nat) (i : Nat) (j1 : Int32) (j2 : Int32) (j3 : Int32) (j4 : Int64) (j5 : Int64) (j6 : Int64) (j7 : Int64) (u1 : Int64) (u2 : Int64) (u3 : Int32) (p1 : Int64) (p2 : Int64) (x1 y1 : Nat → Int64) (G1 : Nat → va_E) (hf29_40 : G1 40 = .inr (9, [.ref (ad 41), .ref (ad 42), .ref (ad 43), .int ik, .ref (ad 44), .int kn, .ref (ad 45), .int ln, .int 0, .int j1, .int j2, .int j3, .long j4, .long j5, .long j6, .long j7, .long u1, .long u2, .int u3, .long p1, .long p2, .ref (ad 46), .ref (ad 47), .int sp, .int bg, .int fo, .int le, .int fi, .int re, .int ca])) (hf29_46 : G1 46 = .inl (L.ac 1, 61, .inr (.inl x1))) (hf29_47 : G1 47 = .inl (L.ac 1, 61, .inr (.inl y1))) (ha29 : Agr [40, 46, 47] G G1) (hn : p - i < n) (hi : i ≤ p) (hN : NXj (kp f i) x1 y1 59), GW L E 50 ad G1 0 0 29 [(3, .int (nI (p - i))), (2, .int (nI (lst (kp f i)))), (0, .ref (ad 40)), (1, .int (nI p))] [] := by
    intro n
    induction n with
    | zero =>
      intro i j1 j2 j3 j4 j5 j6 j7 u1 u2 u3 p1 p2 x1 y1 G1 hf29_40 hf29_46 hf29_47 ha29 hn hi hN
      exact absurd hn (Nat.not_lt_zero _)
    | succ n ih =>
      intro i j1 j2 j3 j4 j5 j6 j7 u1 u2 u3 p1 p2 x1 y1 G1 hf29_40 hf29_46 hf29_47 ha29 hn hi hN
      have hl := lst_60 (kp f i)
      have hK := okK_p hk i
      refine G_iload_n C 2 dX9_solution_29 rfl rfl ?_
      refine G_if_le C 53 dX9_solution_30 (by decide) (fun c30 => ?_) (fun c30 => ?_)
      · have c30n : (lst (kp f i)) ≤ 0 := (cI_le (a := (lst (kp f i))) (b := 0) rfl rfl (by omega) (by omega)).mp c30
        have hki : kp f p = kp f i := kp_stop (by omega) p hi
        refine GW.loe (lo' := [(3, .int (nI (p - i))), (2, .int 0), (0, .ref (ad 40)), (1, .int (nI p))]) (by rw [← hki, hz]; rfl) ?_
        refine G_aload_n C 0 dX9_solution_53 rfl rfl ?_
        refine G_iload_n C 2 dX9_solution_54 rfl rfl ?_
        refine G_if_ne C 62 dX9_solution_55 (by decide) (fun h => absurd h (by decide)) (fun _ => ?_)
        refine G_iconst C (v := 2) dX9_solution_58 (by decide) ?_
        refine G_goto C 63 dX9_solution_59 (by decide) ?_
        refine G_putp C 40 (by decide) hf29_40 rfl inA9 tyX9_ok nmX9 8 (by decide) rfl kf_X9_32 rfl rfl rfl (fs' := [.ref (ad 41), .ref (ad 42), .ref (ad 43), .int ik, .ref (ad 44), .int kn, .ref (ad 45), .int ln, .int 2, .int j1, .int j2, .int j3, .long j4, .long j5, .long j6, .long j7, .long u1, .long u2, .int u3, .long p1, .long p2, .ref (ad 46), .ref (ad 47), .int sp, .int bg, .int fo, .int le, .int fi, .int re, .int ca]) (Nat.le_of_ble_eq_true rfl) rfl dX9_solution_63 (fun gg33 hh34 aa35 => ?_)
        have AA36 : Agr [40, 46, 47] G gg33 := ha29.tr aa35 (by simp) (by simp)
        refine G_iload_n C 2 dX9_solution_66 rfl rfl ?_
        exact G_zret C hr rfl dX9_solution_67 ⟨_, _, _, _, _, _, _, _, _, _, _, _, _, _, rfl, hki.symm ▸ hN, hh34, ((aa35 46 (by decide)).trans hf29_46), ((aa35 47 (by decide)).trans hf29_47), AA36⟩
      · have c30n : ¬ (lst (kp f i)) ≤ 0 := fun z => c30 ((cI_le (a := (lst (kp f i))) (b := 0) rfl rfl (by omega) (by omega)).mpr z)
        refine G_iload_n C 3 dX9_solution_33 rfl rfl ?_
        refine G_if_le C 53 dX9_solution_34 (by decide) (fun c34 => ?_) (fun c34 => ?_)
        · have c34n : (p - i) ≤ 0 := (cI_le (a := (p - i)) (b := 0) rfl rfl (by omega) (by omega)).mp c34
          have hki : kp f p = kp f i := by rw [show i = p by omega]
          refine GW.loe (lo' := [(3, .int (nI (p - i))), (2, .int 0), (0, .ref (ad 40)), (1, .int (nI p))]) (by rw [← hki, hz]; rfl) ?_
          refine G_aload_n C 0 dX9_solution_53 rfl rfl ?_
          refine G_iload_n C 2 dX9_solution_54 rfl rfl ?_
          refine G_if_ne C 62 dX9_solution_55 (by decide) (fun h => absurd h (by decide)) (fun _ => ?_)
          refine G_iconst C (v := 2) dX9_solution_58 (by decide) ?_
          refine G_goto C 63 dX9_solution_59 (by decide) ?_
          refine G_putp C 40 (by decide) hf29_40 rfl inA9 tyX9_ok nmX9 8 (by decide) rfl kf_X9_32 rfl rfl rfl (fs' := [.ref (ad 41), .ref (ad 42), .ref (ad 43), .int ik, .ref (ad 44), .int kn, .ref (ad 45), .int ln, .int 2, .int j1, .int j2, .int j3, .long j4, .long j5, .long j6, .long j7, .long u1, .long u2, .int u3, .long p1, .long p2, .ref (ad 46), .ref (ad 47), .int sp, .int bg, .int fo, .int le, .int fi, .int re, .int ca]) (Nat.le_of_ble_eq_true rfl) rfl dX9_solution_63 (fun gg37 hh38 aa39 => ?_)
          have AA40 : Agr [40, 46, 47] G gg37 := ha29.tr aa39 (by simp) (by simp)
          refine G_iload_n C 2 dX9_solution_66 rfl rfl ?_
          exact G_zret C hr rfl dX9_solution_67 ⟨_, _, _, _, _, _, _, _, _, _, _, _, _, _, rfl, hki.symm ▸ hN, hh38, ((aa39 46 (by decide)).trans hf29_46), ((aa39 47 (by decide)).trans hf29_47), AA40⟩
        · have c34n : ¬ (p - i) ≤ 0 := fun z => c34 ((cI_le (a := (p - i)) (b := 0) rfl rfl (by omega) (by omega)).mpr z)
          have hz0 : lst (kp f i) ≠ 0 := by omega
          have hs := lst_s hK hz0
          have hpr := hK _ hs.1 hl hs.2.2.1
          have hv := nxj_v hN hs.1 hl hs.2.2.1
          refine G_aload_n C 0 dX9_solution_37 rfl rfl ?_
          refine G_iload_n C 2 dX9_solution_38 rfl rfl ?_
          refine G_callV C (As := [.int (nI (lst (kp f i)))]) (rest := []) (c_X9_goesOn (k := (kp f i (lst (kp f i)))) hf29_40 hf29_46 hf29_47 hs.1 hl hpr.1 hpr.2 hv.1 hv.2) ca_X9_goesOn km_X9_180 (by decide) hf29_40 rfl rfl rfl rfl (by decide) (Nat.le_of_ble_eq_true rfl) (by decide) dX9_solution_39 (fun vv41 gg42 qq43 => ?_)
          obtain ⟨j_44, j_45, j_46, j_47, j_48, j_49, j_50, u_51, u_52, u_53, p_54, p_55, rfl, hh56, hh57, hh58, aa59⟩ := qq43
          have AA60 : Agr [40, 46, 47] G gg42 := ha29.tr aa59 (by simp) (by simp)
          refine G_aload_n C 0 dX9_solution_42 rfl rfl ?_
          refine G_callV C (As := []) (rest := []) (c_X9_leastNext hh56 hh57) ca_X9_leastNext km_X9_186 (by decide) hh56 rfl rfl rfl rfl (by decide) (Nat.le_of_ble_eq_true rfl) (by decide) dX9_solution_43 (fun vv61 gg62 qq63 => ?_)
          obtain ⟨rfl, rfl⟩ := qq63
          have hN2 := kp_n hz0 ▸ nxj_p (r := lst (kp f i)) hN
          refine GW.topr (y := nI (lst (kp f (i + 1)))) (by rw [nxj_l (hN2)]) ?_
          refine G_istore_n C 2 (lo' := [(2, .int (nI (lst (kp f (i + 1))))), (3, .int (nI (p - i))), (0, .ref (ad 40)), (1, .int (nI p))]) dX9_solution_46 rfl (by decide) rfl ?_
          refine G_iinc C (v := ((nI (p - i)) + (-1))) (lo' := [(3, .int ((nI (p - i)) + (-1))), (2, .int (nI (lst (kp f (i + 1))))), (0, .ref (ad 40)), (1, .int (nI p))]) dX9_solution_47 rfl rfl (by decide) rfl ?_
          refine GW.loe (lo' := [(3, .int (nI (p - (i + 1)))), (2, .int (nI (lst (kp f (i + 1))))), (0, .ref (ad 40)), (1, .int (nI p))]) (by rw [nI_dec (by omega)]) ?_
          refine G_goto C 29 dX9_solution_50 (by decide) ?_
          exact ih (i + 1) _ _ _ _ _ _ _ _ _ _ _ _ _ _ gg42 hh56 hh57 hh58 AA60 (by omega) (by omega) (hN2)
  exact key29 (p + 1) 0 _ _ _ _ _ _ _ _ _ _ _ _ _ _ gg8 hh25 hh26 hh27 AA29 (by omega) (Nat.zero_le _) (pp24)

abbrev rm_X9_solY : Room := ({ frames := 6, cells := 0, slots := 0, locals := 129 } : Room)
set_option maxRecDepth 100000 in
set_option maxHeartbeats 4000000 in
theorem c_X9_solY {L : GL} {ad : Nat → Nat} {G : Nat → va_E} {p : Nat} {xx yy : Nat → Int64} {ik kn ln th m q te us sp bg fo le fi re ca : Int32} {fx fy nx ny ux uy px py : Int64} {ml : Int32} {f : Nat → Int32}  (g40 : G 40 = .inr (9, [.ref (ad 41), .ref (ad 42), .ref (ad 43), .int ik, .ref (ad 44), .int kn, .ref (ad 45), .int ln, .int th, .int m, .int q, .int te, .long fx, .long fy, .long nx, .long ny, .long ux, .long uy, .int us, .long px, .long py, .ref (ad 46), .ref (ad 47), .int sp, .int bg, .int fo, .int le, .int fi, .int re, .int ca])) (g41 : G 41 = .inl (L.ac 0, 60, .inl (sv f ml))) (g46 : G 46 = .inl (L.ac 1, 61, .inr (.inl xx))) (g47 : G 47 = .inl (L.ac 1, 61, .inr (.inl yy))) (hk : okH f) (hp31 : p < 2147483648) (hz : lst (kp f p) ≠ 0) : GM L yX9_solution cX9_solution 4 ((some .int)) rm_X9_solY 50 ad G [.ref (ad 40), .int (nI p)] (fun vo G' => ∃ (j1 : Int32) (j2 : Int32) (j3 : Int32) (j4 : Int64) (j5 : Int64) (j6 : Int64) (j7 : Int64) (u1 : Int64) (u2 : Int64) (u3 : Int32) (p1 : Int64) (p2 : Int64) (x1 : Nat → Int64) (y1 : Nat → Int64), vo = some (.int (nI (lst (kp f p)))) ∧ (NXj (kp f p) x1 y1 59) ∧ G' 40 = .inr (9, [.ref (ad 41), .ref (ad 42), .ref (ad 43), .int ik, .ref (ad 44), .int kn, .ref (ad 45), .int ln, .int 0, .int j1, .int j2, .int j3, .long j4, .long j5, .long j6, .long j7, .long u1, .long u2, .int u3, .long p1, .long p2, .ref (ad 46), .ref (ad 47), .int sp, .int bg, .int fo, .int le, .int fi, .int re, .int ca]) ∧ G' 46 = .inl (L.ac 1, 61, .inr (.inl x1)) ∧ G' 47 = .inl (L.ac 1, 61, .inr (.inl y1)) ∧ Agr [40, 46, 47] G G') := by
  refine GM.of (own := RX9) (lo := [(0, .ref (ad 40)), (1, .int (nI p))]) (by decide +kernel) rfl rfl (Nat.le_of_ble_eq_true rfl) (fun E C hr => ?_)
  refine G_aload_n C 0 dX9_solution_0 rfl rfl ?_
  refine G_iload_n C 1 dX9_solution_1 rfl rfl ?_
  refine G_if_lt C 9 dX9_solution_2 (by decide) (fun c2 => False.elim (absurd c2 (nI_pos hp31))) (fun c2 => ?_)
  have c2n : ¬ p < 0 := fun z => c2 ((cI_lt (a := p) (b := 0) rfl rfl (by omega) (by omega)).mpr z)
  refine G_iconst C (v := 1) dX9_solution_5 (by decide) ?_
  refine G_goto C 10 dX9_solution_6 (by decide) ?_
  refine G_callV C (As := [.int 1]) (rest := []) (c_X9_asks1 g40) ca_X9_asks km_X9_161 (by decide) g40 rfl rfl rfl rfl (by decide) (Nat.le_of_ble_eq_true rfl) (by decide) dX9_solution_10 (fun vv1 gg2 qq3 => ?_)
  obtain ⟨rfl, hh4, aa5⟩ := qq3
  have AA6 : Agr [40] G gg2 := aa5.wk (by simp)
  refine G_if_ne C 18 dX9_solution_13 (by decide) (fun _ => ?_) (fun h => absurd h (by decide))
  refine G_aload_n C 0 dX9_solution_18 rfl rfl ?_
  refine G_callV C (As := []) (rest := []) (c_X9_beginsSolutions hh4 ((aa5 41 (by decide)).trans g41) ((aa5 46 (by decide)).trans g46) ((aa5 47 (by decide)).trans g47) hk) ca_X9_beginsSolutions km_X9_183 (by decide) hh4 rfl rfl rfl rfl (by decide) (Nat.le_of_ble_eq_true rfl) (by decide) dX9_solution_19 (fun vv7 gg8 qq9 => ?_)
  obtain ⟨j_10, j_11, j_12, j_13, j_14, j_15, j_16, u_17, u_18, u_19, p_20, p_21, x_22, y_23, rfl, pp24, hh25, hh26, hh27, aa28⟩ := qq9
  have AA29 : Agr [40, 46, 47] G gg8 := AA6.tr aa28 (by simp) (by simp)
  refine G_aload_n C 0 dX9_solution_22 rfl rfl ?_
  refine G_callV C (As := []) (rest := []) (c_X9_leastNext hh25 hh26) ca_X9_leastNext km_X9_186 (by decide) hh25 rfl rfl rfl rfl (by decide) (Nat.le_of_ble_eq_true rfl) (by decide) dX9_solution_23 (fun vv30 gg31 qq32 => ?_)
  obtain ⟨rfl, rfl⟩ := qq32
  refine GW.topr (y := nI (lst (k0 f))) (by rw [nxj_l (pp24)]) ?_
  refine G_istore_n C 2 (lo' := [(2, .int (nI (lst (k0 f)))), (0, .ref (ad 40)), (1, .int (nI p))]) dX9_solution_26 rfl (by decide) rfl ?_
  refine G_iload_n C 1 dX9_solution_27 rfl rfl ?_
  refine G_istore_n C 3 (lo' := [(3, .int (nI p)), (2, .int (nI (lst (k0 f)))), (0, .ref (ad 40)), (1, .int (nI p))]) dX9_solution_28 rfl (by decide) rfl ?_
  have key29 : ∀ (n : Nat) (i : Nat) (j1 : Int32) (j2 : Int32) (j3 : Int32) (j4 : Int64) (j5 : Int64) (j6 : Int64) (j7 : Int64) (u1 : Int64) (u2 : Int64) (u3 : Int32) (p1 : Int64) (p2 : Int64) (x1 y1 : Nat → Int64) (G1 : Nat → va_E) (hf29_40 : G1 40 = .inr (9, [.ref (ad 41), .ref (ad 42), .ref (ad 43), .int ik, .ref (ad 44), .int kn, .ref (ad 45), .int ln, .int 0, .int j1, .int j2, .int j3, .long j4, .long j5, .long j6, .long j7, .long u1, .long u2, .int u3, .long p1, .long p2, .ref (ad 46), .ref (ad 47), .int sp, .int bg, .int fo, .int le, .int fi, .int re, .int ca])) (hf29_46 : G1 46 = .inl (L.ac 1, 61, .inr (.inl x1))) (hf29_47 : G1 47 = .inl (L.ac 1, 61, .inr (.inl y1))) (ha29 : Agr [40, 46, 47] G G1) (hn : p - i < n) (hi : i ≤ p) (hN : NXj (kp f i) x1 y1 59), GW L E 50 ad G1 0 0 29 [(3, .int (nI (p - i))), (2, .int (nI (lst (kp f i)))), (0, .ref (ad 40)), (1, .int (nI p))] [] := by
    intro n
    induction n with
    | zero =>
      intro i j1 j2 j3 j4 j5 j6 j7 u1 u2 u3 p1 p2 x1 y1 G1 hf29_40 hf29_46 hf29_47 ha29 hn hi hN
      exact absurd hn (Nat.not_lt_zero _)
    | succ n ih =>
      intro i j1 j2 j3 j4 j5 j6 j7 u1 u2 u3 p1 p2 x1 y1 G1 hf29_40 hf29_46 hf29_47 ha29 hn hi hN
      have hl := lst_60 (kp f i)
      have hK := okK_p hk i
      refine G_iload_n C 2 dX9_solution_29 rfl rfl ?_
      refine G_if_le C 53 dX9_solution_30 (by decide) (fun c30 => False.elim (hz (by rw [kp_stop (f := f) (n := i) (by have := (cI_le (a := lst (kp f i)) (b := 0) rfl rfl (by omega) (by omega)).mp c30; omega) p hi]; have := (cI_le (a := lst (kp f i)) (b := 0) rfl rfl (by omega) (by omega)).mp c30; omega))) (fun c30 => ?_)
      have c30n : ¬ (lst (kp f i)) ≤ 0 := fun z => c30 ((cI_le (a := (lst (kp f i))) (b := 0) rfl rfl (by omega) (by omega)).mpr z)
      refine G_iload_n C 3 dX9_solution_33 rfl rfl ?_
      refine G_if_le C 53 dX9_solution_34 (by decide) (fun c34 => ?_) (fun c34 => ?_)
      · have c34n : (p - i) ≤ 0 := (cI_le (a := (p - i)) (b := 0) rfl rfl (by omega) (by omega)).mp c34
        have hpi : i = p := by omega
        have hlp := lst_60 (kp f p)
        refine GW.loe (lo' := [(3, .int (nI (p - i))), (2, .int (nI (lst (kp f p)))), (0, .ref (ad 40)), (1, .int (nI p))]) (by rw [hpi]) ?_
        refine G_aload_n C 0 dX9_solution_53 rfl rfl ?_
        refine G_iload_n C 2 dX9_solution_54 rfl rfl ?_
        refine G_if_ne C 62 dX9_solution_55 (by decide) (fun c55 => ?_) (fun c55 => False.elim (hz ((cI_eq (a := lst (kp f p)) (b := 0) rfl rfl (by omega) (by omega)).mp c55)))
        have c55n : ¬ (lst (kp f p)) = 0 := fun z => c55 ((cI_eq (a := (lst (kp f p))) (b := 0) rfl rfl (by omega) (by omega)).mpr z)
        refine G_iconst C (v := 0) dX9_solution_62 (by decide) ?_
        refine G_putp C 40 (by decide) hf29_40 rfl inA9 tyX9_ok nmX9 8 (by decide) rfl kf_X9_32 rfl rfl rfl (fs' := [.ref (ad 41), .ref (ad 42), .ref (ad 43), .int ik, .ref (ad 44), .int kn, .ref (ad 45), .int ln, .int 0, .int j1, .int j2, .int j3, .long j4, .long j5, .long j6, .long j7, .long u1, .long u2, .int u3, .long p1, .long p2, .ref (ad 46), .ref (ad 47), .int sp, .int bg, .int fo, .int le, .int fi, .int re, .int ca]) (Nat.le_of_ble_eq_true rfl) rfl dX9_solution_63 (fun gg33 hh34 aa35 => ?_)
        have AA36 : Agr [40, 46, 47] G gg33 := ha29.tr aa35 (by simp) (by simp)
        refine G_iload_n C 2 dX9_solution_66 rfl rfl ?_
        exact G_zret C hr rfl dX9_solution_67 ⟨_, _, _, _, _, _, _, _, _, _, _, _, _, _, rfl, hpi ▸ hN, hh34, ((aa35 46 (by decide)).trans hf29_46), ((aa35 47 (by decide)).trans hf29_47), AA36⟩
      · have c34n : ¬ (p - i) ≤ 0 := fun z => c34 ((cI_le (a := (p - i)) (b := 0) rfl rfl (by omega) (by omega)).mpr z)
        have hz0 : lst (kp f i) ≠ 0 := by omega
        have hs := lst_s hK hz0
        have hpr := hK _ hs.1 hl hs.2.2.1
        have hv := nxj_v hN hs.1 hl hs.2.2.1
        refine G_aload_n C 0 dX9_solution_37 rfl rfl ?_
        refine G_iload_n C 2 dX9_solution_38 rfl rfl ?_
        refine G_callV C (As := [.int (nI (lst (kp f i)))]) (rest := []) (c_X9_goesOn (k := (kp f i (lst (kp f i)))) hf29_40 hf29_46 hf29_47 hs.1 hl hpr.1 hpr.2 hv.1 hv.2) ca_X9_goesOn km_X9_180 (by decide) hf29_40 rfl rfl rfl rfl (by decide) (Nat.le_of_ble_eq_true rfl) (by decide) dX9_solution_39 (fun vv37 gg38 qq39 => ?_)
        obtain ⟨j_40, j_41, j_42, j_43, j_44, j_45, j_46, u_47, u_48, u_49, p_50, p_51, rfl, hh52, hh53, hh54, aa55⟩ := qq39
        have AA56 : Agr [40, 46, 47] G gg38 := ha29.tr aa55 (by simp) (by simp)
        refine G_aload_n C 0 dX9_solution_42 rfl rfl ?_
        refine G_callV C (As := []) (rest := []) (c_X9_leastNext hh52 hh53) ca_X9_leastNext km_X9_186 (by decide) hh52 rfl rfl rfl rfl (by decide) (Nat.le_of_ble_eq_true rfl) (by decide) dX9_solution_43 (fun vv57 gg58 qq59 => ?_)
        obtain ⟨rfl, rfl⟩ := qq59
        have hN2 := kp_n hz0 ▸ nxj_p (r := lst (kp f i)) hN
        refine GW.topr (y := nI (lst (kp f (i + 1)))) (by rw [nxj_l (hN2)]) ?_
        refine G_istore_n C 2 (lo' := [(2, .int (nI (lst (kp f (i + 1))))), (3, .int (nI (p - i))), (0, .ref (ad 40)), (1, .int (nI p))]) dX9_solution_46 rfl (by decide) rfl ?_
        refine G_iinc C (v := ((nI (p - i)) + (-1))) (lo' := [(3, .int ((nI (p - i)) + (-1))), (2, .int (nI (lst (kp f (i + 1))))), (0, .ref (ad 40)), (1, .int (nI p))]) dX9_solution_47 rfl rfl (by decide) rfl ?_
        refine GW.loe (lo' := [(3, .int (nI (p - (i + 1)))), (2, .int (nI (lst (kp f (i + 1))))), (0, .ref (ad 40)), (1, .int (nI p))]) (by rw [nI_dec (by omega)]) ?_
        refine G_goto C 29 dX9_solution_50 (by decide) ?_
        exact ih (i + 1) _ _ _ _ _ _ _ _ _ _ _ _ _ _ gg38 hh52 hh53 hh54 AA56 (by omega) (by omega) (hN2)
  exact key29 (p + 1) 0 _ _ _ _ _ _ _ _ _ _ _ _ _ _ gg8 hh25 hh26 hh27 AA29 (by omega) (Nat.zero_le _) (pp24)

abbrev rm_X9_sxA : Room := ({ frames := 2, cells := 0, slots := 0, locals := 44 } : Room)
set_option maxRecDepth 100000 in
set_option maxHeartbeats 4000000 in
theorem c_X9_sxA {L : GL} {ad : Nat → Nat} {G : Nat → va_E} {n : Int32} {ik kn ln th m q te us sp bg fo le fi re ca : Int32} {fx fy nx ny ux uy px py : Int64}  (g40 : G 40 = .inr (9, [.ref (ad 41), .ref (ad 42), .ref (ad 43), .int ik, .ref (ad 44), .int kn, .ref (ad 45), .int ln, .int th, .int m, .int q, .int te, .long fx, .long fy, .long nx, .long ny, .long ux, .long uy, .int us, .long px, .long py, .ref (ad 46), .ref (ad 47), .int sp, .int bg, .int fo, .int le, .int fi, .int re, .int ca])) (hro : n < 0) : GM L yX9_solutionX cX9_solutionX 3 ((some .long)) rm_X9_sxA 50 ad G [.ref (ad 40), .int n] (fun vo G' => vo = some (.long 0) ∧ G' 40 = .inr (9, [.ref (ad 41), .ref (ad 42), .ref (ad 43), .int ik, .ref (ad 44), .int kn, .ref (ad 45), .int ln, .int 1, .int m, .int q, .int te, .long fx, .long fy, .long nx, .long ny, .long ux, .long uy, .int us, .long px, .long py, .ref (ad 46), .ref (ad 47), .int sp, .int bg, .int fo, .int le, .int fi, .int re, .int ca]) ∧ Agr [40] G G') := by
  refine GM.of (own := RX9) (lo := [(0, .ref (ad 40)), (1, .int n)]) (by decide +kernel) rfl rfl (Nat.le_of_ble_eq_true rfl) (fun E C hr => ?_)
  refine G_aload_n C 0 dX9_solutionX_0 rfl rfl ?_
  refine G_iload_n C 1 dX9_solutionX_1 rfl rfl ?_
  refine G_callV C (As := [.int n]) (rest := []) (c_X9_solA g40 hro) ca_X9_solution km_X9_193 (by decide) g40 rfl rfl rfl rfl (by decide) (Nat.le_of_ble_eq_true rfl) (by decide) dX9_solutionX_2 (fun vv1 gg2 qq3 => ?_)
  obtain ⟨rfl, hh4, aa5⟩ := qq3
  have AA6 : Agr [40] G gg2 := aa5.wk (by simp)
  refine G_istore_n C 2 (lo' := [(2, .int 0), (0, .ref (ad 40)), (1, .int n)]) dX9_solutionX_5 rfl (by decide) rfl ?_
  refine G_aload_n C 0 dX9_solutionX_6 rfl rfl ?_
  refine G_get C 40 (by decide) hh4 rfl inA9 8 (by decide) rfl kf_X9_32 rfl dX9_solutionX_7 ?_
  refine G_if_le C 17 dX9_solutionX_10 (by decide) (fun h => absurd h (by decide)) (fun _ => ?_)
  refine G_lconst C (v := 0) dX9_solutionX_13 (by decide) ?_
  refine G_goto C 23 dX9_solutionX_14 (by decide) ?_
  exact G_lret C hr dX9_solutionX_23 ⟨rfl, hh4, AA6⟩

abbrev rm_X9_sxZ : Room := ({ frames := 7, cells := 0, slots := 0, locals := 152 } : Room)
set_option maxRecDepth 100000 in
set_option maxHeartbeats 4000000 in
theorem c_X9_sxZ {L : GL} {ad : Nat → Nat} {G : Nat → va_E} {p : Nat} {xx yy : Nat → Int64} {ik kn ln th m q te us sp bg fo le fi re ca : Int32} {fx fy nx ny ux uy px py : Int64} {ml : Int32} {f : Nat → Int32}  (g40 : G 40 = .inr (9, [.ref (ad 41), .ref (ad 42), .ref (ad 43), .int ik, .ref (ad 44), .int kn, .ref (ad 45), .int ln, .int th, .int m, .int q, .int te, .long fx, .long fy, .long nx, .long ny, .long ux, .long uy, .int us, .long px, .long py, .ref (ad 46), .ref (ad 47), .int sp, .int bg, .int fo, .int le, .int fi, .int re, .int ca])) (g41 : G 41 = .inl (L.ac 0, 60, .inl (sv f ml))) (g46 : G 46 = .inl (L.ac 1, 61, .inr (.inl xx))) (g47 : G 47 = .inl (L.ac 1, 61, .inr (.inl yy))) (hk : okH f) (hp31 : p < 2147483648) (hz : lst (kp f p) = 0) : GM L yX9_solutionX cX9_solutionX 3 ((some .long)) rm_X9_sxZ 50 ad G [.ref (ad 40), .int (nI p)] (fun vo G' => ∃ (j1 : Int32) (j2 : Int32) (j3 : Int32) (j4 : Int64) (j5 : Int64) (j6 : Int64) (j7 : Int64) (u1 : Int64) (u2 : Int64) (u3 : Int32) (p1 : Int64) (p2 : Int64) (x1 : Nat → Int64) (y1 : Nat → Int64), vo = some (.long 0) ∧ G' 40 = .inr (9, [.ref (ad 41), .ref (ad 42), .ref (ad 43), .int ik, .ref (ad 44), .int kn, .ref (ad 45), .int ln, .int 2, .int j1, .int j2, .int j3, .long j4, .long j5, .long j6, .long j7, .long u1, .long u2, .int u3, .long p1, .long p2, .ref (ad 46), .ref (ad 47), .int sp, .int bg, .int fo, .int le, .int fi, .int re, .int ca]) ∧ G' 46 = .inl (L.ac 1, 61, .inr (.inl x1)) ∧ G' 47 = .inl (L.ac 1, 61, .inr (.inl y1)) ∧ Agr [40, 46, 47] G G') := by
  refine GM.of (own := RX9) (lo := [(0, .ref (ad 40)), (1, .int (nI p))]) (by decide +kernel) rfl rfl (Nat.le_of_ble_eq_true rfl) (fun E C hr => ?_)
  refine G_aload_n C 0 dX9_solutionX_0 rfl rfl ?_
  refine G_iload_n C 1 dX9_solutionX_1 rfl rfl ?_
  refine G_callV C (As := [.int (nI p)]) (rest := []) (c_X9_solZ g40 g41 g46 g47 hk hp31 hz) ca_X9_solution km_X9_193 (by decide) g40 rfl rfl rfl rfl (by decide) (Nat.le_of_ble_eq_true rfl) (by decide) dX9_solutionX_2 (fun vv1 gg2 qq3 => ?_)
  obtain ⟨j_4, j_5, j_6, j_7, j_8, j_9, j_10, u_11, u_12, u_13, p_14, p_15, x_16, y_17, rfl, pp18, hh19, hh20, hh21, aa22⟩ := qq3
  have AA23 : Agr [40, 46, 47] G gg2 := aa22.wk (by simp)
  refine G_istore_n C 2 (lo' := [(2, .int 0), (0, .ref (ad 40)), (1, .int (nI p))]) dX9_solutionX_5 rfl (by decide) rfl ?_
  refine G_aload_n C 0 dX9_solutionX_6 rfl rfl ?_
  refine G_get C 40 (by decide) hh19 rfl inA9 8 (by decide) rfl kf_X9_32 rfl dX9_solutionX_7 ?_
  refine G_if_le C 17 dX9_solutionX_10 (by decide) (fun h => absurd h (by decide)) (fun _ => ?_)
  refine G_lconst C (v := 0) dX9_solutionX_13 (by decide) ?_
  refine G_goto C 23 dX9_solutionX_14 (by decide) ?_
  exact G_lret C hr dX9_solutionX_23 ⟨_, _, _, _, _, _, _, _, _, _, _, _, _, _, rfl, hh19, hh20, hh21, AA23⟩

abbrev rm_X9_sxY : Room := ({ frames := 7, cells := 0, slots := 0, locals := 152 } : Room)
set_option maxRecDepth 100000 in
set_option maxHeartbeats 4000000 in
theorem c_X9_sxY {L : GL} {ad : Nat → Nat} {G : Nat → va_E} {p : Nat} {xx yy : Nat → Int64} {ik kn ln th m q te us sp bg fo le fi re ca : Int32} {fx fy nx ny ux uy px py : Int64} {ml : Int32} {f : Nat → Int32}  (g40 : G 40 = .inr (9, [.ref (ad 41), .ref (ad 42), .ref (ad 43), .int ik, .ref (ad 44), .int kn, .ref (ad 45), .int ln, .int th, .int m, .int q, .int te, .long fx, .long fy, .long nx, .long ny, .long ux, .long uy, .int us, .long px, .long py, .ref (ad 46), .ref (ad 47), .int sp, .int bg, .int fo, .int le, .int fi, .int re, .int ca])) (g41 : G 41 = .inl (L.ac 0, 60, .inl (sv f ml))) (g46 : G 46 = .inl (L.ac 1, 61, .inr (.inl xx))) (g47 : G 47 = .inl (L.ac 1, 61, .inr (.inl yy))) (hk : okH f) (hp31 : p < 2147483648) (hz : lst (kp f p) ≠ 0) : GM L yX9_solutionX cX9_solutionX 3 ((some .long)) rm_X9_sxY 50 ad G [.ref (ad 40), .int (nI p)] (fun vo G' => ∃ (j1 : Int32) (j2 : Int32) (j3 : Int32) (j4 : Int64) (j5 : Int64) (j6 : Int64) (j7 : Int64) (u1 : Int64) (u2 : Int64) (u3 : Int32) (p1 : Int64) (p2 : Int64) (x1 : Nat → Int64) (y1 : Nat → Int64), vo = some (.long (xa (kp f p) (lst (kp f p)))) ∧ G' 40 = .inr (9, [.ref (ad 41), .ref (ad 42), .ref (ad 43), .int ik, .ref (ad 44), .int kn, .ref (ad 45), .int ln, .int 0, .int j1, .int j2, .int j3, .long j4, .long j5, .long j6, .long j7, .long u1, .long u2, .int u3, .long p1, .long p2, .ref (ad 46), .ref (ad 47), .int sp, .int bg, .int fo, .int le, .int fi, .int re, .int ca]) ∧ G' 46 = .inl (L.ac 1, 61, .inr (.inl x1)) ∧ G' 47 = .inl (L.ac 1, 61, .inr (.inl y1)) ∧ Agr [40, 46, 47] G G') := by
  refine GM.of (own := RX9) (lo := [(0, .ref (ad 40)), (1, .int (nI p))]) (by decide +kernel) rfl rfl (Nat.le_of_ble_eq_true rfl) (fun E C hr => ?_)
  have hl := lst_60 (kp f p)
  refine G_aload_n C 0 dX9_solutionX_0 rfl rfl ?_
  refine G_iload_n C 1 dX9_solutionX_1 rfl rfl ?_
  refine G_callV C (As := [.int (nI p)]) (rest := []) (c_X9_solY g40 g41 g46 g47 hk hp31 hz) ca_X9_solution km_X9_193 (by decide) g40 rfl rfl rfl rfl (by decide) (Nat.le_of_ble_eq_true rfl) (by decide) dX9_solutionX_2 (fun vv1 gg2 qq3 => ?_)
  obtain ⟨j_4, j_5, j_6, j_7, j_8, j_9, j_10, u_11, u_12, u_13, p_14, p_15, x_16, y_17, rfl, pp18, hh19, hh20, hh21, aa22⟩ := qq3
  have AA23 : Agr [40, 46, 47] G gg2 := aa22.wk (by simp)
  refine G_istore_n C 2 (lo' := [(2, .int (nI (lst (kp f p)))), (0, .ref (ad 40)), (1, .int (nI p))]) dX9_solutionX_5 rfl (by decide) rfl ?_
  refine G_aload_n C 0 dX9_solutionX_6 rfl rfl ?_
  refine G_get C 40 (by decide) hh19 rfl inA9 8 (by decide) rfl kf_X9_32 rfl dX9_solutionX_7 ?_
  refine G_if_le C 17 dX9_solutionX_10 (by decide) (fun _ => ?_) (fun h => absurd h (by decide))
  refine G_aload_n C 0 dX9_solutionX_17 rfl rfl ?_
  refine G_get C 40 (by decide) hh19 rfl inA9 21 (by decide) rfl kf_X9_25 rfl dX9_solutionX_18 ?_
  refine G_iload_n C 2 dX9_solutionX_21 rfl rfl ?_
  refine G_laldN C 46 (by decide) (lst (kp f p)) hh20 rfl (by omega) (by omega) dX9_solutionX_22 ?_
  exact G_lret C hr dX9_solutionX_23 ⟨_, _, _, _, _, _, _, _, _, _, _, _, _, _, (by rw [(pp18 _ (lst_s (okK_p hk p) hz).1 (lst_s (okK_p hk p) hz).2.1).1]; rfl), hh19, hh20, hh21, AA23⟩

abbrev rm_X9_xAtA : Room := ({ frames := 3, cells := 0, slots := 0, locals := 66 } : Room)
set_option maxRecDepth 100000 in
set_option maxHeartbeats 4000000 in
theorem c_X9_xAtA {L : GL} {ad : Nat → Nat} {G : Nat → va_E} {n : Int32} {ik kn ln th m q te us sp bg fo le fi re ca : Int32} {fx fy nx ny ux uy px py : Int64}  (g40 : G 40 = .inr (9, [.ref (ad 41), .ref (ad 42), .ref (ad 43), .int ik, .ref (ad 44), .int kn, .ref (ad 45), .int ln, .int th, .int m, .int q, .int te, .long fx, .long fy, .long nx, .long ny, .long ux, .long uy, .int us, .long px, .long py, .ref (ad 46), .ref (ad 47), .int sp, .int bg, .int fo, .int le, .int fi, .int re, .int ca])) (hro : n < 0) : GM L yX9_xAt cX9_xAt 2 ((some .long)) rm_X9_xAtA 50 ad G [.ref (ad 40), .int n] (fun vo G' => vo = some (.long 0) ∧ G' 40 = .inr (9, [.ref (ad 41), .ref (ad 42), .ref (ad 43), .int ik, .ref (ad 44), .int kn, .ref (ad 45), .int ln, .int 1, .int m, .int q, .int te, .long fx, .long fy, .long nx, .long ny, .long ux, .long uy, .int us, .long px, .long py, .ref (ad 46), .ref (ad 47), .int sp, .int bg, .int fo, .int le, .int fi, .int re, .int ca]) ∧ Agr [40] G G') := by
  refine GM.of (own := RX9) (lo := [(0, .ref (ad 40)), (1, .int n)]) (by decide +kernel) rfl rfl (Nat.le_of_ble_eq_true rfl) (fun E C hr => ?_)
  refine G_aload_n C 0 dX9_xAt_0 rfl rfl ?_
  refine G_iload_n C 1 dX9_xAt_1 rfl rfl ?_
  refine G_callV C (As := [.int n]) (rest := []) (c_X9_sxA g40 hro) ca_X9_solutionX km_X9_196 (by decide) g40 rfl rfl rfl rfl (by decide) (Nat.le_of_ble_eq_true rfl) (by decide) dX9_xAt_2 (fun vv1 gg2 qq3 => ?_)
  obtain ⟨rfl, hh4, aa5⟩ := qq3
  have AA6 : Agr [40] G gg2 := aa5.wk (by simp)
  exact G_lret C hr dX9_xAt_5 ⟨rfl, hh4, AA6⟩

abbrev rm_X9_xAtZ : Room := ({ frames := 8, cells := 0, slots := 0, locals := 174 } : Room)
set_option maxRecDepth 100000 in
set_option maxHeartbeats 4000000 in
theorem c_X9_xAtZ {L : GL} {ad : Nat → Nat} {G : Nat → va_E} {p : Nat} {xx yy : Nat → Int64} {ik kn ln th m q te us sp bg fo le fi re ca : Int32} {fx fy nx ny ux uy px py : Int64} {ml : Int32} {f : Nat → Int32}  (g40 : G 40 = .inr (9, [.ref (ad 41), .ref (ad 42), .ref (ad 43), .int ik, .ref (ad 44), .int kn, .ref (ad 45), .int ln, .int th, .int m, .int q, .int te, .long fx, .long fy, .long nx, .long ny, .long ux, .long uy, .int us, .long px, .long py, .ref (ad 46), .ref (ad 47), .int sp, .int bg, .int fo, .int le, .int fi, .int re, .int ca])) (g41 : G 41 = .inl (L.ac 0, 60, .inl (sv f ml))) (g46 : G 46 = .inl (L.ac 1, 61, .inr (.inl xx))) (g47 : G 47 = .inl (L.ac 1, 61, .inr (.inl yy))) (hk : okH f) (hp31 : p < 2147483648) (hz : lst (kp f p) = 0) : GM L yX9_xAt cX9_xAt 2 ((some .long)) rm_X9_xAtZ 50 ad G [.ref (ad 40), .int (nI p)] (fun vo G' => ∃ (j1 : Int32) (j2 : Int32) (j3 : Int32) (j4 : Int64) (j5 : Int64) (j6 : Int64) (j7 : Int64) (u1 : Int64) (u2 : Int64) (u3 : Int32) (p1 : Int64) (p2 : Int64) (x1 : Nat → Int64) (y1 : Nat → Int64), vo = some (.long 0) ∧ G' 40 = .inr (9, [.ref (ad 41), .ref (ad 42), .ref (ad 43), .int ik, .ref (ad 44), .int kn, .ref (ad 45), .int ln, .int 2, .int j1, .int j2, .int j3, .long j4, .long j5, .long j6, .long j7, .long u1, .long u2, .int u3, .long p1, .long p2, .ref (ad 46), .ref (ad 47), .int sp, .int bg, .int fo, .int le, .int fi, .int re, .int ca]) ∧ G' 46 = .inl (L.ac 1, 61, .inr (.inl x1)) ∧ G' 47 = .inl (L.ac 1, 61, .inr (.inl y1)) ∧ Agr [40, 46, 47] G G') := by
  refine GM.of (own := RX9) (lo := [(0, .ref (ad 40)), (1, .int (nI p))]) (by decide +kernel) rfl rfl (Nat.le_of_ble_eq_true rfl) (fun E C hr => ?_)
  refine G_aload_n C 0 dX9_xAt_0 rfl rfl ?_
  refine G_iload_n C 1 dX9_xAt_1 rfl rfl ?_
  refine G_callV C (As := [.int (nI p)]) (rest := []) (c_X9_sxZ g40 g41 g46 g47 hk hp31 hz) ca_X9_solutionX km_X9_196 (by decide) g40 rfl rfl rfl rfl (by decide) (Nat.le_of_ble_eq_true rfl) (by decide) dX9_xAt_2 (fun vv1 gg2 qq3 => ?_)
  obtain ⟨j_4, j_5, j_6, j_7, j_8, j_9, j_10, u_11, u_12, u_13, p_14, p_15, x_16, y_17, rfl, hh18, hh19, hh20, aa21⟩ := qq3
  have AA22 : Agr [40, 46, 47] G gg2 := aa21.wk (by simp)
  exact G_lret C hr dX9_xAt_5 ⟨_, _, _, _, _, _, _, _, _, _, _, _, _, _, rfl, hh18, hh19, hh20, AA22⟩

abbrev rm_X9_xAtY : Room := ({ frames := 8, cells := 0, slots := 0, locals := 174 } : Room)
set_option maxRecDepth 100000 in
set_option maxHeartbeats 4000000 in
theorem c_X9_xAtY {L : GL} {ad : Nat → Nat} {G : Nat → va_E} {p : Nat} {xx yy : Nat → Int64} {ik kn ln th m q te us sp bg fo le fi re ca : Int32} {fx fy nx ny ux uy px py : Int64} {ml : Int32} {f : Nat → Int32}  (g40 : G 40 = .inr (9, [.ref (ad 41), .ref (ad 42), .ref (ad 43), .int ik, .ref (ad 44), .int kn, .ref (ad 45), .int ln, .int th, .int m, .int q, .int te, .long fx, .long fy, .long nx, .long ny, .long ux, .long uy, .int us, .long px, .long py, .ref (ad 46), .ref (ad 47), .int sp, .int bg, .int fo, .int le, .int fi, .int re, .int ca])) (g41 : G 41 = .inl (L.ac 0, 60, .inl (sv f ml))) (g46 : G 46 = .inl (L.ac 1, 61, .inr (.inl xx))) (g47 : G 47 = .inl (L.ac 1, 61, .inr (.inl yy))) (hk : okH f) (hp31 : p < 2147483648) (hz : lst (kp f p) ≠ 0) : GM L yX9_xAt cX9_xAt 2 ((some .long)) rm_X9_xAtY 50 ad G [.ref (ad 40), .int (nI p)] (fun vo G' => ∃ (j1 : Int32) (j2 : Int32) (j3 : Int32) (j4 : Int64) (j5 : Int64) (j6 : Int64) (j7 : Int64) (u1 : Int64) (u2 : Int64) (u3 : Int32) (p1 : Int64) (p2 : Int64) (x1 : Nat → Int64) (y1 : Nat → Int64), vo = some (.long (xa (kp f p) (lst (kp f p)))) ∧ G' 40 = .inr (9, [.ref (ad 41), .ref (ad 42), .ref (ad 43), .int ik, .ref (ad 44), .int kn, .ref (ad 45), .int ln, .int 0, .int j1, .int j2, .int j3, .long j4, .long j5, .long j6, .long j7, .long u1, .long u2, .int u3, .long p1, .long p2, .ref (ad 46), .ref (ad 47), .int sp, .int bg, .int fo, .int le, .int fi, .int re, .int ca]) ∧ G' 46 = .inl (L.ac 1, 61, .inr (.inl x1)) ∧ G' 47 = .inl (L.ac 1, 61, .inr (.inl y1)) ∧ Agr [40, 46, 47] G G') := by
  refine GM.of (own := RX9) (lo := [(0, .ref (ad 40)), (1, .int (nI p))]) (by decide +kernel) rfl rfl (Nat.le_of_ble_eq_true rfl) (fun E C hr => ?_)
  refine G_aload_n C 0 dX9_xAt_0 rfl rfl ?_
  refine G_iload_n C 1 dX9_xAt_1 rfl rfl ?_
  refine G_callV C (As := [.int (nI p)]) (rest := []) (c_X9_sxY g40 g41 g46 g47 hk hp31 hz) ca_X9_solutionX km_X9_196 (by decide) g40 rfl rfl rfl rfl (by decide) (Nat.le_of_ble_eq_true rfl) (by decide) dX9_xAt_2 (fun vv1 gg2 qq3 => ?_)
  obtain ⟨j_4, j_5, j_6, j_7, j_8, j_9, j_10, u_11, u_12, u_13, p_14, p_15, x_16, y_17, rfl, hh18, hh19, hh20, aa21⟩ := qq3
  have AA22 : Agr [40, 46, 47] G gg2 := aa21.wk (by simp)
  exact G_lret C hr dX9_xAt_5 ⟨_, _, _, _, _, _, _, _, _, _, _, _, _, _, rfl, hh18, hh19, hh20, AA22⟩

abbrev rm_X9_xAtBySetA : Room := ({ frames := 3, cells := 0, slots := 0, locals := 66 } : Room)
set_option maxRecDepth 100000 in
set_option maxHeartbeats 4000000 in
theorem c_X9_xAtBySetA {L : GL} {ad : Nat → Nat} {G : Nat → va_E} {n : Int32} {ik kn ln th m q te us sp bg fo le fi re ca : Int32} {fx fy nx ny ux uy px py : Int64}  (g40 : G 40 = .inr (9, [.ref (ad 41), .ref (ad 42), .ref (ad 43), .int ik, .ref (ad 44), .int kn, .ref (ad 45), .int ln, .int th, .int m, .int q, .int te, .long fx, .long fy, .long nx, .long ny, .long ux, .long uy, .int us, .long px, .long py, .ref (ad 46), .ref (ad 47), .int sp, .int bg, .int fo, .int le, .int fi, .int re, .int ca])) (hro : n < 0) : GM L yX9_xAtBySet cX9_xAtBySet 2 ((some .long)) rm_X9_xAtBySetA 50 ad G [.ref (ad 40), .int n] (fun vo G' => vo = some (.long 0) ∧ G' 40 = .inr (9, [.ref (ad 41), .ref (ad 42), .ref (ad 43), .int ik, .ref (ad 44), .int kn, .ref (ad 45), .int ln, .int 1, .int m, .int q, .int te, .long fx, .long fy, .long nx, .long ny, .long ux, .long uy, .int us, .long px, .long py, .ref (ad 46), .ref (ad 47), .int sp, .int bg, .int fo, .int le, .int fi, .int re, .int ca]) ∧ Agr [40] G G') := by
  refine GM.of (own := RX9) (lo := [(0, .ref (ad 40)), (1, .int n)]) (by decide +kernel) rfl rfl (Nat.le_of_ble_eq_true rfl) (fun E C hr => ?_)
  refine G_aload_n C 0 dX9_xAtBySet_0 rfl rfl ?_
  refine G_iload_n C 1 dX9_xAtBySet_1 rfl rfl ?_
  refine G_callV C (As := [.int n]) (rest := []) (c_X9_sxA g40 hro) ca_X9_solutionX km_X9_196 (by decide) g40 rfl rfl rfl rfl (by decide) (Nat.le_of_ble_eq_true rfl) (by decide) dX9_xAtBySet_2 (fun vv1 gg2 qq3 => ?_)
  obtain ⟨rfl, hh4, aa5⟩ := qq3
  have AA6 : Agr [40] G gg2 := aa5.wk (by simp)
  exact G_lret C hr dX9_xAtBySet_5 ⟨rfl, hh4, AA6⟩

abbrev rm_X9_xAtBySetZ : Room := ({ frames := 8, cells := 0, slots := 0, locals := 174 } : Room)
set_option maxRecDepth 100000 in
set_option maxHeartbeats 4000000 in
theorem c_X9_xAtBySetZ {L : GL} {ad : Nat → Nat} {G : Nat → va_E} {p : Nat} {xx yy : Nat → Int64} {ik kn ln th m q te us sp bg fo le fi re ca : Int32} {fx fy nx ny ux uy px py : Int64} {ml : Int32} {f : Nat → Int32}  (g40 : G 40 = .inr (9, [.ref (ad 41), .ref (ad 42), .ref (ad 43), .int ik, .ref (ad 44), .int kn, .ref (ad 45), .int ln, .int th, .int m, .int q, .int te, .long fx, .long fy, .long nx, .long ny, .long ux, .long uy, .int us, .long px, .long py, .ref (ad 46), .ref (ad 47), .int sp, .int bg, .int fo, .int le, .int fi, .int re, .int ca])) (g41 : G 41 = .inl (L.ac 0, 60, .inl (sv f ml))) (g46 : G 46 = .inl (L.ac 1, 61, .inr (.inl xx))) (g47 : G 47 = .inl (L.ac 1, 61, .inr (.inl yy))) (hk : okH f) (hp31 : p < 2147483648) (hz : lst (kp f p) = 0) : GM L yX9_xAtBySet cX9_xAtBySet 2 ((some .long)) rm_X9_xAtBySetZ 50 ad G [.ref (ad 40), .int (nI p)] (fun vo G' => ∃ (j1 : Int32) (j2 : Int32) (j3 : Int32) (j4 : Int64) (j5 : Int64) (j6 : Int64) (j7 : Int64) (u1 : Int64) (u2 : Int64) (u3 : Int32) (p1 : Int64) (p2 : Int64) (x1 : Nat → Int64) (y1 : Nat → Int64), vo = some (.long 0) ∧ G' 40 = .inr (9, [.ref (ad 41), .ref (ad 42), .ref (ad 43), .int ik, .ref (ad 44), .int kn, .ref (ad 45), .int ln, .int 2, .int j1, .int j2, .int j3, .long j4, .long j5, .long j6, .long j7, .long u1, .long u2, .int u3, .long p1, .long p2, .ref (ad 46), .ref (ad 47), .int sp, .int bg, .int fo, .int le, .int fi, .int re, .int ca]) ∧ G' 46 = .inl (L.ac 1, 61, .inr (.inl x1)) ∧ G' 47 = .inl (L.ac 1, 61, .inr (.inl y1)) ∧ Agr [40, 46, 47] G G') := by
  refine GM.of (own := RX9) (lo := [(0, .ref (ad 40)), (1, .int (nI p))]) (by decide +kernel) rfl rfl (Nat.le_of_ble_eq_true rfl) (fun E C hr => ?_)
  refine G_aload_n C 0 dX9_xAtBySet_0 rfl rfl ?_
  refine G_iload_n C 1 dX9_xAtBySet_1 rfl rfl ?_
  refine G_callV C (As := [.int (nI p)]) (rest := []) (c_X9_sxZ g40 g41 g46 g47 hk hp31 hz) ca_X9_solutionX km_X9_196 (by decide) g40 rfl rfl rfl rfl (by decide) (Nat.le_of_ble_eq_true rfl) (by decide) dX9_xAtBySet_2 (fun vv1 gg2 qq3 => ?_)
  obtain ⟨j_4, j_5, j_6, j_7, j_8, j_9, j_10, u_11, u_12, u_13, p_14, p_15, x_16, y_17, rfl, hh18, hh19, hh20, aa21⟩ := qq3
  have AA22 : Agr [40, 46, 47] G gg2 := aa21.wk (by simp)
  exact G_lret C hr dX9_xAtBySet_5 ⟨_, _, _, _, _, _, _, _, _, _, _, _, _, _, rfl, hh18, hh19, hh20, AA22⟩

abbrev rm_X9_xAtBySetY : Room := ({ frames := 8, cells := 0, slots := 0, locals := 174 } : Room)
set_option maxRecDepth 100000 in
set_option maxHeartbeats 4000000 in
theorem c_X9_xAtBySetY {L : GL} {ad : Nat → Nat} {G : Nat → va_E} {p : Nat} {xx yy : Nat → Int64} {ik kn ln th m q te us sp bg fo le fi re ca : Int32} {fx fy nx ny ux uy px py : Int64} {ml : Int32} {f : Nat → Int32}  (g40 : G 40 = .inr (9, [.ref (ad 41), .ref (ad 42), .ref (ad 43), .int ik, .ref (ad 44), .int kn, .ref (ad 45), .int ln, .int th, .int m, .int q, .int te, .long fx, .long fy, .long nx, .long ny, .long ux, .long uy, .int us, .long px, .long py, .ref (ad 46), .ref (ad 47), .int sp, .int bg, .int fo, .int le, .int fi, .int re, .int ca])) (g41 : G 41 = .inl (L.ac 0, 60, .inl (sv f ml))) (g46 : G 46 = .inl (L.ac 1, 61, .inr (.inl xx))) (g47 : G 47 = .inl (L.ac 1, 61, .inr (.inl yy))) (hk : okH f) (hp31 : p < 2147483648) (hz : lst (kp f p) ≠ 0) : GM L yX9_xAtBySet cX9_xAtBySet 2 ((some .long)) rm_X9_xAtBySetY 50 ad G [.ref (ad 40), .int (nI p)] (fun vo G' => ∃ (j1 : Int32) (j2 : Int32) (j3 : Int32) (j4 : Int64) (j5 : Int64) (j6 : Int64) (j7 : Int64) (u1 : Int64) (u2 : Int64) (u3 : Int32) (p1 : Int64) (p2 : Int64) (x1 : Nat → Int64) (y1 : Nat → Int64), vo = some (.long (xa (kp f p) (lst (kp f p)))) ∧ G' 40 = .inr (9, [.ref (ad 41), .ref (ad 42), .ref (ad 43), .int ik, .ref (ad 44), .int kn, .ref (ad 45), .int ln, .int 0, .int j1, .int j2, .int j3, .long j4, .long j5, .long j6, .long j7, .long u1, .long u2, .int u3, .long p1, .long p2, .ref (ad 46), .ref (ad 47), .int sp, .int bg, .int fo, .int le, .int fi, .int re, .int ca]) ∧ G' 46 = .inl (L.ac 1, 61, .inr (.inl x1)) ∧ G' 47 = .inl (L.ac 1, 61, .inr (.inl y1)) ∧ Agr [40, 46, 47] G G') := by
  refine GM.of (own := RX9) (lo := [(0, .ref (ad 40)), (1, .int (nI p))]) (by decide +kernel) rfl rfl (Nat.le_of_ble_eq_true rfl) (fun E C hr => ?_)
  refine G_aload_n C 0 dX9_xAtBySet_0 rfl rfl ?_
  refine G_iload_n C 1 dX9_xAtBySet_1 rfl rfl ?_
  refine G_callV C (As := [.int (nI p)]) (rest := []) (c_X9_sxY g40 g41 g46 g47 hk hp31 hz) ca_X9_solutionX km_X9_196 (by decide) g40 rfl rfl rfl rfl (by decide) (Nat.le_of_ble_eq_true rfl) (by decide) dX9_xAtBySet_2 (fun vv1 gg2 qq3 => ?_)
  obtain ⟨j_4, j_5, j_6, j_7, j_8, j_9, j_10, u_11, u_12, u_13, p_14, p_15, x_16, y_17, rfl, hh18, hh19, hh20, aa21⟩ := qq3
  have AA22 : Agr [40, 46, 47] G gg2 := aa21.wk (by simp)
  exact G_lret C hr dX9_xAtBySet_5 ⟨_, _, _, _, _, _, _, _, _, _, _, _, _, _, rfl, hh18, hh19, hh20, AA22⟩

abbrev rm_X9_stoneAtA : Room := ({ frames := 2, cells := 0, slots := 0, locals := 44 } : Room)
set_option maxRecDepth 100000 in
set_option maxHeartbeats 4000000 in
theorem c_X9_stoneAtA {L : GL} {ad : Nat → Nat} {G : Nat → va_E} {n : Int32} {ik kn ln th m q te us sp bg fo le fi re ca : Int32} {fx fy nx ny ux uy px py : Int64}  (g40 : G 40 = .inr (9, [.ref (ad 41), .ref (ad 42), .ref (ad 43), .int ik, .ref (ad 44), .int kn, .ref (ad 45), .int ln, .int th, .int m, .int q, .int te, .long fx, .long fy, .long nx, .long ny, .long ux, .long uy, .int us, .long px, .long py, .ref (ad 46), .ref (ad 47), .int sp, .int bg, .int fo, .int le, .int fi, .int re, .int ca])) (hro : n < 0) : GM L yX9_stoneAt cX9_stoneAt 2 ((some .int)) rm_X9_stoneAtA 50 ad G [.ref (ad 40), .int n] (fun vo G' => vo = some (.int 0) ∧ G' 40 = .inr (9, [.ref (ad 41), .ref (ad 42), .ref (ad 43), .int ik, .ref (ad 44), .int kn, .ref (ad 45), .int ln, .int 1, .int m, .int q, .int te, .long fx, .long fy, .long nx, .long ny, .long ux, .long uy, .int us, .long px, .long py, .ref (ad 46), .ref (ad 47), .int sp, .int bg, .int fo, .int le, .int fi, .int re, .int ca]) ∧ Agr [40] G G') := by
  refine GM.of (own := RX9) (lo := [(0, .ref (ad 40)), (1, .int n)]) (by decide +kernel) rfl rfl (Nat.le_of_ble_eq_true rfl) (fun E C hr => ?_)
  refine G_aload_n C 0 dX9_stoneAt_0 rfl rfl ?_
  refine G_iload_n C 1 dX9_stoneAt_1 rfl rfl ?_
  refine G_callV C (As := [.int n]) (rest := []) (c_X9_solA g40 hro) ca_X9_solution km_X9_193 (by decide) g40 rfl rfl rfl rfl (by decide) (Nat.le_of_ble_eq_true rfl) (by decide) dX9_stoneAt_2 (fun vv1 gg2 qq3 => ?_)
  obtain ⟨rfl, hh4, aa5⟩ := qq3
  have AA6 : Agr [40] G gg2 := aa5.wk (by simp)
  exact G_zret C hr rfl dX9_stoneAt_5 ⟨rfl, hh4, AA6⟩

abbrev rm_X9_stoneAtZ : Room := ({ frames := 7, cells := 0, slots := 0, locals := 152 } : Room)
set_option maxRecDepth 100000 in
set_option maxHeartbeats 4000000 in
theorem c_X9_stoneAtZ {L : GL} {ad : Nat → Nat} {G : Nat → va_E} {p : Nat} {xx yy : Nat → Int64} {ik kn ln th m q te us sp bg fo le fi re ca : Int32} {fx fy nx ny ux uy px py : Int64} {ml : Int32} {f : Nat → Int32}  (g40 : G 40 = .inr (9, [.ref (ad 41), .ref (ad 42), .ref (ad 43), .int ik, .ref (ad 44), .int kn, .ref (ad 45), .int ln, .int th, .int m, .int q, .int te, .long fx, .long fy, .long nx, .long ny, .long ux, .long uy, .int us, .long px, .long py, .ref (ad 46), .ref (ad 47), .int sp, .int bg, .int fo, .int le, .int fi, .int re, .int ca])) (g41 : G 41 = .inl (L.ac 0, 60, .inl (sv f ml))) (g46 : G 46 = .inl (L.ac 1, 61, .inr (.inl xx))) (g47 : G 47 = .inl (L.ac 1, 61, .inr (.inl yy))) (hk : okH f) (hp31 : p < 2147483648) (hz : lst (kp f p) = 0) : GM L yX9_stoneAt cX9_stoneAt 2 ((some .int)) rm_X9_stoneAtZ 50 ad G [.ref (ad 40), .int (nI p)] (fun vo G' => ∃ (j1 : Int32) (j2 : Int32) (j3 : Int32) (j4 : Int64) (j5 : Int64) (j6 : Int64) (j7 : Int64) (u1 : Int64) (u2 : Int64) (u3 : Int32) (p1 : Int64) (p2 : Int64) (x1 : Nat → Int64) (y1 : Nat → Int64), vo = some (.int 0) ∧ G' 40 = .inr (9, [.ref (ad 41), .ref (ad 42), .ref (ad 43), .int ik, .ref (ad 44), .int kn, .ref (ad 45), .int ln, .int 2, .int j1, .int j2, .int j3, .long j4, .long j5, .long j6, .long j7, .long u1, .long u2, .int u3, .long p1, .long p2, .ref (ad 46), .ref (ad 47), .int sp, .int bg, .int fo, .int le, .int fi, .int re, .int ca]) ∧ G' 46 = .inl (L.ac 1, 61, .inr (.inl x1)) ∧ G' 47 = .inl (L.ac 1, 61, .inr (.inl y1)) ∧ Agr [40, 46, 47] G G') := by
  refine GM.of (own := RX9) (lo := [(0, .ref (ad 40)), (1, .int (nI p))]) (by decide +kernel) rfl rfl (Nat.le_of_ble_eq_true rfl) (fun E C hr => ?_)
  refine G_aload_n C 0 dX9_stoneAt_0 rfl rfl ?_
  refine G_iload_n C 1 dX9_stoneAt_1 rfl rfl ?_
  refine G_callV C (As := [.int (nI p)]) (rest := []) (c_X9_solZ g40 g41 g46 g47 hk hp31 hz) ca_X9_solution km_X9_193 (by decide) g40 rfl rfl rfl rfl (by decide) (Nat.le_of_ble_eq_true rfl) (by decide) dX9_stoneAt_2 (fun vv1 gg2 qq3 => ?_)
  obtain ⟨j_4, j_5, j_6, j_7, j_8, j_9, j_10, u_11, u_12, u_13, p_14, p_15, x_16, y_17, rfl, pp18, hh19, hh20, hh21, aa22⟩ := qq3
  have AA23 : Agr [40, 46, 47] G gg2 := aa22.wk (by simp)
  exact G_zret C hr rfl dX9_stoneAt_5 ⟨_, _, _, _, _, _, _, _, _, _, _, _, _, _, rfl, hh19, hh20, hh21, AA23⟩

abbrev rm_X9_stoneAtY : Room := ({ frames := 7, cells := 0, slots := 0, locals := 152 } : Room)
set_option maxRecDepth 100000 in
set_option maxHeartbeats 4000000 in
theorem c_X9_stoneAtY {L : GL} {ad : Nat → Nat} {G : Nat → va_E} {p : Nat} {xx yy : Nat → Int64} {ik kn ln th m q te us sp bg fo le fi re ca : Int32} {fx fy nx ny ux uy px py : Int64} {ml : Int32} {f : Nat → Int32}  (g40 : G 40 = .inr (9, [.ref (ad 41), .ref (ad 42), .ref (ad 43), .int ik, .ref (ad 44), .int kn, .ref (ad 45), .int ln, .int th, .int m, .int q, .int te, .long fx, .long fy, .long nx, .long ny, .long ux, .long uy, .int us, .long px, .long py, .ref (ad 46), .ref (ad 47), .int sp, .int bg, .int fo, .int le, .int fi, .int re, .int ca])) (g41 : G 41 = .inl (L.ac 0, 60, .inl (sv f ml))) (g46 : G 46 = .inl (L.ac 1, 61, .inr (.inl xx))) (g47 : G 47 = .inl (L.ac 1, 61, .inr (.inl yy))) (hk : okH f) (hp31 : p < 2147483648) (hz : lst (kp f p) ≠ 0) : GM L yX9_stoneAt cX9_stoneAt 2 ((some .int)) rm_X9_stoneAtY 50 ad G [.ref (ad 40), .int (nI p)] (fun vo G' => ∃ (j1 : Int32) (j2 : Int32) (j3 : Int32) (j4 : Int64) (j5 : Int64) (j6 : Int64) (j7 : Int64) (u1 : Int64) (u2 : Int64) (u3 : Int32) (p1 : Int64) (p2 : Int64) (x1 : Nat → Int64) (y1 : Nat → Int64), vo = some (.int (nI (lst (kp f p)))) ∧ G' 40 = .inr (9, [.ref (ad 41), .ref (ad 42), .ref (ad 43), .int ik, .ref (ad 44), .int kn, .ref (ad 45), .int ln, .int 0, .int j1, .int j2, .int j3, .long j4, .long j5, .long j6, .long j7, .long u1, .long u2, .int u3, .long p1, .long p2, .ref (ad 46), .ref (ad 47), .int sp, .int bg, .int fo, .int le, .int fi, .int re, .int ca]) ∧ G' 46 = .inl (L.ac 1, 61, .inr (.inl x1)) ∧ G' 47 = .inl (L.ac 1, 61, .inr (.inl y1)) ∧ Agr [40, 46, 47] G G') := by
  refine GM.of (own := RX9) (lo := [(0, .ref (ad 40)), (1, .int (nI p))]) (by decide +kernel) rfl rfl (Nat.le_of_ble_eq_true rfl) (fun E C hr => ?_)
  refine G_aload_n C 0 dX9_stoneAt_0 rfl rfl ?_
  refine G_iload_n C 1 dX9_stoneAt_1 rfl rfl ?_
  refine G_callV C (As := [.int (nI p)]) (rest := []) (c_X9_solY g40 g41 g46 g47 hk hp31 hz) ca_X9_solution km_X9_193 (by decide) g40 rfl rfl rfl rfl (by decide) (Nat.le_of_ble_eq_true rfl) (by decide) dX9_stoneAt_2 (fun vv1 gg2 qq3 => ?_)
  obtain ⟨j_4, j_5, j_6, j_7, j_8, j_9, j_10, u_11, u_12, u_13, p_14, p_15, x_16, y_17, rfl, pp18, hh19, hh20, hh21, aa22⟩ := qq3
  have AA23 : Agr [40, 46, 47] G gg2 := aa22.wk (by simp)
  exact G_zret C hr rfl dX9_stoneAt_5 ⟨_, _, _, _, _, _, _, _, _, _, _, _, _, _, rfl, hh19, hh20, hh21, AA23⟩

