def flF (f : Nat → Int32) (v : Int32) (j : Nat) : Nat → Int32 := fun i => if i < j then v else f i
theorem fl_0 {f : Nat → Int32} {v : Int32} (i : Nat) : f i = flF f v 0 i := (if_neg (Nat.not_lt_zero _)).symm
theorem fl_s {f : Nat → Int32} {v : Int32} {j : Nat} (i : Nat) : upd (flF f v j) j v i = flF f v (j + 1) i := by
  unfold upd flF
  by_cases e : i = j
  · rw [if_pos e, if_pos (by omega)]
  · rw [if_neg e]
    by_cases z : i < j
    · rw [if_pos z, if_pos (by omega)]
    · rw [if_neg z, if_neg (by omega)]
theorem fl_n {f : Nat → Int32} {v : Int32} {n i : Nat} (h : i < n) : flF f v n i = v := if_pos h
def tbJ (t : Nat → Int32) (j : Nat) : Nat → Int32 := fun d => if d < j + 2 then t d else 0
theorem tb_0 : (∀ d, d < 61 → (0 : Int32) = tbJ tPer 0 d) ∧ (∀ d, d < 61 → (0 : Int32) = tbJ tUx 0 d) ∧ (∀ d, d < 61 → (0 : Int32) = tbJ tUy 0 d) ∧ (∀ d, d < 61 → (0 : Int32) = tbJ tGp 0 d) := by decide +kernel
theorem tb_s {t : Nat → Int32} {j : Nat} (i : Nat) : upd (tbJ t j) (j + 2) (t (j + 2)) i = tbJ t (j + 1) i := by
  unfold upd tbJ
  by_cases e : i = j + 2
  · rw [if_pos e, if_pos (by omega), e]
  · rw [if_neg e]
    by_cases z : i < j + 2
    · rw [if_pos z, if_pos (by omega)]
    · rw [if_neg z, if_neg (by omega)]
theorem tb_n {t : Nat → Int32} {j : Nat} (h : t (j + 2) = 0) (i : Nat) : tbJ t j i = tbJ t (j + 1) i := by
  unfold tbJ
  by_cases z : i < j + 2
  · rw [if_pos z, if_pos (by omega)]
  · rw [if_neg z]
    by_cases e : i = j + 2
    · rw [if_pos (by omega), e, h]
    · rw [if_neg (by omega)]
theorem tb_59 {t : Nat → Int32} {i : Nat} (h : i < 61) : tbJ t 59 i = t i := if_pos (by omega)
theorem tb_sq : ∀ d, d < 61 → pern d = 0 → tPer d = 0 ∧ tUx d = 0 ∧ tUy d = 0 ∧ tGp d = 0 := by decide +kernel
abbrev rm_J7_fill_53178 : Room := ({ frames := 0, cells := 0, slots := 0, locals := 0 } : Room)
set_option maxRecDepth 100000 in
set_option maxHeartbeats 4000000 in
theorem c_J7_fill_53178 {L : GL} {N : Nat} {ad : Nat → Nat} {G : Nat → va_E} {k c : Nat} {v : Int32} {f : Nat → Int32} (lt_k : k < N) (g0 : G k = .inl (L.ac 0, c, .inl f)) (h61 : c ≤ 61) : GM L yJ7_fill_53178 cJ7_fill_53178 4 (none) rm_J7_fill_53178 N ad G [.ref (ad k), .int v] (fun vo G' => vo = none ∧ G' k = .inl (L.ac 0, c, .inl (fun _ => v)) ∧ Agr [k] G G') := by
  refine GM.ofJ (own := RJ7) (lo := [(0, .ref (ad k)), (1, .int v)]) (by decide +kernel) rfl rfl (Nat.le_of_ble_eq_true rfl) (fun E C hr => ?_)
  refine G_iconst C (v := 0) dJ7_fill_53178_0 (by decide) ?_
  refine GW.ren k lt_k (t0 := 0) (flF f v 0) g0 (fun i _ => fl_0 i) (fun gg1 hh2 aa3 => ?_)
  have AA4 : Agr [k] G gg1 := aa3.wk (by simp)
  refine G_istore_n C 2 (lo' := [(2, .int 0), (0, .ref (ad k)), (1, .int v)]) dJ7_fill_53178_1 rfl (by decide) rfl ?_
  refine G_aload_n C 0 dJ7_fill_53178_2 rfl rfl ?_
  refine G_alen C k lt_k 0 hh2 rfl (v := nI c) rfl dJ7_fill_53178_3 ?_
  refine G_istore_n C 3 (lo' := [(3, .int (nI c)), (2, .int 0), (0, .ref (ad k)), (1, .int v)]) dJ7_fill_53178_4 rfl (by decide) rfl ?_
  have key5 : ∀ (n : Nat) (j : Nat) (G1 : Nat → va_E) (hf5_k : G1 k = .inl (L.ac 0, c, .inl (flF f v j))) (ha5 : Agr [k] G G1) (hn : c - j < n) (hj : j ≤ c), GW L E N ad G1 0 0 5 [(3, .int (nI c)), (2, .int (nI j)), (0, .ref (ad k)), (1, .int v)] [] := by
    intro n
    induction n with
    | zero =>
      intro j G1 hf5_k ha5 hn hj
      exact absurd hn (Nat.not_lt_zero _)
    | succ n ih =>
      intro j G1 hf5_k ha5 hn hj
      refine G_iload_n C 2 dJ7_fill_53178_5 rfl rfl ?_
      refine G_iload_n C 3 dJ7_fill_53178_6 rfl rfl ?_
      refine G_icmp_ge C 20 dJ7_fill_53178_7 (by decide) (fun c7 => ?_) (fun c7 => ?_)
      · have c7n : c ≤ j := (cI_le (a := c) (b := j) rfl rfl (by omega) (by omega)).mp c7
        refine GW.ren k lt_k (t0 := 0) (fun _ => v) hf5_k (fun i hi => fl_n (show i < j by omega)) (fun gg5 hh6 aa7 => ?_)
        have AA8 : Agr [k] G gg5 := ha5.tr aa7 (by simp) (by simp)
        exact G_vret C hr dJ7_fill_53178_20 ⟨rfl, hh6, AA8⟩
      · have c7n : ¬ c ≤ j := fun z => c7 ((cI_le (a := c) (b := j) rfl rfl (by omega) (by omega)).mpr z)
        refine G_aload_n C 0 dJ7_fill_53178_10 rfl rfl ?_
        refine G_iload_n C 2 dJ7_fill_53178_11 rfl rfl ?_
        refine G_iload_n C 1 dJ7_fill_53178_12 rfl rfl ?_
        refine G_iastN C k lt_k j hf5_k rfl (by omega) (by omega) dJ7_fill_53178_13 (fun gg9 hh10 aa11 => ?_)
        have AA12 : Agr [k] G gg9 := ha5.tr aa11 (by simp) (by simp)
        refine GW.ren k lt_k (t0 := 0) (flF f v (j + 1)) hh10 (fun i _ => fl_s i) (fun gg13 hh14 aa15 => ?_)
        have AA16 : Agr [k] G gg13 := AA12.tr aa15 (by simp) (by simp)
        refine G_iinc C (v := nI (j + 1)) (lo' := [(2, .int (nI (j + 1))), (3, .int (nI c)), (0, .ref (ad k)), (1, .int v)]) dJ7_fill_53178_14 rfl (nI_add _ _) (by decide) rfl ?_
        refine G_goto C 5 dJ7_fill_53178_17 (by decide) ?_
        refine GW.pick [1, 0, 2, 3] [(3, .int (nI c)), (2, .int (nI (j + 1))), (0, .ref (ad k)), (1, .int v)] rfl ?_
        exact ih (j + 1) gg13 hh14 AA16 (by omega) (by omega)
  exact key5 (c + 1) 0 gg1 hh2 AA4 (by omega) (Nat.zero_le _)

abbrev rm_X5_init : Room := ({ frames := 1, cells := 1, slots := 61, locals := 23 } : Room)
set_option maxRecDepth 100000 in
set_option maxHeartbeats 4000000 in
theorem c_X5_init {L : GL} {N : Nat} {ad : Nat → Nat} {G : Nat → va_E} {k r : Nat} (lt_k : k < N) (gk : G k = .inr (5, [.null, .null, .int 0, .int 0])) (lt_r : r < N) : GN L yX5_init cX5_init 2 rm_X5_init N ad G [.ref (ad k), .ref (ad r)] (fun N' ad' G' => N' = N + 1 ∧ (∀ i, i < N → ad' i = ad i) ∧ G' k = .inr (5, [.ref (ad' r), .ref (ad' N), .int 0, .int 0]) ∧ G' N = .inl (L.ac 0, 61, .inl (fun _ => (-1))) ∧ Agr [k, N] G G') := by
  refine GN.of (own := RX5) (lo := [(0, .ref (ad k)), (1, .ref (ad r))]) (by decide +kernel) rfl rfl rfl (Nat.le_of_ble_eq_true rfl) (fun E C hr => ?_)
  have hz0 := hz_rf (ad := ad) (N0 := N)
  refine G_aload_n C 0 dX5_init_0 rfl rfl ?_
  refine G_objInit C km_X5_3 w_oi1 w_oi2 dX5_init_1 (by decide) (Nat.le_of_ble_eq_true rfl) ?_
  refine G_aload_n C 0 dX5_init_4 rfl rfl ?_
  refine G_bipush C (v := 61) dX5_init_5 (by decide) ?_
  refine G_newaE C 0 (atype := .int) (ty := .int) w_arr_int rfl rfl (N1 := 61) (a0 := (61, .inl (fun _ => 0))) ha_i (by decide) rfl (Nat.le_of_ble_eq_true rfl) (Nat.le_of_ble_eq_true rfl) (Nat.le_of_ble_eq_true rfl) dX5_init_7 (fun ad gg1 he4 hh2 aa3 => ?_)
  try simp only [← he4 k lt_k, ← he4 r lt_r] at gk ⊢
  have hz5 := hz_tr hz0 he4 (Nat.le_refl _)
  have AA6 : Agr [N] G gg1 := aa3.wk (by simp)
  refine G_putFp C hr.2.1 k (Nat.lt_succ_of_lt lt_k) ((aa3 k (by simp [(Nat.ne_of_lt lt_k)])).trans gk) rfl inA5 tyX5_ok nmX5 1 (by decide) rfl rfl kf_X5_9 rfl rfl rfl (fs' := [.null, .ref (ad N), .int 0, .int 0]) (Nat.le_of_ble_eq_true rfl) rfl dX5_init_9 (fun gg7 hh8 aa9 => ?_)
  have AA10 : Agr [N, k] G gg7 := AA6.tr aa9 (by simp) (by simp)
  refine G_aload_n C 0 dX5_init_12 rfl rfl ?_
  refine G_aload_n C 1 dX5_init_13 rfl rfl ?_
  refine G_putFp C hr.2.1 k (Nat.lt_succ_of_lt lt_k) hh8 rfl inA5 tyX5_ok nmX5 0 (by decide) rfl rfl kf_X5_15 rfl rfl rfl (fs' := [.ref (ad r), .ref (ad N), .int 0, .int 0]) (Nat.le_of_ble_eq_true rfl) rfl dX5_init_14 (fun gg11 hh12 aa13 => ?_)
  have AA14 : Agr [N, k] G gg11 := AA10.tr aa13 (by simp) (by simp)
  refine G_aload_n C 0 dX5_init_17 rfl rfl ?_
  refine G_get C k (Nat.lt_succ_of_lt lt_k) hh12 rfl inA5 1 (by decide) rfl kf_X5_9 rfl dX5_init_18 ?_
  refine G_iconst C (v := (-1)) dX5_init_21 (by decide) ?_
  refine G_callS C (As := [.ref (ad N), .int (-1)]) (rest := []) (c_J7_fill_53178 (Nat.lt_succ_self N) ((aa13 N (by simp [(Nat.ne_of_gt lt_k)])).trans ((aa9 N (by simp [(Nat.ne_of_gt lt_k)])).trans hh2)) (by decide)) ca_J7_fill_53178 km_X5_19 rfl rfl (by decide) (Nat.le_of_ble_eq_true rfl) (by decide) dX5_init_22 (fun vv15 gg16 qq17 => ?_)
  obtain ⟨rfl, hh18, aa19⟩ := qq17
  have AA20 : Agr [N, k] G gg16 := AA14.tr aa19 (by simp) (by simp)
  exact G_nret C hr dX5_init_25 ⟨rfl, hz5, ((aa19 k (by simp [(Nat.ne_of_lt lt_k)])).trans hh12), hh18, (AA20.wk (by simp))⟩

abbrev rm_X7_init : Room := ({ frames := 1, cells := 1, slots := 60, locals := 12 } : Room)
set_option maxRecDepth 100000 in
set_option maxHeartbeats 4000000 in
theorem c_X7_init {L : GL} {ad : Nat → Nat} {G : Nat → va_E}   (g38 : G 38 = .inr (7, [.null, .int 0, .int 0, .int 0, .int 0, .int 0]))  : GN L yX7_init cX7_init 1 rm_X7_init 39 ad G [.ref (ad 38)] (fun N' ad' G' => N' = 40 ∧ (∀ i, i < 39 → ad' i = ad i) ∧ G' 38 = .inr (7, [.ref (ad' 39), .int 0, .int 0, .int 0, .int 0, .int 0]) ∧ G' 39 = .inl (L.ac 2, 60, .inl (fun _ => 0)) ∧ Agr [38, 39] G G') := by
  refine GN.of (own := RX7) (lo := [(0, .ref (ad 38))]) (by decide +kernel) rfl rfl rfl (Nat.le_of_ble_eq_true rfl) (fun E C hr => ?_)
  have hz0 := hz_rf (ad := ad) (N0 := 39)
  refine G_aload_n C 0 dX7_init_0 rfl rfl ?_
  refine G_objInit C km_X7_3 w_oi1 w_oi2 dX7_init_1 (by decide) (Nat.le_of_ble_eq_true rfl) ?_
  refine G_aload_n C 0 dX7_init_4 rfl rfl ?_
  refine G_bipush C (v := 60) dX7_init_5 (by decide) ?_
  refine G_newaE C 2 (atype := .char) (ty := .char) w_arr_char rfl rfl (N1 := 60) (a0 := (60, .inl (fun _ => 0))) ha_c (by decide) rfl (Nat.le_of_ble_eq_true rfl) (Nat.le_of_ble_eq_true rfl) (Nat.le_of_ble_eq_true rfl) dX7_init_7 (fun ad gg1 he4 hh2 aa3 => ?_)
  try simp only [← he4 38 (by decide)] at g38 ⊢
  have hz5 := hz_tr hz0 he4 (by decide)
  have AA6 : Agr [39] G gg1 := aa3.wk (by simp)
  refine G_putFp C hr.2.1 38 (by decide) ((aa3 38 (by decide)).trans g38) rfl inA7 tyX7_ok nmX7 0 (by decide) rfl rfl kf_X7_9 rfl rfl rfl (fs' := [.ref (ad 39), .int 0, .int 0, .int 0, .int 0, .int 0]) (Nat.le_of_ble_eq_true rfl) rfl dX7_init_9 (fun gg7 hh8 aa9 => ?_)
  have AA10 : Agr [39, 38] G gg7 := AA6.tr aa9 (by simp) (by simp)
  exact G_nret C hr dX7_init_12 ⟨rfl, hz5, hh8, ((aa9 39 (by decide)).trans hh2), (AA10.wk (by simp))⟩

abbrev rm_X2_init : Room := ({ frames := 2, cells := 2, slots := 317, locals := 32 } : Room)
set_option maxRecDepth 100000 in
set_option maxHeartbeats 4000000 in
theorem c_X2_init {L : GL} {ad : Nat → Nat} {G : Nat → va_E}   (g19 : G 19 = .inr (2, [.null, .null, .null, .int 0]))  : GN L yX2_init cX2_init 2 rm_X2_init 20 ad G [.ref (ad 19), .ref (ad 1)] (fun N' ad' G' => N' = 22 ∧ (∀ i, i < 20 → ad' i = ad i) ∧ G' 19 = .inr (2, [.ref (ad' 1), .ref (ad' 20), .ref (ad' 21), .int 0]) ∧ G' 20 = .inr (1, [.int 0, .int 0, .int 0, .long 0, .long 0]) ∧ G' 21 = .inl (L.ac 1, 312, .inr (.inl (fun _ => 0))) ∧ Agr [19, 20, 21] G G') := by
  refine GN.of (own := RX2) (lo := [(0, .ref (ad 19)), (1, .ref (ad 1))]) (by decide +kernel) rfl rfl rfl (Nat.le_of_ble_eq_true rfl) (fun E C hr => ?_)
  have hz0 := hz_rf (ad := ad) (N0 := 20)
  refine G_aload_n C 0 dX2_init_0 rfl rfl ?_
  refine G_objInit C km_X2_3 w_oi1 w_oi2 dX2_init_1 (by decide) (Nat.le_of_ble_eq_true rfl) ?_
  refine G_aload_n C 0 dX2_init_4 rfl rfl ?_
  refine G_newE C (ci := 1) (fs := [.int 0, .int 0, .int 0, .long 0, .long 0]) rfl inA1 tyX1_ok kc_X2_9 w_inst_X1 w_init_X1 dfX1 (by decide) (by decide) dX2_init_5 (fun ad gg1 he4 hh2 aa3 => ?_)
  try simp only [← he4 1 (by decide), ← he4 19 (by decide)] at g19 ⊢
  have hz5 := hz_tr hz0 he4 (by decide)
  have AA6 : Agr [20] G gg1 := aa3.wk (by simp)
  refine G_dup C dX2_init_8 rfl ?_
  refine G_callIN C (As := []) (rest := [.ref (ad 20), .ref (ad 19)]) c_X1_init ca_X1_init kn_X2_11 rfl rfl (by decide) (Nat.le_of_ble_eq_true rfl) (by decide) dX2_init_9 (fun vv7 gg8 qq9 => ?_)
  obtain ⟨rfl, rfl⟩ := qq9
  refine G_putFp C hr.2.1 19 (by decide) ((aa3 19 (by decide)).trans g19) rfl inA2 tyX2_ok nmX2 1 (by decide) rfl rfl kf_X2_12 rfl rfl rfl (fs' := [.null, .ref (ad 20), .null, .int 0]) (Nat.le_of_ble_eq_true rfl) rfl dX2_init_12 (fun gg10 hh11 aa12 => ?_)
  have AA13 : Agr [20, 19] G gg10 := AA6.tr aa12 (by simp) (by simp)
  refine G_aload_n C 0 dX2_init_15 rfl rfl ?_
  refine G_sipush C (v := 312) dX2_init_16 (by decide) ?_
  refine G_newaE C 1 (atype := .long) (ty := .long) w_arr_long rfl rfl (N1 := 312) (a0 := (312, .inr (.inl (fun _ => 0)))) ha_l (by decide) rfl (Nat.le_of_ble_eq_true rfl) (Nat.le_of_ble_eq_true rfl) (Nat.le_of_ble_eq_true rfl) dX2_init_19 (fun ad gg14 he17 hh15 aa16 => ?_)
  try simp only [← he17 1 (by decide), ← he17 19 (by decide), ← he17 20 (by decide)] at hh11 hh2 ⊢
  have hz18 := hz_tr hz5 he17 (by decide)
  have AA19 : Agr [20, 19, 21] G gg14 := AA13.tr aa16 (by simp) (by simp)
  refine G_putFp C hr.2.1 19 (by decide) ((aa16 19 (by decide)).trans hh11) rfl inA2 tyX2_ok nmX2 2 (by decide) rfl rfl kf_X2_18 rfl rfl rfl (fs' := [.null, .ref (ad 20), .ref (ad 21), .int 0]) (Nat.le_of_ble_eq_true rfl) rfl dX2_init_21 (fun gg20 hh21 aa22 => ?_)
  have AA23 : Agr [20, 19, 21] G gg20 := AA19.tr aa22 (by simp) (by simp)
  refine G_aload_n C 0 dX2_init_24 rfl rfl ?_
  refine G_aload_n C 1 dX2_init_25 rfl rfl ?_
  refine G_putFp C hr.2.1 19 (by decide) hh21 rfl inA2 tyX2_ok nmX2 0 (by decide) rfl rfl kf_X2_22 rfl rfl rfl (fs' := [.ref (ad 1), .ref (ad 20), .ref (ad 21), .int 0]) (Nat.le_of_ble_eq_true rfl) rfl dX2_init_26 (fun gg24 hh25 aa26 => ?_)
  have AA27 : Agr [20, 19, 21] G gg24 := AA23.tr aa26 (by simp) (by simp)
  exact G_nret C hr dX2_init_29 ⟨rfl, hz18, hh25, ((aa26 20 (by decide)).trans ((aa22 20 (by decide)).trans ((aa16 20 (by decide)).trans ((aa12 20 (by decide)).trans hh2)))), ((aa26 21 (by decide)).trans ((aa22 21 (by decide)).trans hh15)), (AA27.wk (by simp))⟩
