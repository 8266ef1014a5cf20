/-- sz longs in order, c b of them up to b -/
def sSQ (xs : Nat → Int64) (sz : Nat) (c : Int64 → Nat) : Prop := (∀ b, c b ≤ sz) ∧ ∀ i, i < sz → ∀ b, xs i ≤ b ↔ i < c b
theorem ss_0 (xs : Nat → Int64) : sSQ xs 0 (fun _ => 0) := ⟨fun _ => Nat.le_refl _, fun i hi => absurd hi (Nat.not_lt_zero _)⟩
theorem ss_c {xs : Nat → Int64} {sz : Nat} {c c2 : Int64 → Nat} (h : sSQ xs sz c) (e : ∀ b, c b = c2 b) : sSQ xs sz c2 := ⟨fun b => e b ▸ h.1 b, fun i hi b => e b ▸ h.2 i hi b⟩
/-- a place is made for x: what stands behind q has moved -/
def sMV (xs ys : Nat → Int64) (sz q : Nat) (x : Int64) : Prop := q ≤ sz ∧ (∀ i, i < q → ys i = xs i) ∧ (∀ i, q < i → i ≤ sz → ys i = xs (i - 1)) ∧ ∀ i, q ≤ i → i < sz → ¬ xs i ≤ x
theorem sm_0 {xs : Nat → Int64} {sz : Nat} {x : Int64} : sMV xs xs sz sz x := ⟨Nat.le_refl _, fun _ _ => rfl, fun i h1 h2 => by omega, fun i h1 h2 => by omega⟩
theorem sm_s {xs ys : Nat → Int64} {sz q : Nat} {x : Int64} (h : sMV xs ys sz q x) (h0 : 0 < q) (hx : ¬ ys (q - 1) ≤ x) : sMV xs (vp_updL ys q (ys (q - 1))) sz (q - 1) x := by
  obtain ⟨h1, h2, h3, h4⟩ := h
  refine ⟨by omega, fun i hi => ?_, fun i hi hj => ?_, fun i hi hj => ?_⟩
  · rw [pk_uLn (by omega)]; exact h2 i (by omega)
  · by_cases e : i = q
    · rw [e, pk_uLs]; exact h2 _ (by omega)
    · rw [pk_uLn e]; exact h3 i (by omega) hj
  · by_cases e : i = q - 1
    · rw [e, ← h2 (q - 1) (by omega)]; exact hx
    · exact h4 i (by omega) hj
theorem sm_end {xs ys : Nat → Int64} {sz q : Nat} {x : Int64} {c : Int64 → Nat} (hs : sSQ xs sz c) (h : sMV xs ys sz q x) (hx : q = 0 ∨ ys (q - 1) ≤ x) : sSQ (vp_updL ys q x) (sz + 1) (fun b => c b + if x ≤ b then 1 else 0) := by
  obtain ⟨h1, h2, h3, h4⟩ := h
  obtain ⟨s1, s2⟩ := hs
  have hq : ∀ b, x ≤ b → q ≤ c b := fun b hb => by
    rcases hx with e | e
    · omega
    · by_cases z : q = 0
      · omega
      · rw [h2 _ (by omega)] at e
        have := (s2 (q - 1) (by omega) b).mp (Int64.le_trans e hb)
        omega
  refine ⟨fun b => ?_, fun i hi b => ?_⟩
  · have := s1 b
    show c b + (if x ≤ b then 1 else 0) ≤ sz + 1
    split <;> omega
  · show _ ↔ i < c b + (if x ≤ b then 1 else 0)
    have sb := s1 b
    have big : ¬ x ≤ b → ∀ k, q ≤ k → ¬ k < c b := fun nb k hk hkc => by
      have z := (s2 k (by omega) b).mpr hkc
      exact h4 k hk (by omega) (Int64.le_trans z (Int64.le_of_lt (Int64.not_le.mp nb)))
    by_cases e : i = q
    · rw [e, pk_uLs]
      by_cases z : x ≤ b
      · rw [if_pos z]; have := hq b z; exact ⟨fun _ => by omega, fun _ => z⟩
      · rw [if_neg z]; exact ⟨fun y => absurd y z, fun y => absurd y (big z q (Nat.le_refl _))⟩
    · rw [pk_uLn e]
      by_cases l : i < q
      · rw [h2 i l]
        have a := s2 i (by omega) b
        by_cases z : x ≤ b
        · rw [if_pos z]; have := hq b z; exact ⟨fun _ => by omega, fun _ => a.mpr (by omega)⟩
        · rw [if_neg z, Nat.add_zero]; exact a
      · rw [h3 i (by omega) (by omega)]
        have a := s2 (i - 1) (by omega) b
        by_cases z : x ≤ b
        · rw [if_pos z, a]; constructor <;> intro y <;> omega
        · rw [if_neg z, a]
          have k1 := big z (i - 1) (by omega)
          exact ⟨fun y => absurd y k1, fun y => absurd (show i - 1 < c b by omega) k1⟩
theorem nI_m1 {q : Nat} (h : 0 < q) : nI q - 1 = nI (q - 1) := by
  obtain ⟨k, rfl⟩ : ∃ k, q = k + 1 := ⟨q - 1, by omega⟩
  exact nI_pred k
theorem nI_a1 {q : Nat} (h : 0 < q) : nI q + (-1) = nI (q - 1) := by
  obtain ⟨k, rfl⟩ : ∃ k, q = k + 1 := ⟨q - 1, by omega⟩
  exact pk_m1 k
/-- how many of the powers 1 to i of d have an x up to b -/
def cSm (d : Nat) (b : Int64) : Nat → Nat
  | 0 => 0
  | i + 1 => cSm d b i + if (pwr d (i + 1)).1 ≤ b then 1 else 0
theorem cS_z {d : Nat} {b : Int64} (hd : d ≤ 60) (hp : pern d ≠ 0) {k : Nat} (hk : ¬ (pwr d (k + 1)).1 ≤ b) : ∀ n, k + n ≤ gpn d → cSm d b (k + n) = cSm d b k ∧ (k + n < gpn d → ¬ (pwr d (k + n + 1)).1 ≤ b)
  | 0, _ => ⟨rfl, fun _ => hk⟩
  | n + 1, h => by
    have h39 := gp_lt d (by omega)
    have ih := cS_z hd hp hk n (by omega)
    have z := ih.2 (by omega)
    refine ⟨?_, fun hl y => ?_⟩
    · rw [← Nat.add_assoc, cSm, if_neg z, Nat.add_zero]; exact ih.1
    · exact z (Int64.le_trans (pw_up d (by omega) hp (k + n + 1) (by omega) hl) y)
theorem cS_c {d : Nat} {b : Int64} (hd : d ≤ 60) (hp : pern d ≠ 0) : ∀ n i, gpn d - i ≤ n → i ≤ gpn d → cSm d b i = i → cntL d b n i = cSm d b (gpn d)
  | 0, i, h, h2, e => by rw [show gpn d = i by omega, cntL_stop (fun y => by omega), e]
  | n + 1, i, h, h2, e => by
    by_cases z : i < gpn d ∧ (pwr d (i + 1)).1 ≤ b
    · rw [cntL_step z.1 z.2]
      exact cS_c hd hp n (i + 1) (by omega) z.1 (by rw [cSm, if_pos z.2, e])
    · rw [cntL_stop z]
      by_cases y : i < gpn d
      · have a := (cS_z hd hp (fun w => z ⟨y, w⟩) (gpn d - i) (by omega)).1
        rw [show i + (gpn d - i) = gpn d by omega] at a
        rw [a, e]
      · rw [show gpn d = i by omega, e]
theorem cS_1 {d : Nat} {b : Int64} (hd : d ≤ 60) (hp : pern d ≠ 0) : cSm d b (gpn d) = cntL d b 40 0 :=
  (cS_c hd hp 40 0 (by have := gp_lt d (by omega); omega) (Nat.zero_le _) rfl).symm
theorem cS_all : ∀ d, d < 61 → pern d ≠ 0 → cntL d 1000000000000000 40 0 = gpn d := by decide +kernel
/-- how many powers the stones below j + 2 have -/
def totF (f : Nat → Int32) : Nat → Nat
  | 0 => 0
  | j + 1 => totF f j + (if f (j + 2) < 0 then 0 else gpn (j + 2))
theorem tot_le (f : Nat → Int32) : ∀ j, j ≤ 59 → totF f j ≤ 39 * mnN f j
  | 0, _ => Nat.le_refl _
  | j + 1, h => by
    have ih := tot_le f j (by omega)
    have := gp_lt (j + 2) (by omega)
    rw [totF, mnN]
    split <;> omega
theorem tot_312 {f : Nat → Int32} {l : Int32} (h : okL f l) {j : Nat} (hj : j < 59) (z : ¬ f (j + 2) < 0) : totF f j + gpn (j + 2) ≤ 312 := by
  have a := mn_8 h hj z
  have b := tot_le f j (by omega)
  have := gp_lt (j + 2) (by omega)
  omega
theorem tot_c {f : Nat → Int32} (hk : okH f) : ∀ j, j ≤ 59 → totF f j = sumN (fun d => cnR 1000000000000000 d (k0 f d)) j
  | 0, _ => rfl
  | j + 1, h => by
    rw [totF, sumN, tot_c hk j (by omega)]
    by_cases z : f (j + 2) < 0
    · rw [if_pos z, k0, if_pos z, cnR, if_pos rfl]
    · have hp := okK_0 hk (j + 2) (by omega) (by omega) (by rw [k0, if_neg z]; exact Nat.one_ne_zero)
      rw [if_neg z, k0, if_neg z, cnR, if_neg Nat.one_ne_zero]
      show _ = _ + (cntL (j + 2) 1000000000000000 40 0 - 0)
      rw [cS_all _ (by omega) hp.1, Nat.sub_zero]
theorem ss_end {f : Nat → Int32} (hk : okH f) {xs : Nat → Int64} (h : sSQ xs (totF f 59) (fun b => cnS b (k0 f))) {i : Nat} (hi : i < totF f 59) : lst (kp f i) ≠ 0 ∧ xs i = xa (kp f i) (lst (kp f i)) := by
  have e : totF f 59 = cnS 1000000000000000 (k0 f) := tot_c hk 59 (Nat.le_refl _)
  have hz := (ord_4 hk i).mpr (e ▸ hi)
  have a := fun b => (h.2 i hi b).trans (ord_3 hk hz b).symm
  exact ⟨hz, Int64.le_antisymm ((a _).mpr (Int64.le_refl _)) ((a _).mp (Int64.le_refl _))⟩
theorem ss_out {f : Nat → Int32} (hk : okH f) {i : Nat} (hi : totF f 59 ≤ i) : lst (kp f i) = 0 := by
  refine Classical.byContradiction fun z => ?_
  have e : totF f 59 = cnS 1000000000000000 (k0 f) := tot_c hk 59 (Nat.le_refl _)
  have := (ord_4 hk i).mp z
  omega
abbrev rm_X2_add : Room := ({ frames := 0, cells := 0, slots := 0, locals := 0 } : Room)
set_option maxRecDepth 100000 in
set_option maxHeartbeats 4000000 in
theorem c_X2_add {L : GL} {ad : Nat → Nat} {G : Nat → va_E} {sz : Nat} {xs : Nat → Int64} {cc : Int64 → Nat} {x : Int64}  (g19 : G 19 = .inr (2, [.ref (ad 1), .ref (ad 20), .ref (ad 21), .int (nI sz)])) (g21 : G 21 = .inl (L.ac 1, 312, .inr (.inl xs))) (hs : sSQ xs sz cc) (h312 : sz < 312) : GM L yX2_add cX2_add 4 (none) rm_X2_add 40 ad G [.ref (ad 19), .long x] (fun vo G' => ∃ (x2 : Nat → Int64), vo = none ∧ (sSQ x2 (sz + 1) (fun b => cc b + if x ≤ b then 1 else 0)) ∧ G' 19 = .inr (2, [.ref (ad 1), .ref (ad 20), .ref (ad 21), .int (nI (sz + 1))]) ∧ G' 21 = .inl (L.ac 1, 312, .inr (.inl x2)) ∧ Agr [19, 21] G G') := by
  refine GM.of (own := RX2) (lo := [(0, .ref (ad 19)), (1, .long x)]) (by decide +kernel) rfl rfl (Nat.le_of_ble_eq_true rfl) (fun E C hr => ?_)
  refine G_aload_n C 0 dX2_add_0 rfl rfl ?_
  refine G_get C 19 (by decide) g19 rfl inA2 3 (by decide) rfl kf_X2_26 rfl dX2_add_1 ?_
  refine G_aload_n C 0 dX2_add_4 rfl rfl ?_
  refine G_get C 19 (by decide) g19 rfl inA2 2 (by decide) rfl kf_X2_18 rfl dX2_add_5 ?_
  refine G_alen C 21 (by decide) 1 g21 rfl (v := 312) rfl dX2_add_8 ?_
  refine G_icmp_lt C 13 dX2_add_9 (by decide) (fun c9 => ?_) (fun c9 => False.elim (c9 ((cI_lt (a := sz) (b := 312) rfl rfl (by omega) (by omega)).mpr h312)))
  have c9n : sz < 312 := (cI_lt (a := sz) (b := 312) rfl rfl (by omega) (by omega)).mp c9
  refine G_aload_n C 0 dX2_add_13 rfl rfl ?_
  refine G_get C 19 (by decide) g19 rfl inA2 3 (by decide) rfl kf_X2_26 rfl dX2_add_14 ?_
  refine G_istore_n C 3 (lo' := [(3, .int (nI sz)), (0, .ref (ad 19)), (1, .long x)]) dX2_add_17 rfl (by decide) rfl ?_
  have key18 : ∀ (n : Nat) (q : Nat) (ys : Nat → Int64) (G1 : Nat → va_E) (hf18_21 : G1 21 = .inl (L.ac 1, 312, .inr (.inl ys))) (ha18 : Agr [21] G G1) (hn : q < n) (hm : sMV xs ys sz q x), GW L E 40 ad G1 0 0 18 [(3, .int (nI q)), (0, .ref (ad 19)), (1, .long x)] [] := by
    intro n
    induction n with
    | zero =>
      intro q ys G1 hf18_21 ha18 hn hm
      exact absurd hn (Nat.not_lt_zero _)
    | succ n ih =>
      intro q ys G1 hf18_21 ha18 hn hm
      have hqs := hm.1
      refine G_iload_n C 3 dX2_add_18 rfl rfl ?_
      refine G_if_le C 55 dX2_add_19 (by decide) (fun c19 => ?_) (fun c19 => ?_)
      · have c19n : q ≤ 0 := (cI_le (a := q) (b := 0) rfl rfl (by omega) (by omega)).mp c19
        refine G_aload_n C 0 dX2_add_55 rfl rfl ?_
        refine G_get C 19 (by decide) ((ha18 19 (by decide)).trans g19) rfl inA2 2 (by decide) rfl kf_X2_18 rfl dX2_add_56 ?_
        refine G_iload_n C 3 dX2_add_59 rfl rfl ?_
        refine G_lload_n C 1 dX2_add_60 rfl rfl ?_
        refine G_lastN C 21 (by decide) q hf18_21 rfl (by omega) (by omega) dX2_add_61 (fun gg1 hh2 aa3 => ?_)
        have AA4 : Agr [21] G gg1 := ha18.tr aa3 (by simp) (by simp)
        refine G_aload_n C 0 dX2_add_62 rfl rfl ?_
        refine G_dup C dX2_add_63 rfl ?_
        refine G_get C 19 (by decide) ((aa3 19 (by decide)).trans ((ha18 19 (by decide)).trans g19)) rfl inA2 3 (by decide) rfl kf_X2_26 rfl dX2_add_64 ?_
        refine G_iconst C (v := 1) dX2_add_67 (by decide) ?_
        refine G_iadd C dX2_add_68 ?_
        refine GW.topr (cI_add (a := sz) (b := 1) rfl rfl) ?_
        refine G_putp C 19 (by decide) ((aa3 19 (by decide)).trans ((ha18 19 (by decide)).trans g19)) rfl inA2 tyX2_ok nmX2 3 (by decide) rfl kf_X2_26 rfl rfl rfl (fs' := [.ref (ad 1), .ref (ad 20), .ref (ad 21), .int (nI (sz + 1))]) (Nat.le_of_ble_eq_true rfl) rfl dX2_add_69 (fun gg5 hh6 aa7 => ?_)
        have AA8 : Agr [21, 19] G gg5 := AA4.tr aa7 (by simp) (by simp)
        exact G_vret C hr dX2_add_72 ⟨_, rfl, sm_end hs hm (Or.inl (by omega)), hh6, ((aa7 21 (by decide)).trans hh2), (AA8.wk (by simp))⟩
      · have c19n : ¬ q ≤ 0 := fun z => c19 ((cI_le (a := q) (b := 0) rfl rfl (by omega) (by omega)).mpr z)
        refine G_aload_n C 0 dX2_add_22 rfl rfl ?_
        refine G_get C 19 (by decide) ((ha18 19 (by decide)).trans g19) rfl inA2 2 (by decide) rfl kf_X2_18 rfl dX2_add_23 ?_
        refine G_iload_n C 3 dX2_add_26 rfl rfl ?_
        refine G_iconst C (v := 1) dX2_add_27 (by decide) ?_
        refine G_isub C dX2_add_28 ?_
        refine GW.topr (y := nI (q - 1)) (nI_m1 (by omega)) ?_
        refine G_laldN C 21 (by decide) (q - 1) hf18_21 rfl (by omega) (by omega) dX2_add_29 ?_
        refine G_lload_n C 1 dX2_add_30 rfl rfl ?_
        refine G_lc_le C 55 dX2_add_31 dX2_add_32 (by decide) (fun c31 => ?_) (fun c31 => ?_)
        · refine G_aload_n C 0 dX2_add_55 rfl rfl ?_
          refine G_get C 19 (by decide) ((ha18 19 (by decide)).trans g19) rfl inA2 2 (by decide) rfl kf_X2_18 rfl dX2_add_56 ?_
          refine G_iload_n C 3 dX2_add_59 rfl rfl ?_
          refine G_lload_n C 1 dX2_add_60 rfl rfl ?_
          refine G_lastN C 21 (by decide) q hf18_21 rfl (by omega) (by omega) dX2_add_61 (fun gg9 hh10 aa11 => ?_)
          have AA12 : Agr [21] G gg9 := ha18.tr aa11 (by simp) (by simp)
          refine G_aload_n C 0 dX2_add_62 rfl rfl ?_
          refine G_dup C dX2_add_63 rfl ?_
          refine G_get C 19 (by decide) ((aa11 19 (by decide)).trans ((ha18 19 (by decide)).trans g19)) rfl inA2 3 (by decide) rfl kf_X2_26 rfl dX2_add_64 ?_
          refine G_iconst C (v := 1) dX2_add_67 (by decide) ?_
          refine G_iadd C dX2_add_68 ?_
          refine GW.topr (cI_add (a := sz) (b := 1) rfl rfl) ?_
          refine G_putp C 19 (by decide) ((aa11 19 (by decide)).trans ((ha18 19 (by decide)).trans g19)) rfl inA2 tyX2_ok nmX2 3 (by decide) rfl kf_X2_26 rfl rfl rfl (fs' := [.ref (ad 1), .ref (ad 20), .ref (ad 21), .int (nI (sz + 1))]) (Nat.le_of_ble_eq_true rfl) rfl dX2_add_69 (fun gg13 hh14 aa15 => ?_)
          have AA16 : Agr [21, 19] G gg13 := AA12.tr aa15 (by simp) (by simp)
          exact G_vret C hr dX2_add_72 ⟨_, rfl, sm_end hs hm (Or.inr c31), hh14, ((aa15 21 (by decide)).trans hh10), (AA16.wk (by simp))⟩
        · refine G_aload_n C 0 dX2_add_35 rfl rfl ?_
          refine G_get C 19 (by decide) ((ha18 19 (by decide)).trans g19) rfl inA2 2 (by decide) rfl kf_X2_18 rfl dX2_add_36 ?_
          refine G_iload_n C 3 dX2_add_39 rfl rfl ?_
          refine G_aload_n C 0 dX2_add_40 rfl rfl ?_
          refine G_get C 19 (by decide) ((ha18 19 (by decide)).trans g19) rfl inA2 2 (by decide) rfl kf_X2_18 rfl dX2_add_41 ?_
          refine G_iload_n C 3 dX2_add_44 rfl rfl ?_
          refine G_iconst C (v := 1) dX2_add_45 (by decide) ?_
          refine G_isub C dX2_add_46 ?_
          refine GW.topr (y := nI (q - 1)) (nI_m1 (by omega)) ?_
          refine G_laldN C 21 (by decide) (q - 1) hf18_21 rfl (by omega) (by omega) dX2_add_47 ?_
          refine G_lastN C 21 (by decide) q hf18_21 rfl (by omega) (by omega) dX2_add_48 (fun gg17 hh18 aa19 => ?_)
          have AA20 : Agr [21] G gg17 := ha18.tr aa19 (by simp) (by simp)
          refine G_iinc C (v := ((nI q) + (-1))) (lo' := [(3, .int ((nI q) + (-1))), (0, .ref (ad 19)), (1, .long x)]) dX2_add_49 rfl rfl (by decide) rfl ?_
          refine GW.loe (lo' := [(3, .int (nI (q - 1))), (0, .ref (ad 19)), (1, .long x)]) (by rw [nI_a1 (by omega)]) ?_
          refine G_goto C 18 dX2_add_52 (by decide) ?_
          exact ih (q - 1) _ gg17 hh18 AA20 (by omega) (sm_s hm (by omega) c31)
  exact key18 (sz + 1) sz xs G g21 Agr.rf (by omega) (sm_0)

abbrev rm_X2_addPowers : Room := ({ frames := 2, cells := 0, slots := 0, locals := 45 } : Room)
set_option maxRecDepth 100000 in
set_option maxHeartbeats 4000000 in
theorem c_X2_addPowers {L : GL} {ad : Nat → Nat} {G : Nat → va_E} {d : Nat} {sz : Nat} {cc : Int64 → Nat} {q1 q2 q3 : Int32} {q4 q5 : Int64} {xs : Nat → Int64}  (g19 : G 19 = .inr (2, [.ref (ad 1), .ref (ad 20), .ref (ad 21), .int (nI sz)])) (g20 : G 20 = .inr (1, [.int q1, .int q2, .int q3, .long q4, .long q5])) (g21 : G 21 = .inl (L.ac 1, 312, .inr (.inl xs))) (g1 : G 1 = .inr (4, [.ref (ad 2), .ref (ad 3), .ref (ad 4), .ref (ad 5), .ref (ad 6)])) (g4 : G 4 = .inl (L.ac 0, 61, .inl tUx)) (g5 : G 5 = .inl (L.ac 0, 61, .inl tUy)) (h60 : d ≤ 60) (hp : pern d ≠ 0) (hs : sSQ xs sz cc) (h312 : sz + gpn d ≤ 312) : GM L yX2_addPowers cX2_addPowers 3 (none) rm_X2_addPowers 40 ad G [.ref (ad 19), .int (nI d)] (fun vo G' => ∃ (x2 : Nat → Int64), vo = none ∧ (sSQ x2 (sz + gpn d) (fun b => cc b + cntL d b 40 0)) ∧ G' 19 = .inr (2, [.ref (ad 1), .ref (ad 20), .ref (ad 21), .int (nI (sz + gpn d))]) ∧ G' 20 = .inr (1, [.int (tUx d), .int (tUy d), .int (nI d), .long ((pwr d (gpn d)).1), .long ((pwr d (gpn d)).2)]) ∧ G' 21 = .inl (L.ac 1, 312, .inr (.inl x2)) ∧ Agr [19, 20, 21] G G') := by
  refine GM.of (own := RX2) (lo := [(0, .ref (ad 19)), (1, .int (nI d))]) (by decide +kernel) rfl rfl (Nat.le_of_ble_eq_true rfl) (fun E C hr => ?_)
  have h39 := gp_lt d (by omega)
  refine G_aload_n C 0 dX2_addPowers_0 rfl rfl ?_
  refine G_get C 19 (by decide) g19 rfl inA2 0 (by decide) rfl kf_X2_22 rfl dX2_addPowers_1 ?_
  refine G_aload_n C 0 dX2_addPowers_4 rfl rfl ?_
  refine G_get C 19 (by decide) g19 rfl inA2 1 (by decide) rfl kf_X2_12 rfl dX2_addPowers_5 ?_
  refine G_iload_n C 1 dX2_addPowers_8 rfl rfl ?_
  refine G_callV C (As := [.ref (ad 20), .int (nI d)]) (rest := []) (c_X4_begin (by decide) (by decide) (by decide) (by decide) g1 g4 g5 g20) ca_X4_begin km_X2_40 (by decide) g1 rfl rfl rfl rfl (by decide) (Nat.le_of_ble_eq_true rfl) (by decide) dX2_addPowers_9 (fun vv1 gg2 qq3 => ?_)
  obtain ⟨rfl, hh4, aa5⟩ := qq3
  have AA6 : Agr [20] G gg2 := aa5.wk (by simp)
  refine G_iconst C (v := 1) dX2_addPowers_12 (by decide) ?_
  refine G_istore_n C 2 (lo' := [(2, .int 1), (0, .ref (ad 19)), (1, .int (nI d))]) dX2_addPowers_13 rfl (by decide) rfl ?_
  have key14 : ∀ (n : Nat) (i : Nat) (x1 : Nat → Int64) (G1 : Nat → va_E) (hf14_19 : G1 19 = .inr (2, [.ref (ad 1), .ref (ad 20), .ref (ad 21), .int (nI (sz + i))])) (hf14_20 : G1 20 = .inr (1, [.int (tUx d), .int (tUy d), .int (nI d), .long ((pwr d i).1), .long ((pwr d i).2)])) (hf14_21 : G1 21 = .inl (L.ac 1, 312, .inr (.inl x1))) (ha14 : Agr [19, 20, 21] G G1) (hn : gpn d - i < n) (hi : i ≤ gpn d) (hsi : sSQ x1 (sz + i) (fun b => cc b + cSm d b i)), GW L E 40 ad G1 0 0 14 [(2, .int (nI (i + 1))), (0, .ref (ad 19)), (1, .int (nI d))] [] := by
    intro n
    induction n with
    | zero =>
      intro i x1 G1 hf14_19 hf14_20 hf14_21 ha14 hn hi hsi
      exact absurd hn (Nat.not_lt_zero _)
    | succ n ih =>
      intro i x1 G1 hf14_19 hf14_20 hf14_21 ha14 hn hi hsi
      refine G_iload_n C 2 dX2_addPowers_14 rfl rfl ?_
      refine G_ldc C dX2_addPowers_15 ki_X2_46 ?_
      refine G_icmp_gt C 47 dX2_addPowers_17 (by decide) (fun c17 => False.elim (by have := (cI_lt (a := 1000000) (b := i + 1) rfl rfl (by omega) (by omega)).mp c17; omega)) (fun c17 => ?_)
      have c17n : ¬ 1000000 < (i + 1) := fun z => c17 ((cI_lt (a := 1000000) (b := (i + 1)) rfl rfl (by omega) (by omega)).mpr z)
      refine G_aload_n C 0 dX2_addPowers_20 rfl rfl ?_
      refine G_get C 19 (by decide) hf14_19 rfl inA2 1 (by decide) rfl kf_X2_12 rfl dX2_addPowers_21 ?_
      refine G_callV C (As := []) (rest := []) (c_X1_climb (by decide) hf14_20) ca_X1_climb km_X2_47 (by decide) hf14_20 rfl rfl rfl rfl (by decide) (Nat.le_of_ble_eq_true rfl) (by decide) dX2_addPowers_24 (fun vv7 gg8 qq9 => ?_)
      obtain ⟨rfl, hh10, aa11⟩ := qq9
      have AA12 : Agr [19, 20, 21] G gg8 := ha14.tr aa11 (by simp) (by simp)
      have hck := climb_ok d (by omega) hp i (by omega) hi
      refine G_if_eq C 47 dX2_addPowers_27 (by decide) (fun c27 => ?_) (fun c27 => ?_)
      · have hil : i = gpn d := Classical.byContradiction fun z => absurd (c27.symm.trans (hck.trans (if_pos (by omega)))) (by decide)
        exact G_vret C hr dX2_addPowers_47 ⟨_, rfl, hil ▸ ss_c hsi (fun b => by rw [← cS_1 h60 hp, hil]), (by rw [((aa11 19 (by decide)).trans hf14_19), hil]), (by rw [hh10, climb_keep c27, hil]), ((aa11 21 (by decide)).trans hf14_21), AA12⟩
      · have hil : i < gpn d := Classical.byContradiction fun z => c27 (hck.trans (if_neg z))
        refine G_aload_n C 0 dX2_addPowers_30 rfl rfl ?_
        refine G_aload_n C 0 dX2_addPowers_31 rfl rfl ?_
        refine G_get C 19 (by decide) ((aa11 19 (by decide)).trans hf14_19) rfl inA2 1 (by decide) rfl kf_X2_12 rfl dX2_addPowers_32 ?_
        refine G_get C 20 (by decide) hh10 rfl inA1 3 (by decide) rfl kf_X2_51 rfl dX2_addPowers_35 ?_
        refine G_callV C (As := [.long ((pwr d (i + 1)).1)]) (rest := []) (c_X2_add ((aa11 19 (by decide)).trans hf14_19) ((aa11 21 (by decide)).trans hf14_21) hsi (show sz + i < 312 by omega)) ca_X2_add km_X2_55 (by decide) ((aa11 19 (by decide)).trans hf14_19) rfl rfl rfl rfl (by decide) (Nat.le_of_ble_eq_true rfl) (by decide) dX2_addPowers_38 (fun vv13 gg14 qq15 => ?_)
        obtain ⟨x_16, rfl, pp17, hh18, hh19, aa20⟩ := qq15
        have AA21 : Agr [19, 20, 21] G gg14 := AA12.tr aa20 (by simp) (by simp)
        refine G_iinc C (v := nI ((i + 1) + 1)) (lo' := [(2, .int (nI ((i + 1) + 1))), (0, .ref (ad 19)), (1, .int (nI d))]) dX2_addPowers_41 rfl (nI_add _ _) (by decide) rfl ?_
        refine G_goto C 14 dX2_addPowers_44 (by decide) ?_
        exact ih (i + 1) _ gg14 hh18 ((aa20 20 (by decide)).trans hh10) hh19 AA21 (by omega) (by omega) (ss_c pp17 (fun b => by rw [cSm, Nat.add_assoc]))
  exact key14 (gpn d + 1) 0 xs gg2 ((aa5 19 (by decide)).trans g19) (hh4.trans (by rw [tab_d _ (by omega), tab_d _ (by omega)]; rfl)) ((aa5 21 (by decide)).trans g21) (AA6.wk (by simp)) (by omega) (Nat.zero_le _) (hs)

theorem ss_59 {f : Nat → Int32} {x1 : Nat → Int64} {j : Nat} (e : j = 59) (h : sSQ x1 (totF f j) (fun b => sumN (fun d => cnR b d (k0 f d)) j)) : sSQ x1 (totF f 59) (fun b => cnS b (k0 f)) := by
  subst e; exact h
abbrev rm_X2_fill : Room := ({ frames := 3, cells := 0, slots := 0, locals := 67 } : Room)
set_option maxRecDepth 100000 in
set_option maxHeartbeats 4000000 in
theorem c_X2_fill {L : GL} {ad : Nat → Nat} {G : Nat → va_E} {s0 l ml : Int32} {f : Nat → Int32} {q1 q2 q3 : Int32} {q4 q5 : Int64} {xs : Nat → Int64}  (g19 : G 19 = .inr (2, [.ref (ad 1), .ref (ad 20), .ref (ad 21), .int s0])) (g20 : G 20 = .inr (1, [.int q1, .int q2, .int q3, .long q4, .long q5])) (g21 : G 21 = .inl (L.ac 1, 312, .inr (.inl xs))) (g22 : G 22 = .inr (5, [.ref (ad 1), .ref (ad 23), .int l, .int ml])) (g23 : G 23 = .inl (L.ac 0, 61, .inl f)) (g1 : G 1 = .inr (4, [.ref (ad 2), .ref (ad 3), .ref (ad 4), .ref (ad 5), .ref (ad 6)])) (g4 : G 4 = .inl (L.ac 0, 61, .inl tUx)) (g5 : G 5 = .inl (L.ac 0, 61, .inl tUy)) (hk : okH f) (hL : okL f l) : GM L yX2_fill cX2_fill 3 (none) rm_X2_fill 40 ad G [.ref (ad 19), .ref (ad 22)] (fun vo G' => ∃ (w1 : Int32) (w2 : Int32) (w3 : Int32) (w4 : Int64) (w5 : Int64) (x2 : Nat → Int64), vo = none ∧ (sSQ x2 (totF f 59) (fun b => cnS b (k0 f))) ∧ G' 19 = .inr (2, [.ref (ad 1), .ref (ad 20), .ref (ad 21), .int (nI (totF f 59))]) ∧ G' 20 = .inr (1, [.int w1, .int w2, .int w3, .long w4, .long w5]) ∧ G' 21 = .inl (L.ac 1, 312, .inr (.inl x2)) ∧ Agr [19, 20, 21] G G') := by
  refine GM.of (own := RX2) (lo := [(0, .ref (ad 19)), (1, .ref (ad 22))]) (by decide +kernel) rfl rfl (Nat.le_of_ble_eq_true rfl) (fun E C hr => ?_)
  refine G_aload_n C 0 dX2_fill_0 rfl rfl ?_
  refine G_iconst C (v := 0) dX2_fill_1 (by decide) ?_
  refine G_putp C 19 (by decide) g19 rfl inA2 tyX2_ok nmX2 3 (by decide) rfl kf_X2_26 rfl rfl rfl (fs' := [.ref (ad 1), .ref (ad 20), .ref (ad 21), .int 0]) (Nat.le_of_ble_eq_true rfl) rfl dX2_fill_2 (fun gg1 hh2 aa3 => ?_)
  have AA4 : Agr [19] G gg1 := aa3.wk (by simp)
  refine G_iconst C (v := 2) dX2_fill_5 (by decide) ?_
  refine G_istore_n C 2 (lo' := [(2, .int 2), (0, .ref (ad 19)), (1, .ref (ad 22))]) dX2_fill_6 rfl (by decide) rfl ?_
  have key7 : ∀ (n : Nat) (j : Nat) (w1 : Int32) (w2 : Int32) (w3 : Int32) (w4 : Int64) (w5 : Int64) (x1 : Nat → Int64) (G1 : Nat → va_E) (hf7_19 : G1 19 = .inr (2, [.ref (ad 1), .ref (ad 20), .ref (ad 21), .int (nI (totF f j))])) (hf7_20 : G1 20 = .inr (1, [.int w1, .int w2, .int w3, .long w4, .long w5])) (hf7_21 : G1 21 = .inl (L.ac 1, 312, .inr (.inl x1))) (ha7 : Agr [19, 20, 21] G G1) (hn : 59 - j < n) (hj : j ≤ 59) (hsi : sSQ x1 (totF f j) (fun b => sumN (fun d => cnR b d (k0 f d)) j)), GW L E 40 ad G1 0 0 7 [(2, .int (nI (j + 2))), (0, .ref (ad 19)), (1, .ref (ad 22))] [] := by
    intro n
    induction n with
    | zero =>
      intro j w1 w2 w3 w4 w5 x1 G1 hf7_19 hf7_20 hf7_21 ha7 hn hj hsi
      exact absurd hn (Nat.not_lt_zero _)
    | succ n ih =>
      intro j w1 w2 w3 w4 w5 x1 G1 hf7_19 hf7_20 hf7_21 ha7 hn hj hsi
      refine G_iload_n C 2 dX2_fill_7 rfl rfl ?_
      refine G_bipush C (v := 60) dX2_fill_8 (by decide) ?_
      refine G_icmp_gt C 32 dX2_fill_10 (by decide) (fun c10 => ?_) (fun c10 => ?_)
      · have c10n : 60 < (j + 2) := (cI_lt (a := 60) (b := (j + 2)) rfl rfl (by omega) (by omega)).mp c10
        exact G_vret C hr dX2_fill_32 ⟨_, _, _, _, _, _, rfl, ss_59 (by omega) hsi, (by rw [hf7_19, show j = 59 by omega]), hf7_20, hf7_21, ha7⟩
      · have c10n : ¬ 60 < (j + 2) := fun z => c10 ((cI_lt (a := 60) (b := (j + 2)) rfl rfl (by omega) (by omega)).mpr z)
        refine G_aload_n C 1 dX2_fill_13 rfl rfl ?_
        refine G_iload_n C 2 dX2_fill_14 rfl rfl ?_
        refine G_callV C (As := [.int (nI (j + 2))]) (rest := []) (c_X5_has (by decide) (by decide) ((ha7 22 (by decide)).trans g22) ((ha7 23 (by decide)).trans g23)) ca_X5_has km_X2_30 (by decide) ((ha7 22 (by decide)).trans g22) rfl rfl rfl rfl (by decide) (Nat.le_of_ble_eq_true rfl) (by decide) dX2_fill_15 (fun vv5 gg6 qq7 => ?_)
        obtain ⟨rfl, rfl⟩ := qq7
        refine G_if_eq C 26 dX2_fill_18 (by decide) (fun c18 => ?_) (fun c18 => ?_)
        · refine G_iinc C (v := nI ((j + 2) + 1)) (lo' := [(2, .int (nI ((j + 2) + 1))), (0, .ref (ad 19)), (1, .ref (ad 22))]) dX2_fill_26 rfl (nI_add _ _) (by decide) rfl ?_
          refine G_goto C 7 dX2_fill_29 (by decide) ?_
          exact ih (j + 1) _ _ _ _ _ _ G1 (hf7_19.trans (by rw [show totF f (j + 1) = totF f j by rw [totF, if_pos ((has_lt hk (by omega) (by omega)).mp c18)]; rfl])) hf7_20 hf7_21 ha7 (by omega) (by omega) ((show totF f j = totF f (j + 1) by rw [totF, if_pos ((has_lt hk (by omega) (by omega)).mp c18)]; rfl) ▸ ss_c hsi (fun b => by rw [sumN, k0, if_pos ((has_lt hk (by omega) (by omega)).mp c18), cnR, if_pos rfl]; rfl))
        · have hf : ¬ f (j + 2) < 0 := fun z => c18 ((has_lt hk (by omega) (by omega)).mpr z)
          have hpj := okK_0 hk (j + 2) (by omega) (by omega) (by rw [k0, if_neg hf]; exact Nat.one_ne_zero)
          refine G_aload_n C 0 dX2_fill_21 rfl rfl ?_
          refine G_iload_n C 2 dX2_fill_22 rfl rfl ?_
          refine G_callV C (As := [.int (nI (j + 2))]) (rest := []) (c_X2_addPowers hf7_19 hf7_20 hf7_21 ((ha7 1 (by decide)).trans g1) ((ha7 4 (by decide)).trans g4) ((ha7 5 (by decide)).trans g5) (show j + 2 ≤ 60 by omega) hpj.1 hsi (tot_312 hL (by omega) hf)) ca_X2_addPowers km_X2_36 (by decide) hf7_19 rfl rfl rfl rfl (by decide) (Nat.le_of_ble_eq_true rfl) (by decide) dX2_fill_23 (fun vv8 gg9 qq10 => ?_)
          obtain ⟨x_11, rfl, pp12, hh13, hh14, hh15, aa16⟩ := qq10
          have AA17 : Agr [19, 20, 21] G gg9 := ha7.tr aa16 (by simp) (by simp)
          refine G_iinc C (v := nI ((j + 2) + 1)) (lo' := [(2, .int (nI ((j + 2) + 1))), (0, .ref (ad 19)), (1, .ref (ad 22))]) dX2_fill_26 rfl (nI_add _ _) (by decide) rfl ?_
          refine G_goto C 7 dX2_fill_29 (by decide) ?_
          exact ih (j + 1) _ _ _ _ _ _ gg9 (hh13.trans (by rw [show totF f (j + 1) = totF f j + gpn (j + 2) by rw [totF, if_neg hf]])) hh14 hh15 AA17 (by omega) (by omega) ((show totF f j + gpn (j + 2) = totF f (j + 1) by rw [totF, if_neg hf]) ▸ ss_c pp12 (fun b => by rw [sumN, k0, if_neg hf, cnR, if_neg Nat.one_ne_zero]; rfl))
  exact key7 60 0 _ _ _ _ _ _ gg1 hh2 ((aa3 20 (by decide)).trans g20) ((aa3 21 (by decide)).trans g21) (AA4.wk (by simp)) (by omega) (Nat.zero_le _) (ss_0 _)

abbrev rm_X2_x : Room := ({ frames := 0, cells := 0, slots := 0, locals := 0 } : Room)
set_option maxRecDepth 100000 in
set_option maxHeartbeats 4000000 in
theorem c_X2_x {L : GL} {ad : Nat → Nat} {G : Nat → va_E} {i : Nat} {sz : Nat} {xs : Nat → Int64}  (g19 : G 19 = .inr (2, [.ref (ad 1), .ref (ad 20), .ref (ad 21), .int (nI sz)])) (g21 : G 21 = .inl (L.ac 1, 312, .inr (.inl xs))) (hi : i < sz) (h312 : sz ≤ 312) : GM L yX2_x cX2_x 2 ((some .long)) rm_X2_x 40 ad G [.ref (ad 19), .int (nI i)] (fun vo G' => vo = some (.long (xs i)) ∧ G = G') := by
  refine GM.of (own := RX2) (lo := [(0, .ref (ad 19)), (1, .int (nI i))]) (by decide +kernel) rfl rfl (Nat.le_of_ble_eq_true rfl) (fun E C hr => ?_)
  refine G_iload_n C 1 dX2_x_0 rfl rfl ?_
  refine G_if_lt C 21 dX2_x_1 (by decide) (fun c1 => False.elim (absurd c1 (nI_pos (by omega)))) (fun c1 => ?_)
  have c1n : ¬ i < 0 := fun z => c1 ((cI_lt (a := i) (b := 0) rfl rfl (by omega) (by omega)).mpr z)
  refine G_iload_n C 1 dX2_x_4 rfl rfl ?_
  refine G_aload_n C 0 dX2_x_5 rfl rfl ?_
  refine G_get C 19 (by decide) g19 rfl inA2 3 (by decide) rfl kf_X2_26 rfl dX2_x_6 ?_
  refine G_icmp_ge C 21 dX2_x_9 (by decide) (fun c9 => False.elim (by have := (cI_le (a := sz) (b := i) rfl rfl (by omega) (by omega)).mp c9; omega)) (fun c9 => ?_)
  have c9n : ¬ sz ≤ i := fun z => c9 ((cI_le (a := sz) (b := i) rfl rfl (by omega) (by omega)).mpr z)
  refine G_aload_n C 0 dX2_x_12 rfl rfl ?_
  refine G_get C 19 (by decide) g19 rfl inA2 2 (by decide) rfl kf_X2_18 rfl dX2_x_13 ?_
  refine G_iload_n C 1 dX2_x_16 rfl rfl ?_
  refine G_laldN C 21 (by decide) i g21 rfl (by omega) (by omega) dX2_x_17 ?_
  refine G_goto C 22 dX2_x_18 (by decide) ?_
  exact G_lret C hr dX2_x_22 ⟨rfl, rfl⟩

theorem tot_312b {f : Nat → Int32} {l : Int32} (h : okL f l) : totF f 59 ≤ 312 := by
  obtain ⟨h1, c, h8, hc⟩ := h
  have a := mn_I f 59
  have e : nI (mnN f 59) = nI c := by rw [← a.1, ← h1, hc]
  have e2 := (cI_eq (a := mnN f 59) (b := c) rfl rfl (by omega) (by omega)).mp e
  have b := tot_le f 59 (Nat.le_refl _)
  omega
abbrev rm_X8_xAtBySet : Room := ({ frames := 6, cells := 1, slots := 6, locals := 89 } : Room)
set_option maxRecDepth 100000 in
set_option maxHeartbeats 4000000 in
theorem c_X8_xAtBySet {L : GL} {ad : Nat → Nat} {G : Nat → va_E} {sn s0 : Int32} {l ml : Int32} {f : Nat → Int32} {q1 q2 q3 : Int32} {q4 q5 : Int64} {xs : Nat → Int64} {n : Int32}  (g0 : G 0 = .inr (8, [.ref (ad 1), .ref (ad 8), .ref (ad 9), .ref (ad 19), .ref (ad 22), .ref (ad 24), .ref (ad 26), .ref (ad 28), .ref (ad 38), .int sn])) (g22 : G 22 = .inr (5, [.ref (ad 1), .ref (ad 23), .int l, .int ml])) (g23 : G 23 = .inl (L.ac 0, 61, .inl f)) (g1 : G 1 = .inr (4, [.ref (ad 2), .ref (ad 3), .ref (ad 4), .ref (ad 5), .ref (ad 6)])) (g4 : G 4 = .inl (L.ac 0, 61, .inl tUx)) (g5 : G 5 = .inl (L.ac 0, 61, .inl tUy)) (g19 : G 19 = .inr (2, [.ref (ad 1), .ref (ad 20), .ref (ad 21), .int s0])) (g20 : G 20 = .inr (1, [.int q1, .int q2, .int q3, .long q4, .long q5])) (g21 : G 21 = .inl (L.ac 1, 312, .inr (.inl xs))) (hk : okH f) (hL : okL f l) : GX L yX8_xAtBySet cX8_xAtBySet 2 ((some .long)) rm_X8_xAtBySet 40 ad G [.ref (ad 0), .int n] (fun vo G' => ∃ (c : Nat) (w1 : Int32) (w2 : Int32) (w3 : Int32) (w4 : Int64) (w5 : Int64) (x2 : Nat → Int64), vo = some (.long (xa (kp f c) (lst (kp f c)))) ∧ (n = nI c) ∧ (c < 2147483648) ∧ (lst (kp f c) ≠ 0) ∧ G' 19 = .inr (2, [.ref (ad 1), .ref (ad 20), .ref (ad 21), .int (nI (totF f 59))]) ∧ G' 20 = .inr (1, [.int w1, .int w2, .int w3, .long w4, .long w5]) ∧ G' 21 = .inl (L.ac 1, 312, .inr (.inl x2)) ∧ Agr [19, 20, 21] G G') (fun e G2 => (e = eIAE ∧ n < 0 ∧ G = G2) ∨ (∃ (c : Nat) (w1 : Int32) (w2 : Int32) (w3 : Int32) (w4 : Int64) (w5 : Int64) (x2 : Nat → Int64), e = eNSE ∧ n = nI c ∧ c < 2147483648 ∧ lst (kp f c) = 0 ∧ G2 19 = .inr (2, [.ref (ad 1), .ref (ad 20), .ref (ad 21), .int (nI (totF f 59))]) ∧ G2 20 = .inr (1, [.int w1, .int w2, .int w3, .long w4, .long w5]) ∧ G2 21 = .inl (L.ac 1, 312, .inr (.inl x2)) ∧ Agr [19, 20, 21] G G2)) := by
  refine GX.of (own := RX8) (lo := [(0, .ref (ad 0)), (1, .int n)]) (by decide +kernel) rfl rfl (Nat.le_of_ble_eq_true rfl) (fun E C hr hx => ?_)
  refine G_iload_n C 1 dX8_xAtBySet_0 rfl rfl ?_
  refine G_if_ge C 14 dX8_xAtBySet_1 (by decide) (fun c1 => ?_) (fun c1 => ?_)
  · obtain ⟨c, hc31, hnc⟩ := nI_of (x := n) (Int32.not_lt.mpr c1)
    refine G_aload_n C 0 dX8_xAtBySet_14 rfl rfl ?_
    refine G_get C 0 (by decide) g0 rfl inA8 3 (by decide) rfl kf_X8_35 rfl dX8_xAtBySet_15 ?_
    refine G_aload_n C 0 dX8_xAtBySet_18 rfl rfl ?_
    refine G_get C 0 (by decide) g0 rfl inA8 4 (by decide) rfl kf_X8_42 rfl dX8_xAtBySet_19 ?_
    refine G_callV C (As := [.ref (ad 22)]) (rest := []) (c_X2_fill g19 g20 g21 g22 g23 g1 g4 g5 hk hL) ca_X2_fill km_X8_161 (by decide) g19 rfl rfl rfl rfl (by decide) (Nat.le_of_ble_eq_true rfl) (by decide) dX8_xAtBySet_22 (fun vv1 gg2 qq3 => ?_)
    obtain ⟨w_4, w_5, w_6, w_7, w_8, x_9, rfl, pp10, hh11, hh12, hh13, aa14⟩ := qq3
    have AA15 : Agr [19, 20, 21] G gg2 := aa14.wk (by simp)
    have h312 := tot_312b (l := l) hL
    refine G_iload_n C 1 dX8_xAtBySet_25 rfl rfl ?_
    refine GW.topr (y := nI c) hnc ?_
    refine G_aload_n C 0 dX8_xAtBySet_26 rfl rfl ?_
    refine G_get C 0 (by decide) ((aa14 0 (by decide)).trans g0) rfl inA8 3 (by decide) rfl kf_X8_35 rfl dX8_xAtBySet_27 ?_
    refine G_get C 19 (by decide) hh11 rfl inA2 3 (by decide) rfl kf_X8_165 rfl dX8_xAtBySet_30 ?_
    refine G_icmp_lt C 46 dX8_xAtBySet_33 (by decide) (fun c33 => ?_) (fun c33 => ?_)
    · have c33n : c < (totF f 59) := (cI_lt (a := c) (b := (totF f 59)) rfl rfl (by omega) (by omega)).mp c33
      refine G_aload_n C 0 dX8_xAtBySet_46 rfl rfl ?_
      refine G_get C 0 (by decide) ((aa14 0 (by decide)).trans g0) rfl inA8 3 (by decide) rfl kf_X8_35 rfl dX8_xAtBySet_47 ?_
      refine G_iload_n C 1 dX8_xAtBySet_50 rfl rfl ?_
      refine GW.topr (y := nI c) hnc ?_
      have hcl : c < totF f 59 := (cI_lt (a := c) (b := totF f 59) rfl rfl (by omega) (by omega)).mp c33
      refine G_callV C (As := [.int (nI c)]) (rest := []) (c_X2_x hh11 hh13 hcl h312) ca_X2_x km_X8_170 (by decide) hh11 rfl rfl rfl rfl (by decide) (Nat.le_of_ble_eq_true rfl) (by decide) dX8_xAtBySet_51 (fun vv16 gg17 qq18 => ?_)
      obtain ⟨rfl, rfl⟩ := qq18
      refine GW.widen (c1 := 1) (s1 := 6) (by decide) (by decide) ?_
      exact G_lret C hr dX8_xAtBySet_54 ⟨c, w_4, w_5, w_6, w_7, w_8, x_9, (by rw [(ss_end hk pp10 hcl).2]), hnc, hc31, (ss_end hk pp10 hcl).1, hh11, hh12, hh13, AA15⟩
    · have c33n : ¬ c < (totF f 59) := fun z => c33 ((cI_lt (a := c) (b := (totF f 59)) rfl rfl (by omega) (by omega)).mpr z)
      exact G_throwX C hx th_NSE (text := "there are not so many solutions") (by decide) dX8_xAtBySet_36 dX8_xAtBySet_39 dX8_xAtBySet_40 dX8_xAtBySet_42 dX8_xAtBySet_45 (by decide) (by decide) (by decide) (by decide) (Or.inr ⟨c, w_4, w_5, w_6, w_7, w_8, x_9, rfl, hnc, hc31, ss_out hk (by have := fun z => c33 ((cI_lt (a := c) (b := totF f 59) rfl rfl (by omega) (by omega)).mpr z); omega), hh11, hh12, hh13, AA15⟩)
  · exact G_throw C hx th_IAE (text := "the place is below 0") (by decide) dX8_xAtBySet_4 dX8_xAtBySet_7 dX8_xAtBySet_8 dX8_xAtBySet_10 dX8_xAtBySet_13 (by decide) (by decide) (by decide) (by decide) (Or.inl ⟨rfl, Int32.not_le.mp c1, rfl⟩)

