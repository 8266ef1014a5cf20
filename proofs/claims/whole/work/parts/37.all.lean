theorem nI_d0 {p : Nat} : nI p - nI p = 0 := Int32.sub_self _
theorem nI_d1 {p : Nat} : nI (p + 1) - nI p = 1 := by rw [show nI (p + 1) = nI p + 1 from (nI_add p 1).symm]; grind
theorem nI_d2 {p : Nat} : nI (p + 1 + 1) - nI p = 1 + 1 := by rw [show nI (p + 1 + 1) = nI p + 2 from (nI_add p 2).symm]; grind
theorem nI_d3 {p : Nat} : nI (p + 1 + 1 + 1) - nI p = 1 + 2 := by rw [show nI (p + 1 + 1 + 1) = nI p + 3 from (nI_add p 3).symm]; grind
theorem hM_lt {tm : Nat → Int32} {n p : Nat} (h : ¬ hM tm n p = 0) : p < n := Classical.byContradiction fun z => h (if_neg z)
abbrev rm_X9_doesAll : Room := ({ frames := 7, cells := 0, slots := 0, locals := 150 } : Room)
set_option maxRecDepth 100000 in
set_option maxHeartbeats 4000000 in
theorem c_X9_doesAll {L : GL} {ad : Nat → Nat} {G : Nat → va_E} {len : Nat} {l : Int32} {tx tm : Nat → Int32} {ik kn th m q te us sp bg fo le fi re ca : Int32} {fx fy nx ny ux uy px py : Int64} {ml : Int32} {f : Nat → Int32}  (g40 : G 40 = .inr (9, [.ref (ad 41), .ref (ad 42), .ref (ad 43), .int ik, .ref (ad 44), .int kn, .ref (ad 45), .int (nI len), .int th, .int m, .int q, .int te, .long fx, .long fy, .long nx, .long ny, .long ux, .long uy, .int us, .long px, .long py, .ref (ad 46), .ref (ad 47), .int sp, .int bg, .int fo, .int le, .int fi, .int re, .int ca])) (g41 : G 41 = .inl (L.ac 0, 60, .inl (sv f ml))) (g45 : G 45 = .inl (L.ac 0, 60, .inl tm)) (hn6 : len ≤ 60) (hk0 : okH f) (hL0 : okL f l) (he : ∀ j, j < len → tx j = tm j) : GM L yX9_doesAll cX9_doesAll 3 ((some .int)) rm_X9_doesAll 50 ad G [.ref (ad 40)] (fun vo G' => ∃ (j1 : Int32) (j2 : Int32) (j3 : Int32) (j4 : Int64) (j5 : Int64) (j6 : Int64) (j7 : Int64) (u1 : Int64) (u2 : Int64) (u3 : Int32) (p1 : Int64) (p2 : Int64) (k1 : Int32) (k2 : Int32) (k3 : Int32) (k4 : Int32) (k5 : Int32) (k6 : Int32), vo = some (.int ((fRun tx len 60 (0, 0, 0, 0, f, l, ml)).1)) ∧ (¬ (fRun tx len 60 (0, 0, 0, 0, f, l, ml)).2.2.1 = 0 → k2 = nI (fRun tx len 60 (0, 0, 0, 0, f, l, ml)).2.1 ∧ k6 = (fRun tx len 60 (0, 0, 0, 0, f, l, ml)).2.2.2.1) ∧ G' 40 = .inr (9, [.ref (ad 41), .ref (ad 42), .ref (ad 43), .int ik, .ref (ad 44), .int kn, .ref (ad 45), .int (nI len), .int th, .int j1, .int j2, .int j3, .long j4, .long j5, .long j6, .long j7, .long u1, .long u2, .int u3, .long p1, .long p2, .ref (ad 46), .ref (ad 47), .int k1, .int k2, .int k3, .int k4, .int k5, .int ((fRun tx len 60 (0, 0, 0, 0, f, l, ml)).2.2.1), .int k6]) ∧ G' 41 = .inl (L.ac 0, 60, .inl (sv (fRun tx len 60 (0, 0, 0, 0, f, l, ml)).2.2.2.2.1 (fRun tx len 60 (0, 0, 0, 0, f, l, ml)).2.2.2.2.2.2)) ∧ Agr [40, 41] G G') := by
  refine GM.of (own := RX9) (lo := [(0, .ref (ad 40))]) (by decide +kernel) rfl rfl (Nat.le_of_ble_eq_true rfl) (fun E C hr => ?_)
  refine G_iconst C (v := 0) dX9_doesAll_0 (by decide) ?_
  refine G_istore_n C 1 (lo' := [(1, .int 0), (0, .ref (ad 40))]) dX9_doesAll_1 rfl (by decide) rfl ?_
  refine G_aload_n C 0 dX9_doesAll_2 rfl rfl ?_
  refine G_iconst C (v := 0) dX9_doesAll_3 (by decide) ?_
  refine G_putp C 40 (by decide) g40 rfl inA9 tyX9_ok nmX9 28 (by decide) rfl kf_X9_228 rfl rfl rfl (fs' := [.ref (ad 41), .ref (ad 42), .ref (ad 43), .int ik, .ref (ad 44), .int kn, .ref (ad 45), .int (nI len), .int th, .int m, .int q, .int te, .long fx, .long fy, .long nx, .long ny, .long ux, .long uy, .int us, .long px, .long py, .ref (ad 46), .ref (ad 47), .int sp, .int bg, .int fo, .int le, .int fi, .int 0, .int ca]) (Nat.le_of_ble_eq_true rfl) rfl dX9_doesAll_4 (fun gg1 hh2 aa3 => ?_)
  have AA4 : Agr [40] G gg1 := aa3.wk (by simp)
  refine G_aload_n C 0 dX9_doesAll_7 rfl rfl ?_
  refine G_iconst C (v := 0) dX9_doesAll_8 (by decide) ?_
  refine G_putp C 40 (by decide) hh2 rfl inA9 tyX9_ok nmX9 23 (by decide) rfl kf_X9_203 rfl rfl rfl (fs' := [.ref (ad 41), .ref (ad 42), .ref (ad 43), .int ik, .ref (ad 44), .int kn, .ref (ad 45), .int (nI len), .int th, .int m, .int q, .int te, .long fx, .long fy, .long nx, .long ny, .long ux, .long uy, .int us, .long px, .long py, .ref (ad 46), .ref (ad 47), .int 0, .int bg, .int fo, .int le, .int fi, .int 0, .int ca]) (Nat.le_of_ble_eq_true rfl) rfl dX9_doesAll_9 (fun gg5 hh6 aa7 => ?_)
  have AA8 : Agr [40] G gg5 := AA4.tr aa7 (by simp) (by simp)
  have key12 : ∀ (n : Nat) (i : Nat) (s : FS) (j1 : Int32) (j2 : Int32) (j3 : Int32) (j4 : Int64) (j5 : Int64) (j6 : Int64) (j7 : Int64) (u1 : Int64) (u2 : Int64) (u3 : Int32) (p1 : Int64) (p2 : Int64) (k1 k2 k3 k4 k5 : Int32) (G1 : Nat → va_E) (hf12_40 : G1 40 = .inr (9, [.ref (ad 41), .ref (ad 42), .ref (ad 43), .int ik, .ref (ad 44), .int kn, .ref (ad 45), .int (nI len), .int th, .int j1, .int j2, .int j3, .long j4, .long j5, .long j6, .long j7, .long u1, .long u2, .int u3, .long p1, .long p2, .ref (ad 46), .ref (ad 47), .int (nI s.2.1), .int k1, .int k2, .int k3, .int k4, .int 0, .int k5])) (hf12_41 : G1 41 = .inl (L.ac 0, 60, .inl (sv s.2.2.2.2.1 s.2.2.2.2.2.2))) (ha12 : Agr [40, 41] G G1) (hn : 60 - i < n) (h3 : 3 * i ≤ s.2.1) (h60 : s.2.1 ≤ 60) (hs : fRun tx len 60 (0, 0, 0, 0, f, l, ml) = fRun tx len (60 - i) s) (hre : s.2.2.1 = 0) (hk : okH s.2.2.2.2.1) (hL : okL s.2.2.2.2.1 s.2.2.2.2.2.1), GW L E 50 ad G1 0 0 12 [(1, .int s.1), (0, .ref (ad 40))] [] := by
    intro n
    induction n with
    | zero =>
      intro i s j1 j2 j3 j4 j5 j6 j7 u1 u2 u3 p1 p2 k1 k2 k3 k4 k5 G1 hf12_40 hf12_41 ha12 hn h3 h60 hs hre hk hL
      exact absurd hn (Nat.not_lt_zero _)
    | succ n ih =>
      intro i s j1 j2 j3 j4 j5 j6 j7 u1 u2 u3 p1 p2 k1 k2 k3 k4 k5 G1 hf12_40 hf12_41 ha12 hn h3 h60 hs hre hk hL
      have hL9 := hL
      obtain ⟨hLa, cL, hL8, hLc⟩ := hL9
      refine G_aload_n C 0 dX9_doesAll_12 rfl rfl ?_
      refine G_get C 40 (by decide) hf12_40 rfl inA9 28 (by decide) rfl kf_X9_228 rfl dX9_doesAll_13 ?_
      refine G_if_ne C 120 dX9_doesAll_16 (by decide) (fun h => absurd h (by decide)) (fun _ => ?_)
      refine G_aload_n C 0 dX9_doesAll_19 rfl rfl ?_
      refine G_get C 40 (by decide) hf12_40 rfl inA9 23 (by decide) rfl kf_X9_203 rfl dX9_doesAll_20 ?_
      refine G_aload_n C 0 dX9_doesAll_23 rfl rfl ?_
      refine G_get C 40 (by decide) hf12_40 rfl inA9 7 (by decide) rfl kf_X9_200 rfl dX9_doesAll_24 ?_
      refine G_icmp_ge C 120 dX9_doesAll_27 (by decide) (fun c27 => ?_) (fun c27 => ?_)
      · have c27n : len ≤ s.2.1 := (cI_le (a := len) (b := s.2.1) rfl rfl (by omega) (by omega)).mp c27
        refine G_iload_n C 1 dX9_doesAll_120 rfl rfl ?_
        exact G_zret C hr rfl dX9_doesAll_121 ⟨_, _, _, _, _, _, _, _, _, _, _, _, _, _, _, _, _, _, (by rw [hs, fRun_stop (fun z => absurd z.1 (by omega))]), by rw [hs, fRun_stop (fun z => absurd z.1 (by omega))]; exact fun z => absurd hre z, (by rw [hf12_40, hs, fRun_stop (fun z => absurd z.1 (by omega)), hre]), (by rw [hf12_41, hs, fRun_stop (fun z => absurd z.1 (by omega))]), ha12⟩
      · have c27n : ¬ len ≤ s.2.1 := fun z => c27 ((cI_le (a := len) (b := s.2.1) rfl rfl (by omega) (by omega)).mpr z)
        refine G_aload_n C 0 dX9_doesAll_30 rfl rfl ?_
        by_cases hio : ioF (hM tm len s.2.1) = 0
        · refine G_callV C (As := []) (rest := []) (c_X9_to0 hf12_40 ((ha12 45 (by decide)).trans g45) hn6 (show s.2.1 ≤ 60 by omega) hio) ca_X9_takesOrder km_X9_230 (by decide) hf12_40 rfl rfl rfl rfl (by decide) (Nat.le_of_ble_eq_true rfl) (by decide) dX9_doesAll_31 (fun vv9 gg10 qq11 => ?_)
          obtain ⟨rfl, hh12, aa13⟩ := qq11
          have AA14 : Agr [40, 41] G gg10 := ha12.tr aa13 (by simp) (by simp)
          refine G_aload_n C 0 dX9_doesAll_34 rfl rfl ?_
          refine G_get C 40 (by decide) hh12 rfl inA9 25 (by decide) rfl kf_X9_206 rfl dX9_doesAll_35 ?_
          refine G_if_eq C 48 dX9_doesAll_38 (by decide) (fun _ => ?_) (fun h => absurd h (by decide))
          refine G_iconst C (v := 0) dX9_doesAll_48 (by decide) ?_
          refine G_istore_n C 2 (lo' := [(2, .int 0), (1, .int s.1), (0, .ref (ad 40))]) dX9_doesAll_49 rfl (by decide) rfl ?_
          refine G_aload_n C 0 dX9_doesAll_50 rfl rfl ?_
          refine G_get C 40 (by decide) hh12 rfl inA9 25 (by decide) rfl kf_X9_206 rfl dX9_doesAll_51 ?_
          refine G_if_eq C 61 dX9_doesAll_54 (by decide) (fun _ => ?_) (fun h => absurd h (by decide))
          refine G_aload_n C 0 dX9_doesAll_61 rfl rfl ?_
          refine G_aload_n C 0 dX9_doesAll_62 rfl rfl ?_
          refine G_get C 40 (by decide) hh12 rfl inA9 25 (by decide) rfl kf_X9_206 rfl dX9_doesAll_63 ?_
          refine G_if_eq C 73 dX9_doesAll_66 (by decide) (fun _ => ?_) (fun h => absurd h (by decide))
          refine G_iconst C (v := 1) dX9_doesAll_73 (by decide) ?_
          refine G_putp C 40 (by decide) hh12 rfl inA9 tyX9_ok nmX9 28 (by decide) rfl kf_X9_228 rfl rfl rfl (fs' := [.ref (ad 41), .ref (ad 42), .ref (ad 43), .int ik, .ref (ad 44), .int kn, .ref (ad 45), .int (nI len), .int th, .int j1, .int j2, .int j3, .long j4, .long j5, .long j6, .long j7, .long u1, .long u2, .int u3, .long p1, .long p2, .ref (ad 46), .ref (ad 47), .int (nI s.2.1), .int (nI s.2.1), .int 0, .int (hM tm len s.2.1), .int 0, .int 1, .int k5]) (Nat.le_of_ble_eq_true rfl) rfl dX9_doesAll_74 (fun gg15 hh16 aa17 => ?_)
          have AA18 : Agr [40, 41] G gg15 := AA14.tr aa17 (by simp) (by simp)
          refine G_aload_n C 0 dX9_doesAll_77 rfl rfl ?_
          refine G_aload_n C 0 dX9_doesAll_78 rfl rfl ?_
          refine G_get C 40 (by decide) hh16 rfl inA9 25 (by decide) rfl kf_X9_206 rfl dX9_doesAll_79 ?_
          refine G_if_ne C 97 dX9_doesAll_82 (by decide) (fun h => absurd h (by decide)) (fun _ => ?_)
          refine G_aload_n C 0 dX9_doesAll_85 rfl rfl ?_
          refine G_get C 40 (by decide) hh16 rfl inA9 23 (by decide) rfl kf_X9_203 rfl dX9_doesAll_86 ?_
          refine G_aload_n C 0 dX9_doesAll_89 rfl rfl ?_
          refine G_get C 40 (by decide) hh16 rfl inA9 24 (by decide) rfl kf_X9_212 rfl dX9_doesAll_90 ?_
          refine G_isub C dX9_doesAll_93 ?_
          refine GW.topr (y := 0) nI_d0 ?_
          refine G_goto C 108 dX9_doesAll_94 (by decide) ?_
          refine G_putp C 40 (by decide) hh16 rfl inA9 tyX9_ok nmX9 29 (by decide) rfl kf_X9_236 rfl rfl rfl (fs' := [.ref (ad 41), .ref (ad 42), .ref (ad 43), .int ik, .ref (ad 44), .int kn, .ref (ad 45), .int (nI len), .int th, .int j1, .int j2, .int j3, .long j4, .long j5, .long j6, .long j7, .long u1, .long u2, .int u3, .long p1, .long p2, .ref (ad 46), .ref (ad 47), .int (nI s.2.1), .int (nI s.2.1), .int 0, .int (hM tm len s.2.1), .int 0, .int 1, .int 0]) (Nat.le_of_ble_eq_true rfl) rfl dX9_doesAll_108 (fun gg19 hh20 aa21 => ?_)
          have AA22 : Agr [40, 41] G gg19 := AA18.tr aa21 (by simp) (by simp)
          have hR : fRun tx len 60 (0, 0, 0, 0, f, l, ml) = (s.1, s.2.1, 1, 0, s.2.2.2.2) := by rw [hs, show 60 - i = (59 - i) + 1 by omega, fRun_step (by omega) hre, rd_0 hn6 (by omega) he hio, fRun_stop (fun z => absurd z.2 (show ¬ (1 : Int32) = 0 by decide))]
          refine G_goto C 117 dX9_doesAll_111 (by decide) ?_
          refine G_goto C 12 dX9_doesAll_117 (by decide) ?_
          refine G_aload_n C 0 dX9_doesAll_12 rfl rfl ?_
          refine G_get C 40 (by decide) hh20 rfl inA9 28 (by decide) rfl kf_X9_228 rfl dX9_doesAll_13 ?_
          refine G_if_ne C 120 dX9_doesAll_16 (by decide) (fun _ => ?_) (fun h => absurd h (by decide))
          refine G_iload_n C 1 dX9_doesAll_120 rfl rfl ?_
          exact G_zret C hr rfl dX9_doesAll_121 ⟨_, _, _, _, _, _, _, _, _, _, _, _, _, _, _, _, _, _, (by rw [hR]), by rw [hR]; exact fun _ => ⟨rfl, rfl⟩, (by rw [hh20, hR]), (by rw [((aa21 41 (by decide)).trans ((aa17 41 (by decide)).trans ((aa13 41 (by decide)).trans hf12_41))), hR]), AA22⟩
        · by_cases hd0 : dgF (hM tm len (s.2.1 + 1)) = 0
          · refine G_callV C (As := []) (rest := []) (c_X9_to10 hf12_40 ((ha12 45 (by decide)).trans g45) hn6 (show s.2.1 < 60 by omega) hio hd0) ca_X9_takesOrder km_X9_230 (by decide) hf12_40 rfl rfl rfl rfl (by decide) (Nat.le_of_ble_eq_true rfl) (by decide) dX9_doesAll_31 (fun vv24 gg25 qq26 => ?_)
            obtain ⟨rfl, hh27, aa28⟩ := qq26
            have AA29 : Agr [40, 41] G gg25 := ha12.tr aa28 (by simp) (by simp)
            refine G_aload_n C 0 dX9_doesAll_34 rfl rfl ?_
            refine G_get C 40 (by decide) hh27 rfl inA9 25 (by decide) rfl kf_X9_206 rfl dX9_doesAll_35 ?_
            refine G_if_eq C 48 dX9_doesAll_38 (by decide) (fun _ => ?_) (fun h => absurd h (by decide))
            refine G_iconst C (v := 0) dX9_doesAll_48 (by decide) ?_
            refine G_istore_n C 2 (lo' := [(2, .int 0), (1, .int s.1), (0, .ref (ad 40))]) dX9_doesAll_49 rfl (by decide) rfl ?_
            refine G_aload_n C 0 dX9_doesAll_50 rfl rfl ?_
            refine G_get C 40 (by decide) hh27 rfl inA9 25 (by decide) rfl kf_X9_206 rfl dX9_doesAll_51 ?_
            refine G_if_eq C 61 dX9_doesAll_54 (by decide) (fun _ => ?_) (fun h => absurd h (by decide))
            refine G_aload_n C 0 dX9_doesAll_61 rfl rfl ?_
            refine G_aload_n C 0 dX9_doesAll_62 rfl rfl ?_
            refine G_get C 40 (by decide) hh27 rfl inA9 25 (by decide) rfl kf_X9_206 rfl dX9_doesAll_63 ?_
            refine G_if_eq C 73 dX9_doesAll_66 (by decide) (fun _ => ?_) (fun h => absurd h (by decide))
            refine G_iconst C (v := 1) dX9_doesAll_73 (by decide) ?_
            refine G_putp C 40 (by decide) hh27 rfl inA9 tyX9_ok nmX9 28 (by decide) rfl kf_X9_228 rfl rfl rfl (fs' := [.ref (ad 41), .ref (ad 42), .ref (ad 43), .int ik, .ref (ad 44), .int kn, .ref (ad 45), .int (nI len), .int th, .int j1, .int j2, .int j3, .long j4, .long j5, .long j6, .long j7, .long u1, .long u2, .int u3, .long p1, .long p2, .ref (ad 46), .ref (ad 47), .int (nI (s.2.1 + 1)), .int (nI s.2.1), .int 0, .int (hM tm len s.2.1), .int 0, .int 1, .int k5]) (Nat.le_of_ble_eq_true rfl) rfl dX9_doesAll_74 (fun gg30 hh31 aa32 => ?_)
            have AA33 : Agr [40, 41] G gg30 := AA29.tr aa32 (by simp) (by simp)
            refine G_aload_n C 0 dX9_doesAll_77 rfl rfl ?_
            refine G_aload_n C 0 dX9_doesAll_78 rfl rfl ?_
            refine G_get C 40 (by decide) hh31 rfl inA9 25 (by decide) rfl kf_X9_206 rfl dX9_doesAll_79 ?_
            refine G_if_ne C 97 dX9_doesAll_82 (by decide) (fun h => absurd h (by decide)) (fun _ => ?_)
            refine G_aload_n C 0 dX9_doesAll_85 rfl rfl ?_
            refine G_get C 40 (by decide) hh31 rfl inA9 23 (by decide) rfl kf_X9_203 rfl dX9_doesAll_86 ?_
            refine G_aload_n C 0 dX9_doesAll_89 rfl rfl ?_
            refine G_get C 40 (by decide) hh31 rfl inA9 24 (by decide) rfl kf_X9_212 rfl dX9_doesAll_90 ?_
            refine G_isub C dX9_doesAll_93 ?_
            refine GW.topr (y := 1) nI_d1 ?_
            refine G_goto C 108 dX9_doesAll_94 (by decide) ?_
            refine G_putp C 40 (by decide) hh31 rfl inA9 tyX9_ok nmX9 29 (by decide) rfl kf_X9_236 rfl rfl rfl (fs' := [.ref (ad 41), .ref (ad 42), .ref (ad 43), .int ik, .ref (ad 44), .int kn, .ref (ad 45), .int (nI len), .int th, .int j1, .int j2, .int j3, .long j4, .long j5, .long j6, .long j7, .long u1, .long u2, .int u3, .long p1, .long p2, .ref (ad 46), .ref (ad 47), .int (nI (s.2.1 + 1)), .int (nI s.2.1), .int 0, .int (hM tm len s.2.1), .int 0, .int 1, .int 1]) (Nat.le_of_ble_eq_true rfl) rfl dX9_doesAll_108 (fun gg34 hh35 aa36 => ?_)
            have AA37 : Agr [40, 41] G gg34 := AA33.tr aa36 (by simp) (by simp)
            have hR : fRun tx len 60 (0, 0, 0, 0, f, l, ml) = (s.1, s.2.1, 1, 1, s.2.2.2.2) := by rw [hs, show 60 - i = (59 - i) + 1 by omega, fRun_step (by omega) hre, rd_10 hn6 (by omega) he hio hd0, fRun_stop (fun z => absurd z.2 (show ¬ (1 : Int32) = 0 by decide))]
            refine G_goto C 117 dX9_doesAll_111 (by decide) ?_
            refine G_goto C 12 dX9_doesAll_117 (by decide) ?_
            refine G_aload_n C 0 dX9_doesAll_12 rfl rfl ?_
            refine G_get C 40 (by decide) hh35 rfl inA9 28 (by decide) rfl kf_X9_228 rfl dX9_doesAll_13 ?_
            refine G_if_ne C 120 dX9_doesAll_16 (by decide) (fun _ => ?_) (fun h => absurd h (by decide))
            refine G_iload_n C 1 dX9_doesAll_120 rfl rfl ?_
            exact G_zret C hr rfl dX9_doesAll_121 ⟨_, _, _, _, _, _, _, _, _, _, _, _, _, _, _, _, _, _, (by rw [hR]), by rw [hR]; exact fun _ => ⟨rfl, rfl⟩, (by rw [hh35, hR]), (by rw [((aa36 41 (by decide)).trans ((aa32 41 (by decide)).trans ((aa28 41 (by decide)).trans hf12_41))), hR]), AA37⟩
          · by_cases hd1 : dgF (hM tm len (s.2.1 + 1 + 1)) = 0
            · by_cases hse : hM tm len (s.2.1 + 1 + 1) = 59
              · refine G_callV C (As := []) (rest := []) (c_X9_to11Y hf12_40 ((ha12 45 (by decide)).trans g45) hn6 (show s.2.1 < 60 by omega) hio hd0 hd1 hse) ca_X9_takesOrder km_X9_230 (by decide) hf12_40 rfl rfl rfl rfl (by decide) (Nat.le_of_ble_eq_true rfl) (by decide) dX9_doesAll_31 (fun vv39 gg40 qq41 => ?_)
                obtain ⟨rfl, hh42, aa43⟩ := qq41
                have AA44 : Agr [40, 41] G gg40 := ha12.tr aa43 (by simp) (by simp)
                refine G_aload_n C 0 dX9_doesAll_34 rfl rfl ?_
                refine G_get C 40 (by decide) hh42 rfl inA9 25 (by decide) rfl kf_X9_206 rfl dX9_doesAll_35 ?_
                refine G_if_eq C 48 dX9_doesAll_38 (by decide) (fun h => absurd h (by decide)) (fun _ => ?_)
                refine G_aload_n C 0 dX9_doesAll_41 rfl rfl ?_
                refine G_callV C (As := []) (rest := []) (c_X9_do hh42 ((aa43 41 (by decide)).trans hf12_41) rfl hio hk hL.1 hLc hL8) ca_X9_doesOrder km_X9_233 (by decide) hh42 rfl rfl rfl rfl (by decide) (Nat.le_of_ble_eq_true rfl) (by decide) dX9_doesAll_42 (fun vv45 gg46 qq47 => ?_)
                obtain ⟨t_48, j_49, j_50, j_51, j_52, j_53, j_54, j_55, u_56, u_57, u_58, p_59, p_60, rfl, pp61, hh62, hh63, aa64⟩ := qq47
                have AA65 : Agr [40, 41] G gg46 := AA44.tr aa64 (by simp) (by simp)
                refine G_goto C 49 dX9_doesAll_45 (by decide) ?_
                refine G_istore_n C 2 (lo' := [(2, .int t_48), (1, .int s.1), (0, .ref (ad 40))]) dX9_doesAll_49 rfl (by decide) rfl ?_
                rcases cause_012 s.2.2.2.2.1 s.2.2.2.2.2.1 (hM tm len s.2.1) (0 + hM tm len (s.2.1 + 1) - 48) with hca | hca | hca
                · refine G_aload_n C 0 dX9_doesAll_50 rfl rfl ?_
                  refine G_get C 40 (by decide) hh62 rfl inA9 25 (by decide) rfl kf_X9_206 rfl dX9_doesAll_51 ?_
                  refine G_if_eq C 61 dX9_doesAll_54 (by decide) (fun h => absurd h (by decide)) (fun _ => ?_)
                  refine G_iload_n C 2 dX9_doesAll_57 rfl rfl ?_
                  refine G_if_ge C 114 dX9_doesAll_58 (by decide) (fun c58 => ?_) (fun c58 => False.elim (Int32.not_lt.mpr (pp61.2.2 hca) (Int32.not_le.mp c58)))
                  refine G_iinc C (v := (s.1 + 1)) (lo' := [(1, .int (s.1 + 1)), (2, .int t_48), (0, .ref (ad 40))]) dX9_doesAll_114 rfl rfl (by decide) rfl ?_
                  refine G_goto C 12 dX9_doesAll_117 (by decide) ?_
                  refine GW.pick [0, 2] [(1, .int (s.1 + 1)), (0, .ref (ad 40))] rfl ?_
                  exact ih (i + 1) (s.1 + 1, s.2.1 + 1 + 1 + 1, s.2.2.1, 0, (coF s.2.2.2.2.1 s.2.2.2.2.2.1 s.2.2.2.2.2.2 (hM tm len s.2.1) (0 + hM tm len (s.2.1 + 1) - 48))) _ _ _ _ _ _ _ _ _ _ _ _ _ _ _ _ _ gg46 hh62 (hh63.trans (by rw [dc_y hca])) AA65 (by omega) (by show 3 * (i + 1) ≤ s.2.1 + 1 + 1 + 1; omega) (by show s.2.1 + 1 + 1 + 1 ≤ 60; have := hM_lt (hse ▸ (by decide : ¬ (59 : Int32) = 0)); omega) (hs.trans (by rw [show 60 - i = (60 - (i + 1)) + 1 by omega, fRun_step (by omega) hre, rd_11Y hn6 (by omega) he hio hd0 hd1 hse, orF, ch_h hn6 (by omega) he, if_pos hca, hca])) (hre) (okH_co hk hca) (okL_co hk hL hca)
                · refine GW.loe (lo' := [(2, .int (-11)), (1, .int s.1), (0, .ref (ad 40))]) (by rw [pp61.1 hca]) ?_
                  refine G_aload_n C 0 dX9_doesAll_50 rfl rfl ?_
                  refine G_get C 40 (by decide) hh62 rfl inA9 25 (by decide) rfl kf_X9_206 rfl dX9_doesAll_51 ?_
                  refine G_if_eq C 61 dX9_doesAll_54 (by decide) (fun h => absurd h (by decide)) (fun _ => ?_)
                  refine G_iload_n C 2 dX9_doesAll_57 rfl rfl ?_
                  refine G_if_ge C 114 dX9_doesAll_58 (by decide) (fun h => absurd h (by decide)) (fun _ => ?_)
                  refine G_aload_n C 0 dX9_doesAll_61 rfl rfl ?_
                  refine G_aload_n C 0 dX9_doesAll_62 rfl rfl ?_
                  refine G_get C 40 (by decide) hh62 rfl inA9 25 (by decide) rfl kf_X9_206 rfl dX9_doesAll_63 ?_
                  refine G_if_eq C 73 dX9_doesAll_66 (by decide) (fun h => absurd h (by decide)) (fun _ => ?_)
                  refine G_iconst C (v := 2) dX9_doesAll_69 (by decide) ?_
                  refine G_goto C 74 dX9_doesAll_70 (by decide) ?_
                  refine G_putp C 40 (by decide) hh62 rfl inA9 tyX9_ok nmX9 28 (by decide) rfl kf_X9_228 rfl rfl rfl (fs' := [.ref (ad 41), .ref (ad 42), .ref (ad 43), .int ik, .ref (ad 44), .int kn, .ref (ad 45), .int (nI len), .int th, .int j_49, .int j_50, .int j_51, .long j_52, .long j_53, .long j_54, .long j_55, .long u_56, .long u_57, .int u_58, .long p_59, .long p_60, .ref (ad 46), .ref (ad 47), .int (nI (s.2.1 + 1 + 1 + 1)), .int (nI s.2.1), .int 1, .int (hM tm len s.2.1), .int (0 + hM tm len (s.2.1 + 1) - 48), .int 2, .int k5]) (Nat.le_of_ble_eq_true rfl) rfl dX9_doesAll_74 (fun gg66 hh67 aa68 => ?_)
                  have AA69 : Agr [40, 41] G gg66 := AA65.tr aa68 (by simp) (by simp)
                  refine G_aload_n C 0 dX9_doesAll_77 rfl rfl ?_
                  refine G_aload_n C 0 dX9_doesAll_78 rfl rfl ?_
                  refine G_get C 40 (by decide) hh67 rfl inA9 25 (by decide) rfl kf_X9_206 rfl dX9_doesAll_79 ?_
                  refine G_if_ne C 97 dX9_doesAll_82 (by decide) (fun _ => ?_) (fun h => absurd h (by decide))
                  refine G_iload_n C 2 dX9_doesAll_97 rfl rfl ?_
                  refine G_bipush C (v := (-11)) dX9_doesAll_98 (by decide) ?_
                  refine G_icmp_ne C 107 dX9_doesAll_100 (by decide) (fun h => absurd h (by decide)) (fun _ => ?_)
                  refine G_iconst C (v := 1) dX9_doesAll_103 (by decide) ?_
                  refine G_goto C 108 dX9_doesAll_104 (by decide) ?_
                  refine G_putp C 40 (by decide) hh67 rfl inA9 tyX9_ok nmX9 29 (by decide) rfl kf_X9_236 rfl rfl rfl (fs' := [.ref (ad 41), .ref (ad 42), .ref (ad 43), .int ik, .ref (ad 44), .int kn, .ref (ad 45), .int (nI len), .int th, .int j_49, .int j_50, .int j_51, .long j_52, .long j_53, .long j_54, .long j_55, .long u_56, .long u_57, .int u_58, .long p_59, .long p_60, .ref (ad 46), .ref (ad 47), .int (nI (s.2.1 + 1 + 1 + 1)), .int (nI s.2.1), .int 1, .int (hM tm len s.2.1), .int (0 + hM tm len (s.2.1 + 1) - 48), .int 2, .int 1]) (Nat.le_of_ble_eq_true rfl) rfl dX9_doesAll_108 (fun gg70 hh71 aa72 => ?_)
                  have AA73 : Agr [40, 41] G gg70 := AA69.tr aa72 (by simp) (by simp)
                  have hR : fRun tx len 60 (0, 0, 0, 0, f, l, ml) = (s.1, s.2.1, 2, 1, s.2.2.2.2) := by rw [hs, show 60 - i = (59 - i) + 1 by omega, fRun_step (by omega) hre, rd_11Y hn6 (by omega) he hio hd0 hd1 hse, orF, ch_h hn6 (by omega) he, if_neg (by rw [hca]; decide), hca, fRun_stop (fun z => absurd z.2 (show ¬ (2 : Int32) = 0 by decide))]
                  refine G_goto C 117 dX9_doesAll_111 (by decide) ?_
                  refine G_goto C 12 dX9_doesAll_117 (by decide) ?_
                  refine G_aload_n C 0 dX9_doesAll_12 rfl rfl ?_
                  refine G_get C 40 (by decide) hh71 rfl inA9 28 (by decide) rfl kf_X9_228 rfl dX9_doesAll_13 ?_
                  refine G_if_ne C 120 dX9_doesAll_16 (by decide) (fun _ => ?_) (fun h => absurd h (by decide))
                  refine G_iload_n C 1 dX9_doesAll_120 rfl rfl ?_
                  exact G_zret C hr rfl dX9_doesAll_121 ⟨_, _, _, _, _, _, _, _, _, _, _, _, _, _, _, _, _, _, (by rw [hR]), by rw [hR]; exact fun _ => ⟨rfl, rfl⟩, (by rw [hh71, hR]), (by rw [(((aa72 41 (by decide)).trans ((aa68 41 (by decide)).trans hh63)).trans (by rw [dc_n (by rw [hca]; decide)])), hR]), AA73⟩
                · refine GW.loe (lo' := [(2, .int (-12)), (1, .int s.1), (0, .ref (ad 40))]) (by rw [pp61.2.1 hca]) ?_
                  refine G_aload_n C 0 dX9_doesAll_50 rfl rfl ?_
                  refine G_get C 40 (by decide) hh62 rfl inA9 25 (by decide) rfl kf_X9_206 rfl dX9_doesAll_51 ?_
                  refine G_if_eq C 61 dX9_doesAll_54 (by decide) (fun h => absurd h (by decide)) (fun _ => ?_)
                  refine G_iload_n C 2 dX9_doesAll_57 rfl rfl ?_
                  refine G_if_ge C 114 dX9_doesAll_58 (by decide) (fun h => absurd h (by decide)) (fun _ => ?_)
                  refine G_aload_n C 0 dX9_doesAll_61 rfl rfl ?_
                  refine G_aload_n C 0 dX9_doesAll_62 rfl rfl ?_
                  refine G_get C 40 (by decide) hh62 rfl inA9 25 (by decide) rfl kf_X9_206 rfl dX9_doesAll_63 ?_
                  refine G_if_eq C 73 dX9_doesAll_66 (by decide) (fun h => absurd h (by decide)) (fun _ => ?_)
                  refine G_iconst C (v := 2) dX9_doesAll_69 (by decide) ?_
                  refine G_goto C 74 dX9_doesAll_70 (by decide) ?_
                  refine G_putp C 40 (by decide) hh62 rfl inA9 tyX9_ok nmX9 28 (by decide) rfl kf_X9_228 rfl rfl rfl (fs' := [.ref (ad 41), .ref (ad 42), .ref (ad 43), .int ik, .ref (ad 44), .int kn, .ref (ad 45), .int (nI len), .int th, .int j_49, .int j_50, .int j_51, .long j_52, .long j_53, .long j_54, .long j_55, .long u_56, .long u_57, .int u_58, .long p_59, .long p_60, .ref (ad 46), .ref (ad 47), .int (nI (s.2.1 + 1 + 1 + 1)), .int (nI s.2.1), .int 1, .int (hM tm len s.2.1), .int (0 + hM tm len (s.2.1 + 1) - 48), .int 2, .int k5]) (Nat.le_of_ble_eq_true rfl) rfl dX9_doesAll_74 (fun gg75 hh76 aa77 => ?_)
                  have AA78 : Agr [40, 41] G gg75 := AA65.tr aa77 (by simp) (by simp)
                  refine G_aload_n C 0 dX9_doesAll_77 rfl rfl ?_
                  refine G_aload_n C 0 dX9_doesAll_78 rfl rfl ?_
                  refine G_get C 40 (by decide) hh76 rfl inA9 25 (by decide) rfl kf_X9_206 rfl dX9_doesAll_79 ?_
                  refine G_if_ne C 97 dX9_doesAll_82 (by decide) (fun _ => ?_) (fun h => absurd h (by decide))
                  refine G_iload_n C 2 dX9_doesAll_97 rfl rfl ?_
                  refine G_bipush C (v := (-11)) dX9_doesAll_98 (by decide) ?_
                  refine G_icmp_ne C 107 dX9_doesAll_100 (by decide) (fun _ => ?_) (fun h => absurd h (by decide))
                  refine G_iconst C (v := 2) dX9_doesAll_107 (by decide) ?_
                  refine G_putp C 40 (by decide) hh76 rfl inA9 tyX9_ok nmX9 29 (by decide) rfl kf_X9_236 rfl rfl rfl (fs' := [.ref (ad 41), .ref (ad 42), .ref (ad 43), .int ik, .ref (ad 44), .int kn, .ref (ad 45), .int (nI len), .int th, .int j_49, .int j_50, .int j_51, .long j_52, .long j_53, .long j_54, .long j_55, .long u_56, .long u_57, .int u_58, .long p_59, .long p_60, .ref (ad 46), .ref (ad 47), .int (nI (s.2.1 + 1 + 1 + 1)), .int (nI s.2.1), .int 1, .int (hM tm len s.2.1), .int (0 + hM tm len (s.2.1 + 1) - 48), .int 2, .int 2]) (Nat.le_of_ble_eq_true rfl) rfl dX9_doesAll_108 (fun gg79 hh80 aa81 => ?_)
                  have AA82 : Agr [40, 41] G gg79 := AA78.tr aa81 (by simp) (by simp)
                  have hR : fRun tx len 60 (0, 0, 0, 0, f, l, ml) = (s.1, s.2.1, 2, 2, s.2.2.2.2) := by rw [hs, show 60 - i = (59 - i) + 1 by omega, fRun_step (by omega) hre, rd_11Y hn6 (by omega) he hio hd0 hd1 hse, orF, ch_h hn6 (by omega) he, if_neg (by rw [hca]; decide), hca, fRun_stop (fun z => absurd z.2 (show ¬ (2 : Int32) = 0 by decide))]
                  refine G_goto C 117 dX9_doesAll_111 (by decide) ?_
                  refine G_goto C 12 dX9_doesAll_117 (by decide) ?_
                  refine G_aload_n C 0 dX9_doesAll_12 rfl rfl ?_
                  refine G_get C 40 (by decide) hh80 rfl inA9 28 (by decide) rfl kf_X9_228 rfl dX9_doesAll_13 ?_
                  refine G_if_ne C 120 dX9_doesAll_16 (by decide) (fun _ => ?_) (fun h => absurd h (by decide))
                  refine G_iload_n C 1 dX9_doesAll_120 rfl rfl ?_
                  exact G_zret C hr rfl dX9_doesAll_121 ⟨_, _, _, _, _, _, _, _, _, _, _, _, _, _, _, _, _, _, (by rw [hR]), by rw [hR]; exact fun _ => ⟨rfl, rfl⟩, (by rw [hh80, hR]), (by rw [(((aa81 41 (by decide)).trans ((aa77 41 (by decide)).trans hh63)).trans (by rw [dc_n (by rw [hca]; decide)])), hR]), AA82⟩
              · refine G_callV C (As := []) (rest := []) (c_X9_to11N hf12_40 ((ha12 45 (by decide)).trans g45) hn6 (show s.2.1 < 60 by omega) hio hd0 hd1 hse) ca_X9_takesOrder km_X9_230 (by decide) hf12_40 rfl rfl rfl rfl (by decide) (Nat.le_of_ble_eq_true rfl) (by decide) dX9_doesAll_31 (fun vv84 gg85 qq86 => ?_)
                obtain ⟨rfl, hh87, aa88⟩ := qq86
                have AA89 : Agr [40, 41] G gg85 := ha12.tr aa88 (by simp) (by simp)
                refine G_aload_n C 0 dX9_doesAll_34 rfl rfl ?_
                refine G_get C 40 (by decide) hh87 rfl inA9 25 (by decide) rfl kf_X9_206 rfl dX9_doesAll_35 ?_
                refine G_if_eq C 48 dX9_doesAll_38 (by decide) (fun _ => ?_) (fun h => absurd h (by decide))
                refine G_iconst C (v := 0) dX9_doesAll_48 (by decide) ?_
                refine G_istore_n C 2 (lo' := [(2, .int 0), (1, .int s.1), (0, .ref (ad 40))]) dX9_doesAll_49 rfl (by decide) rfl ?_
                refine G_aload_n C 0 dX9_doesAll_50 rfl rfl ?_
                refine G_get C 40 (by decide) hh87 rfl inA9 25 (by decide) rfl kf_X9_206 rfl dX9_doesAll_51 ?_
                refine G_if_eq C 61 dX9_doesAll_54 (by decide) (fun _ => ?_) (fun h => absurd h (by decide))
                refine G_aload_n C 0 dX9_doesAll_61 rfl rfl ?_
                refine G_aload_n C 0 dX9_doesAll_62 rfl rfl ?_
                refine G_get C 40 (by decide) hh87 rfl inA9 25 (by decide) rfl kf_X9_206 rfl dX9_doesAll_63 ?_
                refine G_if_eq C 73 dX9_doesAll_66 (by decide) (fun _ => ?_) (fun h => absurd h (by decide))
                refine G_iconst C (v := 1) dX9_doesAll_73 (by decide) ?_
                refine G_putp C 40 (by decide) hh87 rfl inA9 tyX9_ok nmX9 28 (by decide) rfl kf_X9_228 rfl rfl rfl (fs' := [.ref (ad 41), .ref (ad 42), .ref (ad 43), .int ik, .ref (ad 44), .int kn, .ref (ad 45), .int (nI len), .int th, .int j1, .int j2, .int j3, .long j4, .long j5, .long j6, .long j7, .long u1, .long u2, .int u3, .long p1, .long p2, .ref (ad 46), .ref (ad 47), .int (nI (s.2.1 + 1 + 1)), .int (nI s.2.1), .int 0, .int (hM tm len s.2.1), .int (0 + hM tm len (s.2.1 + 1) - 48), .int 1, .int k5]) (Nat.le_of_ble_eq_true rfl) rfl dX9_doesAll_74 (fun gg90 hh91 aa92 => ?_)
                have AA93 : Agr [40, 41] G gg90 := AA89.tr aa92 (by simp) (by simp)
                refine G_aload_n C 0 dX9_doesAll_77 rfl rfl ?_
                refine G_aload_n C 0 dX9_doesAll_78 rfl rfl ?_
                refine G_get C 40 (by decide) hh91 rfl inA9 25 (by decide) rfl kf_X9_206 rfl dX9_doesAll_79 ?_
                refine G_if_ne C 97 dX9_doesAll_82 (by decide) (fun h => absurd h (by decide)) (fun _ => ?_)
                refine G_aload_n C 0 dX9_doesAll_85 rfl rfl ?_
                refine G_get C 40 (by decide) hh91 rfl inA9 23 (by decide) rfl kf_X9_203 rfl dX9_doesAll_86 ?_
                refine G_aload_n C 0 dX9_doesAll_89 rfl rfl ?_
                refine G_get C 40 (by decide) hh91 rfl inA9 24 (by decide) rfl kf_X9_212 rfl dX9_doesAll_90 ?_
                refine G_isub C dX9_doesAll_93 ?_
                refine GW.topr (y := (1 + 1)) nI_d2 ?_
                refine G_goto C 108 dX9_doesAll_94 (by decide) ?_
                refine G_putp C 40 (by decide) hh91 rfl inA9 tyX9_ok nmX9 29 (by decide) rfl kf_X9_236 rfl rfl rfl (fs' := [.ref (ad 41), .ref (ad 42), .ref (ad 43), .int ik, .ref (ad 44), .int kn, .ref (ad 45), .int (nI len), .int th, .int j1, .int j2, .int j3, .long j4, .long j5, .long j6, .long j7, .long u1, .long u2, .int u3, .long p1, .long p2, .ref (ad 46), .ref (ad 47), .int (nI (s.2.1 + 1 + 1)), .int (nI s.2.1), .int 0, .int (hM tm len s.2.1), .int (0 + hM tm len (s.2.1 + 1) - 48), .int 1, .int (1 + 1)]) (Nat.le_of_ble_eq_true rfl) rfl dX9_doesAll_108 (fun gg94 hh95 aa96 => ?_)
                have AA97 : Agr [40, 41] G gg94 := AA93.tr aa96 (by simp) (by simp)
                have hR : fRun tx len 60 (0, 0, 0, 0, f, l, ml) = (s.1, s.2.1, 1, (1 + 1), s.2.2.2.2) := by rw [hs, show 60 - i = (59 - i) + 1 by omega, fRun_step (by omega) hre, rd_11N hn6 (by omega) he hio hd0 hd1 hse, fRun_stop (fun z => absurd z.2 (show ¬ (1 : Int32) = 0 by decide))]
                refine G_goto C 117 dX9_doesAll_111 (by decide) ?_
                refine G_goto C 12 dX9_doesAll_117 (by decide) ?_
                refine G_aload_n C 0 dX9_doesAll_12 rfl rfl ?_
                refine G_get C 40 (by decide) hh95 rfl inA9 28 (by decide) rfl kf_X9_228 rfl dX9_doesAll_13 ?_
                refine G_if_ne C 120 dX9_doesAll_16 (by decide) (fun _ => ?_) (fun h => absurd h (by decide))
                refine G_iload_n C 1 dX9_doesAll_120 rfl rfl ?_
                exact G_zret C hr rfl dX9_doesAll_121 ⟨_, _, _, _, _, _, _, _, _, _, _, _, _, _, _, _, _, _, (by rw [hR]), by rw [hR]; exact fun _ => ⟨rfl, rfl⟩, (by rw [hh95, hR]), (by rw [((aa96 41 (by decide)).trans ((aa92 41 (by decide)).trans ((aa88 41 (by decide)).trans hf12_41))), hR]), AA97⟩
            · by_cases hse : hM tm len (s.2.1 + 1 + 1 + 1) = 59
              · refine G_callV C (As := []) (rest := []) (c_X9_to12Y hf12_40 ((ha12 45 (by decide)).trans g45) hn6 (show s.2.1 < 60 by omega) hio hd0 hd1 hse) ca_X9_takesOrder km_X9_230 (by decide) hf12_40 rfl rfl rfl rfl (by decide) (Nat.le_of_ble_eq_true rfl) (by decide) dX9_doesAll_31 (fun vv99 gg100 qq101 => ?_)
                obtain ⟨rfl, hh102, aa103⟩ := qq101
                have AA104 : Agr [40, 41] G gg100 := ha12.tr aa103 (by simp) (by simp)
                refine G_aload_n C 0 dX9_doesAll_34 rfl rfl ?_
                refine G_get C 40 (by decide) hh102 rfl inA9 25 (by decide) rfl kf_X9_206 rfl dX9_doesAll_35 ?_
                refine G_if_eq C 48 dX9_doesAll_38 (by decide) (fun h => absurd h (by decide)) (fun _ => ?_)
                refine G_aload_n C 0 dX9_doesAll_41 rfl rfl ?_
                refine G_callV C (As := []) (rest := []) (c_X9_do hh102 ((aa103 41 (by decide)).trans hf12_41) rfl hio hk hL.1 hLc hL8) ca_X9_doesOrder km_X9_233 (by decide) hh102 rfl rfl rfl rfl (by decide) (Nat.le_of_ble_eq_true rfl) (by decide) dX9_doesAll_42 (fun vv105 gg106 qq107 => ?_)
                obtain ⟨t_108, j_109, j_110, j_111, j_112, j_113, j_114, j_115, u_116, u_117, u_118, p_119, p_120, rfl, pp121, hh122, hh123, aa124⟩ := qq107
                have AA125 : Agr [40, 41] G gg106 := AA104.tr aa124 (by simp) (by simp)
                refine G_goto C 49 dX9_doesAll_45 (by decide) ?_
                refine G_istore_n C 2 (lo' := [(2, .int t_108), (1, .int s.1), (0, .ref (ad 40))]) dX9_doesAll_49 rfl (by decide) rfl ?_
                rcases cause_012 s.2.2.2.2.1 s.2.2.2.2.2.1 (hM tm len s.2.1) (10 * (0 + hM tm len (s.2.1 + 1) - 48) + hM tm len (s.2.1 + 1 + 1) - 48) with hca | hca | hca
                · refine G_aload_n C 0 dX9_doesAll_50 rfl rfl ?_
                  refine G_get C 40 (by decide) hh122 rfl inA9 25 (by decide) rfl kf_X9_206 rfl dX9_doesAll_51 ?_
                  refine G_if_eq C 61 dX9_doesAll_54 (by decide) (fun h => absurd h (by decide)) (fun _ => ?_)
                  refine G_iload_n C 2 dX9_doesAll_57 rfl rfl ?_
                  refine G_if_ge C 114 dX9_doesAll_58 (by decide) (fun c58 => ?_) (fun c58 => False.elim (Int32.not_lt.mpr (pp121.2.2 hca) (Int32.not_le.mp c58)))
                  refine G_iinc C (v := (s.1 + 1)) (lo' := [(1, .int (s.1 + 1)), (2, .int t_108), (0, .ref (ad 40))]) dX9_doesAll_114 rfl rfl (by decide) rfl ?_
                  refine G_goto C 12 dX9_doesAll_117 (by decide) ?_
                  refine GW.pick [0, 2] [(1, .int (s.1 + 1)), (0, .ref (ad 40))] rfl ?_
                  exact ih (i + 1) (s.1 + 1, s.2.1 + 1 + 1 + 1 + 1, s.2.2.1, 0, (coF s.2.2.2.2.1 s.2.2.2.2.2.1 s.2.2.2.2.2.2 (hM tm len s.2.1) (10 * (0 + hM tm len (s.2.1 + 1) - 48) + hM tm len (s.2.1 + 1 + 1) - 48))) _ _ _ _ _ _ _ _ _ _ _ _ _ _ _ _ _ gg106 hh122 (hh123.trans (by rw [dc_y hca])) AA125 (by omega) (by show 3 * (i + 1) ≤ s.2.1 + 1 + 1 + 1 + 1; omega) (by show s.2.1 + 1 + 1 + 1 + 1 ≤ 60; have := hM_lt (hse ▸ (by decide : ¬ (59 : Int32) = 0)); omega) (hs.trans (by rw [show 60 - i = (60 - (i + 1)) + 1 by omega, fRun_step (by omega) hre, rd_12Y hn6 (by omega) he hio hd0 hd1 hse, orF, ch_h hn6 (by omega) he, if_pos hca, hca])) (hre) (okH_co hk hca) (okL_co hk hL hca)
                · refine GW.loe (lo' := [(2, .int (-11)), (1, .int s.1), (0, .ref (ad 40))]) (by rw [pp121.1 hca]) ?_
                  refine G_aload_n C 0 dX9_doesAll_50 rfl rfl ?_
                  refine G_get C 40 (by decide) hh122 rfl inA9 25 (by decide) rfl kf_X9_206 rfl dX9_doesAll_51 ?_
                  refine G_if_eq C 61 dX9_doesAll_54 (by decide) (fun h => absurd h (by decide)) (fun _ => ?_)
                  refine G_iload_n C 2 dX9_doesAll_57 rfl rfl ?_
                  refine G_if_ge C 114 dX9_doesAll_58 (by decide) (fun h => absurd h (by decide)) (fun _ => ?_)
                  refine G_aload_n C 0 dX9_doesAll_61 rfl rfl ?_
                  refine G_aload_n C 0 dX9_doesAll_62 rfl rfl ?_
                  refine G_get C 40 (by decide) hh122 rfl inA9 25 (by decide) rfl kf_X9_206 rfl dX9_doesAll_63 ?_
                  refine G_if_eq C 73 dX9_doesAll_66 (by decide) (fun h => absurd h (by decide)) (fun _ => ?_)
                  refine G_iconst C (v := 2) dX9_doesAll_69 (by decide) ?_
                  refine G_goto C 74 dX9_doesAll_70 (by decide) ?_
                  refine G_putp C 40 (by decide) hh122 rfl inA9 tyX9_ok nmX9 28 (by decide) rfl kf_X9_228 rfl rfl rfl (fs' := [.ref (ad 41), .ref (ad 42), .ref (ad 43), .int ik, .ref (ad 44), .int kn, .ref (ad 45), .int (nI len), .int th, .int j_109, .int j_110, .int j_111, .long j_112, .long j_113, .long j_114, .long j_115, .long u_116, .long u_117, .int u_118, .long p_119, .long p_120, .ref (ad 46), .ref (ad 47), .int (nI (s.2.1 + 1 + 1 + 1 + 1)), .int (nI s.2.1), .int 1, .int (hM tm len s.2.1), .int (10 * (0 + hM tm len (s.2.1 + 1) - 48) + hM tm len (s.2.1 + 1 + 1) - 48), .int 2, .int k5]) (Nat.le_of_ble_eq_true rfl) rfl dX9_doesAll_74 (fun gg126 hh127 aa128 => ?_)
                  have AA129 : Agr [40, 41] G gg126 := AA125.tr aa128 (by simp) (by simp)
                  refine G_aload_n C 0 dX9_doesAll_77 rfl rfl ?_
                  refine G_aload_n C 0 dX9_doesAll_78 rfl rfl ?_
                  refine G_get C 40 (by decide) hh127 rfl inA9 25 (by decide) rfl kf_X9_206 rfl dX9_doesAll_79 ?_
                  refine G_if_ne C 97 dX9_doesAll_82 (by decide) (fun _ => ?_) (fun h => absurd h (by decide))
                  refine G_iload_n C 2 dX9_doesAll_97 rfl rfl ?_
                  refine G_bipush C (v := (-11)) dX9_doesAll_98 (by decide) ?_
                  refine G_icmp_ne C 107 dX9_doesAll_100 (by decide) (fun h => absurd h (by decide)) (fun _ => ?_)
                  refine G_iconst C (v := 1) dX9_doesAll_103 (by decide) ?_
                  refine G_goto C 108 dX9_doesAll_104 (by decide) ?_
                  refine G_putp C 40 (by decide) hh127 rfl inA9 tyX9_ok nmX9 29 (by decide) rfl kf_X9_236 rfl rfl rfl (fs' := [.ref (ad 41), .ref (ad 42), .ref (ad 43), .int ik, .ref (ad 44), .int kn, .ref (ad 45), .int (nI len), .int th, .int j_109, .int j_110, .int j_111, .long j_112, .long j_113, .long j_114, .long j_115, .long u_116, .long u_117, .int u_118, .long p_119, .long p_120, .ref (ad 46), .ref (ad 47), .int (nI (s.2.1 + 1 + 1 + 1 + 1)), .int (nI s.2.1), .int 1, .int (hM tm len s.2.1), .int (10 * (0 + hM tm len (s.2.1 + 1) - 48) + hM tm len (s.2.1 + 1 + 1) - 48), .int 2, .int 1]) (Nat.le_of_ble_eq_true rfl) rfl dX9_doesAll_108 (fun gg130 hh131 aa132 => ?_)
                  have AA133 : Agr [40, 41] G gg130 := AA129.tr aa132 (by simp) (by simp)
                  have hR : fRun tx len 60 (0, 0, 0, 0, f, l, ml) = (s.1, s.2.1, 2, 1, s.2.2.2.2) := by rw [hs, show 60 - i = (59 - i) + 1 by omega, fRun_step (by omega) hre, rd_12Y hn6 (by omega) he hio hd0 hd1 hse, orF, ch_h hn6 (by omega) he, if_neg (by rw [hca]; decide), hca, fRun_stop (fun z => absurd z.2 (show ¬ (2 : Int32) = 0 by decide))]
                  refine G_goto C 117 dX9_doesAll_111 (by decide) ?_
                  refine G_goto C 12 dX9_doesAll_117 (by decide) ?_
                  refine G_aload_n C 0 dX9_doesAll_12 rfl rfl ?_
                  refine G_get C 40 (by decide) hh131 rfl inA9 28 (by decide) rfl kf_X9_228 rfl dX9_doesAll_13 ?_
                  refine G_if_ne C 120 dX9_doesAll_16 (by decide) (fun _ => ?_) (fun h => absurd h (by decide))
                  refine G_iload_n C 1 dX9_doesAll_120 rfl rfl ?_
                  exact G_zret C hr rfl dX9_doesAll_121 ⟨_, _, _, _, _, _, _, _, _, _, _, _, _, _, _, _, _, _, (by rw [hR]), by rw [hR]; exact fun _ => ⟨rfl, rfl⟩, (by rw [hh131, hR]), (by rw [(((aa132 41 (by decide)).trans ((aa128 41 (by decide)).trans hh123)).trans (by rw [dc_n (by rw [hca]; decide)])), hR]), AA133⟩
                · refine GW.loe (lo' := [(2, .int (-12)), (1, .int s.1), (0, .ref (ad 40))]) (by rw [pp121.2.1 hca]) ?_
                  refine G_aload_n C 0 dX9_doesAll_50 rfl rfl ?_
                  refine G_get C 40 (by decide) hh122 rfl inA9 25 (by decide) rfl kf_X9_206 rfl dX9_doesAll_51 ?_
                  refine G_if_eq C 61 dX9_doesAll_54 (by decide) (fun h => absurd h (by decide)) (fun _ => ?_)
                  refine G_iload_n C 2 dX9_doesAll_57 rfl rfl ?_
                  refine G_if_ge C 114 dX9_doesAll_58 (by decide) (fun h => absurd h (by decide)) (fun _ => ?_)
                  refine G_aload_n C 0 dX9_doesAll_61 rfl rfl ?_
                  refine G_aload_n C 0 dX9_doesAll_62 rfl rfl ?_
                  refine G_get C 40 (by decide) hh122 rfl inA9 25 (by decide) rfl kf_X9_206 rfl dX9_doesAll_63 ?_
                  refine G_if_eq C 73 dX9_doesAll_66 (by decide) (fun h => absurd h (by decide)) (fun _ => ?_)
                  refine G_iconst C (v := 2) dX9_doesAll_69 (by decide) ?_
                  refine G_goto C 74 dX9_doesAll_70 (by decide) ?_
                  refine G_putp C 40 (by decide) hh122 rfl inA9 tyX9_ok nmX9 28 (by decide) rfl kf_X9_228 rfl rfl rfl (fs' := [.ref (ad 41), .ref (ad 42), .ref (ad 43), .int ik, .ref (ad 44), .int kn, .ref (ad 45), .int (nI len), .int th, .int j_109, .int j_110, .int j_111, .long j_112, .long j_113, .long j_114, .long j_115, .long u_116, .long u_117, .int u_118, .long p_119, .long p_120, .ref (ad 46), .ref (ad 47), .int (nI (s.2.1 + 1 + 1 + 1 + 1)), .int (nI s.2.1), .int 1, .int (hM tm len s.2.1), .int (10 * (0 + hM tm len (s.2.1 + 1) - 48) + hM tm len (s.2.1 + 1 + 1) - 48), .int 2, .int k5]) (Nat.le_of_ble_eq_true rfl) rfl dX9_doesAll_74 (fun gg135 hh136 aa137 => ?_)
                  have AA138 : Agr [40, 41] G gg135 := AA125.tr aa137 (by simp) (by simp)
                  refine G_aload_n C 0 dX9_doesAll_77 rfl rfl ?_
                  refine G_aload_n C 0 dX9_doesAll_78 rfl rfl ?_
                  refine G_get C 40 (by decide) hh136 rfl inA9 25 (by decide) rfl kf_X9_206 rfl dX9_doesAll_79 ?_
                  refine G_if_ne C 97 dX9_doesAll_82 (by decide) (fun _ => ?_) (fun h => absurd h (by decide))
                  refine G_iload_n C 2 dX9_doesAll_97 rfl rfl ?_
                  refine G_bipush C (v := (-11)) dX9_doesAll_98 (by decide) ?_
                  refine G_icmp_ne C 107 dX9_doesAll_100 (by decide) (fun _ => ?_) (fun h => absurd h (by decide))
                  refine G_iconst C (v := 2) dX9_doesAll_107 (by decide) ?_
                  refine G_putp C 40 (by decide) hh136 rfl inA9 tyX9_ok nmX9 29 (by decide) rfl kf_X9_236 rfl rfl rfl (fs' := [.ref (ad 41), .ref (ad 42), .ref (ad 43), .int ik, .ref (ad 44), .int kn, .ref (ad 45), .int (nI len), .int th, .int j_109, .int j_110, .int j_111, .long j_112, .long j_113, .long j_114, .long j_115, .long u_116, .long u_117, .int u_118, .long p_119, .long p_120, .ref (ad 46), .ref (ad 47), .int (nI (s.2.1 + 1 + 1 + 1 + 1)), .int (nI s.2.1), .int 1, .int (hM tm len s.2.1), .int (10 * (0 + hM tm len (s.2.1 + 1) - 48) + hM tm len (s.2.1 + 1 + 1) - 48), .int 2, .int 2]) (Nat.le_of_ble_eq_true rfl) rfl dX9_doesAll_108 (fun gg139 hh140 aa141 => ?_)
                  have AA142 : Agr [40, 41] G gg139 := AA138.tr aa141 (by simp) (by simp)
                  have hR : fRun tx len 60 (0, 0, 0, 0, f, l, ml) = (s.1, s.2.1, 2, 2, s.2.2.2.2) := by rw [hs, show 60 - i = (59 - i) + 1 by omega, fRun_step (by omega) hre, rd_12Y hn6 (by omega) he hio hd0 hd1 hse, orF, ch_h hn6 (by omega) he, if_neg (by rw [hca]; decide), hca, fRun_stop (fun z => absurd z.2 (show ¬ (2 : Int32) = 0 by decide))]
                  refine G_goto C 117 dX9_doesAll_111 (by decide) ?_
                  refine G_goto C 12 dX9_doesAll_117 (by decide) ?_
                  refine G_aload_n C 0 dX9_doesAll_12 rfl rfl ?_
                  refine G_get C 40 (by decide) hh140 rfl inA9 28 (by decide) rfl kf_X9_228 rfl dX9_doesAll_13 ?_
                  refine G_if_ne C 120 dX9_doesAll_16 (by decide) (fun _ => ?_) (fun h => absurd h (by decide))
                  refine G_iload_n C 1 dX9_doesAll_120 rfl rfl ?_
                  exact G_zret C hr rfl dX9_doesAll_121 ⟨_, _, _, _, _, _, _, _, _, _, _, _, _, _, _, _, _, _, (by rw [hR]), by rw [hR]; exact fun _ => ⟨rfl, rfl⟩, (by rw [hh140, hR]), (by rw [(((aa141 41 (by decide)).trans ((aa137 41 (by decide)).trans hh123)).trans (by rw [dc_n (by rw [hca]; decide)])), hR]), AA142⟩
              · refine G_callV C (As := []) (rest := []) (c_X9_to12N hf12_40 ((ha12 45 (by decide)).trans g45) hn6 (show s.2.1 < 60 by omega) hio hd0 hd1 hse) ca_X9_takesOrder km_X9_230 (by decide) hf12_40 rfl rfl rfl rfl (by decide) (Nat.le_of_ble_eq_true rfl) (by decide) dX9_doesAll_31 (fun vv144 gg145 qq146 => ?_)
                obtain ⟨rfl, hh147, aa148⟩ := qq146
                have AA149 : Agr [40, 41] G gg145 := ha12.tr aa148 (by simp) (by simp)
                refine G_aload_n C 0 dX9_doesAll_34 rfl rfl ?_
                refine G_get C 40 (by decide) hh147 rfl inA9 25 (by decide) rfl kf_X9_206 rfl dX9_doesAll_35 ?_
                refine G_if_eq C 48 dX9_doesAll_38 (by decide) (fun _ => ?_) (fun h => absurd h (by decide))
                refine G_iconst C (v := 0) dX9_doesAll_48 (by decide) ?_
                refine G_istore_n C 2 (lo' := [(2, .int 0), (1, .int s.1), (0, .ref (ad 40))]) dX9_doesAll_49 rfl (by decide) rfl ?_
                refine G_aload_n C 0 dX9_doesAll_50 rfl rfl ?_
                refine G_get C 40 (by decide) hh147 rfl inA9 25 (by decide) rfl kf_X9_206 rfl dX9_doesAll_51 ?_
                refine G_if_eq C 61 dX9_doesAll_54 (by decide) (fun _ => ?_) (fun h => absurd h (by decide))
                refine G_aload_n C 0 dX9_doesAll_61 rfl rfl ?_
                refine G_aload_n C 0 dX9_doesAll_62 rfl rfl ?_
                refine G_get C 40 (by decide) hh147 rfl inA9 25 (by decide) rfl kf_X9_206 rfl dX9_doesAll_63 ?_
                refine G_if_eq C 73 dX9_doesAll_66 (by decide) (fun _ => ?_) (fun h => absurd h (by decide))
                refine G_iconst C (v := 1) dX9_doesAll_73 (by decide) ?_
                refine G_putp C 40 (by decide) hh147 rfl inA9 tyX9_ok nmX9 28 (by decide) rfl kf_X9_228 rfl rfl rfl (fs' := [.ref (ad 41), .ref (ad 42), .ref (ad 43), .int ik, .ref (ad 44), .int kn, .ref (ad 45), .int (nI len), .int th, .int j1, .int j2, .int j3, .long j4, .long j5, .long j6, .long j7, .long u1, .long u2, .int u3, .long p1, .long p2, .ref (ad 46), .ref (ad 47), .int (nI (s.2.1 + 1 + 1 + 1)), .int (nI s.2.1), .int 0, .int (hM tm len s.2.1), .int (10 * (0 + hM tm len (s.2.1 + 1) - 48) + hM tm len (s.2.1 + 1 + 1) - 48), .int 1, .int k5]) (Nat.le_of_ble_eq_true rfl) rfl dX9_doesAll_74 (fun gg150 hh151 aa152 => ?_)
                have AA153 : Agr [40, 41] G gg150 := AA149.tr aa152 (by simp) (by simp)
                refine G_aload_n C 0 dX9_doesAll_77 rfl rfl ?_
                refine G_aload_n C 0 dX9_doesAll_78 rfl rfl ?_
                refine G_get C 40 (by decide) hh151 rfl inA9 25 (by decide) rfl kf_X9_206 rfl dX9_doesAll_79 ?_
                refine G_if_ne C 97 dX9_doesAll_82 (by decide) (fun h => absurd h (by decide)) (fun _ => ?_)
                refine G_aload_n C 0 dX9_doesAll_85 rfl rfl ?_
                refine G_get C 40 (by decide) hh151 rfl inA9 23 (by decide) rfl kf_X9_203 rfl dX9_doesAll_86 ?_
                refine G_aload_n C 0 dX9_doesAll_89 rfl rfl ?_
                refine G_get C 40 (by decide) hh151 rfl inA9 24 (by decide) rfl kf_X9_212 rfl dX9_doesAll_90 ?_
                refine G_isub C dX9_doesAll_93 ?_
                refine GW.topr (y := (1 + 2)) nI_d3 ?_
                refine G_goto C 108 dX9_doesAll_94 (by decide) ?_
                refine G_putp C 40 (by decide) hh151 rfl inA9 tyX9_ok nmX9 29 (by decide) rfl kf_X9_236 rfl rfl rfl (fs' := [.ref (ad 41), .ref (ad 42), .ref (ad 43), .int ik, .ref (ad 44), .int kn, .ref (ad 45), .int (nI len), .int th, .int j1, .int j2, .int j3, .long j4, .long j5, .long j6, .long j7, .long u1, .long u2, .int u3, .long p1, .long p2, .ref (ad 46), .ref (ad 47), .int (nI (s.2.1 + 1 + 1 + 1)), .int (nI s.2.1), .int 0, .int (hM tm len s.2.1), .int (10 * (0 + hM tm len (s.2.1 + 1) - 48) + hM tm len (s.2.1 + 1 + 1) - 48), .int 1, .int (1 + 2)]) (Nat.le_of_ble_eq_true rfl) rfl dX9_doesAll_108 (fun gg154 hh155 aa156 => ?_)
                have AA157 : Agr [40, 41] G gg154 := AA153.tr aa156 (by simp) (by simp)
                have hR : fRun tx len 60 (0, 0, 0, 0, f, l, ml) = (s.1, s.2.1, 1, (1 + 2), s.2.2.2.2) := by rw [hs, show 60 - i = (59 - i) + 1 by omega, fRun_step (by omega) hre, rd_12N hn6 (by omega) he hio hd0 hd1 hse, fRun_stop (fun z => absurd z.2 (show ¬ (1 : Int32) = 0 by decide))]
                refine G_goto C 117 dX9_doesAll_111 (by decide) ?_
                refine G_goto C 12 dX9_doesAll_117 (by decide) ?_
                refine G_aload_n C 0 dX9_doesAll_12 rfl rfl ?_
                refine G_get C 40 (by decide) hh155 rfl inA9 28 (by decide) rfl kf_X9_228 rfl dX9_doesAll_13 ?_
                refine G_if_ne C 120 dX9_doesAll_16 (by decide) (fun _ => ?_) (fun h => absurd h (by decide))
                refine G_iload_n C 1 dX9_doesAll_120 rfl rfl ?_
                exact G_zret C hr rfl dX9_doesAll_121 ⟨_, _, _, _, _, _, _, _, _, _, _, _, _, _, _, _, _, _, (by rw [hR]), by rw [hR]; exact fun _ => ⟨rfl, rfl⟩, (by rw [hh155, hR]), (by rw [((aa156 41 (by decide)).trans ((aa152 41 (by decide)).trans ((aa148 41 (by decide)).trans hf12_41))), hR]), AA157⟩
  exact key12 61 0 (0, 0, 0, 0, f, l, ml) _ _ _ _ _ _ _ _ _ _ _ _ _ _ _ _ _ gg5 hh6 ((aa7 41 (by decide)).trans ((aa3 41 (by decide)).trans g41)) (AA8.wk (by simp)) (by omega) (Nat.zero_le _) (Nat.zero_le _) (rfl) (rfl) (hk0) (hL0)

