theorem k37 : ∀ k, k < 37 → (k = 0 ∨ k = 1 ∨ k = 2 ∨ k = 3 ∨ k = 4 ∨ k = 5 ∨ k = 6 ∨ k = 7 ∨ k = 8 ∨ k = 9 ∨ k = 10 ∨ k = 11 ∨ k = 12 ∨ k = 13 ∨ k = 14 ∨ k = 15 ∨ k = 16 ∨ k = 17 ∨ k = 18 ∨ k = 19 ∨ k = 20 ∨ k = 21 ∨ k = 22 ∨ k = 23 ∨ k = 24 ∨ k = 25 ∨ k = 26 ∨ k = 27 ∨ k = 28 ∨ k = 29 ∨ k = 30 ∨ k = 31 ∨ k = 32 ∨ k = 33 ∨ k = 34 ∨ k = 35 ∨ k = 36) := fun k h => by
  by_cases e0 : k = 0
  · exact Or.inl e0
  refine Or.inr ?_
  by_cases e1 : k = 1
  · exact Or.inl e1
  refine Or.inr ?_
  by_cases e2 : k = 2
  · exact Or.inl e2
  refine Or.inr ?_
  by_cases e3 : k = 3
  · exact Or.inl e3
  refine Or.inr ?_
  by_cases e4 : k = 4
  · exact Or.inl e4
  refine Or.inr ?_
  by_cases e5 : k = 5
  · exact Or.inl e5
  refine Or.inr ?_
  by_cases e6 : k = 6
  · exact Or.inl e6
  refine Or.inr ?_
  by_cases e7 : k = 7
  · exact Or.inl e7
  refine Or.inr ?_
  by_cases e8 : k = 8
  · exact Or.inl e8
  refine Or.inr ?_
  by_cases e9 : k = 9
  · exact Or.inl e9
  refine Or.inr ?_
  by_cases e10 : k = 10
  · exact Or.inl e10
  refine Or.inr ?_
  by_cases e11 : k = 11
  · exact Or.inl e11
  refine Or.inr ?_
  by_cases e12 : k = 12
  · exact Or.inl e12
  refine Or.inr ?_
  by_cases e13 : k = 13
  · exact Or.inl e13
  refine Or.inr ?_
  by_cases e14 : k = 14
  · exact Or.inl e14
  refine Or.inr ?_
  by_cases e15 : k = 15
  · exact Or.inl e15
  refine Or.inr ?_
  by_cases e16 : k = 16
  · exact Or.inl e16
  refine Or.inr ?_
  by_cases e17 : k = 17
  · exact Or.inl e17
  refine Or.inr ?_
  by_cases e18 : k = 18
  · exact Or.inl e18
  refine Or.inr ?_
  by_cases e19 : k = 19
  · exact Or.inl e19
  refine Or.inr ?_
  by_cases e20 : k = 20
  · exact Or.inl e20
  refine Or.inr ?_
  by_cases e21 : k = 21
  · exact Or.inl e21
  refine Or.inr ?_
  by_cases e22 : k = 22
  · exact Or.inl e22
  refine Or.inr ?_
  by_cases e23 : k = 23
  · exact Or.inl e23
  refine Or.inr ?_
  by_cases e24 : k = 24
  · exact Or.inl e24
  refine Or.inr ?_
  by_cases e25 : k = 25
  · exact Or.inl e25
  refine Or.inr ?_
  by_cases e26 : k = 26
  · exact Or.inl e26
  refine Or.inr ?_
  by_cases e27 : k = 27
  · exact Or.inl e27
  refine Or.inr ?_
  by_cases e28 : k = 28
  · exact Or.inl e28
  refine Or.inr ?_
  by_cases e29 : k = 29
  · exact Or.inl e29
  refine Or.inr ?_
  by_cases e30 : k = 30
  · exact Or.inl e30
  refine Or.inr ?_
  by_cases e31 : k = 31
  · exact Or.inl e31
  refine Or.inr ?_
  by_cases e32 : k = 32
  · exact Or.inl e32
  refine Or.inr ?_
  by_cases e33 : k = 33
  · exact Or.inl e33
  refine Or.inr ?_
  by_cases e34 : k = 34
  · exact Or.inl e34
  refine Or.inr ?_
  by_cases e35 : k = 35
  · exact Or.inl e35
  refine Or.inr ?_
  omega
theorem len3 {i Ls : Nat} (h : Ls ≤ 1536) (hi : i ≤ 1539) : nI Ls - 3 < nI i ↔ Ls < i + 3 := by
  have e : (nI Ls - nI 3).toInt = (Ls : Int) - (3 : Nat) := pk_sub_toInt (by omega) (by omega)
  rw [Int32.lt_iff_toInt_lt, show nI Ls - 3 = nI Ls - nI 3 from rfl, e, nI_toInt (by omega)]
  omega
set_option maxRecDepth 100000 in
set_option maxHeartbeats 4000000 in
theorem law_body {L : GL} {E : GE} {ad : Nat → Nat} {G : Nat → va_E} {cs ss b Ls i : Nat} {xs : Nat → Int32} (C : gC L E cL_law RL 9 room_1) (hX : LWx L E b Ls xs) (hi : i + 3 ≤ Ls) (hLs : Ls ≤ 1536) (hcs : cs + 3 ≤ 601024 ∧ ss + 18 ≤ 7293034) (hI : LI L ad G) (K : ∀ G', LI L ad G' → GW L E 50 ad G' (cs + 3) (ss + 18) 1974 [(5, .int (nI i)), (4, .ref (ad 49)), (3, .ref (ad 48)), (2, .ref (ad 40)), (1, .ref (ad 0)), (0, .ref b)] []) : GW L E 50 ad G cs ss 37 [(5, .int (nI i)), (4, .ref (ad 49)), (3, .ref (ad 48)), (2, .ref (ad 40)), (1, .ref (ad 0)), (0, .ref b)] [] := by
  refine G_aload_n C 0 dL_law_37 rfl rfl ?_
  refine G_iload C dL_law_38 rfl ?_
  refine G_sld C hX (j := i) (by omega) (by omega) dL_law_40 ?_
  refine G_bipush C (v := 63) dL_law_41 (by decide) ?_
  refine G_iand C dL_law_43 ?_
  obtain ⟨k, hk, hkx⟩ := pk_andE (xs i) (m := 63) 6 (by decide)
  refine GW.topr (y := nI k) hkx ?_
  by_cases h36 : k < 37
  · rcases k37 k h36 with rfl | rfl | rfl | rfl | rfl | rfl | rfl | rfl | rfl | rfl | rfl | rfl | rfl | rfl | rfl | rfl | rfl | rfl | rfl | rfl | rfl | rfl | rfl | rfl | rfl | rfl | rfl | rfl | rfl | rfl | rfl | rfl | rfl | rfl | rfl | rfl | rfl
    · exact G_tableIn C (off := 164) 208 dL_law_44 (by decide) (by decide) rfl (by decide) (LC_0 C hX hi hLs hcs hI K)
    · exact G_tableIn C (off := 220) 264 dL_law_44 (by decide) (by decide) rfl (by decide) (LC_1 C hX hi hLs hcs hI K)
    · exact G_tableIn C (off := 276) 320 dL_law_44 (by decide) (by decide) rfl (by decide) (LC_2 C hX hi hLs hcs hI K)
    · exact G_tableIn C (off := 331) 375 dL_law_44 (by decide) (by decide) rfl (by decide) (LC_3 C hX hi hLs hcs hI K)
    · exact G_tableIn C (off := 386) 430 dL_law_44 (by decide) (by decide) rfl (by decide) (LC_4 C hX hi hLs hcs hI K)
    · exact G_tableIn C (off := 442) 486 dL_law_44 (by decide) (by decide) rfl (by decide) (LC_5 C hX hi hLs hcs hI K)
    · exact G_tableIn C (off := 498) 542 dL_law_44 (by decide) (by decide) rfl (by decide) (LC_6 C hX hi hLs hcs hI K)
    · exact G_tableIn C (off := 566) 610 dL_law_44 (by decide) (by decide) rfl (by decide) (LC_7 C hX hi hLs hcs hI K)
    · exact G_tableIn C (off := 622) 666 dL_law_44 (by decide) (by decide) rfl (by decide) (LC_8 C hX hi hLs hcs hI K)
    · exact G_tableIn C (off := 678) 722 dL_law_44 (by decide) (by decide) rfl (by decide) (LC_9 C hX hi hLs hcs hI K)
    · exact G_tableIn C (off := 734) 778 dL_law_44 (by decide) (by decide) rfl (by decide) (LC_10 C hX hi hLs hcs hI K)
    · exact G_tableIn C (off := 790) 834 dL_law_44 (by decide) (by decide) rfl (by decide) (LC_11 C hX hi hLs hcs hI K)
    · exact G_tableIn C (off := 803) 847 dL_law_44 (by decide) (by decide) rfl (by decide) (LC_12 C hX hi hLs hcs hI K)
    · exact G_tableIn C (off := 866) 910 dL_law_44 (by decide) (by decide) rfl (by decide) (LC_13 C hX hi hLs hcs hI K)
    · exact G_tableIn C (off := 922) 966 dL_law_44 (by decide) (by decide) rfl (by decide) (LC_14 C hX hi hLs hcs hI K)
    · exact G_tableIn C (off := 978) 1022 dL_law_44 (by decide) (by decide) rfl (by decide) (LC_15 C hX hi hLs hcs hI K)
    · exact G_tableIn C (off := 1033) 1077 dL_law_44 (by decide) (by decide) rfl (by decide) (LC_16 C hX hi hLs hcs hI K)
    · exact G_tableIn C (off := 1088) 1132 dL_law_44 (by decide) (by decide) rfl (by decide) (LC_17 C hX hi hLs hcs hI K)
    · exact G_tableIn C (off := 1144) 1188 dL_law_44 (by decide) (by decide) rfl (by decide) (LC_18 C hX hi hLs hcs hI K)
    · exact G_tableIn C (off := 1200) 1244 dL_law_44 (by decide) (by decide) rfl (by decide) (LC_19 C hX hi hLs hcs hI K)
    · exact G_tableIn C (off := 1278) 1322 dL_law_44 (by decide) (by decide) rfl (by decide) (LC_20 C hX hi hLs hcs hI K)
    · exact G_tableIn C (off := 1291) 1335 dL_law_44 (by decide) (by decide) rfl (by decide) (LC_21 C hX hi hLs hcs hI K)
    · exact G_tableIn C (off := 1346) 1390 dL_law_44 (by decide) (by decide) rfl (by decide) (LC_22 C hX hi hLs hcs hI K)
    · exact G_tableIn C (off := 1401) 1445 dL_law_44 (by decide) (by decide) rfl (by decide) (LC_23 C hX hi hLs hcs hI K)
    · exact G_tableIn C (off := 1457) 1501 dL_law_44 (by decide) (by decide) rfl (by decide) (LC_24 C hX hi hLs hcs hI K)
    · exact G_tableIn C (off := 1545) 1589 dL_law_44 (by decide) (by decide) rfl (by decide) (LC_25 C hX hi hLs hcs hI K)
    · exact G_tableIn C (off := 1558) 1602 dL_law_44 (by decide) (by decide) rfl (by decide) (LC_26 C hX hi hLs hcs hI K)
    · exact G_tableIn C (off := 1571) 1615 dL_law_44 (by decide) (by decide) rfl (by decide) (LC_27 C hX hi hLs hcs hI K)
    · exact G_tableIn C (off := 1584) 1628 dL_law_44 (by decide) (by decide) rfl (by decide) (LC_28 C hX hi hLs hcs hI K)
    · exact G_tableIn C (off := 1628) 1672 dL_law_44 (by decide) (by decide) rfl (by decide) (LC_29 C hX hi hLs hcs hI K)
    · exact G_tableIn C (off := 1641) 1685 dL_law_44 (by decide) (by decide) rfl (by decide) (LC_30 C hX hi hLs hcs hI K)
    · exact G_tableIn C (off := 1685) 1729 dL_law_44 (by decide) (by decide) rfl (by decide) (LC_31 C hX hi hLs hcs hI K)
    · exact G_tableIn C (off := 1741) 1785 dL_law_44 (by decide) (by decide) rfl (by decide) (LC_32 C hX hi hLs hcs hI K)
    · exact G_tableIn C (off := 1754) 1798 dL_law_44 (by decide) (by decide) rfl (by decide) (LC_33 C hX hi hLs hcs hI K)
    · exact G_tableIn C (off := 1798) 1842 dL_law_44 (by decide) (by decide) rfl (by decide) (LC_34 C hX hi hLs hcs hI K)
    · exact G_tableIn C (off := 1842) 1886 dL_law_44 (by decide) (by decide) rfl (by decide) (LC_35 C hX hi hLs hcs hI K)
    · exact G_tableIn C (off := 1886) 1930 dL_law_44 (by decide) (by decide) rfl (by decide) (LC_36 C hX hi hLs hcs hI K)
  · refine G_tableOut C 1974 dL_law_44 (Or.inr (by rw [nI_toInt (by omega)]; omega)) (by decide) ?_
    exact GW.widen (by omega) (by omega) (K G hI)
set_option maxRecDepth 100000 in
set_option maxHeartbeats 4000000 in
theorem law_loop {L : GL} {E : GE} {ad : Nat → Nat} {c0 s0 b Ls : Nat} {xs : Nat → Int32} (C : gC L E cL_law RL 9 room_1) (hX : LWx L E b Ls xs) (hLs : Ls ≤ 1536) (hc0 : c0 ≤ 100) (hs0 : s0 ≤ 100000) (hEnd : ∀ (G : Nat → va_E) (cs ss i : Nat), cs ≤ 601024 → ss ≤ 7293034 → GW L E 50 ad G cs ss 1981 [(5, .int (nI i)), (4, .ref (ad 49)), (3, .ref (ad 48)), (2, .ref (ad 40)), (1, .ref (ad 0)), (0, .ref b)] [.int 1]) : ∀ (n i : Nat) (G : Nat → va_E), Ls - i < n → i ≤ 1536 → LI L ad G → GW L E 50 ad G (c0 + i) (s0 + 6 * i) 28 [(5, .int (nI i)), (4, .ref (ad 49)), (3, .ref (ad 48)), (2, .ref (ad 40)), (1, .ref (ad 0)), (0, .ref b)] [] := by
  intro n
  induction n with
  | zero => intro i G h; exact absurd h (Nat.not_lt_zero _)
  | succ n ih =>
    intro i G hn hi hI
    refine G_iload C dL_law_28 rfl ?_
    refine G_aload_n C 0 dL_law_30 rfl rfl ?_
    refine G_slen C hX dL_law_31 ?_
    refine G_iconst C (v := 3) dL_law_32 (by decide) ?_
    refine G_isub C dL_law_33 ?_
    refine G_icmp_gt C 1980 dL_law_34 (by decide) (fun h34 => ?_) (fun h34 => ?_)
    · refine G_iconst C (v := 1) dL_law_1980 (by decide) ?_
      exact hEnd G _ _ i (by omega) (by omega)
    · have h3 : i + 3 ≤ Ls := Nat.not_lt.mp (fun z => h34 ((len3 hLs (by omega)).mpr z))
      refine law_body C hX h3 hLs ⟨by omega, by omega⟩ hI (fun G' hI' => ?_)
      refine G_iinc C (v := nI (i + 3)) (lo' := [(5, .int (nI (i + 3))), (4, .ref (ad 49)), (3, .ref (ad 48)), (2, .ref (ad 40)), (1, .ref (ad 0)), (0, .ref b)]) dL_law_1974 rfl (nI_add i 3) (by decide) rfl ?_
      refine G_goto C 28 dL_law_1977 (by decide) ?_
      exact GW.widen (by omega) (by omega) (ih (i + 3) G' (by omega) (by omega) hI')
