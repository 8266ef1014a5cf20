/-! what holds at the law's entry -/
theorem aw_t {w : Cond} (h : w ∈ AW) : w ∈ lw_tbl := (List.mem_filter.mp h).1
theorem arr_o {C : String} {s : State} (h : va_AO C s) : ∃ cA : ClassId, ArrOfT s cA (.object C) ∧ va_RA s cA (.object C) := by
  obtain ⟨comp, c, k, h1, h2, h3, h4, h5⟩ := Cond.arrayOver_spec (va_AO.use (A := #[]) h)
  exact ⟨c, fun n z => ⟨(fun k h => by cases h), k, h3, comp, h4⟩, k, comp, h3, h4, h1, h5⟩
theorem arr_i {s : State} {A : Array Value} (h : (Cond.arrayClass .int).before A s = true) : ∃ cA : ClassId, ArrOfT s cA .int ∧ va_RA s cA .int := by
  obtain ⟨c, k, comp, h1, h2, h3⟩ := Cond.arrayClass_spec h
  exact ⟨c, fun n z => ⟨(fun k h => by cases h), k, h2, comp, h3⟩, h1⟩
theorem arr_l {s : State} {A : Array Value} (h : (Cond.arrayClass .long).before A s = true) : ∃ cA : ClassId, ArrOfT s cA .long ∧ va_RA s cA .long := by
  obtain ⟨c, k, comp, h1, h2, h3⟩ := Cond.arrayClass_spec h
  exact ⟨c, fun n z => ⟨(fun k h => by cases h), k, h2, comp, h3⟩, h1⟩
theorem arr_c {s : State} {A : Array Value} (h : (Cond.arrayClass .char).before A s = true) : ∃ cA : ClassId, ArrOfT s cA .char ∧ va_RA s cA .char := by
  obtain ⟨c, k, comp, h1, h2, h3⟩ := Cond.arrayClass_spec h
  exact ⟨c, fun n z => ⟨(fun k h => by cases h), k, h2, comp, h3⟩, h1⟩
theorem arr_d {s : State} {A : Array Value} (h : (Cond.arrayClass .double).before A s = true) : ∃ cA : ClassId, ArrOfT s cA .double ∧ va_RA s cA .double := by
  obtain ⟨c, k, comp, h1, h2, h3⟩ := Cond.arrayClass_spec h
  exact ⟨c, fun n z => ⟨(fun k h => by cases h), k, h2, comp, h3⟩, h1⟩
theorem str_t : ∀ q ∈ gStr, Cond.stringRef q.1 q.2.1 q.2.2 ∈ lw_tbl := by decide +kernel
theorem str_n : ∀ q ∈ gStr, Cond.exactly (.string q.1 q.2.1) "java/lang/String" ∈ flatC (Jvm.Cond.and given_1 narrow_1) := by decide +kernel
theorem gK_start {l : Launch} (hl : l.stackTraces = false) {s : State} {b Ls : Nat} {xs : Nat → Int32} (hX : va_X b Ls xs s s.heap) (hbl : b < s.heap.size) (hts : ∀ w ∈ lw_tbl, w.before #[Value.ref b] s = true) (hgv : (Jvm.Cond.and given_1 narrow_1).before #[Value.ref b] s = true) : ∃ L : GL, L.1 = l ∧ L.b0 = s.heap.size ∧ L.scr = (b, Ls, xs) ∧ gK L s := by
  have hs := flat_of_before _ hgv
  obtain ⟨c0, i0, k0⟩ := u_known (C := RX0) (T := TX0) (N := 2) hts (fun w hw => aw_t (inA0 w hw)) (hts _ (aw_t w_inst_X0))
  obtain ⟨c1, i1, k1⟩ := u_known (C := RX1) (T := TX1) (N := 5) hts (fun w hw => aw_t (inA1 w hw)) (hts _ (aw_t w_inst_X1))
  obtain ⟨c2, i2, k2⟩ := u_known (C := RX2) (T := TX2) (N := 4) hts (fun w hw => aw_t (inA2 w hw)) (hts _ (aw_t w_inst_X2))
  obtain ⟨c3, i3, k3⟩ := u_known (C := RX3) (T := TX3) (N := 3) hts (fun w hw => aw_t (inA3 w hw)) (hts _ (aw_t w_inst_X3))
  obtain ⟨c4, i4, k4⟩ := u_known (C := RX4) (T := TX4) (N := 5) hts (fun w hw => aw_t (inA4 w hw)) (hts _ (aw_t w_inst_X4))
  obtain ⟨c5, i5, k5⟩ := u_known (C := RX5) (T := TX5) (N := 4) hts (fun w hw => aw_t (inA5 w hw)) (hts _ (aw_t w_inst_X5))
  obtain ⟨c6, i6, k6⟩ := u_known (C := RX6) (T := TX6) (N := 5) hts (fun w hw => aw_t (inA6 w hw)) (hts _ (aw_t w_inst_X6))
  obtain ⟨c7, i7, k7⟩ := u_known (C := RX7) (T := TX7) (N := 6) hts (fun w hw => aw_t (inA7 w hw)) (hts _ (aw_t w_inst_X7))
  obtain ⟨c8, i8, k8⟩ := u_known (C := RX8) (T := TX8) (N := 10) hts (fun w hw => aw_t (inA8 w hw)) (hts _ (aw_t w_inst_X8))
  have ao4 : va_AO "PellMills$Power" s := va_AO.of (hts (Cond.arrayOver (.object "PellMills$Power")) (List.mem_of_getElem? (i := 179) (by decide +kernel)))
  have ao5 : va_AO "PellMills$State" s := va_AO.of (hts (Cond.arrayOver (.object "PellMills$State")) (List.mem_of_getElem? (i := 245) (by decide +kernel)))
  obtain ⟨a0, x0, y0⟩ := arr_i (hts _ (aw_t w_arr_int))
  obtain ⟨a1, x1, y1⟩ := arr_l (hts _ (aw_t w_arr_long))
  obtain ⟨a2, x2, y2⟩ := arr_c (hts _ (aw_t w_arr_char))
  obtain ⟨a4, x4, y4⟩ := arr_o ao4
  obtain ⟨a5, x5, y5⟩ := arr_o ao5
  have hA : ∀ a : Nat, a < s.heap.size → ¬ (fun q : Nat => s.heap.size ≤ q) a := fun a h z => absurd z (Nat.not_le.mpr h)
  refine ⟨(l, fun k => [c0, c1, c2, c3, c4, c5, c6, c7, c8].getD k c0, fun k => [i0, i1, i2, i3, i4, i5, i6, i7, i8].getD k i0, fun k => [a0, a1, a2, a0, a4, a5].getD k a0, s.heap.size, (b, Ls, xs)), rfl, rfl, rfl, ⟨fun k q hq => ?_, fun k q hq => ?_⟩, ?_, ?_, ?_, ?_, ?_, ⟨Nat.le_refl _, hbl, hX⟩, ⟨ao4, ao5⟩, hl⟩
  · match k, hq with
    | 0, hq => cases hq; exact k0
    | 1, hq => cases hq; exact k1
    | 2, hq => cases hq; exact k2
    | 3, hq => cases hq; exact k3
    | 4, hq => cases hq; exact k4
    | 5, hq => cases hq; exact k5
    | 6, hq => cases hq; exact k6
    | 7, hq => cases hq; exact k7
    | 8, hq => cases hq; exact k8
    | k + 9, hq => simp [vwCl] at hq
  · match k, hq with
    | 0, hq => cases hq; exact ⟨x0, y0⟩
    | 1, hq => cases hq; exact ⟨x1, y1⟩
    | 2, hq => cases hq; exact ⟨x2, y2⟩
    | 3, hq => cases hq; exact ⟨x0, y0⟩
    | 4, hq => cases hq; exact ⟨x4, y4⟩
    | 5, hq => cases hq; exact ⟨x5, y5⟩
    | k + 6, hq => simp at hq
  · exact vx_Zqof (hts _ (List.mem_of_getElem? (i := 379) (by decide +kernel))) (hts _ (List.mem_of_getElem? (i := 33) (by decide +kernel))) (hs _ (by decide +kernel)) hA
  · exact vx_Zqof (hts _ (List.mem_of_getElem? (i := 381) (by decide +kernel))) (hts _ (List.mem_of_getElem? (i := 33) (by decide +kernel))) (hs _ (by decide +kernel)) hA
  · intro q hq
    obtain ⟨a, -, -, -, ha, -⟩ := Cond.exactly_spec (hs _ (str_n q hq))
    exact ⟨a, vk_R.of (hts _ (str_t q hq)) ha⟩
  · intro w hw
    obtain ⟨h1, h2⟩ := List.mem_filter.mp hw
    exact va_Nw.of (by cases w <;> first | rfl | exact absurd h2 Bool.false_ne_true) (hts w h1)
  · exact ⟨va_Nc.of (hs (Cond.not (.castable eISE eIAE)) (by decide +kernel)), va_Nc.of (hs (Cond.not (.castable eNSE eIAE)) (by decide +kernel))⟩
