set_option maxRecDepth 10000000 in
theorem ca_L_holds : CalS yL_holds cL_holds 22 ((some .boolean)) 2 := ⟨AW_of 511 (by decide +kernel) rfl, AW_of 22 (by decide +kernel) rfl, AW_of 512 (by rfl) rfl, by decide +kernel⟩
set_option maxRecDepth 10000000 in
theorem ca_L_acts : CalS yL_acts cL_acts 20 ((some .boolean)) 3 := ⟨AW_of 769 (by decide +kernel) rfl, AW_of 22 (by decide +kernel) rfl, AW_of 770 (by rfl) rfl, by decide +kernel⟩
