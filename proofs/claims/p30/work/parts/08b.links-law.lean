set_option maxRecDepth 100000 in
theorem my_L_lot : mx_y yL_lot cL_lot 2 (some .int) 2 := ⟨mx_in 303 rfl rfl, mx_in 22 (by decide +kernel) (by decide +kernel), by decide +kernel, by decide⟩
set_option maxRecDepth 100000 in
theorem my_L_low : mx_y yL_low cL_low 2 (some .int) 2 := ⟨mx_in 307 rfl rfl, mx_in 22 (by decide +kernel) (by decide +kernel), by decide +kernel, by decide⟩
set_option maxRecDepth 100000 in
theorem my_L_look : mx_y yL_look cL_look 5 (some .long) 1 := ⟨mx_in 311 rfl rfl, mx_in 22 (by decide +kernel) (by decide +kernel), by decide +kernel, by decide⟩
set_option maxRecDepth 100000 in
theorem my_L_holds : mx_y yL_holds cL_holds 9 (some .boolean) 1 := ⟨mx_in 340 rfl rfl, mx_in 22 (by decide +kernel) (by decide +kernel), by decide +kernel, by decide⟩
set_option maxRecDepth 100000 in
theorem my_L_would : mx_y yL_would cL_would 19 (some .boolean) 2 := ⟨mx_in 399 rfl rfl, mx_in 22 (by decide +kernel) (by decide +kernel), by decide +kernel, by decide⟩
set_option maxRecDepth 100000 in
theorem my_L_ones : mx_y yL_ones cL_ones 3 (some .int) 1 := ⟨mx_in 553 rfl rfl, mx_in 22 (by decide +kernel) (by decide +kernel), by decide +kernel, by decide⟩
set_option maxRecDepth 100000 in
theorem my_L_acts : mx_y yL_acts cL_acts 15 (some .boolean) 3 := ⟨mx_in 557 rfl rfl, mx_in 22 (by decide +kernel) (by decide +kernel), by decide +kernel, by decide⟩
set_option maxRecDepth 100000 in
theorem my_L_reads : mx_y yL_reads cL_reads 14 (some .boolean) 2 := ⟨mx_in 615 rfl rfl, mx_in 22 (by decide +kernel) (by decide +kernel), by decide +kernel, by decide⟩
set_option maxRecDepth 100000 in
theorem my_L_curtain : mx_y yL_curtain cL_curtain 7 (some .boolean) 2 := ⟨mx_in 618 rfl rfl, mx_in 22 (by decide +kernel) (by decide +kernel), by decide +kernel, by decide⟩
set_option maxRecDepth 100000 in
theorem my_L_steps : mx_y yL_steps cL_steps 6 (some .boolean) 2 := ⟨mx_in 638 rfl rfl, mx_in 22 (by decide +kernel) (by decide +kernel), by decide +kernel, by decide⟩
