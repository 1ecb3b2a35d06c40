/-! the code of acts is long: its word by its place, without a comparison -/
set_option maxRecDepth 100000 in
set_option maxHeartbeats 4000000 in
theorem w_acts : Cond.code (mY M_L_acts) (mC M_L_acts) (mL M_L_acts) (mT M_L_acts) ∈ tables_1 := List.mem_of_getElem? (i := 438) rfl
theorem clL_105 : CLS RL 105 M_L_acts 3 := ⟨⟨Or.inl (mem_tb (List.mem_of_getElem? (i := 436) (by decide +kernel))), (mem_tb w_acts), (mem_tb (List.mem_of_getElem? (i := 0) (by decide +kernel))), by decide +kernel, by decide +kernel⟩, (mem_tb (List.mem_of_getElem? (i := 437) (by decide +kernel)))⟩
