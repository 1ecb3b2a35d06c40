/-! links: what a program decides of classes, fields and calls -/
theorem ci0 : CI 0 RX0 TX0 4 tyX0 := by
  refine ⟨rfl, ?_, tyX0_ok, nmX0, by decide +kernel, by decide +kernel, by decide +kernel, by decide⟩
  intro w hw
  obtain ⟨k, hk, rfl⟩ := List.mem_map.mp hw
  have hk := List.mem_range.mp hk
  match k, hk with
    | 0, _ => exact ⟨(mem_tb (List.mem_of_getElem? (i := 37) (by decide +kernel))), by decide +kernel⟩
    | 1, _ => exact ⟨(mem_tb (List.mem_of_getElem? (i := 39) (by decide +kernel))), by decide +kernel⟩
    | 2, _ => exact ⟨(mem_tb (List.mem_of_getElem? (i := 41) (by decide +kernel))), by decide +kernel⟩
    | 3, _ => exact ⟨(mem_tb (List.mem_of_getElem? (i := 43) (by decide +kernel))), by decide +kernel⟩
    | k + 4, h => exact absurd h (by omega)
theorem ci1 : CI 1 RX1 TX1 2 tyX1 := by
  refine ⟨rfl, ?_, tyX1_ok, nmX1, by decide +kernel, by decide +kernel, by decide +kernel, by decide⟩
  intro w hw
  obtain ⟨k, hk, rfl⟩ := List.mem_map.mp hw
  have hk := List.mem_range.mp hk
  match k, hk with
    | 0, _ => exact ⟨(mem_tb (List.mem_of_getElem? (i := 199) (by decide +kernel))), by decide +kernel⟩
    | 1, _ => exact ⟨(mem_tb (List.mem_of_getElem? (i := 201) (by decide +kernel))), by decide +kernel⟩
    | k + 2, h => exact absurd h (by omega)
theorem ci2 : CI 2 RX2 TX2 5 tyX2 := by
  refine ⟨rfl, ?_, tyX2_ok, nmX2, by decide +kernel, by decide +kernel, by decide +kernel, by decide⟩
  intro w hw
  obtain ⟨k, hk, rfl⟩ := List.mem_map.mp hw
  have hk := List.mem_range.mp hk
  match k, hk with
    | 0, _ => exact ⟨(mem_tb (List.mem_of_getElem? (i := 58) (by decide +kernel))), by decide +kernel⟩
    | 1, _ => exact ⟨(mem_tb (List.mem_of_getElem? (i := 60) (by decide +kernel))), by decide +kernel⟩
    | 2, _ => exact ⟨(mem_tb (List.mem_of_getElem? (i := 62) (by decide +kernel))), by decide +kernel⟩
    | 3, _ => exact ⟨(mem_tb (List.mem_of_getElem? (i := 64) (by decide +kernel))), by decide +kernel⟩
    | 4, _ => exact ⟨(mem_tb (List.mem_of_getElem? (i := 66) (by decide +kernel))), by decide +kernel⟩
    | k + 5, h => exact absurd h (by omega)
theorem ci3 : CI 3 RX3 TX3 5 tyX3 := by
  refine ⟨rfl, ?_, tyX3_ok, nmX3, by decide +kernel, by decide +kernel, by decide +kernel, by decide⟩
  intro w hw
  obtain ⟨k, hk, rfl⟩ := List.mem_map.mp hw
  have hk := List.mem_range.mp hk
  match k, hk with
    | 0, _ => exact ⟨(mem_tb (List.mem_of_getElem? (i := 244) (by decide +kernel))), by decide +kernel⟩
    | 1, _ => exact ⟨(mem_tb (List.mem_of_getElem? (i := 246) (by decide +kernel))), by decide +kernel⟩
    | 2, _ => exact ⟨(mem_tb (List.mem_of_getElem? (i := 248) (by decide +kernel))), by decide +kernel⟩
    | 3, _ => exact ⟨(mem_tb (List.mem_of_getElem? (i := 250) (by decide +kernel))), by decide +kernel⟩
    | 4, _ => exact ⟨(mem_tb (List.mem_of_getElem? (i := 252) (by decide +kernel))), by decide +kernel⟩
    | k + 5, h => exact absurd h (by omega)
theorem ci4 : CI 4 RX4 TX4 11 tyX4 := by
  refine ⟨rfl, ?_, tyX4_ok, nmX4, by decide +kernel, by decide +kernel, by decide +kernel, by decide⟩
  intro w hw
  obtain ⟨k, hk, rfl⟩ := List.mem_map.mp hw
  have hk := List.mem_range.mp hk
  match k, hk with
    | 0, _ => exact ⟨(mem_tb (List.mem_of_getElem? (i := 165) (by decide +kernel))), by decide +kernel⟩
    | 1, _ => exact ⟨(mem_tb (List.mem_of_getElem? (i := 167) (by decide +kernel))), by decide +kernel⟩
    | 2, _ => exact ⟨(mem_tb (List.mem_of_getElem? (i := 169) (by decide +kernel))), by decide +kernel⟩
    | 3, _ => exact ⟨(mem_tb (List.mem_of_getElem? (i := 171) (by decide +kernel))), by decide +kernel⟩
    | 4, _ => exact ⟨(mem_tb (List.mem_of_getElem? (i := 173) (by decide +kernel))), by decide +kernel⟩
    | 5, _ => exact ⟨(mem_tb (List.mem_of_getElem? (i := 175) (by decide +kernel))), by decide +kernel⟩
    | 6, _ => exact ⟨(mem_tb (List.mem_of_getElem? (i := 177) (by decide +kernel))), by decide +kernel⟩
    | 7, _ => exact ⟨(mem_tb (List.mem_of_getElem? (i := 179) (by decide +kernel))), by decide +kernel⟩
    | 8, _ => exact ⟨(mem_tb (List.mem_of_getElem? (i := 181) (by decide +kernel))), by decide +kernel⟩
    | 9, _ => exact ⟨(mem_tb (List.mem_of_getElem? (i := 183) (by decide +kernel))), by decide +kernel⟩
    | 10, _ => exact ⟨(mem_tb (List.mem_of_getElem? (i := 185) (by decide +kernel))), by decide +kernel⟩
    | k + 11, h => exact absurd h (by omega)
theorem ci5 : CI 5 RX5 TX5 7 tyX5 := by
  refine ⟨rfl, ?_, tyX5_ok, nmX5, by decide +kernel, by decide +kernel, by decide +kernel, by decide⟩
  intro w hw
  obtain ⟨k, hk, rfl⟩ := List.mem_map.mp hw
  have hk := List.mem_range.mp hk
  match k, hk with
    | 0, _ => exact ⟨(mem_tb (List.mem_of_getElem? (i := 128) (by decide +kernel))), by decide +kernel⟩
    | 1, _ => exact ⟨(mem_tb (List.mem_of_getElem? (i := 130) (by decide +kernel))), by decide +kernel⟩
    | 2, _ => exact ⟨(mem_tb (List.mem_of_getElem? (i := 132) (by decide +kernel))), by decide +kernel⟩
    | 3, _ => exact ⟨(mem_tb (List.mem_of_getElem? (i := 134) (by decide +kernel))), by decide +kernel⟩
    | 4, _ => exact ⟨(mem_tb (List.mem_of_getElem? (i := 136) (by decide +kernel))), by decide +kernel⟩
    | 5, _ => exact ⟨(mem_tb (List.mem_of_getElem? (i := 138) (by decide +kernel))), by decide +kernel⟩
    | 6, _ => exact ⟨(mem_tb (List.mem_of_getElem? (i := 140) (by decide +kernel))), by decide +kernel⟩
    | k + 7, h => exact absurd h (by omega)
theorem ci6 : CI 6 RX6 TX6 6 tyX6 := by
  refine ⟨rfl, ?_, tyX6_ok, nmX6, by decide +kernel, by decide +kernel, by decide +kernel, by decide⟩
  intro w hw
  obtain ⟨k, hk, rfl⟩ := List.mem_map.mp hw
  have hk := List.mem_range.mp hk
  match k, hk with
    | 0, _ => exact ⟨(mem_tb (List.mem_of_getElem? (i := 220) (by decide +kernel))), by decide +kernel⟩
    | 1, _ => exact ⟨(mem_tb (List.mem_of_getElem? (i := 222) (by decide +kernel))), by decide +kernel⟩
    | 2, _ => exact ⟨(mem_tb (List.mem_of_getElem? (i := 224) (by decide +kernel))), by decide +kernel⟩
    | 3, _ => exact ⟨(mem_tb (List.mem_of_getElem? (i := 226) (by decide +kernel))), by decide +kernel⟩
    | 4, _ => exact ⟨(mem_tb (List.mem_of_getElem? (i := 228) (by decide +kernel))), by decide +kernel⟩
    | 5, _ => exact ⟨(mem_tb (List.mem_of_getElem? (i := 230) (by decide +kernel))), by decide +kernel⟩
    | k + 6, h => exact absurd h (by omega)
theorem ci7 : CI 7 RX7 TX7 8 tyX7 := by
  refine ⟨rfl, ?_, tyX7_ok, nmX7, by decide +kernel, by decide +kernel, by decide +kernel, by decide⟩
  intro w hw
  obtain ⟨k, hk, rfl⟩ := List.mem_map.mp hw
  have hk := List.mem_range.mp hk
  match k, hk with
    | 0, _ => exact ⟨(mem_tb (List.mem_of_getElem? (i := 91) (by decide +kernel))), by decide +kernel⟩
    | 1, _ => exact ⟨(mem_tb (List.mem_of_getElem? (i := 93) (by decide +kernel))), by decide +kernel⟩
    | 2, _ => exact ⟨(mem_tb (List.mem_of_getElem? (i := 95) (by decide +kernel))), by decide +kernel⟩
    | 3, _ => exact ⟨(mem_tb (List.mem_of_getElem? (i := 97) (by decide +kernel))), by decide +kernel⟩
    | 4, _ => exact ⟨(mem_tb (List.mem_of_getElem? (i := 99) (by decide +kernel))), by decide +kernel⟩
    | 5, _ => exact ⟨(mem_tb (List.mem_of_getElem? (i := 101) (by decide +kernel))), by decide +kernel⟩
    | 6, _ => exact ⟨(mem_tb (List.mem_of_getElem? (i := 103) (by decide +kernel))), by decide +kernel⟩
    | 7, _ => exact ⟨(mem_tb (List.mem_of_getElem? (i := 105) (by decide +kernel))), by decide +kernel⟩
    | k + 8, h => exact absurd h (by omega)
theorem ci8 : CI 8 RX8 TX8 5 tyX8 := by
  refine ⟨rfl, ?_, tyX8_ok, nmX8, by decide +kernel, by decide +kernel, by decide +kernel, by decide⟩
  intro w hw
  obtain ⟨k, hk, rfl⟩ := List.mem_map.mp hw
  have hk := List.mem_range.mp hk
  match k, hk with
    | 0, _ => exact ⟨(mem_tb (List.mem_of_getElem? (i := 260) (by decide +kernel))), by decide +kernel⟩
    | 1, _ => exact ⟨(mem_tb (List.mem_of_getElem? (i := 262) (by decide +kernel))), by decide +kernel⟩
    | 2, _ => exact ⟨(mem_tb (List.mem_of_getElem? (i := 264) (by decide +kernel))), by decide +kernel⟩
    | 3, _ => exact ⟨(mem_tb (List.mem_of_getElem? (i := 266) (by decide +kernel))), by decide +kernel⟩
    | 4, _ => exact ⟨(mem_tb (List.mem_of_getElem? (i := 268) (by decide +kernel))), by decide +kernel⟩
    | k + 5, h => exact absurd h (by omega)
theorem fX0_9 : FL RX0 9 RX0 TX0 0 := Or.inl (mem_tb (List.mem_of_getElem? (i := 33) (by decide +kernel)))
theorem flX0_9 : Cond.fieldLink RX0 9 RX0 (TX0 0).2.1 (TX0 0).2.2.1 ∈ lw_tbl := (mem_tb (List.mem_of_getElem? (i := 33) (by decide +kernel)))
theorem fX0_15 : FL RX0 15 RX0 TX0 1 := Or.inl (mem_tb (List.mem_of_getElem? (i := 34) (by decide +kernel)))
theorem flX0_15 : Cond.fieldLink RX0 15 RX0 (TX0 1).2.1 (TX0 1).2.2.1 ∈ lw_tbl := (mem_tb (List.mem_of_getElem? (i := 34) (by decide +kernel)))
theorem fX0_18 : FL RX0 18 RX0 TX0 2 := Or.inl (mem_tb (List.mem_of_getElem? (i := 35) (by decide +kernel)))
theorem flX0_18 : Cond.fieldLink RX0 18 RX0 (TX0 2).2.1 (TX0 2).2.2.1 ∈ lw_tbl := (mem_tb (List.mem_of_getElem? (i := 35) (by decide +kernel)))
theorem fX0_21 : FL RX0 21 RX0 TX0 3 := Or.inl (mem_tb (List.mem_of_getElem? (i := 36) (by decide +kernel)))
theorem flX0_21 : Cond.fieldLink RX0 21 RX0 (TX0 3).2.1 (TX0 3).2.2.1 ∈ lw_tbl := (mem_tb (List.mem_of_getElem? (i := 36) (by decide +kernel)))
theorem fX2_9 : FL RX2 9 RX2 TX2 0 := Or.inl (mem_tb (List.mem_of_getElem? (i := 53) (by decide +kernel)))
theorem flX2_9 : Cond.fieldLink RX2 9 RX2 (TX2 0).2.1 (TX2 0).2.2.1 ∈ lw_tbl := (mem_tb (List.mem_of_getElem? (i := 53) (by decide +kernel)))
theorem fX2_15 : FL RX2 15 RX2 TX2 1 := Or.inl (mem_tb (List.mem_of_getElem? (i := 54) (by decide +kernel)))
theorem flX2_15 : Cond.fieldLink RX2 15 RX2 (TX2 1).2.1 (TX2 1).2.2.1 ∈ lw_tbl := (mem_tb (List.mem_of_getElem? (i := 54) (by decide +kernel)))
theorem fX2_18 : FL RX2 18 RX2 TX2 2 := Or.inl (mem_tb (List.mem_of_getElem? (i := 55) (by decide +kernel)))
theorem flX2_18 : Cond.fieldLink RX2 18 RX2 (TX2 2).2.1 (TX2 2).2.2.1 ∈ lw_tbl := (mem_tb (List.mem_of_getElem? (i := 55) (by decide +kernel)))
theorem fX2_21 : FL RX2 21 RX2 TX2 3 := Or.inl (mem_tb (List.mem_of_getElem? (i := 56) (by decide +kernel)))
theorem flX2_21 : Cond.fieldLink RX2 21 RX2 (TX2 3).2.1 (TX2 3).2.2.1 ∈ lw_tbl := (mem_tb (List.mem_of_getElem? (i := 56) (by decide +kernel)))
theorem fX2_28 : FL RX2 28 RX2 TX2 4 := Or.inl (mem_tb (List.mem_of_getElem? (i := 57) (by decide +kernel)))
theorem flX2_28 : Cond.fieldLink RX2 28 RX2 (TX2 4).2.1 (TX2 4).2.2.1 ∈ lw_tbl := (mem_tb (List.mem_of_getElem? (i := 57) (by decide +kernel)))
theorem fX7_9 : FL RX7 9 RX7 TX7 0 := Or.inl (mem_tb (List.mem_of_getElem? (i := 75) (by decide +kernel)))
theorem flX7_9 : Cond.fieldLink RX7 9 RX7 (TX7 0).2.1 (TX7 0).2.2.1 ∈ lw_tbl := (mem_tb (List.mem_of_getElem? (i := 75) (by decide +kernel)))
theorem fX4_105 : FL RX4 105 RX7 TX7 0 := Or.inr ⟨"PagePairs", (mem_tb (List.mem_of_getElem? (i := 76) (by decide +kernel)))⟩
theorem fX7_15 : FL RX7 15 RX7 TX7 1 := Or.inl (mem_tb (List.mem_of_getElem? (i := 77) (by decide +kernel)))
theorem flX7_15 : Cond.fieldLink RX7 15 RX7 (TX7 1).2.1 (TX7 1).2.2.1 ∈ lw_tbl := (mem_tb (List.mem_of_getElem? (i := 77) (by decide +kernel)))
theorem fX4_163 : FL RX4 163 RX7 TX7 1 := Or.inr ⟨"PagePairs", (mem_tb (List.mem_of_getElem? (i := 78) (by decide +kernel)))⟩
theorem fX7_18 : FL RX7 18 RX7 TX7 2 := Or.inl (mem_tb (List.mem_of_getElem? (i := 79) (by decide +kernel)))
theorem flX7_18 : Cond.fieldLink RX7 18 RX7 (TX7 2).2.1 (TX7 2).2.2.1 ∈ lw_tbl := (mem_tb (List.mem_of_getElem? (i := 79) (by decide +kernel)))
theorem fX4_166 : FL RX4 166 RX7 TX7 2 := Or.inr ⟨"PagePairs", (mem_tb (List.mem_of_getElem? (i := 80) (by decide +kernel)))⟩
theorem fX7_22 : FL RX7 22 RX7 TX7 3 := Or.inl (mem_tb (List.mem_of_getElem? (i := 81) (by decide +kernel)))
theorem flX7_22 : Cond.fieldLink RX7 22 RX7 (TX7 3).2.1 (TX7 3).2.2.1 ∈ lw_tbl := (mem_tb (List.mem_of_getElem? (i := 81) (by decide +kernel)))
theorem fX4_171 : FL RX4 171 RX7 TX7 3 := Or.inr ⟨"PagePairs", (mem_tb (List.mem_of_getElem? (i := 82) (by decide +kernel)))⟩
theorem fX7_25 : FL RX7 25 RX7 TX7 4 := Or.inl (mem_tb (List.mem_of_getElem? (i := 83) (by decide +kernel)))
theorem flX7_25 : Cond.fieldLink RX7 25 RX7 (TX7 4).2.1 (TX7 4).2.2.1 ∈ lw_tbl := (mem_tb (List.mem_of_getElem? (i := 83) (by decide +kernel)))
theorem fX4_177 : FL RX4 177 RX7 TX7 4 := Or.inr ⟨"PagePairs", (mem_tb (List.mem_of_getElem? (i := 84) (by decide +kernel)))⟩
theorem fX7_28 : FL RX7 28 RX7 TX7 5 := Or.inl (mem_tb (List.mem_of_getElem? (i := 85) (by decide +kernel)))
theorem flX7_28 : Cond.fieldLink RX7 28 RX7 (TX7 5).2.1 (TX7 5).2.2.1 ∈ lw_tbl := (mem_tb (List.mem_of_getElem? (i := 85) (by decide +kernel)))
theorem fX4_180 : FL RX4 180 RX7 TX7 5 := Or.inr ⟨"PagePairs", (mem_tb (List.mem_of_getElem? (i := 86) (by decide +kernel)))⟩
theorem fX7_31 : FL RX7 31 RX7 TX7 6 := Or.inl (mem_tb (List.mem_of_getElem? (i := 87) (by decide +kernel)))
theorem flX7_31 : Cond.fieldLink RX7 31 RX7 (TX7 6).2.1 (TX7 6).2.2.1 ∈ lw_tbl := (mem_tb (List.mem_of_getElem? (i := 87) (by decide +kernel)))
theorem fX4_186 : FL RX4 186 RX7 TX7 6 := Or.inr ⟨"PagePairs", (mem_tb (List.mem_of_getElem? (i := 88) (by decide +kernel)))⟩
theorem fX7_34 : FL RX7 34 RX7 TX7 7 := Or.inl (mem_tb (List.mem_of_getElem? (i := 89) (by decide +kernel)))
theorem flX7_34 : Cond.fieldLink RX7 34 RX7 (TX7 7).2.1 (TX7 7).2.2.1 ∈ lw_tbl := (mem_tb (List.mem_of_getElem? (i := 89) (by decide +kernel)))
theorem fX4_111 : FL RX4 111 RX7 TX7 7 := Or.inr ⟨"PagePairs", (mem_tb (List.mem_of_getElem? (i := 90) (by decide +kernel)))⟩
theorem fX5_7 : FL RX5 7 RX5 TX5 0 := Or.inl (mem_tb (List.mem_of_getElem? (i := 114) (by decide +kernel)))
theorem flX5_7 : Cond.fieldLink RX5 7 RX5 (TX5 0).2.1 (TX5 0).2.2.1 ∈ lw_tbl := (mem_tb (List.mem_of_getElem? (i := 114) (by decide +kernel)))
theorem fX4_95 : FL RX4 95 RX5 TX5 0 := Or.inr ⟨"PagePairs", (mem_tb (List.mem_of_getElem? (i := 115) (by decide +kernel)))⟩
theorem fX5_13 : FL RX5 13 RX5 TX5 1 := Or.inl (mem_tb (List.mem_of_getElem? (i := 116) (by decide +kernel)))
theorem flX5_13 : Cond.fieldLink RX5 13 RX5 (TX5 1).2.1 (TX5 1).2.2.1 ∈ lw_tbl := (mem_tb (List.mem_of_getElem? (i := 116) (by decide +kernel)))
theorem fX4_189 : FL RX4 189 RX5 TX5 1 := Or.inr ⟨"PagePairs", (mem_tb (List.mem_of_getElem? (i := 117) (by decide +kernel)))⟩
theorem fX5_16 : FL RX5 16 RX5 TX5 2 := Or.inl (mem_tb (List.mem_of_getElem? (i := 118) (by decide +kernel)))
theorem flX5_16 : Cond.fieldLink RX5 16 RX5 (TX5 2).2.1 (TX5 2).2.2.1 ∈ lw_tbl := (mem_tb (List.mem_of_getElem? (i := 118) (by decide +kernel)))
theorem fX4_98 : FL RX4 98 RX5 TX5 2 := Or.inr ⟨"PagePairs", (mem_tb (List.mem_of_getElem? (i := 119) (by decide +kernel)))⟩
theorem fX5_19 : FL RX5 19 RX5 TX5 3 := Or.inl (mem_tb (List.mem_of_getElem? (i := 120) (by decide +kernel)))
theorem flX5_19 : Cond.fieldLink RX5 19 RX5 (TX5 3).2.1 (TX5 3).2.2.1 ∈ lw_tbl := (mem_tb (List.mem_of_getElem? (i := 120) (by decide +kernel)))
theorem fX4_234 : FL RX4 234 RX5 TX5 3 := Or.inr ⟨"PagePairs", (mem_tb (List.mem_of_getElem? (i := 121) (by decide +kernel)))⟩
theorem fX5_22 : FL RX5 22 RX5 TX5 4 := Or.inl (mem_tb (List.mem_of_getElem? (i := 122) (by decide +kernel)))
theorem flX5_22 : Cond.fieldLink RX5 22 RX5 (TX5 4).2.1 (TX5 4).2.2.1 ∈ lw_tbl := (mem_tb (List.mem_of_getElem? (i := 122) (by decide +kernel)))
theorem fX4_243 : FL RX4 243 RX5 TX5 4 := Or.inr ⟨"PagePairs", (mem_tb (List.mem_of_getElem? (i := 123) (by decide +kernel)))⟩
theorem fX5_25 : FL RX5 25 RX5 TX5 5 := Or.inl (mem_tb (List.mem_of_getElem? (i := 124) (by decide +kernel)))
theorem flX5_25 : Cond.fieldLink RX5 25 RX5 (TX5 5).2.1 (TX5 5).2.2.1 ∈ lw_tbl := (mem_tb (List.mem_of_getElem? (i := 124) (by decide +kernel)))
theorem fX4_231 : FL RX4 231 RX5 TX5 5 := Or.inr ⟨"PagePairs", (mem_tb (List.mem_of_getElem? (i := 125) (by decide +kernel)))⟩
theorem fX5_28 : FL RX5 28 RX5 TX5 6 := Or.inl (mem_tb (List.mem_of_getElem? (i := 126) (by decide +kernel)))
theorem flX5_28 : Cond.fieldLink RX5 28 RX5 (TX5 6).2.1 (TX5 6).2.2.1 ∈ lw_tbl := (mem_tb (List.mem_of_getElem? (i := 126) (by decide +kernel)))
theorem fX4_211 : FL RX4 211 RX5 TX5 6 := Or.inr ⟨"PagePairs", (mem_tb (List.mem_of_getElem? (i := 127) (by decide +kernel)))⟩
theorem gsX4_56 : (Cond.fieldLink RX4 56 "PagePairs" (stn 0) "[I" ∈ lw_tbl) ∨ ∃ host : String, Cond.fieldLinkNest RX4 56 "PagePairs" (stn 0) "[I" host ∈ lw_tbl := Or.inr ⟨"PagePairs", (mem_tb (List.mem_of_getElem? (i := 143) (by decide +kernel)))⟩
theorem fX4_12 : FL RX4 12 RX4 TX4 0 := Or.inl (mem_tb (List.mem_of_getElem? (i := 154) (by decide +kernel)))
theorem flX4_12 : Cond.fieldLink RX4 12 RX4 (TX4 0).2.1 (TX4 0).2.2.1 ∈ lw_tbl := (mem_tb (List.mem_of_getElem? (i := 154) (by decide +kernel)))
theorem fX4_21 : FL RX4 21 RX4 TX4 1 := Or.inl (mem_tb (List.mem_of_getElem? (i := 155) (by decide +kernel)))
theorem flX4_21 : Cond.fieldLink RX4 21 RX4 (TX4 1).2.1 (TX4 1).2.2.1 ∈ lw_tbl := (mem_tb (List.mem_of_getElem? (i := 155) (by decide +kernel)))
theorem fX4_28 : FL RX4 28 RX4 TX4 2 := Or.inl (mem_tb (List.mem_of_getElem? (i := 156) (by decide +kernel)))
theorem flX4_28 : Cond.fieldLink RX4 28 RX4 (TX4 2).2.1 (TX4 2).2.2.1 ∈ lw_tbl := (mem_tb (List.mem_of_getElem? (i := 156) (by decide +kernel)))
theorem fX4_35 : FL RX4 35 RX4 TX4 3 := Or.inl (mem_tb (List.mem_of_getElem? (i := 157) (by decide +kernel)))
theorem flX4_35 : Cond.fieldLink RX4 35 RX4 (TX4 3).2.1 (TX4 3).2.2.1 ∈ lw_tbl := (mem_tb (List.mem_of_getElem? (i := 157) (by decide +kernel)))
theorem fX4_39 : FL RX4 39 RX4 TX4 4 := Or.inl (mem_tb (List.mem_of_getElem? (i := 158) (by decide +kernel)))
theorem flX4_39 : Cond.fieldLink RX4 39 RX4 (TX4 4).2.1 (TX4 4).2.2.1 ∈ lw_tbl := (mem_tb (List.mem_of_getElem? (i := 158) (by decide +kernel)))
theorem fX4_43 : FL RX4 43 RX4 TX4 5 := Or.inl (mem_tb (List.mem_of_getElem? (i := 159) (by decide +kernel)))
theorem flX4_43 : Cond.fieldLink RX4 43 RX4 (TX4 5).2.1 (TX4 5).2.2.1 ∈ lw_tbl := (mem_tb (List.mem_of_getElem? (i := 159) (by decide +kernel)))
theorem fX4_46 : FL RX4 46 RX4 TX4 6 := Or.inl (mem_tb (List.mem_of_getElem? (i := 160) (by decide +kernel)))
theorem flX4_46 : Cond.fieldLink RX4 46 RX4 (TX4 6).2.1 (TX4 6).2.2.1 ∈ lw_tbl := (mem_tb (List.mem_of_getElem? (i := 160) (by decide +kernel)))
theorem fX4_49 : FL RX4 49 RX4 TX4 7 := Or.inl (mem_tb (List.mem_of_getElem? (i := 161) (by decide +kernel)))
theorem flX4_49 : Cond.fieldLink RX4 49 RX4 (TX4 7).2.1 (TX4 7).2.2.1 ∈ lw_tbl := (mem_tb (List.mem_of_getElem? (i := 161) (by decide +kernel)))
theorem fX4_52 : FL RX4 52 RX4 TX4 8 := Or.inl (mem_tb (List.mem_of_getElem? (i := 162) (by decide +kernel)))
theorem flX4_52 : Cond.fieldLink RX4 52 RX4 (TX4 8).2.1 (TX4 8).2.2.1 ∈ lw_tbl := (mem_tb (List.mem_of_getElem? (i := 162) (by decide +kernel)))
theorem fX4_76 : FL RX4 76 RX4 TX4 9 := Or.inl (mem_tb (List.mem_of_getElem? (i := 163) (by decide +kernel)))
theorem flX4_76 : Cond.fieldLink RX4 76 RX4 (TX4 9).2.1 (TX4 9).2.2.1 ∈ lw_tbl := (mem_tb (List.mem_of_getElem? (i := 163) (by decide +kernel)))
theorem fX4_80 : FL RX4 80 RX4 TX4 10 := Or.inl (mem_tb (List.mem_of_getElem? (i := 164) (by decide +kernel)))
theorem flX4_80 : Cond.fieldLink RX4 80 RX4 (TX4 10).2.1 (TX4 10).2.2.1 ∈ lw_tbl := (mem_tb (List.mem_of_getElem? (i := 164) (by decide +kernel)))
theorem fX1_11 : FL RX1 11 RX1 TX1 0 := Or.inl (mem_tb (List.mem_of_getElem? (i := 197) (by decide +kernel)))
theorem flX1_11 : Cond.fieldLink RX1 11 RX1 (TX1 0).2.1 (TX1 0).2.2.1 ∈ lw_tbl := (mem_tb (List.mem_of_getElem? (i := 197) (by decide +kernel)))
theorem fX1_18 : FL RX1 18 RX1 TX1 1 := Or.inl (mem_tb (List.mem_of_getElem? (i := 198) (by decide +kernel)))
theorem flX1_18 : Cond.fieldLink RX1 18 RX1 (TX1 1).2.1 (TX1 1).2.2.1 ∈ lw_tbl := (mem_tb (List.mem_of_getElem? (i := 198) (by decide +kernel)))
theorem fX6_9 : FL RX6 9 RX6 TX6 0 := Or.inl (mem_tb (List.mem_of_getElem? (i := 210) (by decide +kernel)))
theorem flX6_9 : Cond.fieldLink RX6 9 RX6 (TX6 0).2.1 (TX6 0).2.2.1 ∈ lw_tbl := (mem_tb (List.mem_of_getElem? (i := 210) (by decide +kernel)))
theorem fX6_15 : FL RX6 15 RX6 TX6 1 := Or.inl (mem_tb (List.mem_of_getElem? (i := 211) (by decide +kernel)))
theorem flX6_15 : Cond.fieldLink RX6 15 RX6 (TX6 1).2.1 (TX6 1).2.2.1 ∈ lw_tbl := (mem_tb (List.mem_of_getElem? (i := 211) (by decide +kernel)))
theorem fX3_28 : FL RX3 28 RX6 TX6 2 := Or.inr ⟨"PagePairs", (mem_tb (List.mem_of_getElem? (i := 212) (by decide +kernel)))⟩
theorem fX6_27 : FL RX6 27 RX6 TX6 2 := Or.inl (mem_tb (List.mem_of_getElem? (i := 213) (by decide +kernel)))
theorem flX6_27 : Cond.fieldLink RX6 27 RX6 (TX6 2).2.1 (TX6 2).2.2.1 ∈ lw_tbl := (mem_tb (List.mem_of_getElem? (i := 213) (by decide +kernel)))
theorem fX3_51 : FL RX3 51 RX6 TX6 3 := Or.inr ⟨"PagePairs", (mem_tb (List.mem_of_getElem? (i := 214) (by decide +kernel)))⟩
theorem fX6_34 : FL RX6 34 RX6 TX6 3 := Or.inl (mem_tb (List.mem_of_getElem? (i := 215) (by decide +kernel)))
theorem flX6_34 : Cond.fieldLink RX6 34 RX6 (TX6 3).2.1 (TX6 3).2.2.1 ∈ lw_tbl := (mem_tb (List.mem_of_getElem? (i := 215) (by decide +kernel)))
theorem fX6_44 : FL RX6 44 RX6 TX6 4 := Or.inl (mem_tb (List.mem_of_getElem? (i := 216) (by decide +kernel)))
theorem flX6_44 : Cond.fieldLink RX6 44 RX6 (TX6 4).2.1 (TX6 4).2.2.1 ∈ lw_tbl := (mem_tb (List.mem_of_getElem? (i := 216) (by decide +kernel)))
theorem fX3_54 : FL RX3 54 RX6 TX6 4 := Or.inr ⟨"PagePairs", (mem_tb (List.mem_of_getElem? (i := 217) (by decide +kernel)))⟩
theorem fX6_51 : FL RX6 51 RX6 TX6 5 := Or.inl (mem_tb (List.mem_of_getElem? (i := 218) (by decide +kernel)))
theorem flX6_51 : Cond.fieldLink RX6 51 RX6 (TX6 5).2.1 (TX6 5).2.2.1 ∈ lw_tbl := (mem_tb (List.mem_of_getElem? (i := 218) (by decide +kernel)))
theorem fX3_57 : FL RX3 57 RX6 TX6 5 := Or.inr ⟨"PagePairs", (mem_tb (List.mem_of_getElem? (i := 219) (by decide +kernel)))⟩
theorem fX3_9 : FL RX3 9 RX3 TX3 0 := Or.inl (mem_tb (List.mem_of_getElem? (i := 239) (by decide +kernel)))
theorem flX3_9 : Cond.fieldLink RX3 9 RX3 (TX3 0).2.1 (TX3 0).2.2.1 ∈ lw_tbl := (mem_tb (List.mem_of_getElem? (i := 239) (by decide +kernel)))
theorem fX3_15 : FL RX3 15 RX3 TX3 1 := Or.inl (mem_tb (List.mem_of_getElem? (i := 240) (by decide +kernel)))
theorem flX3_15 : Cond.fieldLink RX3 15 RX3 (TX3 1).2.1 (TX3 1).2.2.1 ∈ lw_tbl := (mem_tb (List.mem_of_getElem? (i := 240) (by decide +kernel)))
theorem fX3_31 : FL RX3 31 RX3 TX3 2 := Or.inl (mem_tb (List.mem_of_getElem? (i := 241) (by decide +kernel)))
theorem flX3_31 : Cond.fieldLink RX3 31 RX3 (TX3 2).2.1 (TX3 2).2.2.1 ∈ lw_tbl := (mem_tb (List.mem_of_getElem? (i := 241) (by decide +kernel)))
theorem fX3_45 : FL RX3 45 RX3 TX3 3 := Or.inl (mem_tb (List.mem_of_getElem? (i := 242) (by decide +kernel)))
theorem flX3_45 : Cond.fieldLink RX3 45 RX3 (TX3 3).2.1 (TX3 3).2.2.1 ∈ lw_tbl := (mem_tb (List.mem_of_getElem? (i := 242) (by decide +kernel)))
theorem fX3_48 : FL RX3 48 RX3 TX3 4 := Or.inl (mem_tb (List.mem_of_getElem? (i := 243) (by decide +kernel)))
theorem flX3_48 : Cond.fieldLink RX3 48 RX3 (TX3 4).2.1 (TX3 4).2.2.1 ∈ lw_tbl := (mem_tb (List.mem_of_getElem? (i := 243) (by decide +kernel)))
theorem fX8_12 : FL RX8 12 RX8 TX8 0 := Or.inl (mem_tb (List.mem_of_getElem? (i := 255) (by decide +kernel)))
theorem flX8_12 : Cond.fieldLink RX8 12 RX8 (TX8 0).2.1 (TX8 0).2.2.1 ∈ lw_tbl := (mem_tb (List.mem_of_getElem? (i := 255) (by decide +kernel)))
theorem fX8_16 : FL RX8 16 RX8 TX8 1 := Or.inl (mem_tb (List.mem_of_getElem? (i := 256) (by decide +kernel)))
theorem flX8_16 : Cond.fieldLink RX8 16 RX8 (TX8 1).2.1 (TX8 1).2.2.1 ∈ lw_tbl := (mem_tb (List.mem_of_getElem? (i := 256) (by decide +kernel)))
theorem fX8_22 : FL RX8 22 RX8 TX8 2 := Or.inl (mem_tb (List.mem_of_getElem? (i := 257) (by decide +kernel)))
theorem flX8_22 : Cond.fieldLink RX8 22 RX8 (TX8 2).2.1 (TX8 2).2.2.1 ∈ lw_tbl := (mem_tb (List.mem_of_getElem? (i := 257) (by decide +kernel)))
theorem fX8_29 : FL RX8 29 RX8 TX8 3 := Or.inl (mem_tb (List.mem_of_getElem? (i := 258) (by decide +kernel)))
theorem flX8_29 : Cond.fieldLink RX8 29 RX8 (TX8 3).2.1 (TX8 3).2.2.1 ∈ lw_tbl := (mem_tb (List.mem_of_getElem? (i := 258) (by decide +kernel)))
theorem fX8_36 : FL RX8 36 RX8 TX8 4 := Or.inl (mem_tb (List.mem_of_getElem? (i := 259) (by decide +kernel)))
theorem flX8_36 : Cond.fieldLink RX8 36 RX8 (TX8 4).2.1 (TX8 4).2.2.1 ∈ lw_tbl := (mem_tb (List.mem_of_getElem? (i := 259) (by decide +kernel)))
theorem gsX4_153 : (Cond.fieldLink RX4 153 "PagePairs" (stn 1) "[I" ∈ lw_tbl) ∨ ∃ host : String, Cond.fieldLinkNest RX4 153 "PagePairs" (stn 1) "[I" host ∈ lw_tbl := Or.inr ⟨"PagePairs", (mem_tb (List.mem_of_getElem? (i := 375) (by decide +kernel)))⟩
theorem gsX4_160 : (Cond.fieldLink RX4 160 "PagePairs" (stn 2) "[I" ∈ lw_tbl) ∨ ∃ host : String, Cond.fieldLinkNest RX4 160 "PagePairs" (stn 2) "[I" host ∈ lw_tbl := Or.inr ⟨"PagePairs", (mem_tb (List.mem_of_getElem? (i := 377) (by decide +kernel)))⟩
theorem gsX4_271 : (Cond.fieldLink RX4 271 "PagePairs" (stn 3) "[I" ∈ lw_tbl) ∨ ∃ host : String, Cond.fieldLinkNest RX4 271 "PagePairs" (stn 3) "[I" host ∈ lw_tbl := Or.inr ⟨"PagePairs", (mem_tb (List.mem_of_getElem? (i := 663) (by decide +kernel)))⟩
theorem gsX4_274 : (Cond.fieldLink RX4 274 "PagePairs" (stn 4) "[I" ∈ lw_tbl) ∨ ∃ host : String, Cond.fieldLinkNest RX4 274 "PagePairs" (stn 4) "[I" host ∈ lw_tbl := Or.inr ⟨"PagePairs", (mem_tb (List.mem_of_getElem? (i := 665) (by decide +kernel)))⟩
abbrev M_J6_bitCount_0f7a4 : MT := (yJ6_bitCount_0f7a4, cJ6_bitCount_0f7a4, 1, some .int, 0, 0, 0, 0)
abbrev M_J9_max_7cf53 : MT := (yJ9_max_7cf53, cJ9_max_7cf53, 2, some .int, 0, 0, 0, 0)
abbrev M_J9_min_7cf53 : MT := (yJ9_min_7cf53, cJ9_min_7cf53, 2, some .int, 0, 0, 0, 0)
abbrev M_L_acts : MT := (yL_acts, cL_acts, 13, some .boolean, 9, 205, 0, 0)
abbrev M_L_digest : MT := (yL_digest, cL_digest, 4, some .long, 4, 90, 0, 0)
abbrev M_L_digits : MT := (yL_digits, cL_digits, 3, some .boolean, 3, 64, 0, 0)
abbrev M_L_holds : MT := (yL_holds, cL_holds, 8, some .boolean, 4, 90, 0, 0)
abbrev M_L_law : MT := (yL_law, cL_law, 11, some .boolean, 12, 474, 600000, 7302250)
abbrev M_L_lot : MT := (yL_lot, cL_lot, 2, some .int, 0, 0, 0, 0)
abbrev M_L_low : MT := (yL_low, cL_low, 2, some .int, 0, 0, 0, 0)
abbrev M_L_reads : MT := (yL_reads, cL_reads, 8, some .boolean, 8, 178, 0, 0)
abbrev M_L_types : MT := (yL_types, cL_types, 8, some .boolean, 4, 86, 0, 0)
abbrev M_X0_begin : MT := (yX0_begin, cX0_begin, 5, none, 0, 0, 0, 0)
abbrev M_X0_beginBackup : MT := (yX0_beginBackup, cX0_beginBackup, 3, none, 0, 0, 0, 0)
abbrev M_X0_blankBlock : MT := (yX0_blankBlock, cX0_blankBlock, 3, none, 1, 22, 0, 0)
abbrev M_X0_copyFrom : MT := (yX0_copyFrom, cX0_copyFrom, 2, none, 2, 51, 0, 0)
abbrev M_X0_fact : MT := (yX0_fact, cX0_fact, 3, some .int, 1, 21, 0, 0)
abbrev M_X0_init : MT := (yX0_init, cX0_init, 1, none, 1, 20, 4, 192)
abbrev M_X0_isBlankBlock : MT := (yX0_isBlankBlock, cX0_isBlankBlock, 3, some .boolean, 1, 21, 0, 0)
abbrev M_X0_isPlace : MT := (yX0_isPlace, cX0_isPlace, 2, some .boolean, 1, 24, 0, 0)
abbrev M_X0_key : MT := (yX0_key, cX0_key, 2, some .int, 0, 0, 0, 0)
abbrev M_X0_keysWithPlace : MT := (yX0_keysWithPlace, cX0_keysWithPlace, 3, some .int, 1, 24, 0, 0)
abbrev M_X0_kind : MT := (yX0_kind, cX0_kind, 2, some .int, 0, 0, 0, 0)
abbrev M_X0_mark : MT := (yX0_mark, cX0_mark, 3, none, 0, 0, 0, 0)
abbrev M_X0_place : MT := (yX0_place, cX0_place, 5, some .int, 0, 0, 0, 0)
abbrev M_X0_placeStamp : MT := (yX0_placeStamp, cX0_placeStamp, 3, some .int, 1, 24, 0, 0)
abbrev M_X0_placesInBlock : MT := (yX0_placesInBlock, cX0_placesInBlock, 4, some .int, 2, 45, 0, 0)
abbrev M_X0_stamp : MT := (yX0_stamp, cX0_stamp, 2, some .int, 0, 0, 0, 0)
abbrev M_X0_tornPages : MT := (yX0_tornPages, cX0_tornPages, 3, some .int, 0, 0, 0, 0)
abbrev M_X0_value : MT := (yX0_value, cX0_value, 2, some .int, 0, 0, 0, 0)
abbrev M_X1_dropOldest : MT := (yX1_dropOldest, cX1_dropOldest, 3, none, 1, 21, 0, 0)
abbrev M_X1_init : MT := (yX1_init, cX1_init, 2, none, 3, 71, 86, 1430)
abbrev M_X1_keep : MT := (yX1_keep, cX1_keep, 1, none, 2, 43, 0, 0)
abbrev M_X1_note : MT := (yX1_note, cX1_note, 3, none, 4, 93, 0, 0)
abbrev M_X1_restore : MT := (yX1_restore, cX1_restore, 3, some .int, 4, 93, 0, 0)
abbrev M_X1_size : MT := (yX1_size, cX1_size, 1, some .int, 0, 0, 0, 0)
abbrev M_X1_stateAt : MT := (yX1_stateAt, cX1_stateAt, 2, some (.object "PagePairs$State"), 0, 0, 0, 0)
abbrev M_X2_add : MT := (yX2_add, cX2_add, 7, none, 1, 25, 0, 0)
abbrev M_X2_copyFrom : MT := (yX2_copyFrom, cX2_copyFrom, 2, none, 2, 51, 0, 0)
abbrev M_X2_dropFirst : MT := (yX2_dropFirst, cX2_dropFirst, 2, none, 1, 22, 0, 0)
abbrev M_X2_init : MT := (yX2_init, cX2_init, 1, none, 1, 20, 4, 32)
abbrev M_X2_key : MT := (yX2_key, cX2_key, 2, some .int, 0, 0, 0, 0)
abbrev M_X2_makeEmpty : MT := (yX2_makeEmpty, cX2_makeEmpty, 1, none, 0, 0, 0, 0)
abbrev M_X2_move : MT := (yX2_move, cX2_move, 3, none, 0, 0, 0, 0)
abbrev M_X2_put : MT := (yX2_put, cX2_put, 6, none, 0, 0, 0, 0)
abbrev M_X2_size : MT := (yX2_size, cX2_size, 1, some .int, 0, 0, 0, 0)
abbrev M_X2_stamp : MT := (yX2_stamp, cX2_stamp, 2, some .int, 0, 0, 0, 0)
abbrev M_X2_urgency : MT := (yX2_urgency, cX2_urgency, 2, some .int, 0, 0, 0, 0)
abbrev M_X2_value : MT := (yX2_value, cX2_value, 2, some .int, 0, 0, 0, 0)
abbrev M_X3_commandsDone : MT := (yX3_commandsDone, cX3_commandsDone, 1, some .int, 0, 0, 0, 0)
abbrev M_X3_faultFact : MT := (yX3_faultFact, cX3_faultFact, 2, some .int, 0, 0, 0, 0)
abbrev M_X3_hasFault : MT := (yX3_hasFault, cX3_hasFault, 1, some .boolean, 0, 0, 0, 0)
abbrev M_X3_init : MT := (yX3_init, cX3_init, 1, none, 1, 20, 0, 0)
abbrev M_X3_perform : MT := (yX3_perform, cX3_perform, 2, some .int, 5, 112, 0, 0)
abbrev M_X3_run : MT := (yX3_run, cX3_run, 5, none, 6, 133, 0, 0)
abbrev M_X3_tellFault : MT := (yX3_tellFault, cX3_tellFault, 3, none, 0, 0, 0, 0)
abbrev M_X4_askFor : MT := (yX4_askFor, cX4_askFor, 4, some .int, 2, 51, 0, 0)
abbrev M_X4_askForCopy : MT := (yX4_askForCopy, cX4_askForCopy, 3, none, 2, 51, 0, 0)
abbrev M_X4_backupFact : MT := (yX4_backupFact, cX4_backupFact, 5, some .int, 2, 43, 0, 0)
abbrev M_X4_beginWriting : MT := (yX4_beginWriting, cX4_beginWriting, 2, none, 1, 24, 0, 0)
abbrev M_X4_changeSetting : MT := (yX4_changeSetting, cX4_changeSetting, 4, some .int, 1, 22, 0, 0)
abbrev M_X4_changeSlowness : MT := (yX4_changeSlowness, cX4_changeSlowness, 4, some .int, 1, 22, 0, 0)
abbrev M_X4_cleanBlock : MT := (yX4_cleanBlock, cX4_cleanBlock, 4, some .int, 3, 73, 0, 0)
abbrev M_X4_copyFrom : MT := (yX4_copyFrom, cX4_copyFrom, 2, none, 3, 72, 0, 0)
abbrev M_X4_cutPower : MT := (yX4_cutPower, cX4_cutPower, 1, some .int, 3, 68, 0, 0)
abbrev M_X4_eraseBlock : MT := (yX4_eraseBlock, cX4_eraseBlock, 3, some .int, 3, 68, 0, 0)
abbrev M_X4_finishWriting : MT := (yX4_finishWriting, cX4_finishWriting, 1, none, 1, 22, 0, 0)
abbrev M_X4_goOn : MT := (yX4_goOn, cX4_goOn, 2, none, 2, 42, 0, 0)
abbrev M_X4_init : MT := (yX4_init, cX4_init, 1, none, 2, 51, 16, 274)
abbrev M_X4_isFull : MT := (yX4_isFull, cX4_isFull, 1, some .boolean, 0, 0, 0, 0)
abbrev M_X4_isOutdated : MT := (yX4_isOutdated, cX4_isOutdated, 3, some .boolean, 1, 24, 0, 0)
abbrev M_X4_letTicks : MT := (yX4_letTicks, cX4_letTicks, 3, some .int, 4, 90, 0, 0)
abbrev M_X4_loseByCut : MT := (yX4_loseByCut, cX4_loseByCut, 3, some .int, 2, 46, 0, 0)
abbrev M_X4_numberOf : MT := (yX4_numberOf, cX4_numberOf, 2, some .int, 2, 46, 0, 0)
abbrev M_X4_pageFact : MT := (yX4_pageFact, cX4_pageFact, 5, some .int, 2, 43, 0, 0)
abbrev M_X4_pass : MT := (yX4_pass, cX4_pass, 4, none, 3, 67, 0, 0)
abbrev M_X4_placeFact : MT := (yX4_placeFact, cX4_placeFact, 4, some .int, 1, 24, 0, 0)
abbrev M_X4_requestFact : MT := (yX4_requestFact, cX4_requestFact, 3, some .int, 1, 22, 0, 0)
abbrev M_X4_restorePower : MT := (yX4_restorePower, cX4_restorePower, 3, some .int, 3, 73, 0, 0)
abbrev M_X4_settingOrSlowness : MT := (yX4_settingOrSlowness, cX4_settingOrSlowness, 2, some .int, 1, 22, 0, 0)
abbrev M_X4_takeRequests : MT := (yX4_takeRequests, cX4_takeRequests, 2, none, 2, 46, 0, 0)
abbrev M_X4_tearWriting : MT := (yX4_tearWriting, cX4_tearWriting, 1, none, 1, 22, 0, 0)
abbrev M_X4_turnToOther : MT := (yX4_turnToOther, cX4_turnToOther, 2, some .int, 2, 43, 0, 0)
abbrev M_X5_copyFrom : MT := (yX5_copyFrom, cX5_copyFrom, 2, none, 0, 0, 0, 0)
abbrev M_X5_init : MT := (yX5_init, cX5_init, 1, none, 1, 20, 0, 0)
abbrev M_X6_append : MT := (yX6_append, cX6_append, 2, some .int, 1, 22, 0, 0)
abbrev M_X6_hasMore : MT := (yX6_hasMore, cX6_hasMore, 1, some .boolean, 0, 0, 0, 0)
abbrev M_X6_init : MT := (yX6_init, cX6_init, 1, none, 1, 20, 1, 60)
abbrev M_X6_length : MT := (yX6_length, cX6_length, 1, some .int, 0, 0, 0, 0)
abbrev M_X6_makeEmpty : MT := (yX6_makeEmpty, cX6_makeEmpty, 2, some .int, 0, 0, 0, 0)
abbrev M_X6_numbersOf : MT := (yX6_numbersOf, cX6_numbersOf, 1, some .int, 0, 0, 0, 0)
abbrev M_X6_readCommand : MT := (yX6_readCommand, cX6_readCommand, 2, some .boolean, 3, 63, 0, 0)
abbrev M_X6_readNumber : MT := (yX6_readNumber, cX6_readNumber, 3, some .int, 2, 41, 0, 0)
abbrev M_X6_readSign : MT := (yX6_readSign, cX6_readSign, 3, some .boolean, 2, 41, 0, 0)
abbrev M_X6_rewind : MT := (yX6_rewind, cX6_rewind, 1, none, 0, 0, 0, 0)
abbrev M_X6_sign : MT := (yX6_sign, cX6_sign, 1, some .int, 1, 21, 0, 0)
abbrev M_X7_copyFrom : MT := (yX7_copyFrom, cX7_copyFrom, 2, none, 0, 0, 0, 0)
abbrev M_X7_hasBegunItself : MT := (yX7_hasBegunItself, cX7_hasBegunItself, 1, some .boolean, 0, 0, 0, 0)
abbrev M_X7_init : MT := (yX7_init, cX7_init, 1, none, 1, 20, 0, 0)
abbrev M_X7_isAskedFor : MT := (yX7_isAskedFor, cX7_isAskedFor, 1, some .boolean, 0, 0, 0, 0)
abbrev M_X7_isBehindBackup : MT := (yX7_isBehindBackup, cX7_isBehindBackup, 1, some .boolean, 0, 0, 0, 0)
abbrev M_X8_backupOf : MT := (yX8_backupOf, cX8_backupOf, 4, some .int, 3, 67, 0, 0)
abbrev M_X8_cellOf : MT := (yX8_cellOf, cX8_cellOf, 2, some .int, 0, 0, 0, 0)
abbrev M_X8_clean : MT := (yX8_clean, cX8_clean, 2, some .int, 5, 115, 0, 0)
abbrev M_X8_clearText : MT := (yX8_clearText, cX8_clearText, 1, some .int, 1, 21, 0, 0)
abbrev M_X8_copyRow : MT := (yX8_copyRow, cX8_copyRow, 2, none, 1, 30, 0, 0)
abbrev M_X8_count : MT := (yX8_count, cX8_count, 2, some .int, 3, 67, 0, 0)
abbrev M_X8_cut : MT := (yX8_cut, cX8_cut, 1, some .int, 5, 115, 0, 0)
abbrev M_X8_earlyPosition : MT := (yX8_earlyPosition, cX8_earlyPosition, 1, some .int, 0, 0, 0, 0)
abbrev M_X8_erase : MT := (yX8_erase, cX8_erase, 2, some .int, 5, 115, 0, 0)
abbrev M_X8_fault : MT := (yX8_fault, cX8_fault, 2, some .int, 7, 157, 0, 0)
abbrev M_X8_init : MT := (yX8_init, cX8_init, 1, none, 4, 92, 124, 2073)
abbrev M_X8_isIn : MT := (yX8_isIn, cX8_isIn, 3, some .boolean, 0, 0, 0, 0)
abbrev M_X8_keepChange : MT := (yX8_keepChange, cX8_keepChange, 2, some .int, 3, 63, 0, 0)
abbrev M_X8_on : MT := (yX8_on, cX8_on, 1, some .int, 5, 115, 0, 0)
abbrev M_X8_pageOf : MT := (yX8_pageOf, cX8_pageOf, 4, some .int, 3, 67, 0, 0)
abbrev M_X8_placeOf : MT := (yX8_placeOf, cX8_placeOf, 3, some .int, 2, 47, 0, 0)
abbrev M_X8_play : MT := (yX8_play, cX8_play, 1, some .int, 7, 157, 0, 0)
abbrev M_X8_putAt : MT := (yX8_putAt, cX8_putAt, 3, none, 0, 0, 0, 0)
abbrev M_X8_quotient : MT := (yX8_quotient, cX8_quotient, 2, some .int, 0, 0, 0, 0)
abbrev M_X8_set : MT := (yX8_set, cX8_set, 3, some .int, 5, 115, 0, 0)
abbrev M_X8_slow : MT := (yX8_slow, cX8_slow, 3, some .int, 5, 115, 0, 0)
abbrev M_X8_tick : MT := (yX8_tick, cX8_tick, 2, some .int, 5, 115, 0, 0)
abbrev M_X8_turn : MT := (yX8_turn, cX8_turn, 1, some .int, 5, 115, 0, 0)
abbrev M_X8_type : MT := (yX8_type, cX8_type, 2, some .int, 2, 43, 0, 0)
abbrev M_X8_undo : MT := (yX8_undo, cX8_undo, 1, some .int, 5, 115, 0, 0)
abbrev M_X8_valueAt : MT := (yX8_valueAt, cX8_valueAt, 2, some .int, 0, 0, 0, 0)
abbrev M_X8_waits : MT := (yX8_waits, cX8_waits, 3, some .int, 2, 44, 0, 0)
abbrev M_X8_write : MT := (yX8_write, cX8_write, 4, some .int, 5, 115, 0, 0)
theorem oiX0_3 : Cond.methodLink RX0 3 Lib.objectInit ∈ lw_tbl := (mem_tb (List.mem_of_getElem? (i := 32) (by decide +kernel)))
theorem clX0_24 : CLS RX0 24 M_X8_copyRow 2 := ⟨⟨Or.inr ⟨"PagePairs", (mem_tb (List.mem_of_getElem? (i := 333) (by decide +kernel)))⟩, (mem_tb (List.mem_of_getElem? (i := 147) (by decide +kernel))), (mem_tb (List.mem_of_getElem? (i := 1) (by decide +kernel))), by decide +kernel, by decide +kernel⟩, (mem_tb (List.mem_of_getElem? (i := 146) (by decide +kernel)))⟩
theorem clX0_28 : CLV RX0 28 M_X0_key 1 := ⟨⟨Or.inl (mem_tb (List.mem_of_getElem? (i := 383) (by decide +kernel))), (mem_tb (List.mem_of_getElem? (i := 386) (by decide +kernel))), (mem_tb (List.mem_of_getElem? (i := 3) (by decide +kernel))), by decide +kernel, by decide +kernel⟩, (mem_tb (List.mem_of_getElem? (i := 384) (by decide +kernel))), (mem_tb (List.mem_of_getElem? (i := 385) (by decide +kernel)))⟩
theorem clX0_32 : CLV RX0 32 M_X0_value 1 := ⟨⟨Or.inl (mem_tb (List.mem_of_getElem? (i := 387) (by decide +kernel))), (mem_tb (List.mem_of_getElem? (i := 390) (by decide +kernel))), (mem_tb (List.mem_of_getElem? (i := 3) (by decide +kernel))), by decide +kernel, by decide +kernel⟩, (mem_tb (List.mem_of_getElem? (i := 388) (by decide +kernel))), (mem_tb (List.mem_of_getElem? (i := 389) (by decide +kernel)))⟩
theorem clX0_35 : CLV RX0 35 M_X0_stamp 1 := ⟨⟨Or.inl (mem_tb (List.mem_of_getElem? (i := 391) (by decide +kernel))), (mem_tb (List.mem_of_getElem? (i := 394) (by decide +kernel))), (mem_tb (List.mem_of_getElem? (i := 3) (by decide +kernel))), by decide +kernel, by decide +kernel⟩, (mem_tb (List.mem_of_getElem? (i := 392) (by decide +kernel))), (mem_tb (List.mem_of_getElem? (i := 393) (by decide +kernel)))⟩
theorem clX0_38 : CLS RX0 38 M_X8_cellOf 2 := ⟨⟨Or.inr ⟨"PagePairs", (mem_tb (List.mem_of_getElem? (i := 617) (by decide +kernel)))⟩, (mem_tb (List.mem_of_getElem? (i := 370) (by decide +kernel))), (mem_tb (List.mem_of_getElem? (i := 1) (by decide +kernel))), by decide +kernel, by decide +kernel⟩, (mem_tb (List.mem_of_getElem? (i := 369) (by decide +kernel)))⟩
theorem clX0_42 : CLV RX0 42 M_X0_mark 2 := ⟨⟨Or.inl (mem_tb (List.mem_of_getElem? (i := 643) (by decide +kernel))), (mem_tb (List.mem_of_getElem? (i := 543) (by decide +kernel))), (mem_tb (List.mem_of_getElem? (i := 3) (by decide +kernel))), by decide +kernel, by decide +kernel⟩, (mem_tb (List.mem_of_getElem? (i := 541) (by decide +kernel))), (mem_tb (List.mem_of_getElem? (i := 542) (by decide +kernel)))⟩
theorem clX0_46 : CLV RX0 46 M_X0_kind 1 := ⟨⟨Or.inl (mem_tb (List.mem_of_getElem? (i := 602) (by decide +kernel))), (mem_tb (List.mem_of_getElem? (i := 374) (by decide +kernel))), (mem_tb (List.mem_of_getElem? (i := 3) (by decide +kernel))), by decide +kernel, by decide +kernel⟩, (mem_tb (List.mem_of_getElem? (i := 372) (by decide +kernel))), (mem_tb (List.mem_of_getElem? (i := 373) (by decide +kernel)))⟩
theorem clX0_49 : CLV RX0 49 M_X0_place 1 := ⟨⟨Or.inl (mem_tb (List.mem_of_getElem? (i := 299) (by decide +kernel))), (mem_tb (List.mem_of_getElem? (i := 302) (by decide +kernel))), (mem_tb (List.mem_of_getElem? (i := 3) (by decide +kernel))), by decide +kernel, by decide +kernel⟩, (mem_tb (List.mem_of_getElem? (i := 300) (by decide +kernel))), (mem_tb (List.mem_of_getElem? (i := 301) (by decide +kernel)))⟩
theorem clX0_52 : CLV RX0 52 M_X0_isPlace 1 := ⟨⟨Or.inl (mem_tb (List.mem_of_getElem? (i := 630) (by decide +kernel))), (mem_tb (List.mem_of_getElem? (i := 601) (by decide +kernel))), (mem_tb (List.mem_of_getElem? (i := 3) (by decide +kernel))), by decide +kernel, by decide +kernel⟩, (mem_tb (List.mem_of_getElem? (i := 599) (by decide +kernel))), (mem_tb (List.mem_of_getElem? (i := 600) (by decide +kernel)))⟩
theorem oiX1_3 : Cond.methodLink RX1 3 Lib.objectInit ∈ lw_tbl := (mem_tb (List.mem_of_getElem? (i := 193) (by decide +kernel)))
theorem clX1_17 : CLI RX1 17 M_X4_init 0 := ⟨⟨Or.inl (mem_tb (List.mem_of_getElem? (i := 196) (by decide +kernel))), (mem_tb (List.mem_of_getElem? (i := 25) (by decide +kernel))), (mem_tb (List.mem_of_getElem? (i := 2) (by decide +kernel))), by decide +kernel, by decide +kernel⟩, by decide +kernel, (mem_tb (List.mem_of_getElem? (i := 24) (by decide +kernel))), rfl⟩
theorem clX1_22 : CLV RX1 22 M_X1_stateAt 1 := ⟨⟨Or.inl (mem_tb (List.mem_of_getElem? (i := 321) (by decide +kernel))), (mem_tb (List.mem_of_getElem? (i := 324) (by decide +kernel))), (mem_tb (List.mem_of_getElem? (i := 9) (by decide +kernel))), by decide +kernel, by decide +kernel⟩, (mem_tb (List.mem_of_getElem? (i := 323) (by decide +kernel))), (mem_sel (List.mem_of_getElem? (i := 1) (by decide +kernel)))⟩
theorem clX1_26 : CLV RX1 26 M_X4_copyFrom 1 := ⟨⟨Or.inl (mem_tb (List.mem_of_getElem? (i := 325) (by decide +kernel))), (mem_tb (List.mem_of_getElem? (i := 328) (by decide +kernel))), (mem_tb (List.mem_of_getElem? (i := 2) (by decide +kernel))), by decide +kernel, by decide +kernel⟩, (mem_tb (List.mem_of_getElem? (i := 326) (by decide +kernel))), (mem_tb (List.mem_of_getElem? (i := 327) (by decide +kernel)))⟩
theorem clX1_30 : CLV RX1 30 M_X1_dropOldest 0 := ⟨⟨Or.inl (mem_tb (List.mem_of_getElem? (i := 473) (by decide +kernel))), (mem_tb (List.mem_of_getElem? (i := 476) (by decide +kernel))), (mem_tb (List.mem_of_getElem? (i := 9) (by decide +kernel))), by decide +kernel, by decide +kernel⟩, (mem_tb (List.mem_of_getElem? (i := 475) (by decide +kernel))), (mem_sel (List.mem_of_getElem? (i := 5) (by decide +kernel)))⟩
theorem oiX2_3 : Cond.methodLink RX2 3 Lib.objectInit ∈ lw_tbl := (mem_tb (List.mem_of_getElem? (i := 52) (by decide +kernel)))
theorem clX2_24 : CLS RX2 24 M_X8_copyRow 2 := ⟨⟨Or.inr ⟨"PagePairs", (mem_tb (List.mem_of_getElem? (i := 338) (by decide +kernel)))⟩, (mem_tb (List.mem_of_getElem? (i := 147) (by decide +kernel))), (mem_tb (List.mem_of_getElem? (i := 1) (by decide +kernel))), by decide +kernel, by decide +kernel⟩, (mem_tb (List.mem_of_getElem? (i := 146) (by decide +kernel)))⟩
theorem clX2_32 : CLV RX2 32 M_X2_urgency 1 := ⟨⟨Or.inl (mem_tb (List.mem_of_getElem? (i := 456) (by decide +kernel))), (mem_tb (List.mem_of_getElem? (i := 422) (by decide +kernel))), (mem_tb (List.mem_of_getElem? (i := 4) (by decide +kernel))), by decide +kernel, by decide +kernel⟩, (mem_tb (List.mem_of_getElem? (i := 420) (by decide +kernel))), (mem_tb (List.mem_of_getElem? (i := 421) (by decide +kernel)))⟩
theorem clX2_36 : CLV RX2 36 M_X2_move 2 := ⟨⟨Or.inl (mem_tb (List.mem_of_getElem? (i := 457) (by decide +kernel))), (mem_tb (List.mem_of_getElem? (i := 460) (by decide +kernel))), (mem_tb (List.mem_of_getElem? (i := 4) (by decide +kernel))), by decide +kernel, by decide +kernel⟩, (mem_tb (List.mem_of_getElem? (i := 459) (by decide +kernel))), (mem_sel (List.mem_of_getElem? (i := 2) (by decide +kernel)))⟩
theorem clX2_40 : CLV RX2 40 M_X2_put 5 := ⟨⟨Or.inl (mem_tb (List.mem_of_getElem? (i := 461) (by decide +kernel))), (mem_tb (List.mem_of_getElem? (i := 464) (by decide +kernel))), (mem_tb (List.mem_of_getElem? (i := 4) (by decide +kernel))), by decide +kernel, by decide +kernel⟩, (mem_tb (List.mem_of_getElem? (i := 463) (by decide +kernel))), (mem_sel (List.mem_of_getElem? (i := 3) (by decide +kernel)))⟩
theorem clX2_44 : CLS RX2 44 M_J9_max_7cf53 2 := ⟨⟨Or.inl (mem_tb (List.mem_of_getElem? (i := 527) (by decide +kernel))), (mem_tb (List.mem_of_getElem? (i := 529) (by decide +kernel))), (mem_tb (List.mem_of_getElem? (i := 7) (by decide +kernel))), by decide +kernel, by decide +kernel⟩, (mem_tb (List.mem_of_getElem? (i := 528) (by decide +kernel)))⟩
theorem oiX3_3 : Cond.methodLink RX3 3 Lib.objectInit ∈ lw_tbl := (mem_tb (List.mem_of_getElem? (i := 238) (by decide +kernel)))
theorem clX3_19 : CLV RX3 19 M_X6_rewind 0 := ⟨⟨Or.inl (mem_tb (List.mem_of_getElem? (i := 703) (by decide +kernel))), (mem_tb (List.mem_of_getElem? (i := 706) (by decide +kernel))), (mem_tb (List.mem_of_getElem? (i := 10) (by decide +kernel))), by decide +kernel, by decide +kernel⟩, (mem_tb (List.mem_of_getElem? (i := 704) (by decide +kernel))), (mem_tb (List.mem_of_getElem? (i := 705) (by decide +kernel)))⟩
theorem clX3_24 : CLV RX3 24 M_X6_hasMore 0 := ⟨⟨Or.inl (mem_tb (List.mem_of_getElem? (i := 707) (by decide +kernel))), (mem_tb (List.mem_of_getElem? (i := 710) (by decide +kernel))), (mem_tb (List.mem_of_getElem? (i := 10) (by decide +kernel))), by decide +kernel, by decide +kernel⟩, (mem_tb (List.mem_of_getElem? (i := 708) (by decide +kernel))), (mem_tb (List.mem_of_getElem? (i := 709) (by decide +kernel)))⟩
theorem clX3_34 : CLV RX3 34 M_X6_readCommand 0 := ⟨⟨Or.inl (mem_tb (List.mem_of_getElem? (i := 711) (by decide +kernel))), (mem_tb (List.mem_of_getElem? (i := 714) (by decide +kernel))), (mem_tb (List.mem_of_getElem? (i := 10) (by decide +kernel))), by decide +kernel, by decide +kernel⟩, (mem_tb (List.mem_of_getElem? (i := 712) (by decide +kernel))), (mem_tb (List.mem_of_getElem? (i := 713) (by decide +kernel)))⟩
theorem clX3_37 : CLV RX3 37 M_X3_tellFault 2 := ⟨⟨Or.inl (mem_tb (List.mem_of_getElem? (i := 731) (by decide +kernel))), (mem_tb (List.mem_of_getElem? (i := 734) (by decide +kernel))), (mem_tb (List.mem_of_getElem? (i := 11) (by decide +kernel))), by decide +kernel, by decide +kernel⟩, (mem_tb (List.mem_of_getElem? (i := 733) (by decide +kernel))), (mem_sel (List.mem_of_getElem? (i := 17) (by decide +kernel)))⟩
theorem clX3_41 : CLS RX3 41 M_X3_perform 2 := ⟨⟨Or.inl (mem_tb (List.mem_of_getElem? (i := 735) (by decide +kernel))), (mem_tb (List.mem_of_getElem? (i := 737) (by decide +kernel))), (mem_tb (List.mem_of_getElem? (i := 11) (by decide +kernel))), by decide +kernel, by decide +kernel⟩, (mem_tb (List.mem_of_getElem? (i := 736) (by decide +kernel)))⟩
theorem clX3_60 : CLV RX3 60 M_X4_askFor 3 := ⟨⟨Or.inl (mem_tb (List.mem_of_getElem? (i := 738) (by decide +kernel))), (mem_tb (List.mem_of_getElem? (i := 451) (by decide +kernel))), (mem_tb (List.mem_of_getElem? (i := 2) (by decide +kernel))), by decide +kernel, by decide +kernel⟩, (mem_tb (List.mem_of_getElem? (i := 449) (by decide +kernel))), (mem_tb (List.mem_of_getElem? (i := 450) (by decide +kernel)))⟩
theorem clX3_66 : CLV RX3 66 M_X4_letTicks 1 := ⟨⟨Or.inl (mem_tb (List.mem_of_getElem? (i := 739) (by decide +kernel))), (mem_tb (List.mem_of_getElem? (i := 484) (by decide +kernel))), (mem_tb (List.mem_of_getElem? (i := 2) (by decide +kernel))), by decide +kernel, by decide +kernel⟩, (mem_tb (List.mem_of_getElem? (i := 482) (by decide +kernel))), (mem_tb (List.mem_of_getElem? (i := 483) (by decide +kernel)))⟩
theorem clX3_70 : CLV RX3 70 M_X4_cutPower 0 := ⟨⟨Or.inl (mem_tb (List.mem_of_getElem? (i := 740) (by decide +kernel))), (mem_tb (List.mem_of_getElem? (i := 559) (by decide +kernel))), (mem_tb (List.mem_of_getElem? (i := 2) (by decide +kernel))), by decide +kernel, by decide +kernel⟩, (mem_tb (List.mem_of_getElem? (i := 557) (by decide +kernel))), (mem_tb (List.mem_of_getElem? (i := 558) (by decide +kernel)))⟩
theorem clX3_74 : CLV RX3 74 M_X4_restorePower 0 := ⟨⟨Or.inl (mem_tb (List.mem_of_getElem? (i := 741) (by decide +kernel))), (mem_tb (List.mem_of_getElem? (i := 593) (by decide +kernel))), (mem_tb (List.mem_of_getElem? (i := 2) (by decide +kernel))), by decide +kernel, by decide +kernel⟩, (mem_tb (List.mem_of_getElem? (i := 591) (by decide +kernel))), (mem_tb (List.mem_of_getElem? (i := 592) (by decide +kernel)))⟩
theorem clX3_77 : CLV RX3 77 M_X4_turnToOther 0 := ⟨⟨Or.inl (mem_tb (List.mem_of_getElem? (i := 742) (by decide +kernel))), (mem_tb (List.mem_of_getElem? (i := 612) (by decide +kernel))), (mem_tb (List.mem_of_getElem? (i := 2) (by decide +kernel))), by decide +kernel, by decide +kernel⟩, (mem_tb (List.mem_of_getElem? (i := 610) (by decide +kernel))), (mem_tb (List.mem_of_getElem? (i := 611) (by decide +kernel)))⟩
theorem clX3_80 : CLV RX3 80 M_X4_cleanBlock 1 := ⟨⟨Or.inl (mem_tb (List.mem_of_getElem? (i := 743) (by decide +kernel))), (mem_tb (List.mem_of_getElem? (i := 625) (by decide +kernel))), (mem_tb (List.mem_of_getElem? (i := 2) (by decide +kernel))), by decide +kernel, by decide +kernel⟩, (mem_tb (List.mem_of_getElem? (i := 623) (by decide +kernel))), (mem_tb (List.mem_of_getElem? (i := 624) (by decide +kernel)))⟩
theorem clX3_83 : CLV RX3 83 M_X4_eraseBlock 1 := ⟨⟨Or.inl (mem_tb (List.mem_of_getElem? (i := 744) (by decide +kernel))), (mem_tb (List.mem_of_getElem? (i := 638) (by decide +kernel))), (mem_tb (List.mem_of_getElem? (i := 2) (by decide +kernel))), by decide +kernel, by decide +kernel⟩, (mem_tb (List.mem_of_getElem? (i := 636) (by decide +kernel))), (mem_tb (List.mem_of_getElem? (i := 637) (by decide +kernel)))⟩
theorem oiX4_3 : Cond.methodLink RX4 3 Lib.objectInit ∈ lw_tbl := (mem_tb (List.mem_of_getElem? (i := 26) (by decide +kernel)))
theorem clX4_11 : CLI RX4 11 M_X0_init 0 := ⟨⟨Or.inr ⟨"PagePairs", (mem_tb (List.mem_of_getElem? (i := 29) (by decide +kernel)))⟩, (mem_tb (List.mem_of_getElem? (i := 31) (by decide +kernel))), (mem_tb (List.mem_of_getElem? (i := 3) (by decide +kernel))), by decide +kernel, by decide +kernel⟩, by decide +kernel, (mem_tb (List.mem_of_getElem? (i := 30) (by decide +kernel))), rfl⟩
theorem clX4_20 : CLI RX4 20 M_X2_init 0 := ⟨⟨Or.inr ⟨"PagePairs", (mem_tb (List.mem_of_getElem? (i := 49) (by decide +kernel)))⟩, (mem_tb (List.mem_of_getElem? (i := 51) (by decide +kernel))), (mem_tb (List.mem_of_getElem? (i := 4) (by decide +kernel))), by decide +kernel, by decide +kernel⟩, by decide +kernel, (mem_tb (List.mem_of_getElem? (i := 50) (by decide +kernel))), rfl⟩
theorem clX4_27 : CLI RX4 27 M_X7_init 0 := ⟨⟨Or.inr ⟨"PagePairs", (mem_tb (List.mem_of_getElem? (i := 71) (by decide +kernel)))⟩, (mem_tb (List.mem_of_getElem? (i := 73) (by decide +kernel))), (mem_tb (List.mem_of_getElem? (i := 5) (by decide +kernel))), by decide +kernel, by decide +kernel⟩, by decide +kernel, (mem_tb (List.mem_of_getElem? (i := 72) (by decide +kernel))), rfl⟩
theorem clX4_34 : CLI RX4 34 M_X5_init 0 := ⟨⟨Or.inr ⟨"PagePairs", (mem_tb (List.mem_of_getElem? (i := 110) (by decide +kernel)))⟩, (mem_tb (List.mem_of_getElem? (i := 112) (by decide +kernel))), (mem_tb (List.mem_of_getElem? (i := 6) (by decide +kernel))), by decide +kernel, by decide +kernel⟩, by decide +kernel, (mem_tb (List.mem_of_getElem? (i := 111) (by decide +kernel))), rfl⟩
theorem clX4_59 : CLS RX4 59 M_X8_copyRow 2 := ⟨⟨Or.inr ⟨"PagePairs", (mem_tb (List.mem_of_getElem? (i := 145) (by decide +kernel)))⟩, (mem_tb (List.mem_of_getElem? (i := 147) (by decide +kernel))), (mem_tb (List.mem_of_getElem? (i := 1) (by decide +kernel))), by decide +kernel, by decide +kernel⟩, (mem_tb (List.mem_of_getElem? (i := 146) (by decide +kernel)))⟩
theorem clX4_63 : CLV RX4 63 M_X0_copyFrom 1 := ⟨⟨Or.inl (mem_tb (List.mem_of_getElem? (i := 329) (by decide +kernel))), (mem_tb (List.mem_of_getElem? (i := 332) (by decide +kernel))), (mem_tb (List.mem_of_getElem? (i := 3) (by decide +kernel))), by decide +kernel, by decide +kernel⟩, (mem_tb (List.mem_of_getElem? (i := 330) (by decide +kernel))), (mem_tb (List.mem_of_getElem? (i := 331) (by decide +kernel)))⟩
theorem clX4_67 : CLV RX4 67 M_X2_copyFrom 1 := ⟨⟨Or.inl (mem_tb (List.mem_of_getElem? (i := 334) (by decide +kernel))), (mem_tb (List.mem_of_getElem? (i := 337) (by decide +kernel))), (mem_tb (List.mem_of_getElem? (i := 4) (by decide +kernel))), by decide +kernel, by decide +kernel⟩, (mem_tb (List.mem_of_getElem? (i := 335) (by decide +kernel))), (mem_tb (List.mem_of_getElem? (i := 336) (by decide +kernel)))⟩
theorem clX4_70 : CLV RX4 70 M_X7_copyFrom 1 := ⟨⟨Or.inl (mem_tb (List.mem_of_getElem? (i := 339) (by decide +kernel))), (mem_tb (List.mem_of_getElem? (i := 342) (by decide +kernel))), (mem_tb (List.mem_of_getElem? (i := 5) (by decide +kernel))), by decide +kernel, by decide +kernel⟩, (mem_tb (List.mem_of_getElem? (i := 340) (by decide +kernel))), (mem_tb (List.mem_of_getElem? (i := 341) (by decide +kernel)))⟩
theorem clX4_73 : CLV RX4 73 M_X5_copyFrom 1 := ⟨⟨Or.inl (mem_tb (List.mem_of_getElem? (i := 343) (by decide +kernel))), (mem_tb (List.mem_of_getElem? (i := 346) (by decide +kernel))), (mem_tb (List.mem_of_getElem? (i := 6) (by decide +kernel))), by decide +kernel, by decide +kernel⟩, (mem_tb (List.mem_of_getElem? (i := 344) (by decide +kernel))), (mem_tb (List.mem_of_getElem? (i := 345) (by decide +kernel)))⟩
theorem clX4_83 : CLS RX4 83 M_X8_isIn 3 := ⟨⟨Or.inr ⟨"PagePairs", (mem_tb (List.mem_of_getElem? (i := 310) (by decide +kernel)))⟩, (mem_tb (List.mem_of_getElem? (i := 312) (by decide +kernel))), (mem_tb (List.mem_of_getElem? (i := 1) (by decide +kernel))), by decide +kernel, by decide +kernel⟩, (mem_tb (List.mem_of_getElem? (i := 311) (by decide +kernel)))⟩
theorem clX4_87 : CLV RX4 87 M_X2_size 0 := ⟨⟨Or.inl (mem_tb (List.mem_of_getElem? (i := 287) (by decide +kernel))), (mem_tb (List.mem_of_getElem? (i := 290) (by decide +kernel))), (mem_tb (List.mem_of_getElem? (i := 4) (by decide +kernel))), by decide +kernel, by decide +kernel⟩, (mem_tb (List.mem_of_getElem? (i := 288) (by decide +kernel))), (mem_tb (List.mem_of_getElem? (i := 289) (by decide +kernel)))⟩
theorem clX4_91 : CLV RX4 91 M_X2_add 4 := ⟨⟨Or.inl (mem_tb (List.mem_of_getElem? (i := 452) (by decide +kernel))), (mem_tb (List.mem_of_getElem? (i := 455) (by decide +kernel))), (mem_tb (List.mem_of_getElem? (i := 4) (by decide +kernel))), by decide +kernel, by decide +kernel⟩, (mem_tb (List.mem_of_getElem? (i := 453) (by decide +kernel))), (mem_tb (List.mem_of_getElem? (i := 454) (by decide +kernel)))⟩
theorem clX4_101 : CLV RX4 101 M_X4_pass 1 := ⟨⟨Or.inl (mem_tb (List.mem_of_getElem? (i := 485) (by decide +kernel))), (mem_tb (List.mem_of_getElem? (i := 488) (by decide +kernel))), (mem_tb (List.mem_of_getElem? (i := 2) (by decide +kernel))), by decide +kernel, by decide +kernel⟩, (mem_tb (List.mem_of_getElem? (i := 486) (by decide +kernel))), (mem_tb (List.mem_of_getElem? (i := 487) (by decide +kernel)))⟩
theorem clX4_108 : CLV RX4 108 M_X4_takeRequests 0 := ⟨⟨Or.inl (mem_tb (List.mem_of_getElem? (i := 489) (by decide +kernel))), (mem_tb (List.mem_of_getElem? (i := 492) (by decide +kernel))), (mem_tb (List.mem_of_getElem? (i := 2) (by decide +kernel))), by decide +kernel, by decide +kernel⟩, (mem_tb (List.mem_of_getElem? (i := 491) (by decide +kernel))), (mem_sel (List.mem_of_getElem? (i := 6) (by decide +kernel)))⟩
theorem clX4_114 : CLS RX4 114 M_J9_min_7cf53 2 := ⟨⟨Or.inl (mem_tb (List.mem_of_getElem? (i := 530) (by decide +kernel))), (mem_tb (List.mem_of_getElem? (i := 150) (by decide +kernel))), (mem_tb (List.mem_of_getElem? (i := 7) (by decide +kernel))), by decide +kernel, by decide +kernel⟩, (mem_tb (List.mem_of_getElem? (i := 149) (by decide +kernel)))⟩
theorem clX4_120 : CLS RX4 120 M_J9_max_7cf53 2 := ⟨⟨Or.inl (mem_tb (List.mem_of_getElem? (i := 531) (by decide +kernel))), (mem_tb (List.mem_of_getElem? (i := 529) (by decide +kernel))), (mem_tb (List.mem_of_getElem? (i := 7) (by decide +kernel))), by decide +kernel, by decide +kernel⟩, (mem_tb (List.mem_of_getElem? (i := 528) (by decide +kernel)))⟩
theorem clX4_123 : CLV RX4 123 M_X4_goOn 1 := ⟨⟨Or.inl (mem_tb (List.mem_of_getElem? (i := 532) (by decide +kernel))), (mem_tb (List.mem_of_getElem? (i := 535) (by decide +kernel))), (mem_tb (List.mem_of_getElem? (i := 2) (by decide +kernel))), by decide +kernel, by decide +kernel⟩, (mem_tb (List.mem_of_getElem? (i := 534) (by decide +kernel))), (mem_sel (List.mem_of_getElem? (i := 10) (by decide +kernel)))⟩
theorem clX4_126 : CLV RX4 126 M_X4_isFull 0 := ⟨⟨Or.inl (mem_tb (List.mem_of_getElem? (i := 493) (by decide +kernel))), (mem_tb (List.mem_of_getElem? (i := 496) (by decide +kernel))), (mem_tb (List.mem_of_getElem? (i := 2) (by decide +kernel))), by decide +kernel, by decide +kernel⟩, (mem_tb (List.mem_of_getElem? (i := 495) (by decide +kernel))), (mem_sel (List.mem_of_getElem? (i := 7) (by decide +kernel)))⟩
theorem clX4_130 : CLV RX4 130 M_X4_isOutdated 0 := ⟨⟨Or.inl (mem_tb (List.mem_of_getElem? (i := 497) (by decide +kernel))), (mem_tb (List.mem_of_getElem? (i := 500) (by decide +kernel))), (mem_tb (List.mem_of_getElem? (i := 2) (by decide +kernel))), by decide +kernel, by decide +kernel⟩, (mem_tb (List.mem_of_getElem? (i := 499) (by decide +kernel))), (mem_sel (List.mem_of_getElem? (i := 8) (by decide +kernel)))⟩
theorem clX4_133 : CLV RX4 133 M_X4_beginWriting 0 := ⟨⟨Or.inl (mem_tb (List.mem_of_getElem? (i := 505) (by decide +kernel))), (mem_tb (List.mem_of_getElem? (i := 508) (by decide +kernel))), (mem_tb (List.mem_of_getElem? (i := 2) (by decide +kernel))), by decide +kernel, by decide +kernel⟩, (mem_tb (List.mem_of_getElem? (i := 507) (by decide +kernel))), (mem_sel (List.mem_of_getElem? (i := 9) (by decide +kernel)))⟩
theorem clX4_136 : CLV RX4 136 M_X2_dropFirst 0 := ⟨⟨Or.inl (mem_tb (List.mem_of_getElem? (i := 523) (by decide +kernel))), (mem_tb (List.mem_of_getElem? (i := 526) (by decide +kernel))), (mem_tb (List.mem_of_getElem? (i := 4) (by decide +kernel))), by decide +kernel, by decide +kernel⟩, (mem_tb (List.mem_of_getElem? (i := 524) (by decide +kernel))), (mem_tb (List.mem_of_getElem? (i := 525) (by decide +kernel)))⟩
theorem clX4_139 : CLV RX4 139 M_X2_urgency 1 := ⟨⟨Or.inl (mem_tb (List.mem_of_getElem? (i := 419) (by decide +kernel))), (mem_tb (List.mem_of_getElem? (i := 422) (by decide +kernel))), (mem_tb (List.mem_of_getElem? (i := 4) (by decide +kernel))), by decide +kernel, by decide +kernel⟩, (mem_tb (List.mem_of_getElem? (i := 420) (by decide +kernel))), (mem_tb (List.mem_of_getElem? (i := 421) (by decide +kernel)))⟩
theorem clX4_143 : CLV RX4 143 M_X2_key 1 := ⟨⟨Or.inl (mem_tb (List.mem_of_getElem? (i := 411) (by decide +kernel))), (mem_tb (List.mem_of_getElem? (i := 414) (by decide +kernel))), (mem_tb (List.mem_of_getElem? (i := 4) (by decide +kernel))), by decide +kernel, by decide +kernel⟩, (mem_tb (List.mem_of_getElem? (i := 412) (by decide +kernel))), (mem_tb (List.mem_of_getElem? (i := 413) (by decide +kernel)))⟩
theorem clX4_146 : CLV RX4 146 M_X0_place 1 := ⟨⟨Or.inl (mem_tb (List.mem_of_getElem? (i := 434) (by decide +kernel))), (mem_tb (List.mem_of_getElem? (i := 302) (by decide +kernel))), (mem_tb (List.mem_of_getElem? (i := 3) (by decide +kernel))), by decide +kernel, by decide +kernel⟩, (mem_tb (List.mem_of_getElem? (i := 300) (by decide +kernel))), (mem_tb (List.mem_of_getElem? (i := 301) (by decide +kernel)))⟩
theorem clX4_149 : CLV RX4 149 M_X0_stamp 1 := ⟨⟨Or.inl (mem_tb (List.mem_of_getElem? (i := 435) (by decide +kernel))), (mem_tb (List.mem_of_getElem? (i := 394) (by decide +kernel))), (mem_tb (List.mem_of_getElem? (i := 3) (by decide +kernel))), by decide +kernel, by decide +kernel⟩, (mem_tb (List.mem_of_getElem? (i := 392) (by decide +kernel))), (mem_tb (List.mem_of_getElem? (i := 393) (by decide +kernel)))⟩
theorem clX4_152 : CLV RX4 152 M_X2_stamp 1 := ⟨⟨Or.inl (mem_tb (List.mem_of_getElem? (i := 501) (by decide +kernel))), (mem_tb (List.mem_of_getElem? (i := 504) (by decide +kernel))), (mem_tb (List.mem_of_getElem? (i := 4) (by decide +kernel))), by decide +kernel, by decide +kernel⟩, (mem_tb (List.mem_of_getElem? (i := 502) (by decide +kernel))), (mem_tb (List.mem_of_getElem? (i := 503) (by decide +kernel)))⟩
theorem clX4_156 : CLS RX4 156 M_X8_valueAt 2 := ⟨⟨Or.inr ⟨"PagePairs", (mem_tb (List.mem_of_getElem? (i := 303) (by decide +kernel)))⟩, (mem_tb (List.mem_of_getElem? (i := 305) (by decide +kernel))), (mem_tb (List.mem_of_getElem? (i := 1) (by decide +kernel))), by decide +kernel, by decide +kernel⟩, (mem_tb (List.mem_of_getElem? (i := 304) (by decide +kernel)))⟩
theorem clX4_168 : CLS RX4 168 M_X8_cellOf 2 := ⟨⟨Or.inr ⟨"PagePairs", (mem_tb (List.mem_of_getElem? (i := 368) (by decide +kernel)))⟩, (mem_tb (List.mem_of_getElem? (i := 370) (by decide +kernel))), (mem_tb (List.mem_of_getElem? (i := 1) (by decide +kernel))), by decide +kernel, by decide +kernel⟩, (mem_tb (List.mem_of_getElem? (i := 369) (by decide +kernel)))⟩
theorem clX4_174 : CLS RX4 174 M_X8_earlyPosition 1 := ⟨⟨Or.inr ⟨"PagePairs", (mem_tb (List.mem_of_getElem? (i := 509) (by decide +kernel)))⟩, (mem_tb (List.mem_of_getElem? (i := 511) (by decide +kernel))), (mem_tb (List.mem_of_getElem? (i := 1) (by decide +kernel))), by decide +kernel, by decide +kernel⟩, (mem_tb (List.mem_of_getElem? (i := 510) (by decide +kernel)))⟩
theorem clX4_183 : CLS RX4 183 M_X8_quotient 2 := ⟨⟨Or.inr ⟨"PagePairs", (mem_tb (List.mem_of_getElem? (i := 512) (by decide +kernel)))⟩, (mem_tb (List.mem_of_getElem? (i := 514) (by decide +kernel))), (mem_tb (List.mem_of_getElem? (i := 1) (by decide +kernel))), by decide +kernel, by decide +kernel⟩, (mem_tb (List.mem_of_getElem? (i := 513) (by decide +kernel)))⟩
theorem clX4_192 : CLV RX4 192 M_X2_value 1 := ⟨⟨Or.inl (mem_tb (List.mem_of_getElem? (i := 415) (by decide +kernel))), (mem_tb (List.mem_of_getElem? (i := 418) (by decide +kernel))), (mem_tb (List.mem_of_getElem? (i := 4) (by decide +kernel))), by decide +kernel, by decide +kernel⟩, (mem_tb (List.mem_of_getElem? (i := 416) (by decide +kernel))), (mem_tb (List.mem_of_getElem? (i := 417) (by decide +kernel)))⟩
theorem clX4_195 : CLV RX4 195 M_X0_begin 4 := ⟨⟨Or.inl (mem_tb (List.mem_of_getElem? (i := 515) (by decide +kernel))), (mem_tb (List.mem_of_getElem? (i := 518) (by decide +kernel))), (mem_tb (List.mem_of_getElem? (i := 3) (by decide +kernel))), by decide +kernel, by decide +kernel⟩, (mem_tb (List.mem_of_getElem? (i := 516) (by decide +kernel))), (mem_tb (List.mem_of_getElem? (i := 517) (by decide +kernel)))⟩
theorem clX4_198 : CLV RX4 198 M_X0_kind 1 := ⟨⟨Or.inl (mem_tb (List.mem_of_getElem? (i := 371) (by decide +kernel))), (mem_tb (List.mem_of_getElem? (i := 374) (by decide +kernel))), (mem_tb (List.mem_of_getElem? (i := 3) (by decide +kernel))), by decide +kernel, by decide +kernel⟩, (mem_tb (List.mem_of_getElem? (i := 372) (by decide +kernel))), (mem_tb (List.mem_of_getElem? (i := 373) (by decide +kernel)))⟩
theorem clX4_201 : CLV RX4 201 M_X0_beginBackup 2 := ⟨⟨Or.inl (mem_tb (List.mem_of_getElem? (i := 519) (by decide +kernel))), (mem_tb (List.mem_of_getElem? (i := 522) (by decide +kernel))), (mem_tb (List.mem_of_getElem? (i := 3) (by decide +kernel))), by decide +kernel, by decide +kernel⟩, (mem_tb (List.mem_of_getElem? (i := 520) (by decide +kernel))), (mem_tb (List.mem_of_getElem? (i := 521) (by decide +kernel)))⟩
theorem clX4_205 : CLV RX4 205 M_X7_isBehindBackup 0 := ⟨⟨Or.inl (mem_tb (List.mem_of_getElem? (i := 536) (by decide +kernel))), (mem_tb (List.mem_of_getElem? (i := 539) (by decide +kernel))), (mem_tb (List.mem_of_getElem? (i := 5) (by decide +kernel))), by decide +kernel, by decide +kernel⟩, (mem_tb (List.mem_of_getElem? (i := 537) (by decide +kernel))), (mem_tb (List.mem_of_getElem? (i := 538) (by decide +kernel)))⟩
theorem clX4_208 : CLV RX4 208 M_X0_mark 2 := ⟨⟨Or.inl (mem_tb (List.mem_of_getElem? (i := 540) (by decide +kernel))), (mem_tb (List.mem_of_getElem? (i := 543) (by decide +kernel))), (mem_tb (List.mem_of_getElem? (i := 3) (by decide +kernel))), by decide +kernel, by decide +kernel⟩, (mem_tb (List.mem_of_getElem? (i := 541) (by decide +kernel))), (mem_tb (List.mem_of_getElem? (i := 542) (by decide +kernel)))⟩
theorem clX4_214 : CLV RX4 214 M_X4_finishWriting 0 := ⟨⟨Or.inl (mem_tb (List.mem_of_getElem? (i := 544) (by decide +kernel))), (mem_tb (List.mem_of_getElem? (i := 547) (by decide +kernel))), (mem_tb (List.mem_of_getElem? (i := 2) (by decide +kernel))), by decide +kernel, by decide +kernel⟩, (mem_tb (List.mem_of_getElem? (i := 546) (by decide +kernel))), (mem_sel (List.mem_of_getElem? (i := 11) (by decide +kernel)))⟩
theorem clX4_217 : CLV RX4 217 M_X7_isAskedFor 0 := ⟨⟨Or.inl (mem_tb (List.mem_of_getElem? (i := 548) (by decide +kernel))), (mem_tb (List.mem_of_getElem? (i := 551) (by decide +kernel))), (mem_tb (List.mem_of_getElem? (i := 5) (by decide +kernel))), by decide +kernel, by decide +kernel⟩, (mem_tb (List.mem_of_getElem? (i := 549) (by decide +kernel))), (mem_tb (List.mem_of_getElem? (i := 550) (by decide +kernel)))⟩
theorem clX4_220 : CLV RX4 220 M_X4_loseByCut 0 := ⟨⟨Or.inl (mem_tb (List.mem_of_getElem? (i := 560) (by decide +kernel))), (mem_tb (List.mem_of_getElem? (i := 563) (by decide +kernel))), (mem_tb (List.mem_of_getElem? (i := 2) (by decide +kernel))), by decide +kernel, by decide +kernel⟩, (mem_tb (List.mem_of_getElem? (i := 561) (by decide +kernel))), (mem_tb (List.mem_of_getElem? (i := 562) (by decide +kernel)))⟩
theorem clX4_223 : CLS RX4 223 M_J6_bitCount_0f7a4 1 := ⟨⟨Or.inl (mem_tb (List.mem_of_getElem? (i := 580) (by decide +kernel))), (mem_tb (List.mem_of_getElem? (i := 582) (by decide +kernel))), (mem_tb (List.mem_of_getElem? (i := 12) (by decide +kernel))), by decide +kernel, by decide +kernel⟩, (mem_tb (List.mem_of_getElem? (i := 581) (by decide +kernel)))⟩
theorem clX4_228 : CLV RX4 228 M_X0_placeStamp 1 := ⟨⟨Or.inl (mem_tb (List.mem_of_getElem? (i := 564) (by decide +kernel))), (mem_tb (List.mem_of_getElem? (i := 567) (by decide +kernel))), (mem_tb (List.mem_of_getElem? (i := 3) (by decide +kernel))), by decide +kernel, by decide +kernel⟩, (mem_tb (List.mem_of_getElem? (i := 565) (by decide +kernel))), (mem_tb (List.mem_of_getElem? (i := 566) (by decide +kernel)))⟩
theorem clX4_237 : CLV RX4 237 M_X2_makeEmpty 0 := ⟨⟨Or.inl (mem_tb (List.mem_of_getElem? (i := 568) (by decide +kernel))), (mem_tb (List.mem_of_getElem? (i := 571) (by decide +kernel))), (mem_tb (List.mem_of_getElem? (i := 4) (by decide +kernel))), by decide +kernel, by decide +kernel⟩, (mem_tb (List.mem_of_getElem? (i := 569) (by decide +kernel))), (mem_tb (List.mem_of_getElem? (i := 570) (by decide +kernel)))⟩
theorem clX4_240 : CLV RX4 240 M_X4_tearWriting 0 := ⟨⟨Or.inl (mem_tb (List.mem_of_getElem? (i := 572) (by decide +kernel))), (mem_tb (List.mem_of_getElem? (i := 575) (by decide +kernel))), (mem_tb (List.mem_of_getElem? (i := 2) (by decide +kernel))), by decide +kernel, by decide +kernel⟩, (mem_tb (List.mem_of_getElem? (i := 574) (by decide +kernel))), (mem_sel (List.mem_of_getElem? (i := 12) (by decide +kernel)))⟩
theorem clX4_246 : CLV RX4 246 M_X7_hasBegunItself 0 := ⟨⟨Or.inl (mem_tb (List.mem_of_getElem? (i := 576) (by decide +kernel))), (mem_tb (List.mem_of_getElem? (i := 579) (by decide +kernel))), (mem_tb (List.mem_of_getElem? (i := 5) (by decide +kernel))), by decide +kernel, by decide +kernel⟩, (mem_tb (List.mem_of_getElem? (i := 577) (by decide +kernel))), (mem_tb (List.mem_of_getElem? (i := 578) (by decide +kernel)))⟩
theorem clX4_249 : CLV RX4 249 M_X4_askForCopy 2 := ⟨⟨Or.inl (mem_tb (List.mem_of_getElem? (i := 594) (by decide +kernel))), (mem_tb (List.mem_of_getElem? (i := 597) (by decide +kernel))), (mem_tb (List.mem_of_getElem? (i := 2) (by decide +kernel))), by decide +kernel, by decide +kernel⟩, (mem_tb (List.mem_of_getElem? (i := 596) (by decide +kernel))), (mem_sel (List.mem_of_getElem? (i := 13) (by decide +kernel)))⟩
theorem clX4_252 : CLV RX4 252 M_X0_isPlace 1 := ⟨⟨Or.inl (mem_tb (List.mem_of_getElem? (i := 598) (by decide +kernel))), (mem_tb (List.mem_of_getElem? (i := 601) (by decide +kernel))), (mem_tb (List.mem_of_getElem? (i := 3) (by decide +kernel))), by decide +kernel, by decide +kernel⟩, (mem_tb (List.mem_of_getElem? (i := 599) (by decide +kernel))), (mem_tb (List.mem_of_getElem? (i := 600) (by decide +kernel)))⟩
theorem clX4_256 : CLV RX4 256 M_X0_key 1 := ⟨⟨Or.inl (mem_tb (List.mem_of_getElem? (i := 603) (by decide +kernel))), (mem_tb (List.mem_of_getElem? (i := 386) (by decide +kernel))), (mem_tb (List.mem_of_getElem? (i := 3) (by decide +kernel))), by decide +kernel, by decide +kernel⟩, (mem_tb (List.mem_of_getElem? (i := 384) (by decide +kernel))), (mem_tb (List.mem_of_getElem? (i := 385) (by decide +kernel)))⟩
theorem clX4_257 : CLV RX4 257 M_X0_value 1 := ⟨⟨Or.inl (mem_tb (List.mem_of_getElem? (i := 604) (by decide +kernel))), (mem_tb (List.mem_of_getElem? (i := 390) (by decide +kernel))), (mem_tb (List.mem_of_getElem? (i := 3) (by decide +kernel))), by decide +kernel, by decide +kernel⟩, (mem_tb (List.mem_of_getElem? (i := 388) (by decide +kernel))), (mem_tb (List.mem_of_getElem? (i := 389) (by decide +kernel)))⟩
theorem clX4_258 : CLV RX4 258 M_X0_isBlankBlock 1 := ⟨⟨Or.inl (mem_tb (List.mem_of_getElem? (i := 613) (by decide +kernel))), (mem_tb (List.mem_of_getElem? (i := 616) (by decide +kernel))), (mem_tb (List.mem_of_getElem? (i := 3) (by decide +kernel))), by decide +kernel, by decide +kernel⟩, (mem_tb (List.mem_of_getElem? (i := 614) (by decide +kernel))), (mem_tb (List.mem_of_getElem? (i := 615) (by decide +kernel)))⟩
theorem clX4_261 : CLV RX4 261 M_X0_placesInBlock 1 := ⟨⟨Or.inl (mem_tb (List.mem_of_getElem? (i := 626) (by decide +kernel))), (mem_tb (List.mem_of_getElem? (i := 629) (by decide +kernel))), (mem_tb (List.mem_of_getElem? (i := 3) (by decide +kernel))), by decide +kernel, by decide +kernel⟩, (mem_tb (List.mem_of_getElem? (i := 627) (by decide +kernel))), (mem_tb (List.mem_of_getElem? (i := 628) (by decide +kernel)))⟩
theorem clX4_264 : CLV RX4 264 M_X0_blankBlock 1 := ⟨⟨Or.inl (mem_tb (List.mem_of_getElem? (i := 639) (by decide +kernel))), (mem_tb (List.mem_of_getElem? (i := 642) (by decide +kernel))), (mem_tb (List.mem_of_getElem? (i := 3) (by decide +kernel))), by decide +kernel, by decide +kernel⟩, (mem_tb (List.mem_of_getElem? (i := 640) (by decide +kernel))), (mem_tb (List.mem_of_getElem? (i := 641) (by decide +kernel)))⟩
theorem clX4_267 : CLS RX4 267 M_X8_putAt 3 := ⟨⟨Or.inr ⟨"PagePairs", (mem_tb (List.mem_of_getElem? (i := 644) (by decide +kernel)))⟩, (mem_tb (List.mem_of_getElem? (i := 646) (by decide +kernel))), (mem_tb (List.mem_of_getElem? (i := 1) (by decide +kernel))), by decide +kernel, by decide +kernel⟩, (mem_tb (List.mem_of_getElem? (i := 645) (by decide +kernel)))⟩
theorem clX4_277 : CLV RX4 277 M_X0_fact 2 := ⟨⟨Or.inl (mem_tb (List.mem_of_getElem? (i := 379) (by decide +kernel))), (mem_tb (List.mem_of_getElem? (i := 382) (by decide +kernel))), (mem_tb (List.mem_of_getElem? (i := 3) (by decide +kernel))), by decide +kernel, by decide +kernel⟩, (mem_tb (List.mem_of_getElem? (i := 380) (by decide +kernel))), (mem_tb (List.mem_of_getElem? (i := 381) (by decide +kernel)))⟩
theorem clX4_280 : CLV RX4 280 M_X0_tornPages 0 := ⟨⟨Or.inl (mem_tb (List.mem_of_getElem? (i := 291) (by decide +kernel))), (mem_tb (List.mem_of_getElem? (i := 294) (by decide +kernel))), (mem_tb (List.mem_of_getElem? (i := 3) (by decide +kernel))), by decide +kernel, by decide +kernel⟩, (mem_tb (List.mem_of_getElem? (i := 292) (by decide +kernel))), (mem_tb (List.mem_of_getElem? (i := 293) (by decide +kernel)))⟩
theorem clX4_283 : CLV RX4 283 M_X0_keysWithPlace 0 := ⟨⟨Or.inl (mem_tb (List.mem_of_getElem? (i := 295) (by decide +kernel))), (mem_tb (List.mem_of_getElem? (i := 298) (by decide +kernel))), (mem_tb (List.mem_of_getElem? (i := 3) (by decide +kernel))), by decide +kernel, by decide +kernel⟩, (mem_tb (List.mem_of_getElem? (i := 296) (by decide +kernel))), (mem_tb (List.mem_of_getElem? (i := 297) (by decide +kernel)))⟩
theorem clX4_286 : CLV RX4 286 M_X4_settingOrSlowness 1 := ⟨⟨Or.inl (mem_tb (List.mem_of_getElem? (i := 306) (by decide +kernel))), (mem_tb (List.mem_of_getElem? (i := 309) (by decide +kernel))), (mem_tb (List.mem_of_getElem? (i := 2) (by decide +kernel))), by decide +kernel, by decide +kernel⟩, (mem_tb (List.mem_of_getElem? (i := 308) (by decide +kernel))), (mem_sel (List.mem_of_getElem? (i := 0) (by decide +kernel)))⟩
theorem oiX5_1 : Cond.methodLink RX5 1 Lib.objectInit ∈ lw_tbl := (mem_tb (List.mem_of_getElem? (i := 113) (by decide +kernel)))
theorem oiX6_3 : Cond.methodLink RX6 3 Lib.objectInit ∈ lw_tbl := (mem_tb (List.mem_of_getElem? (i := 209) (by decide +kernel)))
theorem clX6_19 : CLS RX6 19 M_X8_isIn 3 := ⟨⟨Or.inr ⟨"PagePairs", (mem_tb (List.mem_of_getElem? (i := 686) (by decide +kernel)))⟩, (mem_tb (List.mem_of_getElem? (i := 312) (by decide +kernel))), (mem_tb (List.mem_of_getElem? (i := 1) (by decide +kernel))), by decide +kernel, by decide +kernel⟩, (mem_tb (List.mem_of_getElem? (i := 311) (by decide +kernel)))⟩
theorem clX6_23 : CLS RX6 23 M_X8_putAt 3 := ⟨⟨Or.inr ⟨"PagePairs", (mem_tb (List.mem_of_getElem? (i := 687) (by decide +kernel)))⟩, (mem_tb (List.mem_of_getElem? (i := 646) (by decide +kernel))), (mem_tb (List.mem_of_getElem? (i := 1) (by decide +kernel))), by decide +kernel, by decide +kernel⟩, (mem_tb (List.mem_of_getElem? (i := 645) (by decide +kernel)))⟩
theorem clX6_30 : CLV RX6 30 M_X6_sign 0 := ⟨⟨Or.inl (mem_tb (List.mem_of_getElem? (i := 715) (by decide +kernel))), (mem_tb (List.mem_of_getElem? (i := 718) (by decide +kernel))), (mem_tb (List.mem_of_getElem? (i := 10) (by decide +kernel))), by decide +kernel, by decide +kernel⟩, (mem_tb (List.mem_of_getElem? (i := 717) (by decide +kernel))), (mem_sel (List.mem_of_getElem? (i := 14) (by decide +kernel)))⟩
theorem clX6_37 : CLS RX6 37 M_X6_numbersOf 1 := ⟨⟨Or.inl (mem_tb (List.mem_of_getElem? (i := 720) (by decide +kernel))), (mem_tb (List.mem_of_getElem? (i := 722) (by decide +kernel))), (mem_tb (List.mem_of_getElem? (i := 10) (by decide +kernel))), by decide +kernel, by decide +kernel⟩, (mem_tb (List.mem_of_getElem? (i := 721) (by decide +kernel)))⟩
theorem clX6_41 : CLV RX6 41 M_X6_readNumber 0 := ⟨⟨Or.inl (mem_tb (List.mem_of_getElem? (i := 723) (by decide +kernel))), (mem_tb (List.mem_of_getElem? (i := 726) (by decide +kernel))), (mem_tb (List.mem_of_getElem? (i := 10) (by decide +kernel))), by decide +kernel, by decide +kernel⟩, (mem_tb (List.mem_of_getElem? (i := 725) (by decide +kernel))), (mem_sel (List.mem_of_getElem? (i := 15) (by decide +kernel)))⟩
theorem clX6_47 : CLV RX6 47 M_X6_readSign 1 := ⟨⟨Or.inl (mem_tb (List.mem_of_getElem? (i := 727) (by decide +kernel))), (mem_tb (List.mem_of_getElem? (i := 730) (by decide +kernel))), (mem_tb (List.mem_of_getElem? (i := 10) (by decide +kernel))), by decide +kernel, by decide +kernel⟩, (mem_tb (List.mem_of_getElem? (i := 729) (by decide +kernel))), (mem_sel (List.mem_of_getElem? (i := 16) (by decide +kernel)))⟩
theorem clX6_54 : CLS RX6 54 M_X8_valueAt 2 := ⟨⟨Or.inr ⟨"PagePairs", (mem_tb (List.mem_of_getElem? (i := 719) (by decide +kernel)))⟩, (mem_tb (List.mem_of_getElem? (i := 305) (by decide +kernel))), (mem_tb (List.mem_of_getElem? (i := 1) (by decide +kernel))), by decide +kernel, by decide +kernel⟩, (mem_tb (List.mem_of_getElem? (i := 304) (by decide +kernel)))⟩
theorem oiX7_3 : Cond.methodLink RX7 3 Lib.objectInit ∈ lw_tbl := (mem_tb (List.mem_of_getElem? (i := 74) (by decide +kernel)))
theorem oiX8_3 : Cond.methodLink RX8 3 Lib.objectInit ∈ lw_tbl := (mem_tb (List.mem_of_getElem? (i := 18) (by decide +kernel)))
theorem clX8_11 : CLI RX8 11 M_X4_init 0 := ⟨⟨Or.inl (mem_tb (List.mem_of_getElem? (i := 23) (by decide +kernel))), (mem_tb (List.mem_of_getElem? (i := 25) (by decide +kernel))), (mem_tb (List.mem_of_getElem? (i := 2) (by decide +kernel))), by decide +kernel, by decide +kernel⟩, by decide +kernel, (mem_tb (List.mem_of_getElem? (i := 24) (by decide +kernel))), rfl⟩
theorem clX8_21 : CLI RX8 21 M_X1_init 0 := ⟨⟨Or.inl (mem_tb (List.mem_of_getElem? (i := 190) (by decide +kernel))), (mem_tb (List.mem_of_getElem? (i := 192) (by decide +kernel))), (mem_tb (List.mem_of_getElem? (i := 9) (by decide +kernel))), by decide +kernel, by decide +kernel⟩, by decide +kernel, (mem_tb (List.mem_of_getElem? (i := 191) (by decide +kernel))), rfl⟩
theorem clX8_28 : CLI RX8 28 M_X6_init 0 := ⟨⟨Or.inr ⟨"PagePairs", (mem_tb (List.mem_of_getElem? (i := 206) (by decide +kernel)))⟩, (mem_tb (List.mem_of_getElem? (i := 208) (by decide +kernel))), (mem_tb (List.mem_of_getElem? (i := 10) (by decide +kernel))), by decide +kernel, by decide +kernel⟩, by decide +kernel, (mem_tb (List.mem_of_getElem? (i := 207) (by decide +kernel))), rfl⟩
theorem clX8_35 : CLI RX8 35 M_X3_init 0 := ⟨⟨Or.inr ⟨"PagePairs", (mem_tb (List.mem_of_getElem? (i := 235) (by decide +kernel)))⟩, (mem_tb (List.mem_of_getElem? (i := 237) (by decide +kernel))), (mem_tb (List.mem_of_getElem? (i := 11) (by decide +kernel))), by decide +kernel, by decide +kernel⟩, by decide +kernel, (mem_tb (List.mem_of_getElem? (i := 236) (by decide +kernel))), rfl⟩
theorem clX8_40 : CLS RX8 40 M_X8_isIn 3 := ⟨⟨Or.inl (mem_tb (List.mem_of_getElem? (i := 443) (by decide +kernel))), (mem_tb (List.mem_of_getElem? (i := 312) (by decide +kernel))), (mem_tb (List.mem_of_getElem? (i := 1) (by decide +kernel))), by decide +kernel, by decide +kernel⟩, (mem_tb (List.mem_of_getElem? (i := 311) (by decide +kernel)))⟩
theorem clX8_44 : CLV RX8 44 M_X1_note 1 := ⟨⟨Or.inl (mem_tb (List.mem_of_getElem? (i := 444) (by decide +kernel))), (mem_tb (List.mem_of_getElem? (i := 447) (by decide +kernel))), (mem_tb (List.mem_of_getElem? (i := 9) (by decide +kernel))), by decide +kernel, by decide +kernel⟩, (mem_tb (List.mem_of_getElem? (i := 445) (by decide +kernel))), (mem_tb (List.mem_of_getElem? (i := 446) (by decide +kernel)))⟩
theorem clX8_48 : CLV RX8 48 M_X4_askFor 3 := ⟨⟨Or.inl (mem_tb (List.mem_of_getElem? (i := 448) (by decide +kernel))), (mem_tb (List.mem_of_getElem? (i := 451) (by decide +kernel))), (mem_tb (List.mem_of_getElem? (i := 2) (by decide +kernel))), by decide +kernel, by decide +kernel⟩, (mem_tb (List.mem_of_getElem? (i := 449) (by decide +kernel))), (mem_tb (List.mem_of_getElem? (i := 450) (by decide +kernel)))⟩
theorem clX8_52 : CLV RX8 52 M_X8_keepChange 1 := ⟨⟨Or.inl (mem_tb (List.mem_of_getElem? (i := 465) (by decide +kernel))), (mem_tb (List.mem_of_getElem? (i := 468) (by decide +kernel))), (mem_tb (List.mem_of_getElem? (i := 1) (by decide +kernel))), by decide +kernel, by decide +kernel⟩, (mem_tb (List.mem_of_getElem? (i := 467) (by decide +kernel))), (mem_sel (List.mem_of_getElem? (i := 4) (by decide +kernel)))⟩
theorem clX8_56 : CLV RX8 56 M_X4_letTicks 1 := ⟨⟨Or.inl (mem_tb (List.mem_of_getElem? (i := 481) (by decide +kernel))), (mem_tb (List.mem_of_getElem? (i := 484) (by decide +kernel))), (mem_tb (List.mem_of_getElem? (i := 2) (by decide +kernel))), by decide +kernel, by decide +kernel⟩, (mem_tb (List.mem_of_getElem? (i := 482) (by decide +kernel))), (mem_tb (List.mem_of_getElem? (i := 483) (by decide +kernel)))⟩
theorem clX8_59 : CLV RX8 59 M_X4_cutPower 0 := ⟨⟨Or.inl (mem_tb (List.mem_of_getElem? (i := 556) (by decide +kernel))), (mem_tb (List.mem_of_getElem? (i := 559) (by decide +kernel))), (mem_tb (List.mem_of_getElem? (i := 2) (by decide +kernel))), by decide +kernel, by decide +kernel⟩, (mem_tb (List.mem_of_getElem? (i := 557) (by decide +kernel))), (mem_tb (List.mem_of_getElem? (i := 558) (by decide +kernel)))⟩
theorem clX8_63 : CLV RX8 63 M_X4_restorePower 0 := ⟨⟨Or.inl (mem_tb (List.mem_of_getElem? (i := 590) (by decide +kernel))), (mem_tb (List.mem_of_getElem? (i := 593) (by decide +kernel))), (mem_tb (List.mem_of_getElem? (i := 2) (by decide +kernel))), by decide +kernel, by decide +kernel⟩, (mem_tb (List.mem_of_getElem? (i := 591) (by decide +kernel))), (mem_tb (List.mem_of_getElem? (i := 592) (by decide +kernel)))⟩
theorem clX8_66 : CLV RX8 66 M_X4_turnToOther 0 := ⟨⟨Or.inl (mem_tb (List.mem_of_getElem? (i := 609) (by decide +kernel))), (mem_tb (List.mem_of_getElem? (i := 612) (by decide +kernel))), (mem_tb (List.mem_of_getElem? (i := 2) (by decide +kernel))), by decide +kernel, by decide +kernel⟩, (mem_tb (List.mem_of_getElem? (i := 610) (by decide +kernel))), (mem_tb (List.mem_of_getElem? (i := 611) (by decide +kernel)))⟩
theorem clX8_69 : CLV RX8 69 M_X4_cleanBlock 1 := ⟨⟨Or.inl (mem_tb (List.mem_of_getElem? (i := 622) (by decide +kernel))), (mem_tb (List.mem_of_getElem? (i := 625) (by decide +kernel))), (mem_tb (List.mem_of_getElem? (i := 2) (by decide +kernel))), by decide +kernel, by decide +kernel⟩, (mem_tb (List.mem_of_getElem? (i := 623) (by decide +kernel))), (mem_tb (List.mem_of_getElem? (i := 624) (by decide +kernel)))⟩
theorem clX8_72 : CLV RX8 72 M_X4_eraseBlock 1 := ⟨⟨Or.inl (mem_tb (List.mem_of_getElem? (i := 635) (by decide +kernel))), (mem_tb (List.mem_of_getElem? (i := 638) (by decide +kernel))), (mem_tb (List.mem_of_getElem? (i := 2) (by decide +kernel))), by decide +kernel, by decide +kernel⟩, (mem_tb (List.mem_of_getElem? (i := 636) (by decide +kernel))), (mem_tb (List.mem_of_getElem? (i := 637) (by decide +kernel)))⟩
theorem clX8_75 : CLV RX8 75 M_X4_changeSlowness 2 := ⟨⟨Or.inl (mem_tb (List.mem_of_getElem? (i := 651) (by decide +kernel))), (mem_tb (List.mem_of_getElem? (i := 654) (by decide +kernel))), (mem_tb (List.mem_of_getElem? (i := 2) (by decide +kernel))), by decide +kernel, by decide +kernel⟩, (mem_tb (List.mem_of_getElem? (i := 652) (by decide +kernel))), (mem_tb (List.mem_of_getElem? (i := 653) (by decide +kernel)))⟩
theorem clX8_79 : CLV RX8 79 M_X4_changeSetting 2 := ⟨⟨Or.inl (mem_tb (List.mem_of_getElem? (i := 659) (by decide +kernel))), (mem_tb (List.mem_of_getElem? (i := 662) (by decide +kernel))), (mem_tb (List.mem_of_getElem? (i := 2) (by decide +kernel))), by decide +kernel, by decide +kernel⟩, (mem_tb (List.mem_of_getElem? (i := 660) (by decide +kernel))), (mem_tb (List.mem_of_getElem? (i := 661) (by decide +kernel)))⟩
theorem clX8_85 : CLV RX8 85 M_X4_placeFact 2 := ⟨⟨Or.inl (mem_tb (List.mem_of_getElem? (i := 430) (by decide +kernel))), (mem_tb (List.mem_of_getElem? (i := 433) (by decide +kernel))), (mem_tb (List.mem_of_getElem? (i := 2) (by decide +kernel))), by decide +kernel, by decide +kernel⟩, (mem_tb (List.mem_of_getElem? (i := 431) (by decide +kernel))), (mem_tb (List.mem_of_getElem? (i := 432) (by decide +kernel)))⟩
theorem clX8_88 : CLV RX8 88 M_X4_pageFact 3 := ⟨⟨Or.inl (mem_tb (List.mem_of_getElem? (i := 364) (by decide +kernel))), (mem_tb (List.mem_of_getElem? (i := 367) (by decide +kernel))), (mem_tb (List.mem_of_getElem? (i := 2) (by decide +kernel))), by decide +kernel, by decide +kernel⟩, (mem_tb (List.mem_of_getElem? (i := 365) (by decide +kernel))), (mem_tb (List.mem_of_getElem? (i := 366) (by decide +kernel)))⟩
theorem clX8_91 : CLV RX8 91 M_X4_backupFact 3 := ⟨⟨Or.inl (mem_tb (List.mem_of_getElem? (i := 399) (by decide +kernel))), (mem_tb (List.mem_of_getElem? (i := 402) (by decide +kernel))), (mem_tb (List.mem_of_getElem? (i := 2) (by decide +kernel))), by decide +kernel, by decide +kernel⟩, (mem_tb (List.mem_of_getElem? (i := 400) (by decide +kernel))), (mem_tb (List.mem_of_getElem? (i := 401) (by decide +kernel)))⟩
theorem clX8_94 : CLV RX8 94 M_X4_requestFact 2 := ⟨⟨Or.inl (mem_tb (List.mem_of_getElem? (i := 407) (by decide +kernel))), (mem_tb (List.mem_of_getElem? (i := 410) (by decide +kernel))), (mem_tb (List.mem_of_getElem? (i := 2) (by decide +kernel))), by decide +kernel, by decide +kernel⟩, (mem_tb (List.mem_of_getElem? (i := 408) (by decide +kernel))), (mem_tb (List.mem_of_getElem? (i := 409) (by decide +kernel)))⟩
theorem clX8_97 : CLV RX8 97 M_X1_size 0 := ⟨⟨Or.inl (mem_tb (List.mem_of_getElem? (i := 275) (by decide +kernel))), (mem_tb (List.mem_of_getElem? (i := 278) (by decide +kernel))), (mem_tb (List.mem_of_getElem? (i := 9) (by decide +kernel))), by decide +kernel, by decide +kernel⟩, (mem_tb (List.mem_of_getElem? (i := 276) (by decide +kernel))), (mem_tb (List.mem_of_getElem? (i := 277) (by decide +kernel)))⟩
theorem clX8_100 : CLV RX8 100 M_X6_length 0 := ⟨⟨Or.inl (mem_tb (List.mem_of_getElem? (i := 279) (by decide +kernel))), (mem_tb (List.mem_of_getElem? (i := 282) (by decide +kernel))), (mem_tb (List.mem_of_getElem? (i := 10) (by decide +kernel))), by decide +kernel, by decide +kernel⟩, (mem_tb (List.mem_of_getElem? (i := 280) (by decide +kernel))), (mem_tb (List.mem_of_getElem? (i := 281) (by decide +kernel)))⟩
theorem clX8_103 : CLV RX8 103 M_X4_numberOf 1 := ⟨⟨Or.inl (mem_tb (List.mem_of_getElem? (i := 283) (by decide +kernel))), (mem_tb (List.mem_of_getElem? (i := 286) (by decide +kernel))), (mem_tb (List.mem_of_getElem? (i := 2) (by decide +kernel))), by decide +kernel, by decide +kernel⟩, (mem_tb (List.mem_of_getElem? (i := 284) (by decide +kernel))), (mem_tb (List.mem_of_getElem? (i := 285) (by decide +kernel)))⟩
theorem clX8_123 : CLV RX8 123 M_X1_restore 1 := ⟨⟨Or.inl (mem_tb (List.mem_of_getElem? (i := 317) (by decide +kernel))), (mem_tb (List.mem_of_getElem? (i := 320) (by decide +kernel))), (mem_tb (List.mem_of_getElem? (i := 9) (by decide +kernel))), by decide +kernel, by decide +kernel⟩, (mem_tb (List.mem_of_getElem? (i := 318) (by decide +kernel))), (mem_tb (List.mem_of_getElem? (i := 319) (by decide +kernel)))⟩
theorem clX8_127 : CLV RX8 127 M_X6_append 1 := ⟨⟨Or.inl (mem_tb (List.mem_of_getElem? (i := 682) (by decide +kernel))), (mem_tb (List.mem_of_getElem? (i := 685) (by decide +kernel))), (mem_tb (List.mem_of_getElem? (i := 10) (by decide +kernel))), by decide +kernel, by decide +kernel⟩, (mem_tb (List.mem_of_getElem? (i := 683) (by decide +kernel))), (mem_tb (List.mem_of_getElem? (i := 684) (by decide +kernel)))⟩
theorem clX8_130 : CLV RX8 130 M_X6_makeEmpty 0 := ⟨⟨Or.inl (mem_tb (List.mem_of_getElem? (i := 674) (by decide +kernel))), (mem_tb (List.mem_of_getElem? (i := 677) (by decide +kernel))), (mem_tb (List.mem_of_getElem? (i := 10) (by decide +kernel))), by decide +kernel, by decide +kernel⟩, (mem_tb (List.mem_of_getElem? (i := 675) (by decide +kernel))), (mem_tb (List.mem_of_getElem? (i := 676) (by decide +kernel)))⟩
theorem clX8_110 : CLV RX8 110 M_X4_copyFrom 1 := ⟨⟨Or.inl (mem_tb (List.mem_of_getElem? (i := 698) (by decide +kernel))), (mem_tb (List.mem_of_getElem? (i := 328) (by decide +kernel))), (mem_tb (List.mem_of_getElem? (i := 2) (by decide +kernel))), by decide +kernel, by decide +kernel⟩, (mem_tb (List.mem_of_getElem? (i := 326) (by decide +kernel))), (mem_tb (List.mem_of_getElem? (i := 327) (by decide +kernel)))⟩
theorem clX8_133 : CLV RX8 133 M_X3_run 2 := ⟨⟨Or.inl (mem_tb (List.mem_of_getElem? (i := 699) (by decide +kernel))), (mem_tb (List.mem_of_getElem? (i := 702) (by decide +kernel))), (mem_tb (List.mem_of_getElem? (i := 11) (by decide +kernel))), by decide +kernel, by decide +kernel⟩, (mem_tb (List.mem_of_getElem? (i := 700) (by decide +kernel))), (mem_tb (List.mem_of_getElem? (i := 701) (by decide +kernel)))⟩
theorem clX8_137 : CLV RX8 137 M_X3_faultFact 1 := ⟨⟨Or.inl (mem_tb (List.mem_of_getElem? (i := 745) (by decide +kernel))), (mem_tb (List.mem_of_getElem? (i := 748) (by decide +kernel))), (mem_tb (List.mem_of_getElem? (i := 11) (by decide +kernel))), by decide +kernel, by decide +kernel⟩, (mem_tb (List.mem_of_getElem? (i := 746) (by decide +kernel))), (mem_tb (List.mem_of_getElem? (i := 747) (by decide +kernel)))⟩
theorem clX8_140 : CLV RX8 140 M_X3_hasFault 0 := ⟨⟨Or.inl (mem_tb (List.mem_of_getElem? (i := 753) (by decide +kernel))), (mem_tb (List.mem_of_getElem? (i := 756) (by decide +kernel))), (mem_tb (List.mem_of_getElem? (i := 11) (by decide +kernel))), by decide +kernel, by decide +kernel⟩, (mem_tb (List.mem_of_getElem? (i := 754) (by decide +kernel))), (mem_tb (List.mem_of_getElem? (i := 755) (by decide +kernel)))⟩
theorem clX8_143 : CLV RX8 143 M_X3_commandsDone 0 := ⟨⟨Or.inl (mem_tb (List.mem_of_getElem? (i := 757) (by decide +kernel))), (mem_tb (List.mem_of_getElem? (i := 760) (by decide +kernel))), (mem_tb (List.mem_of_getElem? (i := 11) (by decide +kernel))), by decide +kernel, by decide +kernel⟩, (mem_tb (List.mem_of_getElem? (i := 758) (by decide +kernel))), (mem_tb (List.mem_of_getElem? (i := 759) (by decide +kernel)))⟩
theorem clX8_146 : CLV RX8 146 M_X1_keep 0 := ⟨⟨Or.inl (mem_tb (List.mem_of_getElem? (i := 469) (by decide +kernel))), (mem_tb (List.mem_of_getElem? (i := 472) (by decide +kernel))), (mem_tb (List.mem_of_getElem? (i := 9) (by decide +kernel))), by decide +kernel, by decide +kernel⟩, (mem_tb (List.mem_of_getElem? (i := 470) (by decide +kernel))), (mem_tb (List.mem_of_getElem? (i := 471) (by decide +kernel)))⟩
theorem clX8_149 : CLS RX8 149 M_J9_min_7cf53 2 := ⟨⟨Or.inl (mem_tb (List.mem_of_getElem? (i := 148) (by decide +kernel))), (mem_tb (List.mem_of_getElem? (i := 150) (by decide +kernel))), (mem_tb (List.mem_of_getElem? (i := 7) (by decide +kernel))), by decide +kernel, by decide +kernel⟩, (mem_tb (List.mem_of_getElem? (i := 149) (by decide +kernel)))⟩
theorem acX8_154 : Cond.methodLink RX8 154 arraycopyName ∈ lw_tbl := (mem_tb (List.mem_of_getElem? (i := 151) (by decide +kernel)))
theorem kL_14 : Cond.classLink RL 14 RX8 ∈ lw_tbl := (mem_tb (List.mem_of_getElem? (i := 13) (by decide +kernel)))
theorem kX8_9 : Cond.classLink RX8 9 RX4 ∈ lw_tbl := (mem_tb (List.mem_of_getElem? (i := 21) (by decide +kernel)))
theorem kX4_9 : Cond.classLink RX4 9 RX0 ∈ lw_tbl := (mem_tb (List.mem_of_getElem? (i := 27) (by decide +kernel)))
theorem kX4_18 : Cond.classLink RX4 18 RX2 ∈ lw_tbl := (mem_tb (List.mem_of_getElem? (i := 47) (by decide +kernel)))
theorem kX4_25 : Cond.classLink RX4 25 RX7 ∈ lw_tbl := (mem_tb (List.mem_of_getElem? (i := 69) (by decide +kernel)))
theorem kX4_32 : Cond.classLink RX4 32 RX5 ∈ lw_tbl := (mem_tb (List.mem_of_getElem? (i := 108) (by decide +kernel)))
theorem kX8_19 : Cond.classLink RX8 19 RX1 ∈ lw_tbl := (mem_tb (List.mem_of_getElem? (i := 188) (by decide +kernel)))
theorem kX1_9 : Cond.classLink RX1 9 RX4 ∈ lw_tbl := (mem_tb (List.mem_of_getElem? (i := 194) (by decide +kernel)))
theorem kX8_26 : Cond.classLink RX8 26 RX6 ∈ lw_tbl := (mem_tb (List.mem_of_getElem? (i := 204) (by decide +kernel)))
theorem kX8_33 : Cond.classLink RX8 33 RX3 ∈ lw_tbl := (mem_tb (List.mem_of_getElem? (i := 233) (by decide +kernel)))
theorem nwX8 : Cond.instantiable RX8 5 ∈ lw_tbl := (mem_tb (List.mem_of_getElem? (i := 14) (by decide +kernel)))
theorem nwX4 : Cond.instantiable RX4 11 ∈ lw_tbl := (mem_tb (List.mem_of_getElem? (i := 22) (by decide +kernel)))
theorem nwX0 : Cond.instantiable RX0 4 ∈ lw_tbl := (mem_tb (List.mem_of_getElem? (i := 28) (by decide +kernel)))
theorem nwX2 : Cond.instantiable RX2 5 ∈ lw_tbl := (mem_tb (List.mem_of_getElem? (i := 48) (by decide +kernel)))
theorem nwX7 : Cond.instantiable RX7 8 ∈ lw_tbl := (mem_tb (List.mem_of_getElem? (i := 70) (by decide +kernel)))
theorem nwX5 : Cond.instantiable RX5 7 ∈ lw_tbl := (mem_tb (List.mem_of_getElem? (i := 109) (by decide +kernel)))
theorem nwX1 : Cond.instantiable RX1 2 ∈ lw_tbl := (mem_tb (List.mem_of_getElem? (i := 189) (by decide +kernel)))
theorem nwX6 : Cond.instantiable RX6 6 ∈ lw_tbl := (mem_tb (List.mem_of_getElem? (i := 205) (by decide +kernel)))
theorem nwX3 : Cond.instantiable RX3 5 ∈ lw_tbl := (mem_tb (List.mem_of_getElem? (i := 234) (by decide +kernel)))
theorem itL : Cond.initialized RL ∈ lw_tbl := (mem_tb (List.mem_of_getElem? (i := 0) (by decide +kernel)))
theorem itX8 : Cond.initialized RX8 ∈ lw_tbl := (mem_tb (List.mem_of_getElem? (i := 1) (by decide +kernel)))
theorem itX4 : Cond.initialized RX4 ∈ lw_tbl := (mem_tb (List.mem_of_getElem? (i := 2) (by decide +kernel)))
theorem itX0 : Cond.initialized RX0 ∈ lw_tbl := (mem_tb (List.mem_of_getElem? (i := 3) (by decide +kernel)))
theorem itX2 : Cond.initialized RX2 ∈ lw_tbl := (mem_tb (List.mem_of_getElem? (i := 4) (by decide +kernel)))
theorem itX7 : Cond.initialized RX7 ∈ lw_tbl := (mem_tb (List.mem_of_getElem? (i := 5) (by decide +kernel)))
theorem itX5 : Cond.initialized RX5 ∈ lw_tbl := (mem_tb (List.mem_of_getElem? (i := 6) (by decide +kernel)))
theorem itJ9 : Cond.initialized RJ9 ∈ lw_tbl := (mem_tb (List.mem_of_getElem? (i := 7) (by decide +kernel)))
theorem itJ10 : Cond.initialized RJ10 ∈ lw_tbl := (mem_tb (List.mem_of_getElem? (i := 8) (by decide +kernel)))
theorem itX1 : Cond.initialized RX1 ∈ lw_tbl := (mem_tb (List.mem_of_getElem? (i := 9) (by decide +kernel)))
theorem itX6 : Cond.initialized RX6 ∈ lw_tbl := (mem_tb (List.mem_of_getElem? (i := 10) (by decide +kernel)))
theorem itX3 : Cond.initialized RX3 ∈ lw_tbl := (mem_tb (List.mem_of_getElem? (i := 11) (by decide +kernel)))
theorem itJ6 : Cond.initialized RJ6 ∈ lw_tbl := (mem_tb (List.mem_of_getElem? (i := 12) (by decide +kernel)))
theorem w_oi2 : Cond.instanceMethod Lib.objectInit ∈ lw_tbl := (mem_tb (List.mem_of_getElem? (i := 19) (by decide +kernel)))
theorem w_oi3 : Cond.code Lib.objectInit ⟨#[0xb1]⟩ 1 none ∈ lw_tbl := (mem_tb (List.mem_of_getElem? (i := 20) (by decide +kernel)))
theorem w_ac2 : Cond.native arraycopyName ∈ lw_tbl := (mem_tb (List.mem_of_getElem? (i := 153) (by decide +kernel)))
theorem w_ac3 : Cond.static arraycopyName ∈ lw_tbl := (mem_tb (List.mem_of_getElem? (i := 152) (by decide +kernel)))
theorem w_ac4 : Cond.initialized "java/lang/System" ∈ lw_tbl := (mem_tb (List.mem_of_getElem? (i := 8) (by decide +kernel)))
theorem w_arr : Cond.arrayClass .int ∈ lw_tbl := (mem_tb (List.mem_of_getElem? (i := 46) (by decide +kernel)))
theorem w_stc : Cond.arrayOver (.object "PagePairs$State") ∈ lw_tbl := (mem_tb (List.mem_of_getElem? (i := 195) (by decide +kernel)))
theorem w_kL7 : Cond.constant RL 7 (-674241173) ∈ lw_tbl := (mem_tb (List.mem_of_getElem? (i := 350) (by decide +kernel)))
theorem w_kL8 : Cond.constant RL 8 2147483647 ∈ lw_tbl := (mem_tb (List.mem_of_getElem? (i := 354) (by decide +kernel)))
theorem w_kL104 : Cond.constant RL 104 2147483646 ∈ lw_tbl := (mem_tb (List.mem_of_getElem? (i := 761) (by decide +kernel)))
theorem w_kL9 : Cond.constantLong RL 9 67 ∈ lw_tbl := (mem_tb (List.mem_of_getElem? (i := 358) (by decide +kernel)))
theorem w_kL11 : Cond.constantLong RL 11 31 ∈ lw_tbl := (mem_tb (List.mem_of_getElem? (i := 359) (by decide +kernel)))
theorem w_k265 : Cond.constant RJ6 265 1431655765 ∈ lw_tbl := (mem_tb (List.mem_of_getElem? (i := 583) (by decide +kernel)))
theorem w_k266 : Cond.constant RJ6 266 858993459 ∈ lw_tbl := (mem_tb (List.mem_of_getElem? (i := 584) (by decide +kernel)))
theorem w_k267 : Cond.constant RJ6 267 252645135 ∈ lw_tbl := (mem_tb (List.mem_of_getElem? (i := 585) (by decide +kernel)))
theorem w_ls0 : Cond.laysStatic "PagePairs" (stn 0) "[I" ∈ lw_tbl := (mem_tb (List.mem_of_getElem? (i := 144) (by decide +kernel)))
theorem w_ls1 : Cond.laysStatic "PagePairs" (stn 1) "[I" ∈ lw_tbl := (mem_tb (List.mem_of_getElem? (i := 376) (by decide +kernel)))
theorem w_ls2 : Cond.laysStatic "PagePairs" (stn 2) "[I" ∈ lw_tbl := (mem_tb (List.mem_of_getElem? (i := 378) (by decide +kernel)))
theorem w_ls3 : Cond.laysStatic "PagePairs" (stn 3) "[I" ∈ lw_tbl := (mem_tb (List.mem_of_getElem? (i := 664) (by decide +kernel)))
theorem w_ls4 : Cond.laysStatic "PagePairs" (stn 4) "[I" ∈ lw_tbl := (mem_tb (List.mem_of_getElem? (i := 666) (by decide +kernel)))
