/-! the class copies -/
section CLSH
variable {E : ET} {hi : HI} {hr : HR} {o p : Nat} {t : TS}
set_option maxRecDepth 100000 in
set_option maxHeartbeats 4000000 in
theorem c_X8_copyRow {a b N : Nat} (hA : AOK E 125 a N) (hb : b < 125) (hs : sh b = (10, N)) (hN : N < 2000) : AMet E M_X8_copyRow [aR a, aR b] hi hr 125 (EX none (cpy hi a b N) hr 125) := by
  refine am_of (by decide +kernel) (Nat.le_of_ble_eq_true rfl) ?_
  have hmm : min (N : Int) (N : Int) = (N : Int) := by omega
  refine aw_aload_n dX8_copyRow_0 rfl ?_
  refine aw_iconst dX8_copyRow_1 ?_
  refine aw_aload_n dX8_copyRow_2 rfl ?_
  refine aw_iconst dX8_copyRow_3 ?_
  refine aw_aload_n dX8_copyRow_4 rfl ?_
  refine aw_alen dX8_copyRow_5 hA ?_
  refine aw_aload_n dX8_copyRow_6 rfl ?_
  refine aw_alen dX8_copyRow_7 (Or.inl ⟨hb, hs⟩) ?_
  refine aw_min dX8_copyRow_8 cmX8_149 w_min2 w_math w_min4 (by decide) (by simp only [List.length_cons, List.length_nil]; decide) (by decide) (by decide) ⟨by omega, by omega⟩ ⟨by omega, by omega⟩ ?_
  rw [hmm]
  refine aw_copy0 (N := N) (N1 := N) dX8_copyRow_11 acX8_154 w_ac2 w_ac3 w_ac4 hA hb hs (Nat.le_refl N) (Nat.le_refl N) hN (by decide) (by decide) ?_
  refine aw_vret dX8_copyRow_14 rfl (by decide) (by decide) ?_
  exact EX.rf
theorem c_cpR (ho : St o) (hp : St p) (hn : ¬ p = o) (j N : Nat) (h1 : sh (p + j) = (10, N)) (h2 : sh (o + j) = (10, N)) (hj : j < 17 := by decide) (hN : N < 2000 := by decide) : AMet E M_X8_copyRow [aR (p + j), aR (o + j)] (putS o hi t) hr 125 (EX none (putS o hi (cpR t j N (getS p hi))) hr 125) := by
  have g := c_X8_copyRow (E := E) (hi := putS o hi t) (hr := hr) (a := p + j) (b := o + j) (N := N) (Or.inl ⟨by have := st_lt hp; omega, h1⟩) (by have := st_lt ho; omega) h2 hN
  rw [putS_cpy ho hp hn hi t j N hj] at g
  exact g
set_option maxRecDepth 100000 in
set_option maxHeartbeats 4000000 in
theorem c_X0_copyFrom (ho : St o) (hp : St p) (hn : ¬ p = o) (hHR : HRk hr) : AMet E M_X0_copyFrom [aR (o + 1), aR (p + 1)] (putS o hi t) hr 125 (EX none (putS o hi (scC t (getS p hi))) hr 125) := by
  refine am_of (by decide +kernel) (Nat.le_of_ble_eq_true rfl) ?_
  refine aw_aload_n dX0_copyFrom_0 rfl ?_
  refine aw_getr (x := (p + 2)) dX0_copyFrom_1 ci0 (by decide) fX0_9 (by have := st_lt hp; omega) (st_sh hp 1) rfl (st_r1 hp hHR 0) ?_
  refine aw_aload_n dX0_copyFrom_4 rfl ?_
  refine aw_getr (x := (o + 2)) dX0_copyFrom_5 ci0 (by decide) fX0_9 (by have := st_lt ho; omega) (st_sh ho 1) rfl (st_r1 ho hHR 0) ?_
  refine aw_S2v dX0_copyFrom_8 clX0_24 ⟨by decide, by decide⟩ (c_cpR ho hp hn 2 48 (st_sh hp 2) (st_sh ho 2)) (by decide) (by decide) rfl rfl (by simp only [List.length_cons, List.length_nil]; omega) ?_
  refine aw_aload_n dX0_copyFrom_11 rfl ?_
  refine aw_getr (x := (p + 3)) dX0_copyFrom_12 ci0 (by decide) fX0_15 (by have := st_lt hp; omega) (st_sh hp 1) rfl (st_r1 hp hHR 1) ?_
  refine aw_aload_n dX0_copyFrom_15 rfl ?_
  refine aw_getr (x := (o + 3)) dX0_copyFrom_16 ci0 (by decide) fX0_15 (by have := st_lt ho; omega) (st_sh ho 1) rfl (st_r1 ho hHR 1) ?_
  refine aw_S2v dX0_copyFrom_19 clX0_24 ⟨by decide, by decide⟩ (c_cpR ho hp hn 3 48 (st_sh hp 3) (st_sh ho 3)) (by decide) (by decide) rfl rfl (by simp only [List.length_cons, List.length_nil]; omega) ?_
  refine aw_aload_n dX0_copyFrom_22 rfl ?_
  refine aw_getr (x := (p + 4)) dX0_copyFrom_23 ci0 (by decide) fX0_18 (by have := st_lt hp; omega) (st_sh hp 1) rfl (st_r1 hp hHR 2) ?_
  refine aw_aload_n dX0_copyFrom_26 rfl ?_
  refine aw_getr (x := (o + 4)) dX0_copyFrom_27 ci0 (by decide) fX0_18 (by have := st_lt ho; omega) (st_sh ho 1) rfl (st_r1 ho hHR 2) ?_
  refine aw_S2v dX0_copyFrom_30 clX0_24 ⟨by decide, by decide⟩ (c_cpR ho hp hn 4 48 (st_sh hp 4) (st_sh ho 4)) (by decide) (by decide) rfl rfl (by simp only [List.length_cons, List.length_nil]; omega) ?_
  refine aw_aload_n dX0_copyFrom_33 rfl ?_
  refine aw_getr (x := (p + 5)) dX0_copyFrom_34 ci0 (by decide) fX0_21 (by have := st_lt hp; omega) (st_sh hp 1) rfl (st_r1 hp hHR 3) ?_
  refine aw_aload_n dX0_copyFrom_37 rfl ?_
  refine aw_getr (x := (o + 5)) dX0_copyFrom_38 ci0 (by decide) fX0_21 (by have := st_lt ho; omega) (st_sh ho 1) rfl (st_r1 ho hHR 3) ?_
  refine aw_S2v dX0_copyFrom_41 clX0_24 ⟨by decide, by decide⟩ (c_cpR ho hp hn 5 48 (st_sh hp 5) (st_sh ho 5)) (by decide) (by decide) rfl rfl (by simp only [List.length_cons, List.length_nil]; omega) ?_
  refine aw_vret dX0_copyFrom_44 rfl (by decide) (by decide) ?_
  exact EX.rf
set_option maxRecDepth 100000 in
set_option maxHeartbeats 4000000 in
theorem c_X2_copyFrom (ho : St o) (hp : St p) (hn : ¬ p = o) (hHR : HRk hr) : AMet E M_X2_copyFrom [aR (o + 6), aR (p + 6)] (putS o hi t) hr 125 (EX none (putS o hi (scQ t (getS p hi))) hr 125) := by
  refine am_of (by decide +kernel) (Nat.le_of_ble_eq_true rfl) ?_
  refine aw_aload_n dX2_copyFrom_0 rfl ?_
  refine aw_getr (x := (p + 7)) dX2_copyFrom_1 ci2 (by decide) fX2_9 (by have := st_lt hp; omega) (st_sh hp 6) rfl (st_r6 hp hHR 0) ?_
  refine aw_aload_n dX2_copyFrom_4 rfl ?_
  refine aw_getr (x := (o + 7)) dX2_copyFrom_5 ci2 (by decide) fX2_9 (by have := st_lt ho; omega) (st_sh ho 6) rfl (st_r6 ho hHR 0) ?_
  refine aw_S2v dX2_copyFrom_8 clX2_24 ⟨by decide, by decide⟩ (c_cpR ho hp hn 7 8 (st_sh hp 7) (st_sh ho 7)) (by decide) (by decide) rfl rfl (by simp only [List.length_cons, List.length_nil]; omega) ?_
  refine aw_aload_n dX2_copyFrom_11 rfl ?_
  refine aw_getr (x := (p + 8)) dX2_copyFrom_12 ci2 (by decide) fX2_15 (by have := st_lt hp; omega) (st_sh hp 6) rfl (st_r6 hp hHR 1) ?_
  refine aw_aload_n dX2_copyFrom_15 rfl ?_
  refine aw_getr (x := (o + 8)) dX2_copyFrom_16 ci2 (by decide) fX2_15 (by have := st_lt ho; omega) (st_sh ho 6) rfl (st_r6 ho hHR 1) ?_
  refine aw_S2v dX2_copyFrom_19 clX2_24 ⟨by decide, by decide⟩ (c_cpR ho hp hn 8 8 (st_sh hp 8) (st_sh ho 8)) (by decide) (by decide) rfl rfl (by simp only [List.length_cons, List.length_nil]; omega) ?_
  refine aw_aload_n dX2_copyFrom_22 rfl ?_
  refine aw_getr (x := (p + 9)) dX2_copyFrom_23 ci2 (by decide) fX2_18 (by have := st_lt hp; omega) (st_sh hp 6) rfl (st_r6 hp hHR 2) ?_
  refine aw_aload_n dX2_copyFrom_26 rfl ?_
  refine aw_getr (x := (o + 9)) dX2_copyFrom_27 ci2 (by decide) fX2_18 (by have := st_lt ho; omega) (st_sh ho 6) rfl (st_r6 ho hHR 2) ?_
  refine aw_S2v dX2_copyFrom_30 clX2_24 ⟨by decide, by decide⟩ (c_cpR ho hp hn 9 8 (st_sh hp 9) (st_sh ho 9)) (by decide) (by decide) rfl rfl (by simp only [List.length_cons, List.length_nil]; omega) ?_
  refine aw_aload_n dX2_copyFrom_33 rfl ?_
  refine aw_getr (x := (p + 10)) dX2_copyFrom_34 ci2 (by decide) fX2_21 (by have := st_lt hp; omega) (st_sh hp 6) rfl (st_r6 hp hHR 3) ?_
  refine aw_aload_n dX2_copyFrom_37 rfl ?_
  refine aw_getr (x := (o + 10)) dX2_copyFrom_38 ci2 (by decide) fX2_21 (by have := st_lt ho; omega) (st_sh ho 6) rfl (st_r6 ho hHR 3) ?_
  refine aw_S2v dX2_copyFrom_41 clX2_24 ⟨by decide, by decide⟩ (c_cpR ho hp hn 10 8 (st_sh hp 10) (st_sh ho 10)) (by decide) (by decide) rfl rfl (by simp only [List.length_cons, List.length_nil]; omega) ?_
  refine aw_aload_n dX2_copyFrom_44 rfl ?_
  refine aw_aload_n dX2_copyFrom_45 rfl ?_
  refine aw_getv dX2_copyFrom_46 ci2 (by decide) fX2_28 (by have := st_lt hp; omega) (st_sh hp 6) rfl (putS_o ho hp hn _ _ 6 4) ?_
  refine aw_putv dX2_copyFrom_49 ci2 (by decide) fX2_28 (by have := st_lt ho; omega) (st_sh ho 6) rfl rfl (Or.inl rfl) (putS_uk o _ _ 6 4 4 _ rfl) ?_
  refine aw_vret dX2_copyFrom_52 rfl (by decide) (by decide) ?_
  exact EX.rf
set_option maxRecDepth 100000 in
set_option maxHeartbeats 4000000 in
theorem c_X7_copyFrom (ho : St o) (hp : St p) (hn : ¬ p = o) (hHR : HRk hr) (b0 : hi (p + 11) 0 = 0 ∨ hi (p + 11) 0 = 1) (b1 : hi (p + 11) 1 = 0 ∨ hi (p + 11) 1 = 1) : AMet E M_X7_copyFrom [aR (o + 11), aR (p + 11)] (putS o hi t) hr 125 (EX none (putS o hi (scW t (getS p hi))) hr 125) := by
  refine am_of (by decide +kernel) (Nat.le_of_ble_eq_true rfl) ?_
  refine aw_aload_n dX7_copyFrom_0 rfl ?_
  refine aw_aload_n dX7_copyFrom_1 rfl ?_
  refine aw_getv dX7_copyFrom_2 ci7 (by decide) fX7_9 (by have := st_lt hp; omega) (st_sh hp 11) rfl (putS_o ho hp hn _ _ 11 0) ?_
  refine aw_putv dX7_copyFrom_5 ci7 (by decide) fX7_9 (by have := st_lt ho; omega) (st_sh ho 11) rfl rfl (Or.inr ⟨rfl, b0⟩) (putS_uk o _ _ 11 0 0 _ rfl) ?_
  refine aw_aload_n dX7_copyFrom_8 rfl ?_
  refine aw_aload_n dX7_copyFrom_9 rfl ?_
  refine aw_getv dX7_copyFrom_10 ci7 (by decide) fX7_15 (by have := st_lt hp; omega) (st_sh hp 11) rfl (putS_o ho hp hn _ _ 11 1) ?_
  refine aw_putv dX7_copyFrom_13 ci7 (by decide) fX7_15 (by have := st_lt ho; omega) (st_sh ho 11) rfl rfl (Or.inr ⟨rfl, b1⟩) (putS_uk o _ _ 11 1 1 _ rfl) ?_
  refine aw_aload_n dX7_copyFrom_16 rfl ?_
  refine aw_aload_n dX7_copyFrom_17 rfl ?_
  refine aw_getv dX7_copyFrom_18 ci7 (by decide) fX7_18 (by have := st_lt hp; omega) (st_sh hp 11) rfl (putS_o ho hp hn _ _ 11 2) ?_
  refine aw_putv dX7_copyFrom_21 ci7 (by decide) fX7_18 (by have := st_lt ho; omega) (st_sh ho 11) rfl rfl (Or.inl rfl) (putS_uk o _ _ 11 2 2 _ rfl) ?_
  refine aw_aload_n dX7_copyFrom_24 rfl ?_
  refine aw_aload_n dX7_copyFrom_25 rfl ?_
  refine aw_getv dX7_copyFrom_26 ci7 (by decide) fX7_22 (by have := st_lt hp; omega) (st_sh hp 11) rfl (putS_o ho hp hn _ _ 11 3) ?_
  refine aw_putv dX7_copyFrom_29 ci7 (by decide) fX7_22 (by have := st_lt ho; omega) (st_sh ho 11) rfl rfl (Or.inl rfl) (putS_uk o _ _ 11 3 3 _ rfl) ?_
  refine aw_aload_n dX7_copyFrom_32 rfl ?_
  refine aw_aload_n dX7_copyFrom_33 rfl ?_
  refine aw_getv dX7_copyFrom_34 ci7 (by decide) fX7_25 (by have := st_lt hp; omega) (st_sh hp 11) rfl (putS_o ho hp hn _ _ 11 4) ?_
  refine aw_putv dX7_copyFrom_37 ci7 (by decide) fX7_25 (by have := st_lt ho; omega) (st_sh ho 11) rfl rfl (Or.inl rfl) (putS_uk o _ _ 11 4 4 _ rfl) ?_
  refine aw_aload_n dX7_copyFrom_40 rfl ?_
  refine aw_aload_n dX7_copyFrom_41 rfl ?_
  refine aw_getv dX7_copyFrom_42 ci7 (by decide) fX7_28 (by have := st_lt hp; omega) (st_sh hp 11) rfl (putS_o ho hp hn _ _ 11 5) ?_
  refine aw_putv dX7_copyFrom_45 ci7 (by decide) fX7_28 (by have := st_lt ho; omega) (st_sh ho 11) rfl rfl (Or.inl rfl) (putS_uk o _ _ 11 5 5 _ rfl) ?_
  refine aw_aload_n dX7_copyFrom_48 rfl ?_
  refine aw_aload_n dX7_copyFrom_49 rfl ?_
  refine aw_getv dX7_copyFrom_50 ci7 (by decide) fX7_31 (by have := st_lt hp; omega) (st_sh hp 11) rfl (putS_o ho hp hn _ _ 11 6) ?_
  refine aw_putv dX7_copyFrom_53 ci7 (by decide) fX7_31 (by have := st_lt ho; omega) (st_sh ho 11) rfl rfl (Or.inl rfl) (putS_uk o _ _ 11 6 6 _ rfl) ?_
  refine aw_aload_n dX7_copyFrom_56 rfl ?_
  refine aw_aload_n dX7_copyFrom_57 rfl ?_
  refine aw_getv dX7_copyFrom_58 ci7 (by decide) fX7_34 (by have := st_lt hp; omega) (st_sh hp 11) rfl (putS_o ho hp hn _ _ 11 7) ?_
  refine aw_putv dX7_copyFrom_61 ci7 (by decide) fX7_34 (by have := st_lt ho; omega) (st_sh ho 11) rfl rfl (Or.inl rfl) (putS_uk o _ _ 11 7 7 _ rfl) ?_
  refine aw_vret dX7_copyFrom_64 rfl (by decide) (by decide) ?_
  exact EX.rf
set_option maxRecDepth 100000 in
set_option maxHeartbeats 4000000 in
theorem c_X5_copyFrom (ho : St o) (hp : St p) (hn : ¬ p = o) (hHR : HRk hr) : AMet E M_X5_copyFrom [aR (o + 12), aR (p + 12)] (putS o hi t) hr 125 (EX none (putS o hi (scT t (getS p hi))) hr 125) := by
  refine am_of (by decide +kernel) (Nat.le_of_ble_eq_true rfl) ?_
  refine aw_aload_n dX5_copyFrom_0 rfl ?_
  refine aw_aload_n dX5_copyFrom_1 rfl ?_
  refine aw_getv dX5_copyFrom_2 ci5 (by decide) fX5_7 (by have := st_lt hp; omega) (st_sh hp 12) rfl (putS_o ho hp hn _ _ 12 0) ?_
  refine aw_putv dX5_copyFrom_5 ci5 (by decide) fX5_7 (by have := st_lt ho; omega) (st_sh ho 12) rfl rfl (Or.inl rfl) (putS_uk o _ _ 12 0 0 _ rfl) ?_
  refine aw_aload_n dX5_copyFrom_8 rfl ?_
  refine aw_aload_n dX5_copyFrom_9 rfl ?_
  refine aw_getv dX5_copyFrom_10 ci5 (by decide) fX5_13 (by have := st_lt hp; omega) (st_sh hp 12) rfl (putS_o ho hp hn _ _ 12 1) ?_
  refine aw_putv dX5_copyFrom_13 ci5 (by decide) fX5_13 (by have := st_lt ho; omega) (st_sh ho 12) rfl rfl (Or.inl rfl) (putS_uk o _ _ 12 1 1 _ rfl) ?_
  refine aw_aload_n dX5_copyFrom_16 rfl ?_
  refine aw_aload_n dX5_copyFrom_17 rfl ?_
  refine aw_getv dX5_copyFrom_18 ci5 (by decide) fX5_16 (by have := st_lt hp; omega) (st_sh hp 12) rfl (putS_o ho hp hn _ _ 12 2) ?_
  refine aw_putv dX5_copyFrom_21 ci5 (by decide) fX5_16 (by have := st_lt ho; omega) (st_sh ho 12) rfl rfl (Or.inl rfl) (putS_uk o _ _ 12 2 2 _ rfl) ?_
  refine aw_aload_n dX5_copyFrom_24 rfl ?_
  refine aw_aload_n dX5_copyFrom_25 rfl ?_
  refine aw_getv dX5_copyFrom_26 ci5 (by decide) fX5_19 (by have := st_lt hp; omega) (st_sh hp 12) rfl (putS_o ho hp hn _ _ 12 3) ?_
  refine aw_putv dX5_copyFrom_29 ci5 (by decide) fX5_19 (by have := st_lt ho; omega) (st_sh ho 12) rfl rfl (Or.inl rfl) (putS_uk o _ _ 12 3 3 _ rfl) ?_
  refine aw_aload_n dX5_copyFrom_32 rfl ?_
  refine aw_aload_n dX5_copyFrom_33 rfl ?_
  refine aw_getv dX5_copyFrom_34 ci5 (by decide) fX5_22 (by have := st_lt hp; omega) (st_sh hp 12) rfl (putS_o ho hp hn _ _ 12 4) ?_
  refine aw_putv dX5_copyFrom_37 ci5 (by decide) fX5_22 (by have := st_lt ho; omega) (st_sh ho 12) rfl rfl (Or.inl rfl) (putS_uk o _ _ 12 4 4 _ rfl) ?_
  refine aw_aload_n dX5_copyFrom_40 rfl ?_
  refine aw_aload_n dX5_copyFrom_41 rfl ?_
  refine aw_getv dX5_copyFrom_42 ci5 (by decide) fX5_25 (by have := st_lt hp; omega) (st_sh hp 12) rfl (putS_o ho hp hn _ _ 12 5) ?_
  refine aw_putv dX5_copyFrom_45 ci5 (by decide) fX5_25 (by have := st_lt ho; omega) (st_sh ho 12) rfl rfl (Or.inl rfl) (putS_uk o _ _ 12 5 5 _ rfl) ?_
  refine aw_aload_n dX5_copyFrom_48 rfl ?_
  refine aw_aload_n dX5_copyFrom_49 rfl ?_
  refine aw_getv dX5_copyFrom_50 ci5 (by decide) fX5_28 (by have := st_lt hp; omega) (st_sh hp 12) rfl (putS_o ho hp hn _ _ 12 6) ?_
  refine aw_putv dX5_copyFrom_53 ci5 (by decide) fX5_28 (by have := st_lt ho; omega) (st_sh ho 12) rfl rfl (Or.inl rfl) (putS_uk o _ _ 12 6 6 _ rfl) ?_
  refine aw_vret dX5_copyFrom_56 rfl (by decide) (by decide) ?_
  exact EX.rf
def BO (t : TS) : Prop := (t 0 8 = 0 ∨ t 0 8 = 1) ∧ (t 11 0 = 0 ∨ t 11 0 = 1) ∧ (t 11 1 = 0 ∨ t 11 1 = 1)
theorem Rl.bo {t : TS} {s : Int → Int} (h : Rl t s) : BO t := ⟨by have := h.1.1.2.2.2.2.2.1; have := h.2.2.2.2.2.2.2.1; omega, h.2.1.2.2.2.1, h.2.1.2.2.2.2.1⟩
set_option maxRecDepth 100000 in
set_option maxHeartbeats 4000000 in
theorem c_X4_copyFrom (ho : St o) (hp : St p) (hn : ¬ p = o) (hHR : HRk hr) (hB : BO (getS p hi)) : AMet E M_X4_copyFrom [aR o, aR p] (putS o hi t) hr 125 (EX none (putS o hi (scS t (getS p hi))) hr 125) := by
  refine am_of (by decide +kernel) (Nat.le_of_ble_eq_true rfl) ?_
  have b0 : hi p 8 = 0 ∨ hi p 8 = 1 := hB.1
  have b1 : hi (p + 11) 0 = 0 ∨ hi (p + 11) 0 = 1 := hB.2.1
  have b2 : hi (p + 11) 1 = 0 ∨ hi (p + 11) 1 = 1 := hB.2.2
  refine aw_aload_n dX4_copyFrom_0 rfl ?_
  refine aw_getr (x := (o + 1)) dX4_copyFrom_1 ci4 (by decide) fX4_12 (by have := st_lt ho; omega) (st_sh0 ho) rfl (st_r0 ho hHR 0) ?_
  refine aw_aload_n dX4_copyFrom_4 rfl ?_
  refine aw_getr (x := (p + 1)) dX4_copyFrom_5 ci4 (by decide) fX4_12 (by have := st_lt hp; omega) (st_sh0 hp) rfl (st_r0 hp hHR 0) ?_
  refine aw_V1v dX4_copyFrom_8 clX4_63 ⟨by decide, by decide⟩ (c := 0) (N := 4) (by have := st_lt ho; omega) (st_sh ho 1) rfl (c_X0_copyFrom ho hp hn hHR) (by decide) (by decide) rfl rfl (by simp only [List.length_cons, List.length_nil]; omega) ?_
  refine aw_aload_n dX4_copyFrom_11 rfl ?_
  refine aw_getr (x := (o + 6)) dX4_copyFrom_12 ci4 (by decide) fX4_21 (by have := st_lt ho; omega) (st_sh0 ho) rfl (st_r0 ho hHR 1) ?_
  refine aw_aload_n dX4_copyFrom_15 rfl ?_
  refine aw_getr (x := (p + 6)) dX4_copyFrom_16 ci4 (by decide) fX4_21 (by have := st_lt hp; omega) (st_sh0 hp) rfl (st_r0 hp hHR 1) ?_
  refine aw_V1v dX4_copyFrom_19 clX4_67 ⟨by decide, by decide⟩ (c := 2) (N := 5) (by have := st_lt ho; omega) (st_sh ho 6) rfl (c_X2_copyFrom ho hp hn hHR) (by decide) (by decide) rfl rfl (by simp only [List.length_cons, List.length_nil]; omega) ?_
  refine aw_aload_n dX4_copyFrom_22 rfl ?_
  refine aw_getr (x := (o + 11)) dX4_copyFrom_23 ci4 (by decide) fX4_28 (by have := st_lt ho; omega) (st_sh0 ho) rfl (st_r0 ho hHR 2) ?_
  refine aw_aload_n dX4_copyFrom_26 rfl ?_
  refine aw_getr (x := (p + 11)) dX4_copyFrom_27 ci4 (by decide) fX4_28 (by have := st_lt hp; omega) (st_sh0 hp) rfl (st_r0 hp hHR 2) ?_
  refine aw_V1v dX4_copyFrom_30 clX4_70 ⟨by decide, by decide⟩ (c := 7) (N := 8) (by have := st_lt ho; omega) (st_sh ho 11) rfl (c_X7_copyFrom ho hp hn hHR b1 b2) (by decide) (by decide) rfl rfl (by simp only [List.length_cons, List.length_nil]; omega) ?_
  refine aw_aload_n dX4_copyFrom_33 rfl ?_
  refine aw_getr (x := (o + 12)) dX4_copyFrom_34 ci4 (by decide) fX4_35 (by have := st_lt ho; omega) (st_sh0 ho) rfl (st_r0 ho hHR 3) ?_
  refine aw_aload_n dX4_copyFrom_37 rfl ?_
  refine aw_getr (x := (p + 12)) dX4_copyFrom_38 ci4 (by decide) fX4_35 (by have := st_lt hp; omega) (st_sh0 hp) rfl (st_r0 hp hHR 3) ?_
  refine aw_V1v dX4_copyFrom_41 clX4_73 ⟨by decide, by decide⟩ (c := 5) (N := 7) (by have := st_lt ho; omega) (st_sh ho 12) rfl (c_X5_copyFrom ho hp hn hHR) (by decide) (by decide) rfl rfl (by simp only [List.length_cons, List.length_nil]; omega) ?_
  refine aw_aload_n dX4_copyFrom_44 rfl ?_
  refine aw_getr (x := (p + 13)) dX4_copyFrom_45 ci4 (by decide) fX4_39 (by have := st_lt hp; omega) (st_sh0 hp) rfl (st_r0 hp hHR 4) ?_
  refine aw_aload_n dX4_copyFrom_48 rfl ?_
  refine aw_getr (x := (o + 13)) dX4_copyFrom_49 ci4 (by decide) fX4_39 (by have := st_lt ho; omega) (st_sh0 ho) rfl (st_r0 ho hHR 4) ?_
  refine aw_S2v dX4_copyFrom_52 clX4_59 ⟨by decide, by decide⟩ (c_cpR ho hp hn 13 4 (st_sh hp 13) (st_sh ho 13)) (by decide) (by decide) rfl rfl (by simp only [List.length_cons, List.length_nil]; omega) ?_
  refine aw_aload_n dX4_copyFrom_55 rfl ?_
  refine aw_getr (x := (p + 14)) dX4_copyFrom_56 ci4 (by decide) fX4_43 (by have := st_lt hp; omega) (st_sh0 hp) rfl (st_r0 hp hHR 5) ?_
  refine aw_aload_n dX4_copyFrom_59 rfl ?_
  refine aw_getr (x := (o + 14)) dX4_copyFrom_60 ci4 (by decide) fX4_43 (by have := st_lt ho; omega) (st_sh0 ho) rfl (st_r0 ho hHR 5) ?_
  refine aw_S2v dX4_copyFrom_63 clX4_59 ⟨by decide, by decide⟩ (c_cpR ho hp hn 14 8 (st_sh hp 14) (st_sh ho 14)) (by decide) (by decide) rfl rfl (by simp only [List.length_cons, List.length_nil]; omega) ?_
  refine aw_aload_n dX4_copyFrom_66 rfl ?_
  refine aw_getr (x := (p + 15)) dX4_copyFrom_67 ci4 (by decide) fX4_46 (by have := st_lt hp; omega) (st_sh0 hp) rfl (st_r0 hp hHR 6) ?_
  refine aw_aload_n dX4_copyFrom_70 rfl ?_
  refine aw_getr (x := (o + 15)) dX4_copyFrom_71 ci4 (by decide) fX4_46 (by have := st_lt ho; omega) (st_sh0 ho) rfl (st_r0 ho hHR 6) ?_
  refine aw_S2v dX4_copyFrom_74 clX4_59 ⟨by decide, by decide⟩ (c_cpR ho hp hn 15 2 (st_sh hp 15) (st_sh ho 15)) (by decide) (by decide) rfl rfl (by simp only [List.length_cons, List.length_nil]; omega) ?_
  refine aw_aload_n dX4_copyFrom_77 rfl ?_
  refine aw_aload_n dX4_copyFrom_78 rfl ?_
  refine aw_getv dX4_copyFrom_79 ci4 (by decide) fX4_52 (by have := st_lt hp; omega) (st_sh0 hp) rfl (putS_o0 ho hp hn _ _ 8) ?_
  refine aw_putv dX4_copyFrom_82 ci4 (by decide) fX4_52 (by have := st_lt ho; omega) (st_sh0 ho) rfl rfl (Or.inr ⟨rfl, b0⟩) (putS_uk0 o _ _ 8 8 _ rfl) ?_
  refine aw_aload_n dX4_copyFrom_85 rfl ?_
  refine aw_aload_n dX4_copyFrom_86 rfl ?_
  refine aw_getv dX4_copyFrom_87 ci4 (by decide) fX4_76 (by have := st_lt hp; omega) (st_sh0 hp) rfl (putS_o0 ho hp hn _ _ 9) ?_
  refine aw_putv dX4_copyFrom_90 ci4 (by decide) fX4_76 (by have := st_lt ho; omega) (st_sh0 ho) rfl rfl (Or.inl rfl) (putS_uk0 o _ _ 9 9 _ rfl) ?_
  refine aw_aload_n dX4_copyFrom_93 rfl ?_
  refine aw_aload_n dX4_copyFrom_94 rfl ?_
  refine aw_getv dX4_copyFrom_95 ci4 (by decide) fX4_80 (by have := st_lt hp; omega) (st_sh0 hp) rfl (putS_o0 ho hp hn _ _ 10) ?_
  refine aw_putv dX4_copyFrom_98 ci4 (by decide) fX4_80 (by have := st_lt ho; omega) (st_sh0 ho) rfl rfl (Or.inl rfl) (putS_uk0 o _ _ 10 10 _ rfl) ?_
  refine aw_vret dX4_copyFrom_101 rfl (by decide) (by decide) ?_
  exact EX.rf
theorem c_copy (ho : St o) (hp : St p) (hn : ¬ p = o) (hHR : HRk hr) (hB : BO (getS p hi)) : AMet E M_X4_copyFrom [aR o, aR p] hi hr 125 (EX none (putS o hi (scS (getS o hi) (getS p hi))) hr 125) := by
  have g := c_X4_copyFrom (E := E) (hi := hi) (t := getS o hi) ho hp hn hHR hB
  rw [putS_self] at g
  exact g
end CLSH
