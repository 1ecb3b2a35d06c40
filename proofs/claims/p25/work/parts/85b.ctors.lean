/-! the constructors -/
section CTOR0
variable {E : ET} {M M2 : MT} {cu su pc : Nat} {ls : List (Option AV)} {st : List AV} {hi h1 : HI} {hr hr1 : HR} {n n1 : Nat} {Q : QT} {idx b : Nat}
theorem aw_I0c (hd : decode (mC M) pc = .ok (.invokespecial idx, 3)) (hc : CLI (mY M).cls idx M2 0) (hf : fitsIn M M2) (hM : AMet E M2 [aR b] hi hr n (EX none h1 hr1 n1)) (hw1 : cu + mMc M2 ≤ mMc M) (hw2 : su + mMs M2 ≤ mMs M) (hst : st.length ≤ 4)
    (kk : AW E M (cu + mMc M2) (su + mMs M2) (pc + 3) ls st h1 hr1 n1 Q) : AW E M cu su pc ls (aR b :: st) hi hr n Q := by
  refine aw_I0 hd hc hf hM hw1 hw2 hst fun r h2 r2 n2 hq => ?_
  obtain ⟨rfl, rfl, rfl, rfl⟩ := hq
  exact kk
/-- fewer cells are told -/
theorem aw_room {cu2 su2 : Nat} (e1 : cu = cu2) (e2 : su = su2) (kk : AW E M cu2 su2 pc ls st hi hr n Q) : AW E M cu su pc ls st hi hr n Q := by subst e1; subst e2; exact kk
end CTOR0
def clR (hr : HR) (a : Nat) : HR := upr (upr (upr (upr hr a 0 (some (a + 1))) a 1 (some (a + 2))) a 2 (some (a + 3))) a 3 (some (a + 4))
def stR (hr : HR) (o : Nat) : HR := upr (upr (upr (upr (upr (upr (upr (clR (upr (clR hr (o + 1)) o 0 (some (o + 1))) (o + 6)) o 1 (some (o + 6))) o 2 (some (o + 11))) o 3 (some (o + 12))) o 4 (some (o + 13))) o 5 (some (o + 14))) o 6 (some (o + 15))) o 7 (some (o + 16))
def stH (hi : HI) (o : Nat) : HI := cpy (up2 hi o 8 1) 1000 (o + 13) 4
def hA0 : HR := fun _ _ => none
def hA1 : HR := upr (stR hA0 1) 0 0 (some 1)
def hA2 : HR := upr (stR hA1 18) 0 1 (some 18)
def hB0 : HR := upr hA2 35 0 (some 36)
def hB1 : HR := upr (stR hB0 37) 36 0 (some 37)
def hB2 : HR := upr (stR hB1 54) 36 1 (some 54)
def hB3 : HR := upr (stR hB2 71) 36 2 (some 71)
def hB4 : HR := upr (stR hB3 88) 36 3 (some 88)
def hB5 : HR := upr (stR hB4 105) 36 4 (some 105)
def hA4 : HR := upr hB5 0 2 (some 35)
def hA5 : HR := upr (upr hA4 122 0 (some 123)) 0 3 (some 122)
def hA6 : HR := upr hA5 0 4 (some 124)
def hiB (hi : HI) : HI := stH (stH (stH (stH (stH hi 37) 54) 71) 88) 105
def hiA (hi : HI) : HI := hiB (stH (stH hi 1) 18)
section CTOR
variable {E : ET} {hi : HI} {hr : HR} {o : Nat}
set_option maxRecDepth 100000 in
set_option maxHeartbeats 4000000 in
theorem k_X0 (ho : St o) : AMet E M_X0_init [aR (o + 1)] hi hr (o + 2) (EX none hi (clR hr (o + 1)) (o + 6)) := by
  refine am_of (by decide +kernel) (Nat.le_of_ble_eq_true rfl) ?_
  refine aw_aload_n dX0_init_0 rfl ?_
  refine aw_objInit dX0_init_1 oiX0_3 w_oi2 w_oi3 (by decide) (by decide) ?_
  refine aw_aload_n dX0_init_4 rfl ?_
  refine aw_bipush dX0_init_5 (by decide) ?_
  refine aw_newarray (N := 48) dX0_init_7 (by have := st_lt ho; omega) (st_sh ho 2) (by decide) w_arr (Nat.le_of_ble_eq_true rfl) (Nat.le_of_ble_eq_true rfl) ?_
  refine aw_putr dX0_init_9 ci0 (by decide) flX0_9 (by omega) (st_sh ho 1) rfl rfl rfl rfl ?_
  refine aw_aload_n dX0_init_12 rfl ?_
  refine aw_bipush dX0_init_13 (by decide) ?_
  refine aw_newarray (N := 48) dX0_init_15 (by have := st_lt ho; omega) (st_sh ho 3) (by decide) w_arr (Nat.le_of_ble_eq_true rfl) (Nat.le_of_ble_eq_true rfl) ?_
  refine aw_putr dX0_init_17 ci0 (by decide) flX0_15 (by omega) (st_sh ho 1) rfl rfl rfl rfl ?_
  refine aw_aload_n dX0_init_20 rfl ?_
  refine aw_bipush dX0_init_21 (by decide) ?_
  refine aw_newarray (N := 48) dX0_init_23 (by have := st_lt ho; omega) (st_sh ho 4) (by decide) w_arr (Nat.le_of_ble_eq_true rfl) (Nat.le_of_ble_eq_true rfl) ?_
  refine aw_putr dX0_init_25 ci0 (by decide) flX0_18 (by omega) (st_sh ho 1) rfl rfl rfl rfl ?_
  refine aw_aload_n dX0_init_28 rfl ?_
  refine aw_bipush dX0_init_29 (by decide) ?_
  refine aw_newarray (N := 48) dX0_init_31 (by have := st_lt ho; omega) (st_sh ho 5) (by decide) w_arr (Nat.le_of_ble_eq_true rfl) (Nat.le_of_ble_eq_true rfl) ?_
  refine aw_putr dX0_init_33 ci0 (by decide) flX0_21 (by omega) (st_sh ho 1) rfl rfl rfl rfl ?_
  refine aw_vret dX0_init_36 rfl (Nat.le_of_ble_eq_true rfl) (Nat.le_of_ble_eq_true rfl) ?_
  exact EX.rf
set_option maxRecDepth 100000 in
set_option maxHeartbeats 4000000 in
theorem k_X2 (ho : St o) : AMet E M_X2_init [aR (o + 6)] hi hr (o + 7) (EX none hi (clR hr (o + 6)) (o + 11)) := by
  refine am_of (by decide +kernel) (Nat.le_of_ble_eq_true rfl) ?_
  refine aw_aload_n dX2_init_0 rfl ?_
  refine aw_objInit dX2_init_1 oiX2_3 w_oi2 w_oi3 (by decide) (by decide) ?_
  refine aw_aload_n dX2_init_4 rfl ?_
  refine aw_bipush dX2_init_5 (by decide) ?_
  refine aw_newarray (N := 8) dX2_init_7 (by have := st_lt ho; omega) (st_sh ho 7) (by decide) w_arr (Nat.le_of_ble_eq_true rfl) (Nat.le_of_ble_eq_true rfl) ?_
  refine aw_putr dX2_init_9 ci2 (by decide) flX2_9 (by omega) (st_sh ho 6) rfl rfl rfl rfl ?_
  refine aw_aload_n dX2_init_12 rfl ?_
  refine aw_bipush dX2_init_13 (by decide) ?_
  refine aw_newarray (N := 8) dX2_init_15 (by have := st_lt ho; omega) (st_sh ho 8) (by decide) w_arr (Nat.le_of_ble_eq_true rfl) (Nat.le_of_ble_eq_true rfl) ?_
  refine aw_putr dX2_init_17 ci2 (by decide) flX2_15 (by omega) (st_sh ho 6) rfl rfl rfl rfl ?_
  refine aw_aload_n dX2_init_20 rfl ?_
  refine aw_bipush dX2_init_21 (by decide) ?_
  refine aw_newarray (N := 8) dX2_init_23 (by have := st_lt ho; omega) (st_sh ho 9) (by decide) w_arr (Nat.le_of_ble_eq_true rfl) (Nat.le_of_ble_eq_true rfl) ?_
  refine aw_putr dX2_init_25 ci2 (by decide) flX2_18 (by omega) (st_sh ho 6) rfl rfl rfl rfl ?_
  refine aw_aload_n dX2_init_28 rfl ?_
  refine aw_bipush dX2_init_29 (by decide) ?_
  refine aw_newarray (N := 8) dX2_init_31 (by have := st_lt ho; omega) (st_sh ho 10) (by decide) w_arr (Nat.le_of_ble_eq_true rfl) (Nat.le_of_ble_eq_true rfl) ?_
  refine aw_putr dX2_init_33 ci2 (by decide) flX2_21 (by omega) (st_sh ho 6) rfl rfl rfl rfl ?_
  refine aw_vret dX2_init_36 rfl (Nat.le_of_ble_eq_true rfl) (Nat.le_of_ble_eq_true rfl) ?_
  exact EX.rf
set_option maxRecDepth 100000 in
set_option maxHeartbeats 4000000 in
theorem k_X7 (ho : St o) : AMet E M_X7_init [aR (o + 11)] hi hr (o + 12) (EX none hi hr (o + 12)) := by
  refine am_of (by decide +kernel) (Nat.le_of_ble_eq_true rfl) ?_
  refine aw_aload_n dX7_init_0 rfl ?_
  refine aw_objInit dX7_init_1 oiX7_3 w_oi2 w_oi3 (by decide) (by decide) ?_
  refine aw_vret dX7_init_4 rfl (Nat.le_of_ble_eq_true rfl) (Nat.le_of_ble_eq_true rfl) ?_
  exact EX.rf
set_option maxRecDepth 100000 in
set_option maxHeartbeats 4000000 in
theorem k_X5 (ho : St o) : AMet E M_X5_init [aR (o + 12)] hi hr (o + 13) (EX none hi hr (o + 13)) := by
  refine am_of (by decide +kernel) (Nat.le_of_ble_eq_true rfl) ?_
  refine aw_aload_n dX5_init_0 rfl ?_
  refine aw_objInit dX5_init_1 oiX5_1 w_oi2 w_oi3 (by decide) (by decide) ?_
  refine aw_vret dX5_init_4 rfl (Nat.le_of_ble_eq_true rfl) (Nat.le_of_ble_eq_true rfl) ?_
  exact EX.rf
set_option maxRecDepth 100000 in
set_option maxHeartbeats 4000000 in
theorem k_X3  : AMet E M_X3_init [aR 124] hi hr 125 (EX none hi hr 125) := by
  refine am_of (by decide +kernel) (Nat.le_of_ble_eq_true rfl) ?_
  refine aw_aload_n dX3_init_0 rfl ?_
  refine aw_objInit dX3_init_1 oiX3_3 w_oi2 w_oi3 (by decide) (by decide) ?_
  refine aw_vret dX3_init_4 rfl (Nat.le_of_ble_eq_true rfl) (Nat.le_of_ble_eq_true rfl) ?_
  exact EX.rf
set_option maxRecDepth 100000 in
set_option maxHeartbeats 4000000 in
theorem k_X6  : AMet E M_X6_init [aR 122] hi hr 123 (EX none hi (upr hr 122 0 (some 123)) 124) := by
  refine am_of (by decide +kernel) (Nat.le_of_ble_eq_true rfl) ?_
  refine aw_aload_n dX6_init_0 rfl ?_
  refine aw_objInit dX6_init_1 oiX6_3 w_oi2 w_oi3 (by decide) (by decide) ?_
  refine aw_aload_n dX6_init_4 rfl ?_
  refine aw_bipush dX6_init_5 (by decide) ?_
  refine aw_newarray (N := 60) dX6_init_7 (by decide) (by decide +kernel) (by decide) w_arr (Nat.le_of_ble_eq_true rfl) (Nat.le_of_ble_eq_true rfl) ?_
  refine aw_putr dX6_init_9 ci6 (by decide) flX6_9 (by decide) (by decide +kernel) rfl rfl rfl rfl ?_
  refine aw_vret dX6_init_12 rfl (Nat.le_of_ble_eq_true rfl) (Nat.le_of_ble_eq_true rfl) ?_
  exact EX.rf
set_option maxRecDepth 100000 in
set_option maxHeartbeats 4000000 in
theorem k_copyRow {n a b N : Nat} (hA : AOK E n a N) (hb : b < n) (hs : sh b = (10, N)) (hN : N < 2000) : AMet E M_X8_copyRow [aR a, aR b] hi hr n (EX none (cpy hi a b N) hr n) := by
  refine am_of (by decide +kernel) (Nat.le_of_ble_eq_true rfl) ?_
  have hmm : min (N : Int) (N : Int) = (N : Int) := by omega
  refine aw_aload_n dX8_copyRow_0 rfl ?_
  refine aw_iconst dX8_copyRow_1 ?_
  refine aw_aload_n dX8_copyRow_2 rfl ?_
  refine aw_iconst dX8_copyRow_3 ?_
  refine aw_aload_n dX8_copyRow_4 rfl ?_
  refine aw_alen dX8_copyRow_5 hA ?_
  refine aw_aload_n dX8_copyRow_6 rfl ?_
  refine aw_alen dX8_copyRow_7 (Or.inl ⟨hb, hs⟩) ?_
  refine aw_min dX8_copyRow_8 cmX8_149 w_min2 w_math w_min4 (by decide) (by simp only [List.length_cons, List.length_nil]; decide) (by decide) (by decide) ⟨by omega, by omega⟩ ⟨by omega, by omega⟩ ?_
  rw [hmm]
  refine aw_copy0 (N := N) (N1 := N) dX8_copyRow_11 acX8_154 w_ac2 w_ac3 w_ac4 hA hb hs (Nat.le_refl N) (Nat.le_refl N) hN (by decide) (by decide) ?_
  refine aw_vret dX8_copyRow_14 rfl (by decide) (by decide) ?_
  exact EX.rf
set_option maxRecDepth 100000 in
set_option maxHeartbeats 4000000 in
theorem k_X4 (ho : St o) (hEN : EN E) : AMet E M_X4_init [aR o] hi hr (o + 1) (EX none (stH hi o) (stR hr o) (o + 17)) := by
  refine am_of (by decide +kernel) (Nat.le_of_ble_eq_true rfl) ?_
  refine aw_aload_n dX4_init_0 rfl ?_
  refine aw_objInit dX4_init_1 oiX4_3 w_oi2 w_oi3 (by decide) (by decide) ?_
  refine aw_aload_n dX4_init_4 rfl ?_
  refine aw_new dX4_init_5 ci0 (by have := st_lt ho; omega) (st_sh ho 1) kX4_9 nwX0 itX0 (Nat.le_of_ble_eq_true rfl) (Nat.le_of_ble_eq_true rfl) ?_
  refine aw_dup dX4_init_8 ?_
  refine aw_I0c dX4_init_9 clX4_11 ⟨by decide, by decide⟩ (k_X0 ho) (Nat.le_of_ble_eq_true rfl) (Nat.le_of_ble_eq_true rfl) (by simp only [List.length_cons, List.length_nil]; omega) ?_
  refine aw_putr dX4_init_12 ci4 (by decide) flX4_12 (by omega) (st_sh0 ho) rfl rfl rfl rfl ?_
  refine aw_aload_n dX4_init_15 rfl ?_
  refine aw_new dX4_init_16 ci2 (by have := st_lt ho; omega) (st_sh ho 6) kX4_18 nwX2 itX2 (Nat.le_of_ble_eq_true rfl) (Nat.le_of_ble_eq_true rfl) ?_
  refine aw_dup dX4_init_19 ?_
  refine aw_I0c dX4_init_20 clX4_20 ⟨by decide, by decide⟩ (k_X2 ho) (Nat.le_of_ble_eq_true rfl) (Nat.le_of_ble_eq_true rfl) (by simp only [List.length_cons, List.length_nil]; omega) ?_
  refine aw_putr dX4_init_23 ci4 (by decide) flX4_21 (by omega) (st_sh0 ho) rfl rfl rfl rfl ?_
  refine aw_aload_n dX4_init_26 rfl ?_
  refine aw_new dX4_init_27 ci7 (by have := st_lt ho; omega) (st_sh ho 11) kX4_25 nwX7 itX7 (Nat.le_of_ble_eq_true rfl) (Nat.le_of_ble_eq_true rfl) ?_
  refine aw_dup dX4_init_30 ?_
  refine aw_I0c dX4_init_31 clX4_27 ⟨by decide, by decide⟩ (k_X7 ho) (Nat.le_of_ble_eq_true rfl) (Nat.le_of_ble_eq_true rfl) (by simp only [List.length_cons, List.length_nil]; omega) ?_
  refine aw_putr dX4_init_34 ci4 (by decide) flX4_28 (by omega) (st_sh0 ho) rfl rfl rfl rfl ?_
  refine aw_aload_n dX4_init_37 rfl ?_
  refine aw_new dX4_init_38 ci5 (by have := st_lt ho; omega) (st_sh ho 12) kX4_32 nwX5 itX5 (Nat.le_of_ble_eq_true rfl) (Nat.le_of_ble_eq_true rfl) ?_
  refine aw_dup dX4_init_41 ?_
  refine aw_I0c dX4_init_42 clX4_34 ⟨by decide, by decide⟩ (k_X5 ho) (Nat.le_of_ble_eq_true rfl) (Nat.le_of_ble_eq_true rfl) (by simp only [List.length_cons, List.length_nil]; omega) ?_
  refine aw_putr dX4_init_45 ci4 (by decide) flX4_35 (by omega) (st_sh0 ho) rfl rfl rfl rfl ?_
  refine aw_aload_n dX4_init_48 rfl ?_
  refine aw_iconst dX4_init_49 ?_
  refine aw_newarray (N := 4) dX4_init_50 (by have := st_lt ho; omega) (st_sh ho 13) (by decide) w_arr (Nat.le_of_ble_eq_true rfl) (Nat.le_of_ble_eq_true rfl) ?_
  refine aw_putr dX4_init_52 ci4 (by decide) flX4_39 (by omega) (st_sh0 ho) rfl rfl rfl rfl ?_
  refine aw_aload_n dX4_init_55 rfl ?_
  refine aw_bipush dX4_init_56 (by decide) ?_
  refine aw_newarray (N := 8) dX4_init_58 (by have := st_lt ho; omega) (st_sh ho 14) (by decide) w_arr (Nat.le_of_ble_eq_true rfl) (Nat.le_of_ble_eq_true rfl) ?_
  refine aw_putr dX4_init_60 ci4 (by decide) flX4_43 (by omega) (st_sh0 ho) rfl rfl rfl rfl ?_
  refine aw_aload_n dX4_init_63 rfl ?_
  refine aw_iconst dX4_init_64 ?_
  refine aw_newarray (N := 2) dX4_init_65 (by have := st_lt ho; omega) (st_sh ho 15) (by decide) w_arr (Nat.le_of_ble_eq_true rfl) (Nat.le_of_ble_eq_true rfl) ?_
  refine aw_putr dX4_init_67 ci4 (by decide) flX4_46 (by omega) (st_sh0 ho) rfl rfl rfl rfl ?_
  refine aw_aload_n dX4_init_70 rfl ?_
  refine aw_bipush dX4_init_71 (by decide) ?_
  refine aw_newarray (N := 12) dX4_init_73 (by have := st_lt ho; omega) (st_sh ho 16) (by decide) w_arr (Nat.le_of_ble_eq_true rfl) (Nat.le_of_ble_eq_true rfl) ?_
  refine aw_putr dX4_init_75 ci4 (by decide) flX4_49 (by omega) (st_sh0 ho) rfl rfl rfl rfl ?_
  refine aw_aload_n dX4_init_78 rfl ?_
  refine aw_iconst dX4_init_79 ?_
  refine aw_putv dX4_init_80 ci4 (by decide) fX4_52 (by omega) (st_sh0 ho) rfl rfl (Or.inr ⟨rfl, Or.inr rfl⟩) rfl ?_
  refine aw_gets dX4_init_83 (by decide) gsX4_56 ?_
  refine aw_aload_n dX4_init_86 rfl ?_
  refine aw_getr (x := (o + 13)) dX4_init_87 ci4 (by decide) fX4_39 (by omega) (st_sh0 ho) rfl (by simp [upr]) ?_
  refine aw_S2 dX4_init_90 clX4_59 ⟨by decide, by decide⟩ (k_copyRow (N := 4) (Or.inr ⟨0, by decide, rfl, hEN.1.symm⟩) (by omega) (st_sh ho 13) (by decide)) (Nat.le_of_ble_eq_true rfl) (Nat.le_of_ble_eq_true rfl) (by simp only [List.length_cons, List.length_nil]; omega) (fun r h2 r2 n2 hq => ?_)
  obtain ⟨rfl, rfl, rfl, rfl⟩ := hq
  refine aw_vret dX4_init_93 rfl (Nat.le_of_ble_eq_true rfl) (Nat.le_of_ble_eq_true rfl) ?_
  exact EX.rf
set_option maxRecDepth 100000 in
set_option maxHeartbeats 4000000 in
theorem k_X1 (hEN : EN E) : AMet E M_X1_init [aR 35] hi hA2 36 (EX none (hiB hi) hB5 122) := by
  refine am_of (by decide +kernel) (Nat.le_of_ble_eq_true rfl) ?_
  refine aw_aload_n dX1_init_0 rfl ?_
  refine aw_objInit dX1_init_1 oiX1_3 w_oi2 w_oi3 (by decide) (by decide) ?_
  refine aw_aload_n dX1_init_4 rfl ?_
  refine aw_iconst dX1_init_5 ?_
  refine aw_anew (N := 5) dX1_init_6 (by decide) (by decide +kernel) (by decide) kX1_9 (Nat.le_of_ble_eq_true rfl) (Nat.le_of_ble_eq_true rfl) ?_
  refine aw_putr dX1_init_9 ci1 (by decide) flX1_11 (by decide) (by decide +kernel) rfl rfl rfl rfl ?_
  refine aw_iconst dX1_init_12 ?_
  refine aw_istore_n (ls2 := [some (aR 35), some (aI 0)]) dX1_init_13 (by decide) rfl ?_
  refine aw_iload_n dX1_init_14 rfl ?_
  refine aw_aload_n dX1_init_15 rfl ?_
  refine aw_getr (x := 36) dX1_init_16 ci1 (by decide) fX1_11 (by decide) (by decide +kernel) rfl (by decide +kernel) ?_
  refine aw_alenS (N := 5) dX1_init_19 (by decide) (by decide +kernel) ?_
  refine aw_ic_ge (tgt := 42) dX1_init_20 (by decide) ⟨by decide, by decide⟩ ⟨by decide, by decide⟩ (fun h20 => ?_) (fun h20 => ?_)
  · exact absurd h20 (by decide)
  refine aw_aload_n dX1_init_23 rfl ?_
  refine aw_getr (x := 36) dX1_init_24 ci1 (by decide) fX1_11 (by decide) (by decide +kernel) rfl (by decide +kernel) ?_
  refine aw_iload_n dX1_init_27 rfl ?_
  refine aw_new dX1_init_28 ci4 (by decide) (by decide +kernel) kX1_9 nwX4 itX4 (Nat.le_of_ble_eq_true rfl) (Nat.le_of_ble_eq_true rfl) ?_
  refine aw_dup dX1_init_31 ?_
  refine aw_I0c dX1_init_32 clX1_17 ⟨by decide, by decide⟩ (k_X4 (o := 37) (by unfold St; decide) hEN) (Nat.le_of_ble_eq_true rfl) (Nat.le_of_ble_eq_true rfl) (by simp only [List.length_cons, List.length_nil]; omega) ?_
  refine aw_aastore (N := 5) dX1_init_35 (by decide) (by decide +kernel) (by decide) (by decide +kernel) (by decide) (by decide) ⟨by decide, by decide⟩ ?_
  refine aw_iinc (ls2 := [some (aR 35), some (aI 1)]) dX1_init_36 rfl (by decide) rfl ?_
  refine aw_goto (tgt := 14) dX1_init_39 (by decide) ?_
  refine aw_iload_n dX1_init_14 rfl ?_
  refine aw_aload_n dX1_init_15 rfl ?_
  refine aw_getr (x := 36) dX1_init_16 ci1 (by decide) fX1_11 (by decide) (by decide +kernel) rfl (by decide +kernel) ?_
  refine aw_alenS (N := 5) dX1_init_19 (by decide) (by decide +kernel) ?_
  refine aw_ic_ge (tgt := 42) dX1_init_20 (by decide) ⟨by decide, by decide⟩ ⟨by decide, by decide⟩ (fun h20 => ?_) (fun h20 => ?_)
  · exact absurd h20 (by decide)
  refine aw_aload_n dX1_init_23 rfl ?_
  refine aw_getr (x := 36) dX1_init_24 ci1 (by decide) fX1_11 (by decide) (by decide +kernel) rfl (by decide +kernel) ?_
  refine aw_iload_n dX1_init_27 rfl ?_
  refine aw_new dX1_init_28 ci4 (by decide) (by decide +kernel) kX1_9 nwX4 itX4 (Nat.le_of_ble_eq_true rfl) (Nat.le_of_ble_eq_true rfl) ?_
  refine aw_dup dX1_init_31 ?_
  refine aw_I0c dX1_init_32 clX1_17 ⟨by decide, by decide⟩ (k_X4 (o := 54) (by unfold St; decide) hEN) (Nat.le_of_ble_eq_true rfl) (Nat.le_of_ble_eq_true rfl) (by simp only [List.length_cons, List.length_nil]; omega) ?_
  refine aw_aastore (N := 5) dX1_init_35 (by decide) (by decide +kernel) (by decide) (by decide +kernel) (by decide) (by decide) ⟨by decide, by decide⟩ ?_
  refine aw_iinc (ls2 := [some (aR 35), some (aI 2)]) dX1_init_36 rfl (by decide) rfl ?_
  refine aw_goto (tgt := 14) dX1_init_39 (by decide) ?_
  refine aw_iload_n dX1_init_14 rfl ?_
  refine aw_aload_n dX1_init_15 rfl ?_
  refine aw_getr (x := 36) dX1_init_16 ci1 (by decide) fX1_11 (by decide) (by decide +kernel) rfl (by decide +kernel) ?_
  refine aw_alenS (N := 5) dX1_init_19 (by decide) (by decide +kernel) ?_
  refine aw_ic_ge (tgt := 42) dX1_init_20 (by decide) ⟨by decide, by decide⟩ ⟨by decide, by decide⟩ (fun h20 => ?_) (fun h20 => ?_)
  · exact absurd h20 (by decide)
  refine aw_aload_n dX1_init_23 rfl ?_
  refine aw_getr (x := 36) dX1_init_24 ci1 (by decide) fX1_11 (by decide) (by decide +kernel) rfl (by decide +kernel) ?_
  refine aw_iload_n dX1_init_27 rfl ?_
  refine aw_new dX1_init_28 ci4 (by decide) (by decide +kernel) kX1_9 nwX4 itX4 (Nat.le_of_ble_eq_true rfl) (Nat.le_of_ble_eq_true rfl) ?_
  refine aw_dup dX1_init_31 ?_
  refine aw_I0c dX1_init_32 clX1_17 ⟨by decide, by decide⟩ (k_X4 (o := 71) (by unfold St; decide) hEN) (Nat.le_of_ble_eq_true rfl) (Nat.le_of_ble_eq_true rfl) (by simp only [List.length_cons, List.length_nil]; omega) ?_
  refine aw_aastore (N := 5) dX1_init_35 (by decide) (by decide +kernel) (by decide) (by decide +kernel) (by decide) (by decide) ⟨by decide, by decide⟩ ?_
  refine aw_iinc (ls2 := [some (aR 35), some (aI 3)]) dX1_init_36 rfl (by decide) rfl ?_
  refine aw_goto (tgt := 14) dX1_init_39 (by decide) ?_
  refine aw_iload_n dX1_init_14 rfl ?_
  refine aw_aload_n dX1_init_15 rfl ?_
  refine aw_getr (x := 36) dX1_init_16 ci1 (by decide) fX1_11 (by decide) (by decide +kernel) rfl (by decide +kernel) ?_
  refine aw_alenS (N := 5) dX1_init_19 (by decide) (by decide +kernel) ?_
  refine aw_ic_ge (tgt := 42) dX1_init_20 (by decide) ⟨by decide, by decide⟩ ⟨by decide, by decide⟩ (fun h20 => ?_) (fun h20 => ?_)
  · exact absurd h20 (by decide)
  refine aw_aload_n dX1_init_23 rfl ?_
  refine aw_getr (x := 36) dX1_init_24 ci1 (by decide) fX1_11 (by decide) (by decide +kernel) rfl (by decide +kernel) ?_
  refine aw_iload_n dX1_init_27 rfl ?_
  refine aw_new dX1_init_28 ci4 (by decide) (by decide +kernel) kX1_9 nwX4 itX4 (Nat.le_of_ble_eq_true rfl) (Nat.le_of_ble_eq_true rfl) ?_
  refine aw_dup dX1_init_31 ?_
  refine aw_I0c dX1_init_32 clX1_17 ⟨by decide, by decide⟩ (k_X4 (o := 88) (by unfold St; decide) hEN) (Nat.le_of_ble_eq_true rfl) (Nat.le_of_ble_eq_true rfl) (by simp only [List.length_cons, List.length_nil]; omega) ?_
  refine aw_aastore (N := 5) dX1_init_35 (by decide) (by decide +kernel) (by decide) (by decide +kernel) (by decide) (by decide) ⟨by decide, by decide⟩ ?_
  refine aw_iinc (ls2 := [some (aR 35), some (aI 4)]) dX1_init_36 rfl (by decide) rfl ?_
  refine aw_goto (tgt := 14) dX1_init_39 (by decide) ?_
  refine aw_iload_n dX1_init_14 rfl ?_
  refine aw_aload_n dX1_init_15 rfl ?_
  refine aw_getr (x := 36) dX1_init_16 ci1 (by decide) fX1_11 (by decide) (by decide +kernel) rfl (by decide +kernel) ?_
  refine aw_alenS (N := 5) dX1_init_19 (by decide) (by decide +kernel) ?_
  refine aw_ic_ge (tgt := 42) dX1_init_20 (by decide) ⟨by decide, by decide⟩ ⟨by decide, by decide⟩ (fun h20 => ?_) (fun h20 => ?_)
  · exact absurd h20 (by decide)
  refine aw_aload_n dX1_init_23 rfl ?_
  refine aw_getr (x := 36) dX1_init_24 ci1 (by decide) fX1_11 (by decide) (by decide +kernel) rfl (by decide +kernel) ?_
  refine aw_iload_n dX1_init_27 rfl ?_
  refine aw_new dX1_init_28 ci4 (by decide) (by decide +kernel) kX1_9 nwX4 itX4 (Nat.le_of_ble_eq_true rfl) (Nat.le_of_ble_eq_true rfl) ?_
  refine aw_dup dX1_init_31 ?_
  refine aw_I0c dX1_init_32 clX1_17 ⟨by decide, by decide⟩ (k_X4 (o := 105) (by unfold St; decide) hEN) (Nat.le_of_ble_eq_true rfl) (Nat.le_of_ble_eq_true rfl) (by simp only [List.length_cons, List.length_nil]; omega) ?_
  refine aw_aastore (N := 5) dX1_init_35 (by decide) (by decide +kernel) (by decide) (by decide +kernel) (by decide) (by decide) ⟨by decide, by decide⟩ ?_
  refine aw_iinc (ls2 := [some (aR 35), some (aI 5)]) dX1_init_36 rfl (by decide) rfl ?_
  refine aw_goto (tgt := 14) dX1_init_39 (by decide) ?_
  refine aw_iload_n dX1_init_14 rfl ?_
  refine aw_aload_n dX1_init_15 rfl ?_
  refine aw_getr (x := 36) dX1_init_16 ci1 (by decide) fX1_11 (by decide) (by decide +kernel) rfl (by decide +kernel) ?_
  refine aw_alenS (N := 5) dX1_init_19 (by decide) (by decide +kernel) ?_
  refine aw_ic_ge (tgt := 42) dX1_init_20 (by decide) ⟨by decide, by decide⟩ ⟨by decide, by decide⟩ (fun h20 => ?_) (fun h20 => ?_)
  rotate_left
  · exact absurd h20 (by decide)
  refine aw_vret dX1_init_42 rfl (Nat.le_of_ble_eq_true rfl) (Nat.le_of_ble_eq_true rfl) ?_
  exact EX.rf
set_option maxRecDepth 100000 in
set_option maxHeartbeats 4000000 in
theorem k_X8 (hEN : EN E) : AMet E M_X8_init [aR 0] hi hA0 1 (EX none (hiA hi) hA6 125) := by
  refine am_of (by decide +kernel) (Nat.le_of_ble_eq_true rfl) ?_
  refine aw_aload_n dX8_init_0 rfl ?_
  refine aw_objInit dX8_init_1 oiX8_3 w_oi2 w_oi3 (by decide) (by decide) ?_
  refine aw_aload_n dX8_init_4 rfl ?_
  refine aw_new dX8_init_5 ci4 (by decide) (by decide +kernel) kX8_9 nwX4 itX4 (Nat.le_of_ble_eq_true rfl) (Nat.le_of_ble_eq_true rfl) ?_
  refine aw_dup dX8_init_8 ?_
  refine aw_I0c dX8_init_9 clX8_11 ⟨by decide, by decide⟩ (k_X4 (o := 1) (by unfold St; decide) hEN) (Nat.le_of_ble_eq_true rfl) (Nat.le_of_ble_eq_true rfl) (by simp only [List.length_cons, List.length_nil]; omega) ?_
  refine aw_putr dX8_init_12 ci8 (by decide) flX8_12 (by decide) (by decide +kernel) rfl rfl rfl rfl ?_
  refine aw_aload_n dX8_init_15 rfl ?_
  refine aw_new dX8_init_16 ci4 (by decide) (by decide +kernel) kX8_9 nwX4 itX4 (Nat.le_of_ble_eq_true rfl) (Nat.le_of_ble_eq_true rfl) ?_
  refine aw_dup dX8_init_19 ?_
  refine aw_I0c dX8_init_20 clX8_11 ⟨by decide, by decide⟩ (k_X4 (o := 18) (by unfold St; decide) hEN) (Nat.le_of_ble_eq_true rfl) (Nat.le_of_ble_eq_true rfl) (by simp only [List.length_cons, List.length_nil]; omega) ?_
  refine aw_putr dX8_init_23 ci8 (by decide) flX8_16 (by decide) (by decide +kernel) rfl rfl rfl rfl ?_
  refine aw_aload_n dX8_init_26 rfl ?_
  refine aw_new dX8_init_27 ci1 (by decide) (by decide +kernel) kX8_19 nwX1 itX1 (Nat.le_of_ble_eq_true rfl) (Nat.le_of_ble_eq_true rfl) ?_
  refine aw_dup dX8_init_30 ?_
  refine aw_I0c dX8_init_31 clX8_21 ⟨by decide, by decide⟩ (k_X1 hEN) (Nat.le_of_ble_eq_true rfl) (Nat.le_of_ble_eq_true rfl) (by simp only [List.length_cons, List.length_nil]; omega) ?_
  refine aw_putr dX8_init_34 ci8 (by decide) flX8_22 (by decide) (by decide +kernel) rfl rfl rfl rfl ?_
  refine aw_aload_n dX8_init_37 rfl ?_
  refine aw_new dX8_init_38 ci6 (by decide) (by decide +kernel) kX8_26 nwX6 itX6 (Nat.le_of_ble_eq_true rfl) (Nat.le_of_ble_eq_true rfl) ?_
  refine aw_dup dX8_init_41 ?_
  refine aw_I0c dX8_init_42 clX8_28 ⟨by decide, by decide⟩ k_X6 (Nat.le_of_ble_eq_true rfl) (Nat.le_of_ble_eq_true rfl) (by simp only [List.length_cons, List.length_nil]; omega) ?_
  refine aw_putr dX8_init_45 ci8 (by decide) flX8_29 (by decide) (by decide +kernel) rfl rfl rfl rfl ?_
  refine aw_aload_n dX8_init_48 rfl ?_
  refine aw_new dX8_init_49 ci3 (by decide) (by decide +kernel) kX8_33 nwX3 itX3 (Nat.le_of_ble_eq_true rfl) (Nat.le_of_ble_eq_true rfl) ?_
  refine aw_dup dX8_init_52 ?_
  refine aw_I0c dX8_init_53 clX8_35 ⟨by decide, by decide⟩ k_X3 (Nat.le_of_ble_eq_true rfl) (Nat.le_of_ble_eq_true rfl) (by simp only [List.length_cons, List.length_nil]; omega) ?_
  refine aw_putr dX8_init_56 ci8 (by decide) flX8_36 (by decide) (by decide +kernel) rfl rfl rfl rfl ?_
  refine aw_vret dX8_init_59 rfl (Nat.le_of_ble_eq_true rfl) (Nat.le_of_ble_eq_true rfl) ?_
  exact EX.rf
end CTOR
