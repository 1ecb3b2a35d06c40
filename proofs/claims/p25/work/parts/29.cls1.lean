/-! the class's cells -/
section CLS1
variable {E : ET} {hi : HI} {hr : HR} {o : Nat} {t : TS}
set_option maxRecDepth 100000 in
set_option maxHeartbeats 4000000 in
theorem c_X8_valueAt {a N : Nat} {i : Int} (hA : AOK E 125 a N) (hN : N ≤ 100000) (hi2 : InR i) : AMet E M_X8_valueAt [aR a, aI i] hi hr 125 (EX (some (aI (if 0 ≤ i ∧ i < N then hi a i.toNat else 0))) hi hr 125) := by
  refine am_of (by decide +kernel) (Nat.le_of_ble_eq_true rfl) ?_
  refine aw_iload_n dX8_valueAt_0 rfl ?_
  refine aw_if_lt (tgt := 16) dX8_valueAt_1 (by decide) hi2 (fun h1 => ?_) (fun h1 => ?_)
  · refine aw_iconst dX8_valueAt_16 ?_
    refine aw_iret dX8_valueAt_17 rfl (by decide) (by decide) ?_
    exact exI (by rw [if_neg (by omega)])
  · refine aw_iload_n dX8_valueAt_4 rfl ?_
    refine aw_aload_n dX8_valueAt_5 rfl ?_
    refine aw_alen dX8_valueAt_6 hA ?_
    refine aw_ic_ge (tgt := 16) dX8_valueAt_7 (by decide) hi2 ⟨by omega, by omega⟩ (fun h7 => ?_) (fun h7 => ?_)
    · refine aw_iconst dX8_valueAt_16 ?_
      refine aw_iret dX8_valueAt_17 rfl (by decide) (by decide) ?_
      exact exI (by rw [if_neg (by omega)])
    · refine aw_aload_n dX8_valueAt_10 rfl ?_
      refine aw_iload_n dX8_valueAt_11 rfl ?_
      refine aw_iald dX8_valueAt_12 hA (by omega) (by omega) hN rfl ?_
      refine aw_goto (tgt := 17) dX8_valueAt_13 (by decide) ?_
      refine aw_iret dX8_valueAt_17 rfl (by decide) (by decide) ?_
      exact exI (by rw [if_pos ⟨by omega, by omega⟩])
set_option maxRecDepth 100000 in
set_option maxHeartbeats 4000000 in
theorem c_X8_quotient {x y : Int} (hx : InR x) (hy : InR y) (hx0 : 0 ≤ x) : AMet E M_X8_quotient [aI x, aI y] hi hr 125 (EX (some (aI (if 0 < y then x / y else 0))) hi hr 125) := by
  refine am_of (by decide +kernel) (Nat.le_of_ble_eq_true rfl) ?_
  refine aw_iload_n dX8_quotient_0 rfl ?_
  refine aw_if_le (tgt := 10) dX8_quotient_1 (by decide) hy (fun h1 => ?_) (fun h1 => ?_)
  · refine aw_iconst dX8_quotient_10 ?_
    refine aw_iret dX8_quotient_11 rfl (by decide) (by decide) ?_
    exact exI (by rw [if_neg (by omega)])
  · refine aw_iload_n dX8_quotient_4 rfl ?_
    refine aw_iload_n dX8_quotient_5 rfl ?_
    refine aw_idiv dX8_quotient_6 (by omega) hx (by omega) hy ?_
    refine aw_goto (tgt := 11) dX8_quotient_7 (by decide) ?_
    refine aw_iret dX8_quotient_11 rfl (by decide) (by decide) ?_
    exact exI (by rw [if_pos (by omega)])
set_option maxRecDepth 100000 in
set_option maxHeartbeats 4000000 in
theorem c_X8_cellOf {x y : Int} : AMet E M_X8_cellOf [aI x, aI y] hi hr 125 (EX (some (aI (x * 24 + y))) hi hr 125) := by
  refine am_of (by decide +kernel) (Nat.le_of_ble_eq_true rfl) ?_
  refine aw_iload_n dX8_cellOf_0 rfl ?_
  refine aw_bipush dX8_cellOf_1 (by decide) ?_
  refine aw_imul dX8_cellOf_3 ?_
  refine aw_iload_n dX8_cellOf_4 rfl ?_
  refine aw_iadd dX8_cellOf_5 ?_
  refine aw_iret dX8_cellOf_6 rfl (by decide) (by decide) ?_
  exact EX.rf
set_option maxRecDepth 100000 in
set_option maxHeartbeats 4000000 in
theorem c_X8_earlyPosition {x : Int} (hx : InR x) : AMet E M_X8_earlyPosition [aI x] hi hr 125 (EX (some (aI (ear x))) hi hr 125) := by
  refine am_of (by decide +kernel) (Nat.le_of_ble_eq_true rfl) ?_
  refine aw_iload_n dX8_earlyPosition_0 rfl ?_
  refine aw_if_ne (tgt := 8) dX8_earlyPosition_1 (by decide) hx (fun h1 => ?_) (fun h1 => ?_)
  · refine aw_iconst dX8_earlyPosition_8 ?_
    refine aw_iload_n dX8_earlyPosition_9 rfl ?_
    refine aw_imul dX8_earlyPosition_10 ?_
    refine aw_iconst dX8_earlyPosition_11 ?_
    refine aw_isub dX8_earlyPosition_12 ?_
    refine aw_iret dX8_earlyPosition_13 rfl (by decide) (by decide) ?_
    exact exI (by unfold ear; rw [if_neg h1])
  · refine aw_iconst dX8_earlyPosition_4 ?_
    refine aw_goto (tgt := 13) dX8_earlyPosition_5 (by decide) ?_
    refine aw_iret dX8_earlyPosition_13 rfl (by decide) (by decide) ?_
    exact exI (by unfold ear; rw [if_pos h1])
set_option maxRecDepth 100000 in
set_option maxHeartbeats 4000000 in
theorem c_X0_kind (ho : St o) (hHR : HRk hr) {c : Int} (hc : InR c) : AMet E M_X0_kind [aR (o + 1), aI c] (putS o hi t) hr 125 (EX (some (aI (kdF t c))) (putS o hi t) hr 125) := by
  refine am_of (by decide +kernel) (Nat.le_of_ble_eq_true rfl) ?_
  refine aw_iload_n dX0_kind_0 rfl ?_
  refine aw_if_lt (tgt := 19) dX0_kind_1 (by decide) hc (fun h1 => ?_) (fun h1 => ?_)
  · refine aw_iconst dX0_kind_19 ?_
    refine aw_iret dX0_kind_20 rfl (by decide) (by decide) ?_
    exact exI (by unfold kdF; rw [if_neg (by omega)])
  · refine aw_iload_n dX0_kind_4 rfl ?_
    refine aw_bipush dX0_kind_5 (by decide) ?_
    refine aw_ic_ge (tgt := 19) dX0_kind_7 (by decide) hc ⟨by decide, by decide⟩ (fun h7 => ?_) (fun h7 => ?_)
    · refine aw_iconst dX0_kind_19 ?_
      refine aw_iret dX0_kind_20 rfl (by decide) (by decide) ?_
      exact exI (by unfold kdF; rw [if_neg (by omega)])
    · refine aw_aload_n dX0_kind_10 rfl ?_
      refine aw_getr (x := (o + 2)) dX0_kind_11 ci0 (by decide) fX0_9 (by have := st_lt ho; omega) (st_sh ho 1) rfl (st_r1 ho hHR 0) ?_
      refine aw_iload_n dX0_kind_14 rfl ?_
      refine aw_iald (N := 48) dX0_kind_15 (Or.inl ⟨(by have := st_lt ho; omega), (st_sh ho 2)⟩) (by omega) (by omega) (by decide) (putS_gi o _ _ 2 (by omega)) ?_
      refine aw_goto (tgt := 20) dX0_kind_16 (by decide) ?_
      refine aw_iret dX0_kind_20 rfl (by decide) (by decide) ?_
      exact exI (by unfold kdF; rw [if_pos (by omega)])
set_option maxRecDepth 100000 in
set_option maxHeartbeats 4000000 in
theorem c_X0_key (ho : St o) (hHR : HRk hr) {c : Int} (hc : InR c) : AMet E M_X0_key [aR (o + 1), aI c] (putS o hi t) hr 125 (EX (some (aI (kyF t c))) (putS o hi t) hr 125) := by
  refine am_of (by decide +kernel) (Nat.le_of_ble_eq_true rfl) ?_
  refine aw_iload_n dX0_key_0 rfl ?_
  refine aw_if_lt (tgt := 19) dX0_key_1 (by decide) hc (fun h1 => ?_) (fun h1 => ?_)
  · refine aw_iconst dX0_key_19 ?_
    refine aw_iret dX0_key_20 rfl (by decide) (by decide) ?_
    exact exI (by unfold kyF; rw [if_neg (by omega)])
  · refine aw_iload_n dX0_key_4 rfl ?_
    refine aw_bipush dX0_key_5 (by decide) ?_
    refine aw_ic_ge (tgt := 19) dX0_key_7 (by decide) hc ⟨by decide, by decide⟩ (fun h7 => ?_) (fun h7 => ?_)
    · refine aw_iconst dX0_key_19 ?_
      refine aw_iret dX0_key_20 rfl (by decide) (by decide) ?_
      exact exI (by unfold kyF; rw [if_neg (by omega)])
    · refine aw_aload_n dX0_key_10 rfl ?_
      refine aw_getr (x := (o + 3)) dX0_key_11 ci0 (by decide) fX0_15 (by have := st_lt ho; omega) (st_sh ho 1) rfl (st_r1 ho hHR 1) ?_
      refine aw_iload_n dX0_key_14 rfl ?_
      refine aw_iald (N := 48) dX0_key_15 (Or.inl ⟨(by have := st_lt ho; omega), (st_sh ho 3)⟩) (by omega) (by omega) (by decide) (putS_gi o _ _ 3 (by omega)) ?_
      refine aw_goto (tgt := 20) dX0_key_16 (by decide) ?_
      refine aw_iret dX0_key_20 rfl (by decide) (by decide) ?_
      exact exI (by unfold kyF; rw [if_pos (by omega)])
set_option maxRecDepth 100000 in
set_option maxHeartbeats 4000000 in
theorem c_X0_value (ho : St o) (hHR : HRk hr) {c : Int} (hc : InR c) : AMet E M_X0_value [aR (o + 1), aI c] (putS o hi t) hr 125 (EX (some (aI (vlF t c))) (putS o hi t) hr 125) := by
  refine am_of (by decide +kernel) (Nat.le_of_ble_eq_true rfl) ?_
  refine aw_iload_n dX0_value_0 rfl ?_
  refine aw_if_lt (tgt := 19) dX0_value_1 (by decide) hc (fun h1 => ?_) (fun h1 => ?_)
  · refine aw_iconst dX0_value_19 ?_
    refine aw_iret dX0_value_20 rfl (by decide) (by decide) ?_
    exact exI (by unfold vlF; rw [if_neg (by omega)])
  · refine aw_iload_n dX0_value_4 rfl ?_
    refine aw_bipush dX0_value_5 (by decide) ?_
    refine aw_ic_ge (tgt := 19) dX0_value_7 (by decide) hc ⟨by decide, by decide⟩ (fun h7 => ?_) (fun h7 => ?_)
    · refine aw_iconst dX0_value_19 ?_
      refine aw_iret dX0_value_20 rfl (by decide) (by decide) ?_
      exact exI (by unfold vlF; rw [if_neg (by omega)])
    · refine aw_aload_n dX0_value_10 rfl ?_
      refine aw_getr (x := (o + 4)) dX0_value_11 ci0 (by decide) fX0_18 (by have := st_lt ho; omega) (st_sh ho 1) rfl (st_r1 ho hHR 2) ?_
      refine aw_iload_n dX0_value_14 rfl ?_
      refine aw_iald (N := 48) dX0_value_15 (Or.inl ⟨(by have := st_lt ho; omega), (st_sh ho 4)⟩) (by omega) (by omega) (by decide) (putS_gi o _ _ 4 (by omega)) ?_
      refine aw_goto (tgt := 20) dX0_value_16 (by decide) ?_
      refine aw_iret dX0_value_20 rfl (by decide) (by decide) ?_
      exact exI (by unfold vlF; rw [if_pos (by omega)])
set_option maxRecDepth 100000 in
set_option maxHeartbeats 4000000 in
theorem c_X0_stamp (ho : St o) (hHR : HRk hr) {c : Int} (hc : InR c) : AMet E M_X0_stamp [aR (o + 1), aI c] (putS o hi t) hr 125 (EX (some (aI (spF t c))) (putS o hi t) hr 125) := by
  refine am_of (by decide +kernel) (Nat.le_of_ble_eq_true rfl) ?_
  refine aw_iload_n dX0_stamp_0 rfl ?_
  refine aw_if_lt (tgt := 19) dX0_stamp_1 (by decide) hc (fun h1 => ?_) (fun h1 => ?_)
  · refine aw_iconst dX0_stamp_19 ?_
    refine aw_iret dX0_stamp_20 rfl (by decide) (by decide) ?_
    exact exI (by unfold spF; rw [if_neg (by omega)])
  · refine aw_iload_n dX0_stamp_4 rfl ?_
    refine aw_bipush dX0_stamp_5 (by decide) ?_
    refine aw_ic_ge (tgt := 19) dX0_stamp_7 (by decide) hc ⟨by decide, by decide⟩ (fun h7 => ?_) (fun h7 => ?_)
    · refine aw_iconst dX0_stamp_19 ?_
      refine aw_iret dX0_stamp_20 rfl (by decide) (by decide) ?_
      exact exI (by unfold spF; rw [if_neg (by omega)])
    · refine aw_aload_n dX0_stamp_10 rfl ?_
      refine aw_getr (x := (o + 5)) dX0_stamp_11 ci0 (by decide) fX0_21 (by have := st_lt ho; omega) (st_sh ho 1) rfl (st_r1 ho hHR 3) ?_
      refine aw_iload_n dX0_stamp_14 rfl ?_
      refine aw_iald (N := 48) dX0_stamp_15 (Or.inl ⟨(by have := st_lt ho; omega), (st_sh ho 5)⟩) (by omega) (by omega) (by decide) (putS_gi o _ _ 5 (by omega)) ?_
      refine aw_goto (tgt := 20) dX0_stamp_16 (by decide) ?_
      refine aw_iret dX0_stamp_20 rfl (by decide) (by decide) ?_
      exact exI (by unfold spF; rw [if_pos (by omega)])
set_option maxRecDepth 100000 in
set_option maxHeartbeats 4000000 in
theorem c_X0_fact (ho : St o) (hHR : HRk hr) {c w : Int} (hc : InR c) (hw : InR w) : AMet E M_X0_fact [aR (o + 1), aI c, aI w] (putS o hi t) hr 125 (EX (some (aI (faC t c w))) (putS o hi t) hr 125) := by
  refine am_of (by decide +kernel) (Nat.le_of_ble_eq_true rfl) ?_
  refine aw_iload_n dX0_fact_0 rfl ?_
  refine aw_iconst dX0_fact_1 ?_
  refine aw_ic_ne (tgt := 11) dX0_fact_2 (by decide) hw ⟨by decide, by decide⟩ (fun h2 => ?_) (fun h2 => ?_)
  · refine aw_iload_n dX0_fact_11 rfl ?_
    refine aw_iconst dX0_fact_12 ?_
    refine aw_ic_ne (tgt := 24) dX0_fact_13 (by decide) hw ⟨by decide, by decide⟩ (fun h13 => ?_) (fun h13 => ?_)
    · refine aw_aload_n dX0_fact_24 rfl ?_
      refine aw_iload_n dX0_fact_25 rfl ?_
      refine aw_V1x dX0_fact_26 clX0_35 ⟨by decide, by decide⟩ (c := 0) (N := 4) (by have := st_lt ho; omega) (st_sh ho 1) rfl (c_X0_stamp ho hHR hc) (by decide) (by decide) rfl rfl (by simp only [List.length_cons, List.length_nil]; omega) ?_
      refine aw_iret dX0_fact_29 rfl (by decide) (by decide) ?_
      exact exI (by unfold faC; rw [if_neg (by omega), if_neg (by omega)])
    · refine aw_aload_n dX0_fact_16 rfl ?_
      refine aw_iload_n dX0_fact_17 rfl ?_
      refine aw_V1x dX0_fact_18 clX0_32 ⟨by decide, by decide⟩ (c := 0) (N := 4) (by have := st_lt ho; omega) (st_sh ho 1) rfl (c_X0_value ho hHR hc) (by decide) (by decide) rfl rfl (by simp only [List.length_cons, List.length_nil]; omega) ?_
      refine aw_goto (tgt := 29) dX0_fact_21 (by decide) ?_
      refine aw_iret dX0_fact_29 rfl (by decide) (by decide) ?_
      exact exI (by unfold faC; rw [if_neg (by omega), if_pos (by omega)])
  · refine aw_aload_n dX0_fact_5 rfl ?_
    refine aw_iload_n dX0_fact_6 rfl ?_
    refine aw_V1x dX0_fact_7 clX0_28 ⟨by decide, by decide⟩ (c := 0) (N := 4) (by have := st_lt ho; omega) (st_sh ho 1) rfl (c_X0_key ho hHR hc) (by decide) (by decide) rfl rfl (by simp only [List.length_cons, List.length_nil]; omega) ?_
    refine aw_iret dX0_fact_10 rfl (by decide) (by decide) ?_
    exact exI (by unfold faC; rw [if_pos (by omega)])
set_option maxRecDepth 100000 in
set_option maxHeartbeats 4000000 in
theorem c_X0_begin (ho : St o) (hHR : HRk hr) {c k v s : Int} (hc : InR c) : AMet E M_X0_begin [aR (o + 1), aI c, aI k, aI v, aI s] (putS o hi t) hr 125 (EX none (putS o hi (bgC t c k v s)) hr 125) := by
  refine am_of (by decide +kernel) (Nat.le_of_ble_eq_true rfl) ?_
  refine aw_iload_n dX0_begin_0 rfl ?_
  refine aw_if_lt (tgt := 39) dX0_begin_1 (by decide) hc (fun h1 => ?_) (fun h1 => ?_)
  · refine aw_vret dX0_begin_39 rfl (by decide) (by decide) ?_
    have e : bgC t c k v s = _ := if_neg (by omega)
    rw [e]
    exact EX.rf
  · refine aw_iload_n dX0_begin_4 rfl ?_
    refine aw_bipush dX0_begin_5 (by decide) ?_
    refine aw_ic_ge (tgt := 39) dX0_begin_7 (by decide) hc ⟨by decide, by decide⟩ (fun h7 => ?_) (fun h7 => ?_)
    · refine aw_vret dX0_begin_39 rfl (by decide) (by decide) ?_
      have e : bgC t c k v s = _ := if_neg (by omega)
      rw [e]
      exact EX.rf
    · refine aw_aload_n dX0_begin_10 rfl ?_
      refine aw_getr (x := (o + 2)) dX0_begin_11 ci0 (by decide) fX0_9 (by have := st_lt ho; omega) (st_sh ho 1) rfl (st_r1 ho hHR 0) ?_
      refine aw_iload_n dX0_begin_14 rfl ?_
      refine aw_iconst dX0_begin_15 ?_
      refine aw_iast (N := 48) dX0_begin_16 (by have := st_lt ho; omega) (st_sh ho 2) (by omega) (by omega) (by decide) (putS_ui o _ _ 2 _ (by omega)) ?_
      refine aw_aload_n dX0_begin_17 rfl ?_
      refine aw_getr (x := (o + 3)) dX0_begin_18 ci0 (by decide) fX0_15 (by have := st_lt ho; omega) (st_sh ho 1) rfl (st_r1 ho hHR 1) ?_
      refine aw_iload_n dX0_begin_21 rfl ?_
      refine aw_iload_n dX0_begin_22 rfl ?_
      refine aw_iast (N := 48) dX0_begin_23 (by have := st_lt ho; omega) (st_sh ho 3) (by omega) (by omega) (by decide) (putS_ui o _ _ 3 _ (by omega)) ?_
      refine aw_aload_n dX0_begin_24 rfl ?_
      refine aw_getr (x := (o + 4)) dX0_begin_25 ci0 (by decide) fX0_18 (by have := st_lt ho; omega) (st_sh ho 1) rfl (st_r1 ho hHR 2) ?_
      refine aw_iload_n dX0_begin_28 rfl ?_
      refine aw_iload_n dX0_begin_29 rfl ?_
      refine aw_iast (N := 48) dX0_begin_30 (by have := st_lt ho; omega) (st_sh ho 4) (by omega) (by omega) (by decide) (putS_ui o _ _ 4 _ (by omega)) ?_
      refine aw_aload_n dX0_begin_31 rfl ?_
      refine aw_getr (x := (o + 5)) dX0_begin_32 ci0 (by decide) fX0_21 (by have := st_lt ho; omega) (st_sh ho 1) rfl (st_r1 ho hHR 3) ?_
      refine aw_iload_n dX0_begin_35 rfl ?_
      refine aw_iload dX0_begin_36 rfl ?_
      refine aw_iast (N := 48) dX0_begin_38 (by have := st_lt ho; omega) (st_sh ho 5) (by omega) (by omega) (by decide) (putS_ui o _ _ 5 _ (by omega)) ?_
      refine aw_vret dX0_begin_39 rfl (by decide) (by decide) ?_
      have e : bgC t c k v s = _ := if_pos ⟨by omega, by omega⟩
      rw [e]
      exact EX.rf
set_option maxRecDepth 100000 in
set_option maxHeartbeats 4000000 in
theorem c_X0_beginBackup (ho : St o) (hHR : HRk hr) {e b : Int} (he : InR e) (hb : InR b) : AMet E M_X0_beginBackup [aR (o + 1), aI e, aI b] (putS o hi t) hr 125 (EX none (putS o hi (bbC t e b)) hr 125) := by
  refine am_of (by decide +kernel) (Nat.le_of_ble_eq_true rfl) ?_
  refine aw_iload_n dX0_beginBackup_0 rfl ?_
  refine aw_if_lt (tgt := 63) dX0_beginBackup_1 (by decide) he (fun h1 => ?_) (fun h1 => ?_)
  · refine aw_vret dX0_beginBackup_63 rfl (by decide) (by decide) ?_
    have e2 : bbC t e b = _ := if_neg (by omega)
    rw [e2]
    exact EX.rf
  · refine aw_iload_n dX0_beginBackup_4 rfl ?_
    refine aw_bipush dX0_beginBackup_5 (by decide) ?_
    refine aw_ic_ge (tgt := 63) dX0_beginBackup_7 (by decide) he ⟨by decide, by decide⟩ (fun h7 => ?_) (fun h7 => ?_)
    · refine aw_vret dX0_beginBackup_63 rfl (by decide) (by decide) ?_
      have e2 : bbC t e b = _ := if_neg (by omega)
      rw [e2]
      exact EX.rf
    · refine aw_iload_n dX0_beginBackup_10 rfl ?_
      refine aw_if_lt (tgt := 63) dX0_beginBackup_11 (by decide) hb (fun h11 => ?_) (fun h11 => ?_)
      · refine aw_vret dX0_beginBackup_63 rfl (by decide) (by decide) ?_
        have e2 : bbC t e b = _ := if_neg (by omega)
        rw [e2]
        exact EX.rf
      · refine aw_iload_n dX0_beginBackup_14 rfl ?_
        refine aw_bipush dX0_beginBackup_15 (by decide) ?_
        refine aw_ic_ge (tgt := 63) dX0_beginBackup_17 (by decide) hb ⟨by decide, by decide⟩ (fun h17 => ?_) (fun h17 => ?_)
        · refine aw_vret dX0_beginBackup_63 rfl (by decide) (by decide) ?_
          have e2 : bbC t e b = _ := if_neg (by omega)
          rw [e2]
          exact EX.rf
        · refine aw_aload_n dX0_beginBackup_20 rfl ?_
          refine aw_getr (x := (o + 2)) dX0_beginBackup_21 ci0 (by decide) fX0_9 (by have := st_lt ho; omega) (st_sh ho 1) rfl (st_r1 ho hHR 0) ?_
          refine aw_iload_n dX0_beginBackup_24 rfl ?_
          refine aw_iconst dX0_beginBackup_25 ?_
          refine aw_iast (N := 48) dX0_beginBackup_26 (by have := st_lt ho; omega) (st_sh ho 2) (by omega) (by omega) (by decide) (putS_ui o _ _ 2 _ (by omega)) ?_
          refine aw_aload_n dX0_beginBackup_27 rfl ?_
          refine aw_getr (x := (o + 3)) dX0_beginBackup_28 ci0 (by decide) fX0_15 (by have := st_lt ho; omega) (st_sh ho 1) rfl (st_r1 ho hHR 1) ?_
          refine aw_iload_n dX0_beginBackup_31 rfl ?_
          refine aw_aload_n dX0_beginBackup_32 rfl ?_
          refine aw_getr (x := (o + 3)) dX0_beginBackup_33 ci0 (by decide) fX0_15 (by have := st_lt ho; omega) (st_sh ho 1) rfl (st_r1 ho hHR 1) ?_
          refine aw_iload_n dX0_beginBackup_36 rfl ?_
          refine aw_iald (N := 48) dX0_beginBackup_37 (Or.inl ⟨(by have := st_lt ho; omega), (st_sh ho 3)⟩) (by omega) (by omega) (by decide) (putS_gi o _ _ 3 (by omega)) ?_
          refine aw_iast (N := 48) dX0_beginBackup_38 (by have := st_lt ho; omega) (st_sh ho 3) (by omega) (by omega) (by decide) (putS_ui o _ _ 3 _ (by omega)) ?_
          refine aw_aload_n dX0_beginBackup_39 rfl ?_
          refine aw_getr (x := (o + 4)) dX0_beginBackup_40 ci0 (by decide) fX0_18 (by have := st_lt ho; omega) (st_sh ho 1) rfl (st_r1 ho hHR 2) ?_
          refine aw_iload_n dX0_beginBackup_43 rfl ?_
          refine aw_aload_n dX0_beginBackup_44 rfl ?_
          refine aw_getr (x := (o + 4)) dX0_beginBackup_45 ci0 (by decide) fX0_18 (by have := st_lt ho; omega) (st_sh ho 1) rfl (st_r1 ho hHR 2) ?_
          refine aw_iload_n dX0_beginBackup_48 rfl ?_
          refine aw_iald (N := 48) dX0_beginBackup_49 (Or.inl ⟨(by have := st_lt ho; omega), (st_sh ho 4)⟩) (by omega) (by omega) (by decide) (putS_gi o _ _ 4 (by omega)) ?_
          refine aw_iast (N := 48) dX0_beginBackup_50 (by have := st_lt ho; omega) (st_sh ho 4) (by omega) (by omega) (by decide) (putS_ui o _ _ 4 _ (by omega)) ?_
          refine aw_aload_n dX0_beginBackup_51 rfl ?_
          refine aw_getr (x := (o + 5)) dX0_beginBackup_52 ci0 (by decide) fX0_21 (by have := st_lt ho; omega) (st_sh ho 1) rfl (st_r1 ho hHR 3) ?_
          refine aw_iload_n dX0_beginBackup_55 rfl ?_
          refine aw_aload_n dX0_beginBackup_56 rfl ?_
          refine aw_getr (x := (o + 5)) dX0_beginBackup_57 ci0 (by decide) fX0_21 (by have := st_lt ho; omega) (st_sh ho 1) rfl (st_r1 ho hHR 3) ?_
          refine aw_iload_n dX0_beginBackup_60 rfl ?_
          refine aw_iald (N := 48) dX0_beginBackup_61 (Or.inl ⟨(by have := st_lt ho; omega), (st_sh ho 5)⟩) (by omega) (by omega) (by decide) (putS_gi o _ _ 5 (by omega)) ?_
          refine aw_iast (N := 48) dX0_beginBackup_62 (by have := st_lt ho; omega) (st_sh ho 5) (by omega) (by omega) (by decide) (putS_ui o _ _ 5 _ (by omega)) ?_
          refine aw_vret dX0_beginBackup_63 rfl (by decide) (by decide) ?_
          have e2 : bbC t e b = _ := if_pos ⟨⟨by omega, by omega⟩, by omega, by omega⟩
          rw [e2]
          exact EX.rf
set_option maxRecDepth 100000 in
set_option maxHeartbeats 4000000 in
theorem c_X0_mark (ho : St o) (hHR : HRk hr) {c k : Int} (hc : InR c) : AMet E M_X0_mark [aR (o + 1), aI c, aI k] (putS o hi t) hr 125 (EX none (putS o hi (mkC t c k)) hr 125) := by
  refine am_of (by decide +kernel) (Nat.le_of_ble_eq_true rfl) ?_
  refine aw_iload_n dX0_mark_0 rfl ?_
  refine aw_if_lt (tgt := 17) dX0_mark_1 (by decide) hc (fun h1 => ?_) (fun h1 => ?_)
  · refine aw_vret dX0_mark_17 rfl (by decide) (by decide) ?_
    have e : mkC t c k = _ := if_neg (by omega)
    rw [e]
    exact EX.rf
  · refine aw_iload_n dX0_mark_4 rfl ?_
    refine aw_bipush dX0_mark_5 (by decide) ?_
    refine aw_ic_ge (tgt := 17) dX0_mark_7 (by decide) hc ⟨by decide, by decide⟩ (fun h7 => ?_) (fun h7 => ?_)
    · refine aw_vret dX0_mark_17 rfl (by decide) (by decide) ?_
      have e : mkC t c k = _ := if_neg (by omega)
      rw [e]
      exact EX.rf
    · refine aw_aload_n dX0_mark_10 rfl ?_
      refine aw_getr (x := (o + 2)) dX0_mark_11 ci0 (by decide) fX0_9 (by have := st_lt ho; omega) (st_sh ho 1) rfl (st_r1 ho hHR 0) ?_
      refine aw_iload_n dX0_mark_14 rfl ?_
      refine aw_iload_n dX0_mark_15 rfl ?_
      refine aw_iast (N := 48) dX0_mark_16 (by have := st_lt ho; omega) (st_sh ho 2) (by omega) (by omega) (by decide) (putS_ui o _ _ 2 _ (by omega)) ?_
      refine aw_vret dX0_mark_17 rfl (by decide) (by decide) ?_
      have e : mkC t c k = _ := if_pos ⟨by omega, by omega⟩
      rw [e]
      exact EX.rf
set_option maxRecDepth 100000 in
set_option maxHeartbeats 4000000 in
theorem c_X0_blankBlock (ho : St o) (hHR : HRk hr) {b : Int} (hb : b = 0 ∨ b = 1) : AMet E M_X0_blankBlock [aR (o + 1), aI b] (putS o hi t) hr 125 (EX none (putS o hi (bkC t b 24)) hr 125) := by
  refine am_of (by decide +kernel) (Nat.le_of_ble_eq_true rfl) ?_
  have loop : ∀ (d k : Nat), k + d = 24 → AW E M_X0_blankBlock 0 0 2 [some (aR (o + 1)), some (aI b), some (aI (k : Int))] [] (putS o hi (bkC t b k)) hr 125 (EX none (putS o hi (bkC t b 24)) hr 125) := by
    intro d
    induction d with
    | zero =>
      intro k hk
      have hk' : k = 24 := by omega
      subst hk'
      refine aw_iload_n dX0_blankBlock_2 rfl ?_
      refine aw_bipush dX0_blankBlock_3 (by decide) ?_
      refine aw_ic_ge (tgt := 24) dX0_blankBlock_5 (by decide) ⟨by decide, by decide⟩ ⟨by decide, by decide⟩ (fun h5 => ?_) (fun h5 => ?_)
      · refine aw_vret dX0_blankBlock_24 rfl (by decide) (by decide) ?_
        exact EX.rf
      · exact absurd h5 (by decide)
    | succ d ih =>
      intro k hk
      refine aw_iload_n dX0_blankBlock_2 rfl ?_
      refine aw_bipush dX0_blankBlock_3 (by decide) ?_
      refine aw_ic_ge (tgt := 24) dX0_blankBlock_5 (by decide) ⟨by omega, by omega⟩ ⟨by decide, by decide⟩ (fun h5 => ?_) (fun h5 => ?_)
      · exact absurd h5 (by omega)
      · refine aw_aload_n dX0_blankBlock_8 rfl ?_
        refine aw_iload_n dX0_blankBlock_9 rfl ?_
        refine aw_iload_n dX0_blankBlock_10 rfl ?_
        refine aw_S2x dX0_blankBlock_11 clX0_38 ⟨by decide, by decide⟩ c_X8_cellOf (by decide) (by decide) rfl rfl (by simp only [List.length_cons, List.length_nil]; omega) ?_
        refine aw_iconst dX0_blankBlock_14 ?_
        refine aw_V2v dX0_blankBlock_15 clX0_42 ⟨by decide, by decide⟩ (c := 0) (N := 4) (by have := st_lt ho; omega) (st_sh ho 1) rfl (c_X0_mark ho hHR ⟨by omega, by omega⟩) (by decide) (by decide) rfl rfl (by simp only [List.length_cons, List.length_nil]; omega) ?_
        refine aw_iinc (ls2 := [_, _, _]) dX0_blankBlock_18 rfl (by decide) rfl ?_
        refine aw_goto (tgt := 2) dX0_blankBlock_21 (by decide) ?_
        exact ih (k + 1) (by omega)
  refine aw_iconst dX0_blankBlock_0 ?_
  refine aw_istore_n (ls2 := [_, _, _]) dX0_blankBlock_1 (by decide) rfl ?_
  exact loop 24 0 (by omega)
set_option maxRecDepth 100000 in
set_option maxHeartbeats 4000000 in
theorem c_X0_isBlankBlock (ho : St o) (hHR : HRk hr) {b : Int} (hb : b = 0 ∨ b = 1) (hR : CR t) : AMet E M_X0_isBlankBlock [aR (o + 1), aI b] (putS o hi t) hr 125 (EX (some (aI (ibC t b 16))) (putS o hi t) hr 125) := by
  refine am_of (by decide +kernel) (Nat.le_of_ble_eq_true rfl) ?_
  have loop : ∀ (d k : Nat), k + d = 16 → ibC t b k = 1 → AW E M_X0_isBlankBlock 0 0 2 [some (aR (o + 1)), some (aI b), some (aI (k : Int))] [] (putS o hi t) hr 125 (EX (some (aI (ibC t b 16))) (putS o hi t) hr 125) := by
    intro d
    induction d with
    | zero =>
      intro k hk h1
      have hk' : k = 16 := by omega
      subst hk'
      refine aw_iload_n dX0_isBlankBlock_2 rfl ?_
      refine aw_bipush dX0_isBlankBlock_3 (by decide) ?_
      refine aw_ic_ge (tgt := 28) dX0_isBlankBlock_5 (by decide) ⟨by decide, by decide⟩ ⟨by decide, by decide⟩ (fun h5 => ?_) (fun h5 => ?_)
      · refine aw_iconst dX0_isBlankBlock_28 ?_
        refine aw_zret dX0_isBlankBlock_29 rfl (Or.inr rfl) (by decide) (by decide) ?_
        exact exI h1.symm
      · exact absurd h5 (by decide)
    | succ d ih =>
      intro k hk h1
      refine aw_iload_n dX0_isBlankBlock_2 rfl ?_
      refine aw_bipush dX0_isBlankBlock_3 (by decide) ?_
      refine aw_ic_ge (tgt := 28) dX0_isBlankBlock_5 (by decide) ⟨by omega, by omega⟩ ⟨by decide, by decide⟩ (fun h5 => ?_) (fun h5 => ?_)
      · exact absurd h5 (by omega)
      · refine aw_aload_n dX0_isBlankBlock_8 rfl ?_
        refine aw_iload_n dX0_isBlankBlock_9 rfl ?_
        refine aw_iload_n dX0_isBlankBlock_10 rfl ?_
        refine aw_S2x dX0_isBlankBlock_11 clX0_38 ⟨by decide, by decide⟩ c_X8_cellOf (by decide) (by decide) rfl rfl (by simp only [List.length_cons, List.length_nil]; omega) ?_
        refine aw_V1x dX0_isBlankBlock_14 clX0_46 ⟨by decide, by decide⟩ (c := 0) (N := 4) (by have := st_lt ho; omega) (st_sh ho 1) rfl (c_X0_kind ho hHR ⟨by omega, by omega⟩) (by decide) (by decide) rfl rfl (by simp only [List.length_cons, List.length_nil]; omega) ?_
        refine aw_if_eq (tgt := 22) dX0_isBlankBlock_17 (by decide) (by have := hR.kd (b * 24 + (k : Int)); exact ⟨by omega, by omega⟩) (fun h17 => ?_) (fun h17 => ?_)
        · refine aw_iinc (ls2 := [_, _, _]) dX0_isBlankBlock_22 rfl (by decide) rfl ?_
          refine aw_goto (tgt := 2) dX0_isBlankBlock_25 (by decide) ?_
          exact ih (k + 1) (by omega) (by show (if _ then _ else _) = _; rw [if_pos ⟨h1, h17⟩])
        · refine aw_iconst dX0_isBlankBlock_20 ?_
          refine aw_zret dX0_isBlankBlock_21 rfl (Or.inl rfl) (by decide) (by decide) ?_
          have e : ibC t b (k + 1) = 0 := by show (if _ then _ else _) = _; rw [if_neg (fun g => h17 g.2)]
          have e2 := ibC_0 t b e (15 - k)
          rw [show k + 1 + (15 - k) = 16 by omega] at e2
          exact exI e2.symm
  refine aw_iconst dX0_isBlankBlock_0 ?_
  refine aw_istore_n (ls2 := [_, _, _]) dX0_isBlankBlock_1 (by decide) rfl ?_
  exact loop 16 0 (by omega) rfl
set_option maxRecDepth 100000 in
set_option maxHeartbeats 4000000 in
theorem c_X0_place (ho : St o) (hHR : HRk hr) (hR : CR t) {key : Int} (hk : InR key) : AMet E M_X0_place [aR (o + 1), aI key] (putS o hi t) hr 125 (EX (some (aI (pcF t key))) (putS o hi t) hr 125) := by
  refine am_of (by decide +kernel) (Nat.le_of_ble_eq_true rfl) ?_
  have loop : ∀ (d k : Nat), k + d = 48 → AW E M_X0_place 0 0 7 [some (aR (o + 1)), some (aI key), some (aI (pcA t key k).1), some (aI (pcA t key k).2), some (aI (k : Int))] [] (putS o hi t) hr 125 (EX (some (aI (pcF t key))) (putS o hi t) hr 125) := by
    intro d
    induction d with
    | zero =>
      intro k hk
      have hk' : k = 48 := by omega
      subst hk'
      refine aw_iload dX0_place_7 rfl ?_
      refine aw_bipush dX0_place_9 (by decide) ?_
      refine aw_ic_ge (tgt := 64) dX0_place_11 (by decide) ⟨by decide, by decide⟩ ⟨by decide, by decide⟩ (fun h11 => ?_) (fun h11 => ?_)
      · refine aw_iload_n dX0_place_64 rfl ?_
        refine aw_iret dX0_place_65 rfl (by decide) (by decide) ?_
        exact EX.rf
      · exact absurd h11 (by decide)
    | succ d ih =>
      intro k hkd
      have g := pcA_b hR key k (by omega)
      have c := hR (k : Int) (by omega) (by omega)
      have hB : BIG = 1000000 := rfl
      refine aw_iload dX0_place_7 rfl ?_
      refine aw_bipush dX0_place_9 (by decide) ?_
      refine aw_ic_ge (tgt := 64) dX0_place_11 (by decide) ⟨by omega, by omega⟩ ⟨by decide, by decide⟩ (fun h11 => ?_) (fun h11 => ?_)
      · exact absurd h11 (by omega)
      · refine aw_aload_n dX0_place_14 rfl ?_
        refine aw_getr (x := (o + 2)) dX0_place_15 ci0 (by decide) fX0_9 (by have := st_lt ho; omega) (st_sh ho 1) rfl (st_r1 ho hHR 0) ?_
        refine aw_iload dX0_place_18 rfl ?_
        refine aw_iald (N := 48) dX0_place_20 (Or.inl ⟨(by have := st_lt ho; omega), (st_sh ho 2)⟩) (by omega) (by omega) (by decide) (putS_gi o _ _ 2 (by omega)) ?_
        refine aw_iconst dX0_place_21 ?_
        refine aw_ic_ne (tgt := 58) dX0_place_22 (by decide) ⟨by omega, by omega⟩ ⟨by decide, by decide⟩ (fun h22 => ?_) (fun h22 => ?_)
        · refine aw_iinc (ls2 := [_, _, _, _, _]) dX0_place_58 rfl (by decide) rfl ?_
          refine aw_goto (tgt := 7) dX0_place_61 (by decide) ?_
          have e : pcA t key (k + 1) = pcA t key k := by show (if _ then _ else _) = _; rw [if_neg (fun g => by have g1 := g.1; have g2 := g.2.1; have g3 := g.2.2; omega)]
          have g := ih (k + 1) (by omega)
          rw [e] at g
          exact g
        · refine aw_aload_n dX0_place_25 rfl ?_
          refine aw_getr (x := (o + 3)) dX0_place_26 ci0 (by decide) fX0_15 (by have := st_lt ho; omega) (st_sh ho 1) rfl (st_r1 ho hHR 1) ?_
          refine aw_iload dX0_place_29 rfl ?_
          refine aw_iald (N := 48) dX0_place_31 (Or.inl ⟨(by have := st_lt ho; omega), (st_sh ho 3)⟩) (by omega) (by omega) (by decide) (putS_gi o _ _ 3 (by omega)) ?_
          refine aw_iload_n dX0_place_32 rfl ?_
          refine aw_ic_ne (tgt := 58) dX0_place_33 (by decide) c.2.1 hk (fun h33 => ?_) (fun h33 => ?_)
          · refine aw_iinc (ls2 := [_, _, _, _, _]) dX0_place_58 rfl (by decide) rfl ?_
            refine aw_goto (tgt := 7) dX0_place_61 (by decide) ?_
            have e : pcA t key (k + 1) = pcA t key k := by show (if _ then _ else _) = _; rw [if_neg (fun g => by have g1 := g.1; have g2 := g.2.1; have g3 := g.2.2; omega)]
            have g := ih (k + 1) (by omega)
            rw [e] at g
            exact g
          · refine aw_aload_n dX0_place_36 rfl ?_
            refine aw_getr (x := (o + 5)) dX0_place_37 ci0 (by decide) fX0_21 (by have := st_lt ho; omega) (st_sh ho 1) rfl (st_r1 ho hHR 3) ?_
            refine aw_iload dX0_place_40 rfl ?_
            refine aw_iald (N := 48) dX0_place_42 (Or.inl ⟨(by have := st_lt ho; omega), (st_sh ho 5)⟩) (by omega) (by omega) (by decide) (putS_gi o _ _ 5 (by omega)) ?_
            refine aw_iload_n dX0_place_43 rfl ?_
            refine aw_ic_le (tgt := 58) dX0_place_44 (by decide) ⟨by omega, by omega⟩ ⟨by omega, by omega⟩ (fun h44 => ?_) (fun h44 => ?_)
            · refine aw_iinc (ls2 := [_, _, _, _, _]) dX0_place_58 rfl (by decide) rfl ?_
              refine aw_goto (tgt := 7) dX0_place_61 (by decide) ?_
              have e : pcA t key (k + 1) = pcA t key k := by show (if _ then _ else _) = _; rw [if_neg (fun g => by have g1 := g.1; have g2 := g.2.1; have g3 := g.2.2; omega)]
              have g := ih (k + 1) (by omega)
              rw [e] at g
              exact g
            · refine aw_iload dX0_place_47 rfl ?_
              refine aw_istore_n (ls2 := [_, _, _, _, _]) dX0_place_49 (by decide) rfl ?_
              refine aw_aload_n dX0_place_50 rfl ?_
              refine aw_getr (x := (o + 5)) dX0_place_51 ci0 (by decide) fX0_21 (by have := st_lt ho; omega) (st_sh ho 1) rfl (st_r1 ho hHR 3) ?_
              refine aw_iload dX0_place_54 rfl ?_
              refine aw_iald (N := 48) dX0_place_56 (Or.inl ⟨(by have := st_lt ho; omega), (st_sh ho 5)⟩) (by omega) (by omega) (by decide) (putS_gi o _ _ 5 (by omega)) ?_
              refine aw_istore_n (ls2 := [_, _, _, _, _]) dX0_place_57 (by decide) rfl ?_
              refine aw_iinc (ls2 := [_, _, _, _, _]) dX0_place_58 rfl (by decide) rfl ?_
              refine aw_goto (tgt := 7) dX0_place_61 (by decide) ?_
              have e : pcA t key (k + 1) = ((k : Int), t 5 (k : Int)) := by show (if _ then _ else _) = _; rw [if_pos ⟨by omega, by omega, by omega⟩]
              have g := ih (k + 1) (by omega)
              rw [e] at g
              exact g
  refine aw_iconst dX0_place_0 ?_
  refine aw_istore_n (ls2 := [_, _, _, _, _]) dX0_place_1 (by decide) rfl ?_
  refine aw_iconst dX0_place_2 ?_
  refine aw_istore_n (ls2 := [_, _, _, _, _]) dX0_place_3 (by decide) rfl ?_
  refine aw_iconst dX0_place_4 ?_
  refine aw_istore (ls2 := [_, _, _, _, _]) dX0_place_5 (by decide) rfl ?_
  exact loop 48 0 (by omega)
set_option maxRecDepth 100000 in
set_option maxHeartbeats 4000000 in
theorem c_X0_isPlace (ho : St o) (hHR : HRk hr) (hR : CR t) {c : Int} (hc : InR c) : AMet E M_X0_isPlace [aR (o + 1), aI c] (putS o hi t) hr 125 (EX (some (aI (ipC t c))) (putS o hi t) hr 125) := by
  refine am_of (by decide +kernel) (Nat.le_of_ble_eq_true rfl) ?_
  have h1 := hR.kd c
  have h2 := pcF_b hR (kyF t c)
  refine aw_aload_n dX0_isPlace_0 rfl ?_
  refine aw_iload_n dX0_isPlace_1 rfl ?_
  refine aw_V1x dX0_isPlace_2 clX0_46 ⟨by decide, by decide⟩ (c := 0) (N := 4) (by have := st_lt ho; omega) (st_sh ho 1) rfl (c_X0_kind ho hHR hc) (by decide) (by decide) rfl rfl (by simp only [List.length_cons, List.length_nil]; omega) ?_
  refine aw_iconst dX0_isPlace_5 ?_
  refine aw_ic_ne (tgt := 26) dX0_isPlace_6 (by decide) ⟨by omega, by omega⟩ ⟨by decide, by decide⟩ (fun h6 => ?_) (fun h6 => ?_)
  · refine aw_iconst dX0_isPlace_26 ?_
    refine aw_zret dX0_isPlace_27 rfl (Or.inl rfl) (by decide) (by decide) ?_
    exact exI (by unfold ipC; rw [if_neg (by omega)])
  · refine aw_aload_n dX0_isPlace_9 rfl ?_
    refine aw_aload_n dX0_isPlace_10 rfl ?_
    refine aw_iload_n dX0_isPlace_11 rfl ?_
    refine aw_V1x dX0_isPlace_12 clX0_28 ⟨by decide, by decide⟩ (c := 0) (N := 4) (by have := st_lt ho; omega) (st_sh ho 1) rfl (c_X0_key ho hHR hc) (by decide) (by decide) rfl rfl (by simp only [List.length_cons, List.length_nil]; omega) ?_
    refine aw_V1x dX0_isPlace_15 clX0_49 ⟨by decide, by decide⟩ (c := 0) (N := 4) (by have := st_lt ho; omega) (st_sh ho 1) rfl (c_X0_place ho hHR hR (hR.ky c)) (by decide) (by decide) rfl rfl (by simp only [List.length_cons, List.length_nil]; omega) ?_
    refine aw_iload_n dX0_isPlace_18 rfl ?_
    refine aw_ic_ne (tgt := 26) dX0_isPlace_19 (by decide) ⟨by omega, by omega⟩ hc (fun h19 => ?_) (fun h19 => ?_)
    · refine aw_iconst dX0_isPlace_26 ?_
      refine aw_zret dX0_isPlace_27 rfl (Or.inl rfl) (by decide) (by decide) ?_
      exact exI (by unfold ipC; rw [if_neg (by omega)])
    · refine aw_iconst dX0_isPlace_22 ?_
      refine aw_goto (tgt := 27) dX0_isPlace_23 (by decide) ?_
      refine aw_zret dX0_isPlace_27 rfl (Or.inr rfl) (by decide) (by decide) ?_
      exact exI (by unfold ipC; rw [if_pos ⟨by omega, by omega⟩])
set_option maxRecDepth 100000 in
set_option maxHeartbeats 4000000 in
theorem c_X0_placeStamp (ho : St o) (hHR : HRk hr) (hR : CR t) {key : Int} (hk : InR key) : AMet E M_X0_placeStamp [aR (o + 1), aI key] (putS o hi t) hr 125 (EX (some (aI (psC t key))) (putS o hi t) hr 125) := by
  refine am_of (by decide +kernel) (Nat.le_of_ble_eq_true rfl) ?_
  have h2 := pcF_b hR key
  refine aw_aload_n dX0_placeStamp_0 rfl ?_
  refine aw_iload_n dX0_placeStamp_1 rfl ?_
  refine aw_V1x dX0_placeStamp_2 clX0_49 ⟨by decide, by decide⟩ (c := 0) (N := 4) (by have := st_lt ho; omega) (st_sh ho 1) rfl (c_X0_place ho hHR hR hk) (by decide) (by decide) rfl rfl (by simp only [List.length_cons, List.length_nil]; omega) ?_
  refine aw_istore_n (ls2 := [_, _, _]) dX0_placeStamp_5 (by decide) rfl ?_
  refine aw_iload_n dX0_placeStamp_6 rfl ?_
  refine aw_iconst dX0_placeStamp_7 ?_
  refine aw_ic_ne (tgt := 15) dX0_placeStamp_8 (by decide) ⟨by omega, by omega⟩ ⟨by decide, by decide⟩ (fun h8 => ?_) (fun h8 => ?_)
  · refine aw_aload_n dX0_placeStamp_15 rfl ?_
    refine aw_iload_n dX0_placeStamp_16 rfl ?_
    refine aw_V1x dX0_placeStamp_17 clX0_35 ⟨by decide, by decide⟩ (c := 0) (N := 4) (by have := st_lt ho; omega) (st_sh ho 1) rfl (c_X0_stamp ho hHR ⟨by omega, by omega⟩) (by decide) (by decide) rfl rfl (by simp only [List.length_cons, List.length_nil]; omega) ?_
    refine aw_iret dX0_placeStamp_20 rfl (by decide) (by decide) ?_
    exact exI (by unfold psC; rw [if_neg (by omega)])
  · refine aw_iconst dX0_placeStamp_11 ?_
    refine aw_goto (tgt := 20) dX0_placeStamp_12 (by decide) ?_
    refine aw_iret dX0_placeStamp_20 rfl (by decide) (by decide) ?_
    exact exI (by unfold psC; rw [if_pos (by omega)])
set_option maxRecDepth 100000 in
set_option maxHeartbeats 4000000 in
theorem c_X0_placesInBlock (ho : St o) (hHR : HRk hr) {b : Int} (hb : b = 0 ∨ b = 1) (hR : CR t) : AMet E M_X0_placesInBlock [aR (o + 1), aI b] (putS o hi t) hr 125 (EX (some (aI (ctC t b 24))) (putS o hi t) hr 125) := by
  refine am_of (by decide +kernel) (Nat.le_of_ble_eq_true rfl) ?_
  have loop : ∀ (d k : Nat), k + d = 24 → AW E M_X0_placesInBlock 0 0 4 [some (aR (o + 1)), some (aI b), some (aI (ctC t b k)), some (aI (k : Int))] [] (putS o hi t) hr 125 (EX (some (aI (ctC t b 24))) (putS o hi t) hr 125) := by
    intro d
    induction d with
    | zero =>
      intro k hk
      have hk' : k = 24 := by omega
      subst hk'
      refine aw_iload_n dX0_placesInBlock_4 rfl ?_
      refine aw_bipush dX0_placesInBlock_5 (by decide) ?_
      refine aw_ic_ge (tgt := 31) dX0_placesInBlock_7 (by decide) ⟨by decide, by decide⟩ ⟨by decide, by decide⟩ (fun h7 => ?_) (fun h7 => ?_)
      · refine aw_iload_n dX0_placesInBlock_31 rfl ?_
        refine aw_iret dX0_placesInBlock_32 rfl (by decide) (by decide) ?_
        exact EX.rf
      · exact absurd h7 (by decide)
    | succ d ih =>
      intro k hk
      refine aw_iload_n dX0_placesInBlock_4 rfl ?_
      refine aw_bipush dX0_placesInBlock_5 (by decide) ?_
      refine aw_ic_ge (tgt := 31) dX0_placesInBlock_7 (by decide) ⟨by omega, by omega⟩ ⟨by decide, by decide⟩ (fun h7 => ?_) (fun h7 => ?_)
      · exact absurd h7 (by omega)
      · refine aw_aload_n dX0_placesInBlock_10 rfl ?_
        refine aw_iload_n dX0_placesInBlock_11 rfl ?_
        refine aw_iload_n dX0_placesInBlock_12 rfl ?_
        refine aw_S2x dX0_placesInBlock_13 clX0_38 ⟨by decide, by decide⟩ c_X8_cellOf (by decide) (by decide) rfl rfl (by simp only [List.length_cons, List.length_nil]; omega) ?_
        refine aw_V1x dX0_placesInBlock_16 clX0_52 ⟨by decide, by decide⟩ (c := 0) (N := 4) (by have := st_lt ho; omega) (st_sh ho 1) rfl (c_X0_isPlace ho hHR hR ⟨by omega, by omega⟩) (by decide) (by decide) rfl rfl (by simp only [List.length_cons, List.length_nil]; omega) ?_
        refine aw_if_eq (tgt := 25) dX0_placesInBlock_19 (by decide) (by rcases ipC_b t (b * 24 + (k : Int)) with q | q <;> rw [q] <;> exact ⟨by decide, by decide⟩) (fun h19 => ?_) (fun h19 => ?_)
        · refine aw_iinc (ls2 := [_, _, _, _]) dX0_placesInBlock_25 rfl (by decide) rfl ?_
          refine aw_goto (tgt := 4) dX0_placesInBlock_28 (by decide) ?_
          have e : ctC t b (k + 1) = ctC t b k + 0 := by show ctC t b k + ipC t (b * 24 + (k : Int)) = _; rw [h19]
          have g := ih (k + 1) (by omega)
          rw [e] at g
          rw [Int.add_zero] at g
          exact g
        · refine aw_iinc (ls2 := [_, _, _, _]) dX0_placesInBlock_22 rfl (by decide) rfl ?_
          refine aw_iinc (ls2 := [_, _, _, _]) dX0_placesInBlock_25 rfl (by decide) rfl ?_
          refine aw_goto (tgt := 4) dX0_placesInBlock_28 (by decide) ?_
          have e : ctC t b (k + 1) = ctC t b k + 1 := by show ctC t b k + ipC t (b * 24 + (k : Int)) = _; rcases ipC_b t (b * 24 + (k : Int)) with q | q <;> omega
          have g := ih (k + 1) (by omega)
          rw [e] at g
          exact g
  refine aw_iconst dX0_placesInBlock_0 ?_
  refine aw_istore_n (ls2 := [_, _, _, _]) dX0_placesInBlock_1 (by decide) rfl ?_
  refine aw_iconst dX0_placesInBlock_2 ?_
  refine aw_istore_n (ls2 := [_, _, _, _]) dX0_placesInBlock_3 (by decide) rfl ?_
  exact loop 24 0 (by omega)
set_option maxRecDepth 100000 in
set_option maxHeartbeats 4000000 in
theorem c_X0_tornPages (ho : St o) (hHR : HRk hr) (hR : CR t) : AMet E M_X0_tornPages [aR (o + 1)] (putS o hi t) hr 125 (EX (some (aI (toC t 48))) (putS o hi t) hr 125) := by
  refine am_of (by decide +kernel) (Nat.le_of_ble_eq_true rfl) ?_
  have loop : ∀ (d k : Nat), k + d = 48 → AW E M_X0_tornPages 0 0 4 [some (aR (o + 1)), some (aI (toC t k)), some (aI (k : Int))] [] (putS o hi t) hr 125 (EX (some (aI (toC t 48))) (putS o hi t) hr 125) := by
    intro d
    induction d with
    | zero =>
      intro k hk
      have hk' : k = 48 := by omega
      subst hk'
      refine aw_iload_n dX0_tornPages_4 rfl ?_
      refine aw_bipush dX0_tornPages_5 (by decide) ?_
      refine aw_ic_ge (tgt := 29) dX0_tornPages_7 (by decide) ⟨by decide, by decide⟩ ⟨by decide, by decide⟩ (fun h7 => ?_) (fun h7 => ?_)
      · refine aw_iload_n dX0_tornPages_29 rfl ?_
        refine aw_iret dX0_tornPages_30 rfl (by decide) (by decide) ?_
        exact EX.rf
      · exact absurd h7 (by decide)
    | succ d ih =>
      intro k hk
      have c := hR (k : Int) (by omega) (by omega)
      refine aw_iload_n dX0_tornPages_4 rfl ?_
      refine aw_bipush dX0_tornPages_5 (by decide) ?_
      refine aw_ic_ge (tgt := 29) dX0_tornPages_7 (by decide) ⟨by omega, by omega⟩ ⟨by decide, by decide⟩ (fun h7 => ?_) (fun h7 => ?_)
      · exact absurd h7 (by omega)
      · refine aw_aload_n dX0_tornPages_10 rfl ?_
        refine aw_getr (x := (o + 2)) dX0_tornPages_11 ci0 (by decide) fX0_9 (by have := st_lt ho; omega) (st_sh ho 1) rfl (st_r1 ho hHR 0) ?_
        refine aw_iload_n dX0_tornPages_14 rfl ?_
        refine aw_iald (N := 48) dX0_tornPages_15 (Or.inl ⟨(by have := st_lt ho; omega), (st_sh ho 2)⟩) (by omega) (by omega) (by decide) (putS_gi o _ _ 2 (by omega)) ?_
        refine aw_iconst dX0_tornPages_16 ?_
        refine aw_ic_ne (tgt := 23) dX0_tornPages_17 (by decide) ⟨by omega, by omega⟩ ⟨by decide, by decide⟩ (fun h17 => ?_) (fun h17 => ?_)
        · refine aw_iinc (ls2 := [_, _, _]) dX0_tornPages_23 rfl (by decide) rfl ?_
          refine aw_goto (tgt := 4) dX0_tornPages_26 (by decide) ?_
          have e : toC t (k + 1) = toC t k + 0 := by show toC t k + (if _ then _ else _) = _; rw [if_neg h17]
          have g := ih (k + 1) (by omega)
          rw [e] at g
          rw [Int.add_zero] at g
          exact g
        · refine aw_iinc (ls2 := [_, _, _]) dX0_tornPages_20 rfl (by decide) rfl ?_
          refine aw_iinc (ls2 := [_, _, _]) dX0_tornPages_23 rfl (by decide) rfl ?_
          refine aw_goto (tgt := 4) dX0_tornPages_26 (by decide) ?_
          have e : toC t (k + 1) = toC t k + 1 := by show toC t k + (if _ then _ else _) = _; rw [if_pos h17]
          have g := ih (k + 1) (by omega)
          rw [e] at g
          exact g
  refine aw_iconst dX0_tornPages_0 ?_
  refine aw_istore_n (ls2 := [_, _, _]) dX0_tornPages_1 (by decide) rfl ?_
  refine aw_iconst dX0_tornPages_2 ?_
  refine aw_istore_n (ls2 := [_, _, _]) dX0_tornPages_3 (by decide) rfl ?_
  exact loop 48 0 (by omega)
set_option maxRecDepth 100000 in
set_option maxHeartbeats 4000000 in
theorem c_X0_keysWithPlace (ho : St o) (hHR : HRk hr) (hR : CR t) : AMet E M_X0_keysWithPlace [aR (o + 1)] (putS o hi t) hr 125 (EX (some (aI (kwC t 12))) (putS o hi t) hr 125) := by
  refine am_of (by decide +kernel) (Nat.le_of_ble_eq_true rfl) ?_
  have loop : ∀ (d k : Nat), k + d = 12 → AW E M_X0_keysWithPlace 0 0 4 [some (aR (o + 1)), some (aI (kwC t k)), some (aI (k : Int))] [] (putS o hi t) hr 125 (EX (some (aI (kwC t 12))) (putS o hi t) hr 125) := by
    intro d
    induction d with
    | zero =>
      intro k hk
      have hk' : k = 12 := by omega
      subst hk'
      refine aw_iload_n dX0_keysWithPlace_4 rfl ?_
      refine aw_bipush dX0_keysWithPlace_5 (by decide) ?_
      refine aw_ic_ge (tgt := 28) dX0_keysWithPlace_7 (by decide) ⟨by decide, by decide⟩ ⟨by decide, by decide⟩ (fun h7 => ?_) (fun h7 => ?_)
      · refine aw_iload_n dX0_keysWithPlace_28 rfl ?_
        refine aw_iret dX0_keysWithPlace_29 rfl (by decide) (by decide) ?_
        exact EX.rf
      · exact absurd h7 (by decide)
    | succ d ih =>
      intro k hk
      have c := pcF_b hR (k : Int)
      refine aw_iload_n dX0_keysWithPlace_4 rfl ?_
      refine aw_bipush dX0_keysWithPlace_5 (by decide) ?_
      refine aw_ic_ge (tgt := 28) dX0_keysWithPlace_7 (by decide) ⟨by omega, by omega⟩ ⟨by decide, by decide⟩ (fun h7 => ?_) (fun h7 => ?_)
      · exact absurd h7 (by omega)
      · refine aw_aload_n dX0_keysWithPlace_10 rfl ?_
        refine aw_iload_n dX0_keysWithPlace_11 rfl ?_
        refine aw_V1x dX0_keysWithPlace_12 clX0_49 ⟨by decide, by decide⟩ (c := 0) (N := 4) (by have := st_lt ho; omega) (st_sh ho 1) rfl (c_X0_place ho hHR hR ⟨by omega, by omega⟩) (by decide) (by decide) rfl rfl (by simp only [List.length_cons, List.length_nil]; omega) ?_
        refine aw_iconst dX0_keysWithPlace_15 ?_
        refine aw_ic_eq (tgt := 22) dX0_keysWithPlace_16 (by decide) ⟨by omega, by omega⟩ ⟨by decide, by decide⟩ (fun h16 => ?_) (fun h16 => ?_)
        · refine aw_iinc (ls2 := [_, _, _]) dX0_keysWithPlace_22 rfl (by decide) rfl ?_
          refine aw_goto (tgt := 4) dX0_keysWithPlace_25 (by decide) ?_
          have e : kwC t (k + 1) = kwC t k + 0 := by show kwC t k + (if _ then _ else _) = _; rw [if_pos h16]
          have g := ih (k + 1) (by omega)
          rw [e] at g
          rw [Int.add_zero] at g
          exact g
        · refine aw_iinc (ls2 := [_, _, _]) dX0_keysWithPlace_19 rfl (by decide) rfl ?_
          refine aw_iinc (ls2 := [_, _, _]) dX0_keysWithPlace_22 rfl (by decide) rfl ?_
          refine aw_goto (tgt := 4) dX0_keysWithPlace_25 (by decide) ?_
          have e : kwC t (k + 1) = kwC t k + 1 := by show kwC t k + (if _ then _ else _) = _; rw [if_neg h16]
          have g := ih (k + 1) (by omega)
          rw [e] at g
          exact g
  refine aw_iconst dX0_keysWithPlace_0 ?_
  refine aw_istore_n (ls2 := [_, _, _]) dX0_keysWithPlace_1 (by decide) rfl ?_
  refine aw_iconst dX0_keysWithPlace_2 ?_
  refine aw_istore_n (ls2 := [_, _, _]) dX0_keysWithPlace_3 (by decide) rfl ?_
  exact loop 12 0 (by omega)
end CLS1
