/-! the class's requests -/
section CLS2
variable {E : ET} {hi : HI} {hr : HR} {o : Nat} {t : TS}
set_option maxRecDepth 100000 in
set_option maxHeartbeats 4000000 in
theorem c_X2_size (ho : St o) (hHR : HRk hr) : AMet E M_X2_size [aR (o + 6)] (putS o hi t) hr 125 (EX (some (aI (t 6 4))) (putS o hi t) hr 125) := by
  refine am_of (by decide +kernel) (Nat.le_of_ble_eq_true rfl) ?_
  refine aw_aload_n dX2_size_0 rfl ?_
  refine aw_getv dX2_size_1 ci2 (by decide) fX2_28 (by have := st_lt ho; omega) (st_sh ho 6) rfl (putS_gk o _ _ 6 4 4 rfl) ?_
  refine aw_iret dX2_size_4 rfl (by decide) (by decide) ?_
  exact EX.rf
set_option maxRecDepth 100000 in
set_option maxHeartbeats 4000000 in
theorem c_X2_key (ho : St o) (hHR : HRk hr) {c : Int} (hc : InR c) : AMet E M_X2_key [aR (o + 6), aI c] (putS o hi t) hr 125 (EX (some (aI (rkF t c))) (putS o hi t) hr 125) := by
  refine am_of (by decide +kernel) (Nat.le_of_ble_eq_true rfl) ?_
  refine aw_iload_n dX2_key_0 rfl ?_
  refine aw_if_lt (tgt := 19) dX2_key_1 (by decide) hc (fun h1 => ?_) (fun h1 => ?_)
  · refine aw_iconst dX2_key_19 ?_
    refine aw_iret dX2_key_20 rfl (by decide) (by decide) ?_
    exact exI (by unfold rkF; rw [if_neg (by omega)])
  · refine aw_iload_n dX2_key_4 rfl ?_
    refine aw_bipush dX2_key_5 (by decide) ?_
    refine aw_ic_ge (tgt := 19) dX2_key_7 (by decide) hc ⟨by decide, by decide⟩ (fun h7 => ?_) (fun h7 => ?_)
    · refine aw_iconst dX2_key_19 ?_
      refine aw_iret dX2_key_20 rfl (by decide) (by decide) ?_
      exact exI (by unfold rkF; rw [if_neg (by omega)])
    · refine aw_aload_n dX2_key_10 rfl ?_
      refine aw_getr (x := (o + 7)) dX2_key_11 ci2 (by decide) fX2_9 (by have := st_lt ho; omega) (st_sh ho 6) rfl (st_r6 ho hHR 0) ?_
      refine aw_iload_n dX2_key_14 rfl ?_
      refine aw_iald (N := 8) dX2_key_15 (Or.inl ⟨(by have := st_lt ho; omega), (st_sh ho 7)⟩) (by omega) (by omega) (by decide) (putS_gi o _ _ 7 (by omega)) ?_
      refine aw_goto (tgt := 20) dX2_key_16 (by decide) ?_
      refine aw_iret dX2_key_20 rfl (by decide) (by decide) ?_
      exact exI (by unfold rkF; rw [if_pos (by omega)])
set_option maxRecDepth 100000 in
set_option maxHeartbeats 4000000 in
theorem c_X2_value (ho : St o) (hHR : HRk hr) {c : Int} (hc : InR c) : AMet E M_X2_value [aR (o + 6), aI c] (putS o hi t) hr 125 (EX (some (aI (rvF t c))) (putS o hi t) hr 125) := by
  refine am_of (by decide +kernel) (Nat.le_of_ble_eq_true rfl) ?_
  refine aw_iload_n dX2_value_0 rfl ?_
  refine aw_if_lt (tgt := 19) dX2_value_1 (by decide) hc (fun h1 => ?_) (fun h1 => ?_)
  · refine aw_iconst dX2_value_19 ?_
    refine aw_iret dX2_value_20 rfl (by decide) (by decide) ?_
    exact exI (by unfold rvF; rw [if_neg (by omega)])
  · refine aw_iload_n dX2_value_4 rfl ?_
    refine aw_bipush dX2_value_5 (by decide) ?_
    refine aw_ic_ge (tgt := 19) dX2_value_7 (by decide) hc ⟨by decide, by decide⟩ (fun h7 => ?_) (fun h7 => ?_)
    · refine aw_iconst dX2_value_19 ?_
      refine aw_iret dX2_value_20 rfl (by decide) (by decide) ?_
      exact exI (by unfold rvF; rw [if_neg (by omega)])
    · refine aw_aload_n dX2_value_10 rfl ?_
      refine aw_getr (x := (o + 8)) dX2_value_11 ci2 (by decide) fX2_15 (by have := st_lt ho; omega) (st_sh ho 6) rfl (st_r6 ho hHR 1) ?_
      refine aw_iload_n dX2_value_14 rfl ?_
      refine aw_iald (N := 8) dX2_value_15 (Or.inl ⟨(by have := st_lt ho; omega), (st_sh ho 8)⟩) (by omega) (by omega) (by decide) (putS_gi o _ _ 8 (by omega)) ?_
      refine aw_goto (tgt := 20) dX2_value_16 (by decide) ?_
      refine aw_iret dX2_value_20 rfl (by decide) (by decide) ?_
      exact exI (by unfold rvF; rw [if_pos (by omega)])
set_option maxRecDepth 100000 in
set_option maxHeartbeats 4000000 in
theorem c_X2_urgency (ho : St o) (hHR : HRk hr) {c : Int} (hc : InR c) : AMet E M_X2_urgency [aR (o + 6), aI c] (putS o hi t) hr 125 (EX (some (aI (ruF t c))) (putS o hi t) hr 125) := by
  refine am_of (by decide +kernel) (Nat.le_of_ble_eq_true rfl) ?_
  refine aw_iload_n dX2_urgency_0 rfl ?_
  refine aw_if_lt (tgt := 19) dX2_urgency_1 (by decide) hc (fun h1 => ?_) (fun h1 => ?_)
  · refine aw_iconst dX2_urgency_19 ?_
    refine aw_iret dX2_urgency_20 rfl (by decide) (by decide) ?_
    exact exI (by unfold ruF; rw [if_neg (by omega)])
  · refine aw_iload_n dX2_urgency_4 rfl ?_
    refine aw_bipush dX2_urgency_5 (by decide) ?_
    refine aw_ic_ge (tgt := 19) dX2_urgency_7 (by decide) hc ⟨by decide, by decide⟩ (fun h7 => ?_) (fun h7 => ?_)
    · refine aw_iconst dX2_urgency_19 ?_
      refine aw_iret dX2_urgency_20 rfl (by decide) (by decide) ?_
      exact exI (by unfold ruF; rw [if_neg (by omega)])
    · refine aw_aload_n dX2_urgency_10 rfl ?_
      refine aw_getr (x := (o + 9)) dX2_urgency_11 ci2 (by decide) fX2_18 (by have := st_lt ho; omega) (st_sh ho 6) rfl (st_r6 ho hHR 2) ?_
      refine aw_iload_n dX2_urgency_14 rfl ?_
      refine aw_iald (N := 8) dX2_urgency_15 (Or.inl ⟨(by have := st_lt ho; omega), (st_sh ho 9)⟩) (by omega) (by omega) (by decide) (putS_gi o _ _ 9 (by omega)) ?_
      refine aw_goto (tgt := 20) dX2_urgency_16 (by decide) ?_
      refine aw_iret dX2_urgency_20 rfl (by decide) (by decide) ?_
      exact exI (by unfold ruF; rw [if_pos (by omega)])
set_option maxRecDepth 100000 in
set_option maxHeartbeats 4000000 in
theorem c_X2_stamp (ho : St o) (hHR : HRk hr) {c : Int} (hc : InR c) : AMet E M_X2_stamp [aR (o + 6), aI c] (putS o hi t) hr 125 (EX (some (aI (rsF t c))) (putS o hi t) hr 125) := by
  refine am_of (by decide +kernel) (Nat.le_of_ble_eq_true rfl) ?_
  refine aw_iload_n dX2_stamp_0 rfl ?_
  refine aw_if_lt (tgt := 19) dX2_stamp_1 (by decide) hc (fun h1 => ?_) (fun h1 => ?_)
  · refine aw_iconst dX2_stamp_19 ?_
    refine aw_iret dX2_stamp_20 rfl (by decide) (by decide) ?_
    exact exI (by unfold rsF; rw [if_neg (by omega)])
  · refine aw_iload_n dX2_stamp_4 rfl ?_
    refine aw_bipush dX2_stamp_5 (by decide) ?_
    refine aw_ic_ge (tgt := 19) dX2_stamp_7 (by decide) hc ⟨by decide, by decide⟩ (fun h7 => ?_) (fun h7 => ?_)
    · refine aw_iconst dX2_stamp_19 ?_
      refine aw_iret dX2_stamp_20 rfl (by decide) (by decide) ?_
      exact exI (by unfold rsF; rw [if_neg (by omega)])
    · refine aw_aload_n dX2_stamp_10 rfl ?_
      refine aw_getr (x := (o + 10)) dX2_stamp_11 ci2 (by decide) fX2_21 (by have := st_lt ho; omega) (st_sh ho 6) rfl (st_r6 ho hHR 3) ?_
      refine aw_iload_n dX2_stamp_14 rfl ?_
      refine aw_iald (N := 8) dX2_stamp_15 (Or.inl ⟨(by have := st_lt ho; omega), (st_sh ho 10)⟩) (by omega) (by omega) (by decide) (putS_gi o _ _ 10 (by omega)) ?_
      refine aw_goto (tgt := 20) dX2_stamp_16 (by decide) ?_
      refine aw_iret dX2_stamp_20 rfl (by decide) (by decide) ?_
      exact exI (by unfold rsF; rw [if_pos (by omega)])
set_option maxRecDepth 100000 in
set_option maxHeartbeats 4000000 in
theorem c_X2_makeEmpty (ho : St o) (hHR : HRk hr) : AMet E M_X2_makeEmpty [aR (o + 6)] (putS o hi t) hr 125 (EX none (putS o hi (ut t 6 4 0)) hr 125) := by
  refine am_of (by decide +kernel) (Nat.le_of_ble_eq_true rfl) ?_
  refine aw_aload_n dX2_makeEmpty_0 rfl ?_
  refine aw_iconst dX2_makeEmpty_1 ?_
  refine aw_putv dX2_makeEmpty_2 ci2 (by decide) fX2_28 (by have := st_lt ho; omega) (st_sh ho 6) rfl rfl (Or.inl rfl) (putS_uk o _ _ 6 4 4 _ rfl) ?_
  refine aw_vret dX2_makeEmpty_5 rfl (by decide) (by decide) ?_
  exact EX.rf
set_option maxRecDepth 100000 in
set_option maxHeartbeats 4000000 in
theorem c_X2_move (ho : St o) (hHR : HRk hr) {f d : Int} (hf : InR f) (hd : InR d) : AMet E M_X2_move [aR (o + 6), aI f, aI d] (putS o hi t) hr 125 (EX none (putS o hi (mvC t f d)) hr 125) := by
  refine am_of (by decide +kernel) (Nat.le_of_ble_eq_true rfl) ?_
  refine aw_iload_n dX2_move_0 rfl ?_
  refine aw_if_lt (tgt := 68) dX2_move_1 (by decide) hf (fun h1 => ?_) (fun h1 => ?_)
  · refine aw_vret dX2_move_68 rfl (by decide) (by decide) ?_
    have e2 : mvC t f d = _ := if_neg (by omega)
    rw [e2]
    exact EX.rf
  · refine aw_iload_n dX2_move_4 rfl ?_
    refine aw_bipush dX2_move_5 (by decide) ?_
    refine aw_ic_ge (tgt := 68) dX2_move_7 (by decide) hf ⟨by decide, by decide⟩ (fun h7 => ?_) (fun h7 => ?_)
    · refine aw_vret dX2_move_68 rfl (by decide) (by decide) ?_
      have e2 : mvC t f d = _ := if_neg (by omega)
      rw [e2]
      exact EX.rf
    · refine aw_iload_n dX2_move_10 rfl ?_
      refine aw_if_lt (tgt := 68) dX2_move_11 (by decide) hd (fun h11 => ?_) (fun h11 => ?_)
      · refine aw_vret dX2_move_68 rfl (by decide) (by decide) ?_
        have e2 : mvC t f d = _ := if_neg (by omega)
        rw [e2]
        exact EX.rf
      · refine aw_iload_n dX2_move_14 rfl ?_
        refine aw_bipush dX2_move_15 (by decide) ?_
        refine aw_ic_ge (tgt := 68) dX2_move_17 (by decide) hd ⟨by decide, by decide⟩ (fun h17 => ?_) (fun h17 => ?_)
        · refine aw_vret dX2_move_68 rfl (by decide) (by decide) ?_
          have e2 : mvC t f d = _ := if_neg (by omega)
          rw [e2]
          exact EX.rf
        · refine aw_aload_n dX2_move_20 rfl ?_
          refine aw_getr (x := (o + 7)) dX2_move_21 ci2 (by decide) fX2_9 (by have := st_lt ho; omega) (st_sh ho 6) rfl (st_r6 ho hHR 0) ?_
          refine aw_iload_n dX2_move_24 rfl ?_
          refine aw_aload_n dX2_move_25 rfl ?_
          refine aw_getr (x := (o + 7)) dX2_move_26 ci2 (by decide) fX2_9 (by have := st_lt ho; omega) (st_sh ho 6) rfl (st_r6 ho hHR 0) ?_
          refine aw_iload_n dX2_move_29 rfl ?_
          refine aw_iald (N := 8) dX2_move_30 (Or.inl ⟨(by have := st_lt ho; omega), (st_sh ho 7)⟩) (by omega) (by omega) (by decide) (putS_gi o _ _ 7 (by omega)) ?_
          refine aw_iast (N := 8) dX2_move_31 (by have := st_lt ho; omega) (st_sh ho 7) (by omega) (by omega) (by decide) (putS_ui o _ _ 7 _ (by omega)) ?_
          refine aw_aload_n dX2_move_32 rfl ?_
          refine aw_getr (x := (o + 8)) dX2_move_33 ci2 (by decide) fX2_15 (by have := st_lt ho; omega) (st_sh ho 6) rfl (st_r6 ho hHR 1) ?_
          refine aw_iload_n dX2_move_36 rfl ?_
          refine aw_aload_n dX2_move_37 rfl ?_
          refine aw_getr (x := (o + 8)) dX2_move_38 ci2 (by decide) fX2_15 (by have := st_lt ho; omega) (st_sh ho 6) rfl (st_r6 ho hHR 1) ?_
          refine aw_iload_n dX2_move_41 rfl ?_
          refine aw_iald (N := 8) dX2_move_42 (Or.inl ⟨(by have := st_lt ho; omega), (st_sh ho 8)⟩) (by omega) (by omega) (by decide) (putS_gi o _ _ 8 (by omega)) ?_
          refine aw_iast (N := 8) dX2_move_43 (by have := st_lt ho; omega) (st_sh ho 8) (by omega) (by omega) (by decide) (putS_ui o _ _ 8 _ (by omega)) ?_
          refine aw_aload_n dX2_move_44 rfl ?_
          refine aw_getr (x := (o + 9)) dX2_move_45 ci2 (by decide) fX2_18 (by have := st_lt ho; omega) (st_sh ho 6) rfl (st_r6 ho hHR 2) ?_
          refine aw_iload_n dX2_move_48 rfl ?_
          refine aw_aload_n dX2_move_49 rfl ?_
          refine aw_getr (x := (o + 9)) dX2_move_50 ci2 (by decide) fX2_18 (by have := st_lt ho; omega) (st_sh ho 6) rfl (st_r6 ho hHR 2) ?_
          refine aw_iload_n dX2_move_53 rfl ?_
          refine aw_iald (N := 8) dX2_move_54 (Or.inl ⟨(by have := st_lt ho; omega), (st_sh ho 9)⟩) (by omega) (by omega) (by decide) (putS_gi o _ _ 9 (by omega)) ?_
          refine aw_iast (N := 8) dX2_move_55 (by have := st_lt ho; omega) (st_sh ho 9) (by omega) (by omega) (by decide) (putS_ui o _ _ 9 _ (by omega)) ?_
          refine aw_aload_n dX2_move_56 rfl ?_
          refine aw_getr (x := (o + 10)) dX2_move_57 ci2 (by decide) fX2_21 (by have := st_lt ho; omega) (st_sh ho 6) rfl (st_r6 ho hHR 3) ?_
          refine aw_iload_n dX2_move_60 rfl ?_
          refine aw_aload_n dX2_move_61 rfl ?_
          refine aw_getr (x := (o + 10)) dX2_move_62 ci2 (by decide) fX2_21 (by have := st_lt ho; omega) (st_sh ho 6) rfl (st_r6 ho hHR 3) ?_
          refine aw_iload_n dX2_move_65 rfl ?_
          refine aw_iald (N := 8) dX2_move_66 (Or.inl ⟨(by have := st_lt ho; omega), (st_sh ho 10)⟩) (by omega) (by omega) (by decide) (putS_gi o _ _ 10 (by omega)) ?_
          refine aw_iast (N := 8) dX2_move_67 (by have := st_lt ho; omega) (st_sh ho 10) (by omega) (by omega) (by decide) (putS_ui o _ _ 10 _ (by omega)) ?_
          refine aw_vret dX2_move_68 rfl (by decide) (by decide) ?_
          have e2 : mvC t f d = _ := if_pos ⟨⟨by omega, by omega⟩, by omega, by omega⟩
          rw [e2]
          exact EX.rf
set_option maxRecDepth 100000 in
set_option maxHeartbeats 4000000 in
theorem c_X2_put (ho : St o) (hHR : HRk hr) {i k v u s : Int} (hi2 : InR i) : AMet E M_X2_put [aR (o + 6), aI i, aI k, aI v, aI u, aI s] (putS o hi t) hr 125 (EX none (putS o hi (ptC t i k v u s)) hr 125) := by
  refine am_of (by decide +kernel) (Nat.le_of_ble_eq_true rfl) ?_
  refine aw_iload_n dX2_put_0 rfl ?_
  refine aw_if_lt (tgt := 40) dX2_put_1 (by decide) hi2 (fun h1 => ?_) (fun h1 => ?_)
  · refine aw_vret dX2_put_40 rfl (by decide) (by decide) ?_
    have e : ptC t i k v u s = _ := if_neg (by omega)
    rw [e]
    exact EX.rf
  · refine aw_iload_n dX2_put_4 rfl ?_
    refine aw_bipush dX2_put_5 (by decide) ?_
    refine aw_ic_ge (tgt := 40) dX2_put_7 (by decide) hi2 ⟨by decide, by decide⟩ (fun h7 => ?_) (fun h7 => ?_)
    · refine aw_vret dX2_put_40 rfl (by decide) (by decide) ?_
      have e : ptC t i k v u s = _ := if_neg (by omega)
      rw [e]
      exact EX.rf
    · refine aw_aload_n dX2_put_10 rfl ?_
      refine aw_getr (x := (o + 7)) dX2_put_11 ci2 (by decide) fX2_9 (by have := st_lt ho; omega) (st_sh ho 6) rfl (st_r6 ho hHR 0) ?_
      refine aw_iload_n dX2_put_14 rfl ?_
      refine aw_iload_n dX2_put_15 rfl ?_
      refine aw_iast (N := 8) dX2_put_16 (by have := st_lt ho; omega) (st_sh ho 7) (by omega) (by omega) (by decide) (putS_ui o _ _ 7 _ (by omega)) ?_
      refine aw_aload_n dX2_put_17 rfl ?_
      refine aw_getr (x := (o + 8)) dX2_put_18 ci2 (by decide) fX2_15 (by have := st_lt ho; omega) (st_sh ho 6) rfl (st_r6 ho hHR 1) ?_
      refine aw_iload_n dX2_put_21 rfl ?_
      refine aw_iload_n dX2_put_22 rfl ?_
      refine aw_iast (N := 8) dX2_put_23 (by have := st_lt ho; omega) (st_sh ho 8) (by omega) (by omega) (by decide) (putS_ui o _ _ 8 _ (by omega)) ?_
      refine aw_aload_n dX2_put_24 rfl ?_
      refine aw_getr (x := (o + 9)) dX2_put_25 ci2 (by decide) fX2_18 (by have := st_lt ho; omega) (st_sh ho 6) rfl (st_r6 ho hHR 2) ?_
      refine aw_iload_n dX2_put_28 rfl ?_
      refine aw_iload dX2_put_29 rfl ?_
      refine aw_iast (N := 8) dX2_put_31 (by have := st_lt ho; omega) (st_sh ho 9) (by omega) (by omega) (by decide) (putS_ui o _ _ 9 _ (by omega)) ?_
      refine aw_aload_n dX2_put_32 rfl ?_
      refine aw_getr (x := (o + 10)) dX2_put_33 ci2 (by decide) fX2_21 (by have := st_lt ho; omega) (st_sh ho 6) rfl (st_r6 ho hHR 3) ?_
      refine aw_iload_n dX2_put_36 rfl ?_
      refine aw_iload dX2_put_37 rfl ?_
      refine aw_iast (N := 8) dX2_put_39 (by have := st_lt ho; omega) (st_sh ho 10) (by omega) (by omega) (by decide) (putS_ui o _ _ 10 _ (by omega)) ?_
      refine aw_vret dX2_put_40 rfl (by decide) (by decide) ?_
      have e : ptC t i k v u s = _ := if_pos ⟨by omega, by omega⟩
      rw [e]
      exact EX.rf
set_option maxRecDepth 100000 in
set_option maxHeartbeats 4000000 in
theorem c_X2_add (ho : St o) (hHR : HRk hr) (hQ : QR t) {k v u s : Int} (hu : InR u) : AMet E M_X2_add [aR (o + 6), aI k, aI v, aI u, aI s] (putS o hi t) hr 125 (EX none (putS o hi (adC t k v u s)) hr 125) := by
  refine am_of (by decide +kernel) (Nat.le_of_ble_eq_true rfl) ?_
  have hn := hQ.1
  have hix := adI_le t u (t 6 4).toNat
  by_cases h8 : 8 ≤ t 6 4
  · have e0 : adC t k v u s = t := if_pos h8
    rw [e0]
    refine aw_aload_n dX2_add_0 rfl ?_
    refine aw_getv dX2_add_1 ci2 (by decide) fX2_28 (by have := st_lt ho; omega) (st_sh ho 6) rfl (putS_gk o _ _ 6 4 4 rfl) ?_
    refine aw_bipush dX2_add_4 (by decide) ?_
    refine aw_ic_lt (tgt := 10) dX2_add_6 (by decide) ⟨by omega, by omega⟩ ⟨by decide, by decide⟩ (fun h6 => ?_) (fun h6 => ?_)
    · exact absurd h6 (by omega)
    · refine aw_vret dX2_add_9 rfl (by decide) (by decide) ?_
      exact EX.rf
  · have e0 : adC t k v u s = ptC (ut (adM t u) 6 4 (adM t u 6 4 + 1)) (adI t u (t 6 4).toNat : Int) k v u s := if_neg h8
    have fin : ∀ l6 : Option AV, AW E M_X2_add 0 0 68 [some (aR (o + 6)), some (aI k), some (aI v), some (aI u), some (aI s), some (aI (adI t u (t 6 4).toNat : Int)), l6] [] (putS o hi (adM t u)) hr 125 (EX none (putS o hi (adC t k v u s)) hr 125) := by
      intro l6
      rw [e0]
      refine aw_aload_n dX2_add_68 rfl ?_
      refine aw_dup dX2_add_69 ?_
      refine aw_getv dX2_add_70 ci2 (by decide) fX2_28 (by have := st_lt ho; omega) (st_sh ho 6) rfl (putS_gk o _ _ 6 4 4 rfl) ?_
      refine aw_iconst dX2_add_73 ?_
      refine aw_iadd dX2_add_74 ?_
      refine aw_putv dX2_add_75 ci2 (by decide) fX2_28 (by have := st_lt ho; omega) (st_sh ho 6) rfl rfl (Or.inl rfl) (putS_uk o _ _ 6 4 4 _ rfl) ?_
      refine aw_aload_n dX2_add_78 rfl ?_
      refine aw_iload dX2_add_79 rfl ?_
      refine aw_iload_n dX2_add_81 rfl ?_
      refine aw_iload_n dX2_add_82 rfl ?_
      refine aw_iload_n dX2_add_83 rfl ?_
      refine aw_iload dX2_add_84 rfl ?_
      refine aw_V5v dX2_add_86 clX2_40 ⟨by decide, by decide⟩ (c := 2) (N := 5) (by have := st_lt ho; omega) (st_sh ho 6) rfl (c_X2_put ho hHR ⟨by omega, by omega⟩) (by decide) (by decide) rfl rfl (by simp only [List.length_cons, List.length_nil]; omega) ?_
      refine aw_vret dX2_add_89 rfl (by decide) (by decide) ?_
      exact EX.rf
    have lp2 : ∀ (m d : Nat), m + d = (t 6 4 - (adI t u (t 6 4).toNat : Int)).toNat → AW E M_X2_add 0 0 45 [some (aR (o + 6)), some (aI k), some (aI v), some (aI u), some (aI s), some (aI (adI t u (t 6 4).toNat : Int)), some (aI (t 6 4 - (d : Int)))] [] (putS o hi (shR t (t 6 4) d)) hr 125 (EX none (putS o hi (adC t k v u s)) hr 125) := by
      intro m
      induction m with
      | zero =>
        intro d hd
        have hd' : d = (t 6 4 - (adI t u (t 6 4).toNat : Int)).toNat := by omega
        subst hd'
        refine aw_iload dX2_add_45 rfl ?_
        refine aw_iload dX2_add_47 rfl ?_
        refine aw_ic_le (tgt := 68) dX2_add_49 (by decide) ⟨by omega, by omega⟩ ⟨by omega, by omega⟩ (fun h49 => ?_) (fun h49 => ?_)
        · exact fin _
        · exact absurd h49 (by omega)
      | succ m ih =>
        intro d hd
        refine aw_iload dX2_add_45 rfl ?_
        refine aw_iload dX2_add_47 rfl ?_
        refine aw_ic_le (tgt := 68) dX2_add_49 (by decide) ⟨by omega, by omega⟩ ⟨by omega, by omega⟩ (fun h49 => ?_) (fun h49 => ?_)
        · exact absurd h49 (by omega)
        · refine aw_aload_n dX2_add_52 rfl ?_
          refine aw_iload dX2_add_53 rfl ?_
          refine aw_iconst dX2_add_55 ?_
          refine aw_isub dX2_add_56 ?_
          refine aw_iload dX2_add_57 rfl ?_
          refine aw_V2v dX2_add_59 clX2_36 ⟨by decide, by decide⟩ (c := 2) (N := 5) (by have := st_lt ho; omega) (st_sh ho 6) rfl (c_X2_move ho hHR ⟨by omega, by omega⟩ ⟨by omega, by omega⟩) (by decide) (by decide) rfl rfl (by simp only [List.length_cons, List.length_nil]; omega) ?_
          refine aw_iinc (ls2 := [_, _, _, _, _, _, _]) dX2_add_62 rfl (by decide) rfl ?_
          refine aw_goto (tgt := 45) dX2_add_65 (by decide) ?_
          have g := ih (d + 1) (by omega)
          have e : t 6 4 - ((d + 1 : Nat) : Int) = t 6 4 - (d : Int) + (-1) := by omega
          rw [e] at g
          exact g
    have lp1 : ∀ j : Nat, j ≤ (t 6 4).toNat → adI t u (t 6 4).toNat = adI t u j → AW E M_X2_add 0 0 16 [some (aR (o + 6)), some (aI k), some (aI v), some (aI u), some (aI s), some (aI (j : Int)), none] [] (putS o hi t) hr 125 (EX none (putS o hi (adC t k v u s)) hr 125) := by
      intro j
      induction j with
      | zero =>
        intro _ he
        have e1 : (adI t u (t 6 4).toNat : Int) = ((0 : Nat) : Int) := by rw [he]; rfl
        refine aw_iload dX2_add_16 rfl ?_
        refine aw_if_le (tgt := 39) dX2_add_18 (by decide) ⟨by omega, by omega⟩ (fun h18 => ?_) (fun h18 => ?_)
        · refine aw_aload_n dX2_add_39 rfl ?_
          refine aw_getv dX2_add_40 ci2 (by decide) fX2_28 (by have := st_lt ho; omega) (st_sh ho 6) rfl (putS_gk o _ _ 6 4 4 rfl) ?_
          refine aw_istore (ls2 := [_, _, _, _, _, _, _]) dX2_add_43 (by decide) rfl ?_
          have g := lp2 _ 0 (Nat.add_zero _)
          rw [e1] at g
          have e2 : t 6 4 - ((0 : Nat) : Int) = t 6 4 := by omega
          rw [e2] at g
          exact g
        · exact absurd h18 (by omega)
      | succ j ih =>
        intro hj he
        have hb := hQ.u (j : Int)
        have ej : ((j + 1 : Nat) : Int) - 1 = (j : Int) := by omega
        refine aw_iload dX2_add_16 rfl ?_
        refine aw_if_le (tgt := 39) dX2_add_18 (by decide) ⟨by omega, by omega⟩ (fun h18 => ?_) (fun h18 => ?_)
        · exact absurd h18 (by omega)
        · refine aw_aload_n dX2_add_21 rfl ?_
          refine aw_iload dX2_add_22 rfl ?_
          refine aw_iconst dX2_add_24 ?_
          refine aw_isub dX2_add_25 ?_
          rw [ej]
          refine aw_V1x dX2_add_26 clX2_32 ⟨by decide, by decide⟩ (c := 2) (N := 5) (by have := st_lt ho; omega) (st_sh ho 6) rfl (c_X2_urgency ho hHR ⟨by omega, by omega⟩) (by decide) (by decide) rfl rfl (by simp only [List.length_cons, List.length_nil]; omega) ?_
          refine aw_iload_n dX2_add_29 rfl ?_
          refine aw_ic_le (tgt := 39) dX2_add_30 (by decide) ⟨by omega, by omega⟩ hu (fun h30 => ?_) (fun h30 => ?_)
          · refine aw_aload_n dX2_add_39 rfl ?_
            refine aw_getv dX2_add_40 ci2 (by decide) fX2_28 (by have := st_lt ho; omega) (st_sh ho 6) rfl (putS_gk o _ _ 6 4 4 rfl) ?_
            refine aw_istore (ls2 := [_, _, _, _, _, _, _]) dX2_add_43 (by decide) rfl ?_
            have e : adI t u (j + 1) = j + 1 := by show (if _ then _ else _) = _; rw [if_neg (by omega)]
            have e1 : (adI t u (t 6 4).toNat : Int) = ((j + 1 : Nat) : Int) := by rw [he, e]
            have g := lp2 _ 0 (Nat.add_zero _)
            rw [e1] at g
            have e2 : t 6 4 - ((0 : Nat) : Int) = t 6 4 := by omega
            rw [e2] at g
            exact g
          · refine aw_iinc (ls2 := [_, _, _, _, _, _, _]) dX2_add_33 rfl (by decide) rfl ?_
            refine aw_goto (tgt := 16) dX2_add_36 (by decide) ?_
            have e : adI t u (j + 1) = adI t u j := by show (if _ then _ else _) = _; rw [if_pos (by omega)]
            have ej2 : ((j + 1 : Nat) : Int) + -1 = (j : Int) := by omega
            rw [ej2]
            exact ih (by omega) (he.trans e)
    refine aw_aload_n dX2_add_0 rfl ?_
    refine aw_getv dX2_add_1 ci2 (by decide) fX2_28 (by have := st_lt ho; omega) (st_sh ho 6) rfl (putS_gk o _ _ 6 4 4 rfl) ?_
    refine aw_bipush dX2_add_4 (by decide) ?_
    refine aw_ic_lt (tgt := 10) dX2_add_6 (by decide) ⟨by omega, by omega⟩ ⟨by decide, by decide⟩ (fun h6 => ?_) (fun h6 => ?_)
    · refine aw_aload_n dX2_add_10 rfl ?_
      refine aw_getv dX2_add_11 ci2 (by decide) fX2_28 (by have := st_lt ho; omega) (st_sh ho 6) rfl (putS_gk o _ _ 6 4 4 rfl) ?_
      refine aw_istore (ls2 := [_, _, _, _, _, _, _]) dX2_add_14 (by decide) rfl ?_
      have g := lp1 (t 6 4).toNat (Nat.le_refl _) rfl
      rw [Int.toNat_of_nonneg hn.1] at g
      exact g
    · exact absurd h6 (by omega)
set_option maxRecDepth 100000 in
set_option maxHeartbeats 4000000 in
theorem c_X2_dropFirst (ho : St o) (hHR : HRk hr) (hQ : QR t) : AMet E M_X2_dropFirst [aR (o + 6)] (putS o hi t) hr 125 (EX none (putS o hi (dfC t)) hr 125) := by
  refine am_of (by decide +kernel) (Nat.le_of_ble_eq_true rfl) ?_
  have hn := hQ.1
  have lp : ∀ (m d : Nat), m + d = (t 6 4 - 1).toNat → AW E M_X2_dropFirst 0 0 2 [some (aR (o + 6)), some (aI (d : Int))] [] (putS o hi (dfA t d)) hr 125 (EX none (putS o hi (dfC t)) hr 125) := by
    intro m
    induction m with
    | zero =>
      intro d hd
      have hd' : d = (t 6 4 - 1).toNat := by omega
      subst hd'
      have e6 : dfA t (t 6 4 - 1).toNat 6 4 = t 6 4 := dfA_n _ _ (by omega) _
      refine aw_iload_n dX2_dropFirst_2 rfl ?_
      refine aw_iconst dX2_dropFirst_3 ?_
      refine aw_iadd dX2_dropFirst_4 ?_
      refine aw_aload_n dX2_dropFirst_5 rfl ?_
      refine aw_getv dX2_dropFirst_6 ci2 (by decide) fX2_28 (by have := st_lt ho; omega) (st_sh ho 6) rfl (putS_gk o _ _ 6 4 4 rfl) ?_
      refine aw_ic_ge (tgt := 26) dX2_dropFirst_9 (by decide) ⟨by omega, by omega⟩ (by rw [e6]; exact ⟨by omega, by omega⟩) (fun h9 => ?_) (fun h9 => ?_)
      · refine aw_aload_n dX2_dropFirst_26 rfl ?_
        refine aw_iconst dX2_dropFirst_27 ?_
        refine aw_aload_n dX2_dropFirst_28 rfl ?_
        refine aw_getv dX2_dropFirst_29 ci2 (by decide) fX2_28 (by have := st_lt ho; omega) (st_sh ho 6) rfl (putS_gk o _ _ 6 4 4 rfl) ?_
        refine aw_iconst dX2_dropFirst_32 ?_
        refine aw_isub dX2_dropFirst_33 ?_
        refine aw_max dX2_dropFirst_34 cmX2_44 w_max2 w_math w_max4 (by decide) (by simp only [List.length_cons, List.length_nil]; decide) (by decide) (by decide) ⟨by decide, by decide⟩ (by rw [e6]; exact ⟨by omega, by omega⟩) ?_
        refine aw_putv dX2_dropFirst_37 ci2 (by decide) fX2_28 (by have := st_lt ho; omega) (st_sh ho 6) rfl rfl (Or.inl rfl) (putS_uk o _ _ 6 4 4 _ rfl) ?_
        refine aw_vret dX2_dropFirst_40 rfl (by decide) (by decide) ?_
        exact EX.rf
      · exact absurd h9 (by rw [e6]; omega)
    | succ m ih =>
      intro d hd
      have e6 : dfA t d 6 4 = t 6 4 := dfA_n _ _ (by omega) _
      refine aw_iload_n dX2_dropFirst_2 rfl ?_
      refine aw_iconst dX2_dropFirst_3 ?_
      refine aw_iadd dX2_dropFirst_4 ?_
      refine aw_aload_n dX2_dropFirst_5 rfl ?_
      refine aw_getv dX2_dropFirst_6 ci2 (by decide) fX2_28 (by have := st_lt ho; omega) (st_sh ho 6) rfl (putS_gk o _ _ 6 4 4 rfl) ?_
      refine aw_ic_ge (tgt := 26) dX2_dropFirst_9 (by decide) ⟨by omega, by omega⟩ (by rw [e6]; exact ⟨by omega, by omega⟩) (fun h9 => ?_) (fun h9 => ?_)
      · exact absurd h9 (by rw [e6]; omega)
      · refine aw_aload_n dX2_dropFirst_12 rfl ?_
        refine aw_iload_n dX2_dropFirst_13 rfl ?_
        refine aw_iconst dX2_dropFirst_14 ?_
        refine aw_iadd dX2_dropFirst_15 ?_
        refine aw_iload_n dX2_dropFirst_16 rfl ?_
        refine aw_V2v dX2_dropFirst_17 clX2_36 ⟨by decide, by decide⟩ (c := 2) (N := 5) (by have := st_lt ho; omega) (st_sh ho 6) rfl (c_X2_move ho hHR ⟨by omega, by omega⟩ ⟨by omega, by omega⟩) (by decide) (by decide) rfl rfl (by simp only [List.length_cons, List.length_nil]; omega) ?_
        refine aw_iinc (ls2 := [_, _]) dX2_dropFirst_20 rfl (by decide) rfl ?_
        refine aw_goto (tgt := 2) dX2_dropFirst_23 (by decide) ?_
        exact ih (d + 1) (by omega)
  refine aw_iconst dX2_dropFirst_0 ?_
  refine aw_istore_n (ls2 := [_, _]) dX2_dropFirst_1 (by decide) rfl ?_
  exact lp _ 0 (Nat.add_zero _)
set_option maxRecDepth 100000 in
set_option maxHeartbeats 4000000 in
theorem c_X7_isBehindBackup (ho : St o) (hHR : HRk hr) (h6 : InR (t 11 6)) (h7 : InR (t 11 7)) : AMet E M_X7_isBehindBackup [aR (o + 11)] (putS o hi t) hr 125 (EX (some (aI (if t 11 7 ≤ t 11 6 then 1 else 0))) (putS o hi t) hr 125) := by
  refine am_of (by decide +kernel) (Nat.le_of_ble_eq_true rfl) ?_
  refine aw_aload_n dX7_isBehindBackup_0 rfl ?_
  refine aw_getv dX7_isBehindBackup_1 ci7 (by decide) fX7_34 (by have := st_lt ho; omega) (st_sh ho 11) rfl (putS_gk o _ _ 11 7 7 rfl) ?_
  refine aw_aload_n dX7_isBehindBackup_4 rfl ?_
  refine aw_getv dX7_isBehindBackup_5 ci7 (by decide) fX7_31 (by have := st_lt ho; omega) (st_sh ho 11) rfl (putS_gk o _ _ 11 6 6 rfl) ?_
  refine aw_ic_gt (tgt := 15) dX7_isBehindBackup_8 (by decide) h7 h6 (fun h8 => ?_) (fun h8 => ?_)
  · refine aw_iconst dX7_isBehindBackup_15 ?_
    refine aw_zret dX7_isBehindBackup_16 rfl (Or.inl rfl) (by decide) (by decide) ?_
    exact exI (by rw [if_neg (by omega)])
  · refine aw_iconst dX7_isBehindBackup_11 ?_
    refine aw_goto (tgt := 16) dX7_isBehindBackup_12 (by decide) ?_
    refine aw_zret dX7_isBehindBackup_16 rfl (Or.inr rfl) (by decide) (by decide) ?_
    exact exI (by rw [if_pos (by omega)])
set_option maxRecDepth 100000 in
set_option maxHeartbeats 4000000 in
theorem c_X7_hasBegunItself (ho : St o) (hHR : HRk hr) (h6 : InR (t 11 6)) (h7 : InR (t 11 7)) : AMet E M_X7_hasBegunItself [aR (o + 11)] (putS o hi t) hr 125 (EX (some (aI (if t 11 7 < t 11 6 then 1 else 0))) (putS o hi t) hr 125) := by
  refine am_of (by decide +kernel) (Nat.le_of_ble_eq_true rfl) ?_
  refine aw_aload_n dX7_hasBegunItself_0 rfl ?_
  refine aw_getv dX7_hasBegunItself_1 ci7 (by decide) fX7_34 (by have := st_lt ho; omega) (st_sh ho 11) rfl (putS_gk o _ _ 11 7 7 rfl) ?_
  refine aw_aload_n dX7_hasBegunItself_4 rfl ?_
  refine aw_getv dX7_hasBegunItself_5 ci7 (by decide) fX7_31 (by have := st_lt ho; omega) (st_sh ho 11) rfl (putS_gk o _ _ 11 6 6 rfl) ?_
  refine aw_ic_ge (tgt := 15) dX7_hasBegunItself_8 (by decide) h7 h6 (fun h8 => ?_) (fun h8 => ?_)
  · refine aw_iconst dX7_hasBegunItself_15 ?_
    refine aw_zret dX7_hasBegunItself_16 rfl (Or.inl rfl) (by decide) (by decide) ?_
    exact exI (by rw [if_neg (by omega)])
  · refine aw_iconst dX7_hasBegunItself_11 ?_
    refine aw_goto (tgt := 16) dX7_hasBegunItself_12 (by decide) ?_
    refine aw_zret dX7_hasBegunItself_16 rfl (Or.inr rfl) (by decide) (by decide) ?_
    exact exI (by rw [if_pos (by omega)])
set_option maxRecDepth 100000 in
set_option maxHeartbeats 4000000 in
theorem c_X7_isAskedFor (ho : St o) (hHR : HRk hr) (h2 : InR (t 11 2)) : AMet E M_X7_isAskedFor [aR (o + 11)] (putS o hi t) hr 125 (EX (some (aI (if t 11 2 = 1 ∨ t 11 2 = 2 then 1 else 0))) (putS o hi t) hr 125) := by
  refine am_of (by decide +kernel) (Nat.le_of_ble_eq_true rfl) ?_
  refine aw_aload_n dX7_isAskedFor_0 rfl ?_
  refine aw_getv dX7_isAskedFor_1 ci7 (by decide) fX7_18 (by have := st_lt ho; omega) (st_sh ho 11) rfl (putS_gk o _ _ 11 2 2 rfl) ?_
  refine aw_iconst dX7_isAskedFor_4 ?_
  refine aw_ic_eq (tgt := 16) dX7_isAskedFor_5 (by decide) h2 ⟨by decide, by decide⟩ (fun h5 => ?_) (fun h5 => ?_)
  · refine aw_iconst dX7_isAskedFor_16 ?_
    refine aw_goto (tgt := 21) dX7_isAskedFor_17 (by decide) ?_
    refine aw_zret dX7_isAskedFor_21 rfl (Or.inr rfl) (by decide) (by decide) ?_
    exact exI (by rw [if_pos (by omega)])
  · refine aw_aload_n dX7_isAskedFor_8 rfl ?_
    refine aw_getv dX7_isAskedFor_9 ci7 (by decide) fX7_18 (by have := st_lt ho; omega) (st_sh ho 11) rfl (putS_gk o _ _ 11 2 2 rfl) ?_
    refine aw_iconst dX7_isAskedFor_12 ?_
    refine aw_ic_ne (tgt := 20) dX7_isAskedFor_13 (by decide) h2 ⟨by decide, by decide⟩ (fun h13 => ?_) (fun h13 => ?_)
    · refine aw_iconst dX7_isAskedFor_20 ?_
      refine aw_zret dX7_isAskedFor_21 rfl (Or.inl rfl) (by decide) (by decide) ?_
      exact exI (by rw [if_neg (by omega)])
    · refine aw_iconst dX7_isAskedFor_16 ?_
      refine aw_goto (tgt := 21) dX7_isAskedFor_17 (by decide) ?_
      refine aw_zret dX7_isAskedFor_21 rfl (Or.inr rfl) (by decide) (by decide) ?_
      exact exI (by rw [if_pos (by omega)])
set_option maxRecDepth 100000 in
set_option maxHeartbeats 4000000 in
theorem c_X4_isFull (ho : St o) (hHR : HRk hr) (h : InR (t 0 10)) : AMet E M_X4_isFull [aR o] (putS o hi t) hr 125 (EX (some (aI (if 16 ≤ t 0 10 then 1 else 0))) (putS o hi t) hr 125) := by
  refine am_of (by decide +kernel) (Nat.le_of_ble_eq_true rfl) ?_
  refine aw_aload_n dX4_isFull_0 rfl ?_
  refine aw_getv dX4_isFull_1 ci4 (by decide) fX4_80 (by have := st_lt ho; omega) (st_sh0 ho) rfl (putS_gk0 o _ _ 10 10 rfl) ?_
  refine aw_bipush dX4_isFull_4 (by decide) ?_
  refine aw_ic_lt (tgt := 13) dX4_isFull_6 (by decide) h ⟨by decide, by decide⟩ (fun h6 => ?_) (fun h6 => ?_)
  · refine aw_iconst dX4_isFull_13 ?_
    refine aw_zret dX4_isFull_14 rfl (Or.inl rfl) (by decide) (by decide) ?_
    exact exI (by rw [if_neg (by omega)])
  · refine aw_iconst dX4_isFull_9 ?_
    refine aw_goto (tgt := 14) dX4_isFull_10 (by decide) ?_
    refine aw_zret dX4_isFull_14 rfl (Or.inr rfl) (by decide) (by decide) ?_
    exact exI (by rw [if_pos (by omega)])
end CLS2
