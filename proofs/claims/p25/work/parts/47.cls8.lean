/-! the class's acts, two -/
section CLS8
variable {E : ET} {hi : HI} {hr : HR} {o : Nat} {t : TS} {s : Int → Int}
set_option maxRecDepth 100000 in
set_option maxHeartbeats 4000000 in
theorem c_X8_putAt (ho : St o) {j N : Nat} {i v : Int} (hj : j < 17) (hs : sh (o + j) = (10, N)) (hN : N ≤ 100000) (h0 : 0 ≤ i) (h1 : i < N) : AMet E M_X8_putAt [aR (o + j), aI i, aI v] (putS o hi t) hr 125 (EX none (putS o hi (ut t j i v)) hr 125) := by
  refine am_of (by decide +kernel) (Nat.le_of_ble_eq_true rfl) ?_
  have hol := st_lt ho
  refine aw_iload_n dX8_putAt_0 rfl ?_
  refine aw_if_lt (tgt := 14) dX8_putAt_1 (by decide) ⟨by omega, by omega⟩ (fun h1x => ?_) (fun h1x => ?_)
  · exact absurd h1x (by omega)
  · refine aw_iload_n dX8_putAt_4 rfl ?_
    refine aw_aload_n dX8_putAt_5 rfl ?_
    refine aw_alen dX8_putAt_6 (Or.inl ⟨by omega, hs⟩) ?_
    refine aw_ic_ge (tgt := 14) dX8_putAt_7 (by decide) ⟨by omega, by omega⟩ ⟨by omega, by omega⟩ (fun h7 => ?_) (fun h7 => ?_)
    · exact absurd h7 (by omega)
    · refine aw_aload_n dX8_putAt_10 rfl ?_
      refine aw_iload_n dX8_putAt_11 rfl ?_
      refine aw_iload_n dX8_putAt_12 rfl ?_
      refine aw_iast (N := N) dX8_putAt_13 (by omega) hs h0 h1 hN (putS_ui o hi t j v h0 hj) ?_
      refine aw_vret dX8_putAt_14 rfl (by decide) (by decide) ?_
      exact EX.rf
set_option maxRecDepth 100000 in
set_option maxHeartbeats 4000000 in
theorem c_X4_turnToOther (ho : St o) (hHR : HRk hr) (hR : RlT t s) : AMet E M_X4_turnToOther [aR o] (putS o hi t) hr 125 (QI hi hr o (chF s)) := by
  refine am_of (by decide +kernel) (Nat.le_of_ble_eq_true rfl) ?_
  obtain ⟨hR0, hT⟩ := hR
  have hR : RlT t s := ⟨hR0, hT⟩
  have hM := hR0.1.1
  have h1 := hM.2.2.2.2.2.1
  have h8 := hM.2.2.1
  have z0 := hM.z 0 (by unfold xc; omega)
  have z11 := hM.z 11 (by unfold xc; omega)
  have e6 : t 6 4 = s 11 := hR0.2.2.2.1.1
  have hp : t 0 8 = 1 - s 1 := hR0.2.2.2.2.2.2.2.1
  have hB : BIG = 1000000 := rfl
  have h2 := hM.2.1
  have ea : t 0 9 = s 2 := hR0.2.2.2.2.1.2.1
  have eb : t 11 0 = iwF s := hR0.2.2.2.2.2.1.1
  have hw := iw_b s
  have eB := ib_eq hR0.2.2.1 (b := 1 - s 2) (by omega) 16 (by omega)
  have hB1 := ibC_b t (1 - s 2) 16
  refine aw_iconst dX4_turnToOther_0 ?_
  refine aw_aload_n dX4_turnToOther_1 rfl ?_
  refine aw_getv dX4_turnToOther_2 ci4 (by decide) fX4_76 (by have := st_lt ho; omega) (st_sh0 ho) rfl ((putS_gk0 o _ _ 9 9 rfl).trans ea) ?_
  refine aw_isub dX4_turnToOther_5 ?_
  refine aw_istore_n (ls2 := [_, _]) dX4_turnToOther_6 (by decide) rfl ?_
  refine aw_aload_n dX4_turnToOther_7 rfl ?_
  refine aw_getv dX4_turnToOther_8 ci4 (by decide) fX4_52 (by have := st_lt ho; omega) (st_sh0 ho) rfl (putS_gk0 o _ _ 8 8 rfl) ?_
  refine aw_if_eq (tgt := 35) dX4_turnToOther_11 (by decide) ⟨by omega, by omega⟩ (fun h11 => ?_) (fun h11 => ?_)
  · refine aw_bipush dX4_turnToOther_35 (by decide) ?_
    refine aw_iret dX4_turnToOther_37 rfl (by decide) (by decide) ?_
    have e : chF s = (-2, s) := by unfold chF; rw [if_pos (by omega)]
    rw [e]
    exact ⟨_, rfl, rfl, rfl, rfl, t, rfl, hR⟩
  · refine aw_aload_n dX4_turnToOther_14 rfl ?_
    refine aw_getr (x := (o + 11)) dX4_turnToOther_15 ci4 (by decide) fX4_28 (by have := st_lt ho; omega) (st_sh0 ho) rfl (st_r0 ho hHR 2) ?_
    refine aw_getv dX4_turnToOther_18 ci7 (by decide) fX4_105 (by have := st_lt ho; omega) (st_sh ho 11) rfl (putS_gk o _ _ 11 0 0 rfl) ?_
    refine aw_if_ne (tgt := 35) dX4_turnToOther_21 (by decide) ⟨by omega, by omega⟩ (fun h21 => ?_) (fun h21 => ?_)
    · refine aw_bipush dX4_turnToOther_35 (by decide) ?_
      refine aw_iret dX4_turnToOther_37 rfl (by decide) (by decide) ?_
      have e : chF s = (-2, s) := by unfold chF; rw [if_pos (by omega)]
      rw [e]
      exact ⟨_, rfl, rfl, rfl, rfl, t, rfl, hR⟩
    · refine aw_aload_n dX4_turnToOther_24 rfl ?_
      refine aw_getr (x := (o + 1)) dX4_turnToOther_25 ci4 (by decide) fX4_12 (by have := st_lt ho; omega) (st_sh0 ho) rfl (st_r0 ho hHR 0) ?_
      refine aw_iload_n dX4_turnToOther_28 rfl ?_
      refine aw_V1x dX4_turnToOther_29 clX4_258 ⟨by decide, by decide⟩ (c := 0) (N := 4) (by have := st_lt ho; omega) (st_sh ho 1) rfl (c_X0_isBlankBlock ho hHR (by omega) hR0.2.1.1) (by decide) (by decide) rfl rfl (by simp only [List.length_cons, List.length_nil]; omega) ?_
      refine aw_if_ne (tgt := 38) dX4_turnToOther_32 (by decide) ⟨by omega, by omega⟩ (fun h32 => ?_) (fun h32 => ?_)
      · refine aw_aload_n dX4_turnToOther_38 rfl ?_
        refine aw_iload_n dX4_turnToOther_39 rfl ?_
        refine aw_putv dX4_turnToOther_40 ci4 (by decide) fX4_76 (by have := st_lt ho; omega) (st_sh0 ho) rfl rfl (Or.inl rfl) (putS_uk0 o _ _ 9 9 _ rfl) ?_
        refine aw_aload_n dX4_turnToOther_43 rfl ?_
        refine aw_iconst dX4_turnToOther_44 ?_
        refine aw_putv dX4_turnToOther_45 ci4 (by decide) fX4_80 (by have := st_lt ho; omega) (st_sh0 ho) rfl rfl (Or.inl rfl) (putS_uk0 o _ _ 10 10 _ rfl) ?_
        refine aw_iload_n dX4_turnToOther_48 rfl ?_
        refine aw_iret dX4_turnToOther_49 rfl (by decide) (by decide) ?_
        have e : chF s = (1 - s 2, up1 s 2 (1 - s 2)) := by unfold chF; rw [if_neg (by omega)]
        have m : MI (up1 s 2 (1 - s 2)) := hM.up ⟨fun _ => ⟨by omega, by unfold BIG; omega⟩, fun _ => by omega, fun e => by omega, fun e => by omega, fun e => by omega, fun e => by omega, fun e => by omega, fun e => by omega, fun e => by omega, fun e => by omega, fun e1 e2 => by omega, fun e => by omega, fun e => by omega⟩
        rw [e]
        exact ⟨_, rfl, rfl, rfl, rfl, _, rfl, hR0.turn (by omega) (by omega) m, by rw [ut_n _ _ (by decide), ut_n _ _ (by decide), hT]; show s 0 = up1 s 2 (1 - s 2) 0; exact (up1_n _ _ (by decide)).symm⟩
      · refine aw_bipush dX4_turnToOther_35 (by decide) ?_
        refine aw_iret dX4_turnToOther_37 rfl (by decide) (by decide) ?_
        have e : chF s = (-2, s) := by unfold chF; rw [if_pos (by omega)]
        rw [e]
        exact ⟨_, rfl, rfl, rfl, rfl, t, rfl, hR⟩
set_option maxRecDepth 100000 in
set_option maxHeartbeats 4000000 in
theorem c_X4_changeSlowness (ho : St o) (hHR : HRk hr) (hR : RlT t s) {w v : Int} (hw : InR w) (hv : InR v) : AMet E M_X4_changeSlowness [aR o, aI w, aI v] (putS o hi t) hr 125 (QI hi hr o (slF s w v)) := by
  refine am_of (by decide +kernel) (Nat.le_of_ble_eq_true rfl) ?_
  obtain ⟨hR0, hT⟩ := hR
  have hR : RlT t s := ⟨hR0, hT⟩
  have hM := hR0.1.1
  have h1 := hM.2.2.2.2.2.1
  have h8 := hM.2.2.1
  have z0 := hM.z 0 (by unfold xc; omega)
  have z11 := hM.z 11 (by unfold xc; omega)
  have e6 : t 6 4 = s 11 := hR0.2.2.2.1.1
  have hp : t 0 8 = 1 - s 1 := hR0.2.2.2.2.2.2.2.1
  have hB : BIG = 1000000 := rfl
  have hT1 := hR0.2.2.2.2.2.2.2.2.1
  have hT2 := hR0.2.2.2.2.2.2.2.2.2.1
  have hT3 := hR0.2.2.2.2.2.2.2.2.2.2
  refine aw_iload_n dX4_changeSlowness_0 rfl ?_
  refine aw_iconst dX4_changeSlowness_1 ?_
  refine aw_bipush dX4_changeSlowness_2 (by decide) ?_
  refine aw_S3x dX4_changeSlowness_4 clX4_83 ⟨by decide, by decide⟩ (c_X8_isIn hw ⟨by decide, by decide⟩ ⟨by decide, by decide⟩) (by decide) (by decide) rfl rfl (by simp only [List.length_cons, List.length_nil]; omega) ?_
  refine aw_if_eq (tgt := 19) dX4_changeSlowness_7 (by decide) in_r (fun h7 => ?_) (fun h7 => ?_)
  · refine aw_iconst dX4_changeSlowness_19 ?_
    refine aw_iret dX4_changeSlowness_20 rfl (by decide) (by decide) ?_
    rw [in0] at h7
    have e : slF s w v = (-1, s) := by unfold slF; rw [if_neg (by omega)]
    rw [e]
    exact ⟨_, rfl, rfl, rfl, rfl, t, rfl, hR⟩
  · refine aw_iload_n dX4_changeSlowness_10 rfl ?_
    refine aw_iconst dX4_changeSlowness_11 ?_
    refine aw_iconst dX4_changeSlowness_12 ?_
    refine aw_S3x dX4_changeSlowness_13 clX4_83 ⟨by decide, by decide⟩ (c_X8_isIn hv ⟨by decide, by decide⟩ ⟨by decide, by decide⟩) (by decide) (by decide) rfl rfl (by simp only [List.length_cons, List.length_nil]; omega) ?_
    refine aw_if_ne (tgt := 21) dX4_changeSlowness_16 (by decide) in_r (fun h16 => ?_) (fun h16 => ?_)
    · rw [in0, Classical.not_not] at h7 h16
      refine aw_aload_n dX4_changeSlowness_21 rfl ?_
      refine aw_getr (x := (o + 14)) dX4_changeSlowness_22 ci4 (by decide) fX4_43 (by have := st_lt ho; omega) (st_sh0 ho) rfl (st_r0 ho hHR 5) ?_
      refine aw_iload_n dX4_changeSlowness_25 rfl ?_
      refine aw_S2x dX4_changeSlowness_26 clX4_156 ⟨by decide, by decide⟩ (c_vAt ho (by decide) (st_sh ho 14) (by decide) (by omega) (by omega)) (by decide) (by decide) rfl rfl (by simp only [List.length_cons, List.length_nil]; omega) ?_
      refine aw_istore_n (ls2 := [_, _, _, _]) dX4_changeSlowness_29 (by decide) rfl ?_
      refine aw_aload_n dX4_changeSlowness_30 rfl ?_
      refine aw_getr (x := (o + 14)) dX4_changeSlowness_31 ci4 (by decide) fX4_43 (by have := st_lt ho; omega) (st_sh0 ho) rfl (st_r0 ho hHR 5) ?_
      refine aw_iload_n dX4_changeSlowness_34 rfl ?_
      refine aw_iload_n dX4_changeSlowness_35 rfl ?_
      refine aw_S3v dX4_changeSlowness_36 clX4_267 ⟨by decide, by decide⟩ (c_X8_putAt ho (by decide) (st_sh ho 14) (by decide) (by omega) (by omega)) (by decide) (by decide) rfl rfl (by simp only [List.length_cons, List.length_nil]; omega) ?_
      refine aw_iload_n dX4_changeSlowness_39 rfl ?_
      refine aw_iret dX4_changeSlowness_40 rfl (by decide) (by decide) ?_
      have e : slF s w v = (s (12 + w), up1 s (12 + w) v) := by unfold slF; rw [if_pos ⟨by omega, by omega, by omega, by omega⟩]
      rw [e]
      refine ⟨_, rfl, rfl, rfl, hT2 w (by omega) (by omega), _, rfl, ?_⟩
      show RlT (ut t 14 w v) (up1 s (12 + w) v)
      refine ⟨?_, ?_⟩
      · refine hR0.cfg (s2 := up1 s (12 + w) v) (hM.up (k := 12 + w) ⟨fun _ => ⟨by omega, by unfold BIG; omega⟩, fun e => by omega, fun e => by omega, fun e => by omega, fun e => by omega, fun e => by omega, fun e => by omega, fun e => by omega, fun e => by omega, fun e => by omega, fun e1 e2 => by omega, fun e => by omega, fun e => by omega⟩) (fun x y hx => ut_n _ _ (fun g => by omega)) (fun x x6 x7 hx => up1_n _ _ (by omega)) (fun i i0 i1 => ?_) (fun i i0 i1 => ?_) (fun i i0 i1 => ?_)
        · rw [ut_n _ _ (by simp), up1_n _ _ (by omega)]; exact hT1 i i0 i1
        · by_cases q : i = w
          · rw [q, ut_s, up1_s]
          · rw [ut_n _ _ (fun g => q g.2), up1_n _ _ (by omega)]; exact hT2 i i0 i1
        · rw [ut_n _ _ (by simp), up1_n _ _ (by omega)]; exact hT3 i i0 i1
      · rw [ut_n _ _ (by simp), hT]; exact (up1_n _ _ (by omega)).symm
    · refine aw_iconst dX4_changeSlowness_19 ?_
      refine aw_iret dX4_changeSlowness_20 rfl (by decide) (by decide) ?_
      rw [in0] at h16
      have e : slF s w v = (-1, s) := by unfold slF; rw [if_neg (by omega)]
      rw [e]
      exact ⟨_, rfl, rfl, rfl, rfl, t, rfl, hR⟩
theorem c_LE (ho : St o) (hEN : EN E) (hX : XH hi) {i : Int} (h0 : 0 ≤ i) (h1 : i < 4) : AMet E M_X8_valueAt [aR 1003, aI i] (putS o hi t) hr 125 (EX (some (aI (leF i))) (putS o hi t) hr 125) := by
  have g := c_xAt (hi := hi) (hr := hr) (t := t) ho hEN (q := 3) (N := 4) (i := i) (by decide) hEN.2.2.2.1.symm (by decide) h0 h1
  rw [hX.2.2.2.1 _ (by omega), Int.toNat_of_nonneg h0] at g
  exact g
theorem c_MO (ho : St o) (hEN : EN E) (hX : XH hi) {i : Int} (h0 : 0 ≤ i) (h1 : i < 4) : AMet E M_X8_valueAt [aR 1004, aI i] (putS o hi t) hr 125 (EX (some (aI (moF i))) (putS o hi t) hr 125) := by
  have g := c_xAt (hi := hi) (hr := hr) (t := t) ho hEN (q := 4) (N := 4) (i := i) (by decide) hEN.2.2.2.2.symm (by decide) h0 h1
  rw [hX.2.2.2.2 _ (by omega), Int.toNat_of_nonneg h0] at g
  exact g
set_option maxRecDepth 100000 in
set_option maxHeartbeats 4000000 in
theorem c_X4_changeSetting (ho : St o) (hHR : HRk hr) (hEN : EN E) (hX : XH hi) (hR : RlT t s) {w v : Int} (hw : InR w) (hv : InR v) : AMet E M_X4_changeSetting [aR o, aI w, aI v] (putS o hi t) hr 125 (QI hi hr o (seF s w v)) := by
  refine am_of (by decide +kernel) (Nat.le_of_ble_eq_true rfl) ?_
  obtain ⟨hR0, hT⟩ := hR
  have hR : RlT t s := ⟨hR0, hT⟩
  have hM := hR0.1.1
  have h1 := hM.2.2.2.2.2.1
  have h8 := hM.2.2.1
  have z0 := hM.z 0 (by unfold xc; omega)
  have z11 := hM.z 11 (by unfold xc; omega)
  have e6 : t 6 4 = s 11 := hR0.2.2.2.1.1
  have hp : t 0 8 = 1 - s 1 := hR0.2.2.2.2.2.2.2.1
  have hB : BIG = 1000000 := rfl
  have hT1 := hR0.2.2.2.2.2.2.2.2.1
  have hT2 := hR0.2.2.2.2.2.2.2.2.2.1
  have hT3 := hR0.2.2.2.2.2.2.2.2.2.2
  refine aw_iload_n dX4_changeSetting_0 rfl ?_
  refine aw_iconst dX4_changeSetting_1 ?_
  refine aw_iconst dX4_changeSetting_2 ?_
  refine aw_S3x dX4_changeSetting_3 clX4_83 ⟨by decide, by decide⟩ (c_X8_isIn hw ⟨by decide, by decide⟩ ⟨by decide, by decide⟩) (by decide) (by decide) rfl rfl (by simp only [List.length_cons, List.length_nil]; omega) ?_
  refine aw_if_eq (tgt := 30) dX4_changeSetting_6 (by decide) in_r (fun h6 => ?_) (fun h6 => ?_)
  · refine aw_iconst dX4_changeSetting_30 ?_
    refine aw_iret dX4_changeSetting_31 rfl (by decide) (by decide) ?_
    rw [in0] at h6
    have e : seF s w v = (-1, s) := by unfold seF; rw [if_neg (fun g => h6 ⟨g.1, g.2.1⟩)]
    rw [e]
    exact ⟨_, rfl, rfl, rfl, rfl, t, rfl, hR⟩
  · rw [in0, Classical.not_not] at h6
    refine aw_iload_n dX4_changeSetting_9 rfl ?_
    refine aw_gets dX4_changeSetting_10 (by decide) gsX4_271 ?_
    refine aw_iload_n dX4_changeSetting_13 rfl ?_
    refine aw_S2x dX4_changeSetting_14 clX4_156 ⟨by decide, by decide⟩ (c_LE ho hEN hX (by omega) (by omega)) (by decide) (by decide) rfl rfl (by simp only [List.length_cons, List.length_nil]; omega) ?_
    refine aw_gets dX4_changeSetting_17 (by decide) gsX4_274 ?_
    refine aw_iload_n dX4_changeSetting_20 rfl ?_
    refine aw_S2x dX4_changeSetting_21 clX4_156 ⟨by decide, by decide⟩ (c_MO ho hEN hX (by omega) (by omega)) (by decide) (by decide) rfl rfl (by simp only [List.length_cons, List.length_nil]; omega) ?_
    refine aw_S3x dX4_changeSetting_24 clX4_83 ⟨by decide, by decide⟩ (c_X8_isIn hv ⟨by unfold leF; split <;> decide, by unfold leF; split <;> decide⟩ ⟨by unfold moF; (repeat' split) <;> decide, by unfold moF; (repeat' split) <;> decide⟩) (by decide) (by decide) rfl rfl (by simp only [List.length_cons, List.length_nil]; omega) ?_
    refine aw_if_ne (tgt := 32) dX4_changeSetting_27 (by decide) in_r (fun h27 => ?_) (fun h27 => ?_)
    · rw [in0, Classical.not_not] at h27
      refine aw_aload_n dX4_changeSetting_32 rfl ?_
      refine aw_getr (x := (o + 13)) dX4_changeSetting_33 ci4 (by decide) fX4_39 (by have := st_lt ho; omega) (st_sh0 ho) rfl (st_r0 ho hHR 4) ?_
      refine aw_iload_n dX4_changeSetting_36 rfl ?_
      refine aw_S2x dX4_changeSetting_37 clX4_156 ⟨by decide, by decide⟩ (c_vAt ho (by decide) (st_sh ho 13) (by decide) (by omega) (by omega)) (by decide) (by decide) rfl rfl (by simp only [List.length_cons, List.length_nil]; omega) ?_
      refine aw_istore_n (ls2 := [_, _, _, _]) dX4_changeSetting_40 (by decide) rfl ?_
      refine aw_aload_n dX4_changeSetting_41 rfl ?_
      refine aw_getr (x := (o + 13)) dX4_changeSetting_42 ci4 (by decide) fX4_39 (by have := st_lt ho; omega) (st_sh0 ho) rfl (st_r0 ho hHR 4) ?_
      refine aw_iload_n dX4_changeSetting_45 rfl ?_
      refine aw_iload_n dX4_changeSetting_46 rfl ?_
      refine aw_S3v dX4_changeSetting_47 clX4_267 ⟨by decide, by decide⟩ (c_X8_putAt ho (by decide) (st_sh ho 13) (by decide) (by omega) (by omega)) (by decide) (by decide) rfl rfl (by simp only [List.length_cons, List.length_nil]; omega) ?_
      refine aw_iload_n dX4_changeSetting_50 rfl ?_
      refine aw_iret dX4_changeSetting_51 rfl (by decide) (by decide) ?_
      have e : seF s w v = (s (20 + w), up1 s (20 + w) v) := by unfold seF; rw [if_pos ⟨h6.1, h6.2, h27⟩]
      have hle : 0 ≤ leF w ∧ (¬ w = 2 → leF w = 1) := by unfold leF; split <;> omega
      have hmo : moF w ≤ 99 := by unfold moF; (repeat' split) <;> omega
      rw [e]
      refine ⟨_, rfl, rfl, rfl, hT1 w (by omega) (by omega), _, rfl, ?_⟩
      show RlT (ut t 13 w v) (up1 s (20 + w) v)
      refine ⟨?_, ?_⟩
      · refine hR0.cfg (s2 := up1 s (20 + w) v) (hM.up (k := 20 + w) ⟨fun _ => ⟨by omega, by unfold BIG; omega⟩, fun e => by omega, fun e => by omega, fun e => by omega, fun e => by have := hle.2 (by omega); omega, fun e => by omega, fun e => by omega, fun e => by omega, fun e => by omega, fun e => by omega, fun e1 e2 => by omega, fun e => by have := hle.2 (by omega); omega, fun e => by have := hle.2 (by omega); omega⟩) (fun x y hx => ut_n _ _ (fun g => by omega)) (fun x x6 x7 hx => up1_n _ _ (by omega)) (fun i i0 i1 => ?_) (fun i i0 i1 => ?_) (fun i i0 i1 => ?_)
        · by_cases q : i = w
          · rw [q, ut_s, up1_s]
          · rw [ut_n _ _ (fun g => q g.2), up1_n _ _ (by omega)]; exact hT1 i i0 i1
        · rw [ut_n _ _ (by simp), up1_n _ _ (by omega)]; exact hT2 i i0 i1
        · rw [ut_n _ _ (by simp), up1_n _ _ (by omega)]; exact hT3 i i0 i1
      · rw [ut_n _ _ (by simp), hT]; exact (up1_n _ _ (by omega)).symm
    · refine aw_iconst dX4_changeSetting_30 ?_
      refine aw_iret dX4_changeSetting_31 rfl (by decide) (by decide) ?_
      rw [in0] at h27
      have e : seF s w v = (-1, s) := by unfold seF; rw [if_neg (fun g => h27 g.2.2)]
      rw [e]
      exact ⟨_, rfl, rfl, rfl, rfl, t, rfl, hR⟩
set_option maxRecDepth 100000 in
set_option maxHeartbeats 4000000 in
theorem c_X4_askForCopy (ho : St o) (hHR : HRk hr) (hR0 : Rl t s) {c u : Int} (c0 : 0 ≤ c) (c1 : c < 48) (hu : 0 ≤ u ∧ u ≤ 3) : AMet E M_X4_askForCopy [aR o, aI c, aI u] (putS o hi t) hr 125 (EX none (putS o hi (acC t c u)) hr 125) := by
  refine am_of (by decide +kernel) (Nat.le_of_ble_eq_true rfl) ?_
  have hip := ipC_b t c
  refine aw_aload_n dX4_askForCopy_0 rfl ?_
  refine aw_getr (x := (o + 1)) dX4_askForCopy_1 ci4 (by decide) fX4_12 (by have := st_lt ho; omega) (st_sh0 ho) rfl (st_r0 ho hHR 0) ?_
  refine aw_iload_n dX4_askForCopy_4 rfl ?_
  refine aw_V1x dX4_askForCopy_5 clX4_252 ⟨by decide, by decide⟩ (c := 0) (N := 4) (by have := st_lt ho; omega) (st_sh ho 1) rfl (c_X0_isPlace ho hHR hR0.2.1.1 ⟨by omega, by omega⟩) (by decide) (by decide) rfl rfl (by simp only [List.length_cons, List.length_nil]; omega) ?_
  refine aw_if_eq (tgt := 43) dX4_askForCopy_8 (by decide) ⟨by omega, by omega⟩ (fun h8 => ?_) (fun h8 => ?_)
  · refine aw_vret dX4_askForCopy_43 rfl (by decide) (by decide) ?_
    have e : acC t c u = _ := if_neg (by omega)
    rw [e]
    exact EX.rf
  · refine aw_aload_n dX4_askForCopy_11 rfl ?_
    refine aw_getr (x := (o + 6)) dX4_askForCopy_12 ci4 (by decide) fX4_21 (by have := st_lt ho; omega) (st_sh0 ho) rfl (st_r0 ho hHR 1) ?_
    refine aw_aload_n dX4_askForCopy_15 rfl ?_
    refine aw_getr (x := (o + 1)) dX4_askForCopy_16 ci4 (by decide) fX4_12 (by have := st_lt ho; omega) (st_sh0 ho) rfl (st_r0 ho hHR 0) ?_
    refine aw_iload_n dX4_askForCopy_19 rfl ?_
    refine aw_V1x dX4_askForCopy_20 clX4_256 ⟨by decide, by decide⟩ (c := 0) (N := 4) (by have := st_lt ho; omega) (st_sh ho 1) rfl (c_X0_key ho hHR ⟨by omega, by omega⟩) (by decide) (by decide) rfl rfl (by simp only [List.length_cons, List.length_nil]; omega) ?_
    refine aw_aload_n dX4_askForCopy_23 rfl ?_
    refine aw_getr (x := (o + 1)) dX4_askForCopy_24 ci4 (by decide) fX4_12 (by have := st_lt ho; omega) (st_sh0 ho) rfl (st_r0 ho hHR 0) ?_
    refine aw_iload_n dX4_askForCopy_27 rfl ?_
    refine aw_V1x dX4_askForCopy_28 clX4_257 ⟨by decide, by decide⟩ (c := 0) (N := 4) (by have := st_lt ho; omega) (st_sh ho 1) rfl (c_X0_value ho hHR ⟨by omega, by omega⟩) (by decide) (by decide) rfl rfl (by simp only [List.length_cons, List.length_nil]; omega) ?_
    refine aw_iload_n dX4_askForCopy_31 rfl ?_
    refine aw_aload_n dX4_askForCopy_32 rfl ?_
    refine aw_getr (x := (o + 1)) dX4_askForCopy_33 ci4 (by decide) fX4_12 (by have := st_lt ho; omega) (st_sh0 ho) rfl (st_r0 ho hHR 0) ?_
    refine aw_iload_n dX4_askForCopy_36 rfl ?_
    refine aw_V1x dX4_askForCopy_37 clX4_149 ⟨by decide, by decide⟩ (c := 0) (N := 4) (by have := st_lt ho; omega) (st_sh ho 1) rfl (c_X0_stamp ho hHR ⟨by omega, by omega⟩) (by decide) (by decide) rfl rfl (by simp only [List.length_cons, List.length_nil]; omega) ?_
    refine aw_V4v dX4_askForCopy_40 clX4_91 ⟨by decide, by decide⟩ (c := 2) (N := 5) (by have := st_lt ho; omega) (st_sh ho 6) rfl (c_X2_add ho hHR hR0.2.1.2.1 ⟨by omega, by omega⟩) (by decide) (by decide) rfl rfl (by simp only [List.length_cons, List.length_nil]; omega) ?_
    refine aw_vret dX4_askForCopy_43 rfl (by decide) (by decide) ?_
    have e : acC t c u = _ := if_pos (by omega)
    rw [e]
    exact EX.rf
end CLS8
