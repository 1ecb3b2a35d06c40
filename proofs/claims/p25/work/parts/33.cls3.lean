/-! the class's writing -/
section CLS3
variable {E : ET} {hi : HI} {hr : HR} {o : Nat} {t : TS}
theorem c_vAt (ho : St o) {j N : Nat} {i : Int} (hj : j < 17) (hs : sh (o + j) = (10, N)) (hN : N ≤ 100000) (h0 : 0 ≤ i) (h1 : i < N) : AMet E M_X8_valueAt [aR (o + j), aI i] (putS o hi t) hr 125 (EX (some (aI (t j i))) (putS o hi t) hr 125) := by
  have g := c_X8_valueAt (E := E) (hi := putS o hi t) (hr := hr) (a := o + j) (N := N) (i := i) (Or.inl ⟨by have := st_lt ho; omega, hs⟩) hN ⟨by omega, by omega⟩
  rw [if_pos ⟨h0, h1⟩, putS_gi o hi t j h0 hj] at g
  exact g
theorem c_xAt (ho : St o) (hEN : EN E) {q N : Nat} {i : Int} (hq : q < 6) (hN : N = eN E q) (hN2 : N ≤ 100000) (h0 : 0 ≤ i) (h1 : i < N) : AMet E M_X8_valueAt [aR (1000 + q), aI i] (putS o hi t) hr 125 (EX (some (aI (hi (1000 + q) i.toNat))) (putS o hi t) hr 125) := by
  have g := c_X8_valueAt (E := E) (hi := putS o hi t) (hr := hr) (a := 1000 + q) (N := N) (i := i) (Or.inr ⟨q, hq, rfl, hN⟩) hN2 ⟨by omega, by omega⟩
  rw [if_pos ⟨h0, h1⟩, putS_out hi t _ (by have := st_lt ho; omega)] at g
  exact g
theorem c_WL (ho : St o) (hEN : EN E) (hX : XH hi) {i : Int} (h0 : 0 ≤ i) (h1 : i < 16) : AMet E M_X8_valueAt [aR 1001, aI i] (putS o hi t) hr 125 (EX (some (aI (lin i))) (putS o hi t) hr 125) := by
  have g := c_xAt (hi := hi) (hr := hr) (t := t) ho hEN (q := 1) (N := 16) (i := i) (by decide) hEN.2.1.symm (by decide) h0 h1
  rw [hX.2.1 _ (by omega), Int.toNat_of_nonneg h0] at g
  exact g
theorem c_LA (ho : St o) (hEN : EN E) (hX : XH hi) {i : Int} (h0 : 0 ≤ i) (h1 : i < 16) : AMet E M_X8_valueAt [aR 1002, aI i] (putS o hi t) hr 125 (EX (some (aI (lat i))) (putS o hi t) hr 125) := by
  have g := c_xAt (hi := hi) (hr := hr) (t := t) ho hEN (q := 2) (N := 16) (i := i) (by decide) hEN.2.2.1.symm (by decide) h0 h1
  rw [hX.2.2.1 _ (by omega), Int.toNat_of_nonneg h0] at g
  exact g
set_option maxRecDepth 100000 in
set_option maxHeartbeats 4000000 in
theorem c_X4_isOutdated (ho : St o) (hHR : HRk hr) (hC : CR t) (hQ : QR t) : AMet E M_X4_isOutdated [aR o] (putS o hi t) hr 125 (EX (some (aI (odC t))) (putS o hi t) hr 125) := by
  refine am_of (by decide +kernel) (Nat.le_of_ble_eq_true rfl) ?_
  have hu := hQ.u 0
  have hp := pcF_b hC (rkF t 0)
  have hs := hC.sp (pcF t (rkF t 0))
  have hB : BIG = 1000000 := rfl
  refine aw_aload_n dX4_isOutdated_0 rfl ?_
  refine aw_getr (x := (o + 6)) dX4_isOutdated_1 ci4 (by decide) fX4_21 (by have := st_lt ho; omega) (st_sh0 ho) rfl (st_r0 ho hHR 1) ?_
  refine aw_iconst dX4_isOutdated_4 ?_
  refine aw_V1x dX4_isOutdated_5 clX4_139 ⟨by decide, by decide⟩ (c := 2) (N := 5) (by have := st_lt ho; omega) (st_sh ho 6) rfl (c_X2_urgency ho hHR ⟨by decide, by decide⟩) (by decide) (by decide) rfl rfl (by simp only [List.length_cons, List.length_nil]; omega) ?_
  refine aw_istore_n (ls2 := [_, _, _]) dX4_isOutdated_8 (by decide) rfl ?_
  refine aw_iload_n dX4_isOutdated_9 rfl ?_
  refine aw_if_eq (tgt := 20) dX4_isOutdated_10 (by decide) ⟨by omega, by omega⟩ (fun h10 => ?_) (fun h10 => ?_)
  · refine aw_aload_n dX4_isOutdated_20 rfl ?_
    refine aw_getr (x := (o + 1)) dX4_isOutdated_21 ci4 (by decide) fX4_12 (by have := st_lt ho; omega) (st_sh0 ho) rfl (st_r0 ho hHR 0) ?_
    refine aw_aload_n dX4_isOutdated_24 rfl ?_
    refine aw_getr (x := (o + 6)) dX4_isOutdated_25 ci4 (by decide) fX4_21 (by have := st_lt ho; omega) (st_sh0 ho) rfl (st_r0 ho hHR 1) ?_
    refine aw_iconst dX4_isOutdated_28 ?_
    refine aw_V1x dX4_isOutdated_29 clX4_143 ⟨by decide, by decide⟩ (c := 2) (N := 5) (by have := st_lt ho; omega) (st_sh ho 6) rfl (c_X2_key ho hHR ⟨by decide, by decide⟩) (by decide) (by decide) rfl rfl (by simp only [List.length_cons, List.length_nil]; omega) ?_
    refine aw_V1x dX4_isOutdated_32 clX4_146 ⟨by decide, by decide⟩ (c := 0) (N := 4) (by have := st_lt ho; omega) (st_sh ho 1) rfl (c_X0_place ho hHR hC (hQ.k 0)) (by decide) (by decide) rfl rfl (by simp only [List.length_cons, List.length_nil]; omega) ?_
    refine aw_istore_n (ls2 := [_, _, _]) dX4_isOutdated_35 (by decide) rfl ?_
    refine aw_iload_n dX4_isOutdated_36 rfl ?_
    refine aw_iconst dX4_isOutdated_37 ?_
    refine aw_ic_eq (tgt := 60) dX4_isOutdated_38 (by decide) ⟨by omega, by omega⟩ ⟨by decide, by decide⟩ (fun h38 => ?_) (fun h38 => ?_)
    · refine aw_iconst dX4_isOutdated_60 ?_
      refine aw_goto (tgt := 65) dX4_isOutdated_61 (by decide) ?_
      refine aw_zret dX4_isOutdated_65 rfl (Or.inr rfl) (by decide) (by decide) ?_
      exact exI (by unfold odC; rw [if_neg (by omega), if_pos (by omega)])
    · refine aw_aload_n dX4_isOutdated_41 rfl ?_
      refine aw_getr (x := (o + 1)) dX4_isOutdated_42 ci4 (by decide) fX4_12 (by have := st_lt ho; omega) (st_sh0 ho) rfl (st_r0 ho hHR 0) ?_
      refine aw_iload_n dX4_isOutdated_45 rfl ?_
      refine aw_V1x dX4_isOutdated_46 clX4_149 ⟨by decide, by decide⟩ (c := 0) (N := 4) (by have := st_lt ho; omega) (st_sh ho 1) rfl (c_X0_stamp ho hHR ⟨by omega, by omega⟩) (by decide) (by decide) rfl rfl (by simp only [List.length_cons, List.length_nil]; omega) ?_
      refine aw_aload_n dX4_isOutdated_49 rfl ?_
      refine aw_getr (x := (o + 6)) dX4_isOutdated_50 ci4 (by decide) fX4_21 (by have := st_lt ho; omega) (st_sh0 ho) rfl (st_r0 ho hHR 1) ?_
      refine aw_iconst dX4_isOutdated_53 ?_
      refine aw_V1x dX4_isOutdated_54 clX4_152 ⟨by decide, by decide⟩ (c := 2) (N := 5) (by have := st_lt ho; omega) (st_sh ho 6) rfl (c_X2_stamp ho hHR ⟨by decide, by decide⟩) (by decide) (by decide) rfl rfl (by simp only [List.length_cons, List.length_nil]; omega) ?_
      refine aw_ic_eq (tgt := 64) dX4_isOutdated_57 (by decide) ⟨by omega, by omega⟩ (hQ.s 0) (fun h57 => ?_) (fun h57 => ?_)
      · refine aw_iconst dX4_isOutdated_64 ?_
        refine aw_zret dX4_isOutdated_65 rfl (Or.inl rfl) (by decide) (by decide) ?_
        exact exI (by unfold odC; rw [if_neg (by omega), if_neg (by omega)])
      · refine aw_iconst dX4_isOutdated_60 ?_
        refine aw_goto (tgt := 65) dX4_isOutdated_61 (by decide) ?_
        refine aw_zret dX4_isOutdated_65 rfl (Or.inr rfl) (by decide) (by decide) ?_
        exact exI (by unfold odC; rw [if_neg (by omega), if_pos (by omega)])
  · refine aw_iload_n dX4_isOutdated_13 rfl ?_
    refine aw_iconst dX4_isOutdated_14 ?_
    refine aw_ic_eq (tgt := 20) dX4_isOutdated_15 (by decide) ⟨by omega, by omega⟩ ⟨by decide, by decide⟩ (fun h15 => ?_) (fun h15 => ?_)
    · refine aw_aload_n dX4_isOutdated_20 rfl ?_
      refine aw_getr (x := (o + 1)) dX4_isOutdated_21 ci4 (by decide) fX4_12 (by have := st_lt ho; omega) (st_sh0 ho) rfl (st_r0 ho hHR 0) ?_
      refine aw_aload_n dX4_isOutdated_24 rfl ?_
      refine aw_getr (x := (o + 6)) dX4_isOutdated_25 ci4 (by decide) fX4_21 (by have := st_lt ho; omega) (st_sh0 ho) rfl (st_r0 ho hHR 1) ?_
      refine aw_iconst dX4_isOutdated_28 ?_
      refine aw_V1x dX4_isOutdated_29 clX4_143 ⟨by decide, by decide⟩ (c := 2) (N := 5) (by have := st_lt ho; omega) (st_sh ho 6) rfl (c_X2_key ho hHR ⟨by decide, by decide⟩) (by decide) (by decide) rfl rfl (by simp only [List.length_cons, List.length_nil]; omega) ?_
      refine aw_V1x dX4_isOutdated_32 clX4_146 ⟨by decide, by decide⟩ (c := 0) (N := 4) (by have := st_lt ho; omega) (st_sh ho 1) rfl (c_X0_place ho hHR hC (hQ.k 0)) (by decide) (by decide) rfl rfl (by simp only [List.length_cons, List.length_nil]; omega) ?_
      refine aw_istore_n (ls2 := [_, _, _]) dX4_isOutdated_35 (by decide) rfl ?_
      refine aw_iload_n dX4_isOutdated_36 rfl ?_
      refine aw_iconst dX4_isOutdated_37 ?_
      refine aw_ic_eq (tgt := 60) dX4_isOutdated_38 (by decide) ⟨by omega, by omega⟩ ⟨by decide, by decide⟩ (fun h38 => ?_) (fun h38 => ?_)
      · refine aw_iconst dX4_isOutdated_60 ?_
        refine aw_goto (tgt := 65) dX4_isOutdated_61 (by decide) ?_
        refine aw_zret dX4_isOutdated_65 rfl (Or.inr rfl) (by decide) (by decide) ?_
        exact exI (by unfold odC; rw [if_neg (by omega), if_pos (by omega)])
      · refine aw_aload_n dX4_isOutdated_41 rfl ?_
        refine aw_getr (x := (o + 1)) dX4_isOutdated_42 ci4 (by decide) fX4_12 (by have := st_lt ho; omega) (st_sh0 ho) rfl (st_r0 ho hHR 0) ?_
        refine aw_iload_n dX4_isOutdated_45 rfl ?_
        refine aw_V1x dX4_isOutdated_46 clX4_149 ⟨by decide, by decide⟩ (c := 0) (N := 4) (by have := st_lt ho; omega) (st_sh ho 1) rfl (c_X0_stamp ho hHR ⟨by omega, by omega⟩) (by decide) (by decide) rfl rfl (by simp only [List.length_cons, List.length_nil]; omega) ?_
        refine aw_aload_n dX4_isOutdated_49 rfl ?_
        refine aw_getr (x := (o + 6)) dX4_isOutdated_50 ci4 (by decide) fX4_21 (by have := st_lt ho; omega) (st_sh0 ho) rfl (st_r0 ho hHR 1) ?_
        refine aw_iconst dX4_isOutdated_53 ?_
        refine aw_V1x dX4_isOutdated_54 clX4_152 ⟨by decide, by decide⟩ (c := 2) (N := 5) (by have := st_lt ho; omega) (st_sh ho 6) rfl (c_X2_stamp ho hHR ⟨by decide, by decide⟩) (by decide) (by decide) rfl rfl (by simp only [List.length_cons, List.length_nil]; omega) ?_
        refine aw_ic_eq (tgt := 64) dX4_isOutdated_57 (by decide) ⟨by omega, by omega⟩ (hQ.s 0) (fun h57 => ?_) (fun h57 => ?_)
        · refine aw_iconst dX4_isOutdated_64 ?_
          refine aw_zret dX4_isOutdated_65 rfl (Or.inl rfl) (by decide) (by decide) ?_
          exact exI (by unfold odC; rw [if_neg (by omega), if_neg (by omega)])
        · refine aw_iconst dX4_isOutdated_60 ?_
          refine aw_goto (tgt := 65) dX4_isOutdated_61 (by decide) ?_
          refine aw_zret dX4_isOutdated_65 rfl (Or.inr rfl) (by decide) (by decide) ?_
          exact exI (by unfold odC; rw [if_neg (by omega), if_pos (by omega)])
    · refine aw_iconst dX4_isOutdated_18 ?_
      refine aw_zret dX4_isOutdated_19 rfl (Or.inl rfl) (by decide) (by decide) ?_
      exact exI (by unfold odC; rw [if_pos ⟨by omega, by omega⟩])
set_option maxRecDepth 100000 in
set_option maxHeartbeats 4000000 in
theorem c_X4_finishWriting (ho : St o) (hHR : HRk hr) (hW : WR t) : AMet E M_X4_finishWriting [aR o] (putS o hi t) hr 125 (EX none (putS o hi (fnC t)) hr 125) := by
  refine am_of (by decide +kernel) (Nat.le_of_ble_eq_true rfl) ?_
  have i3 : InR (fn0 t 11 3) := by unfold fn0; rw [ut_n _ _ (by decide)]; exact hW.1 3 (by decide) (by decide)
  have i1 : InR (fn1 t 11 1) := by rw [fn1_n _ _ (by decide) (by decide)]; exact hW.1 1 (by decide) (by decide)
  have i5 : InR (fn1 t 11 5) := by rw [fn1_n _ _ (by decide) (by decide)]; exact hW.1 5 (by decide) (by decide)
  have i2 : InR (fn3 t 11 2) := by rw [fn3_n _ _ (by decide) (by decide)]; exact hW.1 2 (by decide) (by decide)
  have J : AW E M_X4_finishWriting 0 0 48 [some (aR o)] [] (putS o hi (fn3 t)) hr 125 (EX none (putS o hi (fnC t)) hr 125) := by
    refine aw_aload_n dX4_finishWriting_48 rfl ?_
    refine aw_getr (x := (o + 11)) dX4_finishWriting_49 ci4 (by decide) fX4_28 (by have := st_lt ho; omega) (st_sh0 ho) rfl (st_r0 ho hHR 2) ?_
    refine aw_V0x dX4_finishWriting_52 clX4_217 ⟨by decide, by decide⟩ (c := 7) (N := 8) (by have := st_lt ho; omega) (st_sh ho 11) rfl (c_X7_isAskedFor ho hHR i2) (by decide) (by decide) rfl rfl (by simp only [List.length_cons, List.length_nil]; omega) ?_
    refine aw_if_eq (tgt := 71) dX4_finishWriting_55 (by decide) in_r (fun h55 => ?_) (fun h55 => ?_)
    · refine aw_vret dX4_finishWriting_71 rfl (by decide) (by decide) ?_
      rw [in0] at h55
      have e : fnC t = _ := if_neg h55
      rw [e]
      exact EX.rf
    · refine aw_aload_n dX4_finishWriting_58 rfl ?_
      refine aw_getr (x := (o + 12)) dX4_finishWriting_59 ci4 (by decide) fX4_35 (by have := st_lt ho; omega) (st_sh0 ho) rfl (st_r0 ho hHR 3) ?_
      refine aw_dup dX4_finishWriting_62 ?_
      refine aw_getv dX4_finishWriting_63 ci5 (by decide) fX4_98 (by have := st_lt ho; omega) (st_sh ho 12) rfl (putS_gk o _ _ 12 2 2 rfl) ?_
      refine aw_iconst dX4_finishWriting_66 ?_
      refine aw_iadd dX4_finishWriting_67 ?_
      refine aw_putv dX4_finishWriting_68 ci5 (by decide) fX4_98 (by have := st_lt ho; omega) (st_sh ho 12) rfl rfl (Or.inl rfl) (putS_uk o _ _ 12 2 2 _ rfl) ?_
      refine aw_vret dX4_finishWriting_71 rfl (by decide) (by decide) ?_
      rw [in0, Classical.not_not] at h55
      have e : fnC t = _ := if_pos h55
      rw [e]
      exact EX.rf
  refine aw_aload_n dX4_finishWriting_0 rfl ?_
  refine aw_getr (x := (o + 11)) dX4_finishWriting_1 ci4 (by decide) fX4_28 (by have := st_lt ho; omega) (st_sh0 ho) rfl (st_r0 ho hHR 2) ?_
  refine aw_iconst dX4_finishWriting_4 ?_
  refine aw_putv dX4_finishWriting_5 ci7 (by decide) fX4_105 (by have := st_lt ho; omega) (st_sh ho 11) rfl rfl (Or.inr ⟨rfl, Or.inl rfl⟩) (putS_uk o _ _ 11 0 0 _ rfl) ?_
  change AW E _ _ _ _ _ _ (putS o hi (fn0 t)) hr 125 _
  refine aw_aload_n dX4_finishWriting_8 rfl ?_
  refine aw_getr (x := (o + 1)) dX4_finishWriting_9 ci4 (by decide) fX4_12 (by have := st_lt ho; omega) (st_sh0 ho) rfl (st_r0 ho hHR 0) ?_
  refine aw_aload_n dX4_finishWriting_12 rfl ?_
  refine aw_getr (x := (o + 11)) dX4_finishWriting_13 ci4 (by decide) fX4_28 (by have := st_lt ho; omega) (st_sh0 ho) rfl (st_r0 ho hHR 2) ?_
  refine aw_getv dX4_finishWriting_16 ci7 (by decide) fX4_171 (by have := st_lt ho; omega) (st_sh ho 11) rfl (putS_gk o _ _ 11 3 3 rfl) ?_
  refine aw_iconst dX4_finishWriting_19 ?_
  refine aw_V2v dX4_finishWriting_20 clX4_208 ⟨by decide, by decide⟩ (c := 0) (N := 4) (by have := st_lt ho; omega) (st_sh ho 1) rfl (c_X0_mark ho hHR i3) (by decide) (by decide) rfl rfl (by simp only [List.length_cons, List.length_nil]; omega) ?_
  change AW E _ _ _ _ _ _ (putS o hi (fn1 t)) hr 125 _
  refine aw_aload_n dX4_finishWriting_23 rfl ?_
  refine aw_getr (x := (o + 11)) dX4_finishWriting_24 ci4 (by decide) fX4_28 (by have := st_lt ho; omega) (st_sh0 ho) rfl (st_r0 ho hHR 2) ?_
  refine aw_getv dX4_finishWriting_27 ci7 (by decide) fX4_163 (by have := st_lt ho; omega) (st_sh ho 11) rfl (putS_gk o _ _ 11 1 1 rfl) ?_
  refine aw_if_eq (tgt := 48) dX4_finishWriting_30 (by decide) i1 (fun h30 => ?_) (fun h30 => ?_)
  · have e : fn3 t = _ := if_pos h30
    rw [e] at J
    exact J
  · refine aw_aload_n dX4_finishWriting_33 rfl ?_
    refine aw_getr (x := (o + 1)) dX4_finishWriting_34 ci4 (by decide) fX4_12 (by have := st_lt ho; omega) (st_sh0 ho) rfl (st_r0 ho hHR 0) ?_
    refine aw_aload_n dX4_finishWriting_37 rfl ?_
    refine aw_getr (x := (o + 11)) dX4_finishWriting_38 ci4 (by decide) fX4_28 (by have := st_lt ho; omega) (st_sh0 ho) rfl (st_r0 ho hHR 2) ?_
    refine aw_getv dX4_finishWriting_41 ci7 (by decide) fX4_180 (by have := st_lt ho; omega) (st_sh ho 11) rfl (putS_gk o _ _ 11 5 5 rfl) ?_
    refine aw_iconst dX4_finishWriting_44 ?_
    refine aw_V2v dX4_finishWriting_45 clX4_208 ⟨by decide, by decide⟩ (c := 0) (N := 4) (by have := st_lt ho; omega) (st_sh ho 1) rfl (c_X0_mark ho hHR i5) (by decide) (by decide) rfl rfl (by simp only [List.length_cons, List.length_nil]; omega) ?_
    have e : fn3 t = _ := if_neg h30
    rw [e] at J
    exact J
set_option maxRecDepth 100000 in
set_option maxHeartbeats 4000000 in
theorem c_X4_goOn (ho : St o) (hHR : HRk hr) (hC : CR t) (hW : WR t) {k : Int} (hk : InR (t 11 7 - k)) : AMet E M_X4_goOn [aR o, aI k] (putS o hi t) hr 125 (EX none (putS o hi (gnC t k)) hr 125) := by
  refine am_of (by decide +kernel) (Nat.le_of_ble_eq_true rfl) ?_
  have i5 : InR (gn1 t k 11 5) := by rw [gn1_n _ _ _ (by decide)]; exact hW.1 5 (by decide) (by decide)
  have i6 : InR (gn1 t k 11 6) := by rw [gn1_n _ _ _ (by decide)]; exact hW.1 6 (by decide) (by decide)
  have i7 : InR (gn1 t k 11 7) := by have e : gn1 t k 11 7 = t 11 7 - k := ut_s _ _ _ _; rw [e]; exact hk
  have hC1 : CR (gn1 t k) := by
    intro c h0 h1
    rw [gn1_n _ _ _ (by simp), gn1_n _ _ _ (by simp), gn1_n _ _ _ (by simp), gn1_n _ _ _ (by simp)]
    exact hC c h0 h1
  have hkd := hC1.kd (gn1 t k 11 5)
  have w4 : WR (gn4 t k) := by
    refine ⟨fun j h0 h1 => ?_, ?_, ?_⟩
    · by_cases e : j = 7
      · rw [e, gn4_7]; exact hk
      · rw [gn4_n _ _ _ (by decide) (by simp) (fun g => e g.2)]; exact hW.1 j h0 h1
    · rw [gn4_n _ _ _ (by decide) (by simp) (by simp)]; exact hW.2.1
    · rw [gn4_n _ _ _ (by decide) (by simp) (by simp), gn4_n _ _ _ (by decide) (by simp) (by simp)]; exact hW.2.2
  have i74 : InR (gn4 t k 11 7) := w4.1 7 (by decide) (by decide)
  have J : AW E M_X4_goOn 0 0 69 [some (aR o), some (aI k)] [] (putS o hi (gn4 t k)) hr 125 (EX none (putS o hi (gnC t k)) hr 125) := by
    refine aw_aload_n dX4_goOn_69 rfl ?_
    refine aw_getr (x := (o + 11)) dX4_goOn_70 ci4 (by decide) fX4_28 (by have := st_lt ho; omega) (st_sh0 ho) rfl (st_r0 ho hHR 2) ?_
    refine aw_getv dX4_goOn_73 ci7 (by decide) fX4_111 (by have := st_lt ho; omega) (st_sh ho 11) rfl (putS_gk o _ _ 11 7 7 rfl) ?_
    refine aw_if_gt (tgt := 83) dX4_goOn_76 (by decide) i74 (fun h76 => ?_) (fun h76 => ?_)
    · refine aw_vret dX4_goOn_83 rfl (by decide) (by decide) ?_
      have e : gnC t k = _ := if_neg (by omega)
      rw [e]
      exact EX.rf
    · refine aw_aload_n dX4_goOn_79 rfl ?_
      refine aw_V0v dX4_goOn_80 clX4_214 ⟨by decide, by decide⟩ (c := 4) (N := 11) (by have := st_lt ho; omega) (st_sh0 ho) rfl (c_X4_finishWriting ho hHR w4) (by decide) (by decide) rfl rfl (by simp only [List.length_cons, List.length_nil]; omega) ?_
      refine aw_vret dX4_goOn_83 rfl (by decide) (by decide) ?_
      have e : gnC t k = _ := if_pos (by omega)
      rw [e]
      exact EX.rf
  refine aw_aload_n dX4_goOn_0 rfl ?_
  refine aw_getr (x := (o + 11)) dX4_goOn_1 ci4 (by decide) fX4_28 (by have := st_lt ho; omega) (st_sh0 ho) rfl (st_r0 ho hHR 2) ?_
  refine aw_dup dX4_goOn_4 ?_
  refine aw_getv dX4_goOn_5 ci7 (by decide) fX4_111 (by have := st_lt ho; omega) (st_sh ho 11) rfl (putS_gk o _ _ 11 7 7 rfl) ?_
  refine aw_iload_n dX4_goOn_8 rfl ?_
  refine aw_isub dX4_goOn_9 ?_
  refine aw_putv dX4_goOn_10 ci7 (by decide) fX4_111 (by have := st_lt ho; omega) (st_sh ho 11) rfl rfl (Or.inl rfl) (putS_uk o _ _ 11 7 7 _ rfl) ?_
  change AW E _ _ _ _ _ _ (putS o hi (gn1 t k)) hr 125 _
  refine aw_aload_n dX4_goOn_13 rfl ?_
  refine aw_getr (x := (o + 1)) dX4_goOn_14 ci4 (by decide) fX4_12 (by have := st_lt ho; omega) (st_sh0 ho) rfl (st_r0 ho hHR 0) ?_
  refine aw_aload_n dX4_goOn_17 rfl ?_
  refine aw_getr (x := (o + 11)) dX4_goOn_18 ci4 (by decide) fX4_28 (by have := st_lt ho; omega) (st_sh0 ho) rfl (st_r0 ho hHR 2) ?_
  refine aw_getv dX4_goOn_21 ci7 (by decide) fX4_180 (by have := st_lt ho; omega) (st_sh ho 11) rfl (putS_gk o _ _ 11 5 5 rfl) ?_
  refine aw_V1x dX4_goOn_24 clX4_198 ⟨by decide, by decide⟩ (c := 0) (N := 4) (by have := st_lt ho; omega) (st_sh ho 1) rfl (c_X0_kind ho hHR i5) (by decide) (by decide) rfl rfl (by simp only [List.length_cons, List.length_nil]; omega) ?_
  refine aw_iconst dX4_goOn_27 ?_
  refine aw_ic_ne (tgt := 69) dX4_goOn_28 (by decide) ⟨by omega, by omega⟩ ⟨by decide, by decide⟩ (fun h28 => ?_) (fun h28 => ?_)
  · have e : gn4 t k = _ := if_neg (by omega)
    rw [e] at J
    exact J
  · refine aw_aload_n dX4_goOn_31 rfl ?_
    refine aw_getr (x := (o + 11)) dX4_goOn_32 ci4 (by decide) fX4_28 (by have := st_lt ho; omega) (st_sh0 ho) rfl (st_r0 ho hHR 2) ?_
    refine aw_V0x dX4_goOn_35 clX4_205 ⟨by decide, by decide⟩ (c := 7) (N := 8) (by have := st_lt ho; omega) (st_sh ho 11) rfl (c_X7_isBehindBackup ho hHR i6 i7) (by decide) (by decide) rfl rfl (by simp only [List.length_cons, List.length_nil]; omega) ?_
    refine aw_if_eq (tgt := 69) dX4_goOn_38 (by decide) in_r (fun h38 => ?_) (fun h38 => ?_)
    · rw [in0] at h38
      have e : gn4 t k = _ := if_neg (by omega)
      rw [e] at J
      exact J
    · refine aw_aload_n dX4_goOn_41 rfl ?_
      refine aw_getr (x := (o + 1)) dX4_goOn_42 ci4 (by decide) fX4_12 (by have := st_lt ho; omega) (st_sh0 ho) rfl (st_r0 ho hHR 0) ?_
      refine aw_aload_n dX4_goOn_45 rfl ?_
      refine aw_getr (x := (o + 11)) dX4_goOn_46 ci4 (by decide) fX4_28 (by have := st_lt ho; omega) (st_sh0 ho) rfl (st_r0 ho hHR 2) ?_
      refine aw_getv dX4_goOn_49 ci7 (by decide) fX4_180 (by have := st_lt ho; omega) (st_sh ho 11) rfl (putS_gk o _ _ 11 5 5 rfl) ?_
      refine aw_iconst dX4_goOn_52 ?_
      refine aw_V2v dX4_goOn_53 clX4_208 ⟨by decide, by decide⟩ (c := 0) (N := 4) (by have := st_lt ho; omega) (st_sh ho 1) rfl (c_X0_mark ho hHR i5) (by decide) (by decide) rfl rfl (by simp only [List.length_cons, List.length_nil]; omega) ?_
      refine aw_aload_n dX4_goOn_56 rfl ?_
      refine aw_getr (x := (o + 12)) dX4_goOn_57 ci4 (by decide) fX4_35 (by have := st_lt ho; omega) (st_sh0 ho) rfl (st_r0 ho hHR 3) ?_
      refine aw_dup dX4_goOn_60 ?_
      refine aw_getv dX4_goOn_61 ci5 (by decide) fX4_211 (by have := st_lt ho; omega) (st_sh ho 12) rfl (putS_gk o _ _ 12 6 6 rfl) ?_
      refine aw_iconst dX4_goOn_64 ?_
      refine aw_iadd dX4_goOn_65 ?_
      refine aw_putv dX4_goOn_66 ci5 (by decide) fX4_211 (by have := st_lt ho; omega) (st_sh ho 12) rfl rfl (Or.inl rfl) (putS_uk o _ _ 12 6 6 _ rfl) ?_
      rw [in0, Classical.not_not] at h38
      have e : gn4 t k = _ := if_pos ⟨h28, h38⟩
      rw [e] at J
      exact J
set_option maxRecDepth 100000 in
set_option maxHeartbeats 4000000 in
theorem c_X4_tearWriting (ho : St o) (hHR : HRk hr) (hC : CR t) (hW : WR t) : AMet E M_X4_tearWriting [aR o] (putS o hi t) hr 125 (EX none (putS o hi (trC t)) hr 125) := by
  refine am_of (by decide +kernel) (Nat.le_of_ble_eq_true rfl) ?_
  have i3 : InR (fn0 t 11 3) := by unfold fn0; rw [ut_n _ _ (by decide)]; exact hW.1 3 (by decide) (by decide)
  have i1 : InR (tr1 t 11 1) := by rw [tr1_n _ _ (by decide) (by decide)]; exact hW.1 1 (by decide) (by decide)
  have i4 : InR (tr1 t 11 4) := by rw [tr1_n _ _ (by decide) (by decide)]; exact hW.1 4 (by decide) (by decide)
  have i6 : InR (tr1 t 11 6) := by rw [tr1_n _ _ (by decide) (by decide)]; exact hW.1 6 (by decide) (by decide)
  have i7 : InR (tr1 t 11 7) := by rw [tr1_n _ _ (by decide) (by decide)]; exact hW.1 7 (by decide) (by decide)
  have i5 : InR (tr2 t 11 5) := by rw [tr2_n _ _ (by decide) (by decide)]; exact hW.1 5 (by decide) (by decide)
  have hkd := (tr2_CR hC).kd (tr2 t 11 5)
  have J : AW E M_X4_tearWriting 0 0 58 [some (aR o)] [] (putS o hi (tr2 t)) hr 125 (EX none (putS o hi (trC t)) hr 125) := by
    refine aw_aload_n dX4_tearWriting_58 rfl ?_
    refine aw_getr (x := (o + 1)) dX4_tearWriting_59 ci4 (by decide) fX4_12 (by have := st_lt ho; omega) (st_sh0 ho) rfl (st_r0 ho hHR 0) ?_
    refine aw_aload_n dX4_tearWriting_62 rfl ?_
    refine aw_getr (x := (o + 11)) dX4_tearWriting_63 ci4 (by decide) fX4_28 (by have := st_lt ho; omega) (st_sh0 ho) rfl (st_r0 ho hHR 2) ?_
    refine aw_getv dX4_tearWriting_66 ci7 (by decide) fX4_180 (by have := st_lt ho; omega) (st_sh ho 11) rfl (putS_gk o _ _ 11 5 5 rfl) ?_
    refine aw_V1x dX4_tearWriting_69 clX4_198 ⟨by decide, by decide⟩ (c := 0) (N := 4) (by have := st_lt ho; omega) (st_sh ho 1) rfl (c_X0_kind ho hHR i5) (by decide) (by decide) rfl rfl (by simp only [List.length_cons, List.length_nil]; omega) ?_
    refine aw_iconst dX4_tearWriting_72 ?_
    refine aw_ic_ne (tgt := 91) dX4_tearWriting_73 (by decide) ⟨by omega, by omega⟩ ⟨by decide, by decide⟩ (fun h73 => ?_) (fun h73 => ?_)
    · refine aw_vret dX4_tearWriting_91 rfl (by decide) (by decide) ?_
      have e : trC t = _ := if_neg h73
      rw [e]
      exact EX.rf
    · refine aw_aload_n dX4_tearWriting_76 rfl ?_
      refine aw_getr (x := (o + 1)) dX4_tearWriting_77 ci4 (by decide) fX4_12 (by have := st_lt ho; omega) (st_sh0 ho) rfl (st_r0 ho hHR 0) ?_
      refine aw_aload_n dX4_tearWriting_80 rfl ?_
      refine aw_getr (x := (o + 11)) dX4_tearWriting_81 ci4 (by decide) fX4_28 (by have := st_lt ho; omega) (st_sh0 ho) rfl (st_r0 ho hHR 2) ?_
      refine aw_getv dX4_tearWriting_84 ci7 (by decide) fX4_180 (by have := st_lt ho; omega) (st_sh ho 11) rfl (putS_gk o _ _ 11 5 5 rfl) ?_
      refine aw_iconst dX4_tearWriting_87 ?_
      refine aw_V2v dX4_tearWriting_88 clX4_208 ⟨by decide, by decide⟩ (c := 0) (N := 4) (by have := st_lt ho; omega) (st_sh ho 1) rfl (c_X0_mark ho hHR i5) (by decide) (by decide) rfl rfl (by simp only [List.length_cons, List.length_nil]; omega) ?_
      refine aw_vret dX4_tearWriting_91 rfl (by decide) (by decide) ?_
      have e : trC t = _ := if_pos h73
      rw [e]
      exact EX.rf
  refine aw_aload_n dX4_tearWriting_0 rfl ?_
  refine aw_getr (x := (o + 11)) dX4_tearWriting_1 ci4 (by decide) fX4_28 (by have := st_lt ho; omega) (st_sh0 ho) rfl (st_r0 ho hHR 2) ?_
  refine aw_iconst dX4_tearWriting_4 ?_
  refine aw_putv dX4_tearWriting_5 ci7 (by decide) fX4_105 (by have := st_lt ho; omega) (st_sh ho 11) rfl rfl (Or.inr ⟨rfl, Or.inl rfl⟩) (putS_uk o _ _ 11 0 0 _ rfl) ?_
  change AW E _ _ _ _ _ _ (putS o hi (fn0 t)) hr 125 _
  refine aw_aload_n dX4_tearWriting_8 rfl ?_
  refine aw_getr (x := (o + 1)) dX4_tearWriting_9 ci4 (by decide) fX4_12 (by have := st_lt ho; omega) (st_sh0 ho) rfl (st_r0 ho hHR 0) ?_
  refine aw_aload_n dX4_tearWriting_12 rfl ?_
  refine aw_getr (x := (o + 11)) dX4_tearWriting_13 ci4 (by decide) fX4_28 (by have := st_lt ho; omega) (st_sh0 ho) rfl (st_r0 ho hHR 2) ?_
  refine aw_getv dX4_tearWriting_16 ci7 (by decide) fX4_171 (by have := st_lt ho; omega) (st_sh ho 11) rfl (putS_gk o _ _ 11 3 3 rfl) ?_
  refine aw_iconst dX4_tearWriting_19 ?_
  refine aw_V2v dX4_tearWriting_20 clX4_208 ⟨by decide, by decide⟩ (c := 0) (N := 4) (by have := st_lt ho; omega) (st_sh ho 1) rfl (c_X0_mark ho hHR i3) (by decide) (by decide) rfl rfl (by simp only [List.length_cons, List.length_nil]; omega) ?_
  change AW E _ _ _ _ _ _ (putS o hi (tr1 t)) hr 125 _
  refine aw_aload_n dX4_tearWriting_23 rfl ?_
  refine aw_getr (x := (o + 11)) dX4_tearWriting_24 ci4 (by decide) fX4_28 (by have := st_lt ho; omega) (st_sh0 ho) rfl (st_r0 ho hHR 2) ?_
  refine aw_getv dX4_tearWriting_27 ci7 (by decide) fX4_163 (by have := st_lt ho; omega) (st_sh ho 11) rfl (putS_gk o _ _ 11 1 1 rfl) ?_
  refine aw_if_eq (tgt := 58) dX4_tearWriting_30 (by decide) i1 (fun h30 => ?_) (fun h30 => ?_)
  · have e : tr2 t = _ := if_neg (by omega)
    rw [e] at J
    exact J
  · refine aw_aload_n dX4_tearWriting_33 rfl ?_
    refine aw_getr (x := (o + 11)) dX4_tearWriting_34 ci4 (by decide) fX4_28 (by have := st_lt ho; omega) (st_sh0 ho) rfl (st_r0 ho hHR 2) ?_
    refine aw_V0x dX4_tearWriting_37 clX4_246 ⟨by decide, by decide⟩ (c := 7) (N := 8) (by have := st_lt ho; omega) (st_sh ho 11) rfl (c_X7_hasBegunItself ho hHR i6 i7) (by decide) (by decide) rfl rfl (by simp only [List.length_cons, List.length_nil]; omega) ?_
    refine aw_if_eq (tgt := 58) dX4_tearWriting_40 (by decide) in_r (fun h40 => ?_) (fun h40 => ?_)
    · rw [in0] at h40
      have e : tr2 t = _ := if_neg (by omega)
      rw [e] at J
      exact J
    · refine aw_aload_n dX4_tearWriting_43 rfl ?_
      refine aw_getr (x := (o + 1)) dX4_tearWriting_44 ci4 (by decide) fX4_12 (by have := st_lt ho; omega) (st_sh0 ho) rfl (st_r0 ho hHR 0) ?_
      refine aw_aload_n dX4_tearWriting_47 rfl ?_
      refine aw_getr (x := (o + 11)) dX4_tearWriting_48 ci4 (by decide) fX4_28 (by have := st_lt ho; omega) (st_sh0 ho) rfl (st_r0 ho hHR 2) ?_
      refine aw_getv dX4_tearWriting_51 ci7 (by decide) fX4_177 (by have := st_lt ho; omega) (st_sh ho 11) rfl (putS_gk o _ _ 11 4 4 rfl) ?_
      refine aw_iconst dX4_tearWriting_54 ?_
      refine aw_V2v dX4_tearWriting_55 clX4_208 ⟨by decide, by decide⟩ (c := 0) (N := 4) (by have := st_lt ho; omega) (st_sh ho 1) rfl (c_X0_mark ho hHR i4) (by decide) (by decide) rfl rfl (by simp only [List.length_cons, List.length_nil]; omega) ?_
      rw [in0, Classical.not_not] at h40
      have e : tr2 t = _ := if_pos ⟨h30, h40⟩
      rw [e] at J
      exact J
end CLS3
