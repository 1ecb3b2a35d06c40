/-! the class's acts, one -/
section CLS7
variable {E : ET} {hi : HI} {hr : HR} {o : Nat} {t : TS} {s : Int → Int}
def RlT (t : TS) (s : Int → Int) : Prop := Rl t s ∧ t 12 0 = s 0
/-- an answer, and what a State comes to -/
abbrev QI (hi : HI) (hr : HR) (o : Nat) (q : Int × (Int → Int)) : QT := PI (fun v h r2 n2 => r2 = hr ∧ n2 = 125 ∧ v = q.1 ∧ ∃ t2 : TS, h = putS o hi t2 ∧ RlT t2 q.2)
def asG (s : Int → Int) (key val u : Int) : Int × (Int → Int) :=
  if ¬ (0 ≤ key ∧ key ≤ 11) ∨ ¬ (0 ≤ val ∧ val ≤ 999) then (-1, s) else if s 1 = 1 then (-2, s) else if s 11 = 8 then (-3, s) else (cmF s key val u 0 11, cmF s key val u 0)
set_option maxRecDepth 100000 in
set_option maxHeartbeats 4000000 in
theorem c_X4_askFor (ho : St o) (hHR : HRk hr) (hR : RlT t s) {key val u : Int} (hk : InR key) (hv : InR val) (hu : u = 1 ∨ u = 2) : AMet E M_X4_askFor [aR o, aI key, aI val, aI u] (putS o hi t) hr 125 (QI hi hr o (asG s key val u)) := by
  refine am_of (by decide +kernel) (Nat.le_of_ble_eq_true rfl) ?_
  obtain ⟨hR0, hT⟩ := hR
  have hR : RlT t s := ⟨hR0, hT⟩
  have hM := hR0.1.1
  have h1 := hM.2.2.2.2.2.1
  have h8 := hM.2.2.1
  have z0 := hM.z 0 (by unfold xc; omega)
  have z11 := hM.z 11 (by unfold xc; omega)
  have e6 : t 6 4 = s 11 := hR0.2.2.2.1.1
  have hp : t 0 8 = 1 - s 1 := hR0.2.2.2.2.2.2.2.1
  have hB : BIG = 1000000 := rfl
  refine aw_iload_n dX4_askFor_0 rfl ?_
  refine aw_iconst dX4_askFor_1 ?_
  refine aw_bipush dX4_askFor_2 (by decide) ?_
  refine aw_S3x dX4_askFor_4 clX4_83 ⟨by decide, by decide⟩ (c_X8_isIn hk ⟨by decide, by decide⟩ ⟨by decide, by decide⟩) (by decide) (by decide) rfl rfl (by simp only [List.length_cons, List.length_nil]; omega) ?_
  refine aw_if_eq (tgt := 21) dX4_askFor_7 (by decide) in_r (fun h7 => ?_) (fun h7 => ?_)
  · refine aw_iconst dX4_askFor_21 ?_
    refine aw_iret dX4_askFor_22 rfl (by decide) (by decide) ?_
    rw [in0] at h7
    have e : asG s key val u = (-1, s) := by unfold asG; rw [if_pos (by omega)]
    rw [e]
    exact ⟨_, rfl, rfl, rfl, rfl, t, rfl, hR⟩
  · refine aw_iload_n dX4_askFor_10 rfl ?_
    refine aw_iconst dX4_askFor_11 ?_
    refine aw_sipush dX4_askFor_12 (by decide) ?_
    refine aw_S3x dX4_askFor_15 clX4_83 ⟨by decide, by decide⟩ (c_X8_isIn hv ⟨by decide, by decide⟩ ⟨by decide, by decide⟩) (by decide) (by decide) rfl rfl (by simp only [List.length_cons, List.length_nil]; omega) ?_
    refine aw_if_ne (tgt := 23) dX4_askFor_18 (by decide) in_r (fun h18 => ?_) (fun h18 => ?_)
    · refine aw_aload_n dX4_askFor_23 rfl ?_
      refine aw_getv dX4_askFor_24 ci4 (by decide) fX4_52 (by have := st_lt ho; omega) (st_sh0 ho) rfl (putS_gk0 o _ _ 8 8 rfl) ?_
      refine aw_if_ne (tgt := 33) dX4_askFor_27 (by decide) ⟨by omega, by omega⟩ (fun h27 => ?_) (fun h27 => ?_)
      · refine aw_aload_n dX4_askFor_33 rfl ?_
        refine aw_getr (x := (o + 6)) dX4_askFor_34 ci4 (by decide) fX4_21 (by have := st_lt ho; omega) (st_sh0 ho) rfl (st_r0 ho hHR 1) ?_
        refine aw_V0x dX4_askFor_37 clX4_87 ⟨by decide, by decide⟩ (c := 2) (N := 5) (by have := st_lt ho; omega) (st_sh ho 6) rfl (c_X2_size ho hHR) (by decide) (by decide) rfl rfl (by simp only [List.length_cons, List.length_nil]; omega) ?_
        refine aw_bipush dX4_askFor_40 (by decide) ?_
        refine aw_ic_lt (tgt := 48) dX4_askFor_42 (by decide) ⟨by omega, by omega⟩ ⟨by decide, by decide⟩ (fun h42 => ?_) (fun h42 => ?_)
        · rw [in0, Classical.not_not] at h7 h18
          have ha := hR0.add (k := key) (v := val) (u := u) (st := 0) (by omega) (by omega) (by omega) (by omega) (by omega) (by omega)
          have ht : adC t key val u 0 12 0 = cmF s key val u 0 0 := by rw [adC_n _ _ _ _ _ _ (by decide), cmF_x hM (by omega) _ _ _ _ (by decide) (by decide)]; exact hT
          refine aw_aload_n dX4_askFor_48 rfl ?_
          refine aw_getr (x := (o + 6)) dX4_askFor_49 ci4 (by decide) fX4_21 (by have := st_lt ho; omega) (st_sh0 ho) rfl (st_r0 ho hHR 1) ?_
          refine aw_iload_n dX4_askFor_52 rfl ?_
          refine aw_iload_n dX4_askFor_53 rfl ?_
          refine aw_iload_n dX4_askFor_54 rfl ?_
          refine aw_iconst dX4_askFor_55 ?_
          refine aw_V4v dX4_askFor_56 clX4_91 ⟨by decide, by decide⟩ (c := 2) (N := 5) (by have := st_lt ho; omega) (st_sh ho 6) rfl (c_X2_add ho hHR hR0.2.1.2.1 ⟨by omega, by omega⟩) (by decide) (by decide) rfl rfl (by simp only [List.length_cons, List.length_nil]; omega) ?_
          refine aw_aload_n dX4_askFor_59 rfl ?_
          refine aw_getr (x := (o + 6)) dX4_askFor_60 ci4 (by decide) fX4_21 (by have := st_lt ho; omega) (st_sh0 ho) rfl (st_r0 ho hHR 1) ?_
          refine aw_V0x dX4_askFor_63 clX4_87 ⟨by decide, by decide⟩ (c := 2) (N := 5) (by have := st_lt ho; omega) (st_sh ho 6) rfl (c_X2_size ho hHR) (by decide) (by decide) rfl rfl (by simp only [List.length_cons, List.length_nil]; omega) ?_
          refine aw_iret dX4_askFor_66 rfl (by decide) (by decide) ?_
          have e : asG s key val u = (cmF s key val u 0 11, cmF s key val u 0) := by unfold asG; rw [if_neg (by omega), if_neg (by omega), if_neg (by omega)]
          rw [e]
          exact ⟨_, rfl, rfl, rfl, ha.2.2.2.1.1, _, rfl, ha, ht⟩
        · refine aw_bipush dX4_askFor_45 (by decide) ?_
          refine aw_iret dX4_askFor_47 rfl (by decide) (by decide) ?_
          rw [in0, Classical.not_not] at h7 h18
          have e : asG s key val u = (-3, s) := by unfold asG; rw [if_neg (by omega), if_neg (by omega), if_pos (by omega)]
          rw [e]
          exact ⟨_, rfl, rfl, rfl, rfl, t, rfl, hR⟩
      · refine aw_bipush dX4_askFor_30 (by decide) ?_
        refine aw_iret dX4_askFor_32 rfl (by decide) (by decide) ?_
        rw [in0, Classical.not_not] at h7 h18
        have e : asG s key val u = (-2, s) := by unfold asG; rw [if_neg (by omega), if_pos (by omega)]
        rw [e]
        exact ⟨_, rfl, rfl, rfl, rfl, t, rfl, hR⟩
    · refine aw_iconst dX4_askFor_21 ?_
      refine aw_iret dX4_askFor_22 rfl (by decide) (by decide) ?_
      rw [in0] at h18
      have e : asG s key val u = (-1, s) := by unfold asG; rw [if_pos (by omega)]
      rw [e]
      exact ⟨_, rfl, rfl, rfl, rfl, t, rfl, hR⟩
set_option maxRecDepth 100000 in
set_option maxHeartbeats 4000000 in
theorem c_X4_letTicks (ho : St o) (hHR : HRk hr) (hEN : EN E) (hX : XH hi) (hR : RlT t s) (h9 : s 0 ≤ 9000) {many : Int} (hk : InR many) : AMet E M_X4_letTicks [aR o, aI many] (putS o hi t) hr 125 (QI hi hr o (ltF s many)) := by
  refine am_of (by decide +kernel) (Nat.le_of_ble_eq_true rfl) ?_
  obtain ⟨hR0, hT⟩ := hR
  have hR : RlT t s := ⟨hR0, hT⟩
  have hM := hR0.1.1
  have h1 := hM.2.2.2.2.2.1
  have h8 := hM.2.2.1
  have z0 := hM.z 0 (by unfold xc; omega)
  have z11 := hM.z 11 (by unfold xc; omega)
  have e6 : t 6 4 = s 11 := hR0.2.2.2.1.1
  have hp : t 0 8 = 1 - s 1 := hR0.2.2.2.2.2.2.2.1
  have hB : BIG = 1000000 := rfl
  refine aw_iload_n dX4_letTicks_0 rfl ?_
  refine aw_iconst dX4_letTicks_1 ?_
  refine aw_sipush dX4_letTicks_2 (by decide) ?_
  refine aw_S3x dX4_letTicks_5 clX4_83 ⟨by decide, by decide⟩ (c_X8_isIn hk ⟨by decide, by decide⟩ ⟨by decide, by decide⟩) (by decide) (by decide) rfl rfl (by simp only [List.length_cons, List.length_nil]; omega) ?_
  refine aw_if_ne (tgt := 13) dX4_letTicks_8 (by decide) in_r (fun h8 => ?_) (fun h8 => ?_)
  · refine aw_aload_n dX4_letTicks_13 rfl ?_
    refine aw_getv dX4_letTicks_14 ci4 (by decide) fX4_52 (by have := st_lt ho; omega) (st_sh0 ho) rfl (putS_gk0 o _ _ 8 8 rfl) ?_
    refine aw_if_ne (tgt := 23) dX4_letTicks_17 (by decide) ⟨by omega, by omega⟩ (fun h17 => ?_) (fun h17 => ?_)
    · rw [in0, Classical.not_not] at h8
      refine aw_aload_n dX4_letTicks_23 rfl ?_
      refine aw_getr (x := (o + 12)) dX4_letTicks_24 ci4 (by decide) fX4_35 (by have := st_lt ho; omega) (st_sh0 ho) rfl (st_r0 ho hHR 3) ?_
      refine aw_getv dX4_letTicks_27 ci5 (by decide) fX4_95 (by have := st_lt ho; omega) (st_sh ho 12) rfl (putS_gk o _ _ 12 0 0 rfl) ?_
      refine aw_iload_n dX4_letTicks_30 rfl ?_
      refine aw_iadd dX4_letTicks_31 ?_
      refine aw_sipush dX4_letTicks_32 (by decide) ?_
      refine aw_ic_le (tgt := 41) dX4_letTicks_35 (by decide) ⟨by omega, by omega⟩ ⟨by decide, by decide⟩ (fun h35 => ?_) (fun h35 => ?_)
      · refine aw_aload_n dX4_letTicks_41 rfl ?_
        refine aw_getr (x := (o + 12)) dX4_letTicks_42 ci4 (by decide) fX4_35 (by have := st_lt ho; omega) (st_sh0 ho) rfl (st_r0 ho hHR 3) ?_
        refine aw_getv dX4_letTicks_45 ci5 (by decide) fX4_98 (by have := st_lt ho; omega) (st_sh ho 12) rfl (putS_gk o _ _ 12 2 2 rfl) ?_
        refine aw_istore_n (ls2 := [_, _, _]) dX4_letTicks_48 (by decide) rfl ?_
        refine aw_aload_n dX4_letTicks_49 rfl ?_
        refine aw_iload_n dX4_letTicks_50 rfl ?_
        refine aw_V1w dX4_letTicks_51 clX4_101 ⟨by decide, by decide⟩ (c := 4) (N := 11) (by have := st_lt ho; omega) (st_sh0 ho) rfl (by have g := c_X4_pass (m := many.toNat) ho hHR hEN hX hR0 hT (by omega); rw [Int.toNat_of_nonneg (show 0 ≤ many by omega)] at g; exact g) (by decide) (by decide) rfl rfl (by simp only [List.length_cons, List.length_nil]; omega) (fun h2 r2 n2 q => ?_)
        obtain ⟨rfl, rfl, t2, rfl, g1, g2⟩ := q
        refine aw_aload_n dX4_letTicks_54 rfl ?_
        refine aw_getr (x := (o + 12)) dX4_letTicks_55 ci4 (by decide) fX4_35 (by have := st_lt ho; omega) (st_sh0 ho) rfl (st_r0 ho hHR 3) ?_
        refine aw_getv dX4_letTicks_58 ci5 (by decide) fX4_98 (by have := st_lt ho; omega) (st_sh ho 12) rfl (putS_gk o _ _ 12 2 2 rfl) ?_
        refine aw_iload_n dX4_letTicks_61 rfl ?_
        refine aw_isub dX4_letTicks_62 ?_
        refine aw_iret dX4_letTicks_63 rfl (by decide) (by decide) ?_
        have e : ltF s many = (goA s many.toNat 3 - s 3, goA s many.toNat) := by unfold ltF; rw [if_neg (fun g => g h8), if_neg (by omega), if_neg (by omega)]
        rw [e]
        refine ⟨_, rfl, rfl, rfl, ?_, t2, rfl, g1, ?_⟩
        · rw [g1.2.2.2.2.2.2.1.2.1, hR0.2.2.2.2.2.2.1.2.1]
        · rw [g2]
          show s 0 + many = goA s many.toNat 0
          rw [(goA_M hM many.toNat (by omega)).2]; omega
      · refine aw_bipush dX4_letTicks_38 (by decide) ?_
        refine aw_iret dX4_letTicks_40 rfl (by decide) (by decide) ?_
        have e : ltF s many = (-3, s) := by unfold ltF; rw [if_neg (fun g => g h8), if_neg (by omega), if_pos (by omega)]
        rw [e]
        exact ⟨_, rfl, rfl, rfl, rfl, t, rfl, hR⟩
    · refine aw_bipush dX4_letTicks_20 (by decide) ?_
      refine aw_iret dX4_letTicks_22 rfl (by decide) (by decide) ?_
      rw [in0, Classical.not_not] at h8
      have e : ltF s many = (-2, s) := by unfold ltF; rw [if_neg (fun g => g h8), if_pos (by omega)]
      rw [e]
      exact ⟨_, rfl, rfl, rfl, rfl, t, rfl, hR⟩
  · refine aw_iconst dX4_letTicks_11 ?_
    refine aw_iret dX4_letTicks_12 rfl (by decide) (by decide) ?_
    rw [in0] at h8
    have e : ltF s many = (-1, s) := by unfold ltF; rw [if_pos h8]
    rw [e]
    exact ⟨_, rfl, rfl, rfl, rfl, t, rfl, hR⟩
end CLS7
