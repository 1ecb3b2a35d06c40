/-! the class's numbers -/
section CLSE
variable {E : ET} {hi : HI} {hr : HR} {o : Nat} {t : TS} {s : Int → Int}
def soF (s : Int → Int) (w : Int) : Int := if 20 ≤ w ∧ w ≤ 23 then s (20 + w - 20) else if 30 ≤ w ∧ w ≤ 37 then s (12 + w - 30) else -1
set_option maxRecDepth 100000 in
set_option maxHeartbeats 4000000 in
theorem c_X4_settingOrSlowness (ho : St o) (hHR : HRk hr) (hR0 : Rl t s) {w : Int} (hw : InR w) : AMet E M_X4_settingOrSlowness [aR o, aI w] (putS o hi t) hr 125 (EX (some (aI (soF s w))) (putS o hi t) hr 125) := by
  refine am_of (by decide +kernel) (Nat.le_of_ble_eq_true rfl) ?_
  have hT1 := hR0.2.2.2.2.2.2.2.2.1
  have hT2 := hR0.2.2.2.2.2.2.2.2.2.1
  have hT3 := hR0.2.2.2.2.2.2.2.2.2.2
  refine aw_iload_n dX4_settingOrSlowness_0 rfl ?_
  refine aw_bipush dX4_settingOrSlowness_1 (by decide) ?_
  refine aw_bipush dX4_settingOrSlowness_3 (by decide) ?_
  refine aw_S3x dX4_settingOrSlowness_5 clX4_83 ⟨by decide, by decide⟩ (c_X8_isIn hw ⟨by decide, by decide⟩ ⟨by decide, by decide⟩) (by decide) (by decide) rfl rfl (by simp only [List.length_cons, List.length_nil]; omega) ?_
  refine aw_if_eq (tgt := 23) dX4_settingOrSlowness_8 (by decide) in_r (fun h8 => ?_) (fun h8 => ?_)
  · refine aw_iload_n dX4_settingOrSlowness_23 rfl ?_
    refine aw_bipush dX4_settingOrSlowness_24 (by decide) ?_
    refine aw_bipush dX4_settingOrSlowness_26 (by decide) ?_
    refine aw_S3x dX4_settingOrSlowness_28 clX4_83 ⟨by decide, by decide⟩ (c_X8_isIn hw ⟨by decide, by decide⟩ ⟨by decide, by decide⟩) (by decide) (by decide) rfl rfl (by simp only [List.length_cons, List.length_nil]; omega) ?_
    refine aw_if_eq (tgt := 46) dX4_settingOrSlowness_31 (by decide) in_r (fun h31 => ?_) (fun h31 => ?_)
    · refine aw_iconst dX4_settingOrSlowness_46 ?_
      refine aw_iret dX4_settingOrSlowness_47 rfl (by decide) (by decide) ?_
      rw [in0] at h8 h31
      exact exI (by unfold soF; rw [if_neg h8, if_neg h31])
    · rw [in0, Classical.not_not] at h31
      refine aw_aload_n dX4_settingOrSlowness_34 rfl ?_
      refine aw_getr (x := (o + 14)) dX4_settingOrSlowness_35 ci4 (by decide) fX4_43 (by have := st_lt ho; omega) (st_sh0 ho) rfl (st_r0 ho hHR 5) ?_
      refine aw_iload_n dX4_settingOrSlowness_38 rfl ?_
      refine aw_bipush dX4_settingOrSlowness_39 (by decide) ?_
      refine aw_isub dX4_settingOrSlowness_41 ?_
      refine aw_S2x dX4_settingOrSlowness_42 clX4_156 ⟨by decide, by decide⟩ (c_vAtv ho (show t 14 (w - 30) = s (12 + w - 30) by rw [hT2 _ (by omega) (by omega), show 12 + (w - 30) = 12 + w - 30 by omega]) (by decide) (st_sh ho 14) (by decide) (by omega) (by omega)) (by decide) (by decide) rfl rfl (by simp only [List.length_cons, List.length_nil]; omega) ?_
      refine aw_iret dX4_settingOrSlowness_45 rfl (by decide) (by decide) ?_
      rw [in0] at h8
      exact exI (by unfold soF; rw [if_neg h8, if_pos h31])
  · rw [in0, Classical.not_not] at h8
    refine aw_aload_n dX4_settingOrSlowness_11 rfl ?_
    refine aw_getr (x := (o + 13)) dX4_settingOrSlowness_12 ci4 (by decide) fX4_39 (by have := st_lt ho; omega) (st_sh0 ho) rfl (st_r0 ho hHR 4) ?_
    refine aw_iload_n dX4_settingOrSlowness_15 rfl ?_
    refine aw_bipush dX4_settingOrSlowness_16 (by decide) ?_
    refine aw_isub dX4_settingOrSlowness_18 ?_
    refine aw_S2x dX4_settingOrSlowness_19 clX4_156 ⟨by decide, by decide⟩ (c_vAtv ho (show t 13 (w - 20) = s (20 + w - 20) by rw [hT1 _ (by omega) (by omega), show 20 + (w - 20) = 20 + w - 20 by omega]) (by decide) (st_sh ho 13) (by decide) (by omega) (by omega)) (by decide) (by decide) rfl rfl (by simp only [List.length_cons, List.length_nil]; omega) ?_
    refine aw_iret dX4_settingOrSlowness_22 rfl (by decide) (by decide) ?_
    exact exI (by unfold soF; rw [if_pos h8])
set_option maxRecDepth 100000 in
set_option maxHeartbeats 4000000 in
theorem c_X4_numberOf (ho : St o) (hHR : HRk hr) (hR : RlT t s) (hBK : BK s) {w n len : Int} (hw : InR w) (h16 : ¬ w = 16) (h17 : ¬ w = 17) : AMet E M_X4_numberOf [aR o, aI w] (putS o hi t) hr 125 (EX (some (aI (cnF s n len w))) (putS o hi t) hr 125) := by
  refine am_of (by decide +kernel) (Nat.le_of_ble_eq_true rfl) ?_
  obtain ⟨hR0, hT⟩ := hR
  have hR : RlT t s := ⟨hR0, hT⟩
  have hM := hR0.1.1
  have h1 := hM.2.2.2.2.2.1
  have h8 := hM.2.2.1
  have z0 := hM.z 0 (by unfold xc; omega)
  have z11 := hM.z 11 (by unfold xc; omega)
  have e6 : t 6 4 = s 11 := hR0.2.2.2.1.1
  have hp : t 0 8 = 1 - s 1 := hR0.2.2.2.2.2.2.2.1
  have hB : BIG = 1000000 := rfl
  have hT1 := hR0.2.2.2.2.2.2.2.2.1
  have hT2 := hR0.2.2.2.2.2.2.2.2.2.1
  have hT3 := hR0.2.2.2.2.2.2.2.2.2.2
  have hC := hR0.2.2.1
  have hCR := hR0.2.1.1
  have hW := hR0.2.2.2.2.2.1
  have eb := hW.1
  have hw2 := iw_b s
  have ea : t 0 9 = s 2 := hR0.2.2.2.2.1.2.1
  have en := nx_eq hC hR0.2.2.2.2.1 hM.2.1
  obtain ⟨-, c7, c8, c9, c14, c15⟩ := hR0.2.2.2.2.2.2.1
  have hB3 : ∀ c : Int, 0 ≤ c → c < 48 → 16 ≤ c % 24 → ¬ t 2 c = 3 := fun c c0 c1 c2 => by rw [(hC c c0 c1).1]; exact hBK c c0 c1 c2
  refine aw_iload_n dX4_numberOf_0 rfl ?_
  by_cases hd : 0 ≤ w ∧ w ≤ 15
  · rcases (show w = 0 ∨ w = 1 ∨ w = 2 ∨ w = 3 ∨ w = 4 ∨ w = 5 ∨ w = 6 ∨ w = 7 ∨ w = 8 ∨ w = 9 ∨ w = 10 ∨ w = 11 ∨ w = 12 ∨ w = 13 ∨ w = 14 ∨ w = 15 by omega) with rfl | rfl | rfl | rfl | rfl | rfl | rfl | rfl | rfl | rfl | rfl | rfl | rfl | rfl | rfl | rfl
    · refine aw_tab (tgt := 80) (off := 79) dX4_numberOf_1 ⟨by decide, by decide⟩ (by decide) (by decide) (by decide +kernel) (by decide) ?_
      refine aw_aload_n dX4_numberOf_80 rfl ?_
      refine aw_getr (x := (o + 12)) dX4_numberOf_81 ci4 (by decide) fX4_35 (by have := st_lt ho; omega) (st_sh0 ho) rfl (st_r0 ho hHR 3) ?_
      refine aw_getv dX4_numberOf_84 ci5 (by decide) fX4_95 (by have := st_lt ho; omega) (st_sh ho 12) rfl (putS_gk o _ _ 12 0 0 rfl) ?_
      refine aw_iret dX4_numberOf_87 rfl (by decide) (by decide) ?_
      exact exI (by unfold cnF ctF; rw [if_pos (by decide), if_pos (by decide)]; exact hT)
    · refine aw_tab (tgt := 88) (off := 87) dX4_numberOf_1 ⟨by decide, by decide⟩ (by decide) (by decide) (by decide +kernel) (by decide) ?_
      refine aw_aload_n dX4_numberOf_88 rfl ?_
      refine aw_getv dX4_numberOf_89 ci4 (by decide) fX4_52 (by have := st_lt ho; omega) (st_sh0 ho) rfl (putS_gk0 o _ _ 8 8 rfl) ?_
      refine aw_if_eq (tgt := 99) dX4_numberOf_92 (by decide) ⟨by omega, by omega⟩ (fun h92 => ?_) (fun h92 => ?_)
      · refine aw_iconst dX4_numberOf_99 ?_
        refine aw_iret dX4_numberOf_100 rfl (by decide) (by decide) ?_
        exact exI (by unfold cnF ctF; rw [if_pos (by decide), if_neg (by decide), if_pos (by decide)]; omega)
      · refine aw_iconst dX4_numberOf_95 ?_
        refine aw_goto (tgt := 100) dX4_numberOf_96 (by decide) ?_
        refine aw_iret dX4_numberOf_100 rfl (by decide) (by decide) ?_
        exact exI (by unfold cnF ctF; rw [if_pos (by decide), if_neg (by decide), if_pos (by decide)]; omega)
    · refine aw_tab (tgt := 101) (off := 100) dX4_numberOf_1 ⟨by decide, by decide⟩ (by decide) (by decide) (by decide +kernel) (by decide) ?_
      refine aw_aload_n dX4_numberOf_101 rfl ?_
      refine aw_getv dX4_numberOf_102 ci4 (by decide) fX4_76 (by have := st_lt ho; omega) (st_sh0 ho) rfl (putS_gk0 o _ _ 9 9 rfl) ?_
      refine aw_iret dX4_numberOf_105 rfl (by decide) (by decide) ?_
      exact exI (by unfold cnF ctF; rw [if_pos (by decide), if_pos (by decide)]; exact ea)
    · refine aw_tab (tgt := 106) (off := 105) dX4_numberOf_1 ⟨by decide, by decide⟩ (by decide) (by decide) (by decide +kernel) (by decide) ?_
      refine aw_aload_n dX4_numberOf_106 rfl ?_
      refine aw_getv dX4_numberOf_107 ci4 (by decide) fX4_80 (by have := st_lt ho; omega) (st_sh0 ho) rfl (putS_gk0 o _ _ 10 10 rfl) ?_
      refine aw_iret dX4_numberOf_110 rfl (by decide) (by decide) ?_
      exact exI (by unfold cnF ctF; rw [if_pos (by decide), if_neg (by decide), if_neg (by decide), if_pos (by decide)]; exact en.symm)
    · refine aw_tab (tgt := 111) (off := 110) dX4_numberOf_1 ⟨by decide, by decide⟩ (by decide) (by decide) (by decide +kernel) (by decide) ?_
      refine aw_aload_n dX4_numberOf_111 rfl ?_
      refine aw_getr (x := (o + 6)) dX4_numberOf_112 ci4 (by decide) fX4_21 (by have := st_lt ho; omega) (st_sh0 ho) rfl (st_r0 ho hHR 1) ?_
      refine aw_V0x dX4_numberOf_115 clX4_87 ⟨by decide, by decide⟩ (c := 2) (N := 5) (by have := st_lt ho; omega) (st_sh ho 6) rfl (c_X2_size ho hHR) (by decide) (by decide) rfl rfl (by simp only [List.length_cons, List.length_nil]; omega) ?_
      refine aw_iret dX4_numberOf_118 rfl (by decide) (by decide) ?_
      exact exI (by unfold cnF ctF; rw [if_pos (by decide), if_neg (by decide), if_neg (by decide), if_neg (by decide), if_pos (by decide)]; exact e6)
    · refine aw_tab (tgt := 119) (off := 118) dX4_numberOf_1 ⟨by decide, by decide⟩ (by decide) (by decide) (by decide +kernel) (by decide) ?_
      refine aw_aload_n dX4_numberOf_119 rfl ?_
      refine aw_getr (x := (o + 11)) dX4_numberOf_120 ci4 (by decide) fX4_28 (by have := st_lt ho; omega) (st_sh0 ho) rfl (st_r0 ho hHR 2) ?_
      refine aw_getv dX4_numberOf_123 ci7 (by decide) fX4_105 (by have := st_lt ho; omega) (st_sh ho 11) rfl (putS_gk o _ _ 11 0 0 rfl) ?_
      refine aw_if_eq (tgt := 133) dX4_numberOf_126 (by decide) ⟨by omega, by omega⟩ (fun h126 => ?_) (fun h126 => ?_)
      · refine aw_iconst dX4_numberOf_133 ?_
        refine aw_iret dX4_numberOf_134 rfl (by decide) (by decide) ?_
        exact exI (by unfold cnF ctF; rw [if_pos (by decide), if_neg (by decide), if_neg (by decide), if_neg (by decide), if_neg (by decide), if_pos (by decide)]; omega)
      · refine aw_iconst dX4_numberOf_129 ?_
        refine aw_goto (tgt := 134) dX4_numberOf_130 (by decide) ?_
        refine aw_iret dX4_numberOf_134 rfl (by decide) (by decide) ?_
        exact exI (by unfold cnF ctF; rw [if_pos (by decide), if_neg (by decide), if_neg (by decide), if_neg (by decide), if_neg (by decide), if_pos (by decide)]; omega)
    · refine aw_tab (tgt := 135) (off := 134) dX4_numberOf_1 ⟨by decide, by decide⟩ (by decide) (by decide) (by decide +kernel) (by decide) ?_
      refine aw_aload_n dX4_numberOf_135 rfl ?_
      refine aw_getr (x := (o + 11)) dX4_numberOf_136 ci4 (by decide) fX4_28 (by have := st_lt ho; omega) (st_sh0 ho) rfl (st_r0 ho hHR 2) ?_
      refine aw_getv dX4_numberOf_139 ci7 (by decide) fX4_105 (by have := st_lt ho; omega) (st_sh ho 11) rfl (putS_gk o _ _ 11 0 0 rfl) ?_
      refine aw_if_eq (tgt := 155) dX4_numberOf_142 (by decide) ⟨by omega, by omega⟩ (fun h142 => ?_) (fun h142 => ?_)
      · refine aw_bipush dX4_numberOf_155 (by decide) ?_
        refine aw_iret dX4_numberOf_157 rfl (by decide) (by decide) ?_
        exact exI (by unfold cnF ctF; rw [if_pos (by decide), if_neg (by decide), if_neg (by decide), if_neg (by decide), if_neg (by decide), if_neg (by decide), if_pos (by decide), if_neg (by omega)])
      · refine aw_aload_n dX4_numberOf_145 rfl ?_
        refine aw_getr (x := (o + 11)) dX4_numberOf_146 ci4 (by decide) fX4_28 (by have := st_lt ho; omega) (st_sh0 ho) rfl (st_r0 ho hHR 2) ?_
        refine aw_getv dX4_numberOf_149 ci7 (by decide) fX4_111 (by have := st_lt ho; omega) (st_sh ho 11) rfl (putS_gk o _ _ 11 7 7 rfl) ?_
        refine aw_goto (tgt := 157) dX4_numberOf_152 (by decide) ?_
        refine aw_iret dX4_numberOf_157 rfl (by decide) (by decide) ?_
        have e7 := (hW.2.1 (by omega)).2.2.2.2.2.1
        exact exI (by rw [e7]; unfold cnF ctF; rw [if_pos (by decide), if_neg (by decide), if_neg (by decide), if_neg (by decide), if_neg (by decide), if_neg (by decide), if_pos (by decide), if_pos (by omega)])
    · refine aw_tab (tgt := 158) (off := 157) dX4_numberOf_1 ⟨by decide, by decide⟩ (by decide) (by decide) (by decide +kernel) (by decide) ?_
      refine aw_aload_n dX4_numberOf_158 rfl ?_
      refine aw_getr (x := (o + 12)) dX4_numberOf_159 ci4 (by decide) fX4_35 (by have := st_lt ho; omega) (st_sh0 ho) rfl (st_r0 ho hHR 3) ?_
      refine aw_getv dX4_numberOf_162 ci5 (by decide) fX4_98 (by have := st_lt ho; omega) (st_sh ho 12) rfl (putS_gk o _ _ 12 2 2 rfl) ?_
      refine aw_iret dX4_numberOf_165 rfl (by decide) (by decide) ?_
      exact exI (by unfold cnF ctF; rw [if_pos (by decide), if_neg (by decide), if_neg (by decide), if_neg (by decide), if_neg (by decide), if_neg (by decide), if_neg (by decide), if_pos (by decide)]; exact c7)
    · refine aw_tab (tgt := 166) (off := 165) dX4_numberOf_1 ⟨by decide, by decide⟩ (by decide) (by decide) (by decide +kernel) (by decide) ?_
      refine aw_aload_n dX4_numberOf_166 rfl ?_
      refine aw_getr (x := (o + 12)) dX4_numberOf_167 ci4 (by decide) fX4_35 (by have := st_lt ho; omega) (st_sh0 ho) rfl (st_r0 ho hHR 3) ?_
      refine aw_getv dX4_numberOf_170 ci5 (by decide) fX4_234 (by have := st_lt ho; omega) (st_sh ho 12) rfl (putS_gk o _ _ 12 3 3 rfl) ?_
      refine aw_iret dX4_numberOf_173 rfl (by decide) (by decide) ?_
      exact exI (by unfold cnF ctF; rw [if_pos (by decide), if_neg (by decide), if_neg (by decide), if_neg (by decide), if_neg (by decide), if_neg (by decide), if_neg (by decide), if_pos (by decide)]; exact c8)
    · refine aw_tab (tgt := 174) (off := 173) dX4_numberOf_1 ⟨by decide, by decide⟩ (by decide) (by decide) (by decide +kernel) (by decide) ?_
      refine aw_aload_n dX4_numberOf_174 rfl ?_
      refine aw_getr (x := (o + 12)) dX4_numberOf_175 ci4 (by decide) fX4_35 (by have := st_lt ho; omega) (st_sh0 ho) rfl (st_r0 ho hHR 3) ?_
      refine aw_getv dX4_numberOf_178 ci5 (by decide) fX4_243 (by have := st_lt ho; omega) (st_sh ho 12) rfl (putS_gk o _ _ 12 4 4 rfl) ?_
      refine aw_iret dX4_numberOf_181 rfl (by decide) (by decide) ?_
      exact exI (by unfold cnF ctF; rw [if_pos (by decide), if_neg (by decide), if_neg (by decide), if_neg (by decide), if_neg (by decide), if_neg (by decide), if_neg (by decide), if_pos (by decide)]; exact c9)
    · refine aw_tab (tgt := 182) (off := 181) dX4_numberOf_1 ⟨by decide, by decide⟩ (by decide) (by decide) (by decide +kernel) (by decide) ?_
      refine aw_aload_n dX4_numberOf_182 rfl ?_
      refine aw_getr (x := (o + 1)) dX4_numberOf_183 ci4 (by decide) fX4_12 (by have := st_lt ho; omega) (st_sh0 ho) rfl (st_r0 ho hHR 0) ?_
      refine aw_V0x dX4_numberOf_186 clX4_280 ⟨by decide, by decide⟩ (c := 0) (N := 4) (by have := st_lt ho; omega) (st_sh ho 1) rfl (c_X0_tornPages ho hHR hCR) (by decide) (by decide) rfl rfl (by simp only [List.length_cons, List.length_nil]; omega) ?_
      refine aw_iret dX4_numberOf_189 rfl (by decide) (by decide) ?_
      exact exI (by unfold cnF ctF; rw [if_pos (by decide), if_neg (by decide), if_neg (by decide), if_neg (by decide), if_neg (by decide), if_neg (by decide), if_neg (by decide), if_neg (by decide), if_pos (by decide)]; exact to_all hC hB3)
    · refine aw_tab (tgt := 190) (off := 189) dX4_numberOf_1 ⟨by decide, by decide⟩ (by decide) (by decide) (by decide +kernel) (by decide) ?_
      refine aw_aload_n dX4_numberOf_190 rfl ?_
      refine aw_getr (x := (o + 1)) dX4_numberOf_191 ci4 (by decide) fX4_12 (by have := st_lt ho; omega) (st_sh0 ho) rfl (st_r0 ho hHR 0) ?_
      refine aw_V0x dX4_numberOf_194 clX4_283 ⟨by decide, by decide⟩ (c := 0) (N := 4) (by have := st_lt ho; omega) (st_sh ho 1) rfl (c_X0_keysWithPlace ho hHR hCR) (by decide) (by decide) rfl rfl (by simp only [List.length_cons, List.length_nil]; omega) ?_
      refine aw_iret dX4_numberOf_197 rfl (by decide) (by decide) ?_
      exact exI (by unfold cnF ctF; rw [if_pos (by decide), if_neg (by decide), if_neg (by decide), if_neg (by decide), if_neg (by decide), if_neg (by decide), if_neg (by decide), if_neg (by decide), if_neg (by decide), if_pos (by decide)]; exact kw_eq hC 12)
    · refine aw_tab (tgt := 198) (off := 197) dX4_numberOf_1 ⟨by decide, by decide⟩ (by decide) (by decide) (by decide +kernel) (by decide) ?_
      refine aw_aload_n dX4_numberOf_198 rfl ?_
      refine aw_getr (x := (o + 15)) dX4_numberOf_199 ci4 (by decide) fX4_46 (by have := st_lt ho; omega) (st_sh0 ho) rfl (st_r0 ho hHR 6) ?_
      refine aw_iconst dX4_numberOf_202 ?_
      refine aw_S2x dX4_numberOf_203 clX4_156 ⟨by decide, by decide⟩ (c_vAtv ho (hT3 0 (by decide) (by decide)) (by decide) (st_sh ho 15) (by decide) (by decide) (by decide)) (by decide) (by decide) rfl rfl (by simp only [List.length_cons, List.length_nil]; omega) ?_
      refine aw_iret dX4_numberOf_206 rfl (by decide) (by decide) ?_
      exact exI (by unfold cnF ctF; rw [if_pos (by decide), if_neg (by decide), if_neg (by decide), if_neg (by decide), if_neg (by decide), if_neg (by decide), if_neg (by decide), if_neg (by decide), if_neg (by decide), if_neg (by decide), if_pos (by decide)]; exact rfl)
    · refine aw_tab (tgt := 207) (off := 206) dX4_numberOf_1 ⟨by decide, by decide⟩ (by decide) (by decide) (by decide +kernel) (by decide) ?_
      refine aw_aload_n dX4_numberOf_207 rfl ?_
      refine aw_getr (x := (o + 15)) dX4_numberOf_208 ci4 (by decide) fX4_46 (by have := st_lt ho; omega) (st_sh0 ho) rfl (st_r0 ho hHR 6) ?_
      refine aw_iconst dX4_numberOf_211 ?_
      refine aw_S2x dX4_numberOf_212 clX4_156 ⟨by decide, by decide⟩ (c_vAtv ho (hT3 1 (by decide) (by decide)) (by decide) (st_sh ho 15) (by decide) (by decide) (by decide)) (by decide) (by decide) rfl rfl (by simp only [List.length_cons, List.length_nil]; omega) ?_
      refine aw_iret dX4_numberOf_215 rfl (by decide) (by decide) ?_
      exact exI (by unfold cnF ctF; rw [if_pos (by decide), if_neg (by decide), if_neg (by decide), if_neg (by decide), if_neg (by decide), if_neg (by decide), if_neg (by decide), if_neg (by decide), if_neg (by decide), if_neg (by decide), if_pos (by decide)]; exact rfl)
    · refine aw_tab (tgt := 216) (off := 215) dX4_numberOf_1 ⟨by decide, by decide⟩ (by decide) (by decide) (by decide +kernel) (by decide) ?_
      refine aw_aload_n dX4_numberOf_216 rfl ?_
      refine aw_getr (x := (o + 12)) dX4_numberOf_217 ci4 (by decide) fX4_35 (by have := st_lt ho; omega) (st_sh0 ho) rfl (st_r0 ho hHR 3) ?_
      refine aw_getv dX4_numberOf_220 ci5 (by decide) fX4_231 (by have := st_lt ho; omega) (st_sh ho 12) rfl (putS_gk o _ _ 12 5 5 rfl) ?_
      refine aw_iret dX4_numberOf_223 rfl (by decide) (by decide) ?_
      exact exI (by unfold cnF ctF; rw [if_pos (by decide), if_neg (by decide), if_neg (by decide), if_neg (by decide), if_neg (by decide), if_neg (by decide), if_neg (by decide), if_neg (by decide), if_neg (by decide), if_neg (by decide), if_neg (by decide), if_pos (by decide)]; exact c14)
    · refine aw_tab (tgt := 224) (off := 223) dX4_numberOf_1 ⟨by decide, by decide⟩ (by decide) (by decide) (by decide +kernel) (by decide) ?_
      refine aw_aload_n dX4_numberOf_224 rfl ?_
      refine aw_getr (x := (o + 12)) dX4_numberOf_225 ci4 (by decide) fX4_35 (by have := st_lt ho; omega) (st_sh0 ho) rfl (st_r0 ho hHR 3) ?_
      refine aw_getv dX4_numberOf_228 ci5 (by decide) fX4_211 (by have := st_lt ho; omega) (st_sh ho 12) rfl (putS_gk o _ _ 12 6 6 rfl) ?_
      refine aw_iret dX4_numberOf_231 rfl (by decide) (by decide) ?_
      exact exI (by unfold cnF ctF; rw [if_pos (by decide), if_neg (by decide), if_neg (by decide), if_neg (by decide), if_neg (by decide), if_neg (by decide), if_neg (by decide), if_neg (by decide), if_neg (by decide), if_neg (by decide), if_neg (by decide), if_pos (by decide)]; exact c15)
  · refine aw_tabD (tgt := 232) dX4_numberOf_1 hw (by omega) (by decide) ?_
    refine aw_aload_n dX4_numberOf_232 rfl ?_
    refine aw_iload_n dX4_numberOf_233 rfl ?_
    refine aw_V1x dX4_numberOf_234 clX4_286 ⟨by decide, by decide⟩ (c := 4) (N := 11) (by have := st_lt ho; omega) (st_sh0 ho) rfl (c_X4_settingOrSlowness ho hHR hR0 hw) (by decide) (by decide) rfl rfl (by simp only [List.length_cons, List.length_nil]; omega) ?_
    refine aw_iret dX4_numberOf_237 rfl (by decide) (by decide) ?_
    have e : cnF s n len w = soF s w := if_neg (by omega)
    rw [e]
    exact EX.rf
end CLSE
