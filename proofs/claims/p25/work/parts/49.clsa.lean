/-! the class's acts, four -/
section CLSA
variable {E : ET} {hi : HI} {hr : HR} {o : Nat} {t : TS} {s : Int → Int}
theorem clA_s (s : Int → Int) (b : Int) (k : Nat) : clA s b (k + 1) = if ipF (clA s b k) (24 * b + (k : Int)) = 1 then cpF (clA s b k) (24 * b + (k : Int)) 3 else clA s b k := rfl
set_option maxRecDepth 100000 in
set_option maxHeartbeats 4000000 in
theorem c_X4_cleanBlock (ho : St o) (hHR : HRk hr) (hR : RlT t s) {b : Int} (hb : InR b) : AMet E M_X4_cleanBlock [aR o, aI b] (putS o hi t) hr 125 (QI hi hr o (clF s b)) := by
  refine am_of (by decide +kernel) (Nat.le_of_ble_eq_true rfl) ?_
  obtain ⟨hR0, hT⟩ := hR
  have hR : RlT t s := ⟨hR0, hT⟩
  have hM := hR0.1.1
  have h1 := hM.2.2.2.2.2.1
  have h8 := hM.2.2.1
  have z0 := hM.z 0 (by unfold xc; omega)
  have z11 := hM.z 11 (by unfold xc; omega)
  have e6 : t 6 4 = s 11 := hR0.2.2.2.1.1
  have hp : t 0 8 = 1 - s 1 := hR0.2.2.2.2.2.2.2.1
  have hB : BIG = 1000000 := rfl
  have h2 := hM.2.1
  have ea : t 0 9 = s 2 := hR0.2.2.2.2.1.2.1
  refine aw_iload_n dX4_cleanBlock_0 rfl ?_
  refine aw_iconst dX4_cleanBlock_1 ?_
  refine aw_iconst dX4_cleanBlock_2 ?_
  refine aw_S3x dX4_cleanBlock_3 clX4_83 ⟨by decide, by decide⟩ (c_X8_isIn hb ⟨by decide, by decide⟩ ⟨by decide, by decide⟩) (by decide) (by decide) rfl rfl (by simp only [List.length_cons, List.length_nil]; omega) ?_
  refine aw_if_ne (tgt := 11) dX4_cleanBlock_6 (by decide) in_r (fun h6 => ?_) (fun h6 => ?_)
  · rw [in0, Classical.not_not] at h6
    refine aw_aload_n dX4_cleanBlock_11 rfl ?_
    refine aw_getv dX4_cleanBlock_12 ci4 (by decide) fX4_52 (by have := st_lt ho; omega) (st_sh0 ho) rfl (putS_gk0 o _ _ 8 8 rfl) ?_
    refine aw_if_eq (tgt := 26) dX4_cleanBlock_15 (by decide) ⟨by omega, by omega⟩ (fun h15 => ?_) (fun h15 => ?_)
    · refine aw_bipush dX4_cleanBlock_26 (by decide) ?_
      refine aw_iret dX4_cleanBlock_28 rfl (by decide) (by decide) ?_
      have e : clF s b = (-2, s) := by unfold clF; rw [if_neg (fun g => g h6), if_pos (by omega)]
      rw [e]
      exact ⟨_, rfl, rfl, rfl, rfl, t, rfl, hR⟩
    · refine aw_iload_n dX4_cleanBlock_18 rfl ?_
      refine aw_aload_n dX4_cleanBlock_19 rfl ?_
      refine aw_getv dX4_cleanBlock_20 ci4 (by decide) fX4_76 (by have := st_lt ho; omega) (st_sh0 ho) rfl ((putS_gk0 o _ _ 9 9 rfl).trans ea) ?_
      refine aw_ic_ne (tgt := 29) dX4_cleanBlock_23 (by decide) hb ⟨by omega, by omega⟩ (fun h23 => ?_) (fun h23 => ?_)
      · refine aw_aload_n dX4_cleanBlock_29 rfl ?_
        refine aw_getr (x := (o + 1)) dX4_cleanBlock_30 ci4 (by decide) fX4_12 (by have := st_lt ho; omega) (st_sh0 ho) rfl (st_r0 ho hHR 0) ?_
        refine aw_iload_n dX4_cleanBlock_33 rfl ?_
        refine aw_V1x dX4_cleanBlock_34 clX4_261 ⟨by decide, by decide⟩ (c := 0) (N := 4) (by have := st_lt ho; omega) (st_sh ho 1) rfl (c_X0_placesInBlock ho hHR (by omega) hR0.2.1.1) (by decide) (by decide) rfl rfl (by simp only [List.length_cons, List.length_nil]; omega) ?_
        refine aw_istore_n (ls2 := [_, _, _, _]) dX4_cleanBlock_37 (by decide) rfl ?_
        have hcb := ctC_b t b 24
        have ect0 : ctC t b 24 = ctA s b 24 := ct_eq hR0.2.2.1 (by omega) 24 (by omega)
        refine aw_aload_n dX4_cleanBlock_38 rfl ?_
        refine aw_getr (x := (o + 6)) dX4_cleanBlock_39 ci4 (by decide) fX4_21 (by have := st_lt ho; omega) (st_sh0 ho) rfl (st_r0 ho hHR 1) ?_
        refine aw_V0x dX4_cleanBlock_42 clX4_87 ⟨by decide, by decide⟩ (c := 2) (N := 5) (by have := st_lt ho; omega) (st_sh ho 6) rfl (c_X2_size ho hHR) (by decide) (by decide) rfl rfl (by simp only [List.length_cons, List.length_nil]; omega) ?_
        refine aw_iload_n dX4_cleanBlock_45 rfl ?_
        refine aw_iadd dX4_cleanBlock_46 ?_
        refine aw_bipush dX4_cleanBlock_47 (by decide) ?_
        refine aw_ic_le (tgt := 55) dX4_cleanBlock_49 (by decide) ⟨by omega, by omega⟩ ⟨by decide, by decide⟩ (fun h49 => ?_) (fun h49 => ?_)
        · refine aw_iconst dX4_cleanBlock_55 ?_
          refine aw_istore_n (ls2 := [_, _, _, _]) dX4_cleanBlock_56 (by decide) rfl ?_
          have hb01 : b = 0 ∨ b = 1 := by omega
          have e : clF s b = (ctA s b 24, clA s b 24) := by unfold clF; rw [if_neg (fun g => g h6), if_neg (by omega), if_neg (by omega)]
          rw [e]
          have hM' := fun k hk => clA_M hM hb01 (show s 11 + ctA s b 24 ≤ 8 by omega) k hk
          have hs' := clA_s s b
          have hW0 : clA s b 0 = s := rfl
          generalize clA s b = W at hM' hs' hW0
          have ect : ctC t b 24 = ctA s b 24 := ct_eq hR0.2.2.1 hb01 24 (by omega)
          obtain ⟨t0, ht0⟩ : ∃ t0 : TS, ctC t0 b 24 = ctC t b 24 := ⟨t, rfl⟩
          rw [← ht0] at ect ⊢
          have loop : ∀ (d k : Nat) (t : TS), k + d = 24 → Rl t (W k) → t 12 0 = s 0 → AW E M_X4_cleanBlock 0 0 57 [some (aR o), some (aI b), some (aI (ctC t0 b 24)), some (aI (k : Int))] [] (putS o hi t) hr 125 (QI hi hr o (ctA s b 24, W 24)) := by
            intro d
            induction d with
            | zero =>
              intro k t hk g1 g2
              have hk' : k = 24 := by omega
              subst hk'
              refine aw_iload_n dX4_cleanBlock_57 rfl ?_
              refine aw_bipush dX4_cleanBlock_58 (by decide) ?_
              refine aw_ic_ge (tgt := 79) dX4_cleanBlock_60 (by decide) ⟨by decide, by decide⟩ ⟨by decide, by decide⟩ (fun h60 => ?_) (fun h60 => ?_)
              · refine aw_iload_n dX4_cleanBlock_79 rfl ?_
                refine aw_iret dX4_cleanBlock_80 rfl (by decide) (by decide) ?_
                exact ⟨_, rfl, rfl, rfl, ect, t, rfl, g1, by rw [g2]; exact ((hM' 24 (by omega)).2.2 0 (by decide) (by decide)).symm⟩
              · exact absurd h60 (by decide)
            | succ d ih =>
              intro k t hk g1 g2
              have ec : b * 24 + (k : Int) = 24 * b + (k : Int) := by omega
              have g3 := g1.copy (c := 24 * b + (k : Int)) (u := 3) (by omega) (by omega) ⟨by decide, by decide⟩
              have e3 : (if W k 11 < 8 ∧ ipF (W k) (24 * b + (k : Int)) = 1 then cpF (W k) (24 * b + (k : Int)) 3 else W k) = W (k + 1) := by
                rw [hs']
                by_cases q : ipF (W k) (24 * b + (k : Int)) = 1
                · have m1 := (hM' k (by omega)).2.1
                  have m2 := (hM' (k + 1) (by omega)).2.1
                  have m3 := ctA_le s b (k := k + 1) (n := 24) (by omega)
                  have ei : ipF (W k) (24 * b + (k : Int)) = ipF s (24 * b + (k : Int)) := ipF_cong (fun x h1 h2 => (hM' k (by omega)).2.2 x (by omega) (by omega)) (by omega) (by omega)
                  have m4 : ctA s b (k + 1) = ctA s b k + ipF s (24 * b + (k : Int)) := rfl
                  rw [if_pos q, if_pos ⟨by omega, q⟩]
                · rw [if_neg q, if_neg (fun g => q g.2)]
              rw [e3] at g3
              refine aw_iload_n dX4_cleanBlock_57 rfl ?_
              refine aw_bipush dX4_cleanBlock_58 (by decide) ?_
              refine aw_ic_ge (tgt := 79) dX4_cleanBlock_60 (by decide) ⟨by omega, by omega⟩ ⟨by decide, by decide⟩ (fun h60 => ?_) (fun h60 => ?_)
              · exact absurd h60 (by omega)
              · refine aw_aload_n dX4_cleanBlock_63 rfl ?_
                refine aw_iload_n dX4_cleanBlock_64 rfl ?_
                refine aw_iload_n dX4_cleanBlock_65 rfl ?_
                refine aw_S2x dX4_cleanBlock_66 clX4_168 ⟨by decide, by decide⟩ c_X8_cellOf (by decide) (by decide) rfl rfl (by simp only [List.length_cons, List.length_nil]; omega) ?_
                rw [ec]
                refine aw_iconst dX4_cleanBlock_69 ?_
                refine aw_V2v dX4_cleanBlock_70 clX4_249 ⟨by decide, by decide⟩ (c := 4) (N := 11) (by have := st_lt ho; omega) (st_sh0 ho) rfl (c_X4_askForCopy ho hHR g1 (by omega) (by omega) ⟨by decide, by decide⟩) (by decide) (by decide) rfl rfl (by simp only [List.length_cons, List.length_nil]; omega) ?_
                refine aw_iinc (ls2 := [_, _, _, _]) dX4_cleanBlock_73 rfl (by decide) rfl ?_
                refine aw_goto (tgt := 57) dX4_cleanBlock_76 (by decide) ?_
                exact ih (k + 1) _ (by omega) g3 (by rw [acC_n _ _ _ _ (by decide)]; exact g2)
          exact loop 24 0 t (by omega) (by rw [hW0]; exact hR0) hT
        · refine aw_bipush dX4_cleanBlock_52 (by decide) ?_
          refine aw_iret dX4_cleanBlock_54 rfl (by decide) (by decide) ?_
          have e : clF s b = (-3, s) := by unfold clF; rw [if_neg (fun g => g h6), if_neg (by omega), if_pos (by omega)]
          rw [e]
          exact ⟨_, rfl, rfl, rfl, rfl, t, rfl, hR⟩
      · refine aw_bipush dX4_cleanBlock_26 (by decide) ?_
        refine aw_iret dX4_cleanBlock_28 rfl (by decide) (by decide) ?_
        have e : clF s b = (-2, s) := by unfold clF; rw [if_neg (fun g => g h6), if_pos (by omega)]
        rw [e]
        exact ⟨_, rfl, rfl, rfl, rfl, t, rfl, hR⟩
  · refine aw_iconst dX4_cleanBlock_9 ?_
    refine aw_iret dX4_cleanBlock_10 rfl (by decide) (by decide) ?_
    rw [in0] at h6
    have e : clF s b = (-1, s) := by unfold clF; rw [if_pos h6]
    rw [e]
    exact ⟨_, rfl, rfl, rfl, rfl, t, rfl, hR⟩
end CLSA
