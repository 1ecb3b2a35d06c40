/-! the class's answers, two -/
section CLSD
variable {E : ET} {hi : HI} {hr : HR} {o : Nat} {t : TS} {s : Int → Int}
theorem fa_eq {t : TS} {s : Int → Int} (hC : RC t s) {c w : Int} (c0 : 0 ≤ c) (c1 : c < 48) (hk : t 2 c = 2 ∨ (16 ≤ c % 24 ∧ ¬ t 2 c = 0)) (w0 : 1 ≤ w) (w1 : w ≤ 3) : faC t c w = s (atI c + w) := by
  obtain ⟨e1, e2, e3⟩ := (hC c c0 c1).2 hk
  have k1 : kyF t c = t 3 c := by unfold kyF; rw [if_pos ⟨c0, c1⟩]
  have k2 : vlF t c = t 4 c := by unfold vlF; rw [if_pos ⟨c0, c1⟩]
  have k3 : spF t c = t 5 c := by unfold spF; rw [if_pos ⟨c0, c1⟩]
  unfold faC
  rw [k1, k2, k3]
  rcases (show w = 1 ∨ w = 2 ∨ w = 3 by omega) with rfl | rfl | rfl
  · rw [if_pos rfl]; exact e1
  · rw [if_neg (by decide), if_pos rfl]; exact e2
  · rw [if_neg (by decide), if_neg (by decide)]; exact e3
set_option maxRecDepth 100000 in
set_option maxHeartbeats 4000000 in
theorem c_X4_backupFact (ho : St o) (hHR : HRk hr) (hR0 : Rl t s) {b l w : Int} (hb : InR b) (hl : InR l) (hw : InR w) : AMet E M_X4_backupFact [aR o, aI b, aI l, aI w] (putS o hi t) hr 125 (EX (some (aI (bpF s b l w))) (putS o hi t) hr 125) := by
  refine am_of (by decide +kernel) (Nat.le_of_ble_eq_true rfl) ?_
  have hC := hR0.2.2.1
  have hCR := hR0.2.1.1
  refine aw_iload_n dX4_backupFact_0 rfl ?_
  refine aw_iconst dX4_backupFact_1 ?_
  refine aw_iconst dX4_backupFact_2 ?_
  refine aw_S3x dX4_backupFact_3 clX4_83 ⟨by decide, by decide⟩ (c_X8_isIn hb ⟨by decide, by decide⟩ ⟨by decide, by decide⟩) (by decide) (by decide) rfl rfl (by simp only [List.length_cons, List.length_nil]; omega) ?_
  refine aw_if_eq (tgt := 28) dX4_backupFact_6 (by decide) in_r (fun h6 => ?_) (fun h6 => ?_)
  · refine aw_iconst dX4_backupFact_28 ?_
    refine aw_iret dX4_backupFact_29 rfl (by decide) (by decide) ?_
    rw [in0] at h6
    exact exI (by unfold bpF; rw [if_pos (Or.inl h6)])
  · refine aw_iload_n dX4_backupFact_9 rfl ?_
    refine aw_iconst dX4_backupFact_10 ?_
    refine aw_bipush dX4_backupFact_11 (by decide) ?_
    refine aw_S3x dX4_backupFact_13 clX4_83 ⟨by decide, by decide⟩ (c_X8_isIn hl ⟨by decide, by decide⟩ ⟨by decide, by decide⟩) (by decide) (by decide) rfl rfl (by simp only [List.length_cons, List.length_nil]; omega) ?_
    refine aw_if_eq (tgt := 28) dX4_backupFact_16 (by decide) in_r (fun h16 => ?_) (fun h16 => ?_)
    · refine aw_iconst dX4_backupFact_28 ?_
      refine aw_iret dX4_backupFact_29 rfl (by decide) (by decide) ?_
      rw [in0] at h16
      exact exI (by unfold bpF; rw [if_pos (Or.inr (Or.inl h16))])
    · refine aw_iload_n dX4_backupFact_19 rfl ?_
      refine aw_iconst dX4_backupFact_20 ?_
      refine aw_iconst dX4_backupFact_21 ?_
      refine aw_S3x dX4_backupFact_22 clX4_83 ⟨by decide, by decide⟩ (c_X8_isIn hw ⟨by decide, by decide⟩ ⟨by decide, by decide⟩) (by decide) (by decide) rfl rfl (by simp only [List.length_cons, List.length_nil]; omega) ?_
      refine aw_if_ne (tgt := 30) dX4_backupFact_25 (by decide) in_r (fun h25 => ?_) (fun h25 => ?_)
      · rw [in0, Classical.not_not] at h6 h16 h25
        have eb := atI_bk (show b = 0 ∨ b = 1 by omega) h16.1 (show l < 8 by omega)
        have ec : b * 24 + (16 + l) = 24 * b + (16 + l) := by omega
        have ek : kdF t (b * 24 + (16 + l)) = s (152 + 4 * (8 * b + l)) := by rw [ec, kd_in _ (by omega) (by omega), (hC _ (by omega) (by omega)).1, eb]
        have ek2 : t 2 (b * 24 + (16 + l)) = s (152 + 4 * (8 * b + l)) := by rw [ec, (hC _ (by omega) (by omega)).1, eb]
        have kr := hCR.kd (b * 24 + (16 + l))
        refine aw_iload_n dX4_backupFact_30 rfl ?_
        refine aw_bipush dX4_backupFact_31 (by decide) ?_
        refine aw_iload_n dX4_backupFact_33 rfl ?_
        refine aw_iadd dX4_backupFact_34 ?_
        refine aw_S2x dX4_backupFact_35 clX4_168 ⟨by decide, by decide⟩ c_X8_cellOf (by decide) (by decide) rfl rfl (by simp only [List.length_cons, List.length_nil]; omega) ?_
        refine aw_istore (ls2 := [_, _, _, _, _]) dX4_backupFact_38 (by decide) rfl ?_
        refine aw_aload_n dX4_backupFact_40 rfl ?_
        refine aw_getr (x := (o + 1)) dX4_backupFact_41 ci4 (by decide) fX4_12 (by have := st_lt ho; omega) (st_sh0 ho) rfl (st_r0 ho hHR 0) ?_
        refine aw_iload dX4_backupFact_44 rfl ?_
        refine aw_V1x dX4_backupFact_46 clX4_198 ⟨by decide, by decide⟩ (c := 0) (N := 4) (by have := st_lt ho; omega) (st_sh ho 1) rfl (c_X0_kind ho hHR ⟨by omega, by omega⟩) (by decide) (by decide) rfl rfl (by simp only [List.length_cons, List.length_nil]; omega) ?_
        refine aw_if_ne (tgt := 55) dX4_backupFact_49 (by decide) ⟨by omega, by omega⟩ (fun h49 => ?_) (fun h49 => ?_)
        · refine aw_iload_n dX4_backupFact_55 rfl ?_
          refine aw_if_ne (tgt := 78) dX4_backupFact_56 (by decide) hw (fun h56 => ?_) (fun h56 => ?_)
          · refine aw_aload_n dX4_backupFact_78 rfl ?_
            refine aw_getr (x := (o + 1)) dX4_backupFact_79 ci4 (by decide) fX4_12 (by have := st_lt ho; omega) (st_sh0 ho) rfl (st_r0 ho hHR 0) ?_
            refine aw_iload dX4_backupFact_82 rfl ?_
            refine aw_iload_n dX4_backupFact_84 rfl ?_
            refine aw_V2x dX4_backupFact_85 clX4_277 ⟨by decide, by decide⟩ (c := 0) (N := 4) (by have := st_lt ho; omega) (st_sh ho 1) rfl (c_X0_fact ho hHR ⟨by omega, by omega⟩ hw) (by decide) (by decide) rfl rfl (by simp only [List.length_cons, List.length_nil]; omega) ?_
            refine aw_iret dX4_backupFact_88 rfl (by decide) (by decide) ?_
            have f := fa_eq hC (c := b * 24 + (16 + l)) (w := w) (by omega) (by omega) (Or.inr ⟨by omega, by omega⟩) (by omega) (by omega)
            rw [ec] at f
            rw [ec]
            exact exI (by rw [f]; unfold bpF; rw [if_neg (fun g => g.elim (fun q => q h6) (fun q => q.elim (fun q => q h16) (fun q => q h25))), if_neg (by omega), if_pos (by omega), eb])
          · refine aw_aload_n dX4_backupFact_59 rfl ?_
            refine aw_getr (x := (o + 1)) dX4_backupFact_60 ci4 (by decide) fX4_12 (by have := st_lt ho; omega) (st_sh0 ho) rfl (st_r0 ho hHR 0) ?_
            refine aw_iload dX4_backupFact_63 rfl ?_
            refine aw_V1x dX4_backupFact_65 clX4_198 ⟨by decide, by decide⟩ (c := 0) (N := 4) (by have := st_lt ho; omega) (st_sh ho 1) rfl (c_X0_kind ho hHR ⟨by omega, by omega⟩) (by decide) (by decide) rfl rfl (by simp only [List.length_cons, List.length_nil]; omega) ?_
            refine aw_iconst dX4_backupFact_68 ?_
            refine aw_ic_ne (tgt := 76) dX4_backupFact_69 (by decide) ⟨by omega, by omega⟩ ⟨by decide, by decide⟩ (fun h69 => ?_) (fun h69 => ?_)
            · refine aw_iconst dX4_backupFact_76 ?_
              refine aw_iret dX4_backupFact_77 rfl (by decide) (by decide) ?_
              exact exI (by unfold bpF; rw [if_neg (fun g => g.elim (fun q => q h6) (fun q => q.elim (fun q => q h16) (fun q => q h25))), if_neg (by omega), if_neg (by omega), if_neg (by omega)])
            · refine aw_iconst dX4_backupFact_72 ?_
              refine aw_goto (tgt := 77) dX4_backupFact_73 (by decide) ?_
              refine aw_iret dX4_backupFact_77 rfl (by decide) (by decide) ?_
              exact exI (by unfold bpF; rw [if_neg (fun g => g.elim (fun q => q h6) (fun q => q.elim (fun q => q h16) (fun q => q h25))), if_neg (by omega), if_neg (by omega), if_pos (by omega)])
        · refine aw_bipush dX4_backupFact_52 (by decide) ?_
          refine aw_iret dX4_backupFact_54 rfl (by decide) (by decide) ?_
          exact exI (by unfold bpF; rw [if_neg (fun g => g.elim (fun q => q h6) (fun q => q.elim (fun q => q h16) (fun q => q h25))), if_pos (by omega)])
      · refine aw_iconst dX4_backupFact_28 ?_
        refine aw_iret dX4_backupFact_29 rfl (by decide) (by decide) ?_
        rw [in0] at h25
        exact exI (by unfold bpF; rw [if_pos (Or.inr (Or.inr h25))])
set_option maxRecDepth 100000 in
set_option maxHeartbeats 4000000 in
theorem c_X4_pageFact (ho : St o) (hHR : HRk hr) (hEN : EN E) (hX : XH hi) (hR0 : Rl t s) {b l w : Int} (hb : InR b) (hl : InR l) (hw : InR w) : AMet E M_X4_pageFact [aR o, aI b, aI l, aI w] (putS o hi t) hr 125 (EX (some (aI (pgF s b l w))) (putS o hi t) hr 125) := by
  refine am_of (by decide +kernel) (Nat.le_of_ble_eq_true rfl) ?_
  have hC := hR0.2.2.1
  have hCR := hR0.2.1.1
  refine aw_iload_n dX4_pageFact_0 rfl ?_
  refine aw_iconst dX4_pageFact_1 ?_
  refine aw_iconst dX4_pageFact_2 ?_
  refine aw_S3x dX4_pageFact_3 clX4_83 ⟨by decide, by decide⟩ (c_X8_isIn hb ⟨by decide, by decide⟩ ⟨by decide, by decide⟩) (by decide) (by decide) rfl rfl (by simp only [List.length_cons, List.length_nil]; omega) ?_
  refine aw_if_eq (tgt := 28) dX4_pageFact_6 (by decide) in_r (fun h6 => ?_) (fun h6 => ?_)
  · refine aw_iconst dX4_pageFact_28 ?_
    refine aw_iret dX4_pageFact_29 rfl (by decide) (by decide) ?_
    rw [in0] at h6
    exact exI (by unfold pgF; rw [if_pos (Or.inl h6)])
  · refine aw_iload_n dX4_pageFact_9 rfl ?_
    refine aw_iconst dX4_pageFact_10 ?_
    refine aw_bipush dX4_pageFact_11 (by decide) ?_
    refine aw_S3x dX4_pageFact_13 clX4_83 ⟨by decide, by decide⟩ (c_X8_isIn hl ⟨by decide, by decide⟩ ⟨by decide, by decide⟩) (by decide) (by decide) rfl rfl (by simp only [List.length_cons, List.length_nil]; omega) ?_
    refine aw_if_eq (tgt := 28) dX4_pageFact_16 (by decide) in_r (fun h16 => ?_) (fun h16 => ?_)
    · refine aw_iconst dX4_pageFact_28 ?_
      refine aw_iret dX4_pageFact_29 rfl (by decide) (by decide) ?_
      rw [in0] at h16
      exact exI (by unfold pgF; rw [if_pos (Or.inr (Or.inl h16))])
    · refine aw_iload_n dX4_pageFact_19 rfl ?_
      refine aw_iconst dX4_pageFact_20 ?_
      refine aw_iconst dX4_pageFact_21 ?_
      refine aw_S3x dX4_pageFact_22 clX4_83 ⟨by decide, by decide⟩ (c_X8_isIn hw ⟨by decide, by decide⟩ ⟨by decide, by decide⟩) (by decide) (by decide) rfl rfl (by simp only [List.length_cons, List.length_nil]; omega) ?_
      refine aw_if_ne (tgt := 30) dX4_pageFact_25 (by decide) in_r (fun h25 => ?_) (fun h25 => ?_)
      · rw [in0, Classical.not_not] at h6 h16 h25
        have eb := atI_pg (show b = 0 ∨ b = 1 by omega) h16.1 (show l < 16 by omega)
        have ec : b * 24 + l = 24 * b + l := by omega
        have ek : kdF t (b * 24 + l) = s (24 + 4 * (16 * b + l)) := by rw [ec, kd_in _ (by omega) (by omega), (hC _ (by omega) (by omega)).1, eb]
        have ek2 : t 2 (b * 24 + l) = s (24 + 4 * (16 * b + l)) := by rw [ec, (hC _ (by omega) (by omega)).1, eb]
        have kr := hCR.kd (b * 24 + l)
        refine aw_iload_n dX4_pageFact_30 rfl ?_
        refine aw_iload_n dX4_pageFact_31 rfl ?_
        refine aw_S2x dX4_pageFact_32 clX4_168 ⟨by decide, by decide⟩ c_X8_cellOf (by decide) (by decide) rfl rfl (by simp only [List.length_cons, List.length_nil]; omega) ?_
        refine aw_istore (ls2 := [_, _, _, _, _]) dX4_pageFact_35 (by decide) rfl ?_
        refine aw_iload_n dX4_pageFact_37 rfl ?_
        refine aw_if_ne (tgt := 51) dX4_pageFact_38 (by decide) hw (fun h38 => ?_) (fun h38 => ?_)
        · refine aw_iload_n dX4_pageFact_51 rfl ?_
          refine aw_iconst dX4_pageFact_52 ?_
          refine aw_ic_ne (tgt := 64) dX4_pageFact_53 (by decide) hw ⟨by decide, by decide⟩ (fun h53 => ?_) (fun h53 => ?_)
          · refine aw_iload_n dX4_pageFact_64 rfl ?_
            refine aw_iconst dX4_pageFact_65 ?_
            refine aw_ic_ne (tgt := 77) dX4_pageFact_66 (by decide) hw ⟨by decide, by decide⟩ (fun h66 => ?_) (fun h66 => ?_)
            · refine aw_aload_n dX4_pageFact_77 rfl ?_
              refine aw_getr (x := (o + 1)) dX4_pageFact_78 ci4 (by decide) fX4_12 (by have := st_lt ho; omega) (st_sh0 ho) rfl (st_r0 ho hHR 0) ?_
              refine aw_iload dX4_pageFact_81 rfl ?_
              refine aw_V1x dX4_pageFact_83 clX4_198 ⟨by decide, by decide⟩ (c := 0) (N := 4) (by have := st_lt ho; omega) (st_sh ho 1) rfl (c_X0_kind ho hHR ⟨by omega, by omega⟩) (by decide) (by decide) rfl rfl (by simp only [List.length_cons, List.length_nil]; omega) ?_
              refine aw_iconst dX4_pageFact_86 ?_
              refine aw_ic_ne (tgt := 103) dX4_pageFact_87 (by decide) ⟨by omega, by omega⟩ ⟨by decide, by decide⟩ (fun h87 => ?_) (fun h87 => ?_)
              · refine aw_bipush dX4_pageFact_103 (by decide) ?_
                refine aw_iret dX4_pageFact_105 rfl (by decide) (by decide) ?_
                exact exI (by unfold pgF; rw [if_neg (fun g => g.elim (fun q => q h6) (fun q => q.elim (fun q => q h16) (fun q => q h25))), if_neg h38, if_neg h53, if_neg h66, if_neg (by omega)])
              · refine aw_aload_n dX4_pageFact_90 rfl ?_
                refine aw_getr (x := (o + 1)) dX4_pageFact_91 ci4 (by decide) fX4_12 (by have := st_lt ho; omega) (st_sh0 ho) rfl (st_r0 ho hHR 0) ?_
                refine aw_iload dX4_pageFact_94 rfl ?_
                refine aw_iload_n dX4_pageFact_96 rfl ?_
                refine aw_V2x dX4_pageFact_97 clX4_277 ⟨by decide, by decide⟩ (c := 0) (N := 4) (by have := st_lt ho; omega) (st_sh ho 1) rfl (c_X0_fact ho hHR ⟨by omega, by omega⟩ hw) (by decide) (by decide) rfl rfl (by simp only [List.length_cons, List.length_nil]; omega) ?_
                refine aw_goto (tgt := 105) dX4_pageFact_100 (by decide) ?_
                refine aw_iret dX4_pageFact_105 rfl (by decide) (by decide) ?_
                have f := fa_eq hC (c := b * 24 + l) (w := w) (by omega) (by omega) (Or.inl (by omega)) (by omega) (by omega)
                rw [ec] at f
                rw [ec]
                exact exI (by rw [f]; unfold pgF; rw [if_neg (fun g => g.elim (fun q => q h6) (fun q => q.elim (fun q => q h16) (fun q => q h25))), if_neg h38, if_neg h53, if_neg h66, if_pos (by omega), eb])
            · refine aw_gets dX4_pageFact_69 (by decide) gsX4_160 ?_
              refine aw_iload_n dX4_pageFact_72 rfl ?_
              refine aw_S2x dX4_pageFact_73 clX4_156 ⟨by decide, by decide⟩ (c_LA ho hEN hX (by omega) (by omega)) (by decide) (by decide) rfl rfl (by simp only [List.length_cons, List.length_nil]; omega) ?_
              refine aw_iret dX4_pageFact_76 rfl (by decide) (by decide) ?_
              exact exI (by unfold pgF; rw [if_neg (fun g => g.elim (fun q => q h6) (fun q => q.elim (fun q => q h16) (fun q => q h25))), if_neg h38, if_neg h53, if_pos h66])
          · refine aw_gets dX4_pageFact_56 (by decide) gsX4_153 ?_
            refine aw_iload_n dX4_pageFact_59 rfl ?_
            refine aw_S2x dX4_pageFact_60 clX4_156 ⟨by decide, by decide⟩ (c_WL ho hEN hX (by omega) (by omega)) (by decide) (by decide) rfl rfl (by simp only [List.length_cons, List.length_nil]; omega) ?_
            refine aw_iret dX4_pageFact_63 rfl (by decide) (by decide) ?_
            exact exI (by unfold pgF; rw [if_neg (fun g => g.elim (fun q => q h6) (fun q => q.elim (fun q => q h16) (fun q => q h25))), if_neg h38, if_pos h53])
        · refine aw_aload_n dX4_pageFact_41 rfl ?_
          refine aw_getr (x := (o + 1)) dX4_pageFact_42 ci4 (by decide) fX4_12 (by have := st_lt ho; omega) (st_sh0 ho) rfl (st_r0 ho hHR 0) ?_
          refine aw_iload dX4_pageFact_45 rfl ?_
          refine aw_V1x dX4_pageFact_47 clX4_198 ⟨by decide, by decide⟩ (c := 0) (N := 4) (by have := st_lt ho; omega) (st_sh ho 1) rfl (c_X0_kind ho hHR ⟨by omega, by omega⟩) (by decide) (by decide) rfl rfl (by simp only [List.length_cons, List.length_nil]; omega) ?_
          refine aw_iret dX4_pageFact_50 rfl (by decide) (by decide) ?_
          exact exI (by rw [ek]; unfold pgF; rw [if_neg (fun g => g.elim (fun q => q h6) (fun q => q.elim (fun q => q h16) (fun q => q h25))), if_pos h38])
      · refine aw_iconst dX4_pageFact_28 ?_
        refine aw_iret dX4_pageFact_29 rfl (by decide) (by decide) ?_
        rw [in0] at h25
        exact exI (by unfold pgF; rw [if_pos (Or.inr (Or.inr h25))])
end CLSD
