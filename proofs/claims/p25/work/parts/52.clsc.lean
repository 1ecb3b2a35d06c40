/-! the class's answers -/
section CLSC
variable {E : ET} {hi : HI} {hr : HR} {o : Nat} {t : TS} {s : Int → Int}
set_option maxRecDepth 100000 in
set_option maxHeartbeats 4000000 in
theorem c_X4_placeFact (ho : St o) (hHR : HRk hr) (hR0 : Rl t s) {key w : Int} (hk : InR key) (hw : InR w) : AMet E M_X4_placeFact [aR o, aI key, aI w] (putS o hi t) hr 125 (EX (some (aI (poF s key w))) (putS o hi t) hr 125) := by
  refine am_of (by decide +kernel) (Nat.le_of_ble_eq_true rfl) ?_
  have hC := hR0.2.2.1
  have hCR := hR0.2.1.1
  have pe := plc_eq hC key
  have pk := plc_k (s := s) key
  have pb := pcF_b hCR key
  rw [pe] at pb
  have v2 : 0 ≤ plc s key → vlF t (plc s key) = s (atI (plc s key) + 2) ∧ spF t (plc s key) = s (atI (plc s key) + 3) := fun g => by
    have e := hC _ g pb.2
    have e2 := e.2 (Or.inl (by rw [e.1]; rcases pk with q | q; omega; exact q.2.2.1))
    unfold vlF spF
    rw [if_pos ⟨g, pb.2⟩, if_pos ⟨g, pb.2⟩]
    exact e2.2
  refine aw_iload_n dX4_placeFact_0 rfl ?_
  refine aw_iconst dX4_placeFact_1 ?_
  refine aw_bipush dX4_placeFact_2 (by decide) ?_
  refine aw_S3x dX4_placeFact_4 clX4_83 ⟨by decide, by decide⟩ (c_X8_isIn hk ⟨by decide, by decide⟩ ⟨by decide, by decide⟩) (by decide) (by decide) rfl rfl (by simp only [List.length_cons, List.length_nil]; omega) ?_
  refine aw_if_eq (tgt := 19) dX4_placeFact_7 (by decide) in_r (fun h7 => ?_) (fun h7 => ?_)
  · refine aw_iconst dX4_placeFact_19 ?_
    refine aw_iret dX4_placeFact_20 rfl (by decide) (by decide) ?_
    rw [in0] at h7
    exact exI (by unfold poF; rw [if_pos (Or.inl h7)])
  · refine aw_iload_n dX4_placeFact_10 rfl ?_
    refine aw_iconst dX4_placeFact_11 ?_
    refine aw_iconst dX4_placeFact_12 ?_
    refine aw_S3x dX4_placeFact_13 clX4_83 ⟨by decide, by decide⟩ (c_X8_isIn hw ⟨by decide, by decide⟩ ⟨by decide, by decide⟩) (by decide) (by decide) rfl rfl (by simp only [List.length_cons, List.length_nil]; omega) ?_
    refine aw_if_ne (tgt := 21) dX4_placeFact_16 (by decide) in_r (fun h16 => ?_) (fun h16 => ?_)
    · rw [in0, Classical.not_not] at h7 h16
      refine aw_aload_n dX4_placeFact_21 rfl ?_
      refine aw_getr (x := (o + 1)) dX4_placeFact_22 ci4 (by decide) fX4_12 (by have := st_lt ho; omega) (st_sh0 ho) rfl (st_r0 ho hHR 0) ?_
      refine aw_iload_n dX4_placeFact_25 rfl ?_
      refine aw_V1x dX4_placeFact_26 clX4_146 ⟨by decide, by decide⟩ (c := 0) (N := 4) (by have := st_lt ho; omega) (st_sh ho 1) rfl (by have g := c_X0_place (E := E) (hi := hi) (t := t) ho hHR hCR hk; rw [pe] at g; exact g) (by decide) (by decide) rfl rfl (by simp only [List.length_cons, List.length_nil]; omega) ?_
      refine aw_istore_n (ls2 := [_, _, _, _]) dX4_placeFact_29 (by decide) rfl ?_
      refine aw_iload_n dX4_placeFact_30 rfl ?_
      refine aw_iconst dX4_placeFact_31 ?_
      refine aw_ic_ne (tgt := 38) dX4_placeFact_32 (by decide) ⟨by omega, by omega⟩ ⟨by decide, by decide⟩ (fun h32 => ?_) (fun h32 => ?_)
      · refine aw_iload_n dX4_placeFact_38 rfl ?_
        refine aw_if_ne (tgt := 47) dX4_placeFact_39 (by decide) hw (fun h39 => ?_) (fun h39 => ?_)
        · refine aw_iload_n dX4_placeFact_47 rfl ?_
          refine aw_iconst dX4_placeFact_48 ?_
          refine aw_ic_ne (tgt := 59) dX4_placeFact_49 (by decide) hw ⟨by decide, by decide⟩ (fun h49 => ?_) (fun h49 => ?_)
          · refine aw_aload_n dX4_placeFact_59 rfl ?_
            refine aw_getr (x := (o + 1)) dX4_placeFact_60 ci4 (by decide) fX4_12 (by have := st_lt ho; omega) (st_sh0 ho) rfl (st_r0 ho hHR 0) ?_
            refine aw_iload_n dX4_placeFact_63 rfl ?_
            refine aw_V1x dX4_placeFact_64 clX4_149 ⟨by decide, by decide⟩ (c := 0) (N := 4) (by have := st_lt ho; omega) (st_sh ho 1) rfl (c_X0_stamp ho hHR ⟨by omega, by omega⟩) (by decide) (by decide) rfl rfl (by simp only [List.length_cons, List.length_nil]; omega) ?_
            refine aw_iret dX4_placeFact_67 rfl (by decide) (by decide) ?_
            exact exI (by unfold poF; rw [if_neg (fun g => g.elim (fun q => q h7) (fun q => q h16)), if_neg (by omega), if_neg h39, if_neg h49, (v2 (by omega)).2])
          · refine aw_iload_n dX4_placeFact_52 rfl ?_
            refine aw_bipush dX4_placeFact_53 (by decide) ?_
            refine aw_irem dX4_placeFact_55 (by omega) ⟨by omega, by omega⟩ (by decide) ⟨by decide, by decide⟩ ?_
            refine aw_goto (tgt := 67) dX4_placeFact_56 (by decide) ?_
            refine aw_iret dX4_placeFact_67 rfl (by decide) (by decide) ?_
            exact exI (by unfold poF; rw [if_neg (fun g => g.elim (fun q => q h7) (fun q => q h16)), if_neg (by omega), if_neg h39, if_pos h49])
        · refine aw_iload_n dX4_placeFact_42 rfl ?_
          refine aw_bipush dX4_placeFact_43 (by decide) ?_
          refine aw_idiv dX4_placeFact_45 (by omega) ⟨by omega, by omega⟩ (by decide) ⟨by decide, by decide⟩ ?_
          refine aw_iret dX4_placeFact_46 rfl (by decide) (by decide) ?_
          exact exI (by unfold poF; rw [if_neg (fun g => g.elim (fun q => q h7) (fun q => q h16)), if_neg (by omega), if_pos h39])
      · refine aw_bipush dX4_placeFact_35 (by decide) ?_
        refine aw_iret dX4_placeFact_37 rfl (by decide) (by decide) ?_
        exact exI (by unfold poF; rw [if_neg (fun g => g.elim (fun q => q h7) (fun q => q h16)), if_pos (by omega)])
    · refine aw_iconst dX4_placeFact_19 ?_
      refine aw_iret dX4_placeFact_20 rfl (by decide) (by decide) ?_
      rw [in0] at h16
      exact exI (by unfold poF; rw [if_pos (Or.inr h16)])
set_option maxRecDepth 100000 in
set_option maxHeartbeats 4000000 in
theorem c_X4_requestFact (ho : St o) (hHR : HRk hr) (hR0 : Rl t s) {i w : Int} (hi2 : InR i) (hw : InR w) : AMet E M_X4_requestFact [aR o, aI i, aI w] (putS o hi t) hr 125 (EX (some (aI (wtF s i w))) (putS o hi t) hr 125) := by
  refine am_of (by decide +kernel) (Nat.le_of_ble_eq_true rfl) ?_
  have hQ := hR0.2.2.2.1
  have h8 := hR0.1.1.2.2.1
  have e6 := hQ.1
  have z11 := hR0.1.1.z 11 (by unfold xc; omega)
  refine aw_iload_n dX4_requestFact_0 rfl ?_
  refine aw_if_lt (tgt := 13) dX4_requestFact_1 (by decide) hi2 (fun h1 => ?_) (fun h1 => ?_)
  · refine aw_iconst dX4_requestFact_13 ?_
    refine aw_iret dX4_requestFact_14 rfl (by decide) (by decide) ?_
    exact exI (by unfold wtF; rw [if_pos (Or.inl h1)])
  · refine aw_iload_n dX4_requestFact_4 rfl ?_
    refine aw_iconst dX4_requestFact_5 ?_
    refine aw_iconst dX4_requestFact_6 ?_
    refine aw_S3x dX4_requestFact_7 clX4_83 ⟨by decide, by decide⟩ (c_X8_isIn hw ⟨by decide, by decide⟩ ⟨by decide, by decide⟩) (by decide) (by decide) rfl rfl (by simp only [List.length_cons, List.length_nil]; omega) ?_
    refine aw_if_ne (tgt := 15) dX4_requestFact_10 (by decide) in_r (fun h10 => ?_) (fun h10 => ?_)
    · rw [in0, Classical.not_not] at h10
      refine aw_iload_n dX4_requestFact_15 rfl ?_
      refine aw_aload_n dX4_requestFact_16 rfl ?_
      refine aw_getr (x := (o + 6)) dX4_requestFact_17 ci4 (by decide) fX4_21 (by have := st_lt ho; omega) (st_sh0 ho) rfl (st_r0 ho hHR 1) ?_
      refine aw_V0x dX4_requestFact_20 clX4_87 ⟨by decide, by decide⟩ (c := 2) (N := 5) (by have := st_lt ho; omega) (st_sh ho 6) rfl (c_X2_size ho hHR) (by decide) (by decide) rfl rfl (by simp only [List.length_cons, List.length_nil]; omega) ?_
      refine aw_ic_lt (tgt := 29) dX4_requestFact_23 (by decide) hi2 ⟨by omega, by omega⟩ (fun h23 => ?_) (fun h23 => ?_)
      · refine aw_iload_n dX4_requestFact_29 rfl ?_
        refine aw_if_ne (tgt := 42) dX4_requestFact_30 (by decide) hw (fun h30 => ?_) (fun h30 => ?_)
        · refine aw_iload_n dX4_requestFact_42 rfl ?_
          refine aw_iconst dX4_requestFact_43 ?_
          refine aw_ic_ne (tgt := 58) dX4_requestFact_44 (by decide) hw ⟨by decide, by decide⟩ (fun h44 => ?_) (fun h44 => ?_)
          · refine aw_aload_n dX4_requestFact_58 rfl ?_
            refine aw_getr (x := (o + 6)) dX4_requestFact_59 ci4 (by decide) fX4_21 (by have := st_lt ho; omega) (st_sh0 ho) rfl (st_r0 ho hHR 1) ?_
            refine aw_iload_n dX4_requestFact_62 rfl ?_
            refine aw_V1x dX4_requestFact_63 clX4_139 ⟨by decide, by decide⟩ (c := 2) (N := 5) (by have := st_lt ho; omega) (st_sh ho 6) rfl (c_X2_urgency ho hHR hi2) (by decide) (by decide) rfl rfl (by simp only [List.length_cons, List.length_nil]; omega) ?_
            refine aw_iret dX4_requestFact_66 rfl (by decide) (by decide) ?_
            have g := hQ.2 i (by omega) (by omega)
            have ew : w = 2 := by omega
            subst ew
            have el : ruF t i = t 9 i := by unfold ruF; rw [if_pos ⟨by omega, by omega⟩]
            exact exI (by rw [el, g.2.2.1]; unfold wtF; rw [if_neg (fun g => g.elim (fun q => h1 q) (fun q => q h10)), if_pos (by omega)])
          · refine aw_aload_n dX4_requestFact_47 rfl ?_
            refine aw_getr (x := (o + 6)) dX4_requestFact_48 ci4 (by decide) fX4_21 (by have := st_lt ho; omega) (st_sh0 ho) rfl (st_r0 ho hHR 1) ?_
            refine aw_iload_n dX4_requestFact_51 rfl ?_
            refine aw_V1x dX4_requestFact_52 clX4_192 ⟨by decide, by decide⟩ (c := 2) (N := 5) (by have := st_lt ho; omega) (st_sh ho 6) rfl (c_X2_value ho hHR hi2) (by decide) (by decide) rfl rfl (by simp only [List.length_cons, List.length_nil]; omega) ?_
            refine aw_goto (tgt := 66) dX4_requestFact_55 (by decide) ?_
            refine aw_iret dX4_requestFact_66 rfl (by decide) (by decide) ?_
            have g := hQ.2 i (by omega) (by omega)
            have ew : w = 1 := by omega
            subst ew
            have el : rvF t i = t 8 i := by unfold rvF; rw [if_pos ⟨by omega, by omega⟩]
            exact exI (by rw [el, g.2.1]; unfold wtF; rw [if_neg (fun g => g.elim (fun q => h1 q) (fun q => q h10)), if_pos (by omega)])
        · refine aw_aload_n dX4_requestFact_33 rfl ?_
          refine aw_getr (x := (o + 6)) dX4_requestFact_34 ci4 (by decide) fX4_21 (by have := st_lt ho; omega) (st_sh0 ho) rfl (st_r0 ho hHR 1) ?_
          refine aw_iload_n dX4_requestFact_37 rfl ?_
          refine aw_V1x dX4_requestFact_38 clX4_143 ⟨by decide, by decide⟩ (c := 2) (N := 5) (by have := st_lt ho; omega) (st_sh ho 6) rfl (c_X2_key ho hHR hi2) (by decide) (by decide) rfl rfl (by simp only [List.length_cons, List.length_nil]; omega) ?_
          refine aw_iret dX4_requestFact_41 rfl (by decide) (by decide) ?_
          have g := hQ.2 i (by omega) (by omega)
          have ew : w = 0 := by omega
          subst ew
          have el : rkF t i = t 7 i := by unfold rkF; rw [if_pos ⟨by omega, by omega⟩]
          exact exI (by rw [el, g.1]; unfold wtF; rw [if_neg (fun g => g.elim (fun q => h1 q) (fun q => q h10)), if_pos (by omega), Int.add_zero])
      · refine aw_bipush dX4_requestFact_26 (by decide) ?_
        refine aw_iret dX4_requestFact_28 rfl (by decide) (by decide) ?_
        exact exI (by unfold wtF; rw [if_neg (fun g => g.elim (fun q => h1 q) (fun q => q h10)), if_neg (by omega)])
    · refine aw_iconst dX4_requestFact_13 ?_
      refine aw_iret dX4_requestFact_14 rfl (by decide) (by decide) ?_
      rw [in0] at h10
      exact exI (by unfold wtF; rw [if_pos (Or.inr h10)])
end CLSC
