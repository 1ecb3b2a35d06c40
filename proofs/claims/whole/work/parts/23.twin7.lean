/-! the twin's questions -/
section TWIN7
variable {E : ET} {hi X : HI} {hr : HR} {f p b s : Int → Int}
set_option maxRecDepth 100000 in
set_option maxHeartbeats 4000000 in
theorem c_X9_isKey {key : Int} (hk : InR key) : AMet E M_X9_isKey [aI key] hi hr 131 (EX (some (aI (if 0 ≤ key ∧ key ≤ 11 then 1 else 0))) hi hr 131) := by
  refine am_of (by decide +kernel) (Nat.le_of_ble_eq_true rfl) ?_
  refine aw_iload_n dX9_isKey_0 rfl ?_
  refine aw_iconst dX9_isKey_1 ?_
  refine aw_bipush dX9_isKey_2 (by decide) ?_
  refine aw_S3x dX9_isKey_4 clX9_32 ⟨by decide, by decide⟩ (c_X9_in hk ⟨by decide, by decide⟩ ⟨by decide, by decide⟩) (by decide) (by decide) rfl rfl (by simp only [List.length_cons, List.length_nil]; omega) ?_
  refine aw_zret dX9_isKey_7 rfl (by by_cases q : 0 ≤ key ∧ key ≤ 11 <;> simp [q]) (by decide) (by decide) ?_
  exact EX.rf
set_option maxRecDepth 100000 in
set_option maxHeartbeats 4000000 in
theorem c_X9_read {key : Int} (hHR : HRk hr) (hM : MI s) (hk : InR key) : AMet E M_X9_read [aR 125, aI key] (pa 126 hi s) hr 131 (EX (some (aI (rdF s key))) (pa 126 hi (s)) hr 131) := by
  refine am_of (by decide +kernel) (Nat.le_of_ble_eq_true rfl) ?_
  have hpl := plc_b s key
  refine aw_iload_n dX9_read_0 rfl ?_
  refine aw_S1x dX9_read_1 clX9_162 ⟨by decide, by decide⟩ (c_X9_isKey hk) (by decide) (by decide) rfl rfl (by simp only [List.length_cons, List.length_nil]; omega) ?_
  refine aw_if_ne (tgt := 9) dX9_read_4 (by decide) in_r (fun h4 => ?_) (fun h4 => ?_)
  · refine aw_aload_n dX9_read_9 rfl ?_
    refine aw_iload_n dX9_read_10 rfl ?_
    refine aw_V1x dX9_read_11 clX9_51 ⟨by decide, by decide⟩ (c := 9) (N := 11) (by decide) (by decide +kernel) rfl (c_X9_placeOfKey hHR hM hk) (by decide) (by decide) rfl rfl (by simp only [List.length_cons, List.length_nil]; omega) ?_
    refine aw_istore_n (ls2 := [_, _, _]) dX9_read_14 (by decide) rfl ?_
    refine aw_iload_n dX9_read_15 rfl ?_
    refine aw_if_ge (tgt := 24) dX9_read_16 (by decide) ⟨by omega, by omega⟩ (fun h16 => ?_) (fun h16 => ?_)
    · refine aw_aload_n dX9_read_24 rfl ?_
      refine aw_getr (x := 126) dX9_read_25 ci9 (by decide) fX9_7 (by decide) (by decide +kernel) rfl ((hHR 125 0 (by decide) (by decide +kernel)).trans rfl) ?_
      refine aw_aload_n dX9_read_28 rfl ?_
      refine aw_iload_n dX9_read_29 rfl ?_
      refine aw_V1x dX9_read_30 clX9_44 ⟨by decide, by decide⟩ (c := 9) (N := 11) (by decide) (by decide +kernel) rfl (c_X9_atPlace (c := plc s key) (by omega) (by omega)) (by decide) (by decide) rfl rfl (by simp only [List.length_cons, List.length_nil]; omega) ?_
      refine aw_iconst dX9_read_33 ?_
      refine aw_iadd dX9_read_34 ?_
      refine aw_iald (N := 256) dX9_read_35 (Or.inl ⟨(by decide), (by decide +kernel)⟩) (by have := atI_b (c := plc s key) (by omega) (by omega); omega) (by have := atI_b (c := plc s key) (by omega) (by omega); omega) (by decide) (pa_gi 126 _ _ (by have := atI_b (c := plc s key) (by omega) (by omega); omega)) ?_
      refine aw_iret dX9_read_36 rfl (by decide) (by decide) ?_
      rw [in0, Classical.not_not] at h4
      exact exI (by unfold rdF; rw [if_neg (by omega), if_neg (by omega)])
    · refine aw_bipush dX9_read_19 (by decide) ?_
      refine aw_goto (tgt := 36) dX9_read_21 (by decide) ?_
      refine aw_iret dX9_read_36 rfl (by decide) (by decide) ?_
      rw [in0, Classical.not_not] at h4
      exact exI (by unfold rdF; rw [if_neg (by omega), if_pos (by omega)])
  · refine aw_iconst dX9_read_7 ?_
    refine aw_iret dX9_read_8 rfl (by decide) (by decide) ?_
    rw [in0] at h4
    exact exI (by unfold rdF; rw [if_pos h4])
set_option maxRecDepth 100000 in
set_option maxHeartbeats 4000000 in
theorem c_X9_placeOf {key w : Int} (hHR : HRk hr) (hM : MI s) (hk : InR key) (hw : InR w) : AMet E M_X9_placeOf [aR 125, aI key, aI w] (pa 126 hi s) hr 131 (EX (some (aI (poF s key w))) (pa 126 hi (s)) hr 131) := by
  refine am_of (by decide +kernel) (Nat.le_of_ble_eq_true rfl) ?_
  have hpl := plc_b s key
  refine aw_iload_n dX9_placeOf_0 rfl ?_
  refine aw_S1x dX9_placeOf_1 clX9_162 ⟨by decide, by decide⟩ (c_X9_isKey hk) (by decide) (by decide) rfl rfl (by simp only [List.length_cons, List.length_nil]; omega) ?_
  refine aw_if_eq (tgt := 16) dX9_placeOf_4 (by decide) in_r (fun h4 => ?_) (fun h4 => ?_)
  · refine aw_iconst dX9_placeOf_16 ?_
    refine aw_iret dX9_placeOf_17 rfl (by decide) (by decide) ?_
    rw [in0] at h4
    exact exI (by unfold poF; rw [if_pos (by omega)])
  · refine aw_iload_n dX9_placeOf_7 rfl ?_
    refine aw_iconst dX9_placeOf_8 ?_
    refine aw_iconst dX9_placeOf_9 ?_
    refine aw_S3x dX9_placeOf_10 clX9_32 ⟨by decide, by decide⟩ (c_X9_in hw ⟨by decide, by decide⟩ ⟨by decide, by decide⟩) (by decide) (by decide) rfl rfl (by simp only [List.length_cons, List.length_nil]; omega) ?_
    refine aw_if_ne (tgt := 18) dX9_placeOf_13 (by decide) in_r (fun h13 => ?_) (fun h13 => ?_)
    · refine aw_aload_n dX9_placeOf_18 rfl ?_
      refine aw_iload_n dX9_placeOf_19 rfl ?_
      refine aw_V1x dX9_placeOf_20 clX9_51 ⟨by decide, by decide⟩ (c := 9) (N := 11) (by decide) (by decide +kernel) rfl (c_X9_placeOfKey hHR hM hk) (by decide) (by decide) rfl rfl (by simp only [List.length_cons, List.length_nil]; omega) ?_
      refine aw_istore_n (ls2 := [_, _, _, _]) dX9_placeOf_23 (by decide) rfl ?_
      refine aw_iload_n dX9_placeOf_24 rfl ?_
      refine aw_if_ge (tgt := 31) dX9_placeOf_25 (by decide) ⟨by omega, by omega⟩ (fun h25 => ?_) (fun h25 => ?_)
      · refine aw_iload_n dX9_placeOf_31 rfl ?_
        refine aw_if_ne (tgt := 42) dX9_placeOf_32 (by decide) hw (fun h32 => ?_) (fun h32 => ?_)
        · refine aw_iload_n dX9_placeOf_42 rfl ?_
          refine aw_iconst dX9_placeOf_43 ?_
          refine aw_ic_ne (tgt := 54) dX9_placeOf_44 (by decide) hw ⟨by decide, by decide⟩ (fun h44 => ?_) (fun h44 => ?_)
          · refine aw_aload_n dX9_placeOf_54 rfl ?_
            refine aw_getr (x := 126) dX9_placeOf_55 ci9 (by decide) fX9_7 (by decide) (by decide +kernel) rfl ((hHR 125 0 (by decide) (by decide +kernel)).trans rfl) ?_
            refine aw_aload_n dX9_placeOf_58 rfl ?_
            refine aw_iload_n dX9_placeOf_59 rfl ?_
            refine aw_V1x dX9_placeOf_60 clX9_44 ⟨by decide, by decide⟩ (c := 9) (N := 11) (by decide) (by decide +kernel) rfl (c_X9_atPlace (c := plc s key) (by omega) (by omega)) (by decide) (by decide) rfl rfl (by simp only [List.length_cons, List.length_nil]; omega) ?_
            refine aw_iconst dX9_placeOf_63 ?_
            refine aw_iadd dX9_placeOf_64 ?_
            refine aw_iald (N := 256) dX9_placeOf_65 (Or.inl ⟨(by decide), (by decide +kernel)⟩) (by have := atI_b (c := plc s key) (by omega) (by omega); omega) (by have := atI_b (c := plc s key) (by omega) (by omega); omega) (by decide) (pa_gi 126 _ _ (by have := atI_b (c := plc s key) (by omega) (by omega); omega)) ?_
            refine aw_iret dX9_placeOf_66 rfl (by decide) (by decide) ?_
            rw [in0, Classical.not_not] at h4
            rw [in0, Classical.not_not] at h13
            exact exI (by unfold poF; rw [if_neg (by omega), if_neg (by omega), if_neg (by omega), if_neg (by omega)])
          · refine aw_iload_n dX9_placeOf_47 rfl ?_
            refine aw_bipush dX9_placeOf_48 (by decide) ?_
            refine aw_irem dX9_placeOf_50 (by omega) ⟨by omega, by omega⟩ (by decide) ⟨by decide, by decide⟩ ?_
            refine aw_goto (tgt := 66) dX9_placeOf_51 (by decide) ?_
            refine aw_iret dX9_placeOf_66 rfl (by decide) (by decide) ?_
            rw [in0, Classical.not_not] at h4
            rw [in0, Classical.not_not] at h13
            exact exI (by unfold poF; rw [if_neg (by omega), if_neg (by omega), if_neg (by omega), if_pos (by omega)])
        · refine aw_iload_n dX9_placeOf_35 rfl ?_
          refine aw_bipush dX9_placeOf_36 (by decide) ?_
          refine aw_idiv dX9_placeOf_38 (by omega) ⟨by omega, by omega⟩ (by decide) ⟨by decide, by decide⟩ ?_
          refine aw_goto (tgt := 66) dX9_placeOf_39 (by decide) ?_
          refine aw_iret dX9_placeOf_66 rfl (by decide) (by decide) ?_
          rw [in0, Classical.not_not] at h4
          rw [in0, Classical.not_not] at h13
          exact exI (by unfold poF; rw [if_neg (by omega), if_neg (by omega), if_pos (by omega)])
      · refine aw_bipush dX9_placeOf_28 (by decide) ?_
        refine aw_iret dX9_placeOf_30 rfl (by decide) (by decide) ?_
        rw [in0, Classical.not_not] at h4
        rw [in0, Classical.not_not] at h13
        exact exI (by unfold poF; rw [if_neg (by omega), if_pos (by omega)])
    · refine aw_iconst dX9_placeOf_16 ?_
      refine aw_iret dX9_placeOf_17 rfl (by decide) (by decide) ?_
      rw [in0, Classical.not_not] at h4
      rw [in0] at h13
      exact exI (by unfold poF; rw [if_pos (by omega)])
set_option maxRecDepth 100000 in
set_option maxHeartbeats 4000000 in
theorem c_X9_pageOf {b0 p0 w : Int} (hHR : HRk hr) (hM : MI s) (hb : InR b0) (hp : InR p0) (hw : InR w) : AMet E M_X9_pageOf [aR 125, aI b0, aI p0, aI w] (pa 126 hi s) hr 131 (EX (some (aI (pgF s b0 p0 w))) (pa 126 hi (s)) hr 131) := by
  refine am_of (by decide +kernel) (Nat.le_of_ble_eq_true rfl) ?_
  refine aw_iload_n dX9_pageOf_0 rfl ?_
  refine aw_S1x dX9_pageOf_1 clX9_128 ⟨by decide, by decide⟩ (c_X9_isBlock hb) (by decide) (by decide) rfl rfl (by simp only [List.length_cons, List.length_nil]; omega) ?_
  refine aw_if_eq (tgt := 26) dX9_pageOf_4 (by decide) in_r (fun h4 => ?_) (fun h4 => ?_)
  · refine aw_iconst dX9_pageOf_26 ?_
    refine aw_iret dX9_pageOf_27 rfl (by decide) (by decide) ?_
    rw [in0] at h4
    exact exI (by unfold pgF; rw [if_pos (by omega)])
  · refine aw_iload_n dX9_pageOf_7 rfl ?_
    refine aw_iconst dX9_pageOf_8 ?_
    refine aw_bipush dX9_pageOf_9 (by decide) ?_
    refine aw_S3x dX9_pageOf_11 clX9_32 ⟨by decide, by decide⟩ (c_X9_in hp ⟨by decide, by decide⟩ ⟨by decide, by decide⟩) (by decide) (by decide) rfl rfl (by simp only [List.length_cons, List.length_nil]; omega) ?_
    refine aw_if_eq (tgt := 26) dX9_pageOf_14 (by decide) in_r (fun h14 => ?_) (fun h14 => ?_)
    · refine aw_iconst dX9_pageOf_26 ?_
      refine aw_iret dX9_pageOf_27 rfl (by decide) (by decide) ?_
      rw [in0, Classical.not_not] at h4
      rw [in0] at h14
      exact exI (by unfold pgF; rw [if_pos (by omega)])
    · refine aw_iload_n dX9_pageOf_17 rfl ?_
      refine aw_iconst dX9_pageOf_18 ?_
      refine aw_iconst dX9_pageOf_19 ?_
      refine aw_S3x dX9_pageOf_20 clX9_32 ⟨by decide, by decide⟩ (c_X9_in hw ⟨by decide, by decide⟩ ⟨by decide, by decide⟩) (by decide) (by decide) rfl rfl (by simp only [List.length_cons, List.length_nil]; omega) ?_
      refine aw_if_ne (tgt := 28) dX9_pageOf_23 (by decide) in_r (fun h23 => ?_) (fun h23 => ?_)
      · refine aw_aload_n dX9_pageOf_28 rfl ?_
        refine aw_iload_n dX9_pageOf_29 rfl ?_
        refine aw_iload_n dX9_pageOf_30 rfl ?_
        refine aw_V2x dX9_pageOf_31 clX9_40 ⟨by decide, by decide⟩ (c := 9) (N := 11) (by decide) (by decide +kernel) rfl c_X9_pageAt (by decide) (by decide) rfl rfl (by simp only [List.length_cons, List.length_nil]; omega) ?_
        refine aw_istore (ls2 := [_, _, _, _, _]) dX9_pageOf_34 (by decide) rfl ?_
        refine aw_iload_n dX9_pageOf_36 rfl ?_
        rw [in0, Classical.not_not] at h4 h14 h23
        have hb4 : 0 ≤ 24 + 4 * (16 * b0 + p0) ∧ 24 + 4 * (16 * b0 + p0) + 5 < 256 := by omega
        rcases (show w = 0 ∨ w = 1 ∨ w = 2 ∨ w = 3 ∨ w = 4 ∨ w = 5 by omega) with rfl | rfl | rfl | rfl | rfl | rfl
        · refine aw_look (tgt := 72) (off := 35) dX9_pageOf_37 ⟨by decide, by decide⟩ (by decide +kernel) (by decide +kernel) (by decide) ?_
          refine aw_aload_n dX9_pageOf_72 rfl ?_
          refine aw_getr (x := 126) dX9_pageOf_73 ci9 (by decide) fX9_7 (by decide) (by decide +kernel) rfl ((hHR 125 0 (by decide) (by decide +kernel)).trans rfl) ?_
          refine aw_iload dX9_pageOf_76 rfl ?_
          refine aw_iald (N := 256) dX9_pageOf_78 (Or.inl ⟨(by decide), (by decide +kernel)⟩) (by omega) (by omega) (by decide) (pa_gi 126 _ _ (by omega)) ?_
          refine aw_iret dX9_pageOf_79 rfl (by decide) (by decide) ?_
          exact exI (by unfold pgF; rw [if_neg (by omega), if_pos (by decide)])
        · refine aw_look (tgt := 98) (off := 61) dX9_pageOf_37 ⟨by decide, by decide⟩ (by decide +kernel) (by decide +kernel) (by decide) ?_
          refine aw_aload_n dX9_pageOf_98 rfl ?_
          refine aw_getr (x := 126) dX9_pageOf_99 ci9 (by decide) fX9_7 (by decide) (by decide +kernel) rfl ((hHR 125 0 (by decide) (by decide +kernel)).trans rfl) ?_
          refine aw_iload dX9_pageOf_102 rfl ?_
          refine aw_iald (N := 256) dX9_pageOf_104 (Or.inl ⟨(by decide), (by decide +kernel)⟩) (by omega) (by omega) (by decide) (pa_gi 126 _ _ (by omega)) ?_
          refine aw_iconst dX9_pageOf_105 ?_
          refine aw_ic_ne (tgt := 121) dX9_pageOf_106 (by decide) (hM.r _ (by unfold xc; omega)) ⟨by decide, by decide⟩ (fun h106 => ?_) (fun h106 => ?_)
          · refine aw_bipush dX9_pageOf_121 (by decide) ?_
            refine aw_iret dX9_pageOf_123 rfl (by decide) (by decide) ?_
            exact exI (by unfold pgF; rw [if_neg (by omega), if_neg (by decide), if_neg (by decide), if_neg (by decide), if_neg (by omega)])
          · refine aw_aload_n dX9_pageOf_109 rfl ?_
            refine aw_getr (x := 126) dX9_pageOf_110 ci9 (by decide) fX9_7 (by decide) (by decide +kernel) rfl ((hHR 125 0 (by decide) (by decide +kernel)).trans rfl) ?_
            refine aw_iload dX9_pageOf_113 rfl ?_
            refine aw_iload_n dX9_pageOf_115 rfl ?_
            refine aw_iadd dX9_pageOf_116 ?_
            refine aw_iald (N := 256) dX9_pageOf_117 (Or.inl ⟨(by decide), (by decide +kernel)⟩) (by omega) (by omega) (by decide) (pa_gi 126 _ _ (by omega)) ?_
            refine aw_goto (tgt := 123) dX9_pageOf_118 (by decide) ?_
            refine aw_iret dX9_pageOf_123 rfl (by decide) (by decide) ?_
            exact exI (by unfold pgF; rw [if_neg (by omega), if_neg (by decide), if_neg (by decide), if_neg (by decide), if_pos (by omega)])
        · refine aw_look (tgt := 98) (off := 61) dX9_pageOf_37 ⟨by decide, by decide⟩ (by decide +kernel) (by decide +kernel) (by decide) ?_
          refine aw_aload_n dX9_pageOf_98 rfl ?_
          refine aw_getr (x := 126) dX9_pageOf_99 ci9 (by decide) fX9_7 (by decide) (by decide +kernel) rfl ((hHR 125 0 (by decide) (by decide +kernel)).trans rfl) ?_
          refine aw_iload dX9_pageOf_102 rfl ?_
          refine aw_iald (N := 256) dX9_pageOf_104 (Or.inl ⟨(by decide), (by decide +kernel)⟩) (by omega) (by omega) (by decide) (pa_gi 126 _ _ (by omega)) ?_
          refine aw_iconst dX9_pageOf_105 ?_
          refine aw_ic_ne (tgt := 121) dX9_pageOf_106 (by decide) (hM.r _ (by unfold xc; omega)) ⟨by decide, by decide⟩ (fun h106 => ?_) (fun h106 => ?_)
          · refine aw_bipush dX9_pageOf_121 (by decide) ?_
            refine aw_iret dX9_pageOf_123 rfl (by decide) (by decide) ?_
            exact exI (by unfold pgF; rw [if_neg (by omega), if_neg (by decide), if_neg (by decide), if_neg (by decide), if_neg (by omega)])
          · refine aw_aload_n dX9_pageOf_109 rfl ?_
            refine aw_getr (x := 126) dX9_pageOf_110 ci9 (by decide) fX9_7 (by decide) (by decide +kernel) rfl ((hHR 125 0 (by decide) (by decide +kernel)).trans rfl) ?_
            refine aw_iload dX9_pageOf_113 rfl ?_
            refine aw_iload_n dX9_pageOf_115 rfl ?_
            refine aw_iadd dX9_pageOf_116 ?_
            refine aw_iald (N := 256) dX9_pageOf_117 (Or.inl ⟨(by decide), (by decide +kernel)⟩) (by omega) (by omega) (by decide) (pa_gi 126 _ _ (by omega)) ?_
            refine aw_goto (tgt := 123) dX9_pageOf_118 (by decide) ?_
            refine aw_iret dX9_pageOf_123 rfl (by decide) (by decide) ?_
            exact exI (by unfold pgF; rw [if_neg (by omega), if_neg (by decide), if_neg (by decide), if_neg (by decide), if_pos (by omega)])
        · refine aw_look (tgt := 98) (off := 61) dX9_pageOf_37 ⟨by decide, by decide⟩ (by decide +kernel) (by decide +kernel) (by decide) ?_
          refine aw_aload_n dX9_pageOf_98 rfl ?_
          refine aw_getr (x := 126) dX9_pageOf_99 ci9 (by decide) fX9_7 (by decide) (by decide +kernel) rfl ((hHR 125 0 (by decide) (by decide +kernel)).trans rfl) ?_
          refine aw_iload dX9_pageOf_102 rfl ?_
          refine aw_iald (N := 256) dX9_pageOf_104 (Or.inl ⟨(by decide), (by decide +kernel)⟩) (by omega) (by omega) (by decide) (pa_gi 126 _ _ (by omega)) ?_
          refine aw_iconst dX9_pageOf_105 ?_
          refine aw_ic_ne (tgt := 121) dX9_pageOf_106 (by decide) (hM.r _ (by unfold xc; omega)) ⟨by decide, by decide⟩ (fun h106 => ?_) (fun h106 => ?_)
          · refine aw_bipush dX9_pageOf_121 (by decide) ?_
            refine aw_iret dX9_pageOf_123 rfl (by decide) (by decide) ?_
            exact exI (by unfold pgF; rw [if_neg (by omega), if_neg (by decide), if_neg (by decide), if_neg (by decide), if_neg (by omega)])
          · refine aw_aload_n dX9_pageOf_109 rfl ?_
            refine aw_getr (x := 126) dX9_pageOf_110 ci9 (by decide) fX9_7 (by decide) (by decide +kernel) rfl ((hHR 125 0 (by decide) (by decide +kernel)).trans rfl) ?_
            refine aw_iload dX9_pageOf_113 rfl ?_
            refine aw_iload_n dX9_pageOf_115 rfl ?_
            refine aw_iadd dX9_pageOf_116 ?_
            refine aw_iald (N := 256) dX9_pageOf_117 (Or.inl ⟨(by decide), (by decide +kernel)⟩) (by omega) (by omega) (by decide) (pa_gi 126 _ _ (by omega)) ?_
            refine aw_goto (tgt := 123) dX9_pageOf_118 (by decide) ?_
            refine aw_iret dX9_pageOf_123 rfl (by decide) (by decide) ?_
            exact exI (by unfold pgF; rw [if_neg (by omega), if_neg (by decide), if_neg (by decide), if_neg (by decide), if_pos (by omega)])
        · refine aw_look (tgt := 80) (off := 43) dX9_pageOf_37 ⟨by decide, by decide⟩ (by decide +kernel) (by decide +kernel) (by decide) ?_
          refine aw_iload_n dX9_pageOf_80 rfl ?_
          refine aw_S1x dX9_pageOf_81 clX9_64 ⟨by decide, by decide⟩ (c_X9_lineOf (by omega) (by omega)) (by decide) (by decide) rfl rfl (by simp only [List.length_cons, List.length_nil]; omega) ?_
          refine aw_iret dX9_pageOf_84 rfl (by decide) (by decide) ?_
          exact exI (by unfold pgF; rw [if_neg (by omega), if_neg (by decide), if_pos (by decide)])
        · refine aw_look (tgt := 85) (off := 48) dX9_pageOf_37 ⟨by decide, by decide⟩ (by decide +kernel) (by decide +kernel) (by decide) ?_
          refine aw_iload_n dX9_pageOf_85 rfl ?_
          refine aw_S1x dX9_pageOf_86 clX9_36 ⟨by decide, by decide⟩ (c_X9_isLate (p := p0) hp) (by decide) (by decide) rfl rfl (by simp only [List.length_cons, List.length_nil]; omega) ?_
          refine aw_if_eq (tgt := 96) dX9_pageOf_89 (by decide) (by rcases lat_b p0 with q | q <;> rw [q] <;> exact ⟨by decide, by decide⟩) (fun h89 => ?_) (fun h89 => ?_)
          · refine aw_iconst dX9_pageOf_96 ?_
            refine aw_iret dX9_pageOf_97 rfl (by decide) (by decide) ?_
            exact exI (by unfold pgF; rw [if_neg (by omega), if_neg (by decide), if_neg (by decide), if_pos (by decide)]; rcases lat_b p0 with q | q <;> omega)
          · refine aw_iconst dX9_pageOf_92 ?_
            refine aw_goto (tgt := 97) dX9_pageOf_93 (by decide) ?_
            refine aw_iret dX9_pageOf_97 rfl (by decide) (by decide) ?_
            exact exI (by unfold pgF; rw [if_neg (by omega), if_neg (by decide), if_neg (by decide), if_pos (by decide)]; rcases lat_b p0 with q | q <;> omega)
      · refine aw_iconst dX9_pageOf_26 ?_
        refine aw_iret dX9_pageOf_27 rfl (by decide) (by decide) ?_
        rw [in0, Classical.not_not] at h4
        rw [in0, Classical.not_not] at h14
        rw [in0] at h23
        exact exI (by unfold pgF; rw [if_pos (by omega)])
set_option maxRecDepth 100000 in
set_option maxHeartbeats 4000000 in
theorem c_X9_backupOf {b0 p0 w : Int} (hHR : HRk hr) (hM : MI s) (hb : InR b0) (hp : InR p0) (hw : InR w) : AMet E M_X9_backupOf [aR 125, aI b0, aI p0, aI w] (pa 126 hi s) hr 131 (EX (some (aI (bpF s b0 p0 w))) (pa 126 hi (s)) hr 131) := by
  refine am_of (by decide +kernel) (Nat.le_of_ble_eq_true rfl) ?_
  refine aw_iload_n dX9_backupOf_0 rfl ?_
  refine aw_S1x dX9_backupOf_1 clX9_128 ⟨by decide, by decide⟩ (c_X9_isBlock hb) (by decide) (by decide) rfl rfl (by simp only [List.length_cons, List.length_nil]; omega) ?_
  refine aw_if_eq (tgt := 26) dX9_backupOf_4 (by decide) in_r (fun h4 => ?_) (fun h4 => ?_)
  · refine aw_iconst dX9_backupOf_26 ?_
    refine aw_iret dX9_backupOf_27 rfl (by decide) (by decide) ?_
    rw [in0] at h4
    exact exI (by unfold bpF; rw [if_pos (by omega)])
  · refine aw_iload_n dX9_backupOf_7 rfl ?_
    refine aw_iconst dX9_backupOf_8 ?_
    refine aw_bipush dX9_backupOf_9 (by decide) ?_
    refine aw_S3x dX9_backupOf_11 clX9_32 ⟨by decide, by decide⟩ (c_X9_in hp ⟨by decide, by decide⟩ ⟨by decide, by decide⟩) (by decide) (by decide) rfl rfl (by simp only [List.length_cons, List.length_nil]; omega) ?_
    refine aw_if_eq (tgt := 26) dX9_backupOf_14 (by decide) in_r (fun h14 => ?_) (fun h14 => ?_)
    · refine aw_iconst dX9_backupOf_26 ?_
      refine aw_iret dX9_backupOf_27 rfl (by decide) (by decide) ?_
      rw [in0, Classical.not_not] at h4
      rw [in0] at h14
      exact exI (by unfold bpF; rw [if_pos (by omega)])
    · refine aw_iload_n dX9_backupOf_17 rfl ?_
      refine aw_iconst dX9_backupOf_18 ?_
      refine aw_iconst dX9_backupOf_19 ?_
      refine aw_S3x dX9_backupOf_20 clX9_32 ⟨by decide, by decide⟩ (c_X9_in hw ⟨by decide, by decide⟩ ⟨by decide, by decide⟩) (by decide) (by decide) rfl rfl (by simp only [List.length_cons, List.length_nil]; omega) ?_
      refine aw_if_ne (tgt := 28) dX9_backupOf_23 (by decide) in_r (fun h23 => ?_) (fun h23 => ?_)
      · rw [in0, Classical.not_not] at h4 h14 h23
        refine aw_aload_n dX9_backupOf_28 rfl ?_
        refine aw_iload_n dX9_backupOf_29 rfl ?_
        refine aw_iload_n dX9_backupOf_30 rfl ?_
        refine aw_V2x dX9_backupOf_31 clX9_48 ⟨by decide, by decide⟩ (c := 9) (N := 11) (by decide) (by decide +kernel) rfl c_X9_backupAt (by decide) (by decide) rfl rfl (by simp only [List.length_cons, List.length_nil]; omega) ?_
        refine aw_istore (ls2 := [_, _, _, _, _]) dX9_backupOf_34 (by decide) rfl ?_
        refine aw_aload_n dX9_backupOf_36 rfl ?_
        refine aw_getr (x := 126) dX9_backupOf_37 ci9 (by decide) fX9_7 (by decide) (by decide +kernel) rfl ((hHR 125 0 (by decide) (by decide +kernel)).trans rfl) ?_
        refine aw_iload dX9_backupOf_40 rfl ?_
        refine aw_iald (N := 256) dX9_backupOf_42 (Or.inl ⟨(by decide), (by decide +kernel)⟩) (by omega) (by omega) (by decide) (pa_gi 126 _ _ (by omega)) ?_
        refine aw_if_ne (tgt := 51) dX9_backupOf_43 (by decide) (hM.r _ (by unfold xc; omega)) (fun h43 => ?_) (fun h43 => ?_)
        · refine aw_iload_n dX9_backupOf_51 rfl ?_
          refine aw_if_le (tgt := 67) dX9_backupOf_52 (by decide) hw (fun h52 => ?_) (fun h52 => ?_)
          · refine aw_aload_n dX9_backupOf_67 rfl ?_
            refine aw_getr (x := 126) dX9_backupOf_68 ci9 (by decide) fX9_7 (by decide) (by decide +kernel) rfl ((hHR 125 0 (by decide) (by decide +kernel)).trans rfl) ?_
            refine aw_iload dX9_backupOf_71 rfl ?_
            refine aw_iald (N := 256) dX9_backupOf_73 (Or.inl ⟨(by decide), (by decide +kernel)⟩) (by omega) (by omega) (by decide) (pa_gi 126 _ _ (by omega)) ?_
            refine aw_iconst dX9_backupOf_74 ?_
            refine aw_ic_ne (tgt := 82) dX9_backupOf_75 (by decide) (hM.r _ (by unfold xc; omega)) ⟨by decide, by decide⟩ (fun h75 => ?_) (fun h75 => ?_)
            · refine aw_iconst dX9_backupOf_82 ?_
              refine aw_iret dX9_backupOf_83 rfl (by decide) (by decide) ?_
              exact exI (by unfold bpF; rw [if_neg (by omega), if_neg (by omega), if_neg (by omega), if_neg (by omega)])
            · refine aw_iconst dX9_backupOf_78 ?_
              refine aw_goto (tgt := 83) dX9_backupOf_79 (by decide) ?_
              refine aw_iret dX9_backupOf_83 rfl (by decide) (by decide) ?_
              exact exI (by unfold bpF; rw [if_neg (by omega), if_neg (by omega), if_neg (by omega), if_pos (by omega)])
          · refine aw_aload_n dX9_backupOf_55 rfl ?_
            refine aw_getr (x := 126) dX9_backupOf_56 ci9 (by decide) fX9_7 (by decide) (by decide +kernel) rfl ((hHR 125 0 (by decide) (by decide +kernel)).trans rfl) ?_
            refine aw_iload dX9_backupOf_59 rfl ?_
            refine aw_iload_n dX9_backupOf_61 rfl ?_
            refine aw_iadd dX9_backupOf_62 ?_
            refine aw_iald (N := 256) dX9_backupOf_63 (Or.inl ⟨(by decide), (by decide +kernel)⟩) (by omega) (by omega) (by decide) (pa_gi 126 _ _ (by omega)) ?_
            refine aw_goto (tgt := 83) dX9_backupOf_64 (by decide) ?_
            refine aw_iret dX9_backupOf_83 rfl (by decide) (by decide) ?_
            exact exI (by unfold bpF; rw [if_neg (by omega), if_neg (by omega), if_pos (by omega)])
        · refine aw_bipush dX9_backupOf_46 (by decide) ?_
          refine aw_goto (tgt := 83) dX9_backupOf_48 (by decide) ?_
          refine aw_iret dX9_backupOf_83 rfl (by decide) (by decide) ?_
          exact exI (by unfold bpF; rw [if_neg (by omega), if_pos (by omega)])
      · refine aw_iconst dX9_backupOf_26 ?_
        refine aw_iret dX9_backupOf_27 rfl (by decide) (by decide) ?_
        rw [in0, Classical.not_not] at h4
        rw [in0, Classical.not_not] at h14
        rw [in0] at h23
        exact exI (by unfold bpF; rw [if_pos (by omega)])
set_option maxRecDepth 100000 in
set_option maxHeartbeats 4000000 in
theorem c_X9_waits {i w : Int} (hHR : HRk hr) (hM : MI s) (hi2 : InR i) (hw : InR w) : AMet E M_X9_waits [aR 125, aI i, aI w] (pa 126 hi s) hr 131 (EX (some (aI (wtF s i w))) (pa 126 hi (s)) hr 131) := by
  refine am_of (by decide +kernel) (Nat.le_of_ble_eq_true rfl) ?_
  have h8 := hM.2.2.1
  refine aw_iload_n dX9_waits_0 rfl ?_
  refine aw_if_lt (tgt := 13) dX9_waits_1 (by decide) hi2 (fun h1 => ?_) (fun h1 => ?_)
  · refine aw_iconst dX9_waits_13 ?_
    refine aw_iret dX9_waits_14 rfl (by decide) (by decide) ?_
    exact exI (by unfold wtF; rw [if_pos (by omega)])
  · refine aw_iload_n dX9_waits_4 rfl ?_
    refine aw_iconst dX9_waits_5 ?_
    refine aw_iconst dX9_waits_6 ?_
    refine aw_S3x dX9_waits_7 clX9_32 ⟨by decide, by decide⟩ (c_X9_in hw ⟨by decide, by decide⟩ ⟨by decide, by decide⟩) (by decide) (by decide) rfl rfl (by simp only [List.length_cons, List.length_nil]; omega) ?_
    refine aw_if_ne (tgt := 15) dX9_waits_10 (by decide) in_r (fun h10 => ?_) (fun h10 => ?_)
    · rw [in0, Classical.not_not] at h10
      refine aw_iload_n dX9_waits_15 rfl ?_
      refine aw_aload_n dX9_waits_16 rfl ?_
      refine aw_getr (x := 126) dX9_waits_17 ci9 (by decide) fX9_7 (by decide) (by decide +kernel) rfl ((hHR 125 0 (by decide) (by decide +kernel)).trans rfl) ?_
      refine aw_bipush dX9_waits_20 (by decide) ?_
      refine aw_iald (N := 256) dX9_waits_22 (Or.inl ⟨(by decide), (by decide +kernel)⟩) (by decide) (by decide) (by decide) (pa_gi 126 _ _ (by decide)) ?_
      refine aw_ic_ge (tgt := 43) dX9_waits_23 (by decide) hi2 (hM.r _ (by unfold xc; omega)) (fun h23 => ?_) (fun h23 => ?_)
      · refine aw_bipush dX9_waits_43 (by decide) ?_
        refine aw_iret dX9_waits_45 rfl (by decide) (by decide) ?_
        exact exI (by unfold wtF; rw [if_neg (by omega), if_neg (by omega)])
      · refine aw_aload_n dX9_waits_26 rfl ?_
        refine aw_getr (x := 126) dX9_waits_27 ci9 (by decide) fX9_7 (by decide) (by decide +kernel) rfl ((hHR 125 0 (by decide) (by decide +kernel)).trans rfl) ?_
        refine aw_sipush dX9_waits_30 (by decide) ?_
        refine aw_iconst dX9_waits_33 ?_
        refine aw_iload_n dX9_waits_34 rfl ?_
        refine aw_imul dX9_waits_35 ?_
        refine aw_iadd dX9_waits_36 ?_
        refine aw_iload_n dX9_waits_37 rfl ?_
        refine aw_iadd dX9_waits_38 ?_
        refine aw_iald (N := 256) dX9_waits_39 (Or.inl ⟨(by decide), (by decide +kernel)⟩) (by omega) (by omega) (by decide) (pa_gi 126 _ _ (by omega)) ?_
        refine aw_goto (tgt := 45) dX9_waits_40 (by decide) ?_
        refine aw_iret dX9_waits_45 rfl (by decide) (by decide) ?_
        exact exI (by unfold wtF; rw [if_neg (by omega), if_pos (by omega)])
    · refine aw_iconst dX9_waits_13 ?_
      refine aw_iret dX9_waits_14 rfl (by decide) (by decide) ?_
      rw [in0] at h10
      exact exI (by unfold wtF; rw [if_pos (by omega)])
set_option maxRecDepth 100000 in
set_option maxHeartbeats 4000000 in
theorem c_X9_torn (hHR : HRk hr) (hM : MI s) : AMet E M_X9_torn [aR 125] (pa 126 hi s) hr 131 (EX (some (aI (trA s 32))) (pa 126 hi (s)) hr 131) := by
  refine am_of (by decide +kernel) (Nat.le_of_ble_eq_true rfl) ?_
  have loop : ∀ (d k : Nat), k + d = 32 → AW E M_X9_torn 0 0 4 [some (aR 125), some (aI (trA s k)), some (aI (k : Int))] [] (pa 126 hi s) hr 131 (EX (some (aI (trA s 32))) (pa 126 hi (s)) hr 131) := by
    intro d
    induction d with
    | zero =>
      intro k hk
      have hk' : k = 32 := by omega
      subst hk'
      refine aw_iload_n dX9_torn_4 rfl ?_
      refine aw_bipush dX9_torn_5 (by decide) ?_
      refine aw_ic_ge (tgt := 39) dX9_torn_7 (by decide) ⟨by decide, by decide⟩ ⟨by decide, by decide⟩ (fun h7 => ?_) (fun h7 => ?_)
      · refine aw_iload_n dX9_torn_39 rfl ?_
        refine aw_iret dX9_torn_40 rfl (by decide) (by decide) ?_
        exact EX.rf
      · exact absurd h7 (by decide)
    | succ d ih =>
      intro k hk
      refine aw_iload_n dX9_torn_4 rfl ?_
      refine aw_bipush dX9_torn_5 (by decide) ?_
      refine aw_ic_ge (tgt := 39) dX9_torn_7 (by decide) ⟨by omega, by omega⟩ ⟨by decide, by decide⟩ (fun h7 => ?_) (fun h7 => ?_)
      · exact absurd h7 (by omega)
      · refine aw_iload_n dX9_torn_10 rfl ?_
        refine aw_aload_n dX9_torn_11 rfl ?_
        refine aw_getr (x := 126) dX9_torn_12 ci9 (by decide) fX9_7 (by decide) (by decide +kernel) rfl ((hHR 125 0 (by decide) (by decide +kernel)).trans rfl) ?_
        refine aw_bipush dX9_torn_15 (by decide) ?_
        refine aw_iconst dX9_torn_17 ?_
        refine aw_iload_n dX9_torn_18 rfl ?_
        refine aw_imul dX9_torn_19 ?_
        refine aw_iadd dX9_torn_20 ?_
        refine aw_iald (N := 256) dX9_torn_21 (Or.inl ⟨(by decide), (by decide +kernel)⟩) (by omega) (by omega) (by decide) (pa_gi 126 _ _ (by omega)) ?_
        refine aw_iconst dX9_torn_22 ?_
        refine aw_ic_ne (tgt := 30) dX9_torn_23 (by decide) (hM.r _ (by unfold xc; omega)) ⟨by decide, by decide⟩ (fun h23 => ?_) (fun h23 => ?_)
        · refine aw_iconst dX9_torn_30 ?_
          refine aw_iadd dX9_torn_31 ?_
          refine aw_istore_n (ls2 := [_, _, _]) dX9_torn_32 (by decide) rfl ?_
          refine aw_iinc (ls2 := [_, _, _]) dX9_torn_33 rfl (by decide) rfl ?_
          refine aw_goto (tgt := 4) dX9_torn_36 (by decide) ?_
          have e : trA s (k + 1) = trA s k + 0 := by
            simp only [trA]
            rw [if_neg h23]
          have g := ih (k + 1) (by omega)
          rw [e] at g
          exact g
        · refine aw_iconst dX9_torn_26 ?_
          refine aw_goto (tgt := 31) dX9_torn_27 (by decide) ?_
          refine aw_iadd dX9_torn_31 ?_
          refine aw_istore_n (ls2 := [_, _, _]) dX9_torn_32 (by decide) rfl ?_
          refine aw_iinc (ls2 := [_, _, _]) dX9_torn_33 rfl (by decide) rfl ?_
          refine aw_goto (tgt := 4) dX9_torn_36 (by decide) ?_
          have e : trA s (k + 1) = trA s k + 1 := by
            simp only [trA]
            rw [if_pos h23]
          have g := ih (k + 1) (by omega)
          rw [e] at g
          exact g
  refine aw_iconst dX9_torn_0 ?_
  refine aw_istore_n (ls2 := [_, _, _]) dX9_torn_1 (by decide) rfl ?_
  refine aw_iconst dX9_torn_2 ?_
  refine aw_istore_n (ls2 := [_, _, _]) dX9_torn_3 (by decide) rfl ?_
  exact loop 32 0 (by omega)
set_option maxRecDepth 100000 in
set_option maxHeartbeats 4000000 in
theorem c_X9_keysThere (hHR : HRk hr) (hM : MI s) : AMet E M_X9_keysThere [aR 125] (pa 126 hi s) hr 131 (EX (some (aI (kyA s 12))) (pa 126 hi (s)) hr 131) := by
  refine am_of (by decide +kernel) (Nat.le_of_ble_eq_true rfl) ?_
  have loop : ∀ (d k : Nat), k + d = 12 → AW E M_X9_keysThere 0 0 4 [some (aR 125), some (aI (kyA s k)), some (aI (k : Int))] [] (pa 126 hi s) hr 131 (EX (some (aI (kyA s 12))) (pa 126 hi (s)) hr 131) := by
    intro d
    induction d with
    | zero =>
      intro k hk
      have hk' : k = 12 := by omega
      subst hk'
      refine aw_iload_n dX9_keysThere_4 rfl ?_
      refine aw_bipush dX9_keysThere_5 (by decide) ?_
      refine aw_ic_ge (tgt := 32) dX9_keysThere_7 (by decide) ⟨by decide, by decide⟩ ⟨by decide, by decide⟩ (fun h7 => ?_) (fun h7 => ?_)
      · refine aw_iload_n dX9_keysThere_32 rfl ?_
        refine aw_iret dX9_keysThere_33 rfl (by decide) (by decide) ?_
        exact EX.rf
      · exact absurd h7 (by decide)
    | succ d ih =>
      intro k hk
      refine aw_iload_n dX9_keysThere_4 rfl ?_
      refine aw_bipush dX9_keysThere_5 (by decide) ?_
      refine aw_ic_ge (tgt := 32) dX9_keysThere_7 (by decide) ⟨by omega, by omega⟩ ⟨by decide, by decide⟩ (fun h7 => ?_) (fun h7 => ?_)
      · exact absurd h7 (by omega)
      · refine aw_iload_n dX9_keysThere_10 rfl ?_
        refine aw_aload_n dX9_keysThere_11 rfl ?_
        refine aw_iload_n dX9_keysThere_12 rfl ?_
        refine aw_V1x dX9_keysThere_13 clX9_51 ⟨by decide, by decide⟩ (c := 9) (N := 11) (by decide) (by decide +kernel) rfl (c_X9_placeOfKey hHR hM ⟨by omega, by omega⟩) (by decide) (by decide) rfl rfl (by simp only [List.length_cons, List.length_nil]; omega) ?_
        refine aw_if_ge (tgt := 23) dX9_keysThere_16 (by decide) (by have := plc_b s (k : Int); exact ⟨by omega, by omega⟩) (fun h16 => ?_) (fun h16 => ?_)
        · refine aw_iconst dX9_keysThere_23 ?_
          refine aw_iadd dX9_keysThere_24 ?_
          refine aw_istore_n (ls2 := [_, _, _]) dX9_keysThere_25 (by decide) rfl ?_
          refine aw_iinc (ls2 := [_, _, _]) dX9_keysThere_26 rfl (by decide) rfl ?_
          refine aw_goto (tgt := 4) dX9_keysThere_29 (by decide) ?_
          have e : kyA s (k + 1) = kyA s k + 1 := by
            simp only [kyA]
            rw [if_neg (by omega)]
          have g := ih (k + 1) (by omega)
          rw [e] at g
          exact g
        · refine aw_iconst dX9_keysThere_19 ?_
          refine aw_goto (tgt := 24) dX9_keysThere_20 (by decide) ?_
          refine aw_iadd dX9_keysThere_24 ?_
          refine aw_istore_n (ls2 := [_, _, _]) dX9_keysThere_25 (by decide) rfl ?_
          refine aw_iinc (ls2 := [_, _, _]) dX9_keysThere_26 rfl (by decide) rfl ?_
          refine aw_goto (tgt := 4) dX9_keysThere_29 (by decide) ?_
          have e : kyA s (k + 1) = kyA s k + 0 := by
            simp only [kyA]
            rw [if_pos (by omega)]
          have g := ih (k + 1) (by omega)
          rw [e] at g
          exact g
  refine aw_iconst dX9_keysThere_0 ?_
  refine aw_istore_n (ls2 := [_, _, _]) dX9_keysThere_1 (by decide) rfl ?_
  refine aw_iconst dX9_keysThere_2 ?_
  refine aw_istore_n (ls2 := [_, _, _]) dX9_keysThere_3 (by decide) rfl ?_
  exact loop 12 0 (by omega)
set_option maxRecDepth 100000 in
set_option maxHeartbeats 4000000 in
theorem c_X9_counted {w : Int} (hHR : HRk hr) (hM : MI s) (h0 : 0 ≤ w) (h1 : w ≤ 17) : AMet E M_X9_counted [aR 125, aI w] (pa 126 hi s) hr 131 (EX (some (aI (ctF s (hi 125 3) (hi 125 5) w))) (pa 126 hi (s)) hr 131) := by
  refine am_of (by decide +kernel) (Nat.le_of_ble_eq_true rfl) ?_
  refine aw_iload_n dX9_counted_0 rfl ?_
  rcases (show w = 0 ∨ w = 1 ∨ w = 2 ∨ w = 3 ∨ w = 4 ∨ w = 5 ∨ w = 6 ∨ w = 7 ∨ w = 8 ∨ w = 9 ∨ w = 10 ∨ w = 11 ∨ w = 12 ∨ w = 13 ∨ w = 14 ∨ w = 15 ∨ w = 16 ∨ w = 17 by omega) with rfl | rfl | rfl | rfl | rfl | rfl | rfl | rfl | rfl | rfl | rfl | rfl | rfl | rfl | rfl | rfl | rfl | rfl
  · refine aw_tab (tgt := 80) (off := 79) dX9_counted_1 ⟨by decide, by decide⟩ (by decide) (by decide) (by decide +kernel) (by decide) ?_
    refine aw_aload_n dX9_counted_80 rfl ?_
    refine aw_getr (x := 126) dX9_counted_81 ci9 (by decide) fX9_7 (by decide) (by decide +kernel) rfl ((hHR 125 0 (by decide) (by decide +kernel)).trans rfl) ?_
    refine aw_iload_n dX9_counted_84 rfl ?_
    refine aw_iald (N := 256) dX9_counted_85 (Or.inl ⟨(by decide), (by decide +kernel)⟩) (by decide) (by decide) (by decide) (pa_gi 126 _ _ (by decide)) ?_
    refine aw_iret dX9_counted_86 rfl (by decide) (by decide) ?_
    exact exI (by unfold ctF; rw [if_pos (by decide)])
  · refine aw_tab (tgt := 87) (off := 86) dX9_counted_1 ⟨by decide, by decide⟩ (by decide) (by decide) (by decide +kernel) (by decide) ?_
    refine aw_iconst dX9_counted_87 ?_
    refine aw_aload_n dX9_counted_88 rfl ?_
    refine aw_getr (x := 126) dX9_counted_89 ci9 (by decide) fX9_7 (by decide) (by decide +kernel) rfl ((hHR 125 0 (by decide) (by decide +kernel)).trans rfl) ?_
    refine aw_iconst dX9_counted_92 ?_
    refine aw_iald (N := 256) dX9_counted_93 (Or.inl ⟨(by decide), (by decide +kernel)⟩) (by decide) (by decide) (by decide) (pa_gi 126 _ _ (by decide)) ?_
    refine aw_isub dX9_counted_94 ?_
    refine aw_iret dX9_counted_95 rfl (by decide) (by decide) ?_
    exact exI (by unfold ctF; rw [if_neg (by decide), if_pos (by decide)])
  · refine aw_tab (tgt := 80) (off := 79) dX9_counted_1 ⟨by decide, by decide⟩ (by decide) (by decide) (by decide +kernel) (by decide) ?_
    refine aw_aload_n dX9_counted_80 rfl ?_
    refine aw_getr (x := 126) dX9_counted_81 ci9 (by decide) fX9_7 (by decide) (by decide +kernel) rfl ((hHR 125 0 (by decide) (by decide +kernel)).trans rfl) ?_
    refine aw_iload_n dX9_counted_84 rfl ?_
    refine aw_iald (N := 256) dX9_counted_85 (Or.inl ⟨(by decide), (by decide +kernel)⟩) (by decide) (by decide) (by decide) (pa_gi 126 _ _ (by decide)) ?_
    refine aw_iret dX9_counted_86 rfl (by decide) (by decide) ?_
    exact exI (by unfold ctF; rw [if_pos (by decide)])
  · refine aw_tab (tgt := 96) (off := 95) dX9_counted_1 ⟨by decide, by decide⟩ (by decide) (by decide) (by decide +kernel) (by decide) ?_
    refine aw_aload_n dX9_counted_96 rfl ?_
    refine aw_V0x dX9_counted_97 clX9_73 ⟨by decide, by decide⟩ (c := 9) (N := 11) (by decide) (by decide +kernel) rfl (c_X9_next hHR hM) (by decide) (by decide) rfl rfl (by simp only [List.length_cons, List.length_nil]; omega) ?_
    refine aw_iret dX9_counted_100 rfl (by decide) (by decide) ?_
    exact exI (by unfold ctF; rw [if_neg (by decide), if_neg (by decide), if_pos (by decide)])
  · refine aw_tab (tgt := 101) (off := 100) dX9_counted_1 ⟨by decide, by decide⟩ (by decide) (by decide) (by decide +kernel) (by decide) ?_
    refine aw_aload_n dX9_counted_101 rfl ?_
    refine aw_getr (x := 126) dX9_counted_102 ci9 (by decide) fX9_7 (by decide) (by decide +kernel) rfl ((hHR 125 0 (by decide) (by decide +kernel)).trans rfl) ?_
    refine aw_bipush dX9_counted_105 (by decide) ?_
    refine aw_iald (N := 256) dX9_counted_107 (Or.inl ⟨(by decide), (by decide +kernel)⟩) (by decide) (by decide) (by decide) (pa_gi 126 _ _ (by decide)) ?_
    refine aw_iret dX9_counted_108 rfl (by decide) (by decide) ?_
    exact exI (by unfold ctF; rw [if_neg (by decide), if_neg (by decide), if_neg (by decide), if_pos (by decide)])
  · refine aw_tab (tgt := 109) (off := 108) dX9_counted_1 ⟨by decide, by decide⟩ (by decide) (by decide) (by decide +kernel) (by decide) ?_
    refine aw_aload_n dX9_counted_109 rfl ?_
    refine aw_V0x dX9_counted_110 clX9_77 ⟨by decide, by decide⟩ (c := 9) (N := 11) (by decide) (by decide +kernel) rfl (c_X9_isWriting hHR hM) (by decide) (by decide) rfl rfl (by simp only [List.length_cons, List.length_nil]; omega) ?_
    refine aw_if_eq (tgt := 120) dX9_counted_113 (by decide) (by rcases iw_b s with q | q <;> rw [q] <;> exact ⟨by decide, by decide⟩) (fun h113 => ?_) (fun h113 => ?_)
    · refine aw_iconst dX9_counted_120 ?_
      refine aw_iret dX9_counted_121 rfl (by decide) (by decide) ?_
      exact exI (by unfold ctF; rw [if_neg (by decide), if_neg (by decide), if_neg (by decide), if_neg (by decide), if_pos (by decide)]; rcases iw_b s with q | q <;> omega)
    · refine aw_iconst dX9_counted_116 ?_
      refine aw_goto (tgt := 121) dX9_counted_117 (by decide) ?_
      refine aw_iret dX9_counted_121 rfl (by decide) (by decide) ?_
      exact exI (by unfold ctF; rw [if_neg (by decide), if_neg (by decide), if_neg (by decide), if_neg (by decide), if_pos (by decide)]; rcases iw_b s with q | q <;> omega)
  · refine aw_tab (tgt := 122) (off := 121) dX9_counted_1 ⟨by decide, by decide⟩ (by decide) (by decide) (by decide +kernel) (by decide) ?_
    refine aw_aload_n dX9_counted_122 rfl ?_
    refine aw_V0x dX9_counted_123 clX9_77 ⟨by decide, by decide⟩ (c := 9) (N := 11) (by decide) (by decide +kernel) rfl (c_X9_isWriting hHR hM) (by decide) (by decide) rfl rfl (by simp only [List.length_cons, List.length_nil]; omega) ?_
    refine aw_if_eq (tgt := 144) dX9_counted_126 (by decide) (by rcases iw_b s with q | q <;> rw [q] <;> exact ⟨by decide, by decide⟩) (fun h126 => ?_) (fun h126 => ?_)
    · refine aw_bipush dX9_counted_144 (by decide) ?_
      refine aw_iret dX9_counted_146 rfl (by decide) (by decide) ?_
      exact exI (by unfold ctF; rw [if_neg (by decide), if_neg (by decide), if_neg (by decide), if_neg (by decide), if_neg (by decide), if_pos (by decide), if_neg (by omega)])
    · refine aw_aload_n dX9_counted_129 rfl ?_
      refine aw_iconst dX9_counted_130 ?_
      refine aw_V1x dX9_counted_131 clX9_61 ⟨by decide, by decide⟩ (c := 9) (N := 11) (by decide) (by decide +kernel) rfl (c_X9_now (k := 5) (v := 253) hHR rfl (by decide) (by decide)) (by decide) (by decide) rfl rfl (by simp only [List.length_cons, List.length_nil]; omega) ?_
      refine aw_aload_n dX9_counted_134 rfl ?_
      refine aw_bipush dX9_counted_135 (by decide) ?_
      refine aw_V1x dX9_counted_137 clX9_61 ⟨by decide, by decide⟩ (c := 9) (N := 11) (by decide) (by decide +kernel) rfl (c_X9_now (k := 6) (v := 254) hHR rfl (by decide) (by decide)) (by decide) (by decide) rfl rfl (by simp only [List.length_cons, List.length_nil]; omega) ?_
      refine aw_iadd dX9_counted_140 ?_
      refine aw_goto (tgt := 146) dX9_counted_141 (by decide) ?_
      refine aw_iret dX9_counted_146 rfl (by decide) (by decide) ?_
      exact exI (by unfold ctF; rw [if_neg (by decide), if_neg (by decide), if_neg (by decide), if_neg (by decide), if_neg (by decide), if_pos (by decide), if_pos (by rcases iw_b s with q | q <;> omega)])
  · refine aw_tab (tgt := 147) (off := 146) dX9_counted_1 ⟨by decide, by decide⟩ (by decide) (by decide) (by decide +kernel) (by decide) ?_
    refine aw_aload_n dX9_counted_147 rfl ?_
    refine aw_getr (x := 126) dX9_counted_148 ci9 (by decide) fX9_7 (by decide) (by decide +kernel) rfl ((hHR 125 0 (by decide) (by decide +kernel)).trans rfl) ?_
    refine aw_iconst dX9_counted_151 ?_
    refine aw_iload_n dX9_counted_152 rfl ?_
    refine aw_iadd dX9_counted_153 ?_
    refine aw_bipush dX9_counted_154 (by decide) ?_
    refine aw_isub dX9_counted_156 ?_
    refine aw_iald (N := 256) dX9_counted_157 (Or.inl ⟨(by decide), (by decide +kernel)⟩) (by decide) (by decide) (by decide) (pa_gi 126 _ _ (by decide)) ?_
    refine aw_iret dX9_counted_158 rfl (by decide) (by decide) ?_
    exact exI (by unfold ctF; rw [if_neg (by decide), if_neg (by decide), if_neg (by decide), if_neg (by decide), if_neg (by decide), if_neg (by decide), if_pos (by decide)])
  · refine aw_tab (tgt := 147) (off := 146) dX9_counted_1 ⟨by decide, by decide⟩ (by decide) (by decide) (by decide +kernel) (by decide) ?_
    refine aw_aload_n dX9_counted_147 rfl ?_
    refine aw_getr (x := 126) dX9_counted_148 ci9 (by decide) fX9_7 (by decide) (by decide +kernel) rfl ((hHR 125 0 (by decide) (by decide +kernel)).trans rfl) ?_
    refine aw_iconst dX9_counted_151 ?_
    refine aw_iload_n dX9_counted_152 rfl ?_
    refine aw_iadd dX9_counted_153 ?_
    refine aw_bipush dX9_counted_154 (by decide) ?_
    refine aw_isub dX9_counted_156 ?_
    refine aw_iald (N := 256) dX9_counted_157 (Or.inl ⟨(by decide), (by decide +kernel)⟩) (by decide) (by decide) (by decide) (pa_gi 126 _ _ (by decide)) ?_
    refine aw_iret dX9_counted_158 rfl (by decide) (by decide) ?_
    exact exI (by unfold ctF; rw [if_neg (by decide), if_neg (by decide), if_neg (by decide), if_neg (by decide), if_neg (by decide), if_neg (by decide), if_pos (by decide)])
  · refine aw_tab (tgt := 147) (off := 146) dX9_counted_1 ⟨by decide, by decide⟩ (by decide) (by decide) (by decide +kernel) (by decide) ?_
    refine aw_aload_n dX9_counted_147 rfl ?_
    refine aw_getr (x := 126) dX9_counted_148 ci9 (by decide) fX9_7 (by decide) (by decide +kernel) rfl ((hHR 125 0 (by decide) (by decide +kernel)).trans rfl) ?_
    refine aw_iconst dX9_counted_151 ?_
    refine aw_iload_n dX9_counted_152 rfl ?_
    refine aw_iadd dX9_counted_153 ?_
    refine aw_bipush dX9_counted_154 (by decide) ?_
    refine aw_isub dX9_counted_156 ?_
    refine aw_iald (N := 256) dX9_counted_157 (Or.inl ⟨(by decide), (by decide +kernel)⟩) (by decide) (by decide) (by decide) (pa_gi 126 _ _ (by decide)) ?_
    refine aw_iret dX9_counted_158 rfl (by decide) (by decide) ?_
    exact exI (by unfold ctF; rw [if_neg (by decide), if_neg (by decide), if_neg (by decide), if_neg (by decide), if_neg (by decide), if_neg (by decide), if_pos (by decide)])
  · refine aw_tab (tgt := 159) (off := 158) dX9_counted_1 ⟨by decide, by decide⟩ (by decide) (by decide) (by decide +kernel) (by decide) ?_
    refine aw_aload_n dX9_counted_159 rfl ?_
    refine aw_V0x dX9_counted_160 clX9_165 ⟨by decide, by decide⟩ (c := 9) (N := 11) (by decide) (by decide +kernel) rfl (c_X9_torn hHR hM) (by decide) (by decide) rfl rfl (by simp only [List.length_cons, List.length_nil]; omega) ?_
    refine aw_iret dX9_counted_163 rfl (by decide) (by decide) ?_
    exact exI (by unfold ctF; rw [if_neg (by decide), if_neg (by decide), if_neg (by decide), if_neg (by decide), if_neg (by decide), if_neg (by decide), if_neg (by decide), if_pos (by decide)])
  · refine aw_tab (tgt := 164) (off := 163) dX9_counted_1 ⟨by decide, by decide⟩ (by decide) (by decide) (by decide +kernel) (by decide) ?_
    refine aw_aload_n dX9_counted_164 rfl ?_
    refine aw_V0x dX9_counted_165 clX9_168 ⟨by decide, by decide⟩ (c := 9) (N := 11) (by decide) (by decide +kernel) rfl (c_X9_keysThere hHR hM) (by decide) (by decide) rfl rfl (by simp only [List.length_cons, List.length_nil]; omega) ?_
    refine aw_iret dX9_counted_168 rfl (by decide) (by decide) ?_
    exact exI (by unfold ctF; rw [if_neg (by decide), if_neg (by decide), if_neg (by decide), if_neg (by decide), if_neg (by decide), if_neg (by decide), if_neg (by decide), if_neg (by decide), if_pos (by decide)])
  · refine aw_tab (tgt := 169) (off := 168) dX9_counted_1 ⟨by decide, by decide⟩ (by decide) (by decide) (by decide +kernel) (by decide) ?_
    refine aw_aload_n dX9_counted_169 rfl ?_
    refine aw_getr (x := 126) dX9_counted_170 ci9 (by decide) fX9_7 (by decide) (by decide +kernel) rfl ((hHR 125 0 (by decide) (by decide +kernel)).trans rfl) ?_
    refine aw_bipush dX9_counted_173 (by decide) ?_
    refine aw_iload_n dX9_counted_175 rfl ?_
    refine aw_iadd dX9_counted_176 ?_
    refine aw_bipush dX9_counted_177 (by decide) ?_
    refine aw_isub dX9_counted_179 ?_
    refine aw_iald (N := 256) dX9_counted_180 (Or.inl ⟨(by decide), (by decide +kernel)⟩) (by decide) (by decide) (by decide) (pa_gi 126 _ _ (by decide)) ?_
    refine aw_iret dX9_counted_181 rfl (by decide) (by decide) ?_
    exact exI (by unfold ctF; rw [if_neg (by decide), if_neg (by decide), if_neg (by decide), if_neg (by decide), if_neg (by decide), if_neg (by decide), if_neg (by decide), if_neg (by decide), if_neg (by decide), if_pos (by decide)])
  · refine aw_tab (tgt := 169) (off := 168) dX9_counted_1 ⟨by decide, by decide⟩ (by decide) (by decide) (by decide +kernel) (by decide) ?_
    refine aw_aload_n dX9_counted_169 rfl ?_
    refine aw_getr (x := 126) dX9_counted_170 ci9 (by decide) fX9_7 (by decide) (by decide +kernel) rfl ((hHR 125 0 (by decide) (by decide +kernel)).trans rfl) ?_
    refine aw_bipush dX9_counted_173 (by decide) ?_
    refine aw_iload_n dX9_counted_175 rfl ?_
    refine aw_iadd dX9_counted_176 ?_
    refine aw_bipush dX9_counted_177 (by decide) ?_
    refine aw_isub dX9_counted_179 ?_
    refine aw_iald (N := 256) dX9_counted_180 (Or.inl ⟨(by decide), (by decide +kernel)⟩) (by decide) (by decide) (by decide) (pa_gi 126 _ _ (by decide)) ?_
    refine aw_iret dX9_counted_181 rfl (by decide) (by decide) ?_
    exact exI (by unfold ctF; rw [if_neg (by decide), if_neg (by decide), if_neg (by decide), if_neg (by decide), if_neg (by decide), if_neg (by decide), if_neg (by decide), if_neg (by decide), if_neg (by decide), if_pos (by decide)])
  · refine aw_tab (tgt := 182) (off := 181) dX9_counted_1 ⟨by decide, by decide⟩ (by decide) (by decide) (by decide +kernel) (by decide) ?_
    refine aw_aload_n dX9_counted_182 rfl ?_
    refine aw_getr (x := 126) dX9_counted_183 ci9 (by decide) fX9_7 (by decide) (by decide +kernel) rfl ((hHR 125 0 (by decide) (by decide +kernel)).trans rfl) ?_
    refine aw_bipush dX9_counted_186 (by decide) ?_
    refine aw_iload_n dX9_counted_188 rfl ?_
    refine aw_iadd dX9_counted_189 ?_
    refine aw_bipush dX9_counted_190 (by decide) ?_
    refine aw_isub dX9_counted_192 ?_
    refine aw_iald (N := 256) dX9_counted_193 (Or.inl ⟨(by decide), (by decide +kernel)⟩) (by decide) (by decide) (by decide) (pa_gi 126 _ _ (by decide)) ?_
    refine aw_iret dX9_counted_194 rfl (by decide) (by decide) ?_
    exact exI (by unfold ctF; rw [if_neg (by decide), if_neg (by decide), if_neg (by decide), if_neg (by decide), if_neg (by decide), if_neg (by decide), if_neg (by decide), if_neg (by decide), if_neg (by decide), if_neg (by decide), if_pos (by decide)])
  · refine aw_tab (tgt := 182) (off := 181) dX9_counted_1 ⟨by decide, by decide⟩ (by decide) (by decide) (by decide +kernel) (by decide) ?_
    refine aw_aload_n dX9_counted_182 rfl ?_
    refine aw_getr (x := 126) dX9_counted_183 ci9 (by decide) fX9_7 (by decide) (by decide +kernel) rfl ((hHR 125 0 (by decide) (by decide +kernel)).trans rfl) ?_
    refine aw_bipush dX9_counted_186 (by decide) ?_
    refine aw_iload_n dX9_counted_188 rfl ?_
    refine aw_iadd dX9_counted_189 ?_
    refine aw_bipush dX9_counted_190 (by decide) ?_
    refine aw_isub dX9_counted_192 ?_
    refine aw_iald (N := 256) dX9_counted_193 (Or.inl ⟨(by decide), (by decide +kernel)⟩) (by decide) (by decide) (by decide) (pa_gi 126 _ _ (by decide)) ?_
    refine aw_iret dX9_counted_194 rfl (by decide) (by decide) ?_
    exact exI (by unfold ctF; rw [if_neg (by decide), if_neg (by decide), if_neg (by decide), if_neg (by decide), if_neg (by decide), if_neg (by decide), if_neg (by decide), if_neg (by decide), if_neg (by decide), if_neg (by decide), if_pos (by decide)])
  · refine aw_tabD (tgt := 195) dX9_counted_1 ⟨by decide, by decide⟩ (by decide) (by decide) ?_
    refine aw_iload_n dX9_counted_195 rfl ?_
    refine aw_bipush dX9_counted_196 (by decide) ?_
    refine aw_ic_ne (tgt := 208) dX9_counted_198 (by decide) ⟨by decide, by decide⟩ ⟨by decide, by decide⟩ (fun h198 => ?_) (fun h198 => ?_)
    · exact absurd h198 (by decide)
    · refine aw_aload_n dX9_counted_201 rfl ?_
      refine aw_getv dX9_counted_202 ci9 (by decide) fX9_28 (by decide) (by decide +kernel) rfl (pa_gn _ _ _ (by decide)) ?_
      refine aw_goto (tgt := 212) dX9_counted_205 (by decide) ?_
      refine aw_iret dX9_counted_212 rfl (by decide) (by decide) ?_
      exact exI (by unfold ctF; rw [if_neg (by decide), if_neg (by decide), if_neg (by decide), if_neg (by decide), if_neg (by decide), if_neg (by decide), if_neg (by decide), if_neg (by decide), if_neg (by decide), if_neg (by decide), if_neg (by decide), if_pos (by decide)])
  · refine aw_tabD (tgt := 195) dX9_counted_1 ⟨by decide, by decide⟩ (by decide) (by decide) ?_
    refine aw_iload_n dX9_counted_195 rfl ?_
    refine aw_bipush dX9_counted_196 (by decide) ?_
    refine aw_ic_ne (tgt := 208) dX9_counted_198 (by decide) ⟨by decide, by decide⟩ ⟨by decide, by decide⟩ (fun h198 => ?_) (fun h198 => ?_)
    · refine aw_aload_n dX9_counted_208 rfl ?_
      refine aw_getv dX9_counted_209 ci9 (by decide) fX9_171 (by decide) (by decide +kernel) rfl (pa_gn _ _ _ (by decide)) ?_
      refine aw_iret dX9_counted_212 rfl (by decide) (by decide) ?_
      exact exI (by unfold ctF; rw [if_neg (by decide), if_neg (by decide), if_neg (by decide), if_neg (by decide), if_neg (by decide), if_neg (by decide), if_neg (by decide), if_neg (by decide), if_neg (by decide), if_neg (by decide), if_neg (by decide), if_neg (by decide)])
    · exact absurd h198 (by decide)
set_option maxRecDepth 100000 in
set_option maxHeartbeats 4000000 in
theorem c_X9_count {w : Int} (hHR : HRk hr) (hM : MI s) (hw : InR w) : AMet E M_X9_count [aR 125, aI w] (pa 126 hi s) hr 131 (EX (some (aI (cnF s (hi 125 3) (hi 125 5) w))) (pa 126 hi (s)) hr 131) := by
  refine am_of (by decide +kernel) (Nat.le_of_ble_eq_true rfl) ?_
  refine aw_iload_n dX9_count_0 rfl ?_
  refine aw_iconst dX9_count_1 ?_
  refine aw_bipush dX9_count_2 (by decide) ?_
  refine aw_S3x dX9_count_4 clX9_32 ⟨by decide, by decide⟩ (c_X9_in hw ⟨by decide, by decide⟩ ⟨by decide, by decide⟩) (by decide) (by decide) rfl rfl (by simp only [List.length_cons, List.length_nil]; omega) ?_
  refine aw_if_eq (tgt := 16) dX9_count_7 (by decide) in_r (fun h7 => ?_) (fun h7 => ?_)
  · rw [in0] at h7
    refine aw_iload_n dX9_count_16 rfl ?_
    refine aw_bipush dX9_count_17 (by decide) ?_
    refine aw_bipush dX9_count_19 (by decide) ?_
    refine aw_S3x dX9_count_21 clX9_32 ⟨by decide, by decide⟩ (c_X9_in hw ⟨by decide, by decide⟩ ⟨by decide, by decide⟩) (by decide) (by decide) rfl rfl (by simp only [List.length_cons, List.length_nil]; omega) ?_
    refine aw_if_eq (tgt := 42) dX9_count_24 (by decide) in_r (fun h24 => ?_) (fun h24 => ?_)
    · rw [in0] at h24
      refine aw_iload_n dX9_count_42 rfl ?_
      refine aw_bipush dX9_count_43 (by decide) ?_
      refine aw_bipush dX9_count_45 (by decide) ?_
      refine aw_S3x dX9_count_47 clX9_32 ⟨by decide, by decide⟩ (c_X9_in hw ⟨by decide, by decide⟩ ⟨by decide, by decide⟩) (by decide) (by decide) rfl rfl (by simp only [List.length_cons, List.length_nil]; omega) ?_
      refine aw_if_eq (tgt := 68) dX9_count_50 (by decide) in_r (fun h50 => ?_) (fun h50 => ?_)
      · rw [in0] at h50
        refine aw_iconst dX9_count_68 ?_
        refine aw_iret dX9_count_69 rfl (by decide) (by decide) ?_
        exact exI (by unfold cnF; rw [if_neg (by omega), if_neg (by omega), if_neg (by omega)])
      · rw [in0, Classical.not_not] at h50
        refine aw_aload_n dX9_count_53 rfl ?_
        refine aw_getr (x := 126) dX9_count_54 ci9 (by decide) fX9_7 (by decide) (by decide +kernel) rfl ((hHR 125 0 (by decide) (by decide +kernel)).trans rfl) ?_
        refine aw_bipush dX9_count_57 (by decide) ?_
        refine aw_iload_n dX9_count_59 rfl ?_
        refine aw_iadd dX9_count_60 ?_
        refine aw_bipush dX9_count_61 (by decide) ?_
        refine aw_isub dX9_count_63 ?_
        refine aw_iald (N := 256) dX9_count_64 (Or.inl ⟨(by decide), (by decide +kernel)⟩) (by omega) (by omega) (by decide) (pa_gi 126 _ _ (by omega)) ?_
        refine aw_goto (tgt := 69) dX9_count_65 (by decide) ?_
        refine aw_iret dX9_count_69 rfl (by decide) (by decide) ?_
        exact exI (by unfold cnF; rw [if_neg (by omega), if_neg (by omega), if_pos (by omega)])
    · rw [in0, Classical.not_not] at h24
      refine aw_aload_n dX9_count_27 rfl ?_
      refine aw_getr (x := 126) dX9_count_28 ci9 (by decide) fX9_7 (by decide) (by decide +kernel) rfl ((hHR 125 0 (by decide) (by decide +kernel)).trans rfl) ?_
      refine aw_bipush dX9_count_31 (by decide) ?_
      refine aw_iload_n dX9_count_33 rfl ?_
      refine aw_iadd dX9_count_34 ?_
      refine aw_bipush dX9_count_35 (by decide) ?_
      refine aw_isub dX9_count_37 ?_
      refine aw_iald (N := 256) dX9_count_38 (Or.inl ⟨(by decide), (by decide +kernel)⟩) (by omega) (by omega) (by decide) (pa_gi 126 _ _ (by omega)) ?_
      refine aw_goto (tgt := 69) dX9_count_39 (by decide) ?_
      refine aw_iret dX9_count_69 rfl (by decide) (by decide) ?_
      exact exI (by unfold cnF; rw [if_neg (by omega), if_pos (by omega)])
  · rw [in0, Classical.not_not] at h7
    refine aw_aload_n dX9_count_10 rfl ?_
    refine aw_iload_n dX9_count_11 rfl ?_
    refine aw_V1x dX9_count_12 clX9_174 ⟨by decide, by decide⟩ (c := 9) (N := 11) (by decide) (by decide +kernel) rfl (c_X9_counted hHR hM (by omega) (by omega)) (by decide) (by decide) rfl rfl (by simp only [List.length_cons, List.length_nil]; omega) ?_
    refine aw_iret dX9_count_15 rfl (by decide) (by decide) ?_
    exact exI (by unfold cnF; rw [if_pos (by omega)])
set_option maxRecDepth 100000 in
set_option maxHeartbeats 4000000 in
theorem c_X9_wouldLose {t : Int} (hHR : HRk hr) (hM : MI (sg hi)) (hb : sg hi 0 + 200 ≤ BIG) (ht : InR t) : AMet E M_X9_wouldLose [aR 125, aI t] hi hr 131 (PI (fun v h r2 n2 => r2 = hr ∧ n2 = 131 ∧ v = wlF (sg hi) t ∧ KEEP hi h)) := by
  have K : AMet E M_X9_wouldLose [aR 125, aI t] (mh hi (fd hi) (pst hi) (bn hi) (sg hi)) hr 131 (PI (fun v h r2 n2 => r2 = hr ∧ n2 = 131 ∧ v = wlF (sg hi) t ∧ KEEP hi h)) := by
    refine am_of (by decide +kernel) (Nat.le_of_ble_eq_true rfl) ?_
    have h1 := hM.2.2.2.2.2.1
    refine aw_iload_n dX9_wouldLose_0 rfl ?_
    refine aw_iconst dX9_wouldLose_1 ?_
    refine aw_sipush dX9_wouldLose_2 (by decide) ?_
    refine aw_S3x dX9_wouldLose_5 clX9_32 ⟨by decide, by decide⟩ (c_X9_in ht ⟨by decide, by decide⟩ ⟨by decide, by decide⟩) (by decide) (by decide) rfl rfl (by simp only [List.length_cons, List.length_nil]; omega) ?_
    refine aw_if_ne (tgt := 13) dX9_wouldLose_8 (by decide) in_r (fun h8 => ?_) (fun h8 => ?_)
    · refine aw_aload_n dX9_wouldLose_13 rfl ?_
      refine aw_V0x dX9_wouldLose_14 clX9_107 ⟨by decide, by decide⟩ (c := 9) (N := 11) (by decide) (by decide +kernel) rfl (c_X9_isOff hHR hM) (by decide) (by decide) rfl rfl (by simp only [List.length_cons, List.length_nil]; omega) ?_
      refine aw_if_eq (tgt := 23) dX9_wouldLose_17 (by decide) (hM.r _ (by unfold xc; omega)) (fun h17 => ?_) (fun h17 => ?_)
      · rw [in0, Classical.not_not] at h8
        refine aw_aload_n dX9_wouldLose_23 rfl ?_
        refine aw_V0v dX9_wouldLose_24 clX9_131 ⟨by decide, by decide⟩ (c := 9) (N := 11) (by decide) (by decide +kernel) rfl (c_X9_begins hHR) (by decide) (by decide) rfl rfl (by simp only [List.length_cons, List.length_nil]; omega) ?_
        refine aw_aload_n dX9_wouldLose_27 rfl ?_
        refine aw_iload_n dX9_wouldLose_28 rfl ?_
        refine aw_V1x dX9_wouldLose_29 clX9_122 ⟨by decide, by decide⟩ (c := 9) (N := 11) (by decide) (by decide +kernel) rfl (by have g := c_X9_goes (E := E) (hi := pa 127 (pa 128 (pa 125 hi (fd hi)) (pst hi)) (bgnA (sg hi) (bn hi) 256)) (hr := hr) (s := sg hi) (m := t.toNat) hHR hM (by omega) (by omega); rw [Int.toNat_of_nonneg (show 0 ≤ t by omega)] at g; exact g) (by decide) (by decide) rfl rfl (by simp only [List.length_cons, List.length_nil]; omega) ?_
        refine aw_istore_n (ls2 := [_, _, _, _]) dX9_wouldLose_32 (by decide) rfl ?_
        refine aw_aload_n dX9_wouldLose_33 rfl ?_
        refine aw_V0i dX9_wouldLose_34 clX9_110 ⟨by decide, by decide⟩ (c := 9) (N := 11) (by decide) (by decide +kernel) rfl (c_X9_breaks hHR (goA_M hM t.toNat (by omega)).1) (by decide) (by decide) rfl rfl (by simp only [List.length_cons, List.length_nil]; omega) (fun v h2 r2 n2 q => ?_)
        obtain ⟨rfl, rfl, rfl, z, rfl⟩ := q
        rw [mh_130]
        refine aw_istore_n (ls2 := [_, _, _, _]) dX9_wouldLose_37 (by decide) rfl ?_
        refine aw_aload_n dX9_wouldLose_38 rfl ?_
        refine aw_V0v dX9_wouldLose_39 clX9_25 ⟨by decide, by decide⟩ (c := 9) (N := 11) (by decide) (by decide +kernel) rfl (c_X9_returns hHR) (by decide) (by decide) rfl rfl (by simp only [List.length_cons, List.length_nil]; omega) ?_
        refine aw_iload_n dX9_wouldLose_42 rfl ?_
        refine aw_iret dX9_wouldLose_43 rfl (by decide) (by decide) ?_
        exact ⟨_, rfl, rfl, rfl, (by unfold wlF; rw [if_neg (by omega), if_neg (by omega)]), keep_of (by intro a ha k; exact pa_gn _ _ _ (by omega)) rfl rfl⟩
      · refine aw_bipush dX9_wouldLose_20 (by decide) ?_
        refine aw_iret dX9_wouldLose_22 rfl (by decide) (by decide) ?_
        exact ⟨_, rfl, rfl, rfl, (by rw [in0, Classical.not_not] at h8; unfold wlF; rw [if_neg (by omega), if_pos (by omega)]), (show KEEP hi (mh hi (fd hi) (pst hi) (bn hi) (sg hi)) by rw [mh_self]; exact KEEP.rf hi)⟩
    · refine aw_iconst dX9_wouldLose_11 ?_
      refine aw_iret dX9_wouldLose_12 rfl (by decide) (by decide) ?_
      exact ⟨_, rfl, rfl, rfl, (by rw [in0] at h8; unfold wlF; rw [if_pos h8]), (show KEEP hi (mh hi (fd hi) (pst hi) (bn hi) (sg hi)) by rw [mh_self]; exact KEEP.rf hi)⟩
  rwa [mh_self] at K
set_option maxRecDepth 100000 in
set_option maxHeartbeats 4000000 in
theorem c_X9_doneIn (hHR : HRk hr) (hM0 : MI (sg hi)) (hL0 : ML (sg hi)) (hb0 : sg hi 0 + mu (sg hi) < BIG) : AMet E M_X9_doneIn [aR 125] hi hr 131 (PI (fun v h r2 n2 => r2 = hr ∧ n2 = 131 ∧ v = diF (sg hi) ∧ KEEP hi h)) := by
  have K : AMet E M_X9_doneIn [aR 125] (mh hi (fd hi) (pst hi) (bn hi) (sg hi)) hr 131 (PI (fun v h r2 n2 => r2 = hr ∧ n2 = 131 ∧ v = diF (sg hi) ∧ KEEP hi h)) := by
    refine am_of (by decide +kernel) (Nat.le_of_ble_eq_true rfl) ?_
    have h1 := hM0.2.2.2.2.2.1
    have loop : ∀ (d : Nat) (t : Int → Int) (n : Int), MI t → ML t → mu t < d + 1 → t 0 + mu t ≤ BIG → (diF (sg hi) = if 0 < (diA (d + 1) t n).1 11 then -4 else (diA (d + 1) t n).2) → AW E M_X9_doneIn 0 0 16 [some (aR 125), some (aI n), none] [] (mh hi (fd hi) (pst hi) (bgnA (sg hi) (bn hi) 256) t) hr 131 (PI (fun v h r2 n2 => r2 = hr ∧ n2 = 131 ∧ v = diF (sg hi) ∧ KEEP hi h)) := by
      intro d
      induction d with
      | zero =>
        intro t n hM hL hmu hb hres
        have z1 := hM.z 11 (by unfold xc; omega)
        have z3 := hM.z 253 (by unfold xc; omega)
        have z4 := hM.z 254 (by unfold xc; omega)
        unfold mu at hmu
        have hiw : iwF t = 0 := by unfold iwF; rw [if_neg (by omega)]
        refine aw_aload_n dX9_doneIn_16 rfl ?_
        refine aw_V0x dX9_doneIn_17 clX9_77 ⟨by decide, by decide⟩ (c := 9) (N := 11) (by decide) (by decide +kernel) rfl (c_X9_isWriting hHR hM) (by decide) (by decide) rfl rfl (by simp only [List.length_cons, List.length_nil]; omega) ?_
        refine aw_if_ne (tgt := 42) dX9_doneIn_20 (by decide) (by rw [hiw]; exact ⟨by decide, by decide⟩) (fun h20 => ?_) (fun h20 => ?_)
        · exact absurd hiw h20
        · refine aw_aload_n dX9_doneIn_23 rfl ?_
          refine aw_getr (x := 126) dX9_doneIn_24 ci9 (by decide) fX9_7 (by decide) (by decide +kernel) rfl ((hHR 125 0 (by decide) (by decide +kernel)).trans rfl) ?_
          refine aw_bipush dX9_doneIn_27 (by decide) ?_
          refine aw_iald (N := 256) dX9_doneIn_29 (Or.inl ⟨(by decide), (by decide +kernel)⟩) (by decide) (by decide) (by decide) (mh_g126 _ _ _ _ _ (by decide)) ?_
          refine aw_if_le (tgt := 52) dX9_doneIn_30 (by decide) (hM.r _ (by unfold xc; omega)) (fun h30 => ?_) (fun h30 => ?_)
          · refine aw_aload_n dX9_doneIn_52 rfl ?_
            refine aw_getr (x := 126) dX9_doneIn_53 ci9 (by decide) fX9_7 (by decide) (by decide +kernel) rfl ((hHR 125 0 (by decide) (by decide +kernel)).trans rfl) ?_
            refine aw_bipush dX9_doneIn_56 (by decide) ?_
            refine aw_iald (N := 256) dX9_doneIn_58 (Or.inl ⟨(by decide), (by decide +kernel)⟩) (by decide) (by decide) (by decide) (mh_g126 _ _ _ _ _ (by decide)) ?_
            refine aw_if_le (tgt := 67) dX9_doneIn_59 (by decide) (hM.r _ (by unfold xc; omega)) (fun h59 => ?_) (fun h59 => ?_)
            · refine aw_iload_n dX9_doneIn_67 rfl ?_
              refine aw_istore_n (ls2 := [_, _, _]) dX9_doneIn_68 (by decide) rfl ?_
              refine aw_aload_n dX9_doneIn_69 rfl ?_
              refine aw_V0v dX9_doneIn_70 clX9_25 ⟨by decide, by decide⟩ (c := 9) (N := 11) (by decide) (by decide +kernel) rfl (c_X9_returns hHR) (by decide) (by decide) rfl rfl (by simp only [List.length_cons, List.length_nil]; omega) ?_
              refine aw_iload_n dX9_doneIn_73 rfl ?_
              refine aw_iret dX9_doneIn_74 rfl (by decide) (by decide) ?_
              refine ⟨_, rfl, rfl, rfl, ?_, keep_of (by intro a ha k; rfl) rfl rfl⟩
              rw [hres]
              have e : diA (0 + 1) t n = (t, n) := by unfold diA; rw [if_neg (by rintro (q | q) <;> omega)]
              rw [e, if_neg (by dsimp only; omega)]
            · exact absurd h59 (by omega)
          · exact absurd h30 (by omega)
      | succ d ih =>
        intro t n hM hL hmu hb hres
        have hn := nxt_b t
        have z1 := hM.z 11 (by unfold xc; omega)
        have z3 := hM.z 253 (by unfold xc; omega)
        have z4 := hM.z 254 (by unfold xc; omega)
        refine aw_aload_n dX9_doneIn_16 rfl ?_
        refine aw_V0x dX9_doneIn_17 clX9_77 ⟨by decide, by decide⟩ (c := 9) (N := 11) (by decide) (by decide +kernel) rfl (c_X9_isWriting hHR hM) (by decide) (by decide) rfl rfl (by simp only [List.length_cons, List.length_nil]; omega) ?_
        refine aw_if_ne (tgt := 42) dX9_doneIn_20 (by decide) (by rcases iw_b t with q | q <;> rw [q] <;> exact ⟨by decide, by decide⟩) (fun h20 => ?_) (fun h20 => ?_)
        · have hc : iwF t = 1 ∨ (0 < t 11 ∧ nxt t < 16) := by rcases iw_b t with q | q <;> omega
          have hm0 : 1 ≤ mu t := by unfold mu; rcases hc with q | q <;> first | omega | (unfold iwF at q; split at q <;> omega)
          have hb1 : t 0 + 1 ≤ BIG := by omega
          refine aw_aload_n dX9_doneIn_42 rfl ?_
          refine aw_V0v dX9_doneIn_43 clX9_101 ⟨by decide, by decide⟩ (c := 9) (N := 11) (by decide) (by decide +kernel) rfl (c_X9_ticks hHR hM hb1) (by decide) (by decide) rfl rfl (by simp only [List.length_cons, List.length_nil]; omega) ?_
          refine aw_iinc (ls2 := [_, _, _]) dX9_doneIn_46 rfl (by decide) rfl ?_
          refine aw_goto (tgt := 16) dX9_doneIn_49 (by decide) ?_
          have g := tiF_mu hM hL hb1 hc
          have g0 := tiF_M hM hb1
          refine ih (tiF t) (n + 1) g0.1 g.2 (by omega) (by rw [g0.2]; omega) ?_
          rw [hres, diA, if_pos hc]
        · refine aw_aload_n dX9_doneIn_23 rfl ?_
          refine aw_getr (x := 126) dX9_doneIn_24 ci9 (by decide) fX9_7 (by decide) (by decide +kernel) rfl ((hHR 125 0 (by decide) (by decide +kernel)).trans rfl) ?_
          refine aw_bipush dX9_doneIn_27 (by decide) ?_
          refine aw_iald (N := 256) dX9_doneIn_29 (Or.inl ⟨(by decide), (by decide +kernel)⟩) (by decide) (by decide) (by decide) (mh_g126 _ _ _ _ _ (by decide)) ?_
          refine aw_if_le (tgt := 52) dX9_doneIn_30 (by decide) (hM.r _ (by unfold xc; omega)) (fun h30 => ?_) (fun h30 => ?_)
          · refine aw_aload_n dX9_doneIn_52 rfl ?_
            refine aw_getr (x := 126) dX9_doneIn_53 ci9 (by decide) fX9_7 (by decide) (by decide +kernel) rfl ((hHR 125 0 (by decide) (by decide +kernel)).trans rfl) ?_
            refine aw_bipush dX9_doneIn_56 (by decide) ?_
            refine aw_iald (N := 256) dX9_doneIn_58 (Or.inl ⟨(by decide), (by decide +kernel)⟩) (by decide) (by decide) (by decide) (mh_g126 _ _ _ _ _ (by decide)) ?_
            refine aw_if_le (tgt := 67) dX9_doneIn_59 (by decide) (hM.r _ (by unfold xc; omega)) (fun h59 => ?_) (fun h59 => ?_)
            · refine aw_iload_n dX9_doneIn_67 rfl ?_
              refine aw_istore_n (ls2 := [_, _, _]) dX9_doneIn_68 (by decide) rfl ?_
              refine aw_aload_n dX9_doneIn_69 rfl ?_
              refine aw_V0v dX9_doneIn_70 clX9_25 ⟨by decide, by decide⟩ (c := 9) (N := 11) (by decide) (by decide +kernel) rfl (c_X9_returns hHR) (by decide) (by decide) rfl rfl (by simp only [List.length_cons, List.length_nil]; omega) ?_
              refine aw_iload_n dX9_doneIn_73 rfl ?_
              refine aw_iret dX9_doneIn_74 rfl (by decide) (by decide) ?_
              refine ⟨_, rfl, rfl, rfl, ?_, keep_of (by intro a ha k; rfl) rfl rfl⟩
              rw [hres]
              have e : diA (d + 1 + 1) t n = (t, n) := by unfold diA; rw [if_neg (by rintro (q | q) <;> omega)]
              rw [e]
              rw [if_neg (by dsimp only; omega)]
            · refine aw_bipush dX9_doneIn_62 (by decide) ?_
              refine aw_goto (tgt := 68) dX9_doneIn_64 (by decide) ?_
              refine aw_istore_n (ls2 := [_, _, _]) dX9_doneIn_68 (by decide) rfl ?_
              refine aw_aload_n dX9_doneIn_69 rfl ?_
              refine aw_V0v dX9_doneIn_70 clX9_25 ⟨by decide, by decide⟩ (c := 9) (N := 11) (by decide) (by decide +kernel) rfl (c_X9_returns hHR) (by decide) (by decide) rfl rfl (by simp only [List.length_cons, List.length_nil]; omega) ?_
              refine aw_iload_n dX9_doneIn_73 rfl ?_
              refine aw_iret dX9_doneIn_74 rfl (by decide) (by decide) ?_
              refine ⟨_, rfl, rfl, rfl, ?_, keep_of (by intro a ha k; rfl) rfl rfl⟩
              rw [hres]
              have e : diA (d + 1 + 1) t n = (t, n) := by unfold diA; rw [if_neg (by rintro (q | q) <;> omega)]
              rw [e]
              rw [if_pos (by dsimp only; omega)]
          · refine aw_aload_n dX9_doneIn_33 rfl ?_
            refine aw_V0x dX9_doneIn_34 clX9_73 ⟨by decide, by decide⟩ (c := 9) (N := 11) (by decide) (by decide +kernel) rfl (c_X9_next hHR hM) (by decide) (by decide) rfl rfl (by simp only [List.length_cons, List.length_nil]; omega) ?_
            refine aw_bipush dX9_doneIn_37 (by decide) ?_
            refine aw_ic_ge (tgt := 52) dX9_doneIn_39 (by decide) ⟨by omega, by omega⟩ ⟨by decide, by decide⟩ (fun h39 => ?_) (fun h39 => ?_)
            · refine aw_aload_n dX9_doneIn_52 rfl ?_
              refine aw_getr (x := 126) dX9_doneIn_53 ci9 (by decide) fX9_7 (by decide) (by decide +kernel) rfl ((hHR 125 0 (by decide) (by decide +kernel)).trans rfl) ?_
              refine aw_bipush dX9_doneIn_56 (by decide) ?_
              refine aw_iald (N := 256) dX9_doneIn_58 (Or.inl ⟨(by decide), (by decide +kernel)⟩) (by decide) (by decide) (by decide) (mh_g126 _ _ _ _ _ (by decide)) ?_
              refine aw_if_le (tgt := 67) dX9_doneIn_59 (by decide) (hM.r _ (by unfold xc; omega)) (fun h59 => ?_) (fun h59 => ?_)
              · refine aw_iload_n dX9_doneIn_67 rfl ?_
                refine aw_istore_n (ls2 := [_, _, _]) dX9_doneIn_68 (by decide) rfl ?_
                refine aw_aload_n dX9_doneIn_69 rfl ?_
                refine aw_V0v dX9_doneIn_70 clX9_25 ⟨by decide, by decide⟩ (c := 9) (N := 11) (by decide) (by decide +kernel) rfl (c_X9_returns hHR) (by decide) (by decide) rfl rfl (by simp only [List.length_cons, List.length_nil]; omega) ?_
                refine aw_iload_n dX9_doneIn_73 rfl ?_
                refine aw_iret dX9_doneIn_74 rfl (by decide) (by decide) ?_
                refine ⟨_, rfl, rfl, rfl, ?_, keep_of (by intro a ha k; rfl) rfl rfl⟩
                rw [hres]
                have e : diA (d + 1 + 1) t n = (t, n) := by unfold diA; rw [if_neg (by rintro (q | q) <;> omega)]
                rw [e]
                rw [if_neg (by dsimp only; omega)]
              · refine aw_bipush dX9_doneIn_62 (by decide) ?_
                refine aw_goto (tgt := 68) dX9_doneIn_64 (by decide) ?_
                refine aw_istore_n (ls2 := [_, _, _]) dX9_doneIn_68 (by decide) rfl ?_
                refine aw_aload_n dX9_doneIn_69 rfl ?_
                refine aw_V0v dX9_doneIn_70 clX9_25 ⟨by decide, by decide⟩ (c := 9) (N := 11) (by decide) (by decide +kernel) rfl (c_X9_returns hHR) (by decide) (by decide) rfl rfl (by simp only [List.length_cons, List.length_nil]; omega) ?_
                refine aw_iload_n dX9_doneIn_73 rfl ?_
                refine aw_iret dX9_doneIn_74 rfl (by decide) (by decide) ?_
                refine ⟨_, rfl, rfl, rfl, ?_, keep_of (by intro a ha k; rfl) rfl rfl⟩
                rw [hres]
                have e : diA (d + 1 + 1) t n = (t, n) := by unfold diA; rw [if_neg (by rintro (q | q) <;> omega)]
                rw [e]
                rw [if_pos (by dsimp only; omega)]
            · have hc : iwF t = 1 ∨ (0 < t 11 ∧ nxt t < 16) := by rcases iw_b t with q | q <;> omega
              have hm0 : 1 ≤ mu t := by unfold mu; rcases hc with q | q <;> first | omega | (unfold iwF at q; split at q <;> omega)
              have hb1 : t 0 + 1 ≤ BIG := by omega
              refine aw_aload_n dX9_doneIn_42 rfl ?_
              refine aw_V0v dX9_doneIn_43 clX9_101 ⟨by decide, by decide⟩ (c := 9) (N := 11) (by decide) (by decide +kernel) rfl (c_X9_ticks hHR hM hb1) (by decide) (by decide) rfl rfl (by simp only [List.length_cons, List.length_nil]; omega) ?_
              refine aw_iinc (ls2 := [_, _, _]) dX9_doneIn_46 rfl (by decide) rfl ?_
              refine aw_goto (tgt := 16) dX9_doneIn_49 (by decide) ?_
              have g := tiF_mu hM hL hb1 hc
              have g0 := tiF_M hM hb1
              refine ih (tiF t) (n + 1) g0.1 g.2 (by omega) (by rw [g0.2]; omega) ?_
              rw [hres, diA, if_pos hc]
    refine aw_aload_n dX9_doneIn_0 rfl ?_
    refine aw_V0x dX9_doneIn_1 clX9_107 ⟨by decide, by decide⟩ (c := 9) (N := 11) (by decide) (by decide +kernel) rfl (c_X9_isOff hHR hM0) (by decide) (by decide) rfl rfl (by simp only [List.length_cons, List.length_nil]; omega) ?_
    refine aw_if_eq (tgt := 10) dX9_doneIn_4 (by decide) (hM0.r _ (by unfold xc; omega)) (fun h4 => ?_) (fun h4 => ?_)
    · refine aw_aload_n dX9_doneIn_10 rfl ?_
      refine aw_V0v dX9_doneIn_11 clX9_131 ⟨by decide, by decide⟩ (c := 9) (N := 11) (by decide) (by decide +kernel) rfl (c_X9_begins hHR) (by decide) (by decide) rfl rfl (by simp only [List.length_cons, List.length_nil]; omega) ?_
      refine aw_iconst dX9_doneIn_14 ?_
      refine aw_istore_n (ls2 := [_, _, _]) dX9_doneIn_15 (by decide) rfl ?_
      refine loop 999999 (sg hi) 0 hM0 hL0 (by unfold BIG at hb0; have := hM0.z 0 (by unfold xc; omega); omega) (by omega) ?_
      show diF (sg hi) = if 0 < (diA 1000000 (sg hi) 0).1 11 then -4 else (diA 1000000 (sg hi) 0).2
      unfold diF
      rw [if_neg (by omega)]
    · refine aw_bipush dX9_doneIn_7 (by decide) ?_
      refine aw_iret dX9_doneIn_9 rfl (by decide) (by decide) ?_
      exact ⟨_, rfl, rfl, rfl, (by unfold diF; rw [if_pos (by omega)]), (show KEEP hi (mh hi (fd hi) (pst hi) (bn hi) (sg hi)) by rw [mh_self]; exact KEEP.rf hi)⟩
  rwa [mh_self] at K
set_option maxRecDepth 100000 in
set_option maxHeartbeats 4000000 in
theorem c_X9_undo (hHR : HRk hr) (h0 : 0 ≤ hi 125 3) (h4 : hi 125 3 ≤ 4) : AMet E M_X9_undo [aR 125] hi hr 131 (PI (fun v h r2 n2 => r2 = hr ∧ n2 = 131 ∧ (hi 125 3 = 0 → v = -2 ∧ h = hi) ∧ (0 < hi 125 3 → v = hi 125 3 - 1 ∧ (∀ a : Nat, a < 125 → ∀ k : Nat, h a k = hi a k) ∧ (∀ k : Nat, h 129 k = hi 129 k) ∧ h 125 3 = hi 125 3 - 1 ∧ h 125 5 = hi 125 5 ∧ (∀ k : Int, 0 ≤ k → k < 256 → sg h k = pst hi (256 * (hi 125 3 - 1) + k)) ∧ ∀ k : Nat, h 128 k = hi 128 k))) := by
  have K : AMet E M_X9_undo [aR 125] (mh hi (fd hi) (pst hi) (bn hi) (sg hi)) hr 131 (PI (fun v h r2 n2 => r2 = hr ∧ n2 = 131 ∧ (hi 125 3 = 0 → v = -2 ∧ h = hi) ∧ (0 < hi 125 3 → v = hi 125 3 - 1 ∧ (∀ a : Nat, a < 125 → ∀ k : Nat, h a k = hi a k) ∧ (∀ k : Nat, h 129 k = hi 129 k) ∧ h 125 3 = hi 125 3 - 1 ∧ h 125 5 = hi 125 5 ∧ (∀ k : Int, 0 ≤ k → k < 256 → sg h k = pst hi (256 * (hi 125 3 - 1) + k)) ∧ ∀ k : Nat, h 128 k = hi 128 k))) := by
    refine am_of (by decide +kernel) (Nat.le_of_ble_eq_true rfl) ?_
    have f3 : fd hi 3 = hi 125 3 := rfl
    have loop : 0 < hi 125 3 → ∀ (d k : Nat) (t : Int → Int), k + d = 256 → (∀ j : Int, 0 ≤ j → j < k → t j = pst hi (256 * (hi 125 3 - 1) + j)) → AW E M_X9_undo 0 0 22 [some (aR 125), some (aI (k : Int))] [] (mh hi (up1 (fd hi) 3 (hi 125 3 - 1)) (pst hi) (bn hi) t) hr 131 (PI (fun v h r2 n2 => r2 = hr ∧ n2 = 131 ∧ (hi 125 3 = 0 → v = -2 ∧ h = hi) ∧ (0 < hi 125 3 → v = hi 125 3 - 1 ∧ (∀ a : Nat, a < 125 → ∀ k : Nat, h a k = hi a k) ∧ (∀ k : Nat, h 129 k = hi 129 k) ∧ h 125 3 = hi 125 3 - 1 ∧ h 125 5 = hi 125 5 ∧ (∀ k : Int, 0 ≤ k → k < 256 → sg h k = pst hi (256 * (hi 125 3 - 1) + k)) ∧ ∀ k : Nat, h 128 k = hi 128 k))) := by
      intro hp d
      induction d with
      | zero =>
        intro k t hk ht
        have hk' : k = 256 := by omega
        subst hk'
        refine aw_iload_n dX9_undo_22 rfl ?_
        refine aw_sipush dX9_undo_23 (by decide) ?_
        refine aw_ic_ge (tgt := 56) dX9_undo_26 (by decide) ⟨by decide, by decide⟩ ⟨by decide, by decide⟩ (fun h26 => ?_) (fun h26 => ?_)
        · refine aw_aload_n dX9_undo_56 rfl ?_
          refine aw_getv dX9_undo_57 ci9 (by decide) fX9_28 (by decide) (by decide +kernel) rfl (mh_f _ _ _ _ _ 3 3 rfl) ?_
          refine aw_iret dX9_undo_60 rfl (by decide) (by decide) ?_
          refine ⟨_, rfl, rfl, rfl, fun q => by omega, fun _ => ⟨by rw [up1_s], fun a ha k => mh_x _ _ _ _ _ _ (by omega), fun k => mh_x _ _ _ _ _ _ (by omega), ?_, ?_, fun k h1 h2 => ?_, fun k => ?_⟩⟩
          · rw [mh_f _ _ _ _ _ 3 3 rfl, up1_s]
          · rw [mh_f _ _ _ _ _ 5 5 rfl, up1_n _ _ (by decide)]; rfl
          · rw [sg_mh _ _ _ _ _ h1]; exact ht k h1 (by omega)
          · unfold mh
            rw [pa_gn _ _ _ (by decide), pa_gn _ _ _ (by decide), pa_g]
            show hi 128 (k : Int).toNat = _
            rw [Int.toNat_natCast]
        · exact absurd h26 (by decide)
      | succ d ih =>
        intro k t hk ht
        refine aw_iload_n dX9_undo_22 rfl ?_
        refine aw_sipush dX9_undo_23 (by decide) ?_
        refine aw_ic_ge (tgt := 56) dX9_undo_26 (by decide) ⟨by omega, by omega⟩ ⟨by decide, by decide⟩ (fun h26 => ?_) (fun h26 => ?_)
        · exact absurd h26 (by omega)
        · refine aw_aload_n dX9_undo_29 rfl ?_
          refine aw_getr (x := 126) dX9_undo_30 ci9 (by decide) fX9_7 (by decide) (by decide +kernel) rfl ((hHR 125 0 (by decide) (by decide +kernel)).trans rfl) ?_
          refine aw_iload_n dX9_undo_33 rfl ?_
          refine aw_aload_n dX9_undo_34 rfl ?_
          refine aw_getr (x := 128) dX9_undo_35 ci9 (by decide) fX9_16 (by decide) (by decide +kernel) rfl ((hHR 125 2 (by decide) (by decide +kernel)).trans rfl) ?_
          refine aw_sipush dX9_undo_38 (by decide) ?_
          refine aw_aload_n dX9_undo_41 rfl ?_
          refine aw_getv dX9_undo_42 ci9 (by decide) fX9_28 (by decide) (by decide +kernel) rfl (mh_f _ _ _ _ _ 3 3 rfl) ?_
          rw [up1_s]
          refine aw_imul dX9_undo_45 ?_
          refine aw_iload_n dX9_undo_46 rfl ?_
          refine aw_iadd dX9_undo_47 ?_
          refine aw_iald (N := 1024) dX9_undo_48 (Or.inl ⟨(by decide), (by decide +kernel)⟩) (by omega) (by omega) (by decide) (mh_g128 _ _ _ _ _ (by omega)) ?_
          refine aw_iast (N := 256) dX9_undo_49 (by decide) (by decide +kernel) (by omega) (by omega) (by decide) (mh_u126 _ _ _ _ _ _ _ (by omega)) ?_
          refine aw_iinc (ls2 := [_, _]) dX9_undo_50 rfl (by decide) rfl ?_
          refine aw_goto (tgt := 22) dX9_undo_53 (by decide) ?_
          refine ih (k + 1) _ (by omega) (fun j h0 h1 => ?_)
          unfold up1
          split
          · next e => rw [e]
          · exact ht j h0 (by omega)
    refine aw_aload_n dX9_undo_0 rfl ?_
    refine aw_getv dX9_undo_1 ci9 (by decide) fX9_28 (by decide) (by decide +kernel) rfl (mh_f _ _ _ _ _ 3 3 rfl) ?_
    refine aw_if_ne (tgt := 10) dX9_undo_4 (by decide) (by rw [f3]; exact ⟨by omega, by omega⟩) (fun h4 => ?_) (fun h4 => ?_)
    · refine aw_aload_n dX9_undo_10 rfl ?_
      refine aw_dup dX9_undo_11 ?_
      refine aw_getv dX9_undo_12 ci9 (by decide) fX9_28 (by decide) (by decide +kernel) rfl (mh_f _ _ _ _ _ 3 3 rfl) ?_
      refine aw_iconst dX9_undo_15 ?_
      refine aw_isub dX9_undo_16 ?_
      refine aw_putv dX9_undo_17 ci9 (by decide) fX9_28 (by decide) (by decide +kernel) rfl rfl (Or.inl rfl) (mh_uf _ _ _ _ _ 3 3 _ rfl) ?_
      refine aw_iconst dX9_undo_20 ?_
      refine aw_istore_n (ls2 := [_, _]) dX9_undo_21 (by decide) rfl ?_
      exact loop (by omega) 256 0 (sg hi) (by omega) (fun j h0 h1 => by omega)
    · refine aw_bipush dX9_undo_7 (by decide) ?_
      refine aw_iret dX9_undo_9 rfl (by decide) (by decide) ?_
      exact ⟨_, rfl, rfl, rfl, fun _ => ⟨rfl, mh_self hi⟩, fun q => by omega⟩
  rwa [mh_self] at K
end TWIN7
