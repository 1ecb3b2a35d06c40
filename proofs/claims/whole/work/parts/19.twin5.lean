/-! the twin's acts: blocks, requests -/
section TWIN5
variable {E : ET} {hi : HI} {hr : HR} {s : Int → Int}
theorem MI.on {s : Int → Int} (hM : MI s) : MI (up1 s 1 0) := hM.up ⟨fun _ => ⟨by omega, by unfold BIG; omega⟩, fun e => by omega, fun e => by omega, fun e => by omega, fun e => by omega, fun _ => Or.inl rfl, fun e => by omega, fun e => by omega, fun e => by omega, fun e => by omega, fun e1 e2 => by omega, fun e => by omega, fun e => by omega⟩
set_option maxRecDepth 100000 in
set_option maxHeartbeats 4000000 in
theorem c_X9_turnsOn (hHR : HRk hr) (hM0 : MI s) : AMet E M_X9_turnsOn [aR 125] (pa 126 hi s) hr 131 (EX (some (aI ((opF s).1))) (pa 126 hi ((opF s).2)) hr 131) := by
  refine am_of (by decide +kernel) (Nat.le_of_ble_eq_true rfl) ?_
  have h1 := hM0.2.2.2.2.2.1
  have loop : s 1 = 1 → ∀ (d k : Nat), k + d = 48 → AW E M_X9_turnsOn 0 0 19 [some (aR 125), some (aI (k : Int))] [] (pa 126 hi (opA (up1 s 1 0) k)) hr 131 (EX (some (aI ((opF s).1))) (pa 126 hi ((opF s).2)) hr 131) := by
    intro hs d
    have eo : opF s = (opA (up1 s 1 0) 48 11, opA (up1 s 1 0) 48) := by unfold opF; rw [if_pos hs]
    rw [eo]
    induction d with
    | zero =>
      intro k hk
      have hk' : k = 48 := by omega
      subst hk'
      refine aw_iload_n dX9_turnsOn_19 rfl ?_
      refine aw_bipush dX9_turnsOn_20 (by decide) ?_
      refine aw_ic_ge (tgt := 66) dX9_turnsOn_22 (by decide) ⟨by decide, by decide⟩ ⟨by decide, by decide⟩ (fun h22 => ?_) (fun h22 => ?_)
      · refine aw_aload_n dX9_turnsOn_66 rfl ?_
        refine aw_getr (x := 126) dX9_turnsOn_67 ci9 (by decide) fX9_7 (by decide) (by decide +kernel) rfl ((hHR 125 0 (by decide) (by decide +kernel)).trans rfl) ?_
        refine aw_bipush dX9_turnsOn_70 (by decide) ?_
        refine aw_iald (N := 256) dX9_turnsOn_72 (Or.inl ⟨(by decide), (by decide +kernel)⟩) (by decide) (by decide) (by decide) (pa_gi 126 _ _ (by decide)) ?_
        refine aw_iret dX9_turnsOn_73 rfl (by decide) (by decide) ?_
        exact EX.rf
      · exact absurd h22 (by decide)
    | succ d ih =>
      intro k hk
      have hM := opA_M hM0.on k (by omega)
      refine aw_iload_n dX9_turnsOn_19 rfl ?_
      refine aw_bipush dX9_turnsOn_20 (by decide) ?_
      refine aw_ic_ge (tgt := 66) dX9_turnsOn_22 (by decide) ⟨by omega, by omega⟩ ⟨by decide, by decide⟩ (fun h22 => ?_) (fun h22 => ?_)
      · exact absurd h22 (by omega)
      · refine aw_iload_n dX9_turnsOn_25 rfl ?_
        refine aw_bipush dX9_turnsOn_26 (by decide) ?_
        refine aw_irem dX9_turnsOn_28 (by omega) ⟨by omega, by omega⟩ (by decide) ⟨by decide, by decide⟩ ?_
        refine aw_bipush dX9_turnsOn_29 (by decide) ?_
        refine aw_ic_lt (tgt := 60) dX9_turnsOn_31 (by decide) ⟨by omega, by omega⟩ ⟨by decide, by decide⟩ (fun h31 => ?_) (fun h31 => ?_)
        · refine aw_iinc (ls2 := [_, _]) dX9_turnsOn_60 rfl (by decide) rfl ?_
          refine aw_goto (tgt := 19) dX9_turnsOn_63 (by decide) ?_
          have e : opA (up1 s 1 0) (k + 1) = opA (up1 s 1 0) k := by
            simp only [opA]
            rw [if_neg (by omega)]
          have g := ih (k + 1) (by omega)
          rw [e] at g
          exact g
        · refine aw_aload_n dX9_turnsOn_34 rfl ?_
          refine aw_getr (x := 126) dX9_turnsOn_35 ci9 (by decide) fX9_7 (by decide) (by decide +kernel) rfl ((hHR 125 0 (by decide) (by decide +kernel)).trans rfl) ?_
          refine aw_bipush dX9_turnsOn_38 (by decide) ?_
          refine aw_iald (N := 256) dX9_turnsOn_40 (Or.inl ⟨(by decide), (by decide +kernel)⟩) (by decide) (by decide) (by decide) (pa_gi 126 _ _ (by decide)) ?_
          refine aw_bipush dX9_turnsOn_41 (by decide) ?_
          refine aw_ic_ge (tgt := 60) dX9_turnsOn_43 (by decide) (hM.r _ (by unfold xc; omega)) ⟨by decide, by decide⟩ (fun h43 => ?_) (fun h43 => ?_)
          · refine aw_iinc (ls2 := [_, _]) dX9_turnsOn_60 rfl (by decide) rfl ?_
            refine aw_goto (tgt := 19) dX9_turnsOn_63 (by decide) ?_
            have e : opA (up1 s 1 0) (k + 1) = opA (up1 s 1 0) k := by
              simp only [opA]
              rw [if_neg (by omega)]
            have g := ih (k + 1) (by omega)
            rw [e] at g
            exact g
          · refine aw_aload_n dX9_turnsOn_46 rfl ?_
            refine aw_iload_n dX9_turnsOn_47 rfl ?_
            refine aw_V1x dX9_turnsOn_48 clX9_116 ⟨by decide, by decide⟩ (c := 9) (N := 11) (by decide) (by decide +kernel) rfl (c_X9_isPlace hHR hM (by omega) (by omega)) (by decide) (by decide) rfl rfl (by simp only [List.length_cons, List.length_nil]; omega) ?_
            refine aw_if_eq (tgt := 60) dX9_turnsOn_51 (by decide) (by rcases ip_b (opA (up1 s 1 0) k) (k : Int) with q | q <;> rw [q] <;> exact ⟨by decide, by decide⟩) (fun h51 => ?_) (fun h51 => ?_)
            · refine aw_iinc (ls2 := [_, _]) dX9_turnsOn_60 rfl (by decide) rfl ?_
              refine aw_goto (tgt := 19) dX9_turnsOn_63 (by decide) ?_
              have e : opA (up1 s 1 0) (k + 1) = opA (up1 s 1 0) k := by
                simp only [opA]
                rw [if_neg (by omega)]
              have g := ih (k + 1) (by omega)
              rw [e] at g
              exact g
            · refine aw_aload_n dX9_turnsOn_54 rfl ?_
              refine aw_iload_n dX9_turnsOn_55 rfl ?_
              refine aw_iconst dX9_turnsOn_56 ?_
              refine aw_V2v dX9_turnsOn_57 clX9_119 ⟨by decide, by decide⟩ (c := 9) (N := 11) (by decide) (by decide +kernel) rfl (c_X9_copies (c := (k : Int)) (u := 0) hHR hM (by omega) ⟨by decide, by decide⟩ (by omega) (by omega)) (by decide) (by decide) rfl rfl (by simp only [List.length_cons, List.length_nil]; omega) ?_
              refine aw_iinc (ls2 := [_, _]) dX9_turnsOn_60 rfl (by decide) rfl ?_
              refine aw_goto (tgt := 19) dX9_turnsOn_63 (by decide) ?_
              have e : opA (up1 s 1 0) (k + 1) = cpF (opA (up1 s 1 0) k) (k : Int) 0 := by
                simp only [opA]
                rw [if_pos ⟨by omega, by omega, by rcases ip_b (opA (up1 s 1 0) k) (k : Int) with q | q <;> omega⟩]
              have g := ih (k + 1) (by omega)
              rw [e] at g
              exact g
  refine aw_aload_n dX9_turnsOn_0 rfl ?_
  refine aw_V0x dX9_turnsOn_1 clX9_107 ⟨by decide, by decide⟩ (c := 9) (N := 11) (by decide) (by decide +kernel) rfl (c_X9_isOff hHR hM0) (by decide) (by decide) rfl rfl (by simp only [List.length_cons, List.length_nil]; omega) ?_
  refine aw_if_ne (tgt := 10) dX9_turnsOn_4 (by decide) (hM0.r _ (by unfold xc; omega)) (fun h4 => ?_) (fun h4 => ?_)
  · refine aw_aload_n dX9_turnsOn_10 rfl ?_
    refine aw_getr (x := 126) dX9_turnsOn_11 ci9 (by decide) fX9_7 (by decide) (by decide +kernel) rfl ((hHR 125 0 (by decide) (by decide +kernel)).trans rfl) ?_
    refine aw_iconst dX9_turnsOn_14 ?_
    refine aw_iconst dX9_turnsOn_15 ?_
    refine aw_iast (N := 256) dX9_turnsOn_16 (by decide) (by decide +kernel) (by decide) (by decide) (by decide) (pa_ui 126 _ _ _ (by decide)) ?_
    refine aw_iconst dX9_turnsOn_17 ?_
    refine aw_istore_n (ls2 := [_, _]) dX9_turnsOn_18 (by decide) rfl ?_
    exact loop (by omega) 48 0 (by omega)
  · refine aw_bipush dX9_turnsOn_7 (by decide) ?_
    refine aw_iret dX9_turnsOn_9 rfl (by decide) (by decide) ?_
    exact exH (by unfold opF; rw [if_neg (by omega)]) (by unfold opF; rw [if_neg (by omega)])
set_option maxRecDepth 100000 in
set_option maxHeartbeats 4000000 in
theorem c_X9_asks {key val urg : Int} (hHR : HRk hr) (hM : MI s) (hk : InR key) (hv : InR val) (hu : InR urg) : AMet E M_X9_asks [aR 125, aI key, aI val, aI urg] (pa 126 hi s) hr 131 (EX (some (aI ((asF s key val urg).1))) (pa 126 hi ((asF s key val urg).2)) hr 131) := by
  refine am_of (by decide +kernel) (Nat.le_of_ble_eq_true rfl) ?_
  have h1 := hM.2.2.2.2.2.1
  have h8 := hM.2.2.1
  refine aw_iload_n dX9_asks_0 rfl ?_
  refine aw_iconst dX9_asks_1 ?_
  refine aw_bipush dX9_asks_2 (by decide) ?_
  refine aw_S3x dX9_asks_4 clX9_32 ⟨by decide, by decide⟩ (c_X9_in hk ⟨by decide, by decide⟩ ⟨by decide, by decide⟩) (by decide) (by decide) rfl rfl (by simp only [List.length_cons, List.length_nil]; omega) ?_
  refine aw_if_eq (tgt := 30) dX9_asks_7 (by decide) in_r (fun h7 => ?_) (fun h7 => ?_)
  · refine aw_iconst dX9_asks_30 ?_
    refine aw_iret dX9_asks_31 rfl (by decide) (by decide) ?_
    rw [in0] at h7
    exact exH (by unfold asF; rw [if_pos (by omega)]) (by unfold asF; rw [if_pos (by omega)])
  · refine aw_iload_n dX9_asks_10 rfl ?_
    refine aw_iconst dX9_asks_11 ?_
    refine aw_sipush dX9_asks_12 (by decide) ?_
    refine aw_S3x dX9_asks_15 clX9_32 ⟨by decide, by decide⟩ (c_X9_in hv ⟨by decide, by decide⟩ ⟨by decide, by decide⟩) (by decide) (by decide) rfl rfl (by simp only [List.length_cons, List.length_nil]; omega) ?_
    refine aw_if_eq (tgt := 30) dX9_asks_18 (by decide) in_r (fun h18 => ?_) (fun h18 => ?_)
    · refine aw_iconst dX9_asks_30 ?_
      refine aw_iret dX9_asks_31 rfl (by decide) (by decide) ?_
      rw [in0] at h18
      exact exH (by unfold asF; rw [if_pos (by omega)]) (by unfold asF; rw [if_pos (by omega)])
    · refine aw_iload_n dX9_asks_21 rfl ?_
      refine aw_iconst dX9_asks_22 ?_
      refine aw_iconst dX9_asks_23 ?_
      refine aw_S3x dX9_asks_24 clX9_32 ⟨by decide, by decide⟩ (c_X9_in hu ⟨by decide, by decide⟩ ⟨by decide, by decide⟩) (by decide) (by decide) rfl rfl (by simp only [List.length_cons, List.length_nil]; omega) ?_
      refine aw_if_ne (tgt := 32) dX9_asks_27 (by decide) in_r (fun h27 => ?_) (fun h27 => ?_)
      · refine aw_aload_n dX9_asks_32 rfl ?_
        refine aw_V0x dX9_asks_33 clX9_107 ⟨by decide, by decide⟩ (c := 9) (N := 11) (by decide) (by decide +kernel) rfl (c_X9_isOff hHR hM) (by decide) (by decide) rfl rfl (by simp only [List.length_cons, List.length_nil]; omega) ?_
        refine aw_if_eq (tgt := 42) dX9_asks_36 (by decide) (hM.r _ (by unfold xc; omega)) (fun h36 => ?_) (fun h36 => ?_)
        · refine aw_aload_n dX9_asks_42 rfl ?_
          refine aw_getr (x := 126) dX9_asks_43 ci9 (by decide) fX9_7 (by decide) (by decide +kernel) rfl ((hHR 125 0 (by decide) (by decide +kernel)).trans rfl) ?_
          refine aw_bipush dX9_asks_46 (by decide) ?_
          refine aw_iald (N := 256) dX9_asks_48 (Or.inl ⟨(by decide), (by decide +kernel)⟩) (by decide) (by decide) (by decide) (pa_gi 126 _ _ (by decide)) ?_
          refine aw_bipush dX9_asks_49 (by decide) ?_
          refine aw_ic_ne (tgt := 57) dX9_asks_51 (by decide) (hM.r _ (by unfold xc; omega)) ⟨by decide, by decide⟩ (fun h51 => ?_) (fun h51 => ?_)
          · refine aw_aload_n dX9_asks_57 rfl ?_
            refine aw_iload_n dX9_asks_58 rfl ?_
            refine aw_iload_n dX9_asks_59 rfl ?_
            refine aw_iconst dX9_asks_60 ?_
            refine aw_iload_n dX9_asks_61 rfl ?_
            refine aw_isub dX9_asks_62 ?_
            refine aw_iconst dX9_asks_63 ?_
            refine aw_V4v dX9_asks_64 clX9_54 ⟨by decide, by decide⟩ (c := 9) (N := 11) (by decide) (by decide +kernel) rfl (c_X9_comes hHR hM (by omega) (by rw [in0, Classical.not_not] at h27; exact ⟨by omega, by omega⟩)) (by decide) (by decide) rfl rfl (by simp only [List.length_cons, List.length_nil]; omega) ?_
            refine aw_aload_n dX9_asks_67 rfl ?_
            refine aw_getr (x := 126) dX9_asks_68 ci9 (by decide) fX9_7 (by decide) (by decide +kernel) rfl ((hHR 125 0 (by decide) (by decide +kernel)).trans rfl) ?_
            refine aw_bipush dX9_asks_71 (by decide) ?_
            refine aw_iald (N := 256) dX9_asks_73 (Or.inl ⟨(by decide), (by decide +kernel)⟩) (by decide) (by decide) (by decide) (pa_gi 126 _ _ (by decide)) ?_
            refine aw_iret dX9_asks_74 rfl (by decide) (by decide) ?_
            rw [in0, Classical.not_not] at h7 h18 h27
            exact exH (by unfold asF; rw [if_neg (by omega), if_neg (by omega), if_neg (by omega)]) (by unfold asF; rw [if_neg (by omega), if_neg (by omega), if_neg (by omega)])
          · refine aw_bipush dX9_asks_54 (by decide) ?_
            refine aw_iret dX9_asks_56 rfl (by decide) (by decide) ?_
            rw [in0, Classical.not_not] at h7 h18 h27
            exact exH (by unfold asF; rw [if_neg (by omega), if_neg (by omega), if_pos (by omega)]) (by unfold asF; rw [if_neg (by omega), if_neg (by omega), if_pos (by omega)])
        · refine aw_bipush dX9_asks_39 (by decide) ?_
          refine aw_iret dX9_asks_41 rfl (by decide) (by decide) ?_
          rw [in0, Classical.not_not] at h7 h18 h27
          exact exH (by unfold asF; rw [if_neg (by omega), if_pos (by omega)]) (by unfold asF; rw [if_neg (by omega), if_pos (by omega)])
      · refine aw_iconst dX9_asks_30 ?_
        refine aw_iret dX9_asks_31 rfl (by decide) (by decide) ?_
        rw [in0] at h27
        exact exH (by unfold asF; rw [if_pos (by omega)]) (by unfold asF; rw [if_pos (by omega)])
set_option maxRecDepth 100000 in
set_option maxHeartbeats 4000000 in
theorem c_X9_lets {many : Int} (hHR : HRk hr) (hM : MI s) (hk : InR many) : AMet E M_X9_lets [aR 125, aI many] (pa 126 hi s) hr 131 (EX (some (aI ((ltF s many).1))) (pa 126 hi ((ltF s many).2)) hr 131) := by
  refine am_of (by decide +kernel) (Nat.le_of_ble_eq_true rfl) ?_
  have h1 := hM.2.2.2.2.2.1
  have b0 := hM.b 0 (by unfold xc; omega)
  have z0 := hM.z 0 (by unfold xc; omega)
  refine aw_iload_n dX9_lets_0 rfl ?_
  refine aw_iconst dX9_lets_1 ?_
  refine aw_sipush dX9_lets_2 (by decide) ?_
  refine aw_S3x dX9_lets_5 clX9_32 ⟨by decide, by decide⟩ (c_X9_in hk ⟨by decide, by decide⟩ ⟨by decide, by decide⟩) (by decide) (by decide) rfl rfl (by simp only [List.length_cons, List.length_nil]; omega) ?_
  refine aw_if_ne (tgt := 13) dX9_lets_8 (by decide) in_r (fun h8 => ?_) (fun h8 => ?_)
  · refine aw_aload_n dX9_lets_13 rfl ?_
    refine aw_V0x dX9_lets_14 clX9_107 ⟨by decide, by decide⟩ (c := 9) (N := 11) (by decide) (by decide +kernel) rfl (c_X9_isOff hHR hM) (by decide) (by decide) rfl rfl (by simp only [List.length_cons, List.length_nil]; omega) ?_
    refine aw_if_eq (tgt := 25) dX9_lets_17 (by decide) (hM.r _ (by unfold xc; omega)) (fun h17 => ?_) (fun h17 => ?_)
    · refine aw_aload_n dX9_lets_25 rfl ?_
      refine aw_getr (x := 126) dX9_lets_26 ci9 (by decide) fX9_7 (by decide) (by decide +kernel) rfl ((hHR 125 0 (by decide) (by decide +kernel)).trans rfl) ?_
      refine aw_iconst dX9_lets_29 ?_
      refine aw_iald (N := 256) dX9_lets_30 (Or.inl ⟨(by decide), (by decide +kernel)⟩) (by decide) (by decide) (by decide) (pa_gi 126 _ _ (by decide)) ?_
      refine aw_iload_n dX9_lets_31 rfl ?_
      refine aw_iadd dX9_lets_32 ?_
      refine aw_sipush dX9_lets_33 (by decide) ?_
      refine aw_ic_le (tgt := 44) dX9_lets_36 (by decide) (by rw [in0, Classical.not_not] at h8; unfold BIG at b0; exact ⟨by omega, by omega⟩) ⟨by decide, by decide⟩ (fun h36 => ?_) (fun h36 => ?_)
      · refine aw_aload_n dX9_lets_44 rfl ?_
        refine aw_iload_n dX9_lets_45 rfl ?_
        refine aw_V1x dX9_lets_46 clX9_122 ⟨by decide, by decide⟩ (c := 9) (N := 11) (by decide) (by decide +kernel) rfl (by have g := c_X9_goes (E := E) (hi := hi) (hr := hr) (s := s) (m := many.toNat) hHR hM (by rw [in0, Classical.not_not] at h8; omega) (by rw [in0, Classical.not_not] at h8; unfold BIG; omega); rw [Int.toNat_of_nonneg (show 0 ≤ many by rw [in0, Classical.not_not] at h8; omega)] at g; exact g) (by decide) (by decide) rfl rfl (by simp only [List.length_cons, List.length_nil]; omega) ?_
        refine aw_iret dX9_lets_49 rfl (by decide) (by decide) ?_
        rw [in0, Classical.not_not] at h8
        exact exH (by unfold ltF; rw [if_neg (by omega), if_neg (by omega), if_neg (by omega)]) (by unfold ltF; rw [if_neg (by omega), if_neg (by omega), if_neg (by omega)])
      · refine aw_bipush dX9_lets_39 (by decide) ?_
        refine aw_goto (tgt := 49) dX9_lets_41 (by decide) ?_
        refine aw_iret dX9_lets_49 rfl (by decide) (by decide) ?_
        rw [in0, Classical.not_not] at h8
        exact exH (by unfold ltF; rw [if_neg (by omega), if_neg (by omega), if_pos (by omega)]) (by unfold ltF; rw [if_neg (by omega), if_neg (by omega), if_pos (by omega)])
    · refine aw_bipush dX9_lets_20 (by decide) ?_
      refine aw_goto (tgt := 49) dX9_lets_22 (by decide) ?_
      refine aw_iret dX9_lets_49 rfl (by decide) (by decide) ?_
      rw [in0, Classical.not_not] at h8
      exact exH (by unfold ltF; rw [if_neg (by omega), if_pos (by omega)]) (by unfold ltF; rw [if_neg (by omega), if_pos (by omega)])
  · refine aw_iconst dX9_lets_11 ?_
    refine aw_iret dX9_lets_12 rfl (by decide) (by decide) ?_
    rw [in0] at h8
    exact exH (by unfold ltF; rw [if_pos (by omega)]) (by unfold ltF; rw [if_pos (by omega)])
set_option maxRecDepth 100000 in
set_option maxHeartbeats 4000000 in
theorem c_X9_changes (hHR : HRk hr) (hM : MI s) : AMet E M_X9_changes [aR 125] (pa 126 hi s) hr 131 (EX (some (aI ((chF s).1))) (pa 126 hi ((chF s).2)) hr 131) := by
  refine am_of (by decide +kernel) (Nat.le_of_ble_eq_true rfl) ?_
  have h1 := hM.2.2.2.2.2.1
  have hb := hM.2.1
  have hb1 : ∀ k, blA s (1 - s 2) k = 0 ∨ blA s (1 - s 2) k = 1 := by
    intro k
    cases k with
    | zero => right; rfl
    | succ k => simp only [blA]; split <;> simp
  refine aw_aload_n dX9_changes_0 rfl ?_
  refine aw_V0x dX9_changes_1 clX9_107 ⟨by decide, by decide⟩ (c := 9) (N := 11) (by decide) (by decide +kernel) rfl (c_X9_isOff hHR hM) (by decide) (by decide) rfl rfl (by simp only [List.length_cons, List.length_nil]; omega) ?_
  refine aw_if_ne (tgt := 29) dX9_changes_4 (by decide) (hM.r _ (by unfold xc; omega)) (fun h4 => ?_) (fun h4 => ?_)
  · refine aw_bipush dX9_changes_29 (by decide) ?_
    refine aw_iret dX9_changes_31 rfl (by decide) (by decide) ?_
    exact exH (by unfold chF; rw [if_pos (by rcases iw_b s with q | q <;> omega)]) (by unfold chF; rw [if_pos (by rcases iw_b s with q | q <;> omega)])
  · refine aw_aload_n dX9_changes_7 rfl ?_
    refine aw_V0x dX9_changes_8 clX9_77 ⟨by decide, by decide⟩ (c := 9) (N := 11) (by decide) (by decide +kernel) rfl (c_X9_isWriting hHR hM) (by decide) (by decide) rfl rfl (by simp only [List.length_cons, List.length_nil]; omega) ?_
    refine aw_if_ne (tgt := 29) dX9_changes_11 (by decide) (by rcases iw_b s with q | q <;> rw [q] <;> exact ⟨by decide, by decide⟩) (fun h11 => ?_) (fun h11 => ?_)
    · refine aw_bipush dX9_changes_29 (by decide) ?_
      refine aw_iret dX9_changes_31 rfl (by decide) (by decide) ?_
      exact exH (by unfold chF; rw [if_pos (by rcases iw_b s with q | q <;> omega)]) (by unfold chF; rw [if_pos (by rcases iw_b s with q | q <;> omega)])
    · refine aw_aload_n dX9_changes_14 rfl ?_
      refine aw_iconst dX9_changes_15 ?_
      refine aw_aload_n dX9_changes_16 rfl ?_
      refine aw_getr (x := 126) dX9_changes_17 ci9 (by decide) fX9_7 (by decide) (by decide +kernel) rfl ((hHR 125 0 (by decide) (by decide +kernel)).trans rfl) ?_
      refine aw_iconst dX9_changes_20 ?_
      refine aw_iald (N := 256) dX9_changes_21 (Or.inl ⟨(by decide), (by decide +kernel)⟩) (by decide) (by decide) (by decide) (pa_gi 126 _ _ (by decide)) ?_
      refine aw_isub dX9_changes_22 ?_
      refine aw_V1x dX9_changes_23 clX9_125 ⟨by decide, by decide⟩ (c := 9) (N := 11) (by decide) (by decide +kernel) rfl (c_X9_isBlank hHR hM (by omega)) (by decide) (by decide) rfl rfl (by simp only [List.length_cons, List.length_nil]; omega) ?_
      refine aw_if_ne (tgt := 32) dX9_changes_26 (by decide) (by rcases hb1 16 with q | q <;> rw [q] <;> exact ⟨by decide, by decide⟩) (fun h26 => ?_) (fun h26 => ?_)
      · refine aw_aload_n dX9_changes_32 rfl ?_
        refine aw_getr (x := 126) dX9_changes_33 ci9 (by decide) fX9_7 (by decide) (by decide +kernel) rfl ((hHR 125 0 (by decide) (by decide +kernel)).trans rfl) ?_
        refine aw_iconst dX9_changes_36 ?_
        refine aw_iconst dX9_changes_37 ?_
        refine aw_aload_n dX9_changes_38 rfl ?_
        refine aw_getr (x := 126) dX9_changes_39 ci9 (by decide) fX9_7 (by decide) (by decide +kernel) rfl ((hHR 125 0 (by decide) (by decide +kernel)).trans rfl) ?_
        refine aw_iconst dX9_changes_42 ?_
        refine aw_iald (N := 256) dX9_changes_43 (Or.inl ⟨(by decide), (by decide +kernel)⟩) (by decide) (by decide) (by decide) (pa_gi 126 _ _ (by decide)) ?_
        refine aw_isub dX9_changes_44 ?_
        refine aw_iast (N := 256) dX9_changes_45 (by decide) (by decide +kernel) (by decide) (by decide) (by decide) (pa_ui 126 _ _ _ (by decide)) ?_
        refine aw_aload_n dX9_changes_46 rfl ?_
        refine aw_getr (x := 126) dX9_changes_47 ci9 (by decide) fX9_7 (by decide) (by decide +kernel) rfl ((hHR 125 0 (by decide) (by decide +kernel)).trans rfl) ?_
        refine aw_iconst dX9_changes_50 ?_
        refine aw_iald (N := 256) dX9_changes_51 (Or.inl ⟨(by decide), (by decide +kernel)⟩) (by decide) (by decide) (by decide) (pa_gi 126 _ _ (by decide)) ?_
        refine aw_iret dX9_changes_52 rfl (by decide) (by decide) ?_
        have hf : ¬ (s 1 = 1 ∨ iwF s = 1 ∨ blA s (1 - s 2) 16 = 0) := by omega
        exact exH (by unfold chF; rw [if_neg hf]; exact up1_s _ _ _) (by unfold chF; rw [if_neg hf])
      · refine aw_bipush dX9_changes_29 (by decide) ?_
        refine aw_iret dX9_changes_31 rfl (by decide) (by decide) ?_
        exact exH (by unfold chF; rw [if_pos (by omega)]) (by unfold chF; rw [if_pos (by omega)])
set_option maxRecDepth 100000 in
set_option maxHeartbeats 4000000 in
theorem c_X9_cleans {b : Int} (hHR : HRk hr) (hM : MI s) (hk : InR b) : AMet E M_X9_cleans [aR 125, aI b] (pa 126 hi s) hr 131 (EX (some (aI ((clF s b).1))) (pa 126 hi ((clF s b).2)) hr 131) := by
  refine am_of (by decide +kernel) (Nat.le_of_ble_eq_true rfl) ?_
  have h1 := hM.2.2.2.2.2.1
  have hb2 := hM.2.1
  have h8 := hM.2.2.1
  have loop2 : 0 ≤ b ∧ b ≤ 1 → ¬ (s 1 = 1 ∨ b = s 2) → ¬ 8 < s 11 + ctA s b 24 → ∀ (d k : Nat) (j : Int), k + d = 24 → j = 24 * b + (k : Int) → AW E M_X9_cleans 0 0 91 [some (aR 125), some (aI b), some (aI (ctA s b 24)), some (aI j)] [] (pa 126 hi (clA s b k)) hr 131 (EX (some (aI ((clF s b).1))) (pa 126 hi ((clF s b).2)) hr 131) := by
    intro hb hne hc d
    have eo : clF s b = (ctA s b 24, clA s b 24) := by unfold clF; rw [if_neg (by omega), if_neg hne, if_neg hc]
    rw [eo]
    induction d with
    | zero =>
      intro k j hk hj
      have hk' : k = 24 := by omega
      subst hk'
      refine aw_iload_n dX9_cleans_91 rfl ?_
      refine aw_bipush dX9_cleans_92 (by decide) ?_
      refine aw_iload_n dX9_cleans_94 rfl ?_
      refine aw_imul dX9_cleans_95 ?_
      refine aw_bipush dX9_cleans_96 (by decide) ?_
      refine aw_iadd dX9_cleans_98 ?_
      refine aw_ic_ge (tgt := 122) dX9_cleans_99 (by decide) ⟨by omega, by omega⟩ ⟨by omega, by omega⟩ (fun h99 => ?_) (fun h99 => ?_)
      · refine aw_iload_n dX9_cleans_122 rfl ?_
        refine aw_iret dX9_cleans_123 rfl (by decide) (by decide) ?_
        exact EX.rf
      · exact absurd h99 (by omega)
    | succ d ih =>
      intro k j hk hj
      subst hj
      obtain ⟨g1, g2, g3⟩ := clA_M hM (b := b) (by omega) (by omega) k (by omega)
      have gc := ctA_le s b (k := k + 1) (n := 24) (by omega)
      have gc2 : ctA s b (k + 1) = ctA s b k + ipF s (24 * b + (k : Int)) := rfl
      have e0 : ipF (clA s b k) (24 * b + (k : Int)) = ipF s (24 * b + (k : Int)) := ipF_cong (fun x h1 h2 => g3 x (by omega) (by omega)) (by omega) (by omega)
      refine aw_iload_n dX9_cleans_91 rfl ?_
      refine aw_bipush dX9_cleans_92 (by decide) ?_
      refine aw_iload_n dX9_cleans_94 rfl ?_
      refine aw_imul dX9_cleans_95 ?_
      refine aw_bipush dX9_cleans_96 (by decide) ?_
      refine aw_iadd dX9_cleans_98 ?_
      refine aw_ic_ge (tgt := 122) dX9_cleans_99 (by decide) ⟨by omega, by omega⟩ ⟨by omega, by omega⟩ (fun h99 => ?_) (fun h99 => ?_)
      · exact absurd h99 (by omega)
      · refine aw_aload_n dX9_cleans_102 rfl ?_
        refine aw_iload_n dX9_cleans_103 rfl ?_
        refine aw_V1x dX9_cleans_104 clX9_116 ⟨by decide, by decide⟩ (c := 9) (N := 11) (by decide) (by decide +kernel) rfl (c_X9_isPlace hHR g1 (by omega) (by omega)) (by decide) (by decide) rfl rfl (by simp only [List.length_cons, List.length_nil]; omega) ?_
        refine aw_if_eq (tgt := 116) dX9_cleans_107 (by decide) (by rcases ip_b (clA s b k) (24 * b + (k : Int)) with q | q <;> rw [q] <;> exact ⟨by decide, by decide⟩) (fun h107 => ?_) (fun h107 => ?_)
        · refine aw_iinc (ls2 := [_, _, _, _]) dX9_cleans_116 rfl (by decide) rfl ?_
          refine aw_goto (tgt := 91) dX9_cleans_119 (by decide) ?_
          have e : clA s b (k + 1) = clA s b k := by
            simp only [clA]
            rw [if_neg (by omega)]
          have g := ih (k + 1) (24 * b + (k : Int) + 1) (by omega) (by omega)
          rw [e] at g
          exact g
        · refine aw_aload_n dX9_cleans_110 rfl ?_
          refine aw_iload_n dX9_cleans_111 rfl ?_
          refine aw_iconst dX9_cleans_112 ?_
          refine aw_V2v dX9_cleans_113 clX9_119 ⟨by decide, by decide⟩ (c := 9) (N := 11) (by decide) (by decide +kernel) rfl (c_X9_copies (c := 24 * b + (k : Int)) (u := 3) hHR g1 (by rcases ip_b (clA s b k) (24 * b + (k : Int)) with q | q <;> omega) ⟨by decide, by decide⟩ (by omega) (by omega)) (by decide) (by decide) rfl rfl (by simp only [List.length_cons, List.length_nil]; omega) ?_
          refine aw_iinc (ls2 := [_, _, _, _]) dX9_cleans_116 rfl (by decide) rfl ?_
          refine aw_goto (tgt := 91) dX9_cleans_119 (by decide) ?_
          have e : clA s b (k + 1) = cpF (clA s b k) (24 * b + (k : Int)) 3 := by
            simp only [clA]
            rw [if_pos (by rcases ip_b (clA s b k) (24 * b + (k : Int)) with q | q <;> omega)]
          have g := ih (k + 1) (24 * b + (k : Int) + 1) (by omega) (by omega)
          rw [e] at g
          exact g
  have loop1 : 0 ≤ b ∧ b ≤ 1 → ¬ (s 1 = 1 ∨ b = s 2) → ∀ (d k : Nat) (j : Int), k + d = 24 → j = 24 * b + (k : Int) → AW E M_X9_cleans 0 0 36 [some (aR 125), some (aI b), some (aI (ctA s b k)), some (aI j)] [] (pa 126 hi (s)) hr 131 (EX (some (aI ((clF s b).1))) (pa 126 hi ((clF s b).2)) hr 131) := by
    intro hb hne d
    have gb := ctA_b s b 24
    induction d with
    | zero =>
      intro k j hk hj
      have hk' : k = 24 := by omega
      subst hk'
      refine aw_iload_n dX9_cleans_36 rfl ?_
      refine aw_bipush dX9_cleans_37 (by decide) ?_
      refine aw_iload_n dX9_cleans_39 rfl ?_
      refine aw_imul dX9_cleans_40 ?_
      refine aw_bipush dX9_cleans_41 (by decide) ?_
      refine aw_iadd dX9_cleans_43 ?_
      refine aw_ic_ge (tgt := 69) dX9_cleans_44 (by decide) ⟨by omega, by omega⟩ ⟨by omega, by omega⟩ (fun h44 => ?_) (fun h44 => ?_)
      · refine aw_aload_n dX9_cleans_69 rfl ?_
        refine aw_getr (x := 126) dX9_cleans_70 ci9 (by decide) fX9_7 (by decide) (by decide +kernel) rfl ((hHR 125 0 (by decide) (by decide +kernel)).trans rfl) ?_
        refine aw_bipush dX9_cleans_73 (by decide) ?_
        refine aw_iald (N := 256) dX9_cleans_75 (Or.inl ⟨(by decide), (by decide +kernel)⟩) (by decide) (by decide) (by decide) (pa_gi 126 _ _ (by decide)) ?_
        refine aw_iload_n dX9_cleans_76 rfl ?_
        refine aw_iadd dX9_cleans_77 ?_
        refine aw_bipush dX9_cleans_78 (by decide) ?_
        refine aw_ic_le (tgt := 86) dX9_cleans_80 (by decide) (by have := hM.z  11 (by unfold xc; omega); exact ⟨by omega, by omega⟩) ⟨by decide, by decide⟩ (fun h80 => ?_) (fun h80 => ?_)
        · refine aw_bipush dX9_cleans_86 (by decide) ?_
          refine aw_iload_n dX9_cleans_88 rfl ?_
          refine aw_imul dX9_cleans_89 ?_
          refine aw_istore_n (ls2 := [_, _, _, _]) dX9_cleans_90 (by decide) rfl ?_
          exact loop2 hb hne (by omega) 24 0 _ (by omega) (by omega)
        · refine aw_bipush dX9_cleans_83 (by decide) ?_
          refine aw_iret dX9_cleans_85 rfl (by decide) (by decide) ?_
          exact exH (by unfold clF; rw [if_neg (by omega), if_neg hne, if_pos (by omega)]) (by unfold clF; rw [if_neg (by omega), if_neg hne, if_pos (by omega)])
      · exact absurd h44 (by omega)
    | succ d ih =>
      intro k j hk hj
      subst hj
      refine aw_iload_n dX9_cleans_36 rfl ?_
      refine aw_bipush dX9_cleans_37 (by decide) ?_
      refine aw_iload_n dX9_cleans_39 rfl ?_
      refine aw_imul dX9_cleans_40 ?_
      refine aw_bipush dX9_cleans_41 (by decide) ?_
      refine aw_iadd dX9_cleans_43 ?_
      refine aw_ic_ge (tgt := 69) dX9_cleans_44 (by decide) ⟨by omega, by omega⟩ ⟨by omega, by omega⟩ (fun h44 => ?_) (fun h44 => ?_)
      · exact absurd h44 (by omega)
      · refine aw_iload_n dX9_cleans_47 rfl ?_
        refine aw_aload_n dX9_cleans_48 rfl ?_
        refine aw_iload_n dX9_cleans_49 rfl ?_
        refine aw_V1x dX9_cleans_50 clX9_116 ⟨by decide, by decide⟩ (c := 9) (N := 11) (by decide) (by decide +kernel) rfl (c_X9_isPlace hHR hM (by omega) (by omega)) (by decide) (by decide) rfl rfl (by simp only [List.length_cons, List.length_nil]; omega) ?_
        refine aw_if_eq (tgt := 60) dX9_cleans_53 (by decide) (by rcases ip_b s (24 * b + (k : Int)) with q | q <;> rw [q] <;> exact ⟨by decide, by decide⟩) (fun h53 => ?_) (fun h53 => ?_)
        · refine aw_iconst dX9_cleans_60 ?_
          refine aw_iadd dX9_cleans_61 ?_
          refine aw_istore_n (ls2 := [_, _, _, _]) dX9_cleans_62 (by decide) rfl ?_
          refine aw_iinc (ls2 := [_, _, _, _]) dX9_cleans_63 rfl (by decide) rfl ?_
          refine aw_goto (tgt := 36) dX9_cleans_66 (by decide) ?_
          have e : ctA s b (k + 1) = ctA s b k + 0 := by
            simp only [ctA]
            rcases ip_b s (24 * b + (k : Int)) with q | q <;> omega
          have g := ih (k + 1) (24 * b + (k : Int) + 1) (by omega) (by omega)
          rw [e] at g
          exact g
        · refine aw_iconst dX9_cleans_56 ?_
          refine aw_goto (tgt := 61) dX9_cleans_57 (by decide) ?_
          refine aw_iadd dX9_cleans_61 ?_
          refine aw_istore_n (ls2 := [_, _, _, _]) dX9_cleans_62 (by decide) rfl ?_
          refine aw_iinc (ls2 := [_, _, _, _]) dX9_cleans_63 rfl (by decide) rfl ?_
          refine aw_goto (tgt := 36) dX9_cleans_66 (by decide) ?_
          have e : ctA s b (k + 1) = ctA s b k + 1 := by
            simp only [ctA]
            rcases ip_b s (24 * b + (k : Int)) with q | q <;> omega
          have g := ih (k + 1) (24 * b + (k : Int) + 1) (by omega) (by omega)
          rw [e] at g
          exact g
  refine aw_iload_n dX9_cleans_0 rfl ?_
  refine aw_S1x dX9_cleans_1 clX9_128 ⟨by decide, by decide⟩ (c_X9_isBlock hk) (by decide) (by decide) rfl rfl (by simp only [List.length_cons, List.length_nil]; omega) ?_
  refine aw_if_ne (tgt := 9) dX9_cleans_4 (by decide) in_r (fun h4 => ?_) (fun h4 => ?_)
  · refine aw_aload_n dX9_cleans_9 rfl ?_
    refine aw_V0x dX9_cleans_10 clX9_107 ⟨by decide, by decide⟩ (c := 9) (N := 11) (by decide) (by decide +kernel) rfl (c_X9_isOff hHR hM) (by decide) (by decide) rfl rfl (by simp only [List.length_cons, List.length_nil]; omega) ?_
    refine aw_if_ne (tgt := 26) dX9_cleans_13 (by decide) (hM.r _ (by unfold xc; omega)) (fun h13 => ?_) (fun h13 => ?_)
    · refine aw_bipush dX9_cleans_26 (by decide) ?_
      refine aw_iret dX9_cleans_28 rfl (by decide) (by decide) ?_
      rw [in0, Classical.not_not] at h4
      exact exH (by unfold clF; rw [if_neg (by omega), if_pos (by omega)]) (by unfold clF; rw [if_neg (by omega), if_pos (by omega)])
    · refine aw_iload_n dX9_cleans_16 rfl ?_
      refine aw_aload_n dX9_cleans_17 rfl ?_
      refine aw_getr (x := 126) dX9_cleans_18 ci9 (by decide) fX9_7 (by decide) (by decide +kernel) rfl ((hHR 125 0 (by decide) (by decide +kernel)).trans rfl) ?_
      refine aw_iconst dX9_cleans_21 ?_
      refine aw_iald (N := 256) dX9_cleans_22 (Or.inl ⟨(by decide), (by decide +kernel)⟩) (by decide) (by decide) (by decide) (pa_gi 126 _ _ (by decide)) ?_
      refine aw_ic_ne (tgt := 29) dX9_cleans_23 (by decide) hk (hM.r _ (by unfold xc; omega)) (fun h23 => ?_) (fun h23 => ?_)
      · refine aw_iconst dX9_cleans_29 ?_
        refine aw_istore_n (ls2 := [_, _, _, _]) dX9_cleans_30 (by decide) rfl ?_
        refine aw_bipush dX9_cleans_31 (by decide) ?_
        refine aw_iload_n dX9_cleans_33 rfl ?_
        refine aw_imul dX9_cleans_34 ?_
        refine aw_istore_n (ls2 := [_, _, _, _]) dX9_cleans_35 (by decide) rfl ?_
        rw [in0, Classical.not_not] at h4
        exact loop1 h4 (by omega) 24 0 _ (by omega) (by omega)
      · refine aw_bipush dX9_cleans_26 (by decide) ?_
        refine aw_iret dX9_cleans_28 rfl (by decide) (by decide) ?_
        rw [in0, Classical.not_not] at h4
        exact exH (by unfold clF; rw [if_neg (by omega), if_pos (by omega)]) (by unfold clF; rw [if_neg (by omega), if_pos (by omega)])
  · refine aw_iconst dX9_cleans_7 ?_
    refine aw_iret dX9_cleans_8 rfl (by decide) (by decide) ?_
    rw [in0] at h4
    exact exH (by unfold clF; rw [if_pos (by omega)]) (by unfold clF; rw [if_pos (by omega)])
set_option maxRecDepth 100000 in
set_option maxHeartbeats 4000000 in
theorem c_X9_erases {b : Int} (hHR : HRk hr) (hM : MI s) (hk : InR b) : AMet E M_X9_erases [aR 125, aI b] (pa 126 hi s) hr 131 (EX (some (aI ((erF s b).1))) (pa 126 hi ((erF s b).2)) hr 131) := by
  refine am_of (by decide +kernel) (Nat.le_of_ble_eq_true rfl) ?_
  have h1 := hM.2.2.2.2.2.1
  have hb2 := hM.2.1
  have loop3 : b = 0 ∨ b = 1 → myA s b (if s 1 = 1 ∨ b = s 2 then 0 else 1) 24 = 1 → ∀ (d k : Nat) (v2 : Option AV), k + d = 8 → AW E M_X9_erases 0 0 109 [some (aR 125), some (aI b), v2, some (aI (k : Int))] [] (pa 126 hi (cbA (zA s (24 + 4 * (16 * b + 0)) 64) b k)) hr 131 (EX (some (aI ((erF s b).1))) (pa 126 hi ((erF s b).2)) hr 131) := by
    intro hb hm d
    have eo : erF s b = (er1 s b (6 + b) + 1, up1 (er1 s b) (6 + b) (er1 s b (6 + b) + 1)) := by unfold erF; rw [if_neg (by omega), if_neg (by omega)]
    rw [eo]
    induction d with
    | zero =>
      intro k v2 hk
      have hk' : k = 8 := by omega
      subst hk'
      refine aw_iload_n dX9_erases_109 rfl ?_
      refine aw_bipush dX9_erases_110 (by decide) ?_
      refine aw_ic_ge (tgt := 127) dX9_erases_112 (by decide) ⟨by decide, by decide⟩ ⟨by decide, by decide⟩ (fun h112 => ?_) (fun h112 => ?_)
      · refine aw_aload_n dX9_erases_127 rfl ?_
        refine aw_getr (x := 126) dX9_erases_128 ci9 (by decide) fX9_7 (by decide) (by decide +kernel) rfl ((hHR 125 0 (by decide) (by decide +kernel)).trans rfl) ?_
        refine aw_bipush dX9_erases_131 (by decide) ?_
        refine aw_iload_n dX9_erases_133 rfl ?_
        refine aw_iadd dX9_erases_134 ?_
        refine aw_dup2 dX9_erases_135 ?_
        refine aw_iald (N := 256) dX9_erases_136 (Or.inl ⟨(by decide), (by decide +kernel)⟩) (by omega) (by omega) (by decide) (pa_gi 126 _ _ (by omega)) ?_
        refine aw_iconst dX9_erases_137 ?_
        refine aw_iadd dX9_erases_138 ?_
        refine aw_iast (N := 256) dX9_erases_139 (by decide) (by decide +kernel) (by omega) (by omega) (by decide) (pa_ui 126 _ _ _ (by omega)) ?_
        refine aw_aload_n dX9_erases_140 rfl ?_
        refine aw_getr (x := 126) dX9_erases_141 ci9 (by decide) fX9_7 (by decide) (by decide +kernel) rfl ((hHR 125 0 (by decide) (by decide +kernel)).trans rfl) ?_
        refine aw_bipush dX9_erases_144 (by decide) ?_
        refine aw_iload_n dX9_erases_146 rfl ?_
        refine aw_iadd dX9_erases_147 ?_
        refine aw_iald (N := 256) dX9_erases_148 (Or.inl ⟨(by decide), (by decide +kernel)⟩) (by omega) (by omega) (by decide) (pa_gi 126 _ _ (by omega)) ?_
        refine aw_iret dX9_erases_149 rfl (by decide) (by decide) ?_
        exact exH (up1_s _ _ _) rfl
      · exact absurd h112 (by decide)
    | succ d ih =>
      intro k v2 hk
      refine aw_iload_n dX9_erases_109 rfl ?_
      refine aw_bipush dX9_erases_110 (by decide) ?_
      refine aw_ic_ge (tgt := 127) dX9_erases_112 (by decide) ⟨by omega, by omega⟩ ⟨by decide, by decide⟩ (fun h112 => ?_) (fun h112 => ?_)
      · exact absurd h112 (by omega)
      · refine aw_aload_n dX9_erases_115 rfl ?_
        refine aw_iload_n dX9_erases_116 rfl ?_
        refine aw_iload_n dX9_erases_117 rfl ?_
        refine aw_V2v dX9_erases_118 clX9_88 ⟨by decide, by decide⟩ (c := 9) (N := 11) (by decide) (by decide +kernel) rfl (c_X9_clearsBackup hHR hb ⟨by omega, by omega⟩) (by decide) (by decide) rfl rfl (by simp only [List.length_cons, List.length_nil]; omega) ?_
        refine aw_iinc (ls2 := [_, _, _, _]) dX9_erases_121 rfl (by decide) rfl ?_
        refine aw_goto (tgt := 109) dX9_erases_124 (by decide) ?_
        exact ih (k + 1) _ (by omega)
  have loop2 : b = 0 ∨ b = 1 → myA s b (if s 1 = 1 ∨ b = s 2 then 0 else 1) 24 = 1 → ∀ (d k : Nat) (v2 : Option AV), k + d = 64 → AW E M_X9_erases 0 0 81 [some (aR 125), some (aI b), v2, some (aI (k : Int))] [] (pa 126 hi (zA s (24 + 4 * (16 * b + 0)) k)) hr 131 (EX (some (aI ((erF s b).1))) (pa 126 hi ((erF s b).2)) hr 131) := by
    intro hb hm d
    induction d with
    | zero =>
      intro k v2 hk
      have hk' : k = 64 := by omega
      subst hk'
      refine aw_iload_n dX9_erases_81 rfl ?_
      refine aw_bipush dX9_erases_82 (by decide) ?_
      refine aw_ic_ge (tgt := 107) dX9_erases_84 (by decide) ⟨by decide, by decide⟩ ⟨by decide, by decide⟩ (fun h84 => ?_) (fun h84 => ?_)
      · refine aw_iconst dX9_erases_107 ?_
        refine aw_istore_n (ls2 := [_, _, _, _]) dX9_erases_108 (by decide) rfl ?_
        exact loop3 hb hm 8 0 _ (by omega)
      · exact absurd h84 (by decide)
    | succ d ih =>
      intro k v2 hk
      refine aw_iload_n dX9_erases_81 rfl ?_
      refine aw_bipush dX9_erases_82 (by decide) ?_
      refine aw_ic_ge (tgt := 107) dX9_erases_84 (by decide) ⟨by omega, by omega⟩ ⟨by decide, by decide⟩ (fun h84 => ?_) (fun h84 => ?_)
      · exact absurd h84 (by omega)
      · refine aw_aload_n dX9_erases_87 rfl ?_
        refine aw_getr (x := 126) dX9_erases_88 ci9 (by decide) fX9_7 (by decide) (by decide +kernel) rfl ((hHR 125 0 (by decide) (by decide +kernel)).trans rfl) ?_
        refine aw_aload_n dX9_erases_91 rfl ?_
        refine aw_iload_n dX9_erases_92 rfl ?_
        refine aw_iconst dX9_erases_93 ?_
        refine aw_V2x dX9_erases_94 clX9_40 ⟨by decide, by decide⟩ (c := 9) (N := 11) (by decide) (by decide +kernel) rfl c_X9_pageAt (by decide) (by decide) rfl rfl (by simp only [List.length_cons, List.length_nil]; omega) ?_
        refine aw_iload_n dX9_erases_97 rfl ?_
        refine aw_iadd dX9_erases_98 ?_
        refine aw_iconst dX9_erases_99 ?_
        refine aw_iast (N := 256) dX9_erases_100 (by decide) (by decide +kernel) (by omega) (by omega) (by decide) (pa_ui 126 _ _ _ (by omega)) ?_
        refine aw_iinc (ls2 := [_, _, _, _]) dX9_erases_101 rfl (by decide) rfl ?_
        refine aw_goto (tgt := 81) dX9_erases_104 (by decide) ?_
        exact ih (k + 1) _ (by omega)
  have mb : ∀ (m0 : Int), m0 = 0 ∨ m0 = 1 → ∀ k, myA s b m0 k = 0 ∨ myA s b m0 k = 1 := by
    intro m0 h0 k
    cases k with
    | zero => exact h0
    | succ k => simp only [myA]; split <;> simp
  have loop1 : 0 ≤ b ∧ b ≤ 1 → ∀ (m0 : Int), m0 = (if s 1 = 1 ∨ b = s 2 then 0 else 1) → ∀ (d k : Nat) (j : Int), k + d = 24 → j = 24 * b + (k : Int) → AW E M_X9_erases 0 0 37 [some (aR 125), some (aI b), some (aI (myA s b m0 k)), some (aI j)] [] (pa 126 hi (s)) hr 131 (EX (some (aI ((erF s b).1))) (pa 126 hi ((erF s b).2)) hr 131) := by
    intro hb m0 hm0 d
    have hm1 : m0 = 0 ∨ m0 = 1 := by rw [hm0]; split <;> simp
    induction d with
    | zero =>
      intro k j hk hj
      have hk' : k = 24 := by omega
      subst hk'
      have gm := mb m0 hm1 24
      refine aw_iload_n dX9_erases_37 rfl ?_
      refine aw_bipush dX9_erases_38 (by decide) ?_
      refine aw_iload_n dX9_erases_40 rfl ?_
      refine aw_imul dX9_erases_41 ?_
      refine aw_bipush dX9_erases_42 (by decide) ?_
      refine aw_iadd dX9_erases_44 ?_
      refine aw_ic_ge (tgt := 72) dX9_erases_45 (by decide) ⟨by omega, by omega⟩ ⟨by omega, by omega⟩ (fun h45 => ?_) (fun h45 => ?_)
      · refine aw_iload_n dX9_erases_72 rfl ?_
        refine aw_if_ne (tgt := 79) dX9_erases_73 (by decide) ⟨by omega, by omega⟩ (fun h73 => ?_) (fun h73 => ?_)
        · refine aw_iconst dX9_erases_79 ?_
          refine aw_istore_n (ls2 := [_, _, _, _]) dX9_erases_80 (by decide) rfl ?_
          exact loop2 (by omega) (by rw [← hm0]; omega) 64 0 _ (by omega)
        · refine aw_bipush dX9_erases_76 (by decide) ?_
          refine aw_iret dX9_erases_78 rfl (by decide) (by decide) ?_
          exact exH (by unfold erF; rw [if_neg (by omega), ← hm0, if_pos (by omega)]) (by unfold erF; rw [if_neg (by omega), ← hm0, if_pos (by omega)])
      · exact absurd h45 (by omega)
    | succ d ih =>
      intro k j hk hj
      subst hj
      have gm := mb m0 hm1 k
      refine aw_iload_n dX9_erases_37 rfl ?_
      refine aw_bipush dX9_erases_38 (by decide) ?_
      refine aw_iload_n dX9_erases_40 rfl ?_
      refine aw_imul dX9_erases_41 ?_
      refine aw_bipush dX9_erases_42 (by decide) ?_
      refine aw_iadd dX9_erases_44 ?_
      refine aw_ic_ge (tgt := 72) dX9_erases_45 (by decide) ⟨by omega, by omega⟩ ⟨by omega, by omega⟩ (fun h45 => ?_) (fun h45 => ?_)
      · exact absurd h45 (by omega)
      · refine aw_iload_n dX9_erases_48 rfl ?_
        refine aw_if_eq (tgt := 64) dX9_erases_49 (by decide) ⟨by omega, by omega⟩ (fun h49 => ?_) (fun h49 => ?_)
        · refine aw_iconst dX9_erases_64 ?_
          refine aw_istore_n (ls2 := [_, _, _, _]) dX9_erases_65 (by decide) rfl ?_
          refine aw_iinc (ls2 := [_, _, _, _]) dX9_erases_66 rfl (by decide) rfl ?_
          refine aw_goto (tgt := 37) dX9_erases_69 (by decide) ?_
          have e : myA s b m0 (k + 1) = 0 := by
            simp only [myA]
            rw [if_neg (by omega)]
          have g := ih (k + 1) (24 * b + (k : Int) + 1) (by omega) (by omega)
          rw [e] at g
          exact g
        · refine aw_aload_n dX9_erases_52 rfl ?_
          refine aw_iload_n dX9_erases_53 rfl ?_
          refine aw_V1x dX9_erases_54 clX9_116 ⟨by decide, by decide⟩ (c := 9) (N := 11) (by decide) (by decide +kernel) rfl (c_X9_isPlace hHR hM (by omega) (by omega)) (by decide) (by decide) rfl rfl (by simp only [List.length_cons, List.length_nil]; omega) ?_
          refine aw_if_ne (tgt := 64) dX9_erases_57 (by decide) (by rcases ip_b s (24 * b + (k : Int)) with q | q <;> rw [q] <;> exact ⟨by decide, by decide⟩) (fun h57 => ?_) (fun h57 => ?_)
          · refine aw_iconst dX9_erases_64 ?_
            refine aw_istore_n (ls2 := [_, _, _, _]) dX9_erases_65 (by decide) rfl ?_
            refine aw_iinc (ls2 := [_, _, _, _]) dX9_erases_66 rfl (by decide) rfl ?_
            refine aw_goto (tgt := 37) dX9_erases_69 (by decide) ?_
            have e : myA s b m0 (k + 1) = 0 := by
              simp only [myA]
              rw [if_neg (by omega)]
            have g := ih (k + 1) (24 * b + (k : Int) + 1) (by omega) (by omega)
            rw [e] at g
            exact g
          · refine aw_iconst dX9_erases_60 ?_
            refine aw_goto (tgt := 65) dX9_erases_61 (by decide) ?_
            refine aw_istore_n (ls2 := [_, _, _, _]) dX9_erases_65 (by decide) rfl ?_
            refine aw_iinc (ls2 := [_, _, _, _]) dX9_erases_66 rfl (by decide) rfl ?_
            refine aw_goto (tgt := 37) dX9_erases_69 (by decide) ?_
            have e : myA s b m0 (k + 1) = 1 := by
              simp only [myA]
              rw [if_pos ⟨by omega, by omega⟩]
            have g := ih (k + 1) (24 * b + (k : Int) + 1) (by omega) (by omega)
            rw [e] at g
            exact g
  refine aw_iload_n dX9_erases_0 rfl ?_
  refine aw_S1x dX9_erases_1 clX9_128 ⟨by decide, by decide⟩ (c_X9_isBlock hk) (by decide) (by decide) rfl rfl (by simp only [List.length_cons, List.length_nil]; omega) ?_
  refine aw_if_ne (tgt := 9) dX9_erases_4 (by decide) in_r (fun h4 => ?_) (fun h4 => ?_)
  · refine aw_aload_n dX9_erases_9 rfl ?_
    refine aw_V0x dX9_erases_10 clX9_107 ⟨by decide, by decide⟩ (c := 9) (N := 11) (by decide) (by decide +kernel) rfl (c_X9_isOff hHR hM) (by decide) (by decide) rfl rfl (by simp only [List.length_cons, List.length_nil]; omega) ?_
    refine aw_if_ne (tgt := 30) dX9_erases_13 (by decide) (hM.r _ (by unfold xc; omega)) (fun h13 => ?_) (fun h13 => ?_)
    · refine aw_iconst dX9_erases_30 ?_
      refine aw_istore_n (ls2 := [_, _, _, _]) dX9_erases_31 (by decide) rfl ?_
      refine aw_bipush dX9_erases_32 (by decide) ?_
      refine aw_iload_n dX9_erases_34 rfl ?_
      refine aw_imul dX9_erases_35 ?_
      refine aw_istore_n (ls2 := [_, _, _, _]) dX9_erases_36 (by decide) rfl ?_
      rw [in0, Classical.not_not] at h4
      refine loop1 h4 0 ?_ 24 0 _ (by omega) (by omega)
      rw [if_pos (by omega)]
    · refine aw_iload_n dX9_erases_16 rfl ?_
      refine aw_aload_n dX9_erases_17 rfl ?_
      refine aw_getr (x := 126) dX9_erases_18 ci9 (by decide) fX9_7 (by decide) (by decide +kernel) rfl ((hHR 125 0 (by decide) (by decide +kernel)).trans rfl) ?_
      refine aw_iconst dX9_erases_21 ?_
      refine aw_iald (N := 256) dX9_erases_22 (Or.inl ⟨(by decide), (by decide +kernel)⟩) (by decide) (by decide) (by decide) (pa_gi 126 _ _ (by decide)) ?_
      refine aw_ic_eq (tgt := 30) dX9_erases_23 (by decide) hk (hM.r _ (by unfold xc; omega)) (fun h23 => ?_) (fun h23 => ?_)
      · refine aw_iconst dX9_erases_30 ?_
        refine aw_istore_n (ls2 := [_, _, _, _]) dX9_erases_31 (by decide) rfl ?_
        refine aw_bipush dX9_erases_32 (by decide) ?_
        refine aw_iload_n dX9_erases_34 rfl ?_
        refine aw_imul dX9_erases_35 ?_
        refine aw_istore_n (ls2 := [_, _, _, _]) dX9_erases_36 (by decide) rfl ?_
        rw [in0, Classical.not_not] at h4
        refine loop1 h4 0 ?_ 24 0 _ (by omega) (by omega)
        rw [if_pos (by omega)]
      · refine aw_iconst dX9_erases_26 ?_
        refine aw_goto (tgt := 31) dX9_erases_27 (by decide) ?_
        refine aw_istore_n (ls2 := [_, _, _, _]) dX9_erases_31 (by decide) rfl ?_
        refine aw_bipush dX9_erases_32 (by decide) ?_
        refine aw_iload_n dX9_erases_34 rfl ?_
        refine aw_imul dX9_erases_35 ?_
        refine aw_istore_n (ls2 := [_, _, _, _]) dX9_erases_36 (by decide) rfl ?_
        rw [in0, Classical.not_not] at h4
        refine loop1 h4 1 ?_ 24 0 _ (by omega) (by omega)
        rw [if_neg (by omega)]
  · refine aw_iconst dX9_erases_7 ?_
    refine aw_iret dX9_erases_8 rfl (by decide) (by decide) ?_
    rw [in0] at h4
    exact exH (by unfold erF; rw [if_pos (by omega)]) (by unfold erF; rw [if_pos (by omega)])
set_option maxRecDepth 100000 in
set_option maxHeartbeats 4000000 in
theorem c_X9_puts {a v : Int} (hHR : HRk hr) (h0 : 0 ≤ a) (h1 : a < 256) : AMet E M_X9_puts [aR 125, aI a, aI v] (pa 126 hi s) hr 131 (EX (some (aI (s a))) (pa 126 hi (up1 s a v)) hr 131) := by
  refine am_of (by decide +kernel) (Nat.le_of_ble_eq_true rfl) ?_
  refine aw_aload_n dX9_puts_0 rfl ?_
  refine aw_getr (x := 126) dX9_puts_1 ci9 (by decide) fX9_7 (by decide) (by decide +kernel) rfl ((hHR 125 0 (by decide) (by decide +kernel)).trans rfl) ?_
  refine aw_iload_n dX9_puts_4 rfl ?_
  refine aw_iald (N := 256) dX9_puts_5 (Or.inl ⟨(by decide), (by decide +kernel)⟩) (by omega) (by omega) (by decide) (pa_gi 126 _ _ (by omega)) ?_
  refine aw_istore_n (ls2 := [_, _, _, _]) dX9_puts_6 (by decide) rfl ?_
  refine aw_aload_n dX9_puts_7 rfl ?_
  refine aw_getr (x := 126) dX9_puts_8 ci9 (by decide) fX9_7 (by decide) (by decide +kernel) rfl ((hHR 125 0 (by decide) (by decide +kernel)).trans rfl) ?_
  refine aw_iload_n dX9_puts_11 rfl ?_
  refine aw_iload_n dX9_puts_12 rfl ?_
  refine aw_iast (N := 256) dX9_puts_13 (by decide) (by decide +kernel) (by omega) (by omega) (by decide) (pa_ui 126 _ _ _ (by omega)) ?_
  refine aw_iload_n dX9_puts_14 rfl ?_
  refine aw_iret dX9_puts_15 rfl (by decide) (by decide) ?_
  exact EX.rf
end TWIN5
