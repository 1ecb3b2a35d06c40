/-! the twin's acts: ticks and power -/
section TWIN3
variable {E : ET} {hi : HI} {hr : HR} {s : Int → Int}
set_option maxRecDepth 100000 in
set_option maxHeartbeats 4000000 in
theorem c_X9_takes (hHR : HRk hr) (hM : MI s) (h10 : s 10 + 1 ≤ s 0 ∨ iwF s = 1) : AMet E M_X9_takes [aR 125] (pa 126 hi s) hr 131 (EX none (pa 126 hi (tkF s)) hr 131) := by
  refine am_of (by decide +kernel) (Nat.le_of_ble_eq_true rfl) ?_
  have hp := nxt_b s
  have loop : ∀ (d : Nat) (t : Int → Int), MI t → (t 10 + 1 ≤ t 0 ∨ iwF t = 1) → (iwF t = 1 ∨ t 11 ≤ d) → AW E M_X9_takes 0 0 5 [some (aR 125), some (aI (nxt s))] [] (pa 126 hi t) hr 131 (EX none (pa 126 hi (tkA (nxt s) d t)) hr 131) := by
    intro d
    induction d with
    | zero =>
      intro t hM h1 h2
      refine aw_iload_n dX9_takes_5 rfl ?_
      refine aw_bipush dX9_takes_6 (by decide) ?_
      refine aw_ic_ge (tgt := 50) dX9_takes_8 (by decide) ⟨by omega, by omega⟩ ⟨by decide, by decide⟩ (fun h8 => ?_) (fun h8 => ?_)
      · refine aw_vret dX9_takes_50 rfl (by decide) (by decide) ?_
        exact EX.rf
      · refine aw_aload_n dX9_takes_11 rfl ?_
        refine aw_getr (x := 126) dX9_takes_12 ci9 (by decide) fX9_7 (by decide) (by decide +kernel) rfl ((hHR 125 0 (by decide) (by decide +kernel)).trans rfl) ?_
        refine aw_bipush dX9_takes_15 (by decide) ?_
        refine aw_iald (N := 256) dX9_takes_17 (Or.inl ⟨(by decide), (by decide +kernel)⟩) (by decide) (by decide) (by decide) (pa_gi 126 _ _ (by decide)) ?_
        refine aw_if_le (tgt := 50) dX9_takes_18 (by decide) (hM.r _ (by unfold xc; omega)) (fun h18 => ?_) (fun h18 => ?_)
        · refine aw_vret dX9_takes_50 rfl (by decide) (by decide) ?_
          exact EX.rf
        · refine aw_aload_n dX9_takes_21 rfl ?_
          refine aw_V0x dX9_takes_22 clX9_77 ⟨by decide, by decide⟩ (c := 9) (N := 11) (by decide) (by decide +kernel) rfl (c_X9_isWriting hHR hM) (by decide) (by decide) rfl rfl (by simp only [List.length_cons, List.length_nil]; omega) ?_
          refine aw_if_ne (tgt := 50) dX9_takes_25 (by decide) (by rcases iw_b t with q | q <;> rw [q] <;> exact ⟨by decide, by decide⟩) (fun h25 => ?_) (fun h25 => ?_)
          · refine aw_vret dX9_takes_50 rfl (by decide) (by decide) ?_
            exact EX.rf
          · exfalso; rcases h2 with q | q <;> omega
    | succ d ih =>
      intro t hM h1 h2
      refine aw_iload_n dX9_takes_5 rfl ?_
      refine aw_bipush dX9_takes_6 (by decide) ?_
      refine aw_ic_ge (tgt := 50) dX9_takes_8 (by decide) ⟨by omega, by omega⟩ ⟨by decide, by decide⟩ (fun h8 => ?_) (fun h8 => ?_)
      · refine aw_vret dX9_takes_50 rfl (by decide) (by decide) ?_
        exact exV (by simp only [tkA]; rw [if_neg (by omega)])
      · refine aw_aload_n dX9_takes_11 rfl ?_
        refine aw_getr (x := 126) dX9_takes_12 ci9 (by decide) fX9_7 (by decide) (by decide +kernel) rfl ((hHR 125 0 (by decide) (by decide +kernel)).trans rfl) ?_
        refine aw_bipush dX9_takes_15 (by decide) ?_
        refine aw_iald (N := 256) dX9_takes_17 (Or.inl ⟨(by decide), (by decide +kernel)⟩) (by decide) (by decide) (by decide) (pa_gi 126 _ _ (by decide)) ?_
        refine aw_if_le (tgt := 50) dX9_takes_18 (by decide) (hM.r _ (by unfold xc; omega)) (fun h18 => ?_) (fun h18 => ?_)
        · refine aw_vret dX9_takes_50 rfl (by decide) (by decide) ?_
          exact exV (by simp only [tkA]; rw [if_neg (by omega)])
        · refine aw_aload_n dX9_takes_21 rfl ?_
          refine aw_V0x dX9_takes_22 clX9_77 ⟨by decide, by decide⟩ (c := 9) (N := 11) (by decide) (by decide +kernel) rfl (c_X9_isWriting hHR hM) (by decide) (by decide) rfl rfl (by simp only [List.length_cons, List.length_nil]; omega) ?_
          refine aw_if_ne (tgt := 50) dX9_takes_25 (by decide) (by rcases iw_b t with q | q <;> rw [q] <;> exact ⟨by decide, by decide⟩) (fun h25 => ?_) (fun h25 => ?_)
          · refine aw_vret dX9_takes_50 rfl (by decide) (by decide) ?_
            exact exV (by simp only [tkA]; rw [if_neg (by omega)])
          · refine aw_aload_n dX9_takes_28 rfl ?_
            refine aw_V0x dX9_takes_29 clX9_81 ⟨by decide, by decide⟩ (c := 9) (N := 11) (by decide) (by decide +kernel) rfl (c_X9_isPassed hHR hM) (by decide) (by decide) rfl rfl (by simp only [List.length_cons, List.length_nil]; omega) ?_
            refine aw_if_eq (tgt := 42) dX9_takes_32 (by decide) (by rcases ps_b t with q | q <;> rw [q] <;> exact ⟨by decide, by decide⟩) (fun h32 => ?_) (fun h32 => ?_)
            · refine aw_aload_n dX9_takes_42 rfl ?_
              refine aw_iload_n dX9_takes_43 rfl ?_
              refine aw_V1v dX9_takes_44 clX9_84 ⟨by decide, by decide⟩ (c := 9) (N := 11) (by decide) (by decide +kernel) rfl (c_X9_begin1 hHR hM (by omega) (by omega) (by omega) (by omega)) (by decide) (by decide) rfl rfl (by simp only [List.length_cons, List.length_nil]; omega) ?_
              refine aw_goto (tgt := 5) dX9_takes_47 (by decide) ?_
              have e : tkA (nxt s) (d + 1) t = tkA (nxt s) d (bgF t (nxt s)) := by
                simp only [tkA]
                rw [if_pos ⟨by omega, by omega, h25⟩, if_neg (by omega)]
              rw [e]
              exact ih _ (bgF_M hM (by omega) (by omega) (by omega) (by omega)) (Or.inr (iw_1 (bgF_254 hM (by omega) (by omega) (by omega)))) (Or.inl (iw_1 (bgF_254 hM (by omega) (by omega) (by omega))))
            · refine aw_aload_n dX9_takes_35 rfl ?_
              refine aw_V0v dX9_takes_36 clX9_70 ⟨by decide, by decide⟩ (c := 9) (N := 11) (by decide) (by decide +kernel) rfl (c_X9_goesFirst hHR hM (by omega)) (by decide) (by decide) rfl rfl (by simp only [List.length_cons, List.length_nil]; omega) ?_
              refine aw_goto (tgt := 5) dX9_takes_39 (by decide) ?_
              have e : tkA (nxt s) (d + 1) t = tkA (nxt s) d (gfF t) := by
                have hq : psF t = 1 := by rcases ps_b t with q | q <;> omega
                simp only [tkA]
                rw [if_pos ⟨by omega, by omega, h25⟩, if_pos hq]
              rw [e]
              refine ih _ (gfF_M hM (by omega)) (Or.inl ?_) (Or.inr ?_)
              · rw [gfF_x (by omega) (by omega) (by omega), gfF_x (by omega) (by omega) (by omega)]; omega
              · rw [gfF_at t (by omega), if_pos rfl]; omega
  refine aw_aload_n dX9_takes_0 rfl ?_
  refine aw_V0x dX9_takes_1 clX9_73 ⟨by decide, by decide⟩ (c := 9) (N := 11) (by decide) (by decide +kernel) rfl (c_X9_next hHR hM) (by decide) (by decide) rfl rfl (by simp only [List.length_cons, List.length_nil]; omega) ?_
  refine aw_istore_n (ls2 := [_, _]) dX9_takes_4 (by decide) rfl ?_
  exact loop 9 s hM h10 (Or.inr (by have := hM.2.2.1; omega))
set_option maxRecDepth 100000 in
set_option maxHeartbeats 4000000 in
theorem c_X9_clearsBackup {b l : Int} (hHR : HRk hr) (hb : b = 0 ∨ b = 1) (hl : 0 ≤ l ∧ l < 8) : AMet E M_X9_clearsBackup [aR 125, aI b, aI l] (pa 126 hi s) hr 131 (EX none (pa 126 hi (clB s b l)) hr 131) := by
  refine am_of (by decide +kernel) (Nat.le_of_ble_eq_true rfl) ?_
  have loop : ∀ (d i : Nat), i + d = 4 → AW E M_X9_clearsBackup 0 0 2 [some (aR 125), some (aI b), some (aI l), some (aI (i : Int))] [] (pa 126 hi (zA s (152 + 4 * (8 * b + l)) i)) hr 131 (EX none (pa 126 hi (clB s b l)) hr 131) := by
    intro d
    induction d with
    | zero =>
      intro i hi4
      have hi4' : i = 4 := by omega
      subst hi4'
      refine aw_iload_n dX9_clearsBackup_2 rfl ?_
      refine aw_iconst dX9_clearsBackup_3 ?_
      refine aw_ic_ge (tgt := 27) dX9_clearsBackup_4 (by decide) ⟨by decide, by decide⟩ ⟨by decide, by decide⟩ (fun h4 => ?_) (fun h4 => ?_)
      · refine aw_vret dX9_clearsBackup_27 rfl (by decide) (by decide) ?_
        exact EX.rf
      · exact absurd h4 (by decide)
    | succ d ih =>
      intro i hi4
      refine aw_iload_n dX9_clearsBackup_2 rfl ?_
      refine aw_iconst dX9_clearsBackup_3 ?_
      refine aw_ic_ge (tgt := 27) dX9_clearsBackup_4 (by decide) ⟨by omega, by omega⟩ ⟨by decide, by decide⟩ (fun h4 => ?_) (fun h4 => ?_)
      · exact absurd h4 (by omega)
      · refine aw_aload_n dX9_clearsBackup_7 rfl ?_
        refine aw_getr (x := 126) dX9_clearsBackup_8 ci9 (by decide) fX9_7 (by decide) (by decide +kernel) rfl ((hHR 125 0 (by decide) (by decide +kernel)).trans rfl) ?_
        refine aw_aload_n dX9_clearsBackup_11 rfl ?_
        refine aw_iload_n dX9_clearsBackup_12 rfl ?_
        refine aw_iload_n dX9_clearsBackup_13 rfl ?_
        refine aw_V2x dX9_clearsBackup_14 clX9_48 ⟨by decide, by decide⟩ (c := 9) (N := 11) (by decide) (by decide +kernel) rfl c_X9_backupAt (by decide) (by decide) rfl rfl (by simp only [List.length_cons, List.length_nil]; omega) ?_
        refine aw_iload_n dX9_clearsBackup_17 rfl ?_
        refine aw_iadd dX9_clearsBackup_18 ?_
        refine aw_iconst dX9_clearsBackup_19 ?_
        refine aw_iast (N := 256) dX9_clearsBackup_20 (by decide) (by decide +kernel) (by omega) (by omega) (by decide) (pa_ui 126 _ _ _ (by omega)) ?_
        refine aw_iinc (ls2 := [_, _, _, _]) dX9_clearsBackup_21 rfl (by decide) rfl ?_
        refine aw_goto (tgt := 2) dX9_clearsBackup_24 (by decide) ?_
        exact ih (i + 1) (by omega)
  refine aw_iconst dX9_clearsBackup_0 ?_
  refine aw_istore_n (ls2 := [_, _, _, _]) dX9_clearsBackup_1 (by decide) rfl ?_
  exact loop 4 0 (by omega)
set_option maxRecDepth 100000 in
set_option maxHeartbeats 4000000 in
theorem c_X9_clearsNow (hHR : HRk hr) : AMet E M_X9_clearsNow [aR 125] (pa 126 hi s) hr 131 (EX none (pa 126 hi (clN s)) hr 131) := by
  refine am_of (by decide +kernel) (Nat.le_of_ble_eq_true rfl) ?_
  have loop : ∀ (d i : Nat), i + d = 8 → AW E M_X9_clearsNow 0 0 2 [some (aR 125), some (aI (i : Int))] [] (pa 126 hi (zA s 248 i)) hr 131 (EX none (pa 126 hi (clN s)) hr 131) := by
    intro d
    induction d with
    | zero =>
      intro i hi4
      have hi4' : i = 8 := by omega
      subst hi4'
      refine aw_iload_n dX9_clearsNow_2 rfl ?_
      refine aw_bipush dX9_clearsNow_3 (by decide) ?_
      refine aw_ic_ge (tgt := 25) dX9_clearsNow_5 (by decide) ⟨by decide, by decide⟩ ⟨by decide, by decide⟩ (fun h5 => ?_) (fun h5 => ?_)
      · refine aw_vret dX9_clearsNow_25 rfl (by decide) (by decide) ?_
        exact EX.rf
      · exact absurd h5 (by decide)
    | succ d ih =>
      intro i hi4
      refine aw_iload_n dX9_clearsNow_2 rfl ?_
      refine aw_bipush dX9_clearsNow_3 (by decide) ?_
      refine aw_ic_ge (tgt := 25) dX9_clearsNow_5 (by decide) ⟨by omega, by omega⟩ ⟨by decide, by decide⟩ (fun h5 => ?_) (fun h5 => ?_)
      · exact absurd h5 (by omega)
      · refine aw_aload_n dX9_clearsNow_8 rfl ?_
        refine aw_getr (x := 126) dX9_clearsNow_9 ci9 (by decide) fX9_7 (by decide) (by decide +kernel) rfl ((hHR 125 0 (by decide) (by decide +kernel)).trans rfl) ?_
        refine aw_sipush dX9_clearsNow_12 (by decide) ?_
        refine aw_iload_n dX9_clearsNow_15 rfl ?_
        refine aw_iadd dX9_clearsNow_16 ?_
        refine aw_iconst dX9_clearsNow_17 ?_
        refine aw_iast (N := 256) dX9_clearsNow_18 (by decide) (by decide +kernel) (by omega) (by omega) (by decide) (pa_ui 126 _ _ _ (by omega)) ?_
        refine aw_iinc (ls2 := [_, _]) dX9_clearsNow_19 rfl (by decide) rfl ?_
        refine aw_goto (tgt := 2) dX9_clearsNow_22 (by decide) ?_
        exact ih (i + 1) (by omega)
  refine aw_iconst dX9_clearsNow_0 ?_
  refine aw_istore_n (ls2 := [_, _]) dX9_clearsNow_1 (by decide) rfl ?_
  exact loop 8 0 (by omega)
set_option maxRecDepth 100000 in
set_option maxHeartbeats 4000000 in
theorem c_X9_ends (hHR : HRk hr) (hM : MI s) : AMet E M_X9_ends [aR 125] (pa 126 hi s) hr 131 (EX none (pa 126 hi (enF s)) hr 131) := by
  refine am_of (by decide +kernel) (Nat.le_of_ble_eq_true rfl) ?_
  have hb := hM.2.1
  have h0 := hM.z 248 (by unfold xc; omega)
  have h1 := hM.2.2.2.1
  have hl8 := lin_b h0 (by omega)
  have hlt := lat_b (s 248)
  have m1 := en1_M hM
  have m2 := clB_M m1 hb hl8
  refine aw_aload_n dX9_ends_0 rfl ?_
  refine aw_getr (x := 126) dX9_ends_1 ci9 (by decide) fX9_7 (by decide) (by decide +kernel) rfl ((hHR 125 0 (by decide) (by decide +kernel)).trans rfl) ?_
  refine aw_iconst dX9_ends_4 ?_
  refine aw_iald (N := 256) dX9_ends_5 (Or.inl ⟨(by decide), (by decide +kernel)⟩) (by decide) (by decide) (by decide) (pa_gi 126 _ _ (by decide)) ?_
  refine aw_istore_n (ls2 := [_, _, _, _]) dX9_ends_6 (by decide) rfl ?_
  refine aw_aload_n dX9_ends_7 rfl ?_
  refine aw_iconst dX9_ends_8 ?_
  refine aw_V1x dX9_ends_9 clX9_61 ⟨by decide, by decide⟩ (c := 9) (N := 11) (by decide) (by decide +kernel) rfl (c_X9_now (k := 0) (v := 248) hHR rfl (by decide) (by decide)) (by decide) (by decide) rfl rfl (by simp only [List.length_cons, List.length_nil]; omega) ?_
  refine aw_istore_n (ls2 := [_, _, _, _]) dX9_ends_12 (by decide) rfl ?_
  refine aw_aload_n dX9_ends_13 rfl ?_
  refine aw_iload_n dX9_ends_14 rfl ?_
  refine aw_iload_n dX9_ends_15 rfl ?_
  refine aw_V2x dX9_ends_16 clX9_40 ⟨by decide, by decide⟩ (c := 9) (N := 11) (by decide) (by decide +kernel) rfl c_X9_pageAt (by decide) (by decide) rfl rfl (by simp only [List.length_cons, List.length_nil]; omega) ?_
  refine aw_istore_n (ls2 := [_, _, _, _]) dX9_ends_19 (by decide) rfl ?_
  refine aw_aload_n dX9_ends_20 rfl ?_
  refine aw_getr (x := 126) dX9_ends_21 ci9 (by decide) fX9_7 (by decide) (by decide +kernel) rfl ((hHR 125 0 (by decide) (by decide +kernel)).trans rfl) ?_
  refine aw_iload_n dX9_ends_24 rfl ?_
  refine aw_iconst dX9_ends_25 ?_
  refine aw_iast (N := 256) dX9_ends_26 (by decide) (by decide +kernel) (by omega) (by omega) (by decide) (pa_ui 126 _ _ _ (by omega)) ?_
  refine aw_aload_n dX9_ends_27 rfl ?_
  refine aw_getr (x := 126) dX9_ends_28 ci9 (by decide) fX9_7 (by decide) (by decide +kernel) rfl ((hHR 125 0 (by decide) (by decide +kernel)).trans rfl) ?_
  refine aw_iload_n dX9_ends_31 rfl ?_
  refine aw_iconst dX9_ends_32 ?_
  refine aw_iadd dX9_ends_33 ?_
  refine aw_aload_n dX9_ends_34 rfl ?_
  refine aw_iconst dX9_ends_35 ?_
  refine aw_V1x dX9_ends_36 clX9_61 ⟨by decide, by decide⟩ (c := 9) (N := 11) (by decide) (by decide +kernel) rfl (c_X9_now (k := 1) (v := 249) hHR rfl (by decide) (by decide)) (by decide) (by decide) rfl rfl (by simp only [List.length_cons, List.length_nil]; omega) ?_
  refine aw_iast (N := 256) dX9_ends_39 (by decide) (by decide +kernel) (by omega) (by omega) (by decide) (pa_ui 126 _ _ _ (by omega)) ?_
  refine aw_aload_n dX9_ends_40 rfl ?_
  refine aw_getr (x := 126) dX9_ends_41 ci9 (by decide) fX9_7 (by decide) (by decide +kernel) rfl ((hHR 125 0 (by decide) (by decide +kernel)).trans rfl) ?_
  refine aw_iload_n dX9_ends_44 rfl ?_
  refine aw_iconst dX9_ends_45 ?_
  refine aw_iadd dX9_ends_46 ?_
  refine aw_aload_n dX9_ends_47 rfl ?_
  refine aw_iconst dX9_ends_48 ?_
  refine aw_V1x dX9_ends_49 clX9_61 ⟨by decide, by decide⟩ (c := 9) (N := 11) (by decide) (by decide +kernel) rfl (c_X9_now (k := 2) (v := 250) hHR rfl (by decide) (by decide)) (by decide) (by decide) rfl rfl (by simp only [List.length_cons, List.length_nil]; omega) ?_
  refine aw_iast (N := 256) dX9_ends_52 (by decide) (by decide +kernel) (by omega) (by omega) (by decide) (pa_ui 126 _ _ _ (by omega)) ?_
  refine aw_aload_n dX9_ends_53 rfl ?_
  refine aw_getr (x := 126) dX9_ends_54 ci9 (by decide) fX9_7 (by decide) (by decide +kernel) rfl ((hHR 125 0 (by decide) (by decide +kernel)).trans rfl) ?_
  refine aw_iload_n dX9_ends_57 rfl ?_
  refine aw_iconst dX9_ends_58 ?_
  refine aw_iadd dX9_ends_59 ?_
  refine aw_aload_n dX9_ends_60 rfl ?_
  refine aw_iconst dX9_ends_61 ?_
  refine aw_V1x dX9_ends_62 clX9_61 ⟨by decide, by decide⟩ (c := 9) (N := 11) (by decide) (by decide +kernel) rfl (c_X9_now (k := 4) (v := 252) hHR rfl (by decide) (by decide)) (by decide) (by decide) rfl rfl (by simp only [List.length_cons, List.length_nil]; omega) ?_
  refine aw_iast (N := 256) dX9_ends_65 (by decide) (by decide +kernel) (by omega) (by omega) (by decide) (pa_ui 126 _ _ _ (by omega)) ?_
  refine aw_iload_n dX9_ends_66 rfl ?_
  refine aw_S1x dX9_ends_67 clX9_36 ⟨by decide, by decide⟩ (c_X9_isLate (p := s 248) ⟨by omega, by omega⟩) (by decide) (by decide) rfl rfl (by simp only [List.length_cons, List.length_nil]; omega) ?_
  refine aw_if_eq (tgt := 82) dX9_ends_70 (by decide) ⟨by omega, by omega⟩ (fun h70 => ?_) (fun h70 => ?_)
  · refine aw_aload_n dX9_ends_82 rfl ?_
    refine aw_getr (x := 126) dX9_ends_83 ci9 (by decide) fX9_7 (by decide) (by decide +kernel) rfl ((hHR 125 0 (by decide) (by decide +kernel)).trans rfl) ?_
    refine aw_iconst dX9_ends_86 ?_
    refine aw_dup2 dX9_ends_87 ?_
    refine aw_iald (N := 256) dX9_ends_88 (Or.inl ⟨(by decide), (by decide +kernel)⟩) (by decide) (by decide) (by decide) (pa_gi 126 _ _ (by decide)) ?_
    refine aw_aload_n dX9_ends_89 rfl ?_
    refine aw_iconst dX9_ends_90 ?_
    refine aw_V1x dX9_ends_91 clX9_61 ⟨by decide, by decide⟩ (c := 9) (N := 11) (by decide) (by decide +kernel) rfl (c_X9_now (k := 3) (v := 251) hHR rfl (by decide) (by decide)) (by decide) (by decide) rfl rfl (by simp only [List.length_cons, List.length_nil]; omega) ?_
    refine aw_iconst dX9_ends_94 ?_
    refine aw_irem dX9_ends_95 (show 0 ≤ en1 s 251 from m1.z 251 (by unfold xc; omega)) (show InR (en1 s 251) from m1.r 251 (by unfold xc; omega)) (by decide) ⟨by decide, by decide⟩ ?_
    refine aw_if_ne (tgt := 103) dX9_ends_96 (by decide) (by have := Int.emod_nonneg ((en1 s) 251) (show (3 : Int) ≠ 0 by decide); have := Int.emod_lt_of_pos ((en1 s) 251) (show (0 : Int) < 3 by decide); exact (show InR (en1 s 251 % 3) from ⟨by omega, by omega⟩)) (fun h96 => ?_) (fun h96 => ?_)
    · refine aw_iconst dX9_ends_103 ?_
      refine aw_iadd dX9_ends_104 ?_
      refine aw_iast (N := 256) dX9_ends_105 (by decide) (by decide +kernel) (by decide) (by decide) (by decide) (pa_ui 126 _ _ _ (by decide)) ?_
      refine aw_aload_n dX9_ends_106 rfl ?_
      refine aw_V0v dX9_ends_107 clX9_92 ⟨by decide, by decide⟩ (c := 9) (N := 11) (by decide) (by decide +kernel) rfl (c_X9_clearsNow hHR) (by decide) (by decide) rfl rfl (by simp only [List.length_cons, List.length_nil]; omega) ?_
      refine aw_vret dX9_ends_110 rfl (by decide) (by decide) ?_
      have h96b : ¬ en1 s 251 % 3 = 0 := h96
      exact exV (congrArg (pa 126 hi) (by unfold enF en2; rw [if_neg (by omega)]; dsimp only; rw [if_neg h96b]; rfl))
    · refine aw_iconst dX9_ends_99 ?_
      refine aw_goto (tgt := 104) dX9_ends_100 (by decide) ?_
      refine aw_iadd dX9_ends_104 ?_
      refine aw_iast (N := 256) dX9_ends_105 (by decide) (by decide +kernel) (by decide) (by decide) (by decide) (pa_ui 126 _ _ _ (by decide)) ?_
      refine aw_aload_n dX9_ends_106 rfl ?_
      refine aw_V0v dX9_ends_107 clX9_92 ⟨by decide, by decide⟩ (c := 9) (N := 11) (by decide) (by decide +kernel) rfl (c_X9_clearsNow hHR) (by decide) (by decide) rfl rfl (by simp only [List.length_cons, List.length_nil]; omega) ?_
      refine aw_vret dX9_ends_110 rfl (by decide) (by decide) ?_
      have h96b : en1 s 251 % 3 = 0 := h96
      exact exV (congrArg (pa 126 hi) (by unfold enF en2; rw [if_neg (by omega)]; dsimp only; rw [if_pos h96b]; rfl))
  · refine aw_aload_n dX9_ends_73 rfl ?_
    refine aw_iload_n dX9_ends_74 rfl ?_
    refine aw_iload_n dX9_ends_75 rfl ?_
    refine aw_S1x dX9_ends_76 clX9_64 ⟨by decide, by decide⟩ (c_X9_lineOf h0 (by omega)) (by decide) (by decide) rfl rfl (by simp only [List.length_cons, List.length_nil]; omega) ?_
    refine aw_V2v dX9_ends_79 clX9_88 ⟨by decide, by decide⟩ (c := 9) (N := 11) (by decide) (by decide +kernel) rfl (c_X9_clearsBackup hHR hb hl8) (by decide) (by decide) rfl rfl (by simp only [List.length_cons, List.length_nil]; omega) ?_
    refine aw_aload_n dX9_ends_82 rfl ?_
    refine aw_getr (x := 126) dX9_ends_83 ci9 (by decide) fX9_7 (by decide) (by decide +kernel) rfl ((hHR 125 0 (by decide) (by decide +kernel)).trans rfl) ?_
    refine aw_iconst dX9_ends_86 ?_
    refine aw_dup2 dX9_ends_87 ?_
    refine aw_iald (N := 256) dX9_ends_88 (Or.inl ⟨(by decide), (by decide +kernel)⟩) (by decide) (by decide) (by decide) (pa_gi 126 _ _ (by decide)) ?_
    refine aw_aload_n dX9_ends_89 rfl ?_
    refine aw_iconst dX9_ends_90 ?_
    refine aw_V1x dX9_ends_91 clX9_61 ⟨by decide, by decide⟩ (c := 9) (N := 11) (by decide) (by decide +kernel) rfl (c_X9_now (k := 3) (v := 251) hHR rfl (by decide) (by decide)) (by decide) (by decide) rfl rfl (by simp only [List.length_cons, List.length_nil]; omega) ?_
    refine aw_iconst dX9_ends_94 ?_
    refine aw_irem dX9_ends_95 (show 0 ≤ clB (en1 s) (s 2) (lin (s 248)) 251 from m2.z 251 (by unfold xc; omega)) (show InR (clB (en1 s) (s 2) (lin (s 248)) 251) from m2.r 251 (by unfold xc; omega)) (by decide) ⟨by decide, by decide⟩ ?_
    refine aw_if_ne (tgt := 103) dX9_ends_96 (by decide) (by have := Int.emod_nonneg ((clB (en1 s) (s 2) (lin (s 248))) 251) (show (3 : Int) ≠ 0 by decide); have := Int.emod_lt_of_pos ((clB (en1 s) (s 2) (lin (s 248))) 251) (show (0 : Int) < 3 by decide); exact (show InR (clB (en1 s) (s 2) (lin (s 248)) 251 % 3) from ⟨by omega, by omega⟩)) (fun h96 => ?_) (fun h96 => ?_)
    · refine aw_iconst dX9_ends_103 ?_
      refine aw_iadd dX9_ends_104 ?_
      refine aw_iast (N := 256) dX9_ends_105 (by decide) (by decide +kernel) (by decide) (by decide) (by decide) (pa_ui 126 _ _ _ (by decide)) ?_
      refine aw_aload_n dX9_ends_106 rfl ?_
      refine aw_V0v dX9_ends_107 clX9_92 ⟨by decide, by decide⟩ (c := 9) (N := 11) (by decide) (by decide +kernel) rfl (c_X9_clearsNow hHR) (by decide) (by decide) rfl rfl (by simp only [List.length_cons, List.length_nil]; omega) ?_
      refine aw_vret dX9_ends_110 rfl (by decide) (by decide) ?_
      have hl : lat (s 248) = 1 := by rcases lat_b (s 248) with q | q <;> omega
      have h96b : ¬ clB (en1 s) (s 2) (lin (s 248)) 251 % 3 = 0 := h96
      exact exV (congrArg (pa 126 hi) (by unfold enF en2; rw [if_pos hl]; dsimp only; rw [if_neg h96b]; rfl))
    · refine aw_iconst dX9_ends_99 ?_
      refine aw_goto (tgt := 104) dX9_ends_100 (by decide) ?_
      refine aw_iadd dX9_ends_104 ?_
      refine aw_iast (N := 256) dX9_ends_105 (by decide) (by decide +kernel) (by decide) (by decide) (by decide) (pa_ui 126 _ _ _ (by decide)) ?_
      refine aw_aload_n dX9_ends_106 rfl ?_
      refine aw_V0v dX9_ends_107 clX9_92 ⟨by decide, by decide⟩ (c := 9) (N := 11) (by decide) (by decide +kernel) rfl (c_X9_clearsNow hHR) (by decide) (by decide) rfl rfl (by simp only [List.length_cons, List.length_nil]; omega) ?_
      refine aw_vret dX9_ends_110 rfl (by decide) (by decide) ?_
      have hl : lat (s 248) = 1 := by rcases lat_b (s 248) with q | q <;> omega
      have h96b : clB (en1 s) (s 2) (lin (s 248)) 251 % 3 = 0 := h96
      exact exV (congrArg (pa 126 hi) (by unfold enF en2; rw [if_pos hl]; dsimp only; rw [if_pos h96b]; rfl))
set_option maxRecDepth 100000 in
set_option maxHeartbeats 4000000 in
theorem c_X9_ticks (hHR : HRk hr) (hM0 : MI s) (hbb : s 0 + 1 ≤ BIG) : AMet E M_X9_ticks [aR 125] (pa 126 hi s) hr 131 (EX none (pa 126 hi (tiF s)) hr 131) := by
  refine am_of (by decide +kernel) (Nat.le_of_ble_eq_true rfl) ?_
  have J : AW E M_X9_ticks 0 0 21 [some (aR 125)] [] (pa 126 hi (ti1 s)) hr 131 (EX none (pa 126 hi (tiF s)) hr 131) := by
    show AW E M_X9_ticks 0 0 21 [some (aR 125)] [] (pa 126 hi (ti1 s)) hr 131 (EX none (pa 126 hi (ti2 (ti1 s))) hr 131)
    have hM := (ti1_M hM0 hbb).1
    generalize ti1 s = t at hM ⊢
    have hb := hM.2.1
    have h0 := hM.z 248 (by unfold xc; omega)
    have h1 := hM.2.2.2.1
    have hl8 := lin_b h0 (by omega)
    have e3 : ∀ v, up1 t 253 v 253 = v := fun v => up1_s _ _ _
    have e4 : ∀ v, up1 t 253 v 248 = t 248 := fun v => up1_n _ _ (by omega)
    have e5 : ∀ v, up1 t 253 v 2 = t 2 := fun v => up1_n _ _ (by omega)
    have e6 : ∀ v, up1 (up1 t 254 v) 255 1 254 = v := fun v => by rw [up1_n _ _ (by omega), up1_s]
    refine aw_aload_n dX9_ticks_21 rfl ?_
    refine aw_iconst dX9_ticks_22 ?_
    refine aw_V1x dX9_ticks_23 clX9_61 ⟨by decide, by decide⟩ (c := 9) (N := 11) (by decide) (by decide +kernel) rfl (c_X9_now (k := 5) (v := 253) hHR rfl (by decide) (by decide)) (by decide) (by decide) rfl rfl (by simp only [List.length_cons, List.length_nil]; omega) ?_
    refine aw_if_le (tgt := 87) dX9_ticks_26 (by decide) (hM.r _ (by unfold xc; omega)) (fun h26 => ?_) (fun h26 => ?_)
    · refine aw_aload_n dX9_ticks_87 rfl ?_
      refine aw_bipush dX9_ticks_88 (by decide) ?_
      refine aw_V1x dX9_ticks_90 clX9_61 ⟨by decide, by decide⟩ (c := 9) (N := 11) (by decide) (by decide +kernel) rfl (c_X9_now (k := 6) (v := 254) hHR rfl (by decide) (by decide)) (by decide) (by decide) rfl rfl (by simp only [List.length_cons, List.length_nil]; omega) ?_
      refine aw_if_le (tgt := 130) dX9_ticks_93 (by decide) (hM.r _ (by unfold xc; omega)) (fun h93 => ?_) (fun h93 => ?_)
      · refine aw_vret dX9_ticks_130 rfl (by decide) (by decide) ?_
        exact exV (congrArg (pa 126 hi) (by unfold ti2; rw [if_neg (by omega), if_neg (by omega)]))
      · refine aw_aload_n dX9_ticks_96 rfl ?_
        refine aw_getr (x := 126) dX9_ticks_97 ci9 (by decide) fX9_7 (by decide) (by decide +kernel) rfl ((hHR 125 0 (by decide) (by decide +kernel)).trans rfl) ?_
        refine aw_sipush dX9_ticks_100 (by decide) ?_
        refine aw_dup2 dX9_ticks_103 ?_
        refine aw_iald (N := 256) dX9_ticks_104 (Or.inl ⟨(by decide), (by decide +kernel)⟩) (by decide) (by decide) (by decide) (pa_gi 126 _ _ (by decide)) ?_
        refine aw_iconst dX9_ticks_105 ?_
        refine aw_isub dX9_ticks_106 ?_
        refine aw_iast (N := 256) dX9_ticks_107 (by decide) (by decide +kernel) (by decide) (by decide) (by decide) (pa_ui 126 _ _ _ (by decide)) ?_
        refine aw_aload_n dX9_ticks_108 rfl ?_
        refine aw_getr (x := 126) dX9_ticks_109 ci9 (by decide) fX9_7 (by decide) (by decide +kernel) rfl ((hHR 125 0 (by decide) (by decide +kernel)).trans rfl) ?_
        refine aw_sipush dX9_ticks_112 (by decide) ?_
        refine aw_iconst dX9_ticks_115 ?_
        refine aw_iast (N := 256) dX9_ticks_116 (by decide) (by decide +kernel) (by decide) (by decide) (by decide) (pa_ui 126 _ _ _ (by decide)) ?_
        refine aw_aload_n dX9_ticks_117 rfl ?_
        refine aw_bipush dX9_ticks_118 (by decide) ?_
        refine aw_V1x dX9_ticks_120 clX9_61 ⟨by decide, by decide⟩ (c := 9) (N := 11) (by decide) (by decide +kernel) rfl (c_X9_now (k := 6) (v := 254) hHR rfl (by decide) (by decide)) (by decide) (by decide) rfl rfl (by simp only [List.length_cons, List.length_nil]; omega) ?_
        refine aw_if_ne (tgt := 130) dX9_ticks_123 (by decide) (by rw [e6]; exact ⟨by omega, by have := (hM.r 254 (by unfold xc; omega)).2; omega⟩) (fun h123 => ?_) (fun h123 => ?_)
        · refine aw_vret dX9_ticks_130 rfl (by decide) (by decide) ?_
          exact exV (congrArg (pa 126 hi) (by unfold ti2; rw [if_neg (by omega), if_pos (by omega)]; dsimp only; rw [if_neg h123]))
        · have m2 : MI (up1 (up1 t 254 (t 254 - 1)) 255 1) := (hM.far (k := 254) (by omega) (by omega) (by omega) (by have := hM.b 254 (by unfold xc; omega); omega)).far (by omega) (by omega) (by omega) (by unfold BIG; omega)
          refine aw_aload_n dX9_ticks_126 rfl ?_
          refine aw_V0v dX9_ticks_127 clX9_98 ⟨by decide, by decide⟩ (c := 9) (N := 11) (by decide) (by decide +kernel) rfl (c_X9_ends hHR m2) (by decide) (by decide) rfl rfl (by simp only [List.length_cons, List.length_nil]; omega) ?_
          refine aw_vret dX9_ticks_130 rfl (by decide) (by decide) ?_
          exact exV (congrArg (pa 126 hi) (by unfold ti2; rw [if_neg (by omega), if_pos (by omega)]; dsimp only; rw [if_pos h123]))
    · refine aw_aload_n dX9_ticks_29 rfl ?_
      refine aw_getr (x := 126) dX9_ticks_30 ci9 (by decide) fX9_7 (by decide) (by decide +kernel) rfl ((hHR 125 0 (by decide) (by decide +kernel)).trans rfl) ?_
      refine aw_sipush dX9_ticks_33 (by decide) ?_
      refine aw_dup2 dX9_ticks_36 ?_
      refine aw_iald (N := 256) dX9_ticks_37 (Or.inl ⟨(by decide), (by decide +kernel)⟩) (by decide) (by decide) (by decide) (pa_gi 126 _ _ (by decide)) ?_
      refine aw_iconst dX9_ticks_38 ?_
      refine aw_isub dX9_ticks_39 ?_
      refine aw_iast (N := 256) dX9_ticks_40 (by decide) (by decide +kernel) (by decide) (by decide) (by decide) (pa_ui 126 _ _ _ (by decide)) ?_
      refine aw_aload_n dX9_ticks_41 rfl ?_
      refine aw_iconst dX9_ticks_42 ?_
      refine aw_V1x dX9_ticks_43 clX9_61 ⟨by decide, by decide⟩ (c := 9) (N := 11) (by decide) (by decide +kernel) rfl (c_X9_now (k := 5) (v := 253) hHR rfl (by decide) (by decide)) (by decide) (by decide) rfl rfl (by simp only [List.length_cons, List.length_nil]; omega) ?_
      refine aw_if_ne (tgt := 130) dX9_ticks_46 (by decide) (by rw [e3]; exact ⟨by omega, by have := (hM.r 253 (by unfold xc; omega)).2; omega⟩) (fun h46 => ?_) (fun h46 => ?_)
      · refine aw_vret dX9_ticks_130 rfl (by decide) (by decide) ?_
        exact exV (congrArg (pa 126 hi) (by unfold ti2; rw [if_pos (by omega)]; dsimp only; rw [if_neg h46]))
      · have h46 := h46
        refine aw_aload_n dX9_ticks_49 rfl ?_
        refine aw_getr (x := 126) dX9_ticks_50 ci9 (by decide) fX9_7 (by decide) (by decide +kernel) rfl ((hHR 125 0 (by decide) (by decide +kernel)).trans rfl) ?_
        refine aw_aload_n dX9_ticks_53 rfl ?_
        refine aw_aload_n dX9_ticks_54 rfl ?_
        refine aw_getr (x := 126) dX9_ticks_55 ci9 (by decide) fX9_7 (by decide) (by decide +kernel) rfl ((hHR 125 0 (by decide) (by decide +kernel)).trans rfl) ?_
        refine aw_iconst dX9_ticks_58 ?_
        refine aw_iald (N := 256) dX9_ticks_59 (Or.inl ⟨(by decide), (by decide +kernel)⟩) (by decide) (by decide) (by decide) (pa_gi 126 _ _ (by decide)) ?_
        refine aw_aload_n dX9_ticks_60 rfl ?_
        refine aw_iconst dX9_ticks_61 ?_
        refine aw_V1x dX9_ticks_62 clX9_61 ⟨by decide, by decide⟩ (c := 9) (N := 11) (by decide) (by decide +kernel) rfl (c_X9_now (k := 0) (v := 248) hHR rfl (by decide) (by decide)) (by decide) (by decide) rfl rfl (by simp only [List.length_cons, List.length_nil]; omega) ?_
        refine aw_S1x dX9_ticks_65 clX9_64 ⟨by decide, by decide⟩ (c_X9_lineOf (by rw [e4]; exact h0) (by rw [e4]; omega)) (by decide) (by decide) rfl rfl (by simp only [List.length_cons, List.length_nil]; omega) ?_
        refine aw_V2x dX9_ticks_68 clX9_48 ⟨by decide, by decide⟩ (c := 9) (N := 11) (by decide) (by decide +kernel) rfl c_X9_backupAt (by decide) (by decide) rfl rfl (by simp only [List.length_cons, List.length_nil]; omega) ?_
        refine aw_iconst dX9_ticks_71 ?_
        refine aw_iast (N := 256) dX9_ticks_72 (by decide) (by decide +kernel) (by rw [e4, e5]; omega) (by rw [e4, e5]; omega) (by decide) (pa_ui 126 _ _ _ (by rw [e4, e5]; omega)) ?_
        refine aw_aload_n dX9_ticks_73 rfl ?_
        refine aw_getr (x := 126) dX9_ticks_74 ci9 (by decide) fX9_7 (by decide) (by decide +kernel) rfl ((hHR 125 0 (by decide) (by decide +kernel)).trans rfl) ?_
        refine aw_bipush dX9_ticks_77 (by decide) ?_
        refine aw_dup2 dX9_ticks_79 ?_
        refine aw_iald (N := 256) dX9_ticks_80 (Or.inl ⟨(by decide), (by decide +kernel)⟩) (by decide) (by decide) (by decide) (pa_gi 126 _ _ (by decide)) ?_
        refine aw_iconst dX9_ticks_81 ?_
        refine aw_iadd dX9_ticks_82 ?_
        refine aw_iast (N := 256) dX9_ticks_83 (by decide) (by decide +kernel) (by decide) (by decide) (by decide) (pa_ui 126 _ _ _ (by decide)) ?_
        refine aw_goto (tgt := 130) dX9_ticks_84 (by decide) ?_
        refine aw_vret dX9_ticks_130 rfl (by decide) (by decide) ?_
        exact exV (congrArg (pa 126 hi) (by unfold ti2; rw [if_pos (by omega)]; dsimp only; rw [if_pos h46]))
  have m1 := hM0.time hbb
  have e0 : up1 s 0 (s 0 + 1) 0 = s 0 + 1 := up1_s _ _ _
  have e10 : up1 s 0 (s 0 + 1) 10 = s 10 := up1_n _ _ (by omega)
  have h10 := hM0.2.2.2.2.2.2.1
  refine aw_aload_n dX9_ticks_0 rfl ?_
  refine aw_getr (x := 126) dX9_ticks_1 ci9 (by decide) fX9_7 (by decide) (by decide +kernel) rfl ((hHR 125 0 (by decide) (by decide +kernel)).trans rfl) ?_
  refine aw_iconst dX9_ticks_4 ?_
  refine aw_dup2 dX9_ticks_5 ?_
  refine aw_iald (N := 256) dX9_ticks_6 (Or.inl ⟨(by decide), (by decide +kernel)⟩) (by decide) (by decide) (by decide) (pa_gi 126 _ _ (by decide)) ?_
  refine aw_iconst dX9_ticks_7 ?_
  refine aw_iadd dX9_ticks_8 ?_
  refine aw_iast (N := 256) dX9_ticks_9 (by decide) (by decide +kernel) (by decide) (by decide) (by decide) (pa_ui 126 _ _ _ (by decide)) ?_
  refine aw_aload_n dX9_ticks_10 rfl ?_
  refine aw_V0x dX9_ticks_11 clX9_77 ⟨by decide, by decide⟩ (c := 9) (N := 11) (by decide) (by decide +kernel) rfl (c_X9_isWriting hHR m1) (by decide) (by decide) rfl rfl (by simp only [List.length_cons, List.length_nil]; omega) ?_
  refine aw_if_ne (tgt := 21) dX9_ticks_14 (by decide) (by rcases iw_b (up1 s 0 (s 0 + 1)) with q | q <;> rw [q] <;> exact ⟨by decide, by decide⟩) (fun h14 => ?_) (fun h14 => ?_)
  · rw [show up1 s 0 (s 0 + 1) = ti1 s from by unfold ti1; dsimp only; rw [if_neg h14]]
    exact J
  · refine aw_aload_n dX9_ticks_17 rfl ?_
    refine aw_V0v dX9_ticks_18 clX9_95 ⟨by decide, by decide⟩ (c := 9) (N := 11) (by decide) (by decide +kernel) rfl (c_X9_takes hHR m1 (Or.inl (by rw [e0, e10]; omega))) (by decide) (by decide) rfl rfl (by simp only [List.length_cons, List.length_nil]; omega) ?_
    rw [show tkF (up1 s 0 (s 0 + 1)) = ti1 s from by unfold ti1; dsimp only; rw [if_pos h14]]
    exact J
set_option maxRecDepth 100000 in
set_option maxHeartbeats 4000000 in
theorem c_X9_goes {m : Nat} (hHR : HRk hr) (hM : MI s) (hm : m ≤ 200) (hbb : s 0 + m ≤ BIG) : AMet E M_X9_goes [aR 125, aI (m : Int)] (pa 126 hi s) hr 131 (EX (some (aI (goA s m 3 - s 3))) (pa 126 hi (goA s m)) hr 131) := by
  refine am_of (by decide +kernel) (Nat.le_of_ble_eq_true rfl) ?_
  have loop : ∀ (d k : Nat), k + d = m → AW E M_X9_goes 0 0 9 [some (aR 125), some (aI (m : Int)), some (aI (s 3)), some (aI (k : Int))] [] (pa 126 hi (goA s k)) hr 131 (EX (some (aI (goA s m 3 - s 3))) (pa 126 hi (goA s m)) hr 131) := by
    intro d
    induction d with
    | zero =>
      intro k hk
      have hk' : k = m := by omega
      subst hk'
      refine aw_iload_n dX9_goes_9 rfl ?_
      refine aw_iload_n dX9_goes_10 rfl ?_
      refine aw_ic_ge (tgt := 24) dX9_goes_11 (by decide) ⟨by omega, by omega⟩ ⟨by omega, by omega⟩ (fun h11 => ?_) (fun h11 => ?_)
      · refine aw_aload_n dX9_goes_24 rfl ?_
        refine aw_getr (x := 126) dX9_goes_25 ci9 (by decide) fX9_7 (by decide) (by decide +kernel) rfl ((hHR 125 0 (by decide) (by decide +kernel)).trans rfl) ?_
        refine aw_iconst dX9_goes_28 ?_
        refine aw_iald (N := 256) dX9_goes_29 (Or.inl ⟨(by decide), (by decide +kernel)⟩) (by decide) (by decide) (by decide) (pa_gi 126 _ _ (by decide)) ?_
        refine aw_iload_n dX9_goes_30 rfl ?_
        refine aw_isub dX9_goes_31 ?_
        refine aw_iret dX9_goes_32 rfl (by decide) (by decide) ?_
        exact EX.rf
      · exact absurd h11 (by omega)
    | succ d ih =>
      intro k hk
      have g := goA_M hM k (by omega)
      refine aw_iload_n dX9_goes_9 rfl ?_
      refine aw_iload_n dX9_goes_10 rfl ?_
      refine aw_ic_ge (tgt := 24) dX9_goes_11 (by decide) ⟨by omega, by omega⟩ ⟨by omega, by omega⟩ (fun h11 => ?_) (fun h11 => ?_)
      · exact absurd h11 (by omega)
      · refine aw_aload_n dX9_goes_14 rfl ?_
        refine aw_V0v dX9_goes_15 clX9_101 ⟨by decide, by decide⟩ (c := 9) (N := 11) (by decide) (by decide +kernel) rfl (c_X9_ticks hHR g.1 (by rw [g.2]; omega)) (by decide) (by decide) rfl rfl (by simp only [List.length_cons, List.length_nil]; omega) ?_
        refine aw_iinc (ls2 := [_, _, _, _]) dX9_goes_18 rfl (by decide) rfl ?_
        refine aw_goto (tgt := 9) dX9_goes_21 (by decide) ?_
        exact ih (k + 1) (by omega)
  refine aw_aload_n dX9_goes_0 rfl ?_
  refine aw_getr (x := 126) dX9_goes_1 ci9 (by decide) fX9_7 (by decide) (by decide +kernel) rfl ((hHR 125 0 (by decide) (by decide +kernel)).trans rfl) ?_
  refine aw_iconst dX9_goes_4 ?_
  refine aw_iald (N := 256) dX9_goes_5 (Or.inl ⟨(by decide), (by decide +kernel)⟩) (by decide) (by decide) (by decide) (pa_gi 126 _ _ (by decide)) ?_
  refine aw_istore_n (ls2 := [_, _, _, _]) dX9_goes_6 (by decide) rfl ?_
  refine aw_iconst dX9_goes_7 ?_
  refine aw_istore_n (ls2 := [_, _, _, _]) dX9_goes_8 (by decide) rfl ?_
  exact loop m 0 (by omega)
set_option maxRecDepth 100000 in
set_option maxHeartbeats 4000000 in
theorem c_X9_tears {b p : Int} (hHR : HRk hr) (hb : b = 0 ∨ b = 1) (hp : 0 ≤ p ∧ p < 16) : AMet E M_X9_tears [aR 125, aI b, aI p] (pa 126 hi s) hr 131 (EX none (pa 126 hi (taF s b p)) hr 131) := by
  refine am_of (by decide +kernel) (Nat.le_of_ble_eq_true rfl) ?_
  refine aw_aload_n dX9_tears_0 rfl ?_
  refine aw_iload_n dX9_tears_1 rfl ?_
  refine aw_iload_n dX9_tears_2 rfl ?_
  refine aw_V2x dX9_tears_3 clX9_40 ⟨by decide, by decide⟩ (c := 9) (N := 11) (by decide) (by decide +kernel) rfl c_X9_pageAt (by decide) (by decide) rfl rfl (by simp only [List.length_cons, List.length_nil]; omega) ?_
  refine aw_istore_n (ls2 := [_, _, _, _]) dX9_tears_6 (by decide) rfl ?_
  refine aw_aload_n dX9_tears_7 rfl ?_
  refine aw_getr (x := 126) dX9_tears_8 ci9 (by decide) fX9_7 (by decide) (by decide +kernel) rfl ((hHR 125 0 (by decide) (by decide +kernel)).trans rfl) ?_
  refine aw_iload_n dX9_tears_11 rfl ?_
  refine aw_iconst dX9_tears_12 ?_
  refine aw_iast (N := 256) dX9_tears_13 (by decide) (by decide +kernel) (by omega) (by omega) (by decide) (pa_ui 126 _ _ _ (by omega)) ?_
  refine aw_aload_n dX9_tears_14 rfl ?_
  refine aw_getr (x := 126) dX9_tears_15 ci9 (by decide) fX9_7 (by decide) (by decide +kernel) rfl ((hHR 125 0 (by decide) (by decide +kernel)).trans rfl) ?_
  refine aw_iload_n dX9_tears_18 rfl ?_
  refine aw_iconst dX9_tears_19 ?_
  refine aw_iadd dX9_tears_20 ?_
  refine aw_iconst dX9_tears_21 ?_
  refine aw_iast (N := 256) dX9_tears_22 (by decide) (by decide +kernel) (by omega) (by omega) (by decide) (pa_ui 126 _ _ _ (by omega)) ?_
  refine aw_aload_n dX9_tears_23 rfl ?_
  refine aw_getr (x := 126) dX9_tears_24 ci9 (by decide) fX9_7 (by decide) (by decide +kernel) rfl ((hHR 125 0 (by decide) (by decide +kernel)).trans rfl) ?_
  refine aw_iload_n dX9_tears_27 rfl ?_
  refine aw_iconst dX9_tears_28 ?_
  refine aw_iadd dX9_tears_29 ?_
  refine aw_iconst dX9_tears_30 ?_
  refine aw_iast (N := 256) dX9_tears_31 (by decide) (by decide +kernel) (by omega) (by omega) (by decide) (pa_ui 126 _ _ _ (by omega)) ?_
  refine aw_aload_n dX9_tears_32 rfl ?_
  refine aw_getr (x := 126) dX9_tears_33 ci9 (by decide) fX9_7 (by decide) (by decide +kernel) rfl ((hHR 125 0 (by decide) (by decide +kernel)).trans rfl) ?_
  refine aw_iload_n dX9_tears_36 rfl ?_
  refine aw_iconst dX9_tears_37 ?_
  refine aw_iadd dX9_tears_38 ?_
  refine aw_iconst dX9_tears_39 ?_
  refine aw_iast (N := 256) dX9_tears_40 (by decide) (by decide +kernel) (by omega) (by omega) (by decide) (pa_ui 126 _ _ _ (by omega)) ?_
  refine aw_vret dX9_tears_41 rfl (by decide) (by decide) ?_
  exact EX.rf
end TWIN3
