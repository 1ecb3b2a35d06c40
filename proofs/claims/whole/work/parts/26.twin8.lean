/-! the twin's texts -/
section TWIN8
variable {E : ET} {hi X : HI} {hr : HR} {f p b s G : Int → Int} {a d t m : Int}
set_option maxRecDepth 100000 in
set_option maxHeartbeats 4000000 in
theorem c_X9_here (hHR : HRk hr) (hG : ∀ j : Nat, X 129 j = G (j : Int)) (hT : TX G (f 5)) (h0 : 0 ≤ a) (h1 : a ≤ 1000) : AMet E M_X9_here [aR 125] (mh X (ff f a d t m) p b s) hr 131 (EX (some (aI (hrF G (f 5) a))) (mh X (ff f a d t m) p b s) hr 131) := by
  refine am_of (by decide +kernel) (Nat.le_of_ble_eq_true rfl) ?_
  have hb := hr_b hT h0
  have hl0 := hT.1
  have hl1 := hT.2.1
  refine aw_aload_n dX9_here_0 rfl ?_
  refine aw_getv dX9_here_1 ci9 (by decide) fX9_177 (by decide) (by decide +kernel) rfl (mt_7 _ _ _ _ _ _ _ _ _) ?_
  refine aw_aload_n dX9_here_4 rfl ?_
  refine aw_getv dX9_here_5 ci9 (by decide) fX9_171 (by decide) (by decide +kernel) rfl (mt_5 _ _ _ _ _ _ _ _ _) ?_
  refine aw_ic_ge (tgt := 23) dX9_here_8 (by decide) ⟨by omega, by omega⟩ ⟨by omega, by omega⟩ (fun h8 => ?_) (fun h8 => ?_)
  · refine aw_iconst dX9_here_23 ?_
    refine aw_iret dX9_here_24 rfl (by decide) (by decide) ?_
    exact exI (by unfold hrF; rw [if_neg (by omega)])
  · refine aw_aload_n dX9_here_11 rfl ?_
    refine aw_getr (x := 129) dX9_here_12 ci9 (by decide) fX9_19 (by decide) (by decide +kernel) rfl ((hHR 125 4 (by decide) (by decide +kernel)).trans rfl) ?_
    refine aw_aload_n dX9_here_15 rfl ?_
    refine aw_getv dX9_here_16 ci9 (by decide) fX9_177 (by decide) (by decide +kernel) rfl (mt_7 _ _ _ _ _ _ _ _ _) ?_
    refine aw_iald (N := 60) dX9_here_19 (Or.inl ⟨(by decide), (by decide +kernel)⟩) (by omega) (by omega) (by decide) ((mh_g129 _ _ _ _ _ _).trans ((hG _).trans (by rw [Int.toNat_of_nonneg h0]))) ?_
    refine aw_goto (tgt := 24) dX9_here_20 (by decide) ?_
    refine aw_iret dX9_here_24 rfl (by decide) (by decide) ?_
    exact exI (by unfold hrF; rw [if_pos (by omega)])
set_option maxRecDepth 100000 in
set_option maxHeartbeats 4000000 in
theorem c_X9_isDigit (hHR : HRk hr) (hG : ∀ j : Nat, X 129 j = G (j : Int)) (hT : TX G (f 5)) (h0 : 0 ≤ a) (h1 : a ≤ 1000) : AMet E M_X9_isDigit [aR 125] (mh X (ff f a d t m) p b s) hr 131 (EX (some (aI (dgF G (f 5) a))) (mh X (ff f a d t m) p b s) hr 131) := by
  refine am_of (by decide +kernel) (Nat.le_of_ble_eq_true rfl) ?_
  have hb := hr_b hT h0
  have hl0 := hT.1
  have hl1 := hT.2.1
  refine aw_aload_n dX9_isDigit_0 rfl ?_
  refine aw_V0x dX9_isDigit_1 clX9_180 ⟨by decide, by decide⟩ (c := 9) (N := 11) (by decide) (by decide +kernel) rfl (c_X9_here hHR hG hT h0 h1) (by decide) (by decide) rfl rfl (by simp only [List.length_cons, List.length_nil]; omega) ?_
  refine aw_bipush dX9_isDigit_4 (by decide) ?_
  refine aw_bipush dX9_isDigit_6 (by decide) ?_
  refine aw_S3x dX9_isDigit_8 clX9_32 ⟨by decide, by decide⟩ (c_X9_in (by have := hr_b hT h0; exact ⟨by omega, by omega⟩) ⟨by decide, by decide⟩ ⟨by decide, by decide⟩) (by decide) (by decide) rfl rfl (by simp only [List.length_cons, List.length_nil]; omega) ?_
  refine aw_zret dX9_isDigit_11 rfl (by split <;> simp) (by decide) (by decide) ?_
  exact EX.rf
set_option maxRecDepth 100000 in
set_option maxHeartbeats 4000000 in
theorem c_X9_hasTwo {x : Int} (hx : InR x) : AMet E M_X9_hasTwo [aI x] hi hr 131 (EX (some (aI (h2F x))) hi hr 131) := by
  refine am_of (by decide +kernel) (Nat.le_of_ble_eq_true rfl) ?_
  refine aw_iload_n dX9_hasTwo_0 rfl ?_
  refine aw_bipush dX9_hasTwo_1 (by decide) ?_
  refine aw_ic_eq (tgt := 12) dX9_hasTwo_3 (by decide) hx ⟨by decide, by decide⟩ (fun h3 => ?_) (fun h3 => ?_)
  · refine aw_iconst dX9_hasTwo_12 ?_
    refine aw_goto (tgt := 17) dX9_hasTwo_13 (by decide) ?_
    refine aw_zret dX9_hasTwo_17 rfl (Or.inr rfl) (by decide) (by decide) ?_
    exact exI (by unfold h2F; rw [if_pos (by omega)])
  · refine aw_iload_n dX9_hasTwo_6 rfl ?_
    refine aw_bipush dX9_hasTwo_7 (by decide) ?_
    refine aw_ic_ne (tgt := 16) dX9_hasTwo_9 (by decide) hx ⟨by decide, by decide⟩ (fun h9 => ?_) (fun h9 => ?_)
    · refine aw_iconst dX9_hasTwo_16 ?_
      refine aw_zret dX9_hasTwo_17 rfl (Or.inl rfl) (by decide) (by decide) ?_
      exact exI (by unfold h2F; rw [if_neg (by omega)])
    · refine aw_iconst dX9_hasTwo_12 ?_
      refine aw_goto (tgt := 17) dX9_hasTwo_13 (by decide) ?_
      refine aw_zret dX9_hasTwo_17 rfl (Or.inr rfl) (by decide) (by decide) ?_
      exact exI (by unfold h2F; rw [if_pos (by omega)])
set_option maxRecDepth 100000 in
set_option maxHeartbeats 4000000 in
theorem c_X9_hasOne {x : Int} (hx : InR x) : AMet E M_X9_hasOne [aI x] hi hr 131 (EX (some (aI (h1F x))) hi hr 131) := by
  refine am_of (by decide +kernel) (Nat.le_of_ble_eq_true rfl) ?_
  refine aw_iload_n dX9_hasOne_0 rfl ?_
  refine aw_bipush dX9_hasOne_1 (by decide) ?_
  refine aw_ic_eq (tgt := 18) dX9_hasOne_3 (by decide) hx ⟨by decide, by decide⟩ (fun h3 => ?_) (fun h3 => ?_)
  · refine aw_iconst dX9_hasOne_18 ?_
    refine aw_goto (tgt := 23) dX9_hasOne_19 (by decide) ?_
    refine aw_zret dX9_hasOne_23 rfl (Or.inr rfl) (by decide) (by decide) ?_
    exact exI (by unfold h1F; rw [if_pos (by omega)])
  · refine aw_iload_n dX9_hasOne_6 rfl ?_
    refine aw_bipush dX9_hasOne_7 (by decide) ?_
    refine aw_ic_eq (tgt := 18) dX9_hasOne_9 (by decide) hx ⟨by decide, by decide⟩ (fun h9 => ?_) (fun h9 => ?_)
    · refine aw_iconst dX9_hasOne_18 ?_
      refine aw_goto (tgt := 23) dX9_hasOne_19 (by decide) ?_
      refine aw_zret dX9_hasOne_23 rfl (Or.inr rfl) (by decide) (by decide) ?_
      exact exI (by unfold h1F; rw [if_pos (by omega)])
    · refine aw_iload_n dX9_hasOne_12 rfl ?_
      refine aw_bipush dX9_hasOne_13 (by decide) ?_
      refine aw_ic_ne (tgt := 22) dX9_hasOne_15 (by decide) hx ⟨by decide, by decide⟩ (fun h15 => ?_) (fun h15 => ?_)
      · refine aw_iconst dX9_hasOne_22 ?_
        refine aw_zret dX9_hasOne_23 rfl (Or.inl rfl) (by decide) (by decide) ?_
        exact exI (by unfold h1F; rw [if_neg (by omega)])
      · refine aw_iconst dX9_hasOne_18 ?_
        refine aw_goto (tgt := 23) dX9_hasOne_19 (by decide) ?_
        refine aw_zret dX9_hasOne_23 rfl (Or.inr rfl) (by decide) (by decide) ?_
        exact exI (by unfold h1F; rw [if_pos (by omega)])
set_option maxRecDepth 100000 in
set_option maxHeartbeats 4000000 in
theorem c_X9_takesSign (hHR : HRk hr) (hG : ∀ j : Nat, X 129 j = G (j : Int)) (hT : TX G (f 5)) (h0 : 0 ≤ a) (h1 : a ≤ 1000) {x : Int} (hx : InR x) (hm : m = 0 ∨ m = 1) : AMet E M_X9_takesSign [aR 125, aI x] (mh X (ff f a d t m) p b s) hr 131 (EX none (mh X (ff f (a + tsF G (f 5) x m a) d t (tsF G (f 5) x m a)) p b s) hr 131) := by
  refine am_of (by decide +kernel) (Nat.le_of_ble_eq_true rfl) ?_
  have hb := hr_b hT h0
  have hl0 := hT.1
  have hl1 := hT.2.1
  refine aw_aload_n dX9_takesSign_0 rfl ?_
  refine aw_aload_n dX9_takesSign_1 rfl ?_
  refine aw_getv dX9_takesSign_2 ci9 (by decide) fX9_183 (by decide) (by decide +kernel) rfl (mt_10 _ _ _ _ _ _ _ _ _) ?_
  refine aw_if_eq (tgt := 20) dX9_takesSign_5 (by decide) ⟨by omega, by omega⟩ (fun h5 => ?_) (fun h5 => ?_)
  · refine aw_iconst dX9_takesSign_20 ?_
    refine aw_putv dX9_takesSign_21 ci9 (by decide) fX9_183 (by decide) (by decide +kernel) rfl rfl (Or.inr ⟨rfl, Or.inl rfl⟩) (mt_u10 _ _ _ _ _ _ _ _ _ _) ?_
    refine aw_aload_n dX9_takesSign_24 rfl ?_
    refine aw_dup dX9_takesSign_25 ?_
    refine aw_getv dX9_takesSign_26 ci9 (by decide) fX9_177 (by decide) (by decide +kernel) rfl (mt_7 _ _ _ _ _ _ _ _ _) ?_
    refine aw_aload_n dX9_takesSign_29 rfl ?_
    refine aw_getv dX9_takesSign_30 ci9 (by decide) fX9_183 (by decide) (by decide +kernel) rfl (mt_10 _ _ _ _ _ _ _ _ _) ?_
    refine aw_if_eq (tgt := 40) dX9_takesSign_33 (by decide) ⟨by omega, by omega⟩ (fun h33 => ?_) (fun h33 => ?_)
    · refine aw_iconst dX9_takesSign_40 ?_
      refine aw_iadd dX9_takesSign_41 ?_
      refine aw_putv dX9_takesSign_42 ci9 (by decide) fX9_177 (by decide) (by decide +kernel) rfl rfl (Or.inl rfl) (mt_u7 _ _ _ _ _ _ _ _ _ _) ?_
      refine aw_vret dX9_takesSign_45 rfl (by decide) (by decide) ?_
      have e : tsF G (f 5) x m a = 0 := by unfold tsF; rw [if_neg (by omega)]
      rw [e]
      exact EX.rf
    · exact absurd h33 (by decide)
  · refine aw_aload_n dX9_takesSign_8 rfl ?_
    refine aw_V0x dX9_takesSign_9 clX9_180 ⟨by decide, by decide⟩ (c := 9) (N := 11) (by decide) (by decide +kernel) rfl (c_X9_here hHR hG hT h0 h1) (by decide) (by decide) rfl rfl (by simp only [List.length_cons, List.length_nil]; omega) ?_
    refine aw_iload_n dX9_takesSign_12 rfl ?_
    refine aw_ic_ne (tgt := 20) dX9_takesSign_13 (by decide) ⟨by omega, by omega⟩ hx (fun h13 => ?_) (fun h13 => ?_)
    · refine aw_iconst dX9_takesSign_20 ?_
      refine aw_putv dX9_takesSign_21 ci9 (by decide) fX9_183 (by decide) (by decide +kernel) rfl rfl (Or.inr ⟨rfl, Or.inl rfl⟩) (mt_u10 _ _ _ _ _ _ _ _ _ _) ?_
      refine aw_aload_n dX9_takesSign_24 rfl ?_
      refine aw_dup dX9_takesSign_25 ?_
      refine aw_getv dX9_takesSign_26 ci9 (by decide) fX9_177 (by decide) (by decide +kernel) rfl (mt_7 _ _ _ _ _ _ _ _ _) ?_
      refine aw_aload_n dX9_takesSign_29 rfl ?_
      refine aw_getv dX9_takesSign_30 ci9 (by decide) fX9_183 (by decide) (by decide +kernel) rfl (mt_10 _ _ _ _ _ _ _ _ _) ?_
      refine aw_if_eq (tgt := 40) dX9_takesSign_33 (by decide) ⟨by omega, by omega⟩ (fun h33 => ?_) (fun h33 => ?_)
      · refine aw_iconst dX9_takesSign_40 ?_
        refine aw_iadd dX9_takesSign_41 ?_
        refine aw_putv dX9_takesSign_42 ci9 (by decide) fX9_177 (by decide) (by decide +kernel) rfl rfl (Or.inl rfl) (mt_u7 _ _ _ _ _ _ _ _ _ _) ?_
        refine aw_vret dX9_takesSign_45 rfl (by decide) (by decide) ?_
        have e : tsF G (f 5) x m a = 0 := by unfold tsF; rw [if_neg (by omega)]
        rw [e]
        exact EX.rf
      · exact absurd h33 (by decide)
    · refine aw_iconst dX9_takesSign_16 ?_
      refine aw_goto (tgt := 21) dX9_takesSign_17 (by decide) ?_
      refine aw_putv dX9_takesSign_21 ci9 (by decide) fX9_183 (by decide) (by decide +kernel) rfl rfl (Or.inr ⟨rfl, Or.inr rfl⟩) (mt_u10 _ _ _ _ _ _ _ _ _ _) ?_
      refine aw_aload_n dX9_takesSign_24 rfl ?_
      refine aw_dup dX9_takesSign_25 ?_
      refine aw_getv dX9_takesSign_26 ci9 (by decide) fX9_177 (by decide) (by decide +kernel) rfl (mt_7 _ _ _ _ _ _ _ _ _) ?_
      refine aw_aload_n dX9_takesSign_29 rfl ?_
      refine aw_getv dX9_takesSign_30 ci9 (by decide) fX9_183 (by decide) (by decide +kernel) rfl (mt_10 _ _ _ _ _ _ _ _ _) ?_
      refine aw_if_eq (tgt := 40) dX9_takesSign_33 (by decide) ⟨by omega, by omega⟩ (fun h33 => ?_) (fun h33 => ?_)
      · exact absurd h33 (by decide)
      · refine aw_iconst dX9_takesSign_36 ?_
        refine aw_goto (tgt := 41) dX9_takesSign_37 (by decide) ?_
        refine aw_iadd dX9_takesSign_41 ?_
        refine aw_putv dX9_takesSign_42 ci9 (by decide) fX9_177 (by decide) (by decide +kernel) rfl rfl (Or.inl rfl) (mt_u7 _ _ _ _ _ _ _ _ _ _) ?_
        refine aw_vret dX9_takesSign_45 rfl (by decide) (by decide) ?_
        have e : tsF G (f 5) x m a = 1 := by unfold tsF; rw [if_pos (by omega)]
        rw [e]
        exact EX.rf
set_option maxRecDepth 100000 in
set_option maxHeartbeats 4000000 in
theorem c_X9_number (hHR : HRk hr) (hG : ∀ j : Nat, X 129 j = G (j : Int)) (hT : TX G (f 5)) (h0 : 0 ≤ a) (h1 : a ≤ 990) (hm : m = 0 ∨ m = 1) : AMet E M_X9_number [aR 125] (mh X (ff f a d t m) p b s) hr 131 (EX (some (aI ((nuF G (f 5) m a).2.1))) (mh X (ff f ((nuF G (f 5) m a).2.2) d t ((nuF G (f 5) m a).1)) p b s) hr 131) := by
  refine am_of (by decide +kernel) (Nat.le_of_ble_eq_true rfl) ?_
  have hl0 := hT.1
  have hl1 := hT.2.1
  have loop : ∀ (k j : Nat) (v a2 : Int), j + k = 3 → 0 ≤ v → v < 10 ^ j → 0 ≤ a2 → a2 ≤ 990 + j → AW E M_X9_number 0 0 27 [some (aR 125), some (aI v), some (aI (j : Int))] [] (mh X (ff f a2 d t 1) p b s) hr 131 (EX (some (aI ((nuA G (f 5) k v a2).1))) (mh X (ff f ((nuA G (f 5) k v a2).2) d t 1) p b s) hr 131) := by
    intro k
    induction k with
    | zero =>
      intro j v a2 hj hv hv2 ha ha2
      have hj' : j = 3 := by omega
      subst hj'
      refine aw_iload_n dX9_number_27 rfl ?_
      refine aw_iconst dX9_number_28 ?_
      refine aw_ic_ge (tgt := 75) dX9_number_29 (by decide) ⟨by decide, by decide⟩ ⟨by decide, by decide⟩ (fun h29 => ?_) (fun h29 => ?_)
      · refine aw_iload_n dX9_number_75 rfl ?_
        refine aw_iret dX9_number_76 rfl (by decide) (by decide) ?_
        exact EX.rf
      · exact absurd h29 (by decide)
    | succ k ih =>
      intro j v a2 hj hv hv2 ha ha2
      have hb := hr_b hT ha
      have hd := dg_b G (f 5) a2
      refine aw_iload_n dX9_number_27 rfl ?_
      refine aw_iconst dX9_number_28 ?_
      refine aw_ic_ge (tgt := 75) dX9_number_29 (by decide) ⟨by omega, by omega⟩ ⟨by decide, by decide⟩ (fun h29 => ?_) (fun h29 => ?_)
      · exact absurd h29 (by omega)
      · refine aw_aload_n dX9_number_32 rfl ?_
        refine aw_getv dX9_number_33 ci9 (by decide) fX9_183 (by decide) (by decide +kernel) rfl (mt_10 _ _ _ _ _ _ _ _ _) ?_
        refine aw_if_eq (tgt := 75) dX9_number_36 (by decide) ⟨by decide, by decide⟩ (fun h36 => ?_) (fun h36 => ?_)
        · exact absurd h36 (by decide)
        · refine aw_aload_n dX9_number_39 rfl ?_
          refine aw_V0x dX9_number_40 clX9_187 ⟨by decide, by decide⟩ (c := 9) (N := 11) (by decide) (by decide +kernel) rfl (c_X9_isDigit hHR hG hT ha (by omega)) (by decide) (by decide) rfl rfl (by simp only [List.length_cons, List.length_nil]; omega) ?_
          refine aw_if_eq (tgt := 75) dX9_number_43 (by decide) ⟨by omega, by omega⟩ (fun h43 => ?_) (fun h43 => ?_)
          · refine aw_iload_n dX9_number_75 rfl ?_
            refine aw_iret dX9_number_76 rfl (by decide) (by decide) ?_
            have e : nuA G (f 5) (k + 1) v a2 = (v, a2) := by
              show (if dgF G (f 5) a2 = 1 then _ else _) = _
              rw [if_neg (by omega)]
            rw [e]
            exact EX.rf
          · refine aw_bipush dX9_number_46 (by decide) ?_
            refine aw_iload_n dX9_number_48 rfl ?_
            refine aw_imul dX9_number_49 ?_
            refine aw_aload_n dX9_number_50 rfl ?_
            refine aw_V0x dX9_number_51 clX9_180 ⟨by decide, by decide⟩ (c := 9) (N := 11) (by decide) (by decide +kernel) rfl (c_X9_here hHR hG hT ha (by omega)) (by decide) (by decide) rfl rfl (by simp only [List.length_cons, List.length_nil]; omega) ?_
            refine aw_iadd dX9_number_54 ?_
            refine aw_bipush dX9_number_55 (by decide) ?_
            refine aw_isub dX9_number_57 ?_
            refine aw_istore_n (ls2 := [_, _, _]) dX9_number_58 (by decide) rfl ?_
            refine aw_aload_n dX9_number_59 rfl ?_
            refine aw_dup dX9_number_60 ?_
            refine aw_getv dX9_number_61 ci9 (by decide) fX9_177 (by decide) (by decide +kernel) rfl (mt_7 _ _ _ _ _ _ _ _ _) ?_
            refine aw_iconst dX9_number_64 ?_
            refine aw_iadd dX9_number_65 ?_
            refine aw_putv dX9_number_66 ci9 (by decide) fX9_177 (by decide) (by decide +kernel) rfl rfl (Or.inl rfl) (mt_u7 _ _ _ _ _ _ _ _ _ _) ?_
            refine aw_iinc (ls2 := [_, _, _]) dX9_number_69 rfl (by decide) rfl ?_
            refine aw_goto (tgt := 27) dX9_number_72 (by decide) ?_
            have c2 : 48 ≤ hrF G (f 5) a2 ∧ hrF G (f 5) a2 ≤ 57 := by unfold dgF at h43; split at h43 <;> first | assumption | omega
            have e : nuA G (f 5) (k + 1) v a2 = nuA G (f 5) k (10 * v + hrF G (f 5) a2 - 48) (a2 + 1) := by
              show (if dgF G (f 5) a2 = 1 then _ else _) = _
              rw [if_pos (by omega)]
            rw [e]
            have e10 : (10 : Int) ^ (j + 1) = 10 * 10 ^ j := by rw [Int.pow_succ, Int.mul_comm]
            exact ih (j + 1) _ _ (by omega) (by omega) (by rw [e10]; generalize (10 : Int) ^ j = z at hv2 ⊢; omega) (by omega) (by omega)
  have hd0 := dg_b G (f 5) a
  refine aw_aload_n dX9_number_0 rfl ?_
  refine aw_aload_n dX9_number_1 rfl ?_
  refine aw_getv dX9_number_2 ci9 (by decide) fX9_183 (by decide) (by decide +kernel) rfl (mt_10 _ _ _ _ _ _ _ _ _) ?_
  refine aw_if_eq (tgt := 19) dX9_number_5 (by decide) ⟨by omega, by omega⟩ (fun h5 => ?_) (fun h5 => ?_)
  · refine aw_iconst dX9_number_19 ?_
    refine aw_putv dX9_number_20 ci9 (by decide) fX9_183 (by decide) (by decide +kernel) rfl rfl (Or.inr ⟨rfl, Or.inl rfl⟩) (mt_u10 _ _ _ _ _ _ _ _ _ _) ?_
    refine aw_iconst dX9_number_23 ?_
    refine aw_istore_n (ls2 := [_, _, _]) dX9_number_24 (by decide) rfl ?_
    refine aw_iconst dX9_number_25 ?_
    refine aw_istore_n (ls2 := [_, _, _]) dX9_number_26 (by decide) rfl ?_
    have e : nuF G (f 5) m a = (0, 0, a) := by unfold nuF; rw [if_neg (fun g => by omega)]
    rw [e]
    refine aw_iload_n dX9_number_27 rfl ?_
    refine aw_iconst dX9_number_28 ?_
    refine aw_ic_ge (tgt := 75) dX9_number_29 (by decide) ⟨by decide, by decide⟩ ⟨by decide, by decide⟩ (fun h29 => ?_) (fun h29 => ?_)
    · exact absurd h29 (by decide)
    · refine aw_aload_n dX9_number_32 rfl ?_
      refine aw_getv dX9_number_33 ci9 (by decide) fX9_183 (by decide) (by decide +kernel) rfl (mt_10 _ _ _ _ _ _ _ _ _) ?_
      refine aw_if_eq (tgt := 75) dX9_number_36 (by decide) ⟨by decide, by decide⟩ (fun h36 => ?_) (fun h36 => ?_)
      · refine aw_iload_n dX9_number_75 rfl ?_
        refine aw_iret dX9_number_76 rfl (by decide) (by decide) ?_
        exact EX.rf
      · exact absurd rfl h36
  · refine aw_aload_n dX9_number_8 rfl ?_
    refine aw_V0x dX9_number_9 clX9_187 ⟨by decide, by decide⟩ (c := 9) (N := 11) (by decide) (by decide +kernel) rfl (c_X9_isDigit hHR hG hT h0 (by omega)) (by decide) (by decide) rfl rfl (by simp only [List.length_cons, List.length_nil]; omega) ?_
    refine aw_if_eq (tgt := 19) dX9_number_12 (by decide) ⟨by omega, by omega⟩ (fun h12 => ?_) (fun h12 => ?_)
    · refine aw_iconst dX9_number_19 ?_
      refine aw_putv dX9_number_20 ci9 (by decide) fX9_183 (by decide) (by decide +kernel) rfl rfl (Or.inr ⟨rfl, Or.inl rfl⟩) (mt_u10 _ _ _ _ _ _ _ _ _ _) ?_
      refine aw_iconst dX9_number_23 ?_
      refine aw_istore_n (ls2 := [_, _, _]) dX9_number_24 (by decide) rfl ?_
      refine aw_iconst dX9_number_25 ?_
      refine aw_istore_n (ls2 := [_, _, _]) dX9_number_26 (by decide) rfl ?_
      have e : nuF G (f 5) m a = (0, 0, a) := by unfold nuF; rw [if_neg (fun g => by omega)]
      rw [e]
      refine aw_iload_n dX9_number_27 rfl ?_
      refine aw_iconst dX9_number_28 ?_
      refine aw_ic_ge (tgt := 75) dX9_number_29 (by decide) ⟨by decide, by decide⟩ ⟨by decide, by decide⟩ (fun h29 => ?_) (fun h29 => ?_)
      · exact absurd h29 (by decide)
      · refine aw_aload_n dX9_number_32 rfl ?_
        refine aw_getv dX9_number_33 ci9 (by decide) fX9_183 (by decide) (by decide +kernel) rfl (mt_10 _ _ _ _ _ _ _ _ _) ?_
        refine aw_if_eq (tgt := 75) dX9_number_36 (by decide) ⟨by decide, by decide⟩ (fun h36 => ?_) (fun h36 => ?_)
        · refine aw_iload_n dX9_number_75 rfl ?_
          refine aw_iret dX9_number_76 rfl (by decide) (by decide) ?_
          exact EX.rf
        · exact absurd rfl h36
    · refine aw_iconst dX9_number_15 ?_
      refine aw_goto (tgt := 20) dX9_number_16 (by decide) ?_
      refine aw_putv dX9_number_20 ci9 (by decide) fX9_183 (by decide) (by decide +kernel) rfl rfl (Or.inr ⟨rfl, Or.inr rfl⟩) (mt_u10 _ _ _ _ _ _ _ _ _ _) ?_
      refine aw_iconst dX9_number_23 ?_
      refine aw_istore_n (ls2 := [_, _, _]) dX9_number_24 (by decide) rfl ?_
      refine aw_iconst dX9_number_25 ?_
      refine aw_istore_n (ls2 := [_, _, _]) dX9_number_26 (by decide) rfl ?_
      have e : nuF G (f 5) m a = (1, nuA G (f 5) 3 0 a) := by unfold nuF; rw [if_pos ⟨by omega, by omega⟩]
      rw [e]
      exact loop 3 0 0 a (by omega) (by omega) (by decide) h0 (by omega)
set_option maxRecDepth 100000 in
set_option maxHeartbeats 4000000 in
theorem c_X9_called (hHR : HRk hr) (hM : MI s) {x v1 v2 : Int} (hx : x = 119 ∨ x = 117 ∨ x = 116 ∨ x = 120 ∨ x = 111 ∨ x = 115 ∨ x = 99 ∨ x = 101) (hv1 : InR v1) (hv2 : InR v2) : AMet E M_X9_called [aR 125, aI x, aI v1, aI v2] (mh X (ff f a d t m) p b s) hr 131 (PI (fun v h r2 n2 => r2 = hr ∧ n2 = 131 ∧ v = (caF s x v1 v2).1 ∧ ∃ w : Int → Int, h = (mh (pa 130 X w) (ff f a d t m) p b ((caF s x v1 v2).2)))) := by
  refine am_of (by decide +kernel) (Nat.le_of_ble_eq_true rfl) ?_
  refine aw_iload_n dX9_called_0 rfl ?_
  rcases hx with rfl | rfl | rfl | rfl | rfl | rfl | rfl | rfl
  · refine aw_tab (tgt := 104) (off := 103) dX9_called_1 ⟨by decide, by decide⟩ (by decide) (by decide) (by decide +kernel) (by decide) ?_
    refine aw_aload_n dX9_called_104 rfl ?_
    refine aw_iload_n dX9_called_105 rfl ?_
    refine aw_iload_n dX9_called_106 rfl ?_
    refine aw_iconst dX9_called_107 ?_
    refine aw_V3x dX9_called_108 clX9_134 ⟨by decide, by decide⟩ (c := 9) (N := 11) (by decide) (by decide +kernel) rfl (c_X9_asks hHR hM hv1 hv2 ⟨by decide, by decide⟩) (by decide) (by decide) rfl rfl (by simp only [List.length_cons, List.length_nil]; omega) ?_
    refine aw_iret dX9_called_111 rfl (by decide) (by decide) ?_
    have e : caF s 119 v1 v2 = asF s v1 v2 0 := rfl
    rw [e]
    exact ⟨_, rfl, rfl, rfl, rfl, fun k => X 130 k.toNat, by rw [pa_self]⟩
  · refine aw_tab (tgt := 112) (off := 111) dX9_called_1 ⟨by decide, by decide⟩ (by decide) (by decide) (by decide +kernel) (by decide) ?_
    refine aw_aload_n dX9_called_112 rfl ?_
    refine aw_iload_n dX9_called_113 rfl ?_
    refine aw_iload_n dX9_called_114 rfl ?_
    refine aw_iconst dX9_called_115 ?_
    refine aw_V3x dX9_called_116 clX9_134 ⟨by decide, by decide⟩ (c := 9) (N := 11) (by decide) (by decide +kernel) rfl (c_X9_asks hHR hM hv1 hv2 ⟨by decide, by decide⟩) (by decide) (by decide) rfl rfl (by simp only [List.length_cons, List.length_nil]; omega) ?_
    refine aw_iret dX9_called_119 rfl (by decide) (by decide) ?_
    have e : caF s 117 v1 v2 = asF s v1 v2 1 := rfl
    rw [e]
    exact ⟨_, rfl, rfl, rfl, rfl, fun k => X 130 k.toNat, by rw [pa_self]⟩
  · refine aw_tab (tgt := 120) (off := 119) dX9_called_1 ⟨by decide, by decide⟩ (by decide) (by decide) (by decide +kernel) (by decide) ?_
    refine aw_aload_n dX9_called_120 rfl ?_
    refine aw_iload_n dX9_called_121 rfl ?_
    refine aw_V1x dX9_called_122 clX9_141 ⟨by decide, by decide⟩ (c := 9) (N := 11) (by decide) (by decide +kernel) rfl (c_X9_lets hHR hM hv1) (by decide) (by decide) rfl rfl (by simp only [List.length_cons, List.length_nil]; omega) ?_
    refine aw_iret dX9_called_125 rfl (by decide) (by decide) ?_
    have e : caF s 116 v1 v2 = ltF s v1 := rfl
    rw [e]
    exact ⟨_, rfl, rfl, rfl, rfl, fun k => X 130 k.toNat, by rw [pa_self]⟩
  · refine aw_tab (tgt := 126) (off := 125) dX9_called_1 ⟨by decide, by decide⟩ (by decide) (by decide) (by decide +kernel) (by decide) ?_
    refine aw_aload_n dX9_called_126 rfl ?_
    refine aw_V0i dX9_called_127 clX9_144 ⟨by decide, by decide⟩ (c := 9) (N := 11) (by decide) (by decide +kernel) rfl (c_X9_turnsOff hHR hM) (by decide) (by decide) rfl rfl (by simp only [List.length_cons, List.length_nil]; omega) (fun v h2 r2 n2 q => ?_)
    obtain ⟨rfl, rfl, rfl, w, rfl⟩ := q
    rw [mh_130]
    refine aw_iret dX9_called_130 rfl (by decide) (by decide) ?_
    have e : caF s 120 v1 v2 = ofF s := rfl
    rw [e]
    exact ⟨_, rfl, rfl, rfl, rfl, w, rfl⟩
  · refine aw_tab (tgt := 131) (off := 130) dX9_called_1 ⟨by decide, by decide⟩ (by decide) (by decide) (by decide +kernel) (by decide) ?_
    refine aw_aload_n dX9_called_131 rfl ?_
    refine aw_V0x dX9_called_132 clX9_147 ⟨by decide, by decide⟩ (c := 9) (N := 11) (by decide) (by decide +kernel) rfl (c_X9_turnsOn hHR hM) (by decide) (by decide) rfl rfl (by simp only [List.length_cons, List.length_nil]; omega) ?_
    refine aw_iret dX9_called_135 rfl (by decide) (by decide) ?_
    have e : caF s 111 v1 v2 = opF s := rfl
    rw [e]
    exact ⟨_, rfl, rfl, rfl, rfl, fun k => X 130 k.toNat, by rw [pa_self]⟩
  · refine aw_tab (tgt := 136) (off := 135) dX9_called_1 ⟨by decide, by decide⟩ (by decide) (by decide) (by decide +kernel) (by decide) ?_
    refine aw_aload_n dX9_called_136 rfl ?_
    refine aw_V0x dX9_called_137 clX9_150 ⟨by decide, by decide⟩ (c := 9) (N := 11) (by decide) (by decide +kernel) rfl (c_X9_changes hHR hM) (by decide) (by decide) rfl rfl (by simp only [List.length_cons, List.length_nil]; omega) ?_
    refine aw_iret dX9_called_140 rfl (by decide) (by decide) ?_
    have e : caF s 115 v1 v2 = chF s := rfl
    rw [e]
    exact ⟨_, rfl, rfl, rfl, rfl, fun k => X 130 k.toNat, by rw [pa_self]⟩
  · refine aw_tab (tgt := 141) (off := 140) dX9_called_1 ⟨by decide, by decide⟩ (by decide) (by decide) (by decide +kernel) (by decide) ?_
    refine aw_aload_n dX9_called_141 rfl ?_
    refine aw_iload_n dX9_called_142 rfl ?_
    refine aw_V1x dX9_called_143 clX9_153 ⟨by decide, by decide⟩ (c := 9) (N := 11) (by decide) (by decide +kernel) rfl (c_X9_cleans hHR hM hv1) (by decide) (by decide) rfl rfl (by simp only [List.length_cons, List.length_nil]; omega) ?_
    refine aw_iret dX9_called_146 rfl (by decide) (by decide) ?_
    have e : caF s 99 v1 v2 = clF s v1 := rfl
    rw [e]
    exact ⟨_, rfl, rfl, rfl, rfl, fun k => X 130 k.toNat, by rw [pa_self]⟩
  · refine aw_tab (tgt := 147) (off := 146) dX9_called_1 ⟨by decide, by decide⟩ (by decide) (by decide) (by decide +kernel) (by decide) ?_
    refine aw_aload_n dX9_called_147 rfl ?_
    refine aw_iload_n dX9_called_148 rfl ?_
    refine aw_V1x dX9_called_149 clX9_156 ⟨by decide, by decide⟩ (c := 9) (N := 11) (by decide) (by decide +kernel) rfl (c_X9_erases hHR hM hv1) (by decide) (by decide) rfl rfl (by simp only [List.length_cons, List.length_nil]; omega) ?_
    refine aw_iret dX9_called_152 rfl (by decide) (by decide) ?_
    have e : caF s 101 v1 v2 = erF s v1 := rfl
    rw [e]
    exact ⟨_, rfl, rfl, rfl, rfl, fun k => X 130 k.toNat, by rw [pa_self]⟩
end TWIN8
