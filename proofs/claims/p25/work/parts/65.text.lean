/-! the class's text -/
def sgF (G : Int → Int) (len a : Int) : Int := if a < len then G a else 0
def rnF (G : Int → Int) (len a : Int) : Int := if dgF G len a = 1 then (nuA G len 3 0 a).1 else -1
def nbF (x : Int) : Int := if h2F x = 1 then 2 else if h1F x = 1 then 1 else if x = 120 ∨ x = 111 ∨ x = 115 then 0 else -1
theorem sg_b {G : Int → Int} {len a : Int} (h : TX G len) (h0 : 0 ≤ a) : 0 ≤ sgF G len a ∧ sgF G len a ≤ 126 := by
  unfold sgF
  split
  · have := h.2.2 a h0 (by assumption); omega
  · omega
theorem sg_dg {G : Int → Int} {len a : Int} : (48 ≤ sgF G len a ∧ sgF G len a ≤ 57) ↔ dgF G len a = 1 := by
  unfold dgF hrF sgF
  by_cases c : a < len
  · rw [if_pos c, if_pos c]
    by_cases d : 48 ≤ G a ∧ G a ≤ 57
    · rw [if_pos d]; exact ⟨fun _ => rfl, fun _ => d⟩
    · rw [if_neg d]; exact ⟨fun g => absurd g d, fun g => absurd g (by decide)⟩
  · rw [if_neg c, if_neg c, if_neg (by omega)]; exact ⟨fun g => absurd g (by omega), fun g => absurd g (by decide)⟩
theorem sg_x {G : Int → Int} {len a x : Int} (h0 : ¬ x = 0) (h1 : ¬ x = -1) : sgF G len a = x ↔ hrF G len a = x := by
  unfold hrF sgF
  by_cases c : a < len
  · rw [if_pos c, if_pos c]
  · rw [if_neg c, if_neg c]; omega
theorem dg_hr {G : Int → Int} {len a : Int} (h : dgF G len a = 1) : hrF G len a = sgF G len a := by
  unfold dgF hrF at h
  unfold hrF sgF
  by_cases c : a < len
  · rw [if_pos c, if_pos c]
  · rw [if_neg c, if_neg (by omega)] at h; exact absurd h (by decide)
theorem nuA_s (G : Int → Int) (len : Int) (k : Nat) (v a : Int) : nuA G len (k + 1) v a = if dgF G len a = 1 then nuA G len k (10 * v + hrF G len a - 48) (a + 1) else (v, a) := rfl
section TEXT
variable {E : ET} {hi X : HI} {hr : HR} {f G : Int → Int}
set_option maxRecDepth 100000 in
set_option maxHeartbeats 4000000 in
theorem c_X6_length (hHR : HRk hr) : AMet E M_X6_length [aR 122] hi hr 125 (EX (some (aI (hi 122 1))) hi hr 125) := by
  refine am_of (by decide +kernel) (Nat.le_of_ble_eq_true rfl) ?_
  refine aw_aload_n dX6_length_0 rfl ?_
  refine aw_getv dX6_length_1 ci6 (by decide) fX6_15 (by decide) (by decide +kernel) rfl rfl ?_
  refine aw_iret dX6_length_4 rfl (by decide) (by decide) ?_
  exact EX.rf
set_option maxRecDepth 100000 in
set_option maxHeartbeats 4000000 in
theorem c_X8_putAt123 {i v : Int} (h0 : 0 ≤ i) (h1 : i < 60) : AMet E M_X8_putAt [aR 123, aI i, aI v] hi hr 125 (EX none (up2 hi 123 i.toNat v) hr 125) := by
  refine am_of (by decide +kernel) (Nat.le_of_ble_eq_true rfl) ?_
  refine aw_iload_n dX8_putAt_0 rfl ?_
  refine aw_if_lt (tgt := 14) dX8_putAt_1 (by decide) ⟨by omega, by omega⟩ (fun h1 => ?_) (fun h1 => ?_)
  · exact absurd h1 (by omega)
  · refine aw_iload_n dX8_putAt_4 rfl ?_
    refine aw_aload_n dX8_putAt_5 rfl ?_
    refine aw_alen (N := 60) dX8_putAt_6 (Or.inl ⟨(by decide), (by decide +kernel)⟩) ?_
    refine aw_ic_ge (tgt := 14) dX8_putAt_7 (by decide) ⟨by omega, by omega⟩ ⟨by decide, by decide⟩ (fun h7 => ?_) (fun h7 => ?_)
    · exact absurd h7 (by omega)
    · refine aw_aload_n dX8_putAt_10 rfl ?_
      refine aw_iload_n dX8_putAt_11 rfl ?_
      refine aw_iload_n dX8_putAt_12 rfl ?_
      refine aw_iast (N := 60) dX8_putAt_13 (by decide) (by decide +kernel) (by omega) (by omega) (by decide) rfl ?_
      refine aw_vret dX8_putAt_14 rfl (by decide) (by decide) ?_
      exact EX.rf
set_option maxRecDepth 100000 in
set_option maxHeartbeats 4000000 in
theorem c_X6_append {c : Int} (hHR : HRk hr) (hc : InR c) (h0 : 0 ≤ hi 122 1) (h1 : hi 122 1 ≤ 60) : AMet E M_X6_append [aR 122, aI c] hi hr 125 (PI (fun v h r2 n2 => r2 = hr ∧ n2 = 125 ∧ v = tyF (hi 122 1) c ∧ (v < 0 → h = hi) ∧ (0 ≤ v → h = up2 (up2 hi 123 (hi 122 1).toNat c) 122 1 (hi 122 1 + 1)))) := by
  refine am_of (by decide +kernel) (Nat.le_of_ble_eq_true rfl) ?_
  refine aw_iload_n dX6_append_0 rfl ?_
  refine aw_bipush dX6_append_1 (by decide) ?_
  refine aw_bipush dX6_append_3 (by decide) ?_
  refine aw_S3x dX6_append_5 clX6_19 ⟨by decide, by decide⟩ (c_X8_isIn hc ⟨by decide, by decide⟩ ⟨by decide, by decide⟩) (by decide) (by decide) rfl rfl (by simp only [List.length_cons, List.length_nil]; omega) ?_
  refine aw_if_ne (tgt := 13) dX6_append_8 (by decide) in_r (fun h8 => ?_) (fun h8 => ?_)
  · refine aw_aload_n dX6_append_13 rfl ?_
    refine aw_getv dX6_append_14 ci6 (by decide) fX6_15 (by decide) (by decide +kernel) rfl rfl ?_
    refine aw_bipush dX6_append_17 (by decide) ?_
    refine aw_ic_lt (tgt := 25) dX6_append_19 (by decide) ⟨by omega, by omega⟩ ⟨by decide, by decide⟩ (fun h19 => ?_) (fun h19 => ?_)
    · refine aw_aload_n dX6_append_25 rfl ?_
      refine aw_getr (x := 123) dX6_append_26 ci6 (by decide) fX6_9 (by decide) (by decide +kernel) rfl ((hHR 122 0 (by decide) (by decide +kernel)).trans rfl) ?_
      refine aw_aload_n dX6_append_29 rfl ?_
      refine aw_getv dX6_append_30 ci6 (by decide) fX6_15 (by decide) (by decide +kernel) rfl rfl ?_
      refine aw_iload_n dX6_append_33 rfl ?_
      refine aw_S3v dX6_append_34 clX6_23 ⟨by decide, by decide⟩ (c_X8_putAt123 h0 (by omega)) (by decide) (by decide) rfl rfl (by simp only [List.length_cons, List.length_nil]; omega) ?_
      refine aw_aload_n dX6_append_37 rfl ?_
      refine aw_dup dX6_append_38 ?_
      refine aw_getv dX6_append_39 ci6 (by decide) fX6_15 (by decide) (by decide +kernel) rfl (rfl.trans (up2_ne _ _ _ (by decide) _)) ?_
      refine aw_iconst dX6_append_42 ?_
      refine aw_iadd dX6_append_43 ?_
      refine aw_putv dX6_append_44 ci6 (by decide) fX6_15 (by decide) (by decide +kernel) rfl rfl (Or.inl rfl) rfl ?_
      refine aw_aload_n dX6_append_47 rfl ?_
      refine aw_getv dX6_append_48 ci6 (by decide) fX6_15 (by decide) (by decide +kernel) rfl (rfl.trans (up2_self _ _ _ _)) ?_
      refine aw_iret dX6_append_51 rfl (by decide) (by decide) ?_
      have e : tyF (hi 122 1) c = hi 122 1 + 1 := by unfold tyF; rw [if_neg (fun g => h8 (in0.mpr g)), if_neg (by omega)]
      rw [e]
      exact ⟨_, rfl, rfl, rfl, rfl, fun g => absurd g (by omega), fun _ => rfl⟩
    · refine aw_bipush dX6_append_22 (by decide) ?_
      refine aw_iret dX6_append_24 rfl (by decide) (by decide) ?_
      have e : tyF (hi 122 1) c = -3 := by unfold tyF; rw [if_neg (fun g => h8 (in0.mpr g)), if_pos (by omega)]
      rw [e]
      exact ⟨_, rfl, rfl, rfl, rfl, fun _ => rfl, fun g => absurd g (by decide)⟩
  · refine aw_iconst dX6_append_11 ?_
    refine aw_iret dX6_append_12 rfl (by decide) (by decide) ?_
    rw [in0] at h8
    have e : tyF (hi 122 1) c = -1 := by unfold tyF; rw [if_pos h8]
    rw [e]
    exact ⟨_, rfl, rfl, rfl, rfl, fun _ => rfl, fun g => absurd g (by decide)⟩
set_option maxRecDepth 100000 in
set_option maxHeartbeats 4000000 in
theorem c_X6_makeEmpty (hHR : HRk hr) : AMet E M_X6_makeEmpty [aR 122] hi hr 125 (EX (some (aI (hi 122 1))) (up2 hi 122 1 0) hr 125) := by
  refine am_of (by decide +kernel) (Nat.le_of_ble_eq_true rfl) ?_
  refine aw_aload_n dX6_makeEmpty_0 rfl ?_
  refine aw_getv dX6_makeEmpty_1 ci6 (by decide) fX6_15 (by decide) (by decide +kernel) rfl rfl ?_
  refine aw_istore_n (ls2 := [_, _]) dX6_makeEmpty_4 (by decide) rfl ?_
  refine aw_aload_n dX6_makeEmpty_5 rfl ?_
  refine aw_iconst dX6_makeEmpty_6 ?_
  refine aw_putv dX6_makeEmpty_7 ci6 (by decide) fX6_15 (by decide) (by decide +kernel) rfl rfl (Or.inl rfl) rfl ?_
  refine aw_iload_n dX6_makeEmpty_10 rfl ?_
  refine aw_iret dX6_makeEmpty_11 rfl (by decide) (by decide) ?_
  exact EX.rf
set_option maxRecDepth 100000 in
set_option maxHeartbeats 4000000 in
theorem c_X6_rewind (hHR : HRk hr) : AMet E M_X6_rewind [aR 122] (pa 122 X f) hr 125 (EX none (pa 122 X (up1 f 2 0)) hr 125) := by
  refine am_of (by decide +kernel) (Nat.le_of_ble_eq_true rfl) ?_
  refine aw_aload_n dX6_rewind_0 rfl ?_
  refine aw_iconst dX6_rewind_1 ?_
  refine aw_putv dX6_rewind_2 ci6 (by decide) fX6_27 (by decide) (by decide +kernel) rfl rfl (Or.inl rfl) (pa_uk 122 _ _ 2 2 _ rfl) ?_
  refine aw_vret dX6_rewind_5 rfl (by decide) (by decide) ?_
  exact EX.rf
set_option maxRecDepth 100000 in
set_option maxHeartbeats 4000000 in
theorem c_X6_hasMore (hHR : HRk hr) (h0 : InR (f 2)) (h1 : InR (f 1)) : AMet E M_X6_hasMore [aR 122] (pa 122 X f) hr 125 (EX (some (aI (if f 2 < f 1 then 1 else 0))) (pa 122 X f) hr 125) := by
  refine am_of (by decide +kernel) (Nat.le_of_ble_eq_true rfl) ?_
  refine aw_aload_n dX6_hasMore_0 rfl ?_
  refine aw_getv dX6_hasMore_1 ci6 (by decide) fX6_27 (by decide) (by decide +kernel) rfl (pa_gk 122 _ _ 2 2 rfl) ?_
  refine aw_aload_n dX6_hasMore_4 rfl ?_
  refine aw_getv dX6_hasMore_5 ci6 (by decide) fX6_15 (by decide) (by decide +kernel) rfl (pa_gk 122 _ _ 1 1 rfl) ?_
  refine aw_ic_ge (tgt := 15) dX6_hasMore_8 (by decide) h0 h1 (fun h8 => ?_) (fun h8 => ?_)
  · refine aw_iconst dX6_hasMore_15 ?_
    refine aw_zret dX6_hasMore_16 rfl (Or.inl rfl) (by decide) (by decide) ?_
    exact exI (by rw [if_neg (by omega)])
  · refine aw_iconst dX6_hasMore_11 ?_
    refine aw_goto (tgt := 16) dX6_hasMore_12 (by decide) ?_
    refine aw_zret dX6_hasMore_16 rfl (Or.inr rfl) (by decide) (by decide) ?_
    exact exI (by rw [if_pos (by omega)])
set_option maxRecDepth 100000 in
set_option maxHeartbeats 4000000 in
theorem c_X6_sign (hHR : HRk hr) (hG : ∀ j : Nat, (j : Int) < f 1 → X 123 j = G (j : Int)) (hT : TX G (f 1)) (h0 : 0 ≤ f 2) (h1 : f 2 ≤ 1000) : AMet E M_X6_sign [aR 122] (pa 122 X f) hr 125 (EX (some (aI (sgF G (f 1) (f 2)))) (pa 122 X f) hr 125) := by
  refine am_of (by decide +kernel) (Nat.le_of_ble_eq_true rfl) ?_
  have hl0 := hT.1
  have hl1 := hT.2.1
  refine aw_aload_n dX6_sign_0 rfl ?_
  refine aw_getv dX6_sign_1 ci6 (by decide) fX6_27 (by decide) (by decide +kernel) rfl (pa_gk 122 _ _ 2 2 rfl) ?_
  refine aw_aload_n dX6_sign_4 rfl ?_
  refine aw_getv dX6_sign_5 ci6 (by decide) fX6_15 (by decide) (by decide +kernel) rfl (pa_gk 122 _ _ 1 1 rfl) ?_
  refine aw_ic_ge (tgt := 25) dX6_sign_8 (by decide) ⟨by omega, by omega⟩ ⟨by omega, by omega⟩ (fun h8 => ?_) (fun h8 => ?_)
  · refine aw_iconst dX6_sign_25 ?_
    refine aw_iret dX6_sign_26 rfl (by decide) (by decide) ?_
    exact exI (by unfold sgF; rw [if_neg (by omega)])
  · refine aw_aload_n dX6_sign_11 rfl ?_
    refine aw_getr (x := 123) dX6_sign_12 ci6 (by decide) fX6_9 (by decide) (by decide +kernel) rfl ((hHR 122 0 (by decide) (by decide +kernel)).trans rfl) ?_
    refine aw_aload_n dX6_sign_15 rfl ?_
    refine aw_getv dX6_sign_16 ci6 (by decide) fX6_27 (by decide) (by decide +kernel) rfl (pa_gk 122 _ _ 2 2 rfl) ?_
    refine aw_S2x dX6_sign_19 clX6_54 ⟨by decide, by decide⟩ (by have g := c_X8_valueAt (E := E) (hi := pa 122 X f) (hr := hr) (a := 123) (N := 60) (i := f 2) (Or.inl ⟨by decide, by decide +kernel⟩) (by decide) ⟨by omega, by omega⟩; rw [if_pos ⟨by omega, by omega⟩, pa_gn _ _ _ (by decide), hG _ (by omega), Int.toNat_of_nonneg h0] at g; exact g) (by decide) (by decide) rfl rfl (by simp only [List.length_cons, List.length_nil]; omega) ?_
    refine aw_goto (tgt := 26) dX6_sign_22 (by decide) ?_
    refine aw_iret dX6_sign_26 rfl (by decide) (by decide) ?_
    exact exI (by unfold sgF; rw [if_pos (by omega)])
set_option maxRecDepth 100000 in
set_option maxHeartbeats 4000000 in
theorem c_X6_readSign (hHR : HRk hr) (hG : ∀ j : Nat, (j : Int) < f 1 → X 123 j = G (j : Int)) (hT : TX G (f 1)) (h0 : 0 ≤ f 2) (h1 : f 2 ≤ 1000) {x : Int} (hx : InR x) : AMet E M_X6_readSign [aR 122, aI x] (pa 122 X f) hr 125 (EX (some (aI (if sgF G (f 1) (f 2) = x then 1 else 0))) (pa 122 X (up1 f 2 (f 2 + 1))) hr 125) := by
  refine am_of (by decide +kernel) (Nat.le_of_ble_eq_true rfl) ?_
  have hl0 := hT.1
  have hl1 := hT.2.1
  have hs := sg_b hT h0
  refine aw_aload_n dX6_readSign_0 rfl ?_
  refine aw_V0x dX6_readSign_1 clX6_30 ⟨by decide, by decide⟩ (c := 6) (N := 6) (by decide) (by decide +kernel) rfl (c_X6_sign hHR hG hT h0 h1) (by decide) (by decide) rfl rfl (by simp only [List.length_cons, List.length_nil]; omega) ?_
  refine aw_iload_n dX6_readSign_4 rfl ?_
  refine aw_ic_ne (tgt := 12) dX6_readSign_5 (by decide) ⟨by omega, by omega⟩ hx (fun h5 => ?_) (fun h5 => ?_)
  · refine aw_iconst dX6_readSign_12 ?_
    refine aw_istore_n (ls2 := [_, _, _]) dX6_readSign_13 (by decide) rfl ?_
    refine aw_aload_n dX6_readSign_14 rfl ?_
    refine aw_dup dX6_readSign_15 ?_
    refine aw_getv dX6_readSign_16 ci6 (by decide) fX6_27 (by decide) (by decide +kernel) rfl (pa_gk 122 _ _ 2 2 rfl) ?_
    refine aw_iconst dX6_readSign_19 ?_
    refine aw_iadd dX6_readSign_20 ?_
    refine aw_putv dX6_readSign_21 ci6 (by decide) fX6_27 (by decide) (by decide +kernel) rfl rfl (Or.inl rfl) (pa_uk 122 _ _ 2 2 _ rfl) ?_
    refine aw_iload_n dX6_readSign_24 rfl ?_
    refine aw_zret dX6_readSign_25 rfl (Or.inl rfl) (by decide) (by decide) ?_
    have e : (if sgF G (f 1) (f 2) = x then (1 : Int) else 0) = 0 := by rw [if_neg (by omega)]
    rw [e]
    exact EX.rf
  · refine aw_iconst dX6_readSign_8 ?_
    refine aw_goto (tgt := 13) dX6_readSign_9 (by decide) ?_
    refine aw_istore_n (ls2 := [_, _, _]) dX6_readSign_13 (by decide) rfl ?_
    refine aw_aload_n dX6_readSign_14 rfl ?_
    refine aw_dup dX6_readSign_15 ?_
    refine aw_getv dX6_readSign_16 ci6 (by decide) fX6_27 (by decide) (by decide +kernel) rfl (pa_gk 122 _ _ 2 2 rfl) ?_
    refine aw_iconst dX6_readSign_19 ?_
    refine aw_iadd dX6_readSign_20 ?_
    refine aw_putv dX6_readSign_21 ci6 (by decide) fX6_27 (by decide) (by decide +kernel) rfl rfl (Or.inl rfl) (pa_uk 122 _ _ 2 2 _ rfl) ?_
    refine aw_iload_n dX6_readSign_24 rfl ?_
    refine aw_zret dX6_readSign_25 rfl (Or.inr rfl) (by decide) (by decide) ?_
    have e : (if sgF G (f 1) (f 2) = x then (1 : Int) else 0) = 1 := by rw [if_pos (by omega)]
    rw [e]
    exact EX.rf
set_option maxRecDepth 100000 in
set_option maxHeartbeats 4000000 in
theorem c_X6_numbersOf {x : Int} (hx : InR x) : AMet E M_X6_numbersOf [aI x] hi hr 125 (EX (some (aI (nbF x))) hi hr 125) := by
  refine am_of (by decide +kernel) (Nat.le_of_ble_eq_true rfl) ?_
  refine aw_iload_n dX6_numbersOf_0 rfl ?_
  by_cases hd : 99 ≤ x ∧ x ≤ 120
  · rcases (show x = 99 ∨ x = 100 ∨ x = 101 ∨ x = 102 ∨ x = 103 ∨ x = 104 ∨ x = 105 ∨ x = 106 ∨ x = 107 ∨ x = 108 ∨ x = 109 ∨ x = 110 ∨ x = 111 ∨ x = 112 ∨ x = 113 ∨ x = 114 ∨ x = 115 ∨ x = 116 ∨ x = 117 ∨ x = 118 ∨ x = 119 ∨ x = 120 by omega) with rfl | rfl | rfl | rfl | rfl | rfl | rfl | rfl | rfl | rfl | rfl | rfl | rfl | rfl | rfl | rfl | rfl | rfl | rfl | rfl | rfl | rfl
    · refine aw_tab (tgt := 106) (off := 105) dX6_numbersOf_1 ⟨by decide, by decide⟩ (by decide) (by decide) (by decide +kernel) (by decide) ?_
      refine aw_iconst dX6_numbersOf_106 ?_
      refine aw_iret dX6_numbersOf_107 rfl (by decide) (by decide) ?_
      exact EX.rf
    · refine aw_tab (tgt := 110) (off := 109) dX6_numbersOf_1 ⟨by decide, by decide⟩ (by decide) (by decide) (by decide +kernel) (by decide) ?_
      refine aw_iconst dX6_numbersOf_110 ?_
      refine aw_iret dX6_numbersOf_111 rfl (by decide) (by decide) ?_
      exact EX.rf
    · refine aw_tab (tgt := 106) (off := 105) dX6_numbersOf_1 ⟨by decide, by decide⟩ (by decide) (by decide) (by decide +kernel) (by decide) ?_
      refine aw_iconst dX6_numbersOf_106 ?_
      refine aw_iret dX6_numbersOf_107 rfl (by decide) (by decide) ?_
      exact EX.rf
    · refine aw_tab (tgt := 110) (off := 109) dX6_numbersOf_1 ⟨by decide, by decide⟩ (by decide) (by decide) (by decide +kernel) (by decide) ?_
      refine aw_iconst dX6_numbersOf_110 ?_
      refine aw_iret dX6_numbersOf_111 rfl (by decide) (by decide) ?_
      exact EX.rf
    · refine aw_tab (tgt := 110) (off := 109) dX6_numbersOf_1 ⟨by decide, by decide⟩ (by decide) (by decide) (by decide +kernel) (by decide) ?_
      refine aw_iconst dX6_numbersOf_110 ?_
      refine aw_iret dX6_numbersOf_111 rfl (by decide) (by decide) ?_
      exact EX.rf
    · refine aw_tab (tgt := 110) (off := 109) dX6_numbersOf_1 ⟨by decide, by decide⟩ (by decide) (by decide) (by decide +kernel) (by decide) ?_
      refine aw_iconst dX6_numbersOf_110 ?_
      refine aw_iret dX6_numbersOf_111 rfl (by decide) (by decide) ?_
      exact EX.rf
    · refine aw_tab (tgt := 110) (off := 109) dX6_numbersOf_1 ⟨by decide, by decide⟩ (by decide) (by decide) (by decide +kernel) (by decide) ?_
      refine aw_iconst dX6_numbersOf_110 ?_
      refine aw_iret dX6_numbersOf_111 rfl (by decide) (by decide) ?_
      exact EX.rf
    · refine aw_tab (tgt := 110) (off := 109) dX6_numbersOf_1 ⟨by decide, by decide⟩ (by decide) (by decide) (by decide +kernel) (by decide) ?_
      refine aw_iconst dX6_numbersOf_110 ?_
      refine aw_iret dX6_numbersOf_111 rfl (by decide) (by decide) ?_
      exact EX.rf
    · refine aw_tab (tgt := 110) (off := 109) dX6_numbersOf_1 ⟨by decide, by decide⟩ (by decide) (by decide) (by decide +kernel) (by decide) ?_
      refine aw_iconst dX6_numbersOf_110 ?_
      refine aw_iret dX6_numbersOf_111 rfl (by decide) (by decide) ?_
      exact EX.rf
    · refine aw_tab (tgt := 110) (off := 109) dX6_numbersOf_1 ⟨by decide, by decide⟩ (by decide) (by decide) (by decide +kernel) (by decide) ?_
      refine aw_iconst dX6_numbersOf_110 ?_
      refine aw_iret dX6_numbersOf_111 rfl (by decide) (by decide) ?_
      exact EX.rf
    · refine aw_tab (tgt := 110) (off := 109) dX6_numbersOf_1 ⟨by decide, by decide⟩ (by decide) (by decide) (by decide +kernel) (by decide) ?_
      refine aw_iconst dX6_numbersOf_110 ?_
      refine aw_iret dX6_numbersOf_111 rfl (by decide) (by decide) ?_
      exact EX.rf
    · refine aw_tab (tgt := 110) (off := 109) dX6_numbersOf_1 ⟨by decide, by decide⟩ (by decide) (by decide) (by decide +kernel) (by decide) ?_
      refine aw_iconst dX6_numbersOf_110 ?_
      refine aw_iret dX6_numbersOf_111 rfl (by decide) (by decide) ?_
      exact EX.rf
    · refine aw_tab (tgt := 108) (off := 107) dX6_numbersOf_1 ⟨by decide, by decide⟩ (by decide) (by decide) (by decide +kernel) (by decide) ?_
      refine aw_iconst dX6_numbersOf_108 ?_
      refine aw_iret dX6_numbersOf_109 rfl (by decide) (by decide) ?_
      exact EX.rf
    · refine aw_tab (tgt := 110) (off := 109) dX6_numbersOf_1 ⟨by decide, by decide⟩ (by decide) (by decide) (by decide +kernel) (by decide) ?_
      refine aw_iconst dX6_numbersOf_110 ?_
      refine aw_iret dX6_numbersOf_111 rfl (by decide) (by decide) ?_
      exact EX.rf
    · refine aw_tab (tgt := 110) (off := 109) dX6_numbersOf_1 ⟨by decide, by decide⟩ (by decide) (by decide) (by decide +kernel) (by decide) ?_
      refine aw_iconst dX6_numbersOf_110 ?_
      refine aw_iret dX6_numbersOf_111 rfl (by decide) (by decide) ?_
      exact EX.rf
    · refine aw_tab (tgt := 110) (off := 109) dX6_numbersOf_1 ⟨by decide, by decide⟩ (by decide) (by decide) (by decide +kernel) (by decide) ?_
      refine aw_iconst dX6_numbersOf_110 ?_
      refine aw_iret dX6_numbersOf_111 rfl (by decide) (by decide) ?_
      exact EX.rf
    · refine aw_tab (tgt := 108) (off := 107) dX6_numbersOf_1 ⟨by decide, by decide⟩ (by decide) (by decide) (by decide +kernel) (by decide) ?_
      refine aw_iconst dX6_numbersOf_108 ?_
      refine aw_iret dX6_numbersOf_109 rfl (by decide) (by decide) ?_
      exact EX.rf
    · refine aw_tab (tgt := 106) (off := 105) dX6_numbersOf_1 ⟨by decide, by decide⟩ (by decide) (by decide) (by decide +kernel) (by decide) ?_
      refine aw_iconst dX6_numbersOf_106 ?_
      refine aw_iret dX6_numbersOf_107 rfl (by decide) (by decide) ?_
      exact EX.rf
    · refine aw_tab (tgt := 104) (off := 103) dX6_numbersOf_1 ⟨by decide, by decide⟩ (by decide) (by decide) (by decide +kernel) (by decide) ?_
      refine aw_iconst dX6_numbersOf_104 ?_
      refine aw_iret dX6_numbersOf_105 rfl (by decide) (by decide) ?_
      exact EX.rf
    · refine aw_tab (tgt := 110) (off := 109) dX6_numbersOf_1 ⟨by decide, by decide⟩ (by decide) (by decide) (by decide +kernel) (by decide) ?_
      refine aw_iconst dX6_numbersOf_110 ?_
      refine aw_iret dX6_numbersOf_111 rfl (by decide) (by decide) ?_
      exact EX.rf
    · refine aw_tab (tgt := 104) (off := 103) dX6_numbersOf_1 ⟨by decide, by decide⟩ (by decide) (by decide) (by decide +kernel) (by decide) ?_
      refine aw_iconst dX6_numbersOf_104 ?_
      refine aw_iret dX6_numbersOf_105 rfl (by decide) (by decide) ?_
      exact EX.rf
    · refine aw_tab (tgt := 108) (off := 107) dX6_numbersOf_1 ⟨by decide, by decide⟩ (by decide) (by decide) (by decide +kernel) (by decide) ?_
      refine aw_iconst dX6_numbersOf_108 ?_
      refine aw_iret dX6_numbersOf_109 rfl (by decide) (by decide) ?_
      exact EX.rf
  · refine aw_tabD (tgt := 110) dX6_numbersOf_1 hx (by omega) (by decide) ?_
    refine aw_iconst dX6_numbersOf_110 ?_
    refine aw_iret dX6_numbersOf_111 rfl (by decide) (by decide) ?_
    exact exI (by unfold nbF h2F h1F; rw [if_neg (by rw [if_neg (by omega)]; decide), if_neg (by rw [if_neg (by omega)]; decide), if_neg (by omega)])
set_option maxRecDepth 100000 in
set_option maxHeartbeats 4000000 in
theorem c_X6_readNumber (hHR : HRk hr) (hG : ∀ j : Nat, (j : Int) < f 1 → X 123 j = G (j : Int)) (hT : TX G (f 1)) (h0 : 0 ≤ f 2) (h1 : f 2 ≤ 990) : AMet E M_X6_readNumber [aR 122] (pa 122 X f) hr 125 (PI (fun z h r2 n2 => r2 = hr ∧ n2 = 125 ∧ z = rnF G (f 1) (f 2) ∧ ∃ f2 : Int → Int, h = pa 122 X f2 ∧ (∀ k : Int, ¬ k = 2 → f2 k = f k) ∧ f2 2 = (nuA G (f 1) 3 0 (f 2)).2)) := by
  refine am_of (by decide +kernel) (Nat.le_of_ble_eq_true rfl) ?_
  have hl0 := hT.1
  have hl1 := hT.2.1
  have loop : ∀ (k j : Nat) (v : Int) (f1 : Int → Int), j + k = 3 → (∀ k : Int, ¬ k = 2 → f1 k = f k) → 0 ≤ f1 2 → f1 2 ≤ 990 + j → AW E M_X6_readNumber 0 0 4 [some (aR 122), some (aI v), some (aI (j : Int))] [] (pa 122 X f1) hr 125 (PI (fun z h r2 n2 => r2 = hr ∧ n2 = 125 ∧ z = (if j = 0 ∧ ¬ dgF G (f 1) (f1 2) = 1 then -1 else (nuA G (f 1) k v (f1 2)).1) ∧ ∃ f2 : Int → Int, h = pa 122 X f2 ∧ (∀ k : Int, ¬ k = 2 → f2 k = f k) ∧ f2 2 = (nuA G (f 1) k v (f1 2)).2)) := by
    intro k
    induction k with
    | zero =>
      intro j v f1 hj hf ha ha2
      have hj' : j = 3 := by omega
      subst hj'
      refine aw_iload_n dX6_readNumber_4 rfl ?_
      refine aw_iconst dX6_readNumber_5 ?_
      refine aw_ic_ge (tgt := 52) dX6_readNumber_6 (by decide) ⟨by decide, by decide⟩ ⟨by decide, by decide⟩ (fun h6 => ?_) (fun h6 => ?_)
      · refine aw_iload_n dX6_readNumber_52 rfl ?_
        refine aw_if_ne (tgt := 60) dX6_readNumber_53 (by decide) ⟨by decide, by decide⟩ (fun h53 => ?_) (fun h53 => ?_)
        · refine aw_iload_n dX6_readNumber_60 rfl ?_
          refine aw_iret dX6_readNumber_61 rfl (by decide) (by decide) ?_
          exact ⟨_, rfl, rfl, rfl, by rw [if_neg (fun g => absurd g.1 (by decide))]; rfl, f1, rfl, hf, rfl⟩
        · exact absurd h53 (by decide)
      · exact absurd h6 (by decide)
    | succ k ih =>
      intro j v f1 hj hf ha ha2
      have e1 := hf 1 (by decide)
      have hs := sg_b (a := f1 2) hT ha
      have hd := dg_b G (f 1) (f1 2)
      have csg : AMet E M_X6_sign [aR 122] (pa 122 X f1) hr 125 (EX (some (aI (sgF G (f 1) (f1 2)))) (pa 122 X f1) hr 125) := by
        have g := c_X6_sign (E := E) (X := X) (f := f1) (G := G) hHR (by rw [e1]; exact hG) (by rw [e1]; exact hT) ha (by omega)
        rw [e1] at g
        exact g
      refine aw_iload_n dX6_readNumber_4 rfl ?_
      refine aw_iconst dX6_readNumber_5 ?_
      refine aw_ic_ge (tgt := 52) dX6_readNumber_6 (by decide) ⟨by omega, by omega⟩ ⟨by decide, by decide⟩ (fun h6 => ?_) (fun h6 => ?_)
      · exact absurd h6 (by omega)
      · refine aw_aload_n dX6_readNumber_9 rfl ?_
        refine aw_V0x dX6_readNumber_10 clX6_30 ⟨by decide, by decide⟩ (c := 6) (N := 6) (by decide) (by decide +kernel) rfl csg (by decide) (by decide) rfl rfl (by simp only [List.length_cons, List.length_nil]; omega) ?_
        refine aw_bipush dX6_readNumber_13 (by decide) ?_
        refine aw_bipush dX6_readNumber_15 (by decide) ?_
        refine aw_S3x dX6_readNumber_17 clX6_19 ⟨by decide, by decide⟩ (c_X8_isIn ⟨by omega, by omega⟩ ⟨by decide, by decide⟩ ⟨by decide, by decide⟩) (by decide) (by decide) rfl rfl (by simp only [List.length_cons, List.length_nil]; omega) ?_
        refine aw_if_eq (tgt := 52) dX6_readNumber_20 (by decide) in_r (fun h20 => ?_) (fun h20 => ?_)
        · refine aw_iload_n dX6_readNumber_52 rfl ?_
          refine aw_if_ne (tgt := 60) dX6_readNumber_53 (by decide) ⟨by omega, by omega⟩ (fun h53 => ?_) (fun h53 => ?_)
          · refine aw_iload_n dX6_readNumber_60 rfl ?_
            refine aw_iret dX6_readNumber_61 rfl (by decide) (by decide) ?_
            rw [in0, sg_dg] at h20
            exact ⟨_, rfl, rfl, rfl, by rw [if_neg (fun g => by have := g.1; omega), nuA_s, if_neg h20], f1, rfl, hf, by rw [nuA_s, if_neg h20]⟩
          · refine aw_iconst dX6_readNumber_56 ?_
            refine aw_goto (tgt := 61) dX6_readNumber_57 (by decide) ?_
            refine aw_iret dX6_readNumber_61 rfl (by decide) (by decide) ?_
            rw [in0, sg_dg] at h20
            exact ⟨_, rfl, rfl, rfl, by rw [if_pos ⟨by omega, h20⟩], f1, rfl, hf, by rw [nuA_s, if_neg h20]⟩
        · refine aw_iload_n dX6_readNumber_23 rfl ?_
          refine aw_bipush dX6_readNumber_24 (by decide) ?_
          refine aw_imul dX6_readNumber_26 ?_
          refine aw_aload_n dX6_readNumber_27 rfl ?_
          refine aw_V0x dX6_readNumber_28 clX6_30 ⟨by decide, by decide⟩ (c := 6) (N := 6) (by decide) (by decide +kernel) rfl csg (by decide) (by decide) rfl rfl (by simp only [List.length_cons, List.length_nil]; omega) ?_
          refine aw_bipush dX6_readNumber_31 (by decide) ?_
          refine aw_isub dX6_readNumber_33 ?_
          refine aw_iadd dX6_readNumber_34 ?_
          refine aw_istore_n (ls2 := [_, _, _]) dX6_readNumber_35 (by decide) rfl ?_
          refine aw_iinc (ls2 := [_, _, _]) dX6_readNumber_36 rfl (by decide) rfl ?_
          refine aw_aload_n dX6_readNumber_39 rfl ?_
          refine aw_dup dX6_readNumber_40 ?_
          refine aw_getv dX6_readNumber_41 ci6 (by decide) fX6_27 (by decide) (by decide +kernel) rfl (pa_gk 122 _ _ 2 2 rfl) ?_
          refine aw_iconst dX6_readNumber_44 ?_
          refine aw_iadd dX6_readNumber_45 ?_
          refine aw_putv dX6_readNumber_46 ci6 (by decide) fX6_27 (by decide) (by decide +kernel) rfl rfl (Or.inl rfl) (pa_uk 122 _ _ 2 2 _ rfl) ?_
          refine aw_goto (tgt := 4) dX6_readNumber_49 (by decide) ?_
          rw [in0, Classical.not_not, sg_dg] at h20
          have eh := dg_hr h20
          have g := ih (j + 1) (v * 10 + (sgF G (f 1) (f1 2) - 48)) (up1 f1 2 (f1 2 + 1)) (by omega) (fun k hk => by rw [up1_n _ _ hk]; exact hf k hk) (by rw [up1_s]; omega) (by rw [up1_s]; omega)
          rw [up1_s, show v * 10 + (sgF G (f 1) (f1 2) - 48) = 10 * v + hrF G (f 1) (f1 2) - 48 by omega] at g
          rw [show v * 10 + (sgF G (f 1) (f1 2) - 48) = 10 * v + hrF G (f 1) (f1 2) - 48 by omega, nuA_s, if_pos h20, if_neg (fun q => q.2 h20)]
          rw [if_neg (fun q => absurd q.1 (by omega))] at g
          exact g
  refine aw_iconst dX6_readNumber_0 ?_
  refine aw_istore_n (ls2 := [_, _, _]) dX6_readNumber_1 (by decide) rfl ?_
  refine aw_iconst dX6_readNumber_2 ?_
  refine aw_istore_n (ls2 := [_, _, _]) dX6_readNumber_3 (by decide) rfl ?_
  have g := loop 3 0 0 f (by decide) (fun _ _ => rfl) h0 (by omega)
  have e : (if (0 : Nat) = 0 ∧ ¬ dgF G (f 1) (f 2) = 1 then -1 else (nuA G (f 1) 3 0 (f 2)).1) = rnF G (f 1) (f 2) := by
    unfold rnF
    by_cases c : dgF G (f 1) (f 2) = 1
    · rw [if_neg (fun g => g.2 c), if_pos c]
    · rw [if_pos ⟨rfl, c⟩, if_neg c]
  rw [e] at g
  exact g
end TEXT
