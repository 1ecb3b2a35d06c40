/-! the twin's acts: requests and ticks -/
section TWIN2
variable {E : ET} {hi : HI} {hr : HR} {s : Int → Int}
theorem stF_r {s : Int → Int} (h : MI s) (key : Int) : InR (stF s key) ∧ 0 ≤ stF s key := by
  unfold stF
  split
  · exact ⟨⟨by decide, by decide⟩, by decide⟩
  · rcases plc_b s key with g | g
    · omega
    · have := atI_b g.1 g.2
      exact ⟨h.r _ (by unfold xc; omega), h.z _ (by unfold xc; omega)⟩
set_option maxRecDepth 100000 in
set_option maxHeartbeats 4000000 in
theorem c_X9_comes {key val u stp : Int} (hHR : HRk hr) (hM : MI s) (h7 : s 11 ≤ 7) (hu : InR u) : AMet E M_X9_comes [aR 125, aI key, aI val, aI u, aI stp] (pa 126 hi s) hr 131 (EX none (pa 126 hi (cmF s key val u stp)) hr 131) := by
  refine am_of (by decide +kernel) (Nat.le_of_ble_eq_true rfl) ?_
  have h0 := hM.z 11 (by unfold xc; omega)
  have loop : ∀ (d : Nat) (k : Int) (t : Int → Int) (v6 : Option AV), MI t → 0 ≤ k → k ≤ 7 → k ≤ d → (∀ v6, AW E M_X9_comes 0 0 90 ([some (aR 125), some (aI key), some (aI val), some (aI u), some (aI stp), some (aI (cmA u d k t).2), v6]) [] (pa 126 hi (cmA u d k t).1) hr 131 (EX none (pa 126 hi (cmF s key val u stp)) hr 131)) → AW E M_X9_comes 0 0 9 ([some (aR 125), some (aI key), some (aI val), some (aI u), some (aI stp), some (aI k), v6]) [] (pa 126 hi t) hr 131 (EX none (pa 126 hi (cmF s key val u stp)) hr 131) := by
    intro d
    induction d with
    | zero =>
      intro k t v6 hM h0 h7 hd K
      refine aw_iload dX9_comes_9 rfl ?_
      refine aw_if_le (tgt := 90) dX9_comes_11 (by decide) ⟨by omega, by omega⟩ (fun h11 => ?_) (fun h11 => ?_)
      · exact K v6
      · exact absurd h11 (by omega)
    | succ d ih =>
      intro k t v6 hM h0 h7 hd K
      refine aw_iload dX9_comes_9 rfl ?_
      refine aw_if_le (tgt := 90) dX9_comes_11 (by decide) ⟨by omega, by omega⟩ (fun h11 => ?_) (fun h11 => ?_)
      · have e : cmA u (d + 1) k t = (t, k) := by simp only [cmA]; rw [if_neg (by omega)]
        rw [e] at K
        exact K v6
      · refine aw_aload_n dX9_comes_14 rfl ?_
        refine aw_getr (x := 126) dX9_comes_15 ci9 (by decide) fX9_7 (by decide) (by decide +kernel) rfl ((hHR 125 0 (by decide) (by decide +kernel)).trans rfl) ?_
        refine aw_sipush dX9_comes_18 (by decide) ?_
        refine aw_iconst dX9_comes_21 ?_
        refine aw_iload dX9_comes_22 rfl ?_
        refine aw_iconst dX9_comes_24 ?_
        refine aw_isub dX9_comes_25 ?_
        refine aw_imul dX9_comes_26 ?_
        refine aw_iadd dX9_comes_27 ?_
        refine aw_iconst dX9_comes_28 ?_
        refine aw_iadd dX9_comes_29 ?_
        refine aw_iald (N := 256) dX9_comes_30 (Or.inl ⟨(by decide), (by decide +kernel)⟩) (by omega) (by omega) (by decide) (pa_gi 126 _ _ (by omega)) ?_
        refine aw_iload_n dX9_comes_31 rfl ?_
        refine aw_ic_le (tgt := 90) dX9_comes_32 (by decide) (hM.r _ (by unfold xc; omega)) hu (fun h32 => ?_) (fun h32 => ?_)
        · have e : cmA u (d + 1) k t = (t, k) := by simp only [cmA]; rw [if_neg (by omega)]
          rw [e] at K
          exact K v6
        · refine aw_iconst dX9_comes_35 ?_
          refine aw_istore (ls2 := [_, _, _, _, _, _, _]) dX9_comes_36 (by decide) rfl ?_
          have e : cmA u (d + 1) k t = cmA u d (k + -1) (cpA t (216 + 4 * k) (216 + 4 * (k - 1)) 4) := by simp only [cmA]; rw [if_pos ⟨by omega, by omega⟩]
          rw [e] at K
          have m4 := hM.cp (a := 216 + 4 * k) (b := 216 + 4 * (k - 1)) 4 (by omega) (by omega) (by omega) (by omega)
          have inner : ∀ (d2 i : Nat), i + d2 = 4 → AW E M_X9_comes 0 0 38 ([some (aR 125), some (aI key), some (aI val), some (aI u), some (aI stp), some (aI k), some (aI (i : Int))]) [] (pa 126 hi (cpA t (216 + 4 * k) (216 + 4 * (k - 1)) i)) hr 131 (EX none (pa 126 hi (cmF s key val u stp)) hr 131) := by
            intro d2
            induction d2 with
            | zero =>
              intro i hi4
              have hi4' : i = 4 := by omega
              subst hi4'
              refine aw_iload dX9_comes_38 rfl ?_
              refine aw_iconst dX9_comes_40 ?_
              refine aw_ic_ge (tgt := 84) dX9_comes_41 (by decide) ⟨by decide, by decide⟩ ⟨by decide, by decide⟩ (fun h41 => ?_) (fun h41 => ?_)
              · refine aw_iinc (ls2 := [_, _, _, _, _, _, _]) dX9_comes_84 rfl (by decide) rfl ?_
                refine aw_goto (tgt := 9) dX9_comes_87 (by decide) ?_
                exact ih (k + -1) _ _ m4 (by omega) (by omega) (by omega) K
              · exact absurd h41 (by decide)
            | succ d2 ih2 =>
              intro i hi4
              refine aw_iload dX9_comes_38 rfl ?_
              refine aw_iconst dX9_comes_40 ?_
              refine aw_ic_ge (tgt := 84) dX9_comes_41 (by decide) ⟨by omega, by omega⟩ ⟨by decide, by decide⟩ (fun h41 => ?_) (fun h41 => ?_)
              · exact absurd h41 (by omega)
              · refine aw_aload_n dX9_comes_44 rfl ?_
                refine aw_getr (x := 126) dX9_comes_45 ci9 (by decide) fX9_7 (by decide) (by decide +kernel) rfl ((hHR 125 0 (by decide) (by decide +kernel)).trans rfl) ?_
                refine aw_sipush dX9_comes_48 (by decide) ?_
                refine aw_iconst dX9_comes_51 ?_
                refine aw_iload dX9_comes_52 rfl ?_
                refine aw_imul dX9_comes_54 ?_
                refine aw_iadd dX9_comes_55 ?_
                refine aw_iload dX9_comes_56 rfl ?_
                refine aw_iadd dX9_comes_58 ?_
                refine aw_aload_n dX9_comes_59 rfl ?_
                refine aw_getr (x := 126) dX9_comes_60 ci9 (by decide) fX9_7 (by decide) (by decide +kernel) rfl ((hHR 125 0 (by decide) (by decide +kernel)).trans rfl) ?_
                refine aw_sipush dX9_comes_63 (by decide) ?_
                refine aw_iconst dX9_comes_66 ?_
                refine aw_iload dX9_comes_67 rfl ?_
                refine aw_iconst dX9_comes_69 ?_
                refine aw_isub dX9_comes_70 ?_
                refine aw_imul dX9_comes_71 ?_
                refine aw_iadd dX9_comes_72 ?_
                refine aw_iload dX9_comes_73 rfl ?_
                refine aw_iadd dX9_comes_75 ?_
                refine aw_iald (N := 256) dX9_comes_76 (Or.inl ⟨(by decide), (by decide +kernel)⟩) (by omega) (by omega) (by decide) (pa_gi 126 _ _ (by omega)) ?_
                refine aw_iast (N := 256) dX9_comes_77 (by decide) (by decide +kernel) (by omega) (by omega) (by decide) (pa_ui 126 _ _ _ (by omega)) ?_
                refine aw_iinc (ls2 := [_, _, _, _, _, _, _]) dX9_comes_78 rfl (by decide) rfl ?_
                refine aw_goto (tgt := 38) dX9_comes_81 (by decide) ?_
                exact ih2 (i + 1) (by omega)
          exact inner 4 0 (by omega)
  refine aw_aload_n dX9_comes_0 rfl ?_
  refine aw_getr (x := 126) dX9_comes_1 ci9 (by decide) fX9_7 (by decide) (by decide +kernel) rfl ((hHR 125 0 (by decide) (by decide +kernel)).trans rfl) ?_
  refine aw_bipush dX9_comes_4 (by decide) ?_
  refine aw_iald (N := 256) dX9_comes_6 (Or.inl ⟨(by decide), (by decide +kernel)⟩) (by decide) (by decide) (by decide) (pa_gi 126 _ _ (by decide)) ?_
  refine aw_istore (ls2 := [_, _, _, _, _, _, _]) dX9_comes_7 (by decide) rfl ?_
  refine loop 9 (s 11) s _ hM h0 h7 (by omega) (fun v6 => ?_)
  have g := cmA_b u 9 (s 11) s h0 h7 hM
  refine aw_aload_n dX9_comes_90 rfl ?_
  refine aw_getr (x := 126) dX9_comes_91 ci9 (by decide) fX9_7 (by decide) (by decide +kernel) rfl ((hHR 125 0 (by decide) (by decide +kernel)).trans rfl) ?_
  refine aw_sipush dX9_comes_94 (by decide) ?_
  refine aw_iconst dX9_comes_97 ?_
  refine aw_iload dX9_comes_98 rfl ?_
  refine aw_imul dX9_comes_100 ?_
  refine aw_iadd dX9_comes_101 ?_
  refine aw_iload_n dX9_comes_102 rfl ?_
  refine aw_iast (N := 256) dX9_comes_103 (by decide) (by decide +kernel) (by omega) (by omega) (by decide) (pa_ui 126 _ _ _ (by omega)) ?_
  refine aw_aload_n dX9_comes_104 rfl ?_
  refine aw_getr (x := 126) dX9_comes_105 ci9 (by decide) fX9_7 (by decide) (by decide +kernel) rfl ((hHR 125 0 (by decide) (by decide +kernel)).trans rfl) ?_
  refine aw_sipush dX9_comes_108 (by decide) ?_
  refine aw_iconst dX9_comes_111 ?_
  refine aw_iload dX9_comes_112 rfl ?_
  refine aw_imul dX9_comes_114 ?_
  refine aw_iadd dX9_comes_115 ?_
  refine aw_iconst dX9_comes_116 ?_
  refine aw_iadd dX9_comes_117 ?_
  refine aw_iload_n dX9_comes_118 rfl ?_
  refine aw_iast (N := 256) dX9_comes_119 (by decide) (by decide +kernel) (by omega) (by omega) (by decide) (pa_ui 126 _ _ _ (by omega)) ?_
  refine aw_aload_n dX9_comes_120 rfl ?_
  refine aw_getr (x := 126) dX9_comes_121 ci9 (by decide) fX9_7 (by decide) (by decide +kernel) rfl ((hHR 125 0 (by decide) (by decide +kernel)).trans rfl) ?_
  refine aw_sipush dX9_comes_124 (by decide) ?_
  refine aw_iconst dX9_comes_127 ?_
  refine aw_iload dX9_comes_128 rfl ?_
  refine aw_imul dX9_comes_130 ?_
  refine aw_iadd dX9_comes_131 ?_
  refine aw_iconst dX9_comes_132 ?_
  refine aw_iadd dX9_comes_133 ?_
  refine aw_iload_n dX9_comes_134 rfl ?_
  refine aw_iast (N := 256) dX9_comes_135 (by decide) (by decide +kernel) (by omega) (by omega) (by decide) (pa_ui 126 _ _ _ (by omega)) ?_
  refine aw_aload_n dX9_comes_136 rfl ?_
  refine aw_getr (x := 126) dX9_comes_137 ci9 (by decide) fX9_7 (by decide) (by decide +kernel) rfl ((hHR 125 0 (by decide) (by decide +kernel)).trans rfl) ?_
  refine aw_sipush dX9_comes_140 (by decide) ?_
  refine aw_iconst dX9_comes_143 ?_
  refine aw_iload dX9_comes_144 rfl ?_
  refine aw_imul dX9_comes_146 ?_
  refine aw_iadd dX9_comes_147 ?_
  refine aw_iconst dX9_comes_148 ?_
  refine aw_iadd dX9_comes_149 ?_
  refine aw_iload dX9_comes_150 rfl ?_
  refine aw_iast (N := 256) dX9_comes_152 (by decide) (by decide +kernel) (by omega) (by omega) (by decide) (pa_ui 126 _ _ _ (by omega)) ?_
  refine aw_aload_n dX9_comes_153 rfl ?_
  refine aw_getr (x := 126) dX9_comes_154 ci9 (by decide) fX9_7 (by decide) (by decide +kernel) rfl ((hHR 125 0 (by decide) (by decide +kernel)).trans rfl) ?_
  refine aw_bipush dX9_comes_157 (by decide) ?_
  refine aw_dup2 dX9_comes_159 ?_
  refine aw_iald (N := 256) dX9_comes_160 (Or.inl ⟨(by decide), (by decide +kernel)⟩) (by decide) (by decide) (by decide) (pa_gi 126 _ _ (by decide)) ?_
  refine aw_iconst dX9_comes_161 ?_
  refine aw_iadd dX9_comes_162 ?_
  refine aw_iast (N := 256) dX9_comes_163 (by decide) (by decide +kernel) (by decide) (by decide) (by decide) (pa_ui 126 _ _ _ (by decide)) ?_
  refine aw_vret dX9_comes_164 rfl (by decide) (by decide) ?_
  exact EX.rf

set_option maxRecDepth 100000 in
set_option maxHeartbeats 4000000 in
theorem c_X9_copies {c u : Int} (hHR : HRk hr) (hM : MI s) (h7 : s 11 ≤ 7) (hu : InR u) (h0 : 0 ≤ c) (h1 : c < 48) : AMet E M_X9_copies [aR 125, aI c, aI u] (pa 126 hi s) hr 131 (EX none (pa 126 hi (cmF s (s (atI c + 1)) (s (atI c + 2)) u (s (atI c + 3)))) hr 131) := by
  refine am_of (by decide +kernel) (Nat.le_of_ble_eq_true rfl) ?_
  have hb := atI_b h0 h1
  refine aw_aload_n dX9_copies_0 rfl ?_
  refine aw_iload_n dX9_copies_1 rfl ?_
  refine aw_V1x dX9_copies_2 clX9_44 ⟨by decide, by decide⟩ (c := 9) (N := 11) (by decide) (by decide +kernel) rfl (c_X9_atPlace h0 h1) (by decide) (by decide) rfl rfl (by simp only [List.length_cons, List.length_nil]; omega) ?_
  refine aw_istore_n (ls2 := [_, _, _, _]) dX9_copies_5 (by decide) rfl ?_
  refine aw_aload_n dX9_copies_6 rfl ?_
  refine aw_aload_n dX9_copies_7 rfl ?_
  refine aw_getr (x := 126) dX9_copies_8 ci9 (by decide) fX9_7 (by decide) (by decide +kernel) rfl ((hHR 125 0 (by decide) (by decide +kernel)).trans rfl) ?_
  refine aw_iload_n dX9_copies_11 rfl ?_
  refine aw_iconst dX9_copies_12 ?_
  refine aw_iadd dX9_copies_13 ?_
  refine aw_iald (N := 256) dX9_copies_14 (Or.inl ⟨(by decide), (by decide +kernel)⟩) (by omega) (by omega) (by decide) (pa_gi 126 _ _ (by omega)) ?_
  refine aw_aload_n dX9_copies_15 rfl ?_
  refine aw_getr (x := 126) dX9_copies_16 ci9 (by decide) fX9_7 (by decide) (by decide +kernel) rfl ((hHR 125 0 (by decide) (by decide +kernel)).trans rfl) ?_
  refine aw_iload_n dX9_copies_19 rfl ?_
  refine aw_iconst dX9_copies_20 ?_
  refine aw_iadd dX9_copies_21 ?_
  refine aw_iald (N := 256) dX9_copies_22 (Or.inl ⟨(by decide), (by decide +kernel)⟩) (by omega) (by omega) (by decide) (pa_gi 126 _ _ (by omega)) ?_
  refine aw_iload_n dX9_copies_23 rfl ?_
  refine aw_aload_n dX9_copies_24 rfl ?_
  refine aw_getr (x := 126) dX9_copies_25 ci9 (by decide) fX9_7 (by decide) (by decide +kernel) rfl ((hHR 125 0 (by decide) (by decide +kernel)).trans rfl) ?_
  refine aw_iload_n dX9_copies_28 rfl ?_
  refine aw_iconst dX9_copies_29 ?_
  refine aw_iadd dX9_copies_30 ?_
  refine aw_iald (N := 256) dX9_copies_31 (Or.inl ⟨(by decide), (by decide +kernel)⟩) (by omega) (by omega) (by decide) (pa_gi 126 _ _ (by omega)) ?_
  refine aw_V4v dX9_copies_32 clX9_54 ⟨by decide, by decide⟩ (c := 9) (N := 11) (by decide) (by decide +kernel) rfl (c_X9_comes hHR hM h7 hu) (by decide) (by decide) rfl rfl (by simp only [List.length_cons, List.length_nil]; omega) ?_
  refine aw_vret dX9_copies_35 rfl (by decide) (by decide) ?_
  exact EX.rf
set_option maxRecDepth 100000 in
set_option maxHeartbeats 4000000 in
theorem c_X9_goesFirst (hHR : HRk hr) (hM : MI s) (h0 : 0 < s 11) : AMet E M_X9_goesFirst [aR 125] (pa 126 hi s) hr 131 (EX none (pa 126 hi (gfF s)) hr 131) := by
  refine am_of (by decide +kernel) (Nat.le_of_ble_eq_true rfl) ?_
  have h8 := hM.2.2.1
  have ej : ((4 * (s 11 - 1)).toNat : Int) = 4 * (s 11 - 1) := by omega
  have e11 : ∀ j : Nat, gfA (up1 s 11 (s 11 - 1)) j 11 = s 11 - 1 := fun j => by rw [gfA_at, if_neg (by omega), up1_s]
  have ez : ∀ i : Nat, zA (gfA (up1 s 11 (s 11 - 1)) (4 * (s 11 - 1)).toNat) (216 + 4 * (s 11 - 1)) i 11 = s 11 - 1 := fun i => by rw [zA_at, if_neg (by omega), e11]
  have loop2 : ∀ (d i : Nat), i + d = 4 → AW E M_X9_goesFirst 0 0 54 [some (aR 125), some (aI (i : Int))] [] (pa 126 hi (zA (gfA (up1 s 11 (s 11 - 1)) (4 * (s 11 - 1)).toNat) (216 + 4 * (s 11 - 1)) i)) hr 131 (EX none (pa 126 hi (gfF s)) hr 131) := by
    intro d
    induction d with
    | zero =>
      intro i hi4
      have hi4' : i = 4 := by omega
      subst hi4'
      refine aw_iload_n dX9_goesFirst_54 rfl ?_
      refine aw_iconst dX9_goesFirst_55 ?_
      refine aw_ic_ge (tgt := 86) dX9_goesFirst_56 (by decide) ⟨by decide, by decide⟩ ⟨by decide, by decide⟩ (fun h56 => ?_) (fun h56 => ?_)
      · refine aw_vret dX9_goesFirst_86 rfl (by decide) (by decide) ?_
        exact EX.rf
      · exact absurd h56 (by decide)
    | succ d ih =>
      intro i hi4
      refine aw_iload_n dX9_goesFirst_54 rfl ?_
      refine aw_iconst dX9_goesFirst_55 ?_
      refine aw_ic_ge (tgt := 86) dX9_goesFirst_56 (by decide) ⟨by omega, by omega⟩ ⟨by decide, by decide⟩ (fun h56 => ?_) (fun h56 => ?_)
      · exact absurd h56 (by omega)
      · refine aw_aload_n dX9_goesFirst_59 rfl ?_
        refine aw_getr (x := 126) dX9_goesFirst_60 ci9 (by decide) fX9_7 (by decide) (by decide +kernel) rfl ((hHR 125 0 (by decide) (by decide +kernel)).trans rfl) ?_
        refine aw_sipush dX9_goesFirst_63 (by decide) ?_
        refine aw_iconst dX9_goesFirst_66 ?_
        refine aw_aload_n dX9_goesFirst_67 rfl ?_
        refine aw_getr (x := 126) dX9_goesFirst_68 ci9 (by decide) fX9_7 (by decide) (by decide +kernel) rfl ((hHR 125 0 (by decide) (by decide +kernel)).trans rfl) ?_
        refine aw_bipush dX9_goesFirst_71 (by decide) ?_
        refine aw_iald (N := 256) dX9_goesFirst_73 (Or.inl ⟨(by decide), (by decide +kernel)⟩) (by decide) (by decide) (by decide) (pa_gi 126 _ _ (by decide)) ?_
        rw [ez i]
        refine aw_imul dX9_goesFirst_74 ?_
        refine aw_iadd dX9_goesFirst_75 ?_
        refine aw_iload_n dX9_goesFirst_76 rfl ?_
        refine aw_iadd dX9_goesFirst_77 ?_
        refine aw_iconst dX9_goesFirst_78 ?_
        refine aw_iast (N := 256) dX9_goesFirst_79 (by decide) (by decide +kernel) (by omega) (by omega) (by decide) (pa_ui 126 _ _ _ (by omega)) ?_
        refine aw_iinc (ls2 := [_, _]) dX9_goesFirst_80 rfl (by decide) rfl ?_
        refine aw_goto (tgt := 54) dX9_goesFirst_83 (by decide) ?_
        exact ih (i + 1) (by omega)
  have loop1 : ∀ (d j : Nat) (k : Int), j + d = (4 * (s 11 - 1)).toNat → k = 216 + (j : Int) → AW E M_X9_goesFirst 0 0 15 [some (aR 125), some (aI k)] [] (pa 126 hi (gfA (up1 s 11 (s 11 - 1)) j)) hr 131 (EX none (pa 126 hi (gfF s)) hr 131) := by
    intro d
    induction d with
    | zero =>
      intro j k hj hk
      have hj' : j = (4 * (s 11 - 1)).toNat := by omega
      subst hj'
      refine aw_iload_n dX9_goesFirst_15 rfl ?_
      refine aw_sipush dX9_goesFirst_16 (by decide) ?_
      refine aw_iconst dX9_goesFirst_19 ?_
      refine aw_aload_n dX9_goesFirst_20 rfl ?_
      refine aw_getr (x := 126) dX9_goesFirst_21 ci9 (by decide) fX9_7 (by decide) (by decide +kernel) rfl ((hHR 125 0 (by decide) (by decide +kernel)).trans rfl) ?_
      refine aw_bipush dX9_goesFirst_24 (by decide) ?_
      refine aw_iald (N := 256) dX9_goesFirst_26 (Or.inl ⟨(by decide), (by decide +kernel)⟩) (by decide) (by decide) (by decide) (pa_gi 126 _ _ (by decide)) ?_
      rw [e11]
      refine aw_imul dX9_goesFirst_27 ?_
      refine aw_iadd dX9_goesFirst_28 ?_
      refine aw_ic_ge (tgt := 52) dX9_goesFirst_29 (by decide) ⟨by omega, by omega⟩ ⟨by omega, by omega⟩ (fun h29 => ?_) (fun h29 => ?_)
      · refine aw_iconst dX9_goesFirst_52 ?_
        refine aw_istore_n (ls2 := [_, _]) dX9_goesFirst_53 (by decide) rfl ?_
        exact loop2 4 0 (by omega)
      · exact absurd h29 (by omega)
    | succ d ih =>
      intro j k hj hk
      subst hk
      refine aw_iload_n dX9_goesFirst_15 rfl ?_
      refine aw_sipush dX9_goesFirst_16 (by decide) ?_
      refine aw_iconst dX9_goesFirst_19 ?_
      refine aw_aload_n dX9_goesFirst_20 rfl ?_
      refine aw_getr (x := 126) dX9_goesFirst_21 ci9 (by decide) fX9_7 (by decide) (by decide +kernel) rfl ((hHR 125 0 (by decide) (by decide +kernel)).trans rfl) ?_
      refine aw_bipush dX9_goesFirst_24 (by decide) ?_
      refine aw_iald (N := 256) dX9_goesFirst_26 (Or.inl ⟨(by decide), (by decide +kernel)⟩) (by decide) (by decide) (by decide) (pa_gi 126 _ _ (by decide)) ?_
      rw [e11]
      refine aw_imul dX9_goesFirst_27 ?_
      refine aw_iadd dX9_goesFirst_28 ?_
      refine aw_ic_ge (tgt := 52) dX9_goesFirst_29 (by decide) ⟨by omega, by omega⟩ ⟨by omega, by omega⟩ (fun h29 => ?_) (fun h29 => ?_)
      · exact absurd h29 (by omega)
      · refine aw_aload_n dX9_goesFirst_32 rfl ?_
        refine aw_getr (x := 126) dX9_goesFirst_33 ci9 (by decide) fX9_7 (by decide) (by decide +kernel) rfl ((hHR 125 0 (by decide) (by decide +kernel)).trans rfl) ?_
        refine aw_iload_n dX9_goesFirst_36 rfl ?_
        refine aw_aload_n dX9_goesFirst_37 rfl ?_
        refine aw_getr (x := 126) dX9_goesFirst_38 ci9 (by decide) fX9_7 (by decide) (by decide +kernel) rfl ((hHR 125 0 (by decide) (by decide +kernel)).trans rfl) ?_
        refine aw_iload_n dX9_goesFirst_41 rfl ?_
        refine aw_iconst dX9_goesFirst_42 ?_
        refine aw_iadd dX9_goesFirst_43 ?_
        refine aw_iald (N := 256) dX9_goesFirst_44 (Or.inl ⟨(by decide), (by decide +kernel)⟩) (by omega) (by omega) (by decide) (pa_gi 126 _ _ (by omega)) ?_
        refine aw_iast (N := 256) dX9_goesFirst_45 (by decide) (by decide +kernel) (by omega) (by omega) (by decide) (pa_ui 126 _ _ _ (by omega)) ?_
        refine aw_iinc (ls2 := [_, _]) dX9_goesFirst_46 rfl (by decide) rfl ?_
        refine aw_goto (tgt := 15) dX9_goesFirst_49 (by decide) ?_
        exact ih (j + 1) _ (by omega) (by omega)
  refine aw_aload_n dX9_goesFirst_0 rfl ?_
  refine aw_getr (x := 126) dX9_goesFirst_1 ci9 (by decide) fX9_7 (by decide) (by decide +kernel) rfl ((hHR 125 0 (by decide) (by decide +kernel)).trans rfl) ?_
  refine aw_bipush dX9_goesFirst_4 (by decide) ?_
  refine aw_dup2 dX9_goesFirst_6 ?_
  refine aw_iald (N := 256) dX9_goesFirst_7 (Or.inl ⟨(by decide), (by decide +kernel)⟩) (by decide) (by decide) (by decide) (pa_gi 126 _ _ (by decide)) ?_
  refine aw_iconst dX9_goesFirst_8 ?_
  refine aw_isub dX9_goesFirst_9 ?_
  refine aw_iast (N := 256) dX9_goesFirst_10 (by decide) (by decide +kernel) (by decide) (by decide) (by decide) (pa_ui 126 _ _ _ (by decide)) ?_
  refine aw_sipush dX9_goesFirst_11 (by decide) ?_
  refine aw_istore_n (ls2 := [_, _]) dX9_goesFirst_14 (by decide) rfl ?_
  exact loop1 (4 * (s 11 - 1)).toNat 0 216 (by omega) (by omega)
set_option maxRecDepth 100000 in
set_option maxHeartbeats 4000000 in
theorem c_X9_isPassed (hHR : HRk hr) (hM : MI s) : AMet E M_X9_isPassed [aR 125] (pa 126 hi s) hr 131 (EX (some (aI (psF s))) (pa 126 hi s) hr 131) := by
  refine am_of (by decide +kernel) (Nat.le_of_ble_eq_true rfl) ?_
  refine aw_aload_n dX9_isPassed_0 rfl ?_
  refine aw_getr (x := 126) dX9_isPassed_1 ci9 (by decide) fX9_7 (by decide) (by decide +kernel) rfl ((hHR 125 0 (by decide) (by decide +kernel)).trans rfl) ?_
  refine aw_sipush dX9_isPassed_4 (by decide) ?_
  refine aw_iald (N := 256) dX9_isPassed_7 (Or.inl ⟨(by decide), (by decide +kernel)⟩) (by decide) (by decide) (by decide) (pa_gi 126 _ _ (by decide)) ?_
  refine aw_iconst dX9_isPassed_8 ?_
  refine aw_irem dX9_isPassed_9 (hM.z _ (by unfold xc; omega)) (hM.r _ (by unfold xc; omega)) (by decide) ⟨by decide, by decide⟩ ?_
  refine aw_if_ne (tgt := 40) dX9_isPassed_10 (by decide) ⟨by omega, by omega⟩ (fun h10 => ?_) (fun h10 => ?_)
  · refine aw_iconst dX9_isPassed_40 ?_
    refine aw_zret dX9_isPassed_41 rfl (Or.inl rfl) (by decide) (by decide) ?_
    exact exI (by unfold psF; rw [if_neg (fun q => h10 q.1)])
  · refine aw_aload_n dX9_isPassed_13 rfl ?_
    refine aw_aload_n dX9_isPassed_14 rfl ?_
    refine aw_getr (x := 126) dX9_isPassed_15 ci9 (by decide) fX9_7 (by decide) (by decide +kernel) rfl ((hHR 125 0 (by decide) (by decide +kernel)).trans rfl) ?_
    refine aw_sipush dX9_isPassed_18 (by decide) ?_
    refine aw_iald (N := 256) dX9_isPassed_21 (Or.inl ⟨(by decide), (by decide +kernel)⟩) (by decide) (by decide) (by decide) (pa_gi 126 _ _ (by decide)) ?_
    refine aw_V1x dX9_isPassed_22 clX9_58 ⟨by decide, by decide⟩ (c := 9) (N := 11) (by decide) (by decide +kernel) rfl (c_X9_stampOf hHR hM (hM.r _ (by unfold xc; omega))) (by decide) (by decide) rfl rfl (by simp only [List.length_cons, List.length_nil]; omega) ?_
    refine aw_aload_n dX9_isPassed_25 rfl ?_
    refine aw_getr (x := 126) dX9_isPassed_26 ci9 (by decide) fX9_7 (by decide) (by decide +kernel) rfl ((hHR 125 0 (by decide) (by decide +kernel)).trans rfl) ?_
    refine aw_sipush dX9_isPassed_29 (by decide) ?_
    refine aw_iald (N := 256) dX9_isPassed_32 (Or.inl ⟨(by decide), (by decide +kernel)⟩) (by decide) (by decide) (by decide) (pa_gi 126 _ _ (by decide)) ?_
    refine aw_ic_eq (tgt := 40) dX9_isPassed_33 (by decide) (stF_r hM _).1 (hM.r _ (by unfold xc; omega)) (fun h33 => ?_) (fun h33 => ?_)
    · refine aw_iconst dX9_isPassed_40 ?_
      refine aw_zret dX9_isPassed_41 rfl (Or.inl rfl) (by decide) (by decide) ?_
      exact exI (by unfold psF; rw [if_neg (fun q => q.2 h33)])
    · refine aw_iconst dX9_isPassed_36 ?_
      refine aw_goto (tgt := 41) dX9_isPassed_37 (by decide) ?_
      refine aw_zret dX9_isPassed_41 rfl (Or.inr rfl) (by decide) (by decide) ?_
      exact exI (by unfold psF; rw [if_pos ⟨h10, h33⟩])
set_option maxRecDepth 100000 in
set_option maxHeartbeats 4000000 in
theorem c_X9_now {k v : Int} (hHR : HRk hr) (hk : 248 + k = v) (h0 : 0 ≤ v) (h1 : v < 256) : AMet E M_X9_now [aR 125, aI k] (pa 126 hi s) hr 131 (EX (some (aI (s v))) (pa 126 hi s) hr 131) := by
  refine am_of (by decide +kernel) (Nat.le_of_ble_eq_true rfl) ?_
  subst hk
  refine aw_aload_n dX9_now_0 rfl ?_
  refine aw_getr (x := 126) dX9_now_1 ci9 (by decide) fX9_7 (by decide) (by decide +kernel) rfl ((hHR 125 0 (by decide) (by decide +kernel)).trans rfl) ?_
  refine aw_sipush dX9_now_4 (by decide) ?_
  refine aw_iload_n dX9_now_7 rfl ?_
  refine aw_iadd dX9_now_8 ?_
  refine aw_iald (N := 256) dX9_now_9 (Or.inl ⟨(by decide), (by decide +kernel)⟩) (by omega) (by omega) (by decide) (pa_gi 126 _ _ (by omega)) ?_
  refine aw_iret dX9_now_10 rfl (by decide) (by decide) ?_
  exact EX.rf
set_option maxRecDepth 100000 in
set_option maxHeartbeats 4000000 in
theorem c_X9_isWriting (hHR : HRk hr) (hM : MI s) : AMet E M_X9_isWriting [aR 125] (pa 126 hi s) hr 131 (EX (some (aI (iwF s))) (pa 126 hi s) hr 131) := by
  refine am_of (by decide +kernel) (Nat.le_of_ble_eq_true rfl) ?_
  refine aw_aload_n dX9_isWriting_0 rfl ?_
  refine aw_bipush dX9_isWriting_1 (by decide) ?_
  refine aw_V1x dX9_isWriting_3 clX9_61 ⟨by decide, by decide⟩ (c := 9) (N := 11) (by decide) (by decide +kernel) rfl (c_X9_now (k := 6) (v := 254) hHR rfl (by decide) (by decide)) (by decide) (by decide) rfl rfl (by simp only [List.length_cons, List.length_nil]; omega) ?_
  refine aw_if_gt (tgt := 17) dX9_isWriting_6 (by decide) (hM.r _ (by unfold xc; omega)) (fun h6 => ?_) (fun h6 => ?_)
  · refine aw_iconst dX9_isWriting_17 ?_
    refine aw_goto (tgt := 22) dX9_isWriting_18 (by decide) ?_
    refine aw_zret dX9_isWriting_22 rfl (Or.inr rfl) (by decide) (by decide) ?_
    exact exI (by unfold iwF; first | rw [if_pos (by omega)] | rw [if_neg (by omega)])
  · refine aw_aload_n dX9_isWriting_9 rfl ?_
    refine aw_iconst dX9_isWriting_10 ?_
    refine aw_V1x dX9_isWriting_11 clX9_61 ⟨by decide, by decide⟩ (c := 9) (N := 11) (by decide) (by decide +kernel) rfl (c_X9_now (k := 5) (v := 253) hHR rfl (by decide) (by decide)) (by decide) (by decide) rfl rfl (by simp only [List.length_cons, List.length_nil]; omega) ?_
    refine aw_if_le (tgt := 21) dX9_isWriting_14 (by decide) (hM.r _ (by unfold xc; omega)) (fun h14 => ?_) (fun h14 => ?_)
    · refine aw_iconst dX9_isWriting_21 ?_
      refine aw_zret dX9_isWriting_22 rfl (Or.inl rfl) (by decide) (by decide) ?_
      exact exI (by unfold iwF; first | rw [if_pos (by omega)] | rw [if_neg (by omega)])
    · refine aw_iconst dX9_isWriting_17 ?_
      refine aw_goto (tgt := 22) dX9_isWriting_18 (by decide) ?_
      refine aw_zret dX9_isWriting_22 rfl (Or.inr rfl) (by decide) (by decide) ?_
      exact exI (by unfold iwF; first | rw [if_pos (by omega)] | rw [if_neg (by omega)])
set_option maxRecDepth 100000 in
set_option maxHeartbeats 4000000 in
theorem c_X9_begin1 {p : Int} (hHR : HRk hr) (hM : MI s) (h0 : 0 ≤ p) (h1 : p ≤ 15) (h10 : s 10 + 1 ≤ s 0) (h11 : 0 < s 11) : AMet E M_X9_begin1 [aR 125, aI p] (pa 126 hi s) hr 131 (EX none (pa 126 hi (bgF s p)) hr 131) := by
  refine am_of (by decide +kernel) (Nat.le_of_ble_eq_true rfl) ?_
  have hb := hM.2.1
  have hl8 := lin_b h0 (by omega)
  have he := ear_b hl8.1 hl8.2
  have hlt := lat_b p
  have z6 := hM.z (6 + s 2) (by unfold xc; omega)
  have b6 := hM.b (6 + s 2) (by unfold xc; omega)
  have z23 := hM.2.2.2.2.1
  have b23 := hM.b 23 (by unfold xc; omega)
  unfold BIG at b6 b23
  have e6 : ∀ mk, bg1 s p mk (6 + s 2) = s (6 + s 2) := fun mk => by
    rw [bg1_at, if_neg (by omega), if_neg (by omega), if_neg (by omega), if_neg (by omega), if_neg (by omega), if_neg (by omega), if_neg (by omega)]
  have e23 : ∀ mk, bg1 s p mk 23 = s 23 := fun mk => by rw [bg1_at]; simp
  refine aw_aload_n dX9_begin1_0 rfl ?_
  refine aw_getr (x := 126) dX9_begin1_1 ci9 (by decide) fX9_7 (by decide) (by decide +kernel) rfl ((hHR 125 0 (by decide) (by decide +kernel)).trans rfl) ?_
  refine aw_iconst dX9_begin1_4 ?_
  refine aw_iald (N := 256) dX9_begin1_5 (Or.inl ⟨(by decide), (by decide +kernel)⟩) (by decide) (by decide) (by decide) (pa_gi 126 _ _ (by decide)) ?_
  refine aw_istore_n (ls2 := [_, _, _, _, _, _, _]) dX9_begin1_6 (by decide) rfl ?_
  refine aw_iload_n dX9_begin1_7 rfl ?_
  refine aw_S1x dX9_begin1_8 clX9_64 ⟨by decide, by decide⟩ (c_X9_lineOf h0 (by omega)) (by decide) (by decide) rfl rfl (by simp only [List.length_cons, List.length_nil]; omega) ?_
  refine aw_istore_n (ls2 := [_, _, _, _, _, _, _]) dX9_begin1_11 (by decide) rfl ?_
  refine aw_aload_n dX9_begin1_12 rfl ?_
  refine aw_iload_n dX9_begin1_13 rfl ?_
  refine aw_iload_n dX9_begin1_14 rfl ?_
  refine aw_S1x dX9_begin1_15 clX9_67 ⟨by decide, by decide⟩ (c_X9_earlyOf ⟨by omega, by omega⟩) (by decide) (by decide) rfl rfl (by simp only [List.length_cons, List.length_nil]; omega) ?_
  refine aw_V2x dX9_begin1_18 clX9_40 ⟨by decide, by decide⟩ (c := 9) (N := 11) (by decide) (by decide +kernel) rfl c_X9_pageAt (by decide) (by decide) rfl rfl (by simp only [List.length_cons, List.length_nil]; omega) ?_
  refine aw_istore (ls2 := [_, _, _, _, _, _, _]) dX9_begin1_21 (by decide) rfl ?_
  refine aw_iload_n dX9_begin1_23 rfl ?_
  refine aw_S1x dX9_begin1_24 clX9_36 ⟨by decide, by decide⟩ (c_X9_isLate (p := p) ⟨by omega, by omega⟩) (by decide) (by decide) rfl rfl (by simp only [List.length_cons, List.length_nil]; omega) ?_
  refine aw_if_eq (tgt := 56) dX9_begin1_27 (by decide) ⟨by omega, by omega⟩ (fun h27 => ?_) (fun h27 => ?_)
  · refine aw_iconst dX9_begin1_56 ?_
    refine aw_istore (ls2 := [_, _, _, _, _, _, _]) dX9_begin1_57 (by decide) rfl ?_
    refine aw_aload_n dX9_begin1_59 rfl ?_
    refine aw_getr (x := 126) dX9_begin1_60 ci9 (by decide) fX9_7 (by decide) (by decide +kernel) rfl ((hHR 125 0 (by decide) (by decide +kernel)).trans rfl) ?_
    refine aw_bipush dX9_begin1_63 (by decide) ?_
    refine aw_dup2 dX9_begin1_65 ?_
    refine aw_iald (N := 256) dX9_begin1_66 (Or.inl ⟨(by decide), (by decide +kernel)⟩) (by decide) (by decide) (by decide) (pa_gi 126 _ _ (by decide)) ?_
    refine aw_iconst dX9_begin1_67 ?_
    refine aw_iadd dX9_begin1_68 ?_
    refine aw_iast (N := 256) dX9_begin1_69 (by decide) (by decide +kernel) (by decide) (by decide) (by decide) (pa_ui 126 _ _ _ (by decide)) ?_
    refine aw_aload_n dX9_begin1_70 rfl ?_
    refine aw_getr (x := 126) dX9_begin1_71 ci9 (by decide) fX9_7 (by decide) (by decide +kernel) rfl ((hHR 125 0 (by decide) (by decide +kernel)).trans rfl) ?_
    refine aw_sipush dX9_begin1_74 (by decide) ?_
    refine aw_iload_n dX9_begin1_77 rfl ?_
    refine aw_iast (N := 256) dX9_begin1_78 (by decide) (by decide +kernel) (by decide) (by decide) (by decide) (pa_ui 126 _ _ _ (by decide)) ?_
    refine aw_aload_n dX9_begin1_79 rfl ?_
    refine aw_getr (x := 126) dX9_begin1_80 ci9 (by decide) fX9_7 (by decide) (by decide +kernel) rfl ((hHR 125 0 (by decide) (by decide +kernel)).trans rfl) ?_
    refine aw_sipush dX9_begin1_83 (by decide) ?_
    refine aw_aload_n dX9_begin1_86 rfl ?_
    refine aw_getr (x := 126) dX9_begin1_87 ci9 (by decide) fX9_7 (by decide) (by decide +kernel) rfl ((hHR 125 0 (by decide) (by decide +kernel)).trans rfl) ?_
    refine aw_sipush dX9_begin1_90 (by decide) ?_
    refine aw_iald (N := 256) dX9_begin1_93 (Or.inl ⟨(by decide), (by decide +kernel)⟩) (by decide) (by decide) (by decide) (pa_gi 126 _ _ (by decide)) ?_
    refine aw_iast (N := 256) dX9_begin1_94 (by decide) (by decide +kernel) (by decide) (by decide) (by decide) (pa_ui 126 _ _ _ (by decide)) ?_
    refine aw_aload_n dX9_begin1_95 rfl ?_
    refine aw_getr (x := 126) dX9_begin1_96 ci9 (by decide) fX9_7 (by decide) (by decide +kernel) rfl ((hHR 125 0 (by decide) (by decide +kernel)).trans rfl) ?_
    refine aw_sipush dX9_begin1_99 (by decide) ?_
    refine aw_aload_n dX9_begin1_102 rfl ?_
    refine aw_getr (x := 126) dX9_begin1_103 ci9 (by decide) fX9_7 (by decide) (by decide +kernel) rfl ((hHR 125 0 (by decide) (by decide +kernel)).trans rfl) ?_
    refine aw_sipush dX9_begin1_106 (by decide) ?_
    refine aw_iald (N := 256) dX9_begin1_109 (Or.inl ⟨(by decide), (by decide +kernel)⟩) (by decide) (by decide) (by decide) (pa_gi 126 _ _ (by decide)) ?_
    refine aw_iast (N := 256) dX9_begin1_110 (by decide) (by decide +kernel) (by decide) (by decide) (by decide) (pa_ui 126 _ _ _ (by decide)) ?_
    refine aw_aload_n dX9_begin1_111 rfl ?_
    refine aw_getr (x := 126) dX9_begin1_112 ci9 (by decide) fX9_7 (by decide) (by decide +kernel) rfl ((hHR 125 0 (by decide) (by decide +kernel)).trans rfl) ?_
    refine aw_sipush dX9_begin1_115 (by decide) ?_
    refine aw_aload_n dX9_begin1_118 rfl ?_
    refine aw_getr (x := 126) dX9_begin1_119 ci9 (by decide) fX9_7 (by decide) (by decide +kernel) rfl ((hHR 125 0 (by decide) (by decide +kernel)).trans rfl) ?_
    refine aw_sipush dX9_begin1_122 (by decide) ?_
    refine aw_iald (N := 256) dX9_begin1_125 (Or.inl ⟨(by decide), (by decide +kernel)⟩) (by decide) (by decide) (by decide) (pa_gi 126 _ _ (by decide)) ?_
    refine aw_iast (N := 256) dX9_begin1_126 (by decide) (by decide +kernel) (by decide) (by decide) (by decide) (pa_ui 126 _ _ _ (by decide)) ?_
    refine aw_aload_n dX9_begin1_127 rfl ?_
    refine aw_getr (x := 126) dX9_begin1_128 ci9 (by decide) fX9_7 (by decide) (by decide +kernel) rfl ((hHR 125 0 (by decide) (by decide +kernel)).trans rfl) ?_
    refine aw_sipush dX9_begin1_131 (by decide) ?_
    refine aw_aload_n dX9_begin1_134 rfl ?_
    refine aw_getr (x := 126) dX9_begin1_135 ci9 (by decide) fX9_7 (by decide) (by decide +kernel) rfl ((hHR 125 0 (by decide) (by decide +kernel)).trans rfl) ?_
    refine aw_bipush dX9_begin1_138 (by decide) ?_
    refine aw_iald (N := 256) dX9_begin1_140 (Or.inl ⟨(by decide), (by decide +kernel)⟩) (by decide) (by decide) (by decide) (pa_gi 126 _ _ (by decide)) ?_
    refine aw_iast (N := 256) dX9_begin1_141 (by decide) (by decide +kernel) (by decide) (by decide) (by decide) (pa_ui 126 _ _ _ (by decide)) ?_
    refine aw_aload_n dX9_begin1_142 rfl ?_
    refine aw_getr (x := 126) dX9_begin1_143 ci9 (by decide) fX9_7 (by decide) (by decide +kernel) rfl ((hHR 125 0 (by decide) (by decide +kernel)).trans rfl) ?_
    refine aw_sipush dX9_begin1_146 (by decide) ?_
    refine aw_iload dX9_begin1_149 rfl ?_
    refine aw_if_eq (tgt := 158) dX9_begin1_151 (by decide) ⟨by decide, by decide⟩ (fun h151 => ?_) (fun h151 => ?_)
    · refine aw_iconst dX9_begin1_158 ?_
      refine aw_iast (N := 256) dX9_begin1_159 (by decide) (by decide +kernel) (by decide) (by decide) (by decide) (pa_ui 126 _ _ _ (by decide)) ?_
      refine aw_aload_n dX9_begin1_160 rfl ?_
      refine aw_getr (x := 126) dX9_begin1_161 ci9 (by decide) fX9_7 (by decide) (by decide +kernel) rfl ((hHR 125 0 (by decide) (by decide +kernel)).trans rfl) ?_
      refine aw_sipush dX9_begin1_164 (by decide) ?_
      refine aw_aload_n dX9_begin1_167 rfl ?_
      refine aw_getr (x := 126) dX9_begin1_168 ci9 (by decide) fX9_7 (by decide) (by decide +kernel) rfl ((hHR 125 0 (by decide) (by decide +kernel)).trans rfl) ?_
      refine aw_bipush dX9_begin1_171 (by decide) ?_
      refine aw_iload_n dX9_begin1_173 rfl ?_
      refine aw_S1x dX9_begin1_174 clX9_36 ⟨by decide, by decide⟩ (c_X9_isLate (p := p) ⟨by omega, by omega⟩) (by decide) (by decide) rfl rfl (by simp only [List.length_cons, List.length_nil]; omega) ?_
      refine aw_if_eq (tgt := 184) dX9_begin1_177 (by decide) ⟨by omega, by omega⟩ (fun h177 => ?_) (fun h177 => ?_)
      · refine aw_iconst dX9_begin1_184 ?_
        refine aw_iadd dX9_begin1_185 ?_
        refine aw_iald (N := 256) dX9_begin1_186 (Or.inl ⟨(by decide), (by decide +kernel)⟩) (by omega) (by omega) (by decide) (pa_gi 126 _ _ (by omega)) ?_
        refine aw_aload_n dX9_begin1_187 rfl ?_
        refine aw_getr (x := 126) dX9_begin1_188 ci9 (by decide) fX9_7 (by decide) (by decide +kernel) rfl ((hHR 125 0 (by decide) (by decide +kernel)).trans rfl) ?_
        refine aw_bipush dX9_begin1_191 (by decide) ?_
        refine aw_iload_n dX9_begin1_193 rfl ?_
        refine aw_iadd dX9_begin1_194 ?_
        refine aw_iald (N := 256) dX9_begin1_195 (Or.inl ⟨(by decide), (by decide +kernel)⟩) (by omega) (by omega) (by decide) (pa_gi 126 _ _ (by omega)) ?_
        refine aw_iadd dX9_begin1_196 ?_
        refine aw_aload_n dX9_begin1_197 rfl ?_
        refine aw_getr (x := 126) dX9_begin1_198 ci9 (by decide) fX9_7 (by decide) (by decide +kernel) rfl ((hHR 125 0 (by decide) (by decide +kernel)).trans rfl) ?_
        refine aw_bipush dX9_begin1_201 (by decide) ?_
        refine aw_iload_n dX9_begin1_203 rfl ?_
        refine aw_iadd dX9_begin1_204 ?_
        refine aw_iald (N := 256) dX9_begin1_205 (Or.inl ⟨(by decide), (by decide +kernel)⟩) (by omega) (by omega) (by decide) (pa_gi 126 _ _ (by omega)) ?_
        refine aw_aload_n dX9_begin1_206 rfl ?_
        refine aw_getr (x := 126) dX9_begin1_207 ci9 (by decide) fX9_7 (by decide) (by decide +kernel) rfl ((hHR 125 0 (by decide) (by decide +kernel)).trans rfl) ?_
        refine aw_bipush dX9_begin1_210 (by decide) ?_
        refine aw_iald (N := 256) dX9_begin1_212 (Or.inl ⟨(by decide), (by decide +kernel)⟩) (by decide) (by decide) (by decide) (pa_gi 126 _ _ (by decide)) ?_
        refine aw_idiv dX9_begin1_213 (show 0 ≤ bg1 s p 0 (6 + s 2) by rw [e6]; omega) (show InR (bg1 s p 0 (6 + s 2)) by rw [e6]; exact ⟨by omega, by omega⟩) (show 0 < bg1 s p 0 23 by rw [e23]; omega) (show InR (bg1 s p 0 23) by rw [e23]; exact ⟨by omega, by omega⟩) ?_
        refine aw_iadd dX9_begin1_214 ?_
        refine aw_iast (N := 256) dX9_begin1_215 (by decide) (by decide +kernel) (by decide) (by decide) (by decide) (pa_ui 126 _ _ _ (by decide)) ?_
        refine aw_aload_n dX9_begin1_216 rfl ?_
        refine aw_getr (x := 126) dX9_begin1_217 ci9 (by decide) fX9_7 (by decide) (by decide +kernel) rfl ((hHR 125 0 (by decide) (by decide +kernel)).trans rfl) ?_
        refine aw_sipush dX9_begin1_220 (by decide) ?_
        refine aw_iconst dX9_begin1_223 ?_
        refine aw_iast (N := 256) dX9_begin1_224 (by decide) (by decide +kernel) (by decide) (by decide) (by decide) (pa_ui 126 _ _ _ (by decide)) ?_
        refine aw_aload_n dX9_begin1_225 rfl ?_
        refine aw_getr (x := 126) dX9_begin1_226 ci9 (by decide) fX9_7 (by decide) (by decide +kernel) rfl ((hHR 125 0 (by decide) (by decide +kernel)).trans rfl) ?_
        refine aw_aload_n dX9_begin1_229 rfl ?_
        refine aw_iload_n dX9_begin1_230 rfl ?_
        refine aw_iload_n dX9_begin1_231 rfl ?_
        refine aw_V2x dX9_begin1_232 clX9_40 ⟨by decide, by decide⟩ (c := 9) (N := 11) (by decide) (by decide +kernel) rfl c_X9_pageAt (by decide) (by decide) rfl rfl (by simp only [List.length_cons, List.length_nil]; omega) ?_
        refine aw_iconst dX9_begin1_235 ?_
        refine aw_iast (N := 256) dX9_begin1_236 (by decide) (by decide +kernel) (by omega) (by omega) (by decide) (pa_ui 126 _ _ _ (by omega)) ?_
        refine aw_iload dX9_begin1_237 rfl ?_
        refine aw_if_eq (tgt := 293) dX9_begin1_239 (by decide) ⟨by decide, by decide⟩ (fun h239 => ?_) (fun h239 => ?_)
        · have e1 : mkF s p = 0 := by
            unfold mkF
            rw [if_neg (by omega)]
          have e2 : lat p = 0 := by omega
          have e11 : 0 < bg2 (bg1 s p 0) (s 2) p 0 11 := by
            have g := bgB_11 hM h0 h1
            unfold bgB bg3 at g
            rw [e1, e2, if_neg (by decide)] at g
            rw [g]; exact h11
          refine aw_aload_n dX9_begin1_293 rfl ?_
          refine aw_V0v dX9_begin1_294 clX9_70 ⟨by decide, by decide⟩ (c := 9) (N := 11) (by decide) (by decide +kernel) rfl (c_X9_goesFirst (s := bg2 (bg1 s p 0) (s 2) p 0) hHR (bg2_M (bg1_M hM h10 h0 h1) hb h0 h1 (by simp)) e11) (by decide) (by decide) rfl rfl (by simp only [List.length_cons, List.length_nil]; omega) ?_
          refine aw_vret dX9_begin1_297 rfl (by decide) (by decide) ?_
          unfold bgF bg3
          rw [e1, e2, if_neg (by decide)]
          exact EX.rf
        · exact absurd h239 (by decide)
      · exact absurd h27 h177
    · exact absurd h151 (by decide)
  · refine aw_aload_n dX9_begin1_30 rfl ?_
    refine aw_getr (x := 126) dX9_begin1_31 ci9 (by decide) fX9_7 (by decide) (by decide +kernel) rfl ((hHR 125 0 (by decide) (by decide +kernel)).trans rfl) ?_
    refine aw_bipush dX9_begin1_34 (by decide) ?_
    refine aw_iald (N := 256) dX9_begin1_36 (Or.inl ⟨(by decide), (by decide +kernel)⟩) (by decide) (by decide) (by decide) (pa_gi 126 _ _ (by decide)) ?_
    refine aw_iconst dX9_begin1_37 ?_
    refine aw_ic_ne (tgt := 56) dX9_begin1_38 (by decide) (hM.r _ (by unfold xc; omega)) ⟨by decide, by decide⟩ (fun h38 => ?_) (fun h38 => ?_)
    · refine aw_iconst dX9_begin1_56 ?_
      refine aw_istore (ls2 := [_, _, _, _, _, _, _]) dX9_begin1_57 (by decide) rfl ?_
      refine aw_aload_n dX9_begin1_59 rfl ?_
      refine aw_getr (x := 126) dX9_begin1_60 ci9 (by decide) fX9_7 (by decide) (by decide +kernel) rfl ((hHR 125 0 (by decide) (by decide +kernel)).trans rfl) ?_
      refine aw_bipush dX9_begin1_63 (by decide) ?_
      refine aw_dup2 dX9_begin1_65 ?_
      refine aw_iald (N := 256) dX9_begin1_66 (Or.inl ⟨(by decide), (by decide +kernel)⟩) (by decide) (by decide) (by decide) (pa_gi 126 _ _ (by decide)) ?_
      refine aw_iconst dX9_begin1_67 ?_
      refine aw_iadd dX9_begin1_68 ?_
      refine aw_iast (N := 256) dX9_begin1_69 (by decide) (by decide +kernel) (by decide) (by decide) (by decide) (pa_ui 126 _ _ _ (by decide)) ?_
      refine aw_aload_n dX9_begin1_70 rfl ?_
      refine aw_getr (x := 126) dX9_begin1_71 ci9 (by decide) fX9_7 (by decide) (by decide +kernel) rfl ((hHR 125 0 (by decide) (by decide +kernel)).trans rfl) ?_
      refine aw_sipush dX9_begin1_74 (by decide) ?_
      refine aw_iload_n dX9_begin1_77 rfl ?_
      refine aw_iast (N := 256) dX9_begin1_78 (by decide) (by decide +kernel) (by decide) (by decide) (by decide) (pa_ui 126 _ _ _ (by decide)) ?_
      refine aw_aload_n dX9_begin1_79 rfl ?_
      refine aw_getr (x := 126) dX9_begin1_80 ci9 (by decide) fX9_7 (by decide) (by decide +kernel) rfl ((hHR 125 0 (by decide) (by decide +kernel)).trans rfl) ?_
      refine aw_sipush dX9_begin1_83 (by decide) ?_
      refine aw_aload_n dX9_begin1_86 rfl ?_
      refine aw_getr (x := 126) dX9_begin1_87 ci9 (by decide) fX9_7 (by decide) (by decide +kernel) rfl ((hHR 125 0 (by decide) (by decide +kernel)).trans rfl) ?_
      refine aw_sipush dX9_begin1_90 (by decide) ?_
      refine aw_iald (N := 256) dX9_begin1_93 (Or.inl ⟨(by decide), (by decide +kernel)⟩) (by decide) (by decide) (by decide) (pa_gi 126 _ _ (by decide)) ?_
      refine aw_iast (N := 256) dX9_begin1_94 (by decide) (by decide +kernel) (by decide) (by decide) (by decide) (pa_ui 126 _ _ _ (by decide)) ?_
      refine aw_aload_n dX9_begin1_95 rfl ?_
      refine aw_getr (x := 126) dX9_begin1_96 ci9 (by decide) fX9_7 (by decide) (by decide +kernel) rfl ((hHR 125 0 (by decide) (by decide +kernel)).trans rfl) ?_
      refine aw_sipush dX9_begin1_99 (by decide) ?_
      refine aw_aload_n dX9_begin1_102 rfl ?_
      refine aw_getr (x := 126) dX9_begin1_103 ci9 (by decide) fX9_7 (by decide) (by decide +kernel) rfl ((hHR 125 0 (by decide) (by decide +kernel)).trans rfl) ?_
      refine aw_sipush dX9_begin1_106 (by decide) ?_
      refine aw_iald (N := 256) dX9_begin1_109 (Or.inl ⟨(by decide), (by decide +kernel)⟩) (by decide) (by decide) (by decide) (pa_gi 126 _ _ (by decide)) ?_
      refine aw_iast (N := 256) dX9_begin1_110 (by decide) (by decide +kernel) (by decide) (by decide) (by decide) (pa_ui 126 _ _ _ (by decide)) ?_
      refine aw_aload_n dX9_begin1_111 rfl ?_
      refine aw_getr (x := 126) dX9_begin1_112 ci9 (by decide) fX9_7 (by decide) (by decide +kernel) rfl ((hHR 125 0 (by decide) (by decide +kernel)).trans rfl) ?_
      refine aw_sipush dX9_begin1_115 (by decide) ?_
      refine aw_aload_n dX9_begin1_118 rfl ?_
      refine aw_getr (x := 126) dX9_begin1_119 ci9 (by decide) fX9_7 (by decide) (by decide +kernel) rfl ((hHR 125 0 (by decide) (by decide +kernel)).trans rfl) ?_
      refine aw_sipush dX9_begin1_122 (by decide) ?_
      refine aw_iald (N := 256) dX9_begin1_125 (Or.inl ⟨(by decide), (by decide +kernel)⟩) (by decide) (by decide) (by decide) (pa_gi 126 _ _ (by decide)) ?_
      refine aw_iast (N := 256) dX9_begin1_126 (by decide) (by decide +kernel) (by decide) (by decide) (by decide) (pa_ui 126 _ _ _ (by decide)) ?_
      refine aw_aload_n dX9_begin1_127 rfl ?_
      refine aw_getr (x := 126) dX9_begin1_128 ci9 (by decide) fX9_7 (by decide) (by decide +kernel) rfl ((hHR 125 0 (by decide) (by decide +kernel)).trans rfl) ?_
      refine aw_sipush dX9_begin1_131 (by decide) ?_
      refine aw_aload_n dX9_begin1_134 rfl ?_
      refine aw_getr (x := 126) dX9_begin1_135 ci9 (by decide) fX9_7 (by decide) (by decide +kernel) rfl ((hHR 125 0 (by decide) (by decide +kernel)).trans rfl) ?_
      refine aw_bipush dX9_begin1_138 (by decide) ?_
      refine aw_iald (N := 256) dX9_begin1_140 (Or.inl ⟨(by decide), (by decide +kernel)⟩) (by decide) (by decide) (by decide) (pa_gi 126 _ _ (by decide)) ?_
      refine aw_iast (N := 256) dX9_begin1_141 (by decide) (by decide +kernel) (by decide) (by decide) (by decide) (pa_ui 126 _ _ _ (by decide)) ?_
      refine aw_aload_n dX9_begin1_142 rfl ?_
      refine aw_getr (x := 126) dX9_begin1_143 ci9 (by decide) fX9_7 (by decide) (by decide +kernel) rfl ((hHR 125 0 (by decide) (by decide +kernel)).trans rfl) ?_
      refine aw_sipush dX9_begin1_146 (by decide) ?_
      refine aw_iload dX9_begin1_149 rfl ?_
      refine aw_if_eq (tgt := 158) dX9_begin1_151 (by decide) ⟨by decide, by decide⟩ (fun h151 => ?_) (fun h151 => ?_)
      · refine aw_iconst dX9_begin1_158 ?_
        refine aw_iast (N := 256) dX9_begin1_159 (by decide) (by decide +kernel) (by decide) (by decide) (by decide) (pa_ui 126 _ _ _ (by decide)) ?_
        refine aw_aload_n dX9_begin1_160 rfl ?_
        refine aw_getr (x := 126) dX9_begin1_161 ci9 (by decide) fX9_7 (by decide) (by decide +kernel) rfl ((hHR 125 0 (by decide) (by decide +kernel)).trans rfl) ?_
        refine aw_sipush dX9_begin1_164 (by decide) ?_
        refine aw_aload_n dX9_begin1_167 rfl ?_
        refine aw_getr (x := 126) dX9_begin1_168 ci9 (by decide) fX9_7 (by decide) (by decide +kernel) rfl ((hHR 125 0 (by decide) (by decide +kernel)).trans rfl) ?_
        refine aw_bipush dX9_begin1_171 (by decide) ?_
        refine aw_iload_n dX9_begin1_173 rfl ?_
        refine aw_S1x dX9_begin1_174 clX9_36 ⟨by decide, by decide⟩ (c_X9_isLate (p := p) ⟨by omega, by omega⟩) (by decide) (by decide) rfl rfl (by simp only [List.length_cons, List.length_nil]; omega) ?_
        refine aw_if_eq (tgt := 184) dX9_begin1_177 (by decide) ⟨by omega, by omega⟩ (fun h177 => ?_) (fun h177 => ?_)
        · exact absurd h177 h27
        · refine aw_iconst dX9_begin1_180 ?_
          refine aw_goto (tgt := 185) dX9_begin1_181 (by decide) ?_
          refine aw_iadd dX9_begin1_185 ?_
          refine aw_iald (N := 256) dX9_begin1_186 (Or.inl ⟨(by decide), (by decide +kernel)⟩) (by omega) (by omega) (by decide) (pa_gi 126 _ _ (by omega)) ?_
          refine aw_aload_n dX9_begin1_187 rfl ?_
          refine aw_getr (x := 126) dX9_begin1_188 ci9 (by decide) fX9_7 (by decide) (by decide +kernel) rfl ((hHR 125 0 (by decide) (by decide +kernel)).trans rfl) ?_
          refine aw_bipush dX9_begin1_191 (by decide) ?_
          refine aw_iload_n dX9_begin1_193 rfl ?_
          refine aw_iadd dX9_begin1_194 ?_
          refine aw_iald (N := 256) dX9_begin1_195 (Or.inl ⟨(by decide), (by decide +kernel)⟩) (by omega) (by omega) (by decide) (pa_gi 126 _ _ (by omega)) ?_
          refine aw_iadd dX9_begin1_196 ?_
          refine aw_aload_n dX9_begin1_197 rfl ?_
          refine aw_getr (x := 126) dX9_begin1_198 ci9 (by decide) fX9_7 (by decide) (by decide +kernel) rfl ((hHR 125 0 (by decide) (by decide +kernel)).trans rfl) ?_
          refine aw_bipush dX9_begin1_201 (by decide) ?_
          refine aw_iload_n dX9_begin1_203 rfl ?_
          refine aw_iadd dX9_begin1_204 ?_
          refine aw_iald (N := 256) dX9_begin1_205 (Or.inl ⟨(by decide), (by decide +kernel)⟩) (by omega) (by omega) (by decide) (pa_gi 126 _ _ (by omega)) ?_
          refine aw_aload_n dX9_begin1_206 rfl ?_
          refine aw_getr (x := 126) dX9_begin1_207 ci9 (by decide) fX9_7 (by decide) (by decide +kernel) rfl ((hHR 125 0 (by decide) (by decide +kernel)).trans rfl) ?_
          refine aw_bipush dX9_begin1_210 (by decide) ?_
          refine aw_iald (N := 256) dX9_begin1_212 (Or.inl ⟨(by decide), (by decide +kernel)⟩) (by decide) (by decide) (by decide) (pa_gi 126 _ _ (by decide)) ?_
          refine aw_idiv dX9_begin1_213 (show 0 ≤ bg1 s p 0 (6 + s 2) by rw [e6]; omega) (show InR (bg1 s p 0 (6 + s 2)) by rw [e6]; exact ⟨by omega, by omega⟩) (show 0 < bg1 s p 0 23 by rw [e23]; omega) (show InR (bg1 s p 0 23) by rw [e23]; exact ⟨by omega, by omega⟩) ?_
          refine aw_iadd dX9_begin1_214 ?_
          refine aw_iast (N := 256) dX9_begin1_215 (by decide) (by decide +kernel) (by decide) (by decide) (by decide) (pa_ui 126 _ _ _ (by decide)) ?_
          refine aw_aload_n dX9_begin1_216 rfl ?_
          refine aw_getr (x := 126) dX9_begin1_217 ci9 (by decide) fX9_7 (by decide) (by decide +kernel) rfl ((hHR 125 0 (by decide) (by decide +kernel)).trans rfl) ?_
          refine aw_sipush dX9_begin1_220 (by decide) ?_
          refine aw_iconst dX9_begin1_223 ?_
          refine aw_iast (N := 256) dX9_begin1_224 (by decide) (by decide +kernel) (by decide) (by decide) (by decide) (pa_ui 126 _ _ _ (by decide)) ?_
          refine aw_aload_n dX9_begin1_225 rfl ?_
          refine aw_getr (x := 126) dX9_begin1_226 ci9 (by decide) fX9_7 (by decide) (by decide +kernel) rfl ((hHR 125 0 (by decide) (by decide +kernel)).trans rfl) ?_
          refine aw_aload_n dX9_begin1_229 rfl ?_
          refine aw_iload_n dX9_begin1_230 rfl ?_
          refine aw_iload_n dX9_begin1_231 rfl ?_
          refine aw_V2x dX9_begin1_232 clX9_40 ⟨by decide, by decide⟩ (c := 9) (N := 11) (by decide) (by decide +kernel) rfl c_X9_pageAt (by decide) (by decide) rfl rfl (by simp only [List.length_cons, List.length_nil]; omega) ?_
          refine aw_iconst dX9_begin1_235 ?_
          refine aw_iast (N := 256) dX9_begin1_236 (by decide) (by decide +kernel) (by omega) (by omega) (by decide) (pa_ui 126 _ _ _ (by omega)) ?_
          refine aw_iload dX9_begin1_237 rfl ?_
          refine aw_if_eq (tgt := 293) dX9_begin1_239 (by decide) ⟨by decide, by decide⟩ (fun h239 => ?_) (fun h239 => ?_)
          · have e1 : mkF s p = 0 := by
              unfold mkF
              rw [if_neg (by omega)]
            have e2 : lat p = 1 := by omega
            have e11 : 0 < bg2 (bg1 s p 0) (s 2) p 1 11 := by
              have g := bgB_11 hM h0 h1
              unfold bgB bg3 at g
              rw [e1, e2, if_neg (by decide)] at g
              rw [g]; exact h11
            refine aw_aload_n dX9_begin1_293 rfl ?_
            refine aw_V0v dX9_begin1_294 clX9_70 ⟨by decide, by decide⟩ (c := 9) (N := 11) (by decide) (by decide +kernel) rfl (c_X9_goesFirst (s := bg2 (bg1 s p 0) (s 2) p 1) hHR (bg2_M (bg1_M hM h10 h0 h1) hb h0 h1 (by simp)) e11) (by decide) (by decide) rfl rfl (by simp only [List.length_cons, List.length_nil]; omega) ?_
            refine aw_vret dX9_begin1_297 rfl (by decide) (by decide) ?_
            unfold bgF bg3
            rw [e1, e2, if_neg (by decide)]
            exact EX.rf
          · exact absurd h239 (by decide)
      · exact absurd h151 (by decide)
    · refine aw_aload_n dX9_begin1_41 rfl ?_
      refine aw_getr (x := 126) dX9_begin1_42 ci9 (by decide) fX9_7 (by decide) (by decide +kernel) rfl ((hHR 125 0 (by decide) (by decide +kernel)).trans rfl) ?_
      refine aw_iload dX9_begin1_45 rfl ?_
      refine aw_iald (N := 256) dX9_begin1_47 (Or.inl ⟨(by decide), (by decide +kernel)⟩) (by omega) (by omega) (by decide) (pa_gi 126 _ _ (by omega)) ?_
      refine aw_iconst dX9_begin1_48 ?_
      refine aw_ic_ne (tgt := 56) dX9_begin1_49 (by decide) (hM.r _ (by unfold xc; omega)) ⟨by decide, by decide⟩ (fun h49 => ?_) (fun h49 => ?_)
      · refine aw_iconst dX9_begin1_56 ?_
        refine aw_istore (ls2 := [_, _, _, _, _, _, _]) dX9_begin1_57 (by decide) rfl ?_
        refine aw_aload_n dX9_begin1_59 rfl ?_
        refine aw_getr (x := 126) dX9_begin1_60 ci9 (by decide) fX9_7 (by decide) (by decide +kernel) rfl ((hHR 125 0 (by decide) (by decide +kernel)).trans rfl) ?_
        refine aw_bipush dX9_begin1_63 (by decide) ?_
        refine aw_dup2 dX9_begin1_65 ?_
        refine aw_iald (N := 256) dX9_begin1_66 (Or.inl ⟨(by decide), (by decide +kernel)⟩) (by decide) (by decide) (by decide) (pa_gi 126 _ _ (by decide)) ?_
        refine aw_iconst dX9_begin1_67 ?_
        refine aw_iadd dX9_begin1_68 ?_
        refine aw_iast (N := 256) dX9_begin1_69 (by decide) (by decide +kernel) (by decide) (by decide) (by decide) (pa_ui 126 _ _ _ (by decide)) ?_
        refine aw_aload_n dX9_begin1_70 rfl ?_
        refine aw_getr (x := 126) dX9_begin1_71 ci9 (by decide) fX9_7 (by decide) (by decide +kernel) rfl ((hHR 125 0 (by decide) (by decide +kernel)).trans rfl) ?_
        refine aw_sipush dX9_begin1_74 (by decide) ?_
        refine aw_iload_n dX9_begin1_77 rfl ?_
        refine aw_iast (N := 256) dX9_begin1_78 (by decide) (by decide +kernel) (by decide) (by decide) (by decide) (pa_ui 126 _ _ _ (by decide)) ?_
        refine aw_aload_n dX9_begin1_79 rfl ?_
        refine aw_getr (x := 126) dX9_begin1_80 ci9 (by decide) fX9_7 (by decide) (by decide +kernel) rfl ((hHR 125 0 (by decide) (by decide +kernel)).trans rfl) ?_
        refine aw_sipush dX9_begin1_83 (by decide) ?_
        refine aw_aload_n dX9_begin1_86 rfl ?_
        refine aw_getr (x := 126) dX9_begin1_87 ci9 (by decide) fX9_7 (by decide) (by decide +kernel) rfl ((hHR 125 0 (by decide) (by decide +kernel)).trans rfl) ?_
        refine aw_sipush dX9_begin1_90 (by decide) ?_
        refine aw_iald (N := 256) dX9_begin1_93 (Or.inl ⟨(by decide), (by decide +kernel)⟩) (by decide) (by decide) (by decide) (pa_gi 126 _ _ (by decide)) ?_
        refine aw_iast (N := 256) dX9_begin1_94 (by decide) (by decide +kernel) (by decide) (by decide) (by decide) (pa_ui 126 _ _ _ (by decide)) ?_
        refine aw_aload_n dX9_begin1_95 rfl ?_
        refine aw_getr (x := 126) dX9_begin1_96 ci9 (by decide) fX9_7 (by decide) (by decide +kernel) rfl ((hHR 125 0 (by decide) (by decide +kernel)).trans rfl) ?_
        refine aw_sipush dX9_begin1_99 (by decide) ?_
        refine aw_aload_n dX9_begin1_102 rfl ?_
        refine aw_getr (x := 126) dX9_begin1_103 ci9 (by decide) fX9_7 (by decide) (by decide +kernel) rfl ((hHR 125 0 (by decide) (by decide +kernel)).trans rfl) ?_
        refine aw_sipush dX9_begin1_106 (by decide) ?_
        refine aw_iald (N := 256) dX9_begin1_109 (Or.inl ⟨(by decide), (by decide +kernel)⟩) (by decide) (by decide) (by decide) (pa_gi 126 _ _ (by decide)) ?_
        refine aw_iast (N := 256) dX9_begin1_110 (by decide) (by decide +kernel) (by decide) (by decide) (by decide) (pa_ui 126 _ _ _ (by decide)) ?_
        refine aw_aload_n dX9_begin1_111 rfl ?_
        refine aw_getr (x := 126) dX9_begin1_112 ci9 (by decide) fX9_7 (by decide) (by decide +kernel) rfl ((hHR 125 0 (by decide) (by decide +kernel)).trans rfl) ?_
        refine aw_sipush dX9_begin1_115 (by decide) ?_
        refine aw_aload_n dX9_begin1_118 rfl ?_
        refine aw_getr (x := 126) dX9_begin1_119 ci9 (by decide) fX9_7 (by decide) (by decide +kernel) rfl ((hHR 125 0 (by decide) (by decide +kernel)).trans rfl) ?_
        refine aw_sipush dX9_begin1_122 (by decide) ?_
        refine aw_iald (N := 256) dX9_begin1_125 (Or.inl ⟨(by decide), (by decide +kernel)⟩) (by decide) (by decide) (by decide) (pa_gi 126 _ _ (by decide)) ?_
        refine aw_iast (N := 256) dX9_begin1_126 (by decide) (by decide +kernel) (by decide) (by decide) (by decide) (pa_ui 126 _ _ _ (by decide)) ?_
        refine aw_aload_n dX9_begin1_127 rfl ?_
        refine aw_getr (x := 126) dX9_begin1_128 ci9 (by decide) fX9_7 (by decide) (by decide +kernel) rfl ((hHR 125 0 (by decide) (by decide +kernel)).trans rfl) ?_
        refine aw_sipush dX9_begin1_131 (by decide) ?_
        refine aw_aload_n dX9_begin1_134 rfl ?_
        refine aw_getr (x := 126) dX9_begin1_135 ci9 (by decide) fX9_7 (by decide) (by decide +kernel) rfl ((hHR 125 0 (by decide) (by decide +kernel)).trans rfl) ?_
        refine aw_bipush dX9_begin1_138 (by decide) ?_
        refine aw_iald (N := 256) dX9_begin1_140 (Or.inl ⟨(by decide), (by decide +kernel)⟩) (by decide) (by decide) (by decide) (pa_gi 126 _ _ (by decide)) ?_
        refine aw_iast (N := 256) dX9_begin1_141 (by decide) (by decide +kernel) (by decide) (by decide) (by decide) (pa_ui 126 _ _ _ (by decide)) ?_
        refine aw_aload_n dX9_begin1_142 rfl ?_
        refine aw_getr (x := 126) dX9_begin1_143 ci9 (by decide) fX9_7 (by decide) (by decide +kernel) rfl ((hHR 125 0 (by decide) (by decide +kernel)).trans rfl) ?_
        refine aw_sipush dX9_begin1_146 (by decide) ?_
        refine aw_iload dX9_begin1_149 rfl ?_
        refine aw_if_eq (tgt := 158) dX9_begin1_151 (by decide) ⟨by decide, by decide⟩ (fun h151 => ?_) (fun h151 => ?_)
        · refine aw_iconst dX9_begin1_158 ?_
          refine aw_iast (N := 256) dX9_begin1_159 (by decide) (by decide +kernel) (by decide) (by decide) (by decide) (pa_ui 126 _ _ _ (by decide)) ?_
          refine aw_aload_n dX9_begin1_160 rfl ?_
          refine aw_getr (x := 126) dX9_begin1_161 ci9 (by decide) fX9_7 (by decide) (by decide +kernel) rfl ((hHR 125 0 (by decide) (by decide +kernel)).trans rfl) ?_
          refine aw_sipush dX9_begin1_164 (by decide) ?_
          refine aw_aload_n dX9_begin1_167 rfl ?_
          refine aw_getr (x := 126) dX9_begin1_168 ci9 (by decide) fX9_7 (by decide) (by decide +kernel) rfl ((hHR 125 0 (by decide) (by decide +kernel)).trans rfl) ?_
          refine aw_bipush dX9_begin1_171 (by decide) ?_
          refine aw_iload_n dX9_begin1_173 rfl ?_
          refine aw_S1x dX9_begin1_174 clX9_36 ⟨by decide, by decide⟩ (c_X9_isLate (p := p) ⟨by omega, by omega⟩) (by decide) (by decide) rfl rfl (by simp only [List.length_cons, List.length_nil]; omega) ?_
          refine aw_if_eq (tgt := 184) dX9_begin1_177 (by decide) ⟨by omega, by omega⟩ (fun h177 => ?_) (fun h177 => ?_)
          · exact absurd h177 h27
          · refine aw_iconst dX9_begin1_180 ?_
            refine aw_goto (tgt := 185) dX9_begin1_181 (by decide) ?_
            refine aw_iadd dX9_begin1_185 ?_
            refine aw_iald (N := 256) dX9_begin1_186 (Or.inl ⟨(by decide), (by decide +kernel)⟩) (by omega) (by omega) (by decide) (pa_gi 126 _ _ (by omega)) ?_
            refine aw_aload_n dX9_begin1_187 rfl ?_
            refine aw_getr (x := 126) dX9_begin1_188 ci9 (by decide) fX9_7 (by decide) (by decide +kernel) rfl ((hHR 125 0 (by decide) (by decide +kernel)).trans rfl) ?_
            refine aw_bipush dX9_begin1_191 (by decide) ?_
            refine aw_iload_n dX9_begin1_193 rfl ?_
            refine aw_iadd dX9_begin1_194 ?_
            refine aw_iald (N := 256) dX9_begin1_195 (Or.inl ⟨(by decide), (by decide +kernel)⟩) (by omega) (by omega) (by decide) (pa_gi 126 _ _ (by omega)) ?_
            refine aw_iadd dX9_begin1_196 ?_
            refine aw_aload_n dX9_begin1_197 rfl ?_
            refine aw_getr (x := 126) dX9_begin1_198 ci9 (by decide) fX9_7 (by decide) (by decide +kernel) rfl ((hHR 125 0 (by decide) (by decide +kernel)).trans rfl) ?_
            refine aw_bipush dX9_begin1_201 (by decide) ?_
            refine aw_iload_n dX9_begin1_203 rfl ?_
            refine aw_iadd dX9_begin1_204 ?_
            refine aw_iald (N := 256) dX9_begin1_205 (Or.inl ⟨(by decide), (by decide +kernel)⟩) (by omega) (by omega) (by decide) (pa_gi 126 _ _ (by omega)) ?_
            refine aw_aload_n dX9_begin1_206 rfl ?_
            refine aw_getr (x := 126) dX9_begin1_207 ci9 (by decide) fX9_7 (by decide) (by decide +kernel) rfl ((hHR 125 0 (by decide) (by decide +kernel)).trans rfl) ?_
            refine aw_bipush dX9_begin1_210 (by decide) ?_
            refine aw_iald (N := 256) dX9_begin1_212 (Or.inl ⟨(by decide), (by decide +kernel)⟩) (by decide) (by decide) (by decide) (pa_gi 126 _ _ (by decide)) ?_
            refine aw_idiv dX9_begin1_213 (show 0 ≤ bg1 s p 0 (6 + s 2) by rw [e6]; omega) (show InR (bg1 s p 0 (6 + s 2)) by rw [e6]; exact ⟨by omega, by omega⟩) (show 0 < bg1 s p 0 23 by rw [e23]; omega) (show InR (bg1 s p 0 23) by rw [e23]; exact ⟨by omega, by omega⟩) ?_
            refine aw_iadd dX9_begin1_214 ?_
            refine aw_iast (N := 256) dX9_begin1_215 (by decide) (by decide +kernel) (by decide) (by decide) (by decide) (pa_ui 126 _ _ _ (by decide)) ?_
            refine aw_aload_n dX9_begin1_216 rfl ?_
            refine aw_getr (x := 126) dX9_begin1_217 ci9 (by decide) fX9_7 (by decide) (by decide +kernel) rfl ((hHR 125 0 (by decide) (by decide +kernel)).trans rfl) ?_
            refine aw_sipush dX9_begin1_220 (by decide) ?_
            refine aw_iconst dX9_begin1_223 ?_
            refine aw_iast (N := 256) dX9_begin1_224 (by decide) (by decide +kernel) (by decide) (by decide) (by decide) (pa_ui 126 _ _ _ (by decide)) ?_
            refine aw_aload_n dX9_begin1_225 rfl ?_
            refine aw_getr (x := 126) dX9_begin1_226 ci9 (by decide) fX9_7 (by decide) (by decide +kernel) rfl ((hHR 125 0 (by decide) (by decide +kernel)).trans rfl) ?_
            refine aw_aload_n dX9_begin1_229 rfl ?_
            refine aw_iload_n dX9_begin1_230 rfl ?_
            refine aw_iload_n dX9_begin1_231 rfl ?_
            refine aw_V2x dX9_begin1_232 clX9_40 ⟨by decide, by decide⟩ (c := 9) (N := 11) (by decide) (by decide +kernel) rfl c_X9_pageAt (by decide) (by decide) rfl rfl (by simp only [List.length_cons, List.length_nil]; omega) ?_
            refine aw_iconst dX9_begin1_235 ?_
            refine aw_iast (N := 256) dX9_begin1_236 (by decide) (by decide +kernel) (by omega) (by omega) (by decide) (pa_ui 126 _ _ _ (by omega)) ?_
            refine aw_iload dX9_begin1_237 rfl ?_
            refine aw_if_eq (tgt := 293) dX9_begin1_239 (by decide) ⟨by decide, by decide⟩ (fun h239 => ?_) (fun h239 => ?_)
            · have e1 : mkF s p = 0 := by
                unfold mkF
                rw [if_neg (by omega)]
              have e2 : lat p = 1 := by omega
              have e11 : 0 < bg2 (bg1 s p 0) (s 2) p 1 11 := by
                have g := bgB_11 hM h0 h1
                unfold bgB bg3 at g
                rw [e1, e2, if_neg (by decide)] at g
                rw [g]; exact h11
              refine aw_aload_n dX9_begin1_293 rfl ?_
              refine aw_V0v dX9_begin1_294 clX9_70 ⟨by decide, by decide⟩ (c := 9) (N := 11) (by decide) (by decide +kernel) rfl (c_X9_goesFirst (s := bg2 (bg1 s p 0) (s 2) p 1) hHR (bg2_M (bg1_M hM h10 h0 h1) hb h0 h1 (by simp)) e11) (by decide) (by decide) rfl rfl (by simp only [List.length_cons, List.length_nil]; omega) ?_
              refine aw_vret dX9_begin1_297 rfl (by decide) (by decide) ?_
              unfold bgF bg3
              rw [e1, e2, if_neg (by decide)]
              exact EX.rf
            · exact absurd h239 (by decide)
        · exact absurd h151 (by decide)
      · refine aw_iconst dX9_begin1_52 ?_
        refine aw_goto (tgt := 57) dX9_begin1_53 (by decide) ?_
        refine aw_istore (ls2 := [_, _, _, _, _, _, _]) dX9_begin1_57 (by decide) rfl ?_
        refine aw_aload_n dX9_begin1_59 rfl ?_
        refine aw_getr (x := 126) dX9_begin1_60 ci9 (by decide) fX9_7 (by decide) (by decide +kernel) rfl ((hHR 125 0 (by decide) (by decide +kernel)).trans rfl) ?_
        refine aw_bipush dX9_begin1_63 (by decide) ?_
        refine aw_dup2 dX9_begin1_65 ?_
        refine aw_iald (N := 256) dX9_begin1_66 (Or.inl ⟨(by decide), (by decide +kernel)⟩) (by decide) (by decide) (by decide) (pa_gi 126 _ _ (by decide)) ?_
        refine aw_iconst dX9_begin1_67 ?_
        refine aw_iadd dX9_begin1_68 ?_
        refine aw_iast (N := 256) dX9_begin1_69 (by decide) (by decide +kernel) (by decide) (by decide) (by decide) (pa_ui 126 _ _ _ (by decide)) ?_
        refine aw_aload_n dX9_begin1_70 rfl ?_
        refine aw_getr (x := 126) dX9_begin1_71 ci9 (by decide) fX9_7 (by decide) (by decide +kernel) rfl ((hHR 125 0 (by decide) (by decide +kernel)).trans rfl) ?_
        refine aw_sipush dX9_begin1_74 (by decide) ?_
        refine aw_iload_n dX9_begin1_77 rfl ?_
        refine aw_iast (N := 256) dX9_begin1_78 (by decide) (by decide +kernel) (by decide) (by decide) (by decide) (pa_ui 126 _ _ _ (by decide)) ?_
        refine aw_aload_n dX9_begin1_79 rfl ?_
        refine aw_getr (x := 126) dX9_begin1_80 ci9 (by decide) fX9_7 (by decide) (by decide +kernel) rfl ((hHR 125 0 (by decide) (by decide +kernel)).trans rfl) ?_
        refine aw_sipush dX9_begin1_83 (by decide) ?_
        refine aw_aload_n dX9_begin1_86 rfl ?_
        refine aw_getr (x := 126) dX9_begin1_87 ci9 (by decide) fX9_7 (by decide) (by decide +kernel) rfl ((hHR 125 0 (by decide) (by decide +kernel)).trans rfl) ?_
        refine aw_sipush dX9_begin1_90 (by decide) ?_
        refine aw_iald (N := 256) dX9_begin1_93 (Or.inl ⟨(by decide), (by decide +kernel)⟩) (by decide) (by decide) (by decide) (pa_gi 126 _ _ (by decide)) ?_
        refine aw_iast (N := 256) dX9_begin1_94 (by decide) (by decide +kernel) (by decide) (by decide) (by decide) (pa_ui 126 _ _ _ (by decide)) ?_
        refine aw_aload_n dX9_begin1_95 rfl ?_
        refine aw_getr (x := 126) dX9_begin1_96 ci9 (by decide) fX9_7 (by decide) (by decide +kernel) rfl ((hHR 125 0 (by decide) (by decide +kernel)).trans rfl) ?_
        refine aw_sipush dX9_begin1_99 (by decide) ?_
        refine aw_aload_n dX9_begin1_102 rfl ?_
        refine aw_getr (x := 126) dX9_begin1_103 ci9 (by decide) fX9_7 (by decide) (by decide +kernel) rfl ((hHR 125 0 (by decide) (by decide +kernel)).trans rfl) ?_
        refine aw_sipush dX9_begin1_106 (by decide) ?_
        refine aw_iald (N := 256) dX9_begin1_109 (Or.inl ⟨(by decide), (by decide +kernel)⟩) (by decide) (by decide) (by decide) (pa_gi 126 _ _ (by decide)) ?_
        refine aw_iast (N := 256) dX9_begin1_110 (by decide) (by decide +kernel) (by decide) (by decide) (by decide) (pa_ui 126 _ _ _ (by decide)) ?_
        refine aw_aload_n dX9_begin1_111 rfl ?_
        refine aw_getr (x := 126) dX9_begin1_112 ci9 (by decide) fX9_7 (by decide) (by decide +kernel) rfl ((hHR 125 0 (by decide) (by decide +kernel)).trans rfl) ?_
        refine aw_sipush dX9_begin1_115 (by decide) ?_
        refine aw_aload_n dX9_begin1_118 rfl ?_
        refine aw_getr (x := 126) dX9_begin1_119 ci9 (by decide) fX9_7 (by decide) (by decide +kernel) rfl ((hHR 125 0 (by decide) (by decide +kernel)).trans rfl) ?_
        refine aw_sipush dX9_begin1_122 (by decide) ?_
        refine aw_iald (N := 256) dX9_begin1_125 (Or.inl ⟨(by decide), (by decide +kernel)⟩) (by decide) (by decide) (by decide) (pa_gi 126 _ _ (by decide)) ?_
        refine aw_iast (N := 256) dX9_begin1_126 (by decide) (by decide +kernel) (by decide) (by decide) (by decide) (pa_ui 126 _ _ _ (by decide)) ?_
        refine aw_aload_n dX9_begin1_127 rfl ?_
        refine aw_getr (x := 126) dX9_begin1_128 ci9 (by decide) fX9_7 (by decide) (by decide +kernel) rfl ((hHR 125 0 (by decide) (by decide +kernel)).trans rfl) ?_
        refine aw_sipush dX9_begin1_131 (by decide) ?_
        refine aw_aload_n dX9_begin1_134 rfl ?_
        refine aw_getr (x := 126) dX9_begin1_135 ci9 (by decide) fX9_7 (by decide) (by decide +kernel) rfl ((hHR 125 0 (by decide) (by decide +kernel)).trans rfl) ?_
        refine aw_bipush dX9_begin1_138 (by decide) ?_
        refine aw_iald (N := 256) dX9_begin1_140 (Or.inl ⟨(by decide), (by decide +kernel)⟩) (by decide) (by decide) (by decide) (pa_gi 126 _ _ (by decide)) ?_
        refine aw_iast (N := 256) dX9_begin1_141 (by decide) (by decide +kernel) (by decide) (by decide) (by decide) (pa_ui 126 _ _ _ (by decide)) ?_
        refine aw_aload_n dX9_begin1_142 rfl ?_
        refine aw_getr (x := 126) dX9_begin1_143 ci9 (by decide) fX9_7 (by decide) (by decide +kernel) rfl ((hHR 125 0 (by decide) (by decide +kernel)).trans rfl) ?_
        refine aw_sipush dX9_begin1_146 (by decide) ?_
        refine aw_iload dX9_begin1_149 rfl ?_
        refine aw_if_eq (tgt := 158) dX9_begin1_151 (by decide) ⟨by decide, by decide⟩ (fun h151 => ?_) (fun h151 => ?_)
        · exact absurd h151 (by decide)
        · refine aw_iconst dX9_begin1_154 ?_
          refine aw_goto (tgt := 159) dX9_begin1_155 (by decide) ?_
          refine aw_iast (N := 256) dX9_begin1_159 (by decide) (by decide +kernel) (by decide) (by decide) (by decide) (pa_ui 126 _ _ _ (by decide)) ?_
          refine aw_aload_n dX9_begin1_160 rfl ?_
          refine aw_getr (x := 126) dX9_begin1_161 ci9 (by decide) fX9_7 (by decide) (by decide +kernel) rfl ((hHR 125 0 (by decide) (by decide +kernel)).trans rfl) ?_
          refine aw_sipush dX9_begin1_164 (by decide) ?_
          refine aw_aload_n dX9_begin1_167 rfl ?_
          refine aw_getr (x := 126) dX9_begin1_168 ci9 (by decide) fX9_7 (by decide) (by decide +kernel) rfl ((hHR 125 0 (by decide) (by decide +kernel)).trans rfl) ?_
          refine aw_bipush dX9_begin1_171 (by decide) ?_
          refine aw_iload_n dX9_begin1_173 rfl ?_
          refine aw_S1x dX9_begin1_174 clX9_36 ⟨by decide, by decide⟩ (c_X9_isLate (p := p) ⟨by omega, by omega⟩) (by decide) (by decide) rfl rfl (by simp only [List.length_cons, List.length_nil]; omega) ?_
          refine aw_if_eq (tgt := 184) dX9_begin1_177 (by decide) ⟨by omega, by omega⟩ (fun h177 => ?_) (fun h177 => ?_)
          · exact absurd h177 h27
          · refine aw_iconst dX9_begin1_180 ?_
            refine aw_goto (tgt := 185) dX9_begin1_181 (by decide) ?_
            refine aw_iadd dX9_begin1_185 ?_
            refine aw_iald (N := 256) dX9_begin1_186 (Or.inl ⟨(by decide), (by decide +kernel)⟩) (by omega) (by omega) (by decide) (pa_gi 126 _ _ (by omega)) ?_
            refine aw_aload_n dX9_begin1_187 rfl ?_
            refine aw_getr (x := 126) dX9_begin1_188 ci9 (by decide) fX9_7 (by decide) (by decide +kernel) rfl ((hHR 125 0 (by decide) (by decide +kernel)).trans rfl) ?_
            refine aw_bipush dX9_begin1_191 (by decide) ?_
            refine aw_iload_n dX9_begin1_193 rfl ?_
            refine aw_iadd dX9_begin1_194 ?_
            refine aw_iald (N := 256) dX9_begin1_195 (Or.inl ⟨(by decide), (by decide +kernel)⟩) (by omega) (by omega) (by decide) (pa_gi 126 _ _ (by omega)) ?_
            refine aw_iadd dX9_begin1_196 ?_
            refine aw_aload_n dX9_begin1_197 rfl ?_
            refine aw_getr (x := 126) dX9_begin1_198 ci9 (by decide) fX9_7 (by decide) (by decide +kernel) rfl ((hHR 125 0 (by decide) (by decide +kernel)).trans rfl) ?_
            refine aw_bipush dX9_begin1_201 (by decide) ?_
            refine aw_iload_n dX9_begin1_203 rfl ?_
            refine aw_iadd dX9_begin1_204 ?_
            refine aw_iald (N := 256) dX9_begin1_205 (Or.inl ⟨(by decide), (by decide +kernel)⟩) (by omega) (by omega) (by decide) (pa_gi 126 _ _ (by omega)) ?_
            refine aw_aload_n dX9_begin1_206 rfl ?_
            refine aw_getr (x := 126) dX9_begin1_207 ci9 (by decide) fX9_7 (by decide) (by decide +kernel) rfl ((hHR 125 0 (by decide) (by decide +kernel)).trans rfl) ?_
            refine aw_bipush dX9_begin1_210 (by decide) ?_
            refine aw_iald (N := 256) dX9_begin1_212 (Or.inl ⟨(by decide), (by decide +kernel)⟩) (by decide) (by decide) (by decide) (pa_gi 126 _ _ (by decide)) ?_
            refine aw_idiv dX9_begin1_213 (show 0 ≤ bg1 s p 1 (6 + s 2) by rw [e6]; omega) (show InR (bg1 s p 1 (6 + s 2)) by rw [e6]; exact ⟨by omega, by omega⟩) (show 0 < bg1 s p 1 23 by rw [e23]; omega) (show InR (bg1 s p 1 23) by rw [e23]; exact ⟨by omega, by omega⟩) ?_
            refine aw_iadd dX9_begin1_214 ?_
            refine aw_iast (N := 256) dX9_begin1_215 (by decide) (by decide +kernel) (by decide) (by decide) (by decide) (pa_ui 126 _ _ _ (by decide)) ?_
            refine aw_aload_n dX9_begin1_216 rfl ?_
            refine aw_getr (x := 126) dX9_begin1_217 ci9 (by decide) fX9_7 (by decide) (by decide +kernel) rfl ((hHR 125 0 (by decide) (by decide +kernel)).trans rfl) ?_
            refine aw_sipush dX9_begin1_220 (by decide) ?_
            refine aw_iconst dX9_begin1_223 ?_
            refine aw_iast (N := 256) dX9_begin1_224 (by decide) (by decide +kernel) (by decide) (by decide) (by decide) (pa_ui 126 _ _ _ (by decide)) ?_
            refine aw_aload_n dX9_begin1_225 rfl ?_
            refine aw_getr (x := 126) dX9_begin1_226 ci9 (by decide) fX9_7 (by decide) (by decide +kernel) rfl ((hHR 125 0 (by decide) (by decide +kernel)).trans rfl) ?_
            refine aw_aload_n dX9_begin1_229 rfl ?_
            refine aw_iload_n dX9_begin1_230 rfl ?_
            refine aw_iload_n dX9_begin1_231 rfl ?_
            refine aw_V2x dX9_begin1_232 clX9_40 ⟨by decide, by decide⟩ (c := 9) (N := 11) (by decide) (by decide +kernel) rfl c_X9_pageAt (by decide) (by decide) rfl rfl (by simp only [List.length_cons, List.length_nil]; omega) ?_
            refine aw_iconst dX9_begin1_235 ?_
            refine aw_iast (N := 256) dX9_begin1_236 (by decide) (by decide +kernel) (by omega) (by omega) (by decide) (pa_ui 126 _ _ _ (by omega)) ?_
            refine aw_iload dX9_begin1_237 rfl ?_
            refine aw_if_eq (tgt := 293) dX9_begin1_239 (by decide) ⟨by decide, by decide⟩ (fun h239 => ?_) (fun h239 => ?_)
            · exact absurd h239 (by decide)
            · refine aw_aload_n dX9_begin1_242 rfl ?_
              refine aw_getr (x := 126) dX9_begin1_243 ci9 (by decide) fX9_7 (by decide) (by decide +kernel) rfl ((hHR 125 0 (by decide) (by decide +kernel)).trans rfl) ?_
              refine aw_aload_n dX9_begin1_246 rfl ?_
              refine aw_iload_n dX9_begin1_247 rfl ?_
              refine aw_iload_n dX9_begin1_248 rfl ?_
              refine aw_V2x dX9_begin1_249 clX9_48 ⟨by decide, by decide⟩ (c := 9) (N := 11) (by decide) (by decide +kernel) rfl c_X9_backupAt (by decide) (by decide) rfl rfl (by simp only [List.length_cons, List.length_nil]; omega) ?_
              refine aw_iconst dX9_begin1_252 ?_
              refine aw_iast (N := 256) dX9_begin1_253 (by decide) (by decide +kernel) (by omega) (by omega) (by decide) (pa_ui 126 _ _ _ (by omega)) ?_
              refine aw_iconst dX9_begin1_254 ?_
              refine aw_istore (ls2 := [_, _, _, _, _, _, _]) dX9_begin1_255 (by decide) rfl ?_
              have inner : ∀ (d i : Nat) (k : Int), i + d = 3 → k = (i : Int) + 1 → AW E M_X9_begin1 0 0 257 [some (aR 125), some (aI p), some (aI (s 2)), some (aI (lin p)), some (aI (24 + 4 * (16 * s 2 + ear (lin p)))), some (aI 1), some (aI k)] [] (pa 126 hi (cp3 (up1 (bg2 (bg1 s p 1) (s 2) p 1) (152 + 4 * (8 * s 2 + lin p)) 1) (152 + 4 * (8 * s 2 + lin p)) (24 + 4 * (16 * s 2 + ear (lin p))) i)) hr 131 (EX none (pa 126 hi (bgF s p)) hr 131) := by
                intro d
                induction d with
                | zero =>
                  intro i k hi3 hk
                  have hi3' : i = 3 := by omega
                  subst hi3'
                  refine aw_iload dX9_begin1_257 rfl ?_
                  refine aw_iconst dX9_begin1_259 ?_
                  refine aw_ic_ge (tgt := 293) dX9_begin1_260 (by decide) ⟨by omega, by omega⟩ ⟨by decide, by decide⟩ (fun h260 => ?_) (fun h260 => ?_)
                  · have e1 : mkF s p = 1 := by
                      unfold mkF
                      rw [if_pos ⟨by omega, by omega, by omega⟩]
                    have e2 : lat p = 1 := by omega
                    have e11 : 0 < cp3 (up1 (bg2 (bg1 s p 1) (s 2) p 1) (152 + 4 * (8 * s 2 + lin p)) 1) (152 + 4 * (8 * s 2 + lin p)) (24 + 4 * (16 * s 2 + ear (lin p))) 3 11 := by
                      have g := bgB_11 hM h0 h1
                      unfold bgB bg3 at g
                      rw [e1, e2, if_pos rfl] at g
                      rw [g]; exact h11
                    refine aw_aload_n dX9_begin1_293 rfl ?_
                    refine aw_V0v dX9_begin1_294 clX9_70 ⟨by decide, by decide⟩ (c := 9) (N := 11) (by decide) (by decide +kernel) rfl (c_X9_goesFirst hHR (cp3_M ((bg2_M (bg1_M hM h10 h0 h1) hb h0 h1 (Or.inr rfl)).far (by omega) (by omega) (by omega) (by unfold BIG; omega)) 3 (by omega) (by omega) (by omega) (by omega) (by omega)) e11) (by decide) (by decide) rfl rfl (by simp only [List.length_cons, List.length_nil]; omega) ?_
                    refine aw_vret dX9_begin1_297 rfl (by decide) (by decide) ?_
                    unfold bgF bg3
                    rw [e1, e2, if_pos rfl]
                    exact EX.rf
                  · exact absurd h260 (by omega)
                | succ d ih =>
                  intro i k hi3 hk
                  subst hk
                  refine aw_iload dX9_begin1_257 rfl ?_
                  refine aw_iconst dX9_begin1_259 ?_
                  refine aw_ic_ge (tgt := 293) dX9_begin1_260 (by decide) ⟨by omega, by omega⟩ ⟨by decide, by decide⟩ (fun h260 => ?_) (fun h260 => ?_)
                  · exact absurd h260 (by omega)
                  · refine aw_aload_n dX9_begin1_263 rfl ?_
                    refine aw_getr (x := 126) dX9_begin1_264 ci9 (by decide) fX9_7 (by decide) (by decide +kernel) rfl ((hHR 125 0 (by decide) (by decide +kernel)).trans rfl) ?_
                    refine aw_aload_n dX9_begin1_267 rfl ?_
                    refine aw_iload_n dX9_begin1_268 rfl ?_
                    refine aw_iload_n dX9_begin1_269 rfl ?_
                    refine aw_V2x dX9_begin1_270 clX9_48 ⟨by decide, by decide⟩ (c := 9) (N := 11) (by decide) (by decide +kernel) rfl c_X9_backupAt (by decide) (by decide) rfl rfl (by simp only [List.length_cons, List.length_nil]; omega) ?_
                    refine aw_iload dX9_begin1_273 rfl ?_
                    refine aw_iadd dX9_begin1_275 ?_
                    refine aw_aload_n dX9_begin1_276 rfl ?_
                    refine aw_getr (x := 126) dX9_begin1_277 ci9 (by decide) fX9_7 (by decide) (by decide +kernel) rfl ((hHR 125 0 (by decide) (by decide +kernel)).trans rfl) ?_
                    refine aw_iload dX9_begin1_280 rfl ?_
                    refine aw_iload dX9_begin1_282 rfl ?_
                    refine aw_iadd dX9_begin1_284 ?_
                    refine aw_iald (N := 256) dX9_begin1_285 (Or.inl ⟨(by decide), (by decide +kernel)⟩) (by omega) (by omega) (by decide) (pa_gi 126 _ _ (by omega)) ?_
                    refine aw_iast (N := 256) dX9_begin1_286 (by decide) (by decide +kernel) (by omega) (by omega) (by decide) (pa_ui 126 _ _ _ (by omega)) ?_
                    refine aw_iinc (ls2 := [_, _, _, _, _, _, _]) dX9_begin1_287 rfl (by decide) rfl ?_
                    refine aw_goto (tgt := 257) dX9_begin1_290 (by decide) ?_
                    exact ih (i + 1) _ (by omega) (by omega)
              exact inner 3 0 1 (by omega) (by omega)
end TWIN2
