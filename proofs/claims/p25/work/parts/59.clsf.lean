/-! the class's cut -/
section CLSF
variable {E : ET} {hi : HI} {hr : HR} {o : Nat} {t : TS} {s : Int → Int}
set_option maxRecDepth 100000 in
set_option maxHeartbeats 4000000 in
theorem c_X4_loseByCut (ho : St o) (hHR : HRk hr) (hR : RlT t s) : AMet E M_X4_loseByCut [aR o] (putS o hi t) hr 125 (QI hi hr o ((lsF s : Int), up1 (brS s) 5 (brS s 5 + onA (lsF s) 12))) := by
  refine am_of (by decide +kernel) (Nat.le_of_ble_eq_true rfl) ?_
  obtain ⟨hR0, hT⟩ := hR
  have hR : RlT t s := ⟨hR0, hT⟩
  have hM := hR0.1.1
  have h1 := hM.2.2.2.2.2.1
  have h8 := hM.2.2.1
  have z0 := hM.z 0 (by unfold xc; omega)
  have z11 := hM.z 11 (by unfold xc; omega)
  have e6 : t 6 4 = s 11 := hR0.2.2.2.1.1
  have hp : t 0 8 = 1 - s 1 := hR0.2.2.2.2.2.2.2.1
  have hB : BIG = 1000000 := rfl
  have hlt := lsF_lt s
  have mS := brS_M hM
  have J105 : ∀ (t1 t6 : TS) (l1 l2 : Option AV), Rl t1 s → t1 12 0 = s 0 → LC t1 t6 s → AW E M_X4_loseByCut 0 0 105 [some (aR o), l1, l2] [] (putS o hi (t6)) hr 125 (QI hi hr o ((lsF s : Int), up1 (brS s) 5 (brS s 5 + onA (lsF s) 12))) := by
    intro t1 t6 l1 l2 hR1 hT1 hL
    have R6 := hL.rl hR1
    have eq := st_eq R6.2.2.1
    have e16 := hL.2.2.2
    have loop2 : ∀ (d k : Nat), k + d = 12 → AW E M_X4_loseByCut 0 0 109 [some (aR o), (some (aI (lsA (stF s) (brS s) k : Int))), some (aI (k : Int))] [] (putS o hi (t6)) hr 125 (QI hi hr o ((lsF s : Int), up1 (brS s) 5 (brS s 5 + onA (lsF s) 12))) := by
      intro d
      induction d with
      | zero =>
        intro k hk
        have hk' : k = 12 := by omega
        subst hk'
        refine aw_iload_n dX4_loseByCut_109 rfl ?_
        refine aw_aload_n dX4_loseByCut_110 rfl ?_
        refine aw_getr (x := (o + 16)) dX4_loseByCut_111 ci4 (by decide) fX4_49 (by have := st_lt ho; omega) (st_sh0 ho) rfl (st_r0 ho hHR 7) ?_
        refine aw_alen (N := 12) dX4_loseByCut_114 (Or.inl ⟨(by have := st_lt ho; omega), (st_sh ho 16)⟩) ?_
        refine aw_ic_ge (tgt := 156) dX4_loseByCut_115 (by decide) ⟨by decide, by decide⟩ ⟨by decide, by decide⟩ (fun h115 => ?_) (fun h115 => ?_)
        · refine aw_aload_n dX4_loseByCut_156 rfl ?_
          refine aw_getr (x := (o + 12)) dX4_loseByCut_157 ci4 (by decide) fX4_35 (by have := st_lt ho; omega) (st_sh0 ho) rfl (st_r0 ho hHR 3) ?_
          refine aw_dup dX4_loseByCut_160 ?_
          refine aw_getv dX4_loseByCut_161 ci5 (by decide) fX4_243 (by have := st_lt ho; omega) (st_sh ho 12) rfl (putS_gk o _ _ 12 4 4 rfl) ?_
          refine aw_iload_n dX4_loseByCut_164 rfl ?_
          refine aw_S1x dX4_loseByCut_165 clX4_223 ⟨by decide, by decide⟩ (c_bitCount hlt) (by decide) (by decide) rfl rfl (by simp only [List.length_cons, List.length_nil]; omega) ?_
          refine aw_iadd dX4_loseByCut_168 ?_
          refine aw_putv dX4_loseByCut_169 ci5 (by decide) fX4_243 (by have := st_lt ho; omega) (st_sh ho 12) rfl rfl (Or.inl rfl) (putS_uk o _ _ 12 4 4 _ rfl) ?_
          refine aw_iload_n dX4_loseByCut_172 rfl ?_
          refine aw_iret dX4_loseByCut_173 rfl (by decide) (by decide) ?_
          exact ⟨_, rfl, rfl, rfl, rfl, _, rfl, hL.fin hR1 hT1 _⟩
        · exact absurd h115 (by decide)
      | succ d ih =>
        intro k hk
        have ez := e16 (k : Int) (by omega) (by omega)
        have er := (stF_r hM (k : Int)).1
        have er2 := (stF_r mS (k : Int)).1
        have ep := eq (k : Int)
        refine aw_iload_n dX4_loseByCut_109 rfl ?_
        refine aw_aload_n dX4_loseByCut_110 rfl ?_
        refine aw_getr (x := (o + 16)) dX4_loseByCut_111 ci4 (by decide) fX4_49 (by have := st_lt ho; omega) (st_sh0 ho) rfl (st_r0 ho hHR 7) ?_
        refine aw_alen (N := 12) dX4_loseByCut_114 (Or.inl ⟨(by have := st_lt ho; omega), (st_sh ho 16)⟩) ?_
        refine aw_ic_ge (tgt := 156) dX4_loseByCut_115 (by decide) ⟨by omega, by omega⟩ ⟨by decide, by decide⟩ (fun h115 => ?_) (fun h115 => ?_)
        · exact absurd h115 (by omega)
        · refine aw_aload_n dX4_loseByCut_118 rfl ?_
          refine aw_getr (x := (o + 16)) dX4_loseByCut_119 ci4 (by decide) fX4_49 (by have := st_lt ho; omega) (st_sh0 ho) rfl (st_r0 ho hHR 7) ?_
          refine aw_iload_n dX4_loseByCut_122 rfl ?_
          refine aw_iald (N := 12) dX4_loseByCut_123 (Or.inl ⟨(by have := st_lt ho; omega), (st_sh ho 16)⟩) (by omega) (by omega) (by decide) (putS_gi o _ _ 16 (by omega)) ?_
          refine aw_if_le (tgt := 150) dX4_loseByCut_124 (by decide) (by rw [ez]; exact er) (fun h124 => ?_) (fun h124 => ?_)
          · refine aw_iinc (ls2 := [_, _, _]) dX4_loseByCut_150 rfl (by decide) rfl ?_
            refine aw_goto (tgt := 109) dX4_loseByCut_153 (by decide) ?_
            have e : lsA (stF s) (brS s) (k + 1) = lsA (stF s) (brS s) k := by
              simp only [lsA]
              rw [if_neg (by omega), Nat.or_zero]
            have g := ih (k + 1) (by omega)
            rw [e] at g
            exact g
          · refine aw_aload_n dX4_loseByCut_127 rfl ?_
            refine aw_getr (x := (o + 1)) dX4_loseByCut_128 ci4 (by decide) fX4_12 (by have := st_lt ho; omega) (st_sh0 ho) rfl (st_r0 ho hHR 0) ?_
            refine aw_iload_n dX4_loseByCut_131 rfl ?_
            refine aw_V1x dX4_loseByCut_132 clX4_228 ⟨by decide, by decide⟩ (c := 0) (N := 4) (by have := st_lt ho; omega) (st_sh ho 1) rfl (by have g := c_X0_placeStamp (E := E) (hi := hi) (t := t6) (key := (k : Int)) ho hHR R6.2.1.1 ⟨by omega, by omega⟩; rw [ep] at g; exact g) (by decide) (by decide) rfl rfl (by simp only [List.length_cons, List.length_nil]; omega) ?_
            refine aw_aload_n dX4_loseByCut_135 rfl ?_
            refine aw_getr (x := (o + 16)) dX4_loseByCut_136 ci4 (by decide) fX4_49 (by have := st_lt ho; omega) (st_sh0 ho) rfl (st_r0 ho hHR 7) ?_
            refine aw_iload_n dX4_loseByCut_139 rfl ?_
            refine aw_iald (N := 12) dX4_loseByCut_140 (Or.inl ⟨(by have := st_lt ho; omega), (st_sh ho 16)⟩) (by omega) (by omega) (by decide) (putS_gi o _ _ 16 (by omega)) ?_
            refine aw_ic_eq (tgt := 150) dX4_loseByCut_141 (by decide) er2 (by rw [ez]; exact er) (fun h141 => ?_) (fun h141 => ?_)
            · refine aw_iinc (ls2 := [_, _, _]) dX4_loseByCut_150 rfl (by decide) rfl ?_
              refine aw_goto (tgt := 109) dX4_loseByCut_153 (by decide) ?_
              have e : lsA (stF s) (brS s) (k + 1) = lsA (stF s) (brS s) k := by
                simp only [lsA]
                rw [if_neg (by omega), Nat.or_zero]
              have g := ih (k + 1) (by omega)
              rw [e] at g
              exact g
            · refine aw_iload_n dX4_loseByCut_144 rfl ?_
              refine aw_iconst dX4_loseByCut_145 ?_
              refine aw_iload_n dX4_loseByCut_146 rfl ?_
              refine aw_shl1 (k := k) dX4_loseByCut_147 (by omega) ?_
              refine aw_ior (a := lsA (stF s) (brS s) k) (b := 1 <<< k) dX4_loseByCut_148 rfl rfl ?_
              refine aw_istore_n (ls2 := [_, _, _]) dX4_loseByCut_149 (by decide) rfl ?_
              refine aw_iinc (ls2 := [_, _, _]) dX4_loseByCut_150 rfl (by decide) rfl ?_
              refine aw_goto (tgt := 109) dX4_loseByCut_153 (by decide) ?_
              have e : lsA (stF s) (brS s) (k + 1) = lsA (stF s) (brS s) k ||| 1 <<< k := by
                simp only [lsA]
                rw [if_pos ⟨by omega, by omega⟩]
              rw [← e]
              exact ih (k + 1) (by omega)
    refine aw_iconst dX4_loseByCut_105 ?_
    refine aw_istore_n (ls2 := [_, _, _]) dX4_loseByCut_106 (by decide) rfl ?_
    refine aw_iconst dX4_loseByCut_107 ?_
    refine aw_istore_n (ls2 := [_, _, _]) dX4_loseByCut_108 (by decide) rfl ?_
    exact loop2 12 0 (by omega)
  have loop1 : ∀ (d k : Nat) (t1 : TS), k + d = 12 → (∀ (x : Nat) (y : Int), x ≠ 16 → t1 x y = t x y) → (∀ j : Int, 0 ≤ j → j < k → t1 16 j = stF s j) → AW E M_X4_loseByCut 0 0 2 [some (aR o), some (aI (k : Int)), none] [] (putS o hi (t1)) hr 125 (QI hi hr o ((lsF s : Int), up1 (brS s) 5 (brS s 5 + onA (lsF s) 12))) := by
    intro d
    induction d with
    | zero =>
      intro k t1 hk e1 h16
      have hk' : k = 12 := by omega
      subst hk'
      have hR1 := hR0.r16 e1
      have hT1 : t1 12 0 = s 0 := by rw [e1 12 0 (by decide)]; exact hT
      have eb : t1 11 0 = iwF s := hR1.2.2.2.2.2.1.1
      have hw := iw_b s
      have r1 := lc4_R 1 hR1.2.1.1 hR1.2.1.2.2
      refine aw_iload_n dX4_loseByCut_2 rfl ?_
      refine aw_aload_n dX4_loseByCut_3 rfl ?_
      refine aw_getr (x := (o + 16)) dX4_loseByCut_4 ci4 (by decide) fX4_49 (by have := st_lt ho; omega) (st_sh0 ho) rfl (st_r0 ho hHR 7) ?_
      refine aw_alen (N := 12) dX4_loseByCut_7 (Or.inl ⟨(by have := st_lt ho; omega), (st_sh ho 16)⟩) ?_
      refine aw_ic_ge (tgt := 31) dX4_loseByCut_8 (by decide) ⟨by decide, by decide⟩ ⟨by decide, by decide⟩ (fun h8 => ?_) (fun h8 => ?_)
      · refine aw_aload_n dX4_loseByCut_31 rfl ?_
        refine aw_iconst dX4_loseByCut_32 ?_
        refine aw_putv dX4_loseByCut_33 ci4 (by decide) fX4_52 (by have := st_lt ho; omega) (st_sh0 ho) rfl rfl (Or.inr ⟨rfl, Or.inl rfl⟩) (putS_uk0 o _ _ 8 8 _ rfl) ?_
        refine aw_aload_n dX4_loseByCut_36 rfl ?_
        refine aw_getr (x := (o + 12)) dX4_loseByCut_37 ci4 (by decide) fX4_35 (by have := st_lt ho; omega) (st_sh0 ho) rfl (st_r0 ho hHR 3) ?_
        refine aw_dup dX4_loseByCut_40 ?_
        refine aw_getv dX4_loseByCut_41 ci5 (by decide) fX4_231 (by have := st_lt ho; omega) (st_sh ho 12) rfl (putS_gk o _ _ 12 5 5 rfl) ?_
        refine aw_iconst dX4_loseByCut_44 ?_
        refine aw_iadd dX4_loseByCut_45 ?_
        refine aw_putv dX4_loseByCut_46 ci5 (by decide) fX4_231 (by have := st_lt ho; omega) (st_sh ho 12) rfl rfl (Or.inl rfl) (putS_uk o _ _ 12 5 5 _ rfl) ?_
        refine aw_aload_n dX4_loseByCut_49 rfl ?_
        refine aw_getr (x := (o + 12)) dX4_loseByCut_50 ci4 (by decide) fX4_35 (by have := st_lt ho; omega) (st_sh0 ho) rfl (st_r0 ho hHR 3) ?_
        refine aw_dup dX4_loseByCut_53 ?_
        refine aw_getv dX4_loseByCut_54 ci5 (by decide) fX4_234 (by have := st_lt ho; omega) (st_sh ho 12) rfl (putS_gk o _ _ 12 3 3 rfl) ?_
        refine aw_aload_n dX4_loseByCut_57 rfl ?_
        refine aw_getr (x := (o + 6)) dX4_loseByCut_58 ci4 (by decide) fX4_21 (by have := st_lt ho; omega) (st_sh0 ho) rfl (st_r0 ho hHR 1) ?_
        refine aw_V0x dX4_loseByCut_61 clX4_87 ⟨by decide, by decide⟩ (c := 2) (N := 5) (by have := st_lt ho; omega) (st_sh ho 6) rfl (c_X2_size ho hHR) (by decide) (by decide) rfl rfl (by simp only [List.length_cons, List.length_nil]; omega) ?_
        refine aw_aload_n dX4_loseByCut_64 rfl ?_
        refine aw_getr (x := (o + 11)) dX4_loseByCut_65 ci4 (by decide) fX4_28 (by have := st_lt ho; omega) (st_sh0 ho) rfl (st_r0 ho hHR 2) ?_
        refine aw_getv dX4_loseByCut_68 ci7 (by decide) fX4_105 (by have := st_lt ho; omega) (st_sh ho 11) rfl ((putS_gk o _ _ 11 0 0 rfl).trans (show _ = t1 11 0 from by rw [ut_n _ _ (by decide), ut_n _ _ (by decide)])) ?_
        refine aw_if_eq (tgt := 78) dX4_loseByCut_71 (by decide) ⟨by omega, by omega⟩ (fun h71 => ?_) (fun h71 => ?_)
        · refine aw_iconst dX4_loseByCut_78 ?_
          refine aw_iadd dX4_loseByCut_79 ?_
          refine aw_iadd dX4_loseByCut_80 ?_
          refine aw_putv dX4_loseByCut_81 ci5 (by decide) fX4_234 (by have := st_lt ho; omega) (st_sh ho 12) rfl rfl (Or.inl rfl) (putS_uk o _ _ 12 3 3 _ rfl) ?_
          refine aw_aload_n dX4_loseByCut_84 rfl ?_
          refine aw_getr (x := (o + 6)) dX4_loseByCut_85 ci4 (by decide) fX4_21 (by have := st_lt ho; omega) (st_sh0 ho) rfl (st_r0 ho hHR 1) ?_
          refine aw_V0v dX4_loseByCut_88 clX4_237 ⟨by decide, by decide⟩ (c := 2) (N := 5) (by have := st_lt ho; omega) (st_sh ho 6) rfl (c_X2_makeEmpty ho hHR) (by decide) (by decide) rfl rfl (by simp only [List.length_cons, List.length_nil]; omega) ?_
          refine aw_aload_n dX4_loseByCut_91 rfl ?_
          refine aw_getr (x := (o + 11)) dX4_loseByCut_92 ci4 (by decide) fX4_28 (by have := st_lt ho; omega) (st_sh0 ho) rfl (st_r0 ho hHR 2) ?_
          refine aw_getv dX4_loseByCut_95 ci7 (by decide) fX4_105 (by have := st_lt ho; omega) (st_sh ho 11) rfl ((putS_gk o _ _ 11 0 0 rfl).trans (show _ = t1 11 0 from by rw [ut_n _ _ (by decide), ut_n _ _ (by decide), ut_n _ _ (by decide), ut_n _ _ (by decide)])) ?_
          refine aw_if_eq (tgt := 105) dX4_loseByCut_98 (by decide) ⟨by omega, by omega⟩ (fun h98 => ?_) (fun h98 => ?_)
          · exact J105 t1 (lc4 t1 0) _ _ hR1 hT1 (LC.idle hR1 (by omega) h16)
          · exact absurd h71 h98
        · refine aw_iconst dX4_loseByCut_74 ?_
          refine aw_goto (tgt := 79) dX4_loseByCut_75 (by decide) ?_
          refine aw_iadd dX4_loseByCut_79 ?_
          refine aw_iadd dX4_loseByCut_80 ?_
          refine aw_putv dX4_loseByCut_81 ci5 (by decide) fX4_234 (by have := st_lt ho; omega) (st_sh ho 12) rfl rfl (Or.inl rfl) (putS_uk o _ _ 12 3 3 _ rfl) ?_
          refine aw_aload_n dX4_loseByCut_84 rfl ?_
          refine aw_getr (x := (o + 6)) dX4_loseByCut_85 ci4 (by decide) fX4_21 (by have := st_lt ho; omega) (st_sh0 ho) rfl (st_r0 ho hHR 1) ?_
          refine aw_V0v dX4_loseByCut_88 clX4_237 ⟨by decide, by decide⟩ (c := 2) (N := 5) (by have := st_lt ho; omega) (st_sh ho 6) rfl (c_X2_makeEmpty ho hHR) (by decide) (by decide) rfl rfl (by simp only [List.length_cons, List.length_nil]; omega) ?_
          refine aw_aload_n dX4_loseByCut_91 rfl ?_
          refine aw_getr (x := (o + 11)) dX4_loseByCut_92 ci4 (by decide) fX4_28 (by have := st_lt ho; omega) (st_sh0 ho) rfl (st_r0 ho hHR 2) ?_
          refine aw_getv dX4_loseByCut_95 ci7 (by decide) fX4_105 (by have := st_lt ho; omega) (st_sh ho 11) rfl ((putS_gk o _ _ 11 0 0 rfl).trans (show _ = t1 11 0 from by rw [ut_n _ _ (by decide), ut_n _ _ (by decide), ut_n _ _ (by decide), ut_n _ _ (by decide)])) ?_
          refine aw_if_eq (tgt := 105) dX4_loseByCut_98 (by decide) ⟨by omega, by omega⟩ (fun h98 => ?_) (fun h98 => ?_)
          · exact absurd h98 h71
          · change AW E _ _ _ _ _ _ (putS o hi (lc4 t1 1)) hr 125 _
            refine aw_aload_n dX4_loseByCut_101 rfl ?_
            refine aw_V0v dX4_loseByCut_102 clX4_240 ⟨by decide, by decide⟩ (c := 4) (N := 11) (by have := st_lt ho; omega) (st_sh0 ho) rfl (c_X4_tearWriting ho hHR r1.1 r1.2) (by decide) (by decide) rfl rfl (by simp only [List.length_cons, List.length_nil]; omega) ?_
            exact J105 t1 _ _ _ hR1 hT1 (LC.busy hR1 (by omega) h16)
      · exact absurd h8 (by decide)
    | succ d ih =>
      intro k t1 hk e1 h16
      have hR1 := hR0.r16 e1
      have ep := st_eq hR1.2.2.1 (k : Int)
      refine aw_iload_n dX4_loseByCut_2 rfl ?_
      refine aw_aload_n dX4_loseByCut_3 rfl ?_
      refine aw_getr (x := (o + 16)) dX4_loseByCut_4 ci4 (by decide) fX4_49 (by have := st_lt ho; omega) (st_sh0 ho) rfl (st_r0 ho hHR 7) ?_
      refine aw_alen (N := 12) dX4_loseByCut_7 (Or.inl ⟨(by have := st_lt ho; omega), (st_sh ho 16)⟩) ?_
      refine aw_ic_ge (tgt := 31) dX4_loseByCut_8 (by decide) ⟨by omega, by omega⟩ ⟨by decide, by decide⟩ (fun h8 => ?_) (fun h8 => ?_)
      · exact absurd h8 (by omega)
      · refine aw_aload_n dX4_loseByCut_11 rfl ?_
        refine aw_getr (x := (o + 16)) dX4_loseByCut_12 ci4 (by decide) fX4_49 (by have := st_lt ho; omega) (st_sh0 ho) rfl (st_r0 ho hHR 7) ?_
        refine aw_iload_n dX4_loseByCut_15 rfl ?_
        refine aw_aload_n dX4_loseByCut_16 rfl ?_
        refine aw_getr (x := (o + 1)) dX4_loseByCut_17 ci4 (by decide) fX4_12 (by have := st_lt ho; omega) (st_sh0 ho) rfl (st_r0 ho hHR 0) ?_
        refine aw_iload_n dX4_loseByCut_20 rfl ?_
        refine aw_V1x dX4_loseByCut_21 clX4_228 ⟨by decide, by decide⟩ (c := 0) (N := 4) (by have := st_lt ho; omega) (st_sh ho 1) rfl (by have g := c_X0_placeStamp (E := E) (hi := hi) (t := t1) (key := (k : Int)) ho hHR hR1.2.1.1 ⟨by omega, by omega⟩; rw [ep] at g; exact g) (by decide) (by decide) rfl rfl (by simp only [List.length_cons, List.length_nil]; omega) ?_
        refine aw_iast (N := 12) dX4_loseByCut_24 (by have := st_lt ho; omega) (st_sh ho 16) (by omega) (by omega) (by decide) (putS_ui o _ _ 16 _ (by omega)) ?_
        refine aw_iinc (ls2 := [_, _, _]) dX4_loseByCut_25 rfl (by decide) rfl ?_
        refine aw_goto (tgt := 2) dX4_loseByCut_28 (by decide) ?_
        refine ih (k + 1) (ut t1 16 (k : Int) (stF s (k : Int))) (by omega) (fun x y hx => by rw [ut_n _ _ (fun g => hx g.1)]; exact e1 x y hx) (fun j j0 j1 => ?_)
        by_cases ej : j = (k : Int)
        · rw [ej, ut_s]
        · rw [ut_n _ _ (fun g => ej g.2)]; exact h16 j j0 (by omega)
  refine aw_iconst dX4_loseByCut_0 ?_
  refine aw_istore_n (ls2 := [_, _, _]) dX4_loseByCut_1 (by decide) rfl ?_
  exact loop1 12 0 t (by omega) (fun x y _ => rfl) (fun j j0 j1 => by omega)
set_option maxRecDepth 100000 in
set_option maxHeartbeats 4000000 in
theorem c_X4_cutPower (ho : St o) (hHR : HRk hr) (hR : RlT t s) : AMet E M_X4_cutPower [aR o] (putS o hi t) hr 125 (QI hi hr o (ofF s)) := by
  refine am_of (by decide +kernel) (Nat.le_of_ble_eq_true rfl) ?_
  obtain ⟨hR0, hT⟩ := hR
  have hR : RlT t s := ⟨hR0, hT⟩
  have hM := hR0.1.1
  have h1 := hM.2.2.2.2.2.1
  have h8 := hM.2.2.1
  have z0 := hM.z 0 (by unfold xc; omega)
  have z11 := hM.z 11 (by unfold xc; omega)
  have e6 : t 6 4 = s 11 := hR0.2.2.2.1.1
  have hp : t 0 8 = 1 - s 1 := hR0.2.2.2.2.2.2.2.1
  have hB : BIG = 1000000 := rfl
  have hlt := lsF_lt s
  refine aw_aload_n dX4_cutPower_0 rfl ?_
  refine aw_getv dX4_cutPower_1 ci4 (by decide) fX4_52 (by have := st_lt ho; omega) (st_sh0 ho) rfl (putS_gk0 o _ _ 8 8 rfl) ?_
  refine aw_if_eq (tgt := 17) dX4_cutPower_4 (by decide) ⟨by omega, by omega⟩ (fun h4 => ?_) (fun h4 => ?_)
  · refine aw_bipush dX4_cutPower_17 (by decide) ?_
    refine aw_iret dX4_cutPower_19 rfl (by decide) (by decide) ?_
    have e : ofF s = (-2, s) := by unfold ofF; rw [if_pos (by omega)]
    rw [e]
    exact ⟨_, rfl, rfl, rfl, rfl, t, rfl, hR⟩
  · refine aw_aload_n dX4_cutPower_7 rfl ?_
    refine aw_V0i dX4_cutPower_8 clX4_220 ⟨by decide, by decide⟩ (c := 4) (N := 11) (by have := st_lt ho; omega) (st_sh0 ho) rfl (c_X4_loseByCut ho hHR hR) (by decide) (by decide) rfl rfl (by simp only [List.length_cons, List.length_nil]; omega) (fun v h2 r2 n2 q => ?_)
    obtain ⟨rfl, rfl, rfl, t2, rfl, g1⟩ := q
    dsimp only at g1 ⊢
    refine aw_S1x dX4_cutPower_11 clX4_223 ⟨by decide, by decide⟩ (c_bitCount hlt) (by decide) (by decide) rfl rfl (by simp only [List.length_cons, List.length_nil]; omega) ?_
    refine aw_goto (tgt := 19) dX4_cutPower_14 (by decide) ?_
    refine aw_iret dX4_cutPower_19 rfl (by decide) (by decide) ?_
    have e : ofF s = (onA (lsF s) 12, up1 (brS s) 5 (brS s 5 + onA (lsF s) 12)) := by unfold ofF; rw [if_neg (by omega)]
    rw [e]
    exact ⟨_, rfl, rfl, rfl, rfl, t2, rfl, g1⟩
end CLSF
