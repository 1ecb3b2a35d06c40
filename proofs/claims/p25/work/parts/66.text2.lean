/-! the class reads a command -/
theorem nb_k (x : Int) : (nbF x = -1 ∧ kfF x = 0) ∨ (nbF x = 0 ∧ kfF x = 1 ∧ ¬ h2F x = 1 ∧ ¬ h1F x = 1) ∨ (nbF x = 1 ∧ kfF x = 1 ∧ ¬ h2F x = 1 ∧ h1F x = 1) ∨ (nbF x = 2 ∧ kfF x = 1 ∧ h2F x = 1) := by
  unfold nbF kfF
  by_cases c : h2F x = 1
  · right; right; right; rw [if_pos c, if_pos (Or.inl c)]; exact ⟨rfl, rfl, c⟩
  · rw [if_neg c]
    by_cases d : h1F x = 1
    · right; right; left; rw [if_pos d, if_pos (Or.inr (Or.inl d))]; exact ⟨rfl, rfl, c, d⟩
    · rw [if_neg d]
      by_cases e : x = 120 ∨ x = 111 ∨ x = 115
      · right; left; rw [if_pos e, if_pos (Or.inr (Or.inr e))]; exact ⟨rfl, rfl, c, d⟩
      · left; rw [if_neg e, if_neg (by rintro (g | g | g); exact c g; exact d g; exact e g)]; exact ⟨rfl, rfl⟩
theorem nuF_1 {G : Int → Int} {len a m : Int} (hm : ¬ m = 0) (h : dgF G len a = 1) : nuF G len m a = (1, nuA G len 3 0 a) := by unfold nuF; rw [if_pos ⟨hm, h⟩]
theorem nuF_0 {G : Int → Int} {len a m : Int} (h : ¬ (¬ m = 0 ∧ dgF G len a = 1)) : nuF G len m a = (0, 0, a) := by unfold nuF; rw [if_neg h]
theorem ts_m0 (G : Int → Int) (len x a : Int) : tsF G len x 0 a = 0 := by unfold tsF; rw [if_neg (fun g => g.1 rfl)]
theorem ts_m1 {G : Int → Int} {len x a : Int} (h0 : ¬ x = 0) (h1 : ¬ x = -1) : tsF G len x 1 a = if sgF G len a = x then 1 else 0 := by
  unfold tsF
  by_cases c : sgF G len a = x
  · rw [if_pos c, if_pos ⟨by decide, (sg_x h0 h1).mp c⟩]
  · rw [if_neg c, if_neg (fun g => c ((sg_x h0 h1).mpr g.2))]
theorem cmd_0 {G : Int → Int} {len a : Int} (h : (c2F G len a).1 = 0) : cmd G len a = 0 := by unfold cmd; rw [h, ts_m0]
theorem c2_0 {G : Int → Int} {len a : Int} (h : (c1F G len a).1 = 0) : (c2F G len a).1 = 0 := by unfold c2F; rw [if_neg (fun g => g.1 h)]; exact h
theorem rc_A {G : Int → Int} {len a : Int} (h : kfF (hrF G len a) = 0) : cmd G len a = 0 := by
  have n : ¬ (h2F (hrF G len a) = 1 ∨ h1F (hrF G len a) = 1) := fun g => by
    unfold kfF at h
    rw [if_pos (by rcases g with g | g; exact Or.inl g; exact Or.inr (Or.inl g))] at h
    exact absurd h (by decide)
  refine cmd_0 (c2_0 ?_)
  unfold c1F
  rw [if_neg n]
  exact h
theorem rc_D {G : Int → Int} {len a : Int} (k : kfF (hrF G len a) = 1) (h2 : ¬ h2F (hrF G len a) = 1) (h1 : ¬ h1F (hrF G len a) = 1) : c1F G len a = (1, 0, a + 1) ∧ c2F G len a = (1, 0, a + 1) := by
  have e : c1F G len a = (1, 0, a + 1) := by unfold c1F; rw [if_neg (fun g => g.elim h2 h1), k]
  refine ⟨e, ?_⟩
  unfold c2F
  rw [if_neg (fun g => h2 g.2), e]
theorem rc_1 {G : Int → Int} {len a : Int} (k : kfF (hrF G len a) = 1) (h : h2F (hrF G len a) = 1 ∨ h1F (hrF G len a) = 1) : c1F G len a = nuF G len 1 (a + 1) := by unfold c1F; rw [if_pos h, k]
theorem rn_1 {G : Int → Int} {len a : Int} (h : dgF G len a = 1) : rnF G len a = (nuA G len 3 0 a).1 := by unfold rnF; rw [if_pos h]
theorem rn_0 {G : Int → Int} {len a : Int} (h : ¬ dgF G len a = 1) : rnF G len a = -1 := by unfold rnF; rw [if_neg h]
theorem rn_b {G : Int → Int} {len a : Int} (h0 : 0 ≤ a) : -1 ≤ rnF G len a ∧ rnF G len a ≤ 999 ∧ (0 ≤ rnF G len a ↔ dgF G len a = 1) ∧ a ≤ (nuA G len 3 0 a).2 ∧ (nuA G len 3 0 a).2 ≤ a + 3 := by
  obtain ⟨g1, g2, g3, g4⟩ := nuA_b (G := G) (len := len) 3 0 a (by omega) h0
  have e : (10 : Int) ^ 3 * (0 + 1) = 1000 := by decide
  rw [e] at g2
  by_cases c : dgF G len a = 1
  · rw [rn_1 c]; exact ⟨by omega, by omega, ⟨fun _ => c, fun _ => g1⟩, g3, g4⟩
  · rw [rn_0 c]; exact ⟨by decide, by decide, ⟨fun g => absurd g (by decide), fun g => absurd g c⟩, g3, g4⟩
section TEXT2
variable {E : ET} {hi X : HI} {hr : HR} {f G : Int → Int}
set_option maxRecDepth 100000 in
set_option maxHeartbeats 4000000 in
theorem c_X6_readCommand (hHR : HRk hr) (hG : ∀ j : Nat, (j : Int) < f 1 → X 123 j = G (j : Int)) (hT : TX G (f 1)) (h0 : 0 ≤ f 2) (h1 : f 2 ≤ 100) (ha : f 2 < f 1) : AMet E M_X6_readCommand [aR 122] (pa 122 X f) hr 125 (PI (fun v h r2 n2 => r2 = hr ∧ n2 = 125 ∧ v = cmd G (f 1) (f 2) ∧ ∃ f2 : Int → Int, h = pa 122 X f2 ∧ f2 1 = f 1 ∧ (v = 1 → f2 2 = cma G (f 1) (f 2) ∧ f2 3 = hrF G (f 1) (f 2) ∧ f2 4 = (c1F G (f 1) (f 2)).2.1 ∧ f2 5 = (c2F G (f 1) (f 2)).2.1))) := by
  refine am_of (by decide +kernel) (Nat.le_of_ble_eq_true rfl) ?_
  have hl0 := hT.1
  have hl1 := hT.2.1
  have hx0 := sg_b hT h0
  have ex : sgF G (f 1) (f 2) = hrF G (f 1) (f 2) := by unfold sgF hrF; rw [if_pos ha, if_pos ha]
  have hxr := hr_b hT h0
  have J90 : ∀ (fa : Int → Int) (nb c n1 v2 : Int), fa 1 = f 1 → fa 2 = c → 0 ≤ c → c ≤ 900 → fa 3 = hrF G (f 1) (f 2) → fa 4 = n1 → fa 5 = v2 → 0 ≤ v2 → v2 ≤ 999 → (c1F G (f 1) (f 2)).2.1 = n1 → c2F G (f 1) (f 2) = (1, v2, c) → AW E M_X6_readCommand 0 0 90 [some (aR 122), some (aI nb)] [] (pa 122 X fa) hr 125 (PI (fun v h r2 n2 => r2 = hr ∧ n2 = 125 ∧ v = cmd G (f 1) (f 2) ∧ ∃ f2 : Int → Int, h = pa 122 X f2 ∧ f2 1 = f 1 ∧ (v = 1 → f2 2 = cma G (f 1) (f 2) ∧ f2 3 = hrF G (f 1) (f 2) ∧ f2 4 = (c1F G (f 1) (f 2)).2.1 ∧ f2 5 = (c2F G (f 1) (f 2)).2.1))) := by
    intro fa nb c n1 v2 q1 q2 c0 c9 q3 q4 q5 v0 v9 e1 e2
    have ec : cmd G (f 1) (f 2) = if sgF G (f 1) c = 59 then 1 else 0 := by unfold cmd; rw [e2]; exact ts_m1 (by decide) (by decide)
    have em : cma G (f 1) (f 2) = c + cmd G (f 1) (f 2) := by unfold cma; rw [e2]
    refine aw_aload_n dX6_readCommand_90 rfl ?_
    refine aw_getv dX6_readCommand_91 ci6 (by decide) fX6_51 (by decide) (by decide +kernel) rfl ((pa_gk 122 _ _ 5 5 rfl).trans q5) ?_
    refine aw_if_lt (tgt := 110) dX6_readCommand_94 (by decide) ⟨by omega, by omega⟩ (fun h94 => ?_) (fun h94 => ?_)
    · exact absurd h94 (by omega)
    · refine aw_aload_n dX6_readCommand_97 rfl ?_
      refine aw_bipush dX6_readCommand_98 (by decide) ?_
      refine aw_V1x dX6_readCommand_100 clX6_47 ⟨by decide, by decide⟩ (c := 6) (N := 6) (by decide) (by decide +kernel) rfl (by have g := c_X6_readSign (E := E) (X := X) (f := fa) (G := G) (x := 59) hHR (by rw [q1]; exact hG) (by rw [q1]; exact hT) (by rw [q2]; omega) (by rw [q2]; omega) ⟨by decide, by decide⟩; rw [q1, q2] at g; exact g) (by decide) (by decide) rfl rfl (by simp only [List.length_cons, List.length_nil]; omega) ?_
      refine aw_if_eq (tgt := 110) dX6_readCommand_103 (by decide) in_r (fun h103 => ?_) (fun h103 => ?_)
      · refine aw_iconst dX6_readCommand_110 ?_
        refine aw_zret dX6_readCommand_111 rfl (Or.inl rfl) (by decide) (by decide) ?_
        rw [in0] at h103
        rw [if_neg h103] at ec
        exact ⟨_, rfl, rfl, rfl, ec.symm, _, rfl, (up1_n _ _ (by decide)).trans q1, fun g => absurd g (by decide)⟩
      · refine aw_iconst dX6_readCommand_106 ?_
        refine aw_goto (tgt := 111) dX6_readCommand_107 (by decide) ?_
        refine aw_zret dX6_readCommand_111 rfl (Or.inr rfl) (by decide) (by decide) ?_
        rw [in0, Classical.not_not] at h103
        rw [if_pos h103] at ec
        refine ⟨_, rfl, rfl, rfl, ec.symm, _, rfl, (up1_n _ _ (by decide)).trans q1, fun _ => ⟨?_, ?_, ?_, ?_⟩⟩
        · rw [em, ec]; exact up1_s _ _ _
        · rw [up1_n _ _ (by decide)]; exact q3
        · rw [up1_n _ _ (by decide), q4]; exact e1.symm
        · rw [up1_n _ _ (by decide), q5, e2]
  have J18 : ∀ fa : Int → Int, fa 1 = f 1 → fa 2 = f 2 + 1 → fa 3 = hrF G (f 1) (f 2) → AW E M_X6_readCommand 0 0 18 [some (aR 122), none] [] (pa 122 X fa) hr 125 (PI (fun v h r2 n2 => r2 = hr ∧ n2 = 125 ∧ v = cmd G (f 1) (f 2) ∧ ∃ f2 : Int → Int, h = pa 122 X f2 ∧ f2 1 = f 1 ∧ (v = 1 → f2 2 = cma G (f 1) (f 2) ∧ f2 3 = hrF G (f 1) (f 2) ∧ f2 4 = (c1F G (f 1) (f 2)).2.1 ∧ f2 5 = (c2F G (f 1) (f 2)).2.1))) := by
    intro fa q1 q2 q3
    have hnb : AMet E M_X6_numbersOf [aI (hrF G (f 1) (f 2))] (pa 122 X fa) hr 125 (EX (some (aI (nbF (hrF G (f 1) (f 2))))) (pa 122 X fa) hr 125) := c_X6_numbersOf ⟨by omega, by omega⟩
    rcases nb_k (hrF G (f 1) (f 2)) with ⟨en, k⟩ | ⟨en, k, n2, n1⟩ | ⟨en, k, n2, n1⟩ | ⟨en, k, n2⟩
    · rw [en] at hnb
      refine aw_aload_n dX6_readCommand_18 rfl ?_
      refine aw_getv dX6_readCommand_19 ci6 (by decide) fX6_34 (by decide) (by decide +kernel) rfl ((pa_gk 122 _ _ 3 3 rfl).trans q3) ?_
      refine aw_S1x dX6_readCommand_22 clX6_37 ⟨by decide, by decide⟩ hnb (by decide) (by decide) rfl rfl (by simp only [List.length_cons, List.length_nil]; omega) ?_
      refine aw_istore_n (ls2 := [_, _]) dX6_readCommand_25 (by decide) rfl ?_
      refine aw_iload_n dX6_readCommand_26 rfl ?_
      refine aw_if_ge (tgt := 32) dX6_readCommand_27 (by decide) ⟨by decide, by decide⟩ (fun h27 => ?_) (fun h27 => ?_)
      · exact absurd h27 (by decide)
      · refine aw_iconst dX6_readCommand_30 ?_
        refine aw_zret dX6_readCommand_31 rfl (Or.inl rfl) (by decide) (by decide) ?_
        exact ⟨_, rfl, rfl, rfl, (rc_A k).symm, _, rfl, q1, fun g => absurd g (by decide)⟩
    · rw [en] at hnb
      obtain ⟨e1, e2⟩ := rc_D k n2 n1
      refine aw_aload_n dX6_readCommand_18 rfl ?_
      refine aw_getv dX6_readCommand_19 ci6 (by decide) fX6_34 (by decide) (by decide +kernel) rfl ((pa_gk 122 _ _ 3 3 rfl).trans q3) ?_
      refine aw_S1x dX6_readCommand_22 clX6_37 ⟨by decide, by decide⟩ hnb (by decide) (by decide) rfl rfl (by simp only [List.length_cons, List.length_nil]; omega) ?_
      refine aw_istore_n (ls2 := [_, _]) dX6_readCommand_25 (by decide) rfl ?_
      refine aw_iload_n dX6_readCommand_26 rfl ?_
      refine aw_if_ge (tgt := 32) dX6_readCommand_27 (by decide) ⟨by decide, by decide⟩ (fun h27 => ?_) (fun h27 => ?_)
      · refine aw_aload_n dX6_readCommand_32 rfl ?_
        refine aw_iload_n dX6_readCommand_33 rfl ?_
        refine aw_if_le (tgt := 44) dX6_readCommand_34 (by decide) ⟨by decide, by decide⟩ (fun h34 => ?_) (fun h34 => ?_)
        · refine aw_iconst dX6_readCommand_44 ?_
          refine aw_putv dX6_readCommand_45 ci6 (by decide) fX6_44 (by decide) (by decide +kernel) rfl rfl (Or.inl rfl) (pa_uk 122 _ _ 4 4 _ rfl) ?_
          refine aw_aload_n dX6_readCommand_48 rfl ?_
          refine aw_getv dX6_readCommand_49 ci6 (by decide) fX6_44 (by decide) (by decide +kernel) rfl ((pa_gk 122 _ _ 4 4 rfl).trans (up1_s _ _ _)) ?_
          refine aw_if_ge (tgt := 57) dX6_readCommand_52 (by decide) ⟨by decide, by decide⟩ (fun h52 => ?_) (fun h52 => ?_)
          · refine aw_iload_n dX6_readCommand_57 rfl ?_
            refine aw_iconst dX6_readCommand_58 ?_
            refine aw_ic_ne (tgt := 73) dX6_readCommand_59 (by decide) ⟨by decide, by decide⟩ ⟨by decide, by decide⟩ (fun h59 => ?_) (fun h59 => ?_)
            · refine aw_aload_n dX6_readCommand_73 rfl ?_
              refine aw_iload_n dX6_readCommand_74 rfl ?_
              refine aw_iconst dX6_readCommand_75 ?_
              refine aw_ic_ne (tgt := 86) dX6_readCommand_76 (by decide) ⟨by decide, by decide⟩ ⟨by decide, by decide⟩ (fun h76 => ?_) (fun h76 => ?_)
              · refine aw_iconst dX6_readCommand_86 ?_
                refine aw_putv dX6_readCommand_87 ci6 (by decide) fX6_51 (by decide) (by decide +kernel) rfl rfl (Or.inl rfl) (pa_uk 122 _ _ 5 5 _ rfl) ?_
                exact J90 _ 0 (f 2 + 1) 0 0 (by rw [up1_n _ _ (by decide), up1_n _ _ (by decide)]; exact q1) (by rw [up1_n _ _ (by decide), up1_n _ _ (by decide)]; exact q2) (by omega) (by omega) (by rw [up1_n _ _ (by decide), up1_n _ _ (by decide)]; exact q3) (by rw [up1_n _ _ (by decide), up1_s]) (up1_s _ _ _) (by decide) (by decide) (by rw [e1]) e2
              · exact absurd h76 (by decide)
            · exact absurd h59 (by decide)
          · exact absurd h52 (by decide)
        · exact absurd h34 (by decide)
      · exact absurd h27 (by decide)
    · rw [en] at hnb
      have e1 := rc_1 k (Or.inr n1)
      have rb := rn_b (G := G) (len := f 1) (a := f 2 + 1) (by omega)
      refine aw_aload_n dX6_readCommand_18 rfl ?_
      refine aw_getv dX6_readCommand_19 ci6 (by decide) fX6_34 (by decide) (by decide +kernel) rfl ((pa_gk 122 _ _ 3 3 rfl).trans q3) ?_
      refine aw_S1x dX6_readCommand_22 clX6_37 ⟨by decide, by decide⟩ hnb (by decide) (by decide) rfl rfl (by simp only [List.length_cons, List.length_nil]; omega) ?_
      refine aw_istore_n (ls2 := [_, _]) dX6_readCommand_25 (by decide) rfl ?_
      refine aw_iload_n dX6_readCommand_26 rfl ?_
      refine aw_if_ge (tgt := 32) dX6_readCommand_27 (by decide) ⟨by decide, by decide⟩ (fun h27 => ?_) (fun h27 => ?_)
      · refine aw_aload_n dX6_readCommand_32 rfl ?_
        refine aw_iload_n dX6_readCommand_33 rfl ?_
        refine aw_if_le (tgt := 44) dX6_readCommand_34 (by decide) ⟨by decide, by decide⟩ (fun h34 => ?_) (fun h34 => ?_)
        · exact absurd h34 (by decide)
        · refine aw_aload_n dX6_readCommand_37 rfl ?_
          refine aw_V0i dX6_readCommand_38 clX6_41 ⟨by decide, by decide⟩ (c := 6) (N := 6) (by decide) (by decide +kernel) rfl (by have g := c_X6_readNumber (E := E) (X := X) (f := fa) (G := G) hHR (by rw [q1]; exact hG) (by rw [q1]; exact hT) (by rw [q2]; omega) (by rw [q2]; omega); rw [q1, q2] at g; exact g) (by decide) (by decide) rfl rfl (by simp only [List.length_cons, List.length_nil]; omega) (fun vb h_b r_b n_b q => ?_)
          obtain ⟨rfl, rfl, hvb, fb, rfl, gb, zb⟩ := q
          have wb : -1 ≤ vb ∧ vb ≤ 999 := by omega
          refine aw_goto (tgt := 45) dX6_readCommand_41 (by decide) ?_
          refine aw_putv dX6_readCommand_45 ci6 (by decide) fX6_44 (by decide) (by decide +kernel) rfl rfl (Or.inl rfl) (pa_uk 122 _ _ 4 4 _ rfl) ?_
          refine aw_aload_n dX6_readCommand_48 rfl ?_
          refine aw_getv dX6_readCommand_49 ci6 (by decide) fX6_44 (by decide) (by decide +kernel) rfl ((pa_gk 122 _ _ 4 4 rfl).trans (up1_s _ _ _)) ?_
          refine aw_if_ge (tgt := 57) dX6_readCommand_52 (by decide) ⟨by omega, by omega⟩ (fun h52 => ?_) (fun h52 => ?_)
          · refine aw_iload_n dX6_readCommand_57 rfl ?_
            refine aw_iconst dX6_readCommand_58 ?_
            refine aw_ic_ne (tgt := 73) dX6_readCommand_59 (by decide) ⟨by decide, by decide⟩ ⟨by decide, by decide⟩ (fun h59 => ?_) (fun h59 => ?_)
            · refine aw_aload_n dX6_readCommand_73 rfl ?_
              refine aw_iload_n dX6_readCommand_74 rfl ?_
              refine aw_iconst dX6_readCommand_75 ?_
              refine aw_ic_ne (tgt := 86) dX6_readCommand_76 (by decide) ⟨by decide, by decide⟩ ⟨by decide, by decide⟩ (fun h76 => ?_) (fun h76 => ?_)
              · refine aw_iconst dX6_readCommand_86 ?_
                refine aw_putv dX6_readCommand_87 ci6 (by decide) fX6_51 (by decide) (by decide +kernel) rfl rfl (Or.inl rfl) (pa_uk 122 _ _ 5 5 _ rfl) ?_
                have d1 := rb.2.2.1.mp (by omega)
                have e3 : c1F G (f 1) (f 2) = (1, nuA G (f 1) 3 0 (f 2 + 1)) := by rw [e1, nuF_1 (by decide) d1]
                have e2 : c2F G (f 1) (f 2) = (1, 0, (nuA G (f 1) 3 0 (f 2 + 1)).2) := by unfold c2F; rw [if_neg (fun g => n2 g.2), e3]
                exact J90 _ 1 _ vb 0 (by rw [up1_n _ _ (by decide), up1_n _ _ (by decide), gb 1 (by decide)]; exact q1) (by rw [up1_n _ _ (by decide), up1_n _ _ (by decide)]; exact zb) (by omega) (by omega) (by rw [up1_n _ _ (by decide), up1_n _ _ (by decide), gb 3 (by decide)]; exact q3) (by rw [up1_n _ _ (by decide), up1_s]) (up1_s _ _ _) (by decide) (by decide) (by rw [e3, hvb, rn_1 d1]) e2
              · exact absurd h76 (by decide)
            · exact absurd h59 (by decide)
          · refine aw_iconst dX6_readCommand_55 ?_
            refine aw_zret dX6_readCommand_56 rfl (Or.inl rfl) (by decide) (by decide) ?_
            have d0 : ¬ dgF G (f 1) (f 2 + 1) = 1 := fun g => by have := rb.2.2.1.mpr g; omega
            have e3 : (c1F G (f 1) (f 2)).1 = 0 := by rw [e1, nuF_0 (fun g => d0 g.2)]
            exact ⟨_, rfl, rfl, rfl, (cmd_0 (c2_0 e3)).symm, _, rfl, by rw [up1_n _ _ (by decide), gb 1 (by decide)]; exact q1, fun g => absurd g (by decide)⟩
      · exact absurd h27 (by decide)
    · rw [en] at hnb
      have e1 := rc_1 k (Or.inl n2)
      have rb := rn_b (G := G) (len := f 1) (a := f 2 + 1) (by omega)
      refine aw_aload_n dX6_readCommand_18 rfl ?_
      refine aw_getv dX6_readCommand_19 ci6 (by decide) fX6_34 (by decide) (by decide +kernel) rfl ((pa_gk 122 _ _ 3 3 rfl).trans q3) ?_
      refine aw_S1x dX6_readCommand_22 clX6_37 ⟨by decide, by decide⟩ hnb (by decide) (by decide) rfl rfl (by simp only [List.length_cons, List.length_nil]; omega) ?_
      refine aw_istore_n (ls2 := [_, _]) dX6_readCommand_25 (by decide) rfl ?_
      refine aw_iload_n dX6_readCommand_26 rfl ?_
      refine aw_if_ge (tgt := 32) dX6_readCommand_27 (by decide) ⟨by decide, by decide⟩ (fun h27 => ?_) (fun h27 => ?_)
      · refine aw_aload_n dX6_readCommand_32 rfl ?_
        refine aw_iload_n dX6_readCommand_33 rfl ?_
        refine aw_if_le (tgt := 44) dX6_readCommand_34 (by decide) ⟨by decide, by decide⟩ (fun h34 => ?_) (fun h34 => ?_)
        · exact absurd h34 (by decide)
        · refine aw_aload_n dX6_readCommand_37 rfl ?_
          refine aw_V0i dX6_readCommand_38 clX6_41 ⟨by decide, by decide⟩ (c := 6) (N := 6) (by decide) (by decide +kernel) rfl (by have g := c_X6_readNumber (E := E) (X := X) (f := fa) (G := G) hHR (by rw [q1]; exact hG) (by rw [q1]; exact hT) (by rw [q2]; omega) (by rw [q2]; omega); rw [q1, q2] at g; exact g) (by decide) (by decide) rfl rfl (by simp only [List.length_cons, List.length_nil]; omega) (fun vb h_b r_b n_b q => ?_)
          obtain ⟨rfl, rfl, hvb, fb, rfl, gb, zb⟩ := q
          have wb : -1 ≤ vb ∧ vb ≤ 999 := by omega
          refine aw_goto (tgt := 45) dX6_readCommand_41 (by decide) ?_
          refine aw_putv dX6_readCommand_45 ci6 (by decide) fX6_44 (by decide) (by decide +kernel) rfl rfl (Or.inl rfl) (pa_uk 122 _ _ 4 4 _ rfl) ?_
          refine aw_aload_n dX6_readCommand_48 rfl ?_
          refine aw_getv dX6_readCommand_49 ci6 (by decide) fX6_44 (by decide) (by decide +kernel) rfl ((pa_gk 122 _ _ 4 4 rfl).trans (up1_s _ _ _)) ?_
          refine aw_if_ge (tgt := 57) dX6_readCommand_52 (by decide) ⟨by omega, by omega⟩ (fun h52 => ?_) (fun h52 => ?_)
          · have y1 : up1 fb 4 vb 1 = f 1 := by rw [up1_n _ _ (by decide), gb 1 (by decide)]; exact q1
            have y2 : up1 fb 4 vb 2 = (nuA G (f 1) 3 0 (f 2 + 1)).2 := by rw [up1_n _ _ (by decide)]; exact zb
            have rc := rn_b (G := G) (len := f 1) (a := (nuA G (f 1) 3 0 (f 2 + 1)).2 + 1) (by omega)
            refine aw_iload_n dX6_readCommand_57 rfl ?_
            refine aw_iconst dX6_readCommand_58 ?_
            refine aw_ic_ne (tgt := 73) dX6_readCommand_59 (by decide) ⟨by decide, by decide⟩ ⟨by decide, by decide⟩ (fun h59 => ?_) (fun h59 => ?_)
            · exact absurd h59 (by decide)
            · refine aw_aload_n dX6_readCommand_62 rfl ?_
              refine aw_bipush dX6_readCommand_63 (by decide) ?_
              refine aw_V1x dX6_readCommand_65 clX6_47 ⟨by decide, by decide⟩ (c := 6) (N := 6) (by decide) (by decide +kernel) rfl (by have g := c_X6_readSign (E := E) (X := X) (f := (up1 fb 4 vb)) (G := G) (x := 44) hHR (by rw [y1]; exact hG) (by rw [y1]; exact hT) (by rw [y2]; omega) (by rw [y2]; omega) ⟨by decide, by decide⟩; rw [y1, y2] at g; exact g) (by decide) (by decide) rfl rfl (by simp only [List.length_cons, List.length_nil]; omega) ?_
              refine aw_if_ne (tgt := 73) dX6_readCommand_68 (by decide) in_r (fun h68 => ?_) (fun h68 => ?_)
              · refine aw_aload_n dX6_readCommand_73 rfl ?_
                refine aw_iload_n dX6_readCommand_74 rfl ?_
                refine aw_iconst dX6_readCommand_75 ?_
                refine aw_ic_ne (tgt := 86) dX6_readCommand_76 (by decide) ⟨by decide, by decide⟩ ⟨by decide, by decide⟩ (fun h76 => ?_) (fun h76 => ?_)
                · exact absurd h76 (by decide)
                · refine aw_aload_n dX6_readCommand_79 rfl ?_
                  refine aw_V0i dX6_readCommand_80 clX6_41 ⟨by decide, by decide⟩ (c := 6) (N := 6) (by decide) (by decide +kernel) rfl (by have g := c_X6_readNumber (E := E) (X := X) (f := (up1 (up1 fb 4 vb) 2 ((nuA G (f 1) 3 0 (f 2 + 1)).2 + 1))) (G := G) hHR (by rw [(show up1 (up1 fb 4 vb) 2 ((nuA G (f 1) 3 0 (f 2 + 1)).2 + 1) 1 = f 1 from by rw [up1_n _ _ (by decide)]; exact y1)]; exact hG) (by rw [(show up1 (up1 fb 4 vb) 2 ((nuA G (f 1) 3 0 (f 2 + 1)).2 + 1) 1 = f 1 from by rw [up1_n _ _ (by decide)]; exact y1)]; exact hT) (by rw [up1_s]; omega) (by rw [up1_s]; omega); rw [(show up1 (up1 fb 4 vb) 2 ((nuA G (f 1) 3 0 (f 2 + 1)).2 + 1) 1 = f 1 from by rw [up1_n _ _ (by decide)]; exact y1), up1_s] at g; exact g) (by decide) (by decide) rfl rfl (by simp only [List.length_cons, List.length_nil]; omega) (fun vd h_d r_d n_d q => ?_)
                  obtain ⟨rfl, rfl, hvd, fd, rfl, gd, zd⟩ := q
                  have wd : -1 ≤ vd ∧ vd ≤ 999 := by omega
                  refine aw_goto (tgt := 87) dX6_readCommand_83 (by decide) ?_
                  refine aw_putv dX6_readCommand_87 ci6 (by decide) fX6_51 (by decide) (by decide +kernel) rfl rfl (Or.inl rfl) (pa_uk 122 _ _ 5 5 _ rfl) ?_
                  have d1 := rb.2.2.1.mp (by omega)
                  rw [in0, Classical.not_not] at h68
                  have e3 : c1F G (f 1) (f 2) = (1, nuA G (f 1) 3 0 (f 2 + 1)) := by rw [e1, nuF_1 (by decide) d1]
                  have e2 : c2F G (f 1) (f 2) = nuF G (f 1) 1 ((nuA G (f 1) 3 0 (f 2 + 1)).2 + 1) := by
                    unfold c2F
                    rw [if_pos ⟨by rw [e3]; exact Int.one_ne_zero, n2⟩, e3]
                    dsimp only
                    rw [ts_m1 (by decide) (by decide), if_pos h68]
                  by_cases hv2 : 0 ≤ vd
                  · have d2 := rc.2.2.1.mp (by omega)
                    rw [nuF_1 (by decide) d2] at e2
                    refine J90 _ 2 (nuA G (f 1) 3 0 ((nuA G (f 1) 3 0 (f 2 + 1)).2 + 1)).2 vb vd (by rw [up1_n _ _ (by decide), gd 1 (by decide), up1_n _ _ (by decide)]; exact y1) (by rw [up1_n _ _ (by decide)]; exact zd) (by omega) (by omega) (by rw [up1_n _ _ (by decide), gd 3 (by decide), up1_n _ _ (by decide), up1_n _ _ (by decide), gb 3 (by decide)]; exact q3) (by rw [up1_n _ _ (by decide), gd 4 (by decide), up1_n _ _ (by decide), up1_s]) (up1_s _ _ _) hv2 (by omega) (by rw [e3, hvb, rn_1 d1]) ?_
                    rw [e2, hvd, rn_1 d2]
                  · have d2 : ¬ dgF G (f 1) ((nuA G (f 1) 3 0 (f 2 + 1)).2 + 1) = 1 := fun g => by have := rc.2.2.1.mpr g; omega
                    rw [nuF_0 (fun g => d2 g.2)] at e2
                    refine aw_aload_n dX6_readCommand_90 rfl ?_
                    refine aw_getv dX6_readCommand_91 ci6 (by decide) fX6_51 (by decide) (by decide +kernel) rfl ((pa_gk 122 _ _ 5 5 rfl).trans (up1_s _ _ _)) ?_
                    refine aw_if_lt (tgt := 110) dX6_readCommand_94 (by decide) ⟨by omega, by omega⟩ (fun h94 => ?_) (fun h94 => ?_)
                    · refine aw_iconst dX6_readCommand_110 ?_
                      refine aw_zret dX6_readCommand_111 rfl (Or.inl rfl) (by decide) (by decide) ?_
                      exact ⟨_, rfl, rfl, rfl, (cmd_0 (by rw [e2])).symm, _, rfl, by rw [up1_n _ _ (by decide), gd 1 (by decide), up1_n _ _ (by decide)]; exact y1, fun g => absurd g (by decide)⟩
                    · exact absurd h94 (by omega)
              · refine aw_iconst dX6_readCommand_71 ?_
                refine aw_zret dX6_readCommand_72 rfl (Or.inl rfl) (by decide) (by decide) ?_
                have d1 := rb.2.2.1.mp (by omega)
                rw [in0] at h68
                have e3 : c1F G (f 1) (f 2) = (1, nuA G (f 1) 3 0 (f 2 + 1)) := by rw [e1, nuF_1 (by decide) d1]
                have e2 : (c2F G (f 1) (f 2)).1 = 0 := by
                  unfold c2F
                  rw [if_pos ⟨by rw [e3]; exact Int.one_ne_zero, n2⟩, e3]
                  dsimp only
                  rw [ts_m1 (by decide) (by decide), if_neg h68, nuF_0 (fun g => g.1 rfl)]
                exact ⟨_, rfl, rfl, rfl, (cmd_0 e2).symm, _, rfl, by rw [up1_n _ _ (by decide)]; exact y1, fun g => absurd g (by decide)⟩
          · refine aw_iconst dX6_readCommand_55 ?_
            refine aw_zret dX6_readCommand_56 rfl (Or.inl rfl) (by decide) (by decide) ?_
            have d0 : ¬ dgF G (f 1) (f 2 + 1) = 1 := fun g => by have := rb.2.2.1.mpr g; omega
            have e3 : (c1F G (f 1) (f 2)).1 = 0 := by rw [e1, nuF_0 (fun g => d0 g.2)]
            exact ⟨_, rfl, rfl, rfl, (cmd_0 (c2_0 e3)).symm, _, rfl, by rw [up1_n _ _ (by decide), gb 1 (by decide)]; exact q1, fun g => absurd g (by decide)⟩
      · exact absurd h27 (by decide)
  refine aw_aload_n dX6_readCommand_0 rfl ?_
  refine aw_aload_n dX6_readCommand_1 rfl ?_
  refine aw_V0x dX6_readCommand_2 clX6_30 ⟨by decide, by decide⟩ (c := 6) (N := 6) (by decide) (by decide +kernel) rfl (c_X6_sign hHR hG hT h0 (by omega)) (by decide) (by decide) rfl rfl (by simp only [List.length_cons, List.length_nil]; omega) ?_
  refine aw_putv dX6_readCommand_5 ci6 (by decide) fX6_34 (by decide) (by decide +kernel) rfl rfl (Or.inl rfl) (pa_uk 122 _ _ 3 3 _ rfl) ?_
  refine aw_aload_n dX6_readCommand_8 rfl ?_
  refine aw_dup dX6_readCommand_9 ?_
  refine aw_getv dX6_readCommand_10 ci6 (by decide) fX6_27 (by decide) (by decide +kernel) rfl ((pa_gk 122 _ _ 2 2 rfl).trans (show _ = f 2 from up1_n _ _ (by decide))) ?_
  refine aw_iconst dX6_readCommand_13 ?_
  refine aw_iadd dX6_readCommand_14 ?_
  refine aw_putv dX6_readCommand_15 ci6 (by decide) fX6_27 (by decide) (by decide +kernel) rfl rfl (Or.inl rfl) (pa_uk 122 _ _ 2 2 _ rfl) ?_
  exact J18 _ (by rw [up1_n _ _ (by decide), up1_n _ _ (by decide)]) (up1_s _ _ _) (by rw [up1_n _ _ (by decide), up1_s]; exact ex)
end TEXT2
