/-! the twin's texts, two -/
section TWIN9
variable {E : ET} {hi X : HI} {hr : HR} {f p b s G : Int → Int} {a d t m : Int}
theorem cmd_kf {G : Int → Int} {len a : Int} (h : cmd G len a = 1) : kfF (hrF G len a) = 1 := by
  have hk := kf_b (hrF G len a)
  have h2 : ¬ (c2F G len a).1 = 0 := by
    intro e
    unfold cmd tsF at h
    rw [if_neg (fun g => g.1 e)] at h
    exact absurd h (by decide)
  have h1 : ¬ (c1F G len a).1 = 0 := by
    intro e
    unfold c2F at h2
    rw [if_neg (fun g => g.1 e)] at h2
    exact h2 e
  by_cases c : h2F (hrF G len a) = 1 ∨ h1F (hrF G len a) = 1
  · unfold kfF; rw [if_pos (by rcases c with c | c <;> simp [c])]
  · unfold c1F at h1
    rw [if_neg c] at h1
    dsimp only at h1
    omega
theorem kf_x {x : Int} (h : kfF x = 1) : x = 119 ∨ x = 117 ∨ x = 116 ∨ x = 120 ∨ x = 111 ∨ x = 115 ∨ x = 99 ∨ x = 101 := by
  have e2 : h2F x = 1 → x = 119 ∨ x = 117 := fun q => by unfold h2F at q; split at q <;> first | assumption | omega
  have e1 : h1F x = 1 → x = 116 ∨ x = 99 ∨ x = 101 := fun q => by unfold h1F at q; split at q <;> first | assumption | omega
  unfold kfF at h
  split at h
  · next c =>
    rcases c with c | c | c
    · have := e2 c; omega
    · have := e1 c; omega
    · omega
  · exact absurd h (by decide)
set_option maxRecDepth 100000 in
set_option maxHeartbeats 4000000 in
theorem c_X9_does {z : Int → Int} {n : Int} (hHR : HRk hr) (hG : ∀ j : Nat, X 129 j = G (j : Int)) (hT : TX G (f 5)) (hO : OKS s n) (hn : n + 61 ≤ 100000) : AMet E M_X9_does [aR 125] (mh (pa 130 X z) (ff f a d t m) p b s) hr 131 (PI (fun v h r2 n2 => r2 = hr ∧ n2 = 131 ∧ v = (dorF G (f 5) s t m).1 ∧ ∃ w : Int → Int, h = (mh (pa 130 X w) (ff f ((dorF G (f 5) s t m).2.2.1) ((dorF G (f 5) s t m).2.2.2.1) ((dorF G (f 5) s t m).2.2.2.2.1) ((dorF G (f 5) s t m).2.2.2.2.2)) p b ((dorF G (f 5) s t m).2.1)))) := by
  refine am_of (by decide +kernel) (Nat.le_of_ble_eq_true rfl) ?_
  have hl0 := hT.1
  have hl1 := hT.2.1
  have loop : ∀ (k : Nat) (s : Int → Int) (a d t m : Int) (z : Int → Int) (n : Int) (l1 l2 l3 l4 : Option AV), OKS s n → n + k ≤ 100000 → 0 ≤ a → f 5 ≤ a + k → a + 10 * k ≤ 700 → 0 ≤ d → d + k ≤ 1000 →
      AW E M_X9_does 0 0 10 [some (aR 125), l1, l2, l3, l4] [] (mh (pa 130 X z) (ff f a d t m) p b s) hr 131 (PI (fun v h r2 n2 => r2 = hr ∧ n2 = 131 ∧ v = (doA G (f 5) k s a d t m).1 ∧ ∃ w : Int → Int, h = (mh (pa 130 X w) (ff f ((doA G (f 5) k s a d t m).2.2.1) ((doA G (f 5) k s a d t m).2.2.2.1) ((doA G (f 5) k s a d t m).2.2.2.2.1) ((doA G (f 5) k s a d t m).2.2.2.2.2)) p b ((doA G (f 5) k s a d t m).2.1)))) := by
    intro k
    induction k with
    | zero =>
      intro s a d t m z n l1 l2 l3 l4 hO hn ha hla ha2 hd hd2
      refine aw_aload_n dX9_does_10 rfl ?_
      refine aw_getv dX9_does_11 ci9 (by decide) fX9_177 (by decide) (by decide +kernel) rfl (mt_7 _ _ _ _ _ _ _ _ _) ?_
      refine aw_aload_n dX9_does_14 rfl ?_
      refine aw_getv dX9_does_15 ci9 (by decide) fX9_171 (by decide) (by decide +kernel) rfl (mt_5 _ _ _ _ _ _ _ _ _) ?_
      refine aw_ic_ge (tgt := 203) dX9_does_18 (by decide) ⟨by omega, by omega⟩ ⟨by omega, by omega⟩ (fun h18 => ?_) (fun h18 => ?_)
      · refine aw_iconst dX9_does_203 ?_
        refine aw_iret dX9_does_204 rfl (by decide) (by decide) ?_
        exact ⟨_, rfl, rfl, rfl, rfl, z, rfl⟩
      · exact absurd h18 (by omega)
    | succ k ih =>
      intro s a d t m z n l1 l2 l3 l4 hO hn ha hla ha2 hd hd2
      have hkf := kf_b (hrF G (f 5) a)
      have hb := hr_b hT ha
      have hx : InR (hrF G (f 5) a) := ⟨by omega, by omega⟩
      have b1 := c1_b (G := G) (len := f 5) ha
      have b2 := c2_b (G := G) (len := f 5) ha
      have b3 := cmd_b G (f 5) a
      have b4 := cma_b (G := G) (len := f 5) ha
      have q2 := h2_b (hrF G (f 5) a)
      have q1 := h1_b (hrF G (f 5) a)
      have hrc := r_ca hO (hrF G (f 5) a) (c1F G (f 5) a).2.1 (c2F G (f 5) a).2.1
      by_cases hal : f 5 ≤ a
      · refine aw_aload_n dX9_does_10 rfl ?_
        refine aw_getv dX9_does_11 ci9 (by decide) fX9_177 (by decide) (by decide +kernel) rfl (mt_7 _ _ _ _ _ _ _ _ _) ?_
        refine aw_aload_n dX9_does_14 rfl ?_
        refine aw_getv dX9_does_15 ci9 (by decide) fX9_171 (by decide) (by decide +kernel) rfl (mt_5 _ _ _ _ _ _ _ _ _) ?_
        refine aw_ic_ge (tgt := 203) dX9_does_18 (by decide) ⟨by omega, by omega⟩ ⟨by omega, by omega⟩ (fun h18 => ?_) (fun h18 => ?_)
        · refine aw_iconst dX9_does_203 ?_
          refine aw_iret dX9_does_204 rfl (by decide) (by decide) ?_
          have e : doA G (f 5) (k + 1) s a d t m = (-1, s, a, d, t, m) := by
            show (if _ then _ else _) = _
            rw [if_pos hal]
          rw [e]
          exact ⟨_, rfl, rfl, rfl, rfl, z, rfl⟩
        · exact absurd h18 (by omega)
      have J4 : AW E M_X9_does 0 0 145 [some (aR 125), some (aI a), some (aI (hrF G (f 5) a)), some (aI (c1F G (f 5) a).2.1), some (aI (c2F G (f 5) a).2.1)] [] (mh (pa 130 X z) (ff f ((c2F G (f 5) a).2.2) d t ((c2F G (f 5) a).1)) p b s) hr 131 (PI (fun v h r2 n2 => r2 = hr ∧ n2 = 131 ∧ v = (doA G (f 5) (k + 1) s a d t m).1 ∧ ∃ w : Int → Int, h = (mh (pa 130 X w) (ff f ((doA G (f 5) (k + 1) s a d t m).2.2.1) ((doA G (f 5) (k + 1) s a d t m).2.2.2.1) ((doA G (f 5) (k + 1) s a d t m).2.2.2.2.1) ((doA G (f 5) (k + 1) s a d t m).2.2.2.2.2)) p b ((doA G (f 5) (k + 1) s a d t m).2.1)))) := by
        refine aw_aload_n dX9_does_145 rfl ?_
        refine aw_bipush dX9_does_146 (by decide) ?_
        refine aw_V1v dX9_does_148 clX9_202 ⟨by decide, by decide⟩ (c := 9) (N := 11) (by decide) (by decide +kernel) rfl (c_X9_takesSign hHR (fun j => (pa_gn _ _ _ (by decide)).trans (hG j)) hT (by omega) (by omega) ⟨by decide, by decide⟩ b2.1) (by decide) (by decide) rfl rfl (by simp only [List.length_cons, List.length_nil]; omega) ?_
        change AW E M_X9_does 0 0 151 _ _ (mh (pa 130 X z) (ff f (cma G (f 5) a) d t (cmd G (f 5) a)) p b s) hr 131 _
        refine aw_aload_n dX9_does_151 rfl ?_
        refine aw_aload_n dX9_does_152 rfl ?_
        refine aw_getv dX9_does_153 ci9 (by decide) fX9_183 (by decide) (by decide +kernel) rfl (mt_10 _ _ _ _ _ _ _ _ _) ?_
        refine aw_if_eq (tgt := 170) dX9_does_156 (by decide) ⟨by omega, by omega⟩ (fun h156 => ?_) (fun h156 => ?_)
        · refine aw_iconst dX9_does_170 ?_
          refine aw_putv dX9_does_171 ci9 (by decide) fX9_208 (by decide) (by decide +kernel) rfl rfl (Or.inl rfl) (mt_u9 _ _ _ _ _ _ _ _ _ _) ?_
          refine aw_aload_n dX9_does_174 rfl ?_
          refine aw_getv dX9_does_175 ci9 (by decide) fX9_183 (by decide) (by decide +kernel) rfl (mt_10 _ _ _ _ _ _ _ _ _) ?_
          refine aw_if_eq (tgt := 188) dX9_does_178 (by decide) ⟨by omega, by omega⟩ (fun h178 => ?_) (fun h178 => ?_)
          · refine aw_iload_n dX9_does_188 rfl ?_
            refine aw_iret dX9_does_189 rfl (by decide) (by decide) ?_
            have e : doA G (f 5) (k + 1) s a d t m = (a, s, cma G (f 5) a, d, 0, 0) := by
              show (if _ then _ else _) = _
              rw [if_neg (by omega), if_pos h156]
            rw [e, h156]
            exact ⟨_, rfl, rfl, rfl, rfl, z, rfl⟩
          · exact absurd h156 h178
        · refine aw_aload_n dX9_does_159 rfl ?_
          refine aw_iload_n dX9_does_160 rfl ?_
          refine aw_iload_n dX9_does_161 rfl ?_
          refine aw_iload dX9_does_162 rfl ?_
          refine aw_V3i dX9_does_164 clX9_205 ⟨by decide, by decide⟩ (c := 9) (N := 11) (by decide) (by decide +kernel) rfl (c_X9_called hHR hO.1 (kf_x (cmd_kf (by omega))) ⟨by omega, by omega⟩ ⟨by omega, by omega⟩) (by decide) (by decide) rfl rfl (by simp only [List.length_cons, List.length_nil]; omega) (fun v h2 r2 n2 q => ?_)
          obtain ⟨rfl, rfl, rfl, w, rfl⟩ := q
          rw [pa_pa]
          refine aw_goto (tgt := 171) dX9_does_167 (by decide) ?_
          refine aw_putv dX9_does_171 ci9 (by decide) fX9_208 (by decide) (by decide +kernel) rfl rfl (Or.inl rfl) (mt_u9 _ _ _ _ _ _ _ _ _ _) ?_
          refine aw_aload_n dX9_does_174 rfl ?_
          refine aw_getv dX9_does_175 ci9 (by decide) fX9_183 (by decide) (by decide +kernel) rfl (mt_10 _ _ _ _ _ _ _ _ _) ?_
          refine aw_if_eq (tgt := 188) dX9_does_178 (by decide) ⟨by omega, by omega⟩ (fun h178 => ?_) (fun h178 => ?_)
          · exact absurd h178 h156
          · refine aw_aload_n dX9_does_181 rfl ?_
            refine aw_getv dX9_does_182 ci9 (by decide) fX9_208 (by decide) (by decide +kernel) rfl (mt_9 _ _ _ _ _ _ _ _ _) ?_
            refine aw_if_ge (tgt := 190) dX9_does_185 (by decide) hrc (fun h185 => ?_) (fun h185 => ?_)
            · refine aw_aload_n dX9_does_190 rfl ?_
              refine aw_dup dX9_does_191 ?_
              refine aw_getv dX9_does_192 ci9 (by decide) fX9_190 (by decide) (by decide +kernel) rfl (mt_8 _ _ _ _ _ _ _ _ _) ?_
              refine aw_iconst dX9_does_195 ?_
              refine aw_iadd dX9_does_196 ?_
              refine aw_putv dX9_does_197 ci9 (by decide) fX9_190 (by decide) (by decide +kernel) rfl rfl (Or.inl rfl) (mt_u8 _ _ _ _ _ _ _ _ _ _) ?_
              refine aw_goto (tgt := 10) dX9_does_200 (by decide) ?_
              have e : doA G (f 5) (k + 1) s a d t m = doA G (f 5) k (caF s (hrF G (f 5) a) (c1F G (f 5) a).2.1 (c2F G (f 5) a).2.1).2 (cma G (f 5) a) (d + 1) (caF s (hrF G (f 5) a) (c1F G (f 5) a).2.1 (c2F G (f 5) a).2.1).1 1 := by
                show (if _ then _ else _) = _
                rw [if_neg (by omega), if_neg h156, if_neg (by omega)]
              have e1 : cmd G (f 5) a = 1 := by omega
              rw [e, e1]
              have b5 := (cma_b (G := G) (len := f 5) ha).2.2 e1
              exact ih _ (cma G (f 5) a) (d + 1) _ 1 w (n + 1) _ _ _ _ (hO.ca (by omega) _ _ _) (by omega) (by omega) (by omega) (by omega) (by omega) (by omega)
            · refine aw_iload_n dX9_does_188 rfl ?_
              refine aw_iret dX9_does_189 rfl (by decide) (by decide) ?_
              have e : doA G (f 5) (k + 1) s a d t m = (a, (caF s (hrF G (f 5) a) (c1F G (f 5) a).2.1 (c2F G (f 5) a).2.1).2, cma G (f 5) a, d, (caF s (hrF G (f 5) a) (c1F G (f 5) a).2.1 (c2F G (f 5) a).2.1).1, 1) := by
                show (if _ then _ else _) = _
                rw [if_neg (by omega), if_neg h156, if_pos (by omega)]
              have e1 : cmd G (f 5) a = 1 := by omega
              rw [e, e1]
              exact ⟨_, rfl, rfl, rfl, rfl, w, rfl⟩
      have J3 : ∀ l3 l4 : Option AV, AW E M_X9_does 0 0 115 [some (aR 125), some (aI a), some (aI (hrF G (f 5) a)), l3, l4] [aI (c1F G (f 5) a).2.1] (mh (pa 130 X z) (ff f ((c1F G (f 5) a).2.2) d t ((c1F G (f 5) a).1)) p b s) hr 131 (PI (fun v h r2 n2 => r2 = hr ∧ n2 = 131 ∧ v = (doA G (f 5) (k + 1) s a d t m).1 ∧ ∃ w : Int → Int, h = (mh (pa 130 X w) (ff f ((doA G (f 5) (k + 1) s a d t m).2.2.1) ((doA G (f 5) (k + 1) s a d t m).2.2.2.1) ((doA G (f 5) (k + 1) s a d t m).2.2.2.2.1) ((doA G (f 5) (k + 1) s a d t m).2.2.2.2.2)) p b ((doA G (f 5) (k + 1) s a d t m).2.1)))) := by
        intro l3 l4
        refine aw_istore_n (ls2 := [_, _, _, _, _]) dX9_does_115 (by decide) rfl ?_
        refine aw_iconst dX9_does_116 ?_
        refine aw_istore (ls2 := [_, _, _, _, _]) dX9_does_117 (by decide) rfl ?_
        refine aw_aload_n dX9_does_119 rfl ?_
        refine aw_getv dX9_does_120 ci9 (by decide) fX9_183 (by decide) (by decide +kernel) rfl (mt_10 _ _ _ _ _ _ _ _ _) ?_
        refine aw_if_eq (tgt := 145) dX9_does_123 (by decide) ⟨by omega, by omega⟩ (fun h123 => ?_) (fun h123 => ?_)
        · have e : c2F G (f 5) a = ((c1F G (f 5) a).1, 0, (c1F G (f 5) a).2.2) := by
            show (if _ then _ else _) = _
            rw [if_neg (fun g => by have g1 := g.1; have g2 := g.2; omega)]
          rw [e] at J4
          exact J4
        · refine aw_iload_n dX9_does_126 rfl ?_
          refine aw_S1x dX9_does_127 clX9_193 ⟨by decide, by decide⟩ (c_X9_hasTwo hx) (by decide) (by decide) rfl rfl (by simp only [List.length_cons, List.length_nil]; omega) ?_
          refine aw_if_eq (tgt := 145) dX9_does_130 (by decide) ⟨by omega, by omega⟩ (fun h130 => ?_) (fun h130 => ?_)
          · have e : c2F G (f 5) a = ((c1F G (f 5) a).1, 0, (c1F G (f 5) a).2.2) := by
              show (if _ then _ else _) = _
              rw [if_neg (fun g => by have g1 := g.1; have g2 := g.2; omega)]
            rw [e] at J4
            exact J4
          · refine aw_aload_n dX9_does_133 rfl ?_
            refine aw_bipush dX9_does_134 (by decide) ?_
            refine aw_V1v dX9_does_136 clX9_202 ⟨by decide, by decide⟩ (c := 9) (N := 11) (by decide) (by decide +kernel) rfl (c_X9_takesSign hHR (fun j => (pa_gn _ _ _ (by decide)).trans (hG j)) hT (by omega) (by omega) ⟨by decide, by decide⟩ b1.1) (by decide) (by decide) rfl rfl (by simp only [List.length_cons, List.length_nil]; omega) ?_
            have hts := ts_b G (f 5) 44 (c1F G (f 5) a).1 (c1F G (f 5) a).2.2
            refine aw_aload_n dX9_does_139 rfl ?_
            refine aw_V0x dX9_does_140 clX9_199 ⟨by decide, by decide⟩ (c := 9) (N := 11) (by decide) (by decide +kernel) rfl (c_X9_number hHR (fun j => (pa_gn _ _ _ (by decide)).trans (hG j)) hT (by omega) (by omega) (ts_b _ _ _ _ _)) (by decide) (by decide) rfl rfl (by simp only [List.length_cons, List.length_nil]; omega) ?_
            refine aw_istore (ls2 := [_, _, _, _, _]) dX9_does_143 (by decide) rfl ?_
            have e : c2F G (f 5) a = nuF G (f 5) (tsF G (f 5) 44 (c1F G (f 5) a).1 (c1F G (f 5) a).2.2) ((c1F G (f 5) a).2.2 + tsF G (f 5) 44 (c1F G (f 5) a).1 (c1F G (f 5) a).2.2) := by
              show (if _ then _ else _) = _
              rw [if_pos ⟨h123, by omega⟩]
            rw [e] at J4
            exact J4
      have J2 : ∀ l3 l4 : Option AV, AW E M_X9_does 0 0 89 [some (aR 125), some (aI a), some (aI (hrF G (f 5) a)), l3, l4] [aI (kfF (hrF G (f 5) a)), aI a, aR 125] (mh (pa 130 X z) (ff f a d t (kfF (hrF G (f 5) a))) p b s) hr 131 (PI (fun v h r2 n2 => r2 = hr ∧ n2 = 131 ∧ v = (doA G (f 5) (k + 1) s a d t m).1 ∧ ∃ w : Int → Int, h = (mh (pa 130 X w) (ff f ((doA G (f 5) (k + 1) s a d t m).2.2.1) ((doA G (f 5) (k + 1) s a d t m).2.2.2.1) ((doA G (f 5) (k + 1) s a d t m).2.2.2.2.1) ((doA G (f 5) (k + 1) s a d t m).2.2.2.2.2)) p b ((doA G (f 5) (k + 1) s a d t m).2.1)))) := by
        intro l3 l4
        refine aw_iadd dX9_does_89 ?_
        refine aw_putv dX9_does_90 ci9 (by decide) fX9_177 (by decide) (by decide +kernel) rfl rfl (Or.inl rfl) (mt_u7 _ _ _ _ _ _ _ _ _ _) ?_
        refine aw_iload_n dX9_does_93 rfl ?_
        refine aw_S1x dX9_does_94 clX9_193 ⟨by decide, by decide⟩ (c_X9_hasTwo hx) (by decide) (by decide) rfl rfl (by simp only [List.length_cons, List.length_nil]; omega) ?_
        refine aw_if_ne (tgt := 107) dX9_does_97 (by decide) ⟨by omega, by omega⟩ (fun h97 => ?_) (fun h97 => ?_)
        · refine aw_aload_n dX9_does_107 rfl ?_
          refine aw_V0x dX9_does_108 clX9_199 ⟨by decide, by decide⟩ (c := 9) (N := 11) (by decide) (by decide +kernel) rfl (c_X9_number hHR (fun j => (pa_gn _ _ _ (by decide)).trans (hG j)) hT (by omega) (by omega) hkf) (by decide) (by decide) rfl rfl (by simp only [List.length_cons, List.length_nil]; omega) ?_
          refine aw_goto (tgt := 115) dX9_does_111 (by decide) ?_
          have e : c1F G (f 5) a = nuF G (f 5) (kfF (hrF G (f 5) a)) (a + kfF (hrF G (f 5) a)) := by
            show (if _ then _ else _) = _
            rw [if_pos (by omega)]
          rw [e] at J3
          exact J3 _ _
        · refine aw_iload_n dX9_does_100 rfl ?_
          refine aw_S1x dX9_does_101 clX9_196 ⟨by decide, by decide⟩ (c_X9_hasOne hx) (by decide) (by decide) rfl rfl (by simp only [List.length_cons, List.length_nil]; omega) ?_
          refine aw_if_eq (tgt := 114) dX9_does_104 (by decide) ⟨by omega, by omega⟩ (fun h104 => ?_) (fun h104 => ?_)
          · refine aw_iconst dX9_does_114 ?_
            have e : c1F G (f 5) a = (kfF (hrF G (f 5) a), 0, a + kfF (hrF G (f 5) a)) := by
              show (if _ then _ else _) = _
              rw [if_neg (by omega)]
            rw [e] at J3
            exact J3 _ _
          · refine aw_aload_n dX9_does_107 rfl ?_
            refine aw_V0x dX9_does_108 clX9_199 ⟨by decide, by decide⟩ (c := 9) (N := 11) (by decide) (by decide +kernel) rfl (c_X9_number hHR (fun j => (pa_gn _ _ _ (by decide)).trans (hG j)) hT (by omega) (by omega) hkf) (by decide) (by decide) rfl rfl (by simp only [List.length_cons, List.length_nil]; omega) ?_
            refine aw_goto (tgt := 115) dX9_does_111 (by decide) ?_
            have e : c1F G (f 5) a = nuF G (f 5) (kfF (hrF G (f 5) a)) (a + kfF (hrF G (f 5) a)) := by
              show (if _ then _ else _) = _
              rw [if_pos (by omega)]
            rw [e] at J3
            exact J3 _ _
      have J1 : ∀ l3 l4 : Option AV, AW E M_X9_does 0 0 69 [some (aR 125), some (aI a), some (aI (hrF G (f 5) a)), l3, l4] [aI (kfF (hrF G (f 5) a)), aR 125] (mh (pa 130 X z) (ff f a d t m) p b s) hr 131 (PI (fun v h r2 n2 => r2 = hr ∧ n2 = 131 ∧ v = (doA G (f 5) (k + 1) s a d t m).1 ∧ ∃ w : Int → Int, h = (mh (pa 130 X w) (ff f ((doA G (f 5) (k + 1) s a d t m).2.2.1) ((doA G (f 5) (k + 1) s a d t m).2.2.2.1) ((doA G (f 5) (k + 1) s a d t m).2.2.2.2.1) ((doA G (f 5) (k + 1) s a d t m).2.2.2.2.2)) p b ((doA G (f 5) (k + 1) s a d t m).2.1)))) := by
        intro l3 l4
        refine aw_putv dX9_does_69 ci9 (by decide) fX9_183 (by decide) (by decide +kernel) rfl rfl (Or.inr ⟨rfl, by omega⟩) (mt_u10 _ _ _ _ _ _ _ _ _ _) ?_
        refine aw_aload_n dX9_does_72 rfl ?_
        refine aw_dup dX9_does_73 ?_
        refine aw_getv dX9_does_74 ci9 (by decide) fX9_177 (by decide) (by decide +kernel) rfl (mt_7 _ _ _ _ _ _ _ _ _) ?_
        refine aw_aload_n dX9_does_77 rfl ?_
        refine aw_getv dX9_does_78 ci9 (by decide) fX9_183 (by decide) (by decide +kernel) rfl (mt_10 _ _ _ _ _ _ _ _ _) ?_
        refine aw_if_eq (tgt := 88) dX9_does_81 (by decide) ⟨by omega, by omega⟩ (fun h81 => ?_) (fun h81 => ?_)
        · refine aw_iconst dX9_does_88 ?_
          have e : kfF (hrF G (f 5) a) = 0 := by omega
          have g := J2 l3 l4
          rw [e] at g
          rw [e]
          exact g
        · refine aw_iconst dX9_does_84 ?_
          refine aw_goto (tgt := 89) dX9_does_85 (by decide) ?_
          have e : kfF (hrF G (f 5) a) = 1 := by omega
          have g := J2 l3 l4
          rw [e] at g
          rw [e]
          exact g
      refine aw_aload_n dX9_does_10 rfl ?_
      refine aw_getv dX9_does_11 ci9 (by decide) fX9_177 (by decide) (by decide +kernel) rfl (mt_7 _ _ _ _ _ _ _ _ _) ?_
      refine aw_aload_n dX9_does_14 rfl ?_
      refine aw_getv dX9_does_15 ci9 (by decide) fX9_171 (by decide) (by decide +kernel) rfl (mt_5 _ _ _ _ _ _ _ _ _) ?_
      refine aw_ic_ge (tgt := 203) dX9_does_18 (by decide) ⟨by omega, by omega⟩ ⟨by omega, by omega⟩ (fun h18 => ?_) (fun h18 => ?_)
      · exact absurd h18 (by omega)
      · refine aw_aload_n dX9_does_21 rfl ?_
        refine aw_getv dX9_does_22 ci9 (by decide) fX9_177 (by decide) (by decide +kernel) rfl (mt_7 _ _ _ _ _ _ _ _ _) ?_
        refine aw_istore_n (ls2 := [_, _, _, _, _]) dX9_does_25 (by decide) rfl ?_
        refine aw_aload_n dX9_does_26 rfl ?_
        refine aw_V0x dX9_does_27 clX9_180 ⟨by decide, by decide⟩ (c := 9) (N := 11) (by decide) (by decide +kernel) rfl (c_X9_here hHR (fun j => (pa_gn _ _ _ (by decide)).trans (hG j)) hT ha (by omega)) (by decide) (by decide) rfl rfl (by simp only [List.length_cons, List.length_nil]; omega) ?_
        refine aw_istore_n (ls2 := [_, _, _, _, _]) dX9_does_30 (by decide) rfl ?_
        refine aw_aload_n dX9_does_31 rfl ?_
        refine aw_iload_n dX9_does_32 rfl ?_
        refine aw_S1x dX9_does_33 clX9_193 ⟨by decide, by decide⟩ (c_X9_hasTwo hx) (by decide) (by decide) rfl rfl (by simp only [List.length_cons, List.length_nil]; omega) ?_
        refine aw_if_ne (tgt := 64) dX9_does_36 (by decide) ⟨by omega, by omega⟩ (fun h36 => ?_) (fun h36 => ?_)
        · refine aw_iconst dX9_does_64 ?_
          refine aw_goto (tgt := 69) dX9_does_65 (by decide) ?_
          have e : kfF (hrF G (f 5) a) = 1 := by unfold kfF; rw [if_pos (by omega)]
          rw [e] at J1
          exact J1 _ _
        · refine aw_iload_n dX9_does_39 rfl ?_
          refine aw_S1x dX9_does_40 clX9_196 ⟨by decide, by decide⟩ (c_X9_hasOne hx) (by decide) (by decide) rfl rfl (by simp only [List.length_cons, List.length_nil]; omega) ?_
          refine aw_if_ne (tgt := 64) dX9_does_43 (by decide) ⟨by omega, by omega⟩ (fun h43 => ?_) (fun h43 => ?_)
          · refine aw_iconst dX9_does_64 ?_
            refine aw_goto (tgt := 69) dX9_does_65 (by decide) ?_
            have e : kfF (hrF G (f 5) a) = 1 := by unfold kfF; rw [if_pos (by omega)]
            rw [e] at J1
            exact J1 _ _
          · refine aw_iload_n dX9_does_46 rfl ?_
            refine aw_bipush dX9_does_47 (by decide) ?_
            refine aw_ic_eq (tgt := 64) dX9_does_49 (by decide) hx ⟨by decide, by decide⟩ (fun h49 => ?_) (fun h49 => ?_)
            · refine aw_iconst dX9_does_64 ?_
              refine aw_goto (tgt := 69) dX9_does_65 (by decide) ?_
              have e : kfF (hrF G (f 5) a) = 1 := by unfold kfF; rw [if_pos (by omega)]
              rw [e] at J1
              exact J1 _ _
            · refine aw_iload_n dX9_does_52 rfl ?_
              refine aw_bipush dX9_does_53 (by decide) ?_
              refine aw_ic_eq (tgt := 64) dX9_does_55 (by decide) hx ⟨by decide, by decide⟩ (fun h55 => ?_) (fun h55 => ?_)
              · refine aw_iconst dX9_does_64 ?_
                refine aw_goto (tgt := 69) dX9_does_65 (by decide) ?_
                have e : kfF (hrF G (f 5) a) = 1 := by unfold kfF; rw [if_pos (by omega)]
                rw [e] at J1
                exact J1 _ _
              · refine aw_iload_n dX9_does_58 rfl ?_
                refine aw_bipush dX9_does_59 (by decide) ?_
                refine aw_ic_ne (tgt := 68) dX9_does_61 (by decide) hx ⟨by decide, by decide⟩ (fun h61 => ?_) (fun h61 => ?_)
                · refine aw_iconst dX9_does_68 ?_
                  have e : kfF (hrF G (f 5) a) = 0 := by unfold kfF; rw [if_neg (by omega)]
                  rw [e] at J1
                  exact J1 _ _
                · refine aw_iconst dX9_does_64 ?_
                  refine aw_goto (tgt := 69) dX9_does_65 (by decide) ?_
                  have e : kfF (hrF G (f 5) a) = 1 := by unfold kfF; rw [if_pos (by omega)]
                  rw [e] at J1
                  exact J1 _ _
  refine aw_aload_n dX9_does_0 rfl ?_
  refine aw_iconst dX9_does_1 ?_
  refine aw_putv dX9_does_2 ci9 (by decide) fX9_177 (by decide) (by decide +kernel) rfl rfl (Or.inl rfl) (mt_u7 _ _ _ _ _ _ _ _ _ _) ?_
  refine aw_aload_n dX9_does_5 rfl ?_
  refine aw_iconst dX9_does_6 ?_
  refine aw_putv dX9_does_7 ci9 (by decide) fX9_190 (by decide) (by decide +kernel) rfl rfl (Or.inl rfl) (mt_u8 _ _ _ _ _ _ _ _ _ _) ?_
  exact loop 61 s 0 0 t m z n _ _ _ _ hO (by omega) (by omega) (by omega) (by omega) (by omega) (by omega)
/-- the twin's row for a text, behind another sign -/
def tyF (len c : Int) : Int := if ¬ (32 ≤ c ∧ c ≤ 126) then -1 else if len = 60 then -3 else len + 1
abbrev tg (hi : HI) : Int → Int := fun k => hi 129 k.toNat
theorem tt_self (hi : HI) : pa 125 (pa 129 hi (tg hi)) (fd hi) = hi := by rw [pa_self 129 hi, pa_self 125 hi]
def TYQ (hi : HI) (c : Int) (v : Int) (h : HI) : Prop := v = tyF (hi 125 5) c ∧ (v < 0 → h = hi) ∧ (0 ≤ v → h = pa 125 (pa 129 hi (up1 (tg hi) (hi 125 5) c)) (up1 (fd hi) 5 (hi 125 5 + 1)))
set_option maxRecDepth 100000 in
set_option maxHeartbeats 4000000 in
theorem c_X9_type {c : Int} (hHR : HRk hr) (hc : InR c) (h0 : 0 ≤ hi 125 5) (h1 : hi 125 5 ≤ 60) : AMet E M_X9_type [aR 125, aI c] hi hr 131 (PI (fun v h r2 n2 => r2 = hr ∧ n2 = 131 ∧ TYQ hi c v h)) := by
  have K : AMet E M_X9_type [aR 125, aI c] (pa 125 (pa 129 hi (tg hi)) (fd hi)) hr 131 (PI (fun v h r2 n2 => r2 = hr ∧ n2 = 131 ∧ TYQ hi c v h)) := by
    refine am_of (by decide +kernel) (Nat.le_of_ble_eq_true rfl) ?_
    have f5 : fd hi 5 = hi 125 5 := rfl
    refine aw_iload_n dX9_type_0 rfl ?_
    refine aw_bipush dX9_type_1 (by decide) ?_
    refine aw_bipush dX9_type_3 (by decide) ?_
    refine aw_S3x dX9_type_5 clX9_32 ⟨by decide, by decide⟩ (c_X9_in hc ⟨by decide, by decide⟩ ⟨by decide, by decide⟩) (by decide) (by decide) rfl rfl (by simp only [List.length_cons, List.length_nil]; omega) ?_
    refine aw_if_ne (tgt := 13) dX9_type_8 (by decide) in_r (fun h8 => ?_) (fun h8 => ?_)
    · refine aw_aload_n dX9_type_13 rfl ?_
      refine aw_getv dX9_type_14 ci9 (by decide) fX9_171 (by decide) (by decide +kernel) rfl (pa_gk 125 _ _ 5 5 rfl) ?_
      refine aw_bipush dX9_type_17 (by decide) ?_
      refine aw_ic_ne (tgt := 25) dX9_type_19 (by decide) ⟨by omega, by omega⟩ ⟨by decide, by decide⟩ (fun h19 => ?_) (fun h19 => ?_)
      · refine aw_aload_n dX9_type_25 rfl ?_
        refine aw_getr (x := 129) dX9_type_26 ci9 (by decide) fX9_19 (by decide) (by decide +kernel) rfl ((hHR 125 4 (by decide) (by decide +kernel)).trans rfl) ?_
        refine aw_aload_n dX9_type_29 rfl ?_
        refine aw_getv dX9_type_30 ci9 (by decide) fX9_171 (by decide) (by decide +kernel) rfl (pa_gk 125 _ _ 5 5 rfl) ?_
        refine aw_iload_n dX9_type_33 rfl ?_
        refine aw_iast (N := 60) dX9_type_34 (by decide) (by decide +kernel) (by omega) (by omega) (by decide) ((pa_un _ _ _ _ (by decide)).trans (congrArg (fun z => pa 125 z _) (pa_ui 129 _ _ _ (by omega)))) ?_
        refine aw_aload_n dX9_type_35 rfl ?_
        refine aw_dup dX9_type_36 ?_
        refine aw_getv dX9_type_37 ci9 (by decide) fX9_171 (by decide) (by decide +kernel) rfl (pa_gk 125 _ _ 5 5 rfl) ?_
        refine aw_iconst dX9_type_40 ?_
        refine aw_iadd dX9_type_41 ?_
        refine aw_putv dX9_type_42 ci9 (by decide) fX9_171 (by decide) (by decide +kernel) rfl rfl (Or.inl rfl) (pa_uk 125 _ _ 5 5 _ rfl) ?_
        refine aw_aload_n dX9_type_45 rfl ?_
        refine aw_getv dX9_type_46 ci9 (by decide) fX9_171 (by decide) (by decide +kernel) rfl (pa_gk 125 _ _ 5 5 rfl) ?_
        refine aw_iret dX9_type_49 rfl (by decide) (by decide) ?_
        rw [in0, Classical.not_not] at h8
        rw [f5] at h19
        have e : tyF (hi 125 5) c = hi 125 5 + 1 := by unfold tyF; rw [if_neg (fun q => q h8), if_neg h19]
        refine ⟨_, rfl, rfl, rfl, ?_, fun q => ?_, fun _ => rfl⟩
        · rw [e, up1_s, f5]
        · rw [up1_s] at q; omega
      · refine aw_bipush dX9_type_22 (by decide) ?_
        refine aw_iret dX9_type_24 rfl (by decide) (by decide) ?_
        rw [in0, Classical.not_not] at h8
        rw [f5] at h19
        have e : tyF (hi 125 5) c = -3 := by unfold tyF; rw [if_neg (fun q => q h8), if_pos h19]
        exact ⟨_, rfl, rfl, rfl, e.symm, fun _ => tt_self hi, fun q => absurd q (by decide)⟩
    · refine aw_iconst dX9_type_11 ?_
      refine aw_iret dX9_type_12 rfl (by decide) (by decide) ?_
      rw [in0] at h8
      have e : tyF (hi 125 5) c = -1 := by unfold tyF; rw [if_pos h8]
      exact ⟨_, rfl, rfl, rfl, e.symm, fun _ => tt_self hi, fun q => absurd q (by decide)⟩
  rwa [tt_self] at K
set_option maxRecDepth 100000 in
set_option maxHeartbeats 4000000 in
theorem c_X9_clearText (hHR : HRk hr) : AMet E M_X9_clearText [aR 125] hi hr 131 (PI (fun v h r2 n2 => r2 = hr ∧ n2 = 131 ∧ v = hi 125 5 ∧ h = pa 125 (pa 129 hi (tg hi)) (up1 (fd hi) 5 0))) := by
  have K : AMet E M_X9_clearText [aR 125] (pa 125 (pa 129 hi (tg hi)) (fd hi)) hr 131 (PI (fun v h r2 n2 => r2 = hr ∧ n2 = 131 ∧ v = hi 125 5 ∧ h = pa 125 (pa 129 hi (tg hi)) (up1 (fd hi) 5 0))) := by
    refine am_of (by decide +kernel) (Nat.le_of_ble_eq_true rfl) ?_
    refine aw_aload_n dX9_clearText_0 rfl ?_
    refine aw_getv dX9_clearText_1 ci9 (by decide) fX9_171 (by decide) (by decide +kernel) rfl (pa_gk 125 _ _ 5 5 rfl) ?_
    refine aw_istore_n (ls2 := [_, _]) dX9_clearText_4 (by decide) rfl ?_
    refine aw_aload_n dX9_clearText_5 rfl ?_
    refine aw_iconst dX9_clearText_6 ?_
    refine aw_putv dX9_clearText_7 ci9 (by decide) fX9_171 (by decide) (by decide +kernel) rfl rfl (Or.inl rfl) (pa_uk 125 _ _ 5 5 _ rfl) ?_
    refine aw_iload_n dX9_clearText_10 rfl ?_
    refine aw_iret dX9_clearText_11 rfl (by decide) (by decide) ?_
    exact ⟨_, rfl, rfl, rfl, rfl, rfl⟩
  rwa [tt_self] at K
set_option maxRecDepth 100000 in
set_option maxHeartbeats 4000000 in
theorem c_X9_fault {w n : Int} (hHR : HRk hr) (hw : InR w) (hT : TX (tg hi) (hi 125 5)) (hO : OKS (sg hi) n) (hn : n + 61 ≤ 100000) : AMet E M_X9_fault [aR 125, aI w] hi hr 131 (PI (fun v h r2 n2 => r2 = hr ∧ n2 = 131 ∧ v = faF (tg hi) (hi 125 5) (sg hi) w (hi 125 9) (hi 125 10) ∧ KEEP hi h)) := by
  have K : AMet E M_X9_fault [aR 125, aI w] (mh hi (fd hi) (pst hi) (bn hi) (sg hi)) hr 131 (PI (fun v h r2 n2 => r2 = hr ∧ n2 = 131 ∧ v = faF (tg hi) (hi 125 5) (sg hi) w (hi 125 9) (hi 125 10) ∧ KEEP hi h)) := by
    refine am_of (by decide +kernel) (Nat.le_of_ble_eq_true rfl) ?_
    have hG : ∀ j : Nat, hi 129 j = tg hi (j : Int) := fun j => by show _ = hi 129 (j : Int).toNat; rw [Int.toNat_natCast]
    have ef : ff (fd hi) (hi 125 7) (hi 125 8) (hi 125 9) (hi 125 10) = fd hi := ff_self (fd hi)
    have D := fun b => c_X9_does (E := E) (X := hi) (f := fd hi) (p := pst hi) (b := b) (s := sg hi) (G := tg hi) (a := hi 125 7) (d := hi 125 8) (t := hi 125 9) (m := hi 125 10) (z := fun k => hi 130 k.toNat) (n := n) hHR hG hT hO hn
    rw [pa_self 130 hi, ef] at D
    have eD : doA (tg hi) (fd hi 5) 61 (sg hi) 0 0 (hi 125 9) (hi 125 10) = (dorF (tg hi) (hi 125 5) (sg hi) (hi 125 9) (hi 125 10)) := rfl
    have db := doA_b (G := tg hi) (len := hi 125 5) 61 (sg hi) 0 0 (hi 125 9) (hi 125 10) n hO hn (by decide) (by decide) (Or.inr (Or.inr trivial))
    have e2 : doA (tg hi) (hi 125 5) 61 (sg hi) 0 0 (hi 125 9) (hi 125 10) = (dorF (tg hi) (hi 125 5) (sg hi) (hi 125 9) (hi 125 10)) := rfl
    rw [e2] at db
    have e3 : dorF (tg hi) (fd hi 5) (sg hi) (hi 125 9) (hi 125 10) = (dorF (tg hi) (hi 125 5) (sg hi) (hi 125 9) (hi 125 10)) := rfl
    rw [e3] at D
    have hfa : ∀ w, faF (tg hi) (hi 125 5) (sg hi) w (hi 125 9) (hi 125 10) = if ¬ (0 ≤ w ∧ w ≤ 2) then -1 else if ¬ (0 ≤ (dorF (tg hi) (hi 125 5) (sg hi) (hi 125 9) (hi 125 10)).1 ∧ (w < 2 ∨ ¬ (dorF (tg hi) (hi 125 5) (sg hi) (hi 125 9) (hi 125 10)).2.2.2.2.2 = 0)) then -4 else if w = 0 then (dorF (tg hi) (hi 125 5) (sg hi) (hi 125 9) (hi 125 10)).1 else if w = 1 then (if (dorF (tg hi) (hi 125 5) (sg hi) (hi 125 9) (hi 125 10)).2.2.2.2.2 = 0 then 1 else 2) else (dorF (tg hi) (hi 125 5) (sg hi) (hi 125 9) (hi 125 10)).2.2.2.2.1 := fun w => rfl
    have hpy : pyF (tg hi) (hi 125 5) (sg hi) (hi 125 9) (hi 125 10) = (if (dorF (tg hi) (hi 125 5) (sg hi) (hi 125 9) (hi 125 10)).1 < 0 then (dorF (tg hi) (hi 125 5) (sg hi) (hi 125 9) (hi 125 10)).2.2.2.1 else -2, (dorF (tg hi) (hi 125 5) (sg hi) (hi 125 9) (hi 125 10)).2.1) := rfl
    generalize dorF (tg hi) (hi 125 5) (sg hi) (hi 125 9) (hi 125 10) = R at D db hfa hpy
    refine aw_iload_n dX9_fault_0 rfl ?_
    refine aw_iconst dX9_fault_1 ?_
    refine aw_iconst dX9_fault_2 ?_
    refine aw_S3x dX9_fault_3 clX9_32 ⟨by decide, by decide⟩ (c_X9_in hw ⟨by decide, by decide⟩ ⟨by decide, by decide⟩) (by decide) (by decide) rfl rfl (by simp only [List.length_cons, List.length_nil]; omega) ?_
    refine aw_if_ne (tgt := 11) dX9_fault_6 (by decide) in_r (fun h6 => ?_) (fun h6 => ?_)
    · refine aw_aload_n dX9_fault_11 rfl ?_
      refine aw_V0v dX9_fault_12 clX9_131 ⟨by decide, by decide⟩ (c := 9) (N := 11) (by decide) (by decide +kernel) rfl (c_X9_begins hHR) (by decide) (by decide) rfl rfl (by simp only [List.length_cons, List.length_nil]; omega) ?_
      refine aw_aload_n dX9_fault_15 rfl ?_
      refine aw_V0i dX9_fault_16 clX9_211 ⟨by decide, by decide⟩ (c := 9) (N := 11) (by decide) (by decide +kernel) rfl (D _) (by decide) (by decide) rfl rfl (by simp only [List.length_cons, List.length_nil]; omega) (fun v h2 r2 n2 q => ?_)
      obtain ⟨rfl, rfl, rfl, z, rfl⟩ := q
      rw [in0, Classical.not_not] at h6
      have hmr : 0 ≤ R.1 → InR R.2.2.2.2.2 := fun g => (db.2.2.2.resolve_left (by omega)).2.2.2.elim (fun q => by rw [q]; exact ⟨by decide, by decide⟩) (fun q => by rw [q]; exact ⟨by decide, by decide⟩)
      have hpl : InR R.1 := ⟨by rcases db.2.2.2 with q | q <;> omega, by have := hT.2.1; rcases db.2.2.2 with q | q <;> omega⟩
      refine aw_istore_n (ls2 := [_, _, _, _]) dX9_fault_19 (by decide) rfl ?_
      refine aw_aload_n dX9_fault_20 rfl ?_
      refine aw_V0v dX9_fault_21 clX9_25 ⟨by decide, by decide⟩ (c := 9) (N := 11) (by decide) (by decide +kernel) rfl (c_X9_returns hHR) (by decide) (by decide) rfl rfl (by simp only [List.length_cons, List.length_nil]; omega) ?_
      refine aw_iload_n dX9_fault_24 rfl ?_
      refine aw_if_lt (tgt := 44) dX9_fault_25 (by decide) hpl (fun h25 => ?_) (fun h25 => ?_)
      · refine aw_iconst dX9_fault_44 ?_
        refine aw_istore_n (ls2 := [_, _, _, _]) dX9_fault_45 (by decide) rfl ?_
        refine aw_iload_n dX9_fault_46 rfl ?_
        refine aw_if_ne (tgt := 55) dX9_fault_47 (by decide) ⟨by decide, by decide⟩ (fun h47 => ?_) (fun h47 => ?_)
        · exact absurd h47 (by decide)
        · refine aw_bipush dX9_fault_50 (by decide) ?_
          refine aw_goto (tgt := 87) dX9_fault_52 (by decide) ?_
          refine aw_iret dX9_fault_87 rfl (by decide) (by decide) ?_
          exact ⟨_, rfl, rfl, rfl, by rw [hfa, if_neg (fun g => g h6), if_pos (fun g => by have := g.1; omega)], keep_of (fun a ha k => pa_gn _ _ _ (by omega)) rfl rfl⟩
      · refine aw_iload_n dX9_fault_28 rfl ?_
        refine aw_iconst dX9_fault_29 ?_
        refine aw_ic_lt (tgt := 40) dX9_fault_30 (by decide) hw ⟨by decide, by decide⟩ (fun h30 => ?_) (fun h30 => ?_)
        · refine aw_iconst dX9_fault_40 ?_
          refine aw_goto (tgt := 45) dX9_fault_41 (by decide) ?_
          refine aw_istore_n (ls2 := [_, _, _, _]) dX9_fault_45 (by decide) rfl ?_
          refine aw_iload_n dX9_fault_46 rfl ?_
          refine aw_if_ne (tgt := 55) dX9_fault_47 (by decide) ⟨by decide, by decide⟩ (fun h47 => ?_) (fun h47 => ?_)
          · refine aw_iload_n dX9_fault_55 rfl ?_
            refine aw_if_ne (tgt := 63) dX9_fault_56 (by decide) hw (fun h56 => ?_) (fun h56 => ?_)
            · refine aw_iload_n dX9_fault_63 rfl ?_
              refine aw_iconst dX9_fault_64 ?_
              refine aw_ic_ne (tgt := 83) dX9_fault_65 (by decide) hw ⟨by decide, by decide⟩ (fun h65 => ?_) (fun h65 => ?_)
              · refine aw_aload_n dX9_fault_83 rfl ?_
                refine aw_getv dX9_fault_84 ci9 (by decide) fX9_208 (by decide) (by decide +kernel) rfl (mt_9 _ _ _ _ _ _ _ _ _) ?_
                refine aw_iret dX9_fault_87 rfl (by decide) (by decide) ?_
                exact ⟨_, rfl, rfl, rfl, by rw [hfa, if_neg (fun g => g h6), if_neg (fun g => g ⟨by omega, by omega⟩), if_neg h56, if_neg h65], keep_of (fun a ha k => pa_gn _ _ _ (by omega)) rfl rfl⟩
              · refine aw_aload_n dX9_fault_68 rfl ?_
                refine aw_getv dX9_fault_69 ci9 (by decide) fX9_183 (by decide) (by decide +kernel) rfl (mt_10 _ _ _ _ _ _ _ _ _) ?_
                refine aw_if_eq (tgt := 79) dX9_fault_72 (by decide) (hmr (by omega)) (fun h72 => ?_) (fun h72 => ?_)
                · refine aw_iconst dX9_fault_79 ?_
                  refine aw_goto (tgt := 87) dX9_fault_80 (by decide) ?_
                  refine aw_iret dX9_fault_87 rfl (by decide) (by decide) ?_
                  exact ⟨_, rfl, rfl, rfl, by rw [hfa, if_neg (fun g => g h6), if_neg (fun g => g ⟨by omega, by omega⟩), if_neg h56, if_pos h65, if_pos h72], keep_of (fun a ha k => pa_gn _ _ _ (by omega)) rfl rfl⟩
                · refine aw_iconst dX9_fault_75 ?_
                  refine aw_goto (tgt := 87) dX9_fault_76 (by decide) ?_
                  refine aw_iret dX9_fault_87 rfl (by decide) (by decide) ?_
                  exact ⟨_, rfl, rfl, rfl, by rw [hfa, if_neg (fun g => g h6), if_neg (fun g => g ⟨by omega, by omega⟩), if_neg h56, if_pos h65, if_neg h72], keep_of (fun a ha k => pa_gn _ _ _ (by omega)) rfl rfl⟩
            · refine aw_iload_n dX9_fault_59 rfl ?_
              refine aw_goto (tgt := 87) dX9_fault_60 (by decide) ?_
              refine aw_iret dX9_fault_87 rfl (by decide) (by decide) ?_
              exact ⟨_, rfl, rfl, rfl, by rw [hfa, if_neg (fun g => g h6), if_neg (fun g => g ⟨by omega, by omega⟩), if_pos h56], keep_of (fun a ha k => pa_gn _ _ _ (by omega)) rfl rfl⟩
          · exact absurd h47 (by decide)
        · refine aw_aload_n dX9_fault_33 rfl ?_
          refine aw_getv dX9_fault_34 ci9 (by decide) fX9_183 (by decide) (by decide +kernel) rfl (mt_10 _ _ _ _ _ _ _ _ _) ?_
          refine aw_if_eq (tgt := 44) dX9_fault_37 (by decide) (hmr (by omega)) (fun h37 => ?_) (fun h37 => ?_)
          · refine aw_iconst dX9_fault_44 ?_
            refine aw_istore_n (ls2 := [_, _, _, _]) dX9_fault_45 (by decide) rfl ?_
            refine aw_iload_n dX9_fault_46 rfl ?_
            refine aw_if_ne (tgt := 55) dX9_fault_47 (by decide) ⟨by decide, by decide⟩ (fun h47 => ?_) (fun h47 => ?_)
            · exact absurd h47 (by decide)
            · refine aw_bipush dX9_fault_50 (by decide) ?_
              refine aw_goto (tgt := 87) dX9_fault_52 (by decide) ?_
              refine aw_iret dX9_fault_87 rfl (by decide) (by decide) ?_
              exact ⟨_, rfl, rfl, rfl, by rw [hfa, if_neg (fun g => g h6), if_pos (fun g => by rcases g.2 with g | g <;> omega)], keep_of (fun a ha k => pa_gn _ _ _ (by omega)) rfl rfl⟩
          · refine aw_iconst dX9_fault_40 ?_
            refine aw_goto (tgt := 45) dX9_fault_41 (by decide) ?_
            refine aw_istore_n (ls2 := [_, _, _, _]) dX9_fault_45 (by decide) rfl ?_
            refine aw_iload_n dX9_fault_46 rfl ?_
            refine aw_if_ne (tgt := 55) dX9_fault_47 (by decide) ⟨by decide, by decide⟩ (fun h47 => ?_) (fun h47 => ?_)
            · refine aw_iload_n dX9_fault_55 rfl ?_
              refine aw_if_ne (tgt := 63) dX9_fault_56 (by decide) hw (fun h56 => ?_) (fun h56 => ?_)
              · refine aw_iload_n dX9_fault_63 rfl ?_
                refine aw_iconst dX9_fault_64 ?_
                refine aw_ic_ne (tgt := 83) dX9_fault_65 (by decide) hw ⟨by decide, by decide⟩ (fun h65 => ?_) (fun h65 => ?_)
                · refine aw_aload_n dX9_fault_83 rfl ?_
                  refine aw_getv dX9_fault_84 ci9 (by decide) fX9_208 (by decide) (by decide +kernel) rfl (mt_9 _ _ _ _ _ _ _ _ _) ?_
                  refine aw_iret dX9_fault_87 rfl (by decide) (by decide) ?_
                  exact ⟨_, rfl, rfl, rfl, by rw [hfa, if_neg (fun g => g h6), if_neg (fun g => g ⟨by omega, by omega⟩), if_neg h56, if_neg h65], keep_of (fun a ha k => pa_gn _ _ _ (by omega)) rfl rfl⟩
                · refine aw_aload_n dX9_fault_68 rfl ?_
                  refine aw_getv dX9_fault_69 ci9 (by decide) fX9_183 (by decide) (by decide +kernel) rfl (mt_10 _ _ _ _ _ _ _ _ _) ?_
                  refine aw_if_eq (tgt := 79) dX9_fault_72 (by decide) (hmr (by omega)) (fun h72 => ?_) (fun h72 => ?_)
                  · refine aw_iconst dX9_fault_79 ?_
                    refine aw_goto (tgt := 87) dX9_fault_80 (by decide) ?_
                    refine aw_iret dX9_fault_87 rfl (by decide) (by decide) ?_
                    exact ⟨_, rfl, rfl, rfl, by rw [hfa, if_neg (fun g => g h6), if_neg (fun g => g ⟨by omega, by omega⟩), if_neg h56, if_pos h65, if_pos h72], keep_of (fun a ha k => pa_gn _ _ _ (by omega)) rfl rfl⟩
                  · refine aw_iconst dX9_fault_75 ?_
                    refine aw_goto (tgt := 87) dX9_fault_76 (by decide) ?_
                    refine aw_iret dX9_fault_87 rfl (by decide) (by decide) ?_
                    exact ⟨_, rfl, rfl, rfl, by rw [hfa, if_neg (fun g => g h6), if_neg (fun g => g ⟨by omega, by omega⟩), if_neg h56, if_pos h65, if_neg h72], keep_of (fun a ha k => pa_gn _ _ _ (by omega)) rfl rfl⟩
              · refine aw_iload_n dX9_fault_59 rfl ?_
                refine aw_goto (tgt := 87) dX9_fault_60 (by decide) ?_
                refine aw_iret dX9_fault_87 rfl (by decide) (by decide) ?_
                exact ⟨_, rfl, rfl, rfl, by rw [hfa, if_neg (fun g => g h6), if_neg (fun g => g ⟨by omega, by omega⟩), if_pos h56], keep_of (fun a ha k => pa_gn _ _ _ (by omega)) rfl rfl⟩
            · exact absurd h47 (by decide)
    · refine aw_iconst dX9_fault_9 ?_
      refine aw_iret dX9_fault_10 rfl (by decide) (by decide) ?_
      rw [in0] at h6
      exact ⟨_, rfl, rfl, rfl, by rw [hfa, if_pos h6], (show KEEP hi (mh hi (fd hi) (pst hi) (bn hi) (sg hi)) by rw [mh_self]; exact KEEP.rf hi)⟩
  rwa [mh_self] at K
set_option maxRecDepth 100000 in
set_option maxHeartbeats 4000000 in
theorem c_X9_play {n : Int} (hHR : HRk hr) (h0 : 0 ≤ hi 125 3) (h4 : hi 125 3 ≤ 4) (hT : TX (tg hi) (hi 125 5)) (hO : OKS (sg hi) n) (hn : n + 61 ≤ 100000) : AMet E M_X9_play [aR 125] hi hr 131 (PI (fun v h r2 n2 => r2 = hr ∧ n2 = 131 ∧ PUB hi (pyF (tg hi) (hi 125 5) (sg hi) (hi 125 9) (hi 125 10)) v h)) := by
  have K : AMet E M_X9_play [aR 125] (mh hi (fd hi) (pst hi) (bn hi) (sg hi)) hr 131 (PI (fun v h r2 n2 => r2 = hr ∧ n2 = 131 ∧ PUB hi (pyF (tg hi) (hi 125 5) (sg hi) (hi 125 9) (hi 125 10)) v h)) := by
    refine am_of (by decide +kernel) (Nat.le_of_ble_eq_true rfl) ?_
    have hG : ∀ j : Nat, hi 129 j = tg hi (j : Int) := fun j => by show _ = hi 129 (j : Int).toNat; rw [Int.toNat_natCast]
    have ef : ff (fd hi) (hi 125 7) (hi 125 8) (hi 125 9) (hi 125 10) = fd hi := ff_self (fd hi)
    have D := fun b => c_X9_does (E := E) (X := hi) (f := fd hi) (p := pst hi) (b := b) (s := sg hi) (G := tg hi) (a := hi 125 7) (d := hi 125 8) (t := hi 125 9) (m := hi 125 10) (z := fun k => hi 130 k.toNat) (n := n) hHR hG hT hO hn
    rw [pa_self 130 hi, ef] at D
    have eD : doA (tg hi) (fd hi 5) 61 (sg hi) 0 0 (hi 125 9) (hi 125 10) = (dorF (tg hi) (hi 125 5) (sg hi) (hi 125 9) (hi 125 10)) := rfl
    have db := doA_b (G := tg hi) (len := hi 125 5) 61 (sg hi) 0 0 (hi 125 9) (hi 125 10) n hO hn (by decide) (by decide) (Or.inr (Or.inr trivial))
    have e2 : doA (tg hi) (hi 125 5) 61 (sg hi) 0 0 (hi 125 9) (hi 125 10) = (dorF (tg hi) (hi 125 5) (sg hi) (hi 125 9) (hi 125 10)) := rfl
    rw [e2] at db
    have e3 : dorF (tg hi) (fd hi 5) (sg hi) (hi 125 9) (hi 125 10) = (dorF (tg hi) (hi 125 5) (sg hi) (hi 125 9) (hi 125 10)) := rfl
    rw [e3] at D
    have hfa : ∀ w, faF (tg hi) (hi 125 5) (sg hi) w (hi 125 9) (hi 125 10) = if ¬ (0 ≤ w ∧ w ≤ 2) then -1 else if ¬ (0 ≤ (dorF (tg hi) (hi 125 5) (sg hi) (hi 125 9) (hi 125 10)).1 ∧ (w < 2 ∨ ¬ (dorF (tg hi) (hi 125 5) (sg hi) (hi 125 9) (hi 125 10)).2.2.2.2.2 = 0)) then -4 else if w = 0 then (dorF (tg hi) (hi 125 5) (sg hi) (hi 125 9) (hi 125 10)).1 else if w = 1 then (if (dorF (tg hi) (hi 125 5) (sg hi) (hi 125 9) (hi 125 10)).2.2.2.2.2 = 0 then 1 else 2) else (dorF (tg hi) (hi 125 5) (sg hi) (hi 125 9) (hi 125 10)).2.2.2.2.1 := fun w => rfl
    have hpy : pyF (tg hi) (hi 125 5) (sg hi) (hi 125 9) (hi 125 10) = (if (dorF (tg hi) (hi 125 5) (sg hi) (hi 125 9) (hi 125 10)).1 < 0 then (dorF (tg hi) (hi 125 5) (sg hi) (hi 125 9) (hi 125 10)).2.2.2.1 else -2, (dorF (tg hi) (hi 125 5) (sg hi) (hi 125 9) (hi 125 10)).2.1) := rfl
    generalize dorF (tg hi) (hi 125 5) (sg hi) (hi 125 9) (hi 125 10) = R at D db hfa hpy
    refine aw_aload_n dX9_play_0 rfl ?_
    refine aw_V0v dX9_play_1 clX9_131 ⟨by decide, by decide⟩ (c := 9) (N := 11) (by decide) (by decide +kernel) rfl (c_X9_begins hHR) (by decide) (by decide) rfl rfl (by simp only [List.length_cons, List.length_nil]; omega) ?_
    refine aw_aload_n dX9_play_4 rfl ?_
    refine aw_aload_n dX9_play_5 rfl ?_
    refine aw_V0i dX9_play_6 clX9_211 ⟨by decide, by decide⟩ (c := 9) (N := 11) (by decide) (by decide +kernel) rfl (D _) (by decide) (by decide) rfl rfl (by simp only [List.length_cons, List.length_nil]; omega) (fun v h2 r2 n2 q => ?_)
    obtain ⟨rfl, rfl, rfl, z, rfl⟩ := q
    have hpl : InR R.1 := ⟨by rcases db.2.2.2 with q | q <;> omega, by have := hT.2.1; rcases db.2.2.2 with q | q <;> omega⟩
    have hd : InR R.2.2.2.1 := ⟨by omega, by omega⟩
    refine aw_if_ge (tgt := 19) dX9_play_9 (by decide) hpl (fun h9 => ?_) (fun h9 => ?_)
    · refine aw_bipush dX9_play_19 (by decide) ?_
      refine aw_V1i dX9_play_21 clX9_138 ⟨by decide, by decide⟩ (c := 9) (N := 11) (by decide) (by decide +kernel) rfl (c_X9_acted hHR ⟨by decide, by decide⟩ (by rw [ff_n _ _ _ _ _ (by decide)]; exact h0) (by rw [ff_n _ _ _ _ _ (by decide)]; exact h4)) (by decide) (by decide) rfl rfl (by simp only [List.length_cons, List.length_nil]; omega) (fun v h2 r2 n2 q => ?_)
      obtain ⟨rfl, rfl, rfl, q⟩ := q
      refine aw_iret dX9_play_24 rfl (by decide) (by decide) ?_
      have e : pyF (tg hi) (hi 125 5) (sg hi) (hi 125 9) (hi 125 10) = (-2, R.2.1) := by rw [hpy, if_neg (by omega)]
      rw [e]
      exact ⟨_, rfl, rfl, rfl, pub_of (hi := hi) (X := pa 130 hi z) (f := ff (fd hi) R.2.2.1 R.2.2.2.1 R.2.2.2.2.1 R.2.2.2.2.2) (q := (-2, R.2.1)) rfl (fun a ha k => pa_gn _ _ _ (by omega)) (by rw [ff_n _ _ _ _ _ (by decide)]; exact h0) (ff_n _ _ _ _ _ (by decide)) (ff_n _ _ _ _ _ (by decide)) q⟩
    · refine aw_aload_n dX9_play_12 rfl ?_
      refine aw_getv dX9_play_13 ci9 (by decide) fX9_190 (by decide) (by decide +kernel) rfl (mt_8 _ _ _ _ _ _ _ _ _) ?_
      refine aw_goto (tgt := 21) dX9_play_16 (by decide) ?_
      refine aw_V1i dX9_play_21 clX9_138 ⟨by decide, by decide⟩ (c := 9) (N := 11) (by decide) (by decide +kernel) rfl (c_X9_acted hHR hd (by rw [ff_n _ _ _ _ _ (by decide)]; exact h0) (by rw [ff_n _ _ _ _ _ (by decide)]; exact h4)) (by decide) (by decide) rfl rfl (by simp only [List.length_cons, List.length_nil]; omega) (fun v h2 r2 n2 q => ?_)
      obtain ⟨rfl, rfl, rfl, q⟩ := q
      refine aw_iret dX9_play_24 rfl (by decide) (by decide) ?_
      have e : pyF (tg hi) (hi 125 5) (sg hi) (hi 125 9) (hi 125 10) = (R.2.2.2.1, R.2.1) := by rw [hpy, if_pos (by omega)]
      rw [e]
      exact ⟨_, rfl, rfl, rfl, pub_of (hi := hi) (X := pa 130 hi z) (f := ff (fd hi) R.2.2.1 R.2.2.2.1 R.2.2.2.2.1 R.2.2.2.2.2) (q := (R.2.2.2.1, R.2.1)) rfl (fun a ha k => pa_gn _ _ _ (by omega)) (by rw [ff_n _ _ _ _ _ (by decide)]; exact h0) (ff_n _ _ _ _ _ (by decide)) (ff_n _ _ _ _ _ (by decide)) q⟩
  rwa [mh_self] at K
end TWIN9
