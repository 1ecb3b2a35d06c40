/-! the law: its loop, its start -/
def QL : QT := fun r _ _ _ => r = some (aI 1)
section LAW
variable {E : ET} {hi : HI} {hr : HR} {m : Int} {s : Int → Int} {P : Nat → Int → Int} {n : Int} {L : Nat}
theorem t_undo (w : NV hi hr m s P n) : AMet E M_X8_undo [aR 0] hi hr 125 (PI (fun v h r2 n2 => n2 = 125 ∧ ((m = 0 ∧ v = -2 ∧ NV h r2 m s P n) ∨ (0 < m ∧ v = m - 1 ∧ NV h r2 (m - 1) (P (m - 1).toNat) P n)))) := by
  have wb := w.b
  have w0 := w
  obtain ⟨⟨q, c⟩, o, p, t⟩ := w
  refine am_mono (c_X8_undo c) ?_
  rintro r h r2 n2 ⟨v, rfl, rfl, rfl, u1, u2⟩
  refine ⟨v, rfl, rfl, ?_⟩
  by_cases e : m = 0
  · obtain ⟨rfl, rfl⟩ := u1 e
    exact Or.inl ⟨e, rfl, w0⟩
  · obtain ⟨e1, e2, e3⟩ := u2 (by omega)
    exact Or.inr ⟨by omega, e1, ⟨⟨q, e2⟩, p _ (by omega), fun i hi2 => p i (by omega), t.of (e3 122 (by decide) 1) (e3 123 (by decide))⟩⟩
theorem STEP.same {m2 : Int} {s2 : Int → Int} {P2 : Nat → Int → Int} (st : STEP m s P m2 s2 P2) (h : m2 = m) (h4 : ¬ m = 4) (hm : m ≤ 4) : s2 = s := by
  rcases st with ⟨-, e, -⟩ | p
  · exact e
  · have := (p.1 (by omega)).1; omega
theorem STEP.up {m2 : Int} {s2 : Int → Int} {P2 : Nat → Int → Int} (st : STEP m s P m2 s2 P2) (h : ¬ m2 = m) (hm : m ≤ 4) : m2 = m + 1 := by
  rcases st with ⟨e, -, -⟩ | p
  · exact absurd e h
  · by_cases c : m = 4
    · have := (p.2 c).1; omega
    · exact (p.1 (by omega)).1
theorem STEP.was {m2 : Int} {s2 : Int → Int} {P2 : Nat → Int → Int} (st : STEP m s P m2 s2 P2) (h : m2 = m + 1) (m0 : 0 ≤ m) (hm : m ≤ 4) : P2 (m2 - 1).toNat = s := by
  rcases st with ⟨e, -, -⟩ | p
  · omega
  · by_cases c : m = 4
    · have := (p.2 c).1; omega
    · obtain ⟨e1, e2⟩ := p.1 (by omega)
      rw [e2, e1]
      show (if (m + 1 - 1).toNat = m.toNat then s else P (m + 1 - 1).toNat) = s
      rw [if_pos (by omega)]
set_option maxRecDepth 100000 in
set_option maxHeartbeats 4000000 in
theorem law_loop (hEN : EN E) (hL : L = eN E 5) (hL2 : L ≤ 260) (hI : ∀ j : Nat, InR (eX E 5 j)) : ∀ (d k : Nat) (hi : HI) (hr : HR) (m : Int) (s : Int → Int) (P : Nat → Int → Int), k + d = 34 → NV hi hr m s P (61 * (k : Int)) → AW E M_L_law 125 2078 32 [some (aR 1005), some (aR 0), some (aI 1), some (aI (k : Int)), none, none, none, none, none, none, none] [] hi hr 125 QL := by
  intro d
  induction d with
  | zero =>
    intro k hi hr m s P hk w
    refine aw_iload_n dL_law_32 rfl ?_
    refine aw_bipush dL_law_33 (by decide) ?_
    refine aw_ic_ge (tgt := 272) dL_law_35 (by decide) ⟨by omega, by omega⟩ ⟨by decide, by decide⟩ (fun h35 => ?_) (fun h35 => ?_)
    · refine aw_iload_n dL_law_272 rfl ?_
      refine aw_zret dL_law_273 rfl (Or.inr rfl) (by decide) (by decide) ?_
      exact rfl
    · exact absurd h35 (by omega)
  | succ d ih =>
    intro k hi hr m s P hk w
    have mb := w.b
    obtain ⟨q, c⟩ := w.1
    have k219 : ∀ (h3 : HI) (r3 : HR) (m3 : Int) (s3 : Int → Int) (P3 : Nat → Int → Int), NV h3 r3 m3 s3 P3 (61 * ((k : Int) + 1)) → AW E M_L_law 125 2078 219 [some (aR 1005), some (aR 0), some (aI 1), some (aI (k : Int)), none, none, none, none, none, none, none] [] h3 r3 125 QL := by
      intro h3 r3 m3 s3 P3 w3
      have b3 := w3.b
      refine aw_iload_n dL_law_219 rfl ?_
      refine aw_if_eq (tgt := 266) dL_law_220 (by decide) ⟨by decide, by decide⟩ (fun h220 => ?_) (fun h220 => ?_)
      · exact absurd h220 (by decide)
      · refine aw_iload_n dL_law_223 rfl ?_
        refine aw_bipush dL_law_224 (by decide) ?_
        refine aw_irem dL_law_226 (by omega) ⟨by omega, by omega⟩ (by decide) ⟨by decide, by decide⟩ ?_
        refine aw_iconst dL_law_227 ?_
        refine aw_ic_ne (tgt := 266) dL_law_228 (by decide) ⟨by omega, by omega⟩ ⟨by decide, by decide⟩ (fun h228 => ?_) (fun h228 => ?_)
        · refine aw_iinc (ls2 := [_, _, _, _, _, _, _, _, _, _, _]) dL_law_266 rfl (by decide) rfl ?_
          refine aw_goto (tgt := 32) dL_law_269 (by decide) ?_
          refine aw_ls (ls2 := [some (aR 1005), some (aR 0), some (aI 1), some (aI ((k : Int) + 1)), none, none, none, none, none, none, none]) (lsk (lsk (lsk (lsk (lsd (lsd (lsd (lsd (lsd (lsd (lsd lsn))))))))))) ?_
          have g := ih (k + 1) _ _ _ _ _ (by omega) (by rw [show ((k + 1 : Nat) : Int) = (k : Int) + 1 by omega]; exact w3)
          rw [show ((k + 1 : Nat) : Int) = (k : Int) + 1 by omega] at g
          exact g
        · refine aw_aload_n dL_law_231 rfl ?_
          refine aw_bipush dL_law_232 (by decide) ?_
          refine aw_V1x dL_law_234 clL_13 ⟨by decide, by decide⟩ (c := 8) (N := 5) (by decide) (by decide +kernel) rfl (t_count w3 (k := 16) (v := m3) ⟨by decide, by decide⟩ (by simp [cnF, ctF])) (by decide) (by decide) rfl rfl (by simp only [List.length_cons, List.length_nil]; omega) ?_
          refine aw_istore (ls2 := [_, _, _, _, _, _, _, _, _, _, _]) dL_law_237 (by decide) rfl ?_
          refine aw_aload_n dL_law_239 rfl ?_
          refine aw_V0i dL_law_240 clL_93 ⟨by decide, by decide⟩ (c := 8) (N := 5) (by decide) (by decide +kernel) rfl (t_undo w3) (by decide) (by decide) rfl rfl (by simp only [List.length_cons, List.length_nil]; omega) (fun v_240 h_240 r_240 n_240 q_240 => ?_)
          obtain ⟨rfl, u240⟩ := q_240
          refine aw_iload dL_law_243 rfl ?_
          refine aw_if_ne (tgt := 253) dL_law_245 (by decide) ⟨by omega, by omega⟩ (fun h245 => ?_) (fun h245 => ?_)
          · refine aw_iload dL_law_253 rfl ?_
            refine aw_iconst dL_law_255 ?_
            refine aw_isub dL_law_256 ?_
            refine aw_ic_neE (tgt := 264) dL_law_257 (by decide) (by rcases u240 with g | g <;> omega) ?_
            refine aw_iconst dL_law_260 ?_
            refine aw_goto (tgt := 265) dL_law_261 (by decide) ?_
            refine aw_istore_n (ls2 := [_, _, _, _, _, _, _, _, _, _, _]) dL_law_265 (by decide) rfl ?_
            refine aw_iinc (ls2 := [_, _, _, _, _, _, _, _, _, _, _]) dL_law_266 rfl (by decide) rfl ?_
            refine aw_goto (tgt := 32) dL_law_269 (by decide) ?_
            refine aw_ls (ls2 := [some (aR 1005), some (aR 0), some (aI 1), some (aI ((k : Int) + 1)), none, none, none, none, none, none, none]) (lsk (lsk (lsk (lsk (lsd (lsd (lsd (lsd (lsd (lsd (lsd lsn))))))))))) ?_
            have g := ih (k + 1) _ _ _ _ _ (by omega) (by rw [show ((k + 1 : Nat) : Int) = (k : Int) + 1 by omega]; exact (u240.resolve_left (fun g => h245 g.1)).2.2)
            rw [show ((k + 1 : Nat) : Int) = (k : Int) + 1 by omega] at g
            exact g
          · refine aw_bipush dL_law_248 (by decide) ?_
            refine aw_goto (tgt := 257) dL_law_250 (by decide) ?_
            refine aw_ic_neE (tgt := 264) dL_law_257 (by decide) (by rcases u240 with g | g <;> omega) ?_
            refine aw_iconst dL_law_260 ?_
            refine aw_goto (tgt := 265) dL_law_261 (by decide) ?_
            refine aw_istore_n (ls2 := [_, _, _, _, _, _, _, _, _, _, _]) dL_law_265 (by decide) rfl ?_
            refine aw_iinc (ls2 := [_, _, _, _, _, _, _, _, _, _, _]) dL_law_266 rfl (by decide) rfl ?_
            refine aw_goto (tgt := 32) dL_law_269 (by decide) ?_
            refine aw_ls (ls2 := [some (aR 1005), some (aR 0), some (aI 1), some (aI ((k : Int) + 1)), none, none, none, none, none, none, none]) (lsk (lsk (lsk (lsk (lsd (lsd (lsd (lsd (lsd (lsd (lsd lsn))))))))))) ?_
            have g := ih (k + 1) _ _ _ _ _ (by omega) (by rw [show ((k + 1 : Nat) : Int) = (k : Int) + 1 by omega]; exact (u240.resolve_right (fun g => by omega)).2.2)
            rw [show ((k + 1 : Nat) : Int) = (k : Int) + 1 by omega] at g
            exact g
    have k119 : ∀ (h2 : HI) (r2 : HR) (m2 : Int) (s2 : Int → Int) (P2 : Nat → Int → Int), STEP m s P m2 s2 P2 → NV h2 r2 m2 s2 P2 (61 * (k : Int) + 61) → ∀ q2 : Nat → Nat, CIv r2 h2 q2 m2 s2 P2 → ∀ x y : Int, AW E M_L_law 125 2078 119 [some (aR 1005), some (aR 0), some (aI 1), some (aI (k : Int)), some (aI x), some (aI y), some (aL (DG s)), none, some (aI m), none, none] [] h2 r2 125 QL := by
      intro h2 r2 m2 s2 P2 st w2 q2 c2 x y
      have b2 := w2.b
      have w2 := w2.le (n2 := 61 * ((k : Int) + 1)) (by omega)
      have k169 : AW E M_L_law 125 2078 169 [some (aR 1005), some (aR 0), some (aI 1), some (aI (k : Int)), some (aI x), some (aI y), some (aL (DG s)), none, some (aI m), some (aI m2), none] [] h2 r2 125 QL := by
        refine aw_iload_n dL_law_169 rfl ?_
        refine aw_if_eq (tgt := 219) dL_law_170 (by decide) ⟨by decide, by decide⟩ (fun h170 => ?_) (fun h170 => ?_)
        · exact absurd h170 (by decide)
        · refine aw_iload dL_law_173 rfl ?_
          refine aw_iload dL_law_175 rfl ?_
          refine aw_iconst dL_law_177 ?_
          refine aw_iadd dL_law_178 ?_
          refine aw_ic_ne (tgt := 219) dL_law_179 (by decide) ⟨by omega, by omega⟩ ⟨by omega, by omega⟩ (fun h179 => ?_) (fun h179 => ?_)
          · refine aw_ls (ls2 := [some (aR 1005), some (aR 0), some (aI 1), some (aI (k : Int)), none, none, none, none, none, none, none]) (lsk (lsk (lsk (lsk (lsd (lsd (lsd (lsd (lsd (lsd (lsd lsn))))))))))) ?_
            exact k219 _ _ _ _ _ w2
          · refine aw_iload dL_law_182 rfl ?_
            refine aw_bipush dL_law_184 (by decide) ?_
            refine aw_shrX dL_law_186 (fun j186 j186r => ?_)
            refine aw_iconst dL_law_187 ?_
            refine aw_S2i dL_law_188 clL_38 ⟨by decide, by decide⟩ (c_L_low (by decide) (by decide)) (by decide) (by decide) rfl rfl (by simp only [List.length_cons, List.length_nil]; omega) (fun v_188 h_188 r_188 n_188 q_188 => ?_)
            obtain ⟨rfl, rfl, rfl, e188, g188⟩ := q_188
            refine aw_if_ne (tgt := 219) dL_law_191 (by decide) ⟨by omega, by omega⟩ (fun h191 => ?_) (fun h191 => ?_)
            · refine aw_ls (ls2 := [some (aR 1005), some (aR 0), some (aI 1), some (aI (k : Int)), none, none, none, none, none, none, none]) (lsk (lsk (lsk (lsk (lsd (lsd (lsd (lsd (lsd (lsd (lsd lsn))))))))))) ?_
              exact k219 _ _ _ _ _ w2
            · refine aw_aload_n dL_law_194 rfl ?_
              refine aw_V0i dL_law_195 clL_93 ⟨by decide, by decide⟩ (c := 8) (N := 5) (by decide) (by decide +kernel) rfl (t_undo w2) (by decide) (by decide) rfl rfl (by simp only [List.length_cons, List.length_nil]; omega) (fun v_195 h_195 r_195 n_195 q_195 => ?_)
              obtain ⟨rfl, u195⟩ := q_195
              obtain ⟨-, v195, w4⟩ := u195.resolve_left (fun g => by omega)
              obtain ⟨q4, c4⟩ := w4.1
              refine aw_iload dL_law_198 rfl ?_
              refine aw_ic_neE (tgt := 217) dL_law_200 (by decide) (by omega) ?_
              refine aw_aload_n dL_law_203 rfl ?_
              refine aw_S1x dL_law_204 clL_100 ⟨by decide, by decide⟩ (c_L_digest c4 hEN w4.2.1.2.1) (by decide) (by decide) rfl rfl (by simp only [List.length_cons, List.length_nil]; omega) ?_
              refine aw_lload dL_law_207 rfl ?_
              refine aw_lcmp dL_law_209 (fun h209 => ?_) (fun z hz0 hz1 h209 => ?_)
              · refine aw_if_ne (tgt := 217) dL_law_210 (by decide) ⟨by decide, by decide⟩ (fun h210 => ?_) (fun h210 => ?_)
                · exact absurd h210 (by decide)
                · refine aw_iconst dL_law_213 ?_
                  refine aw_goto (tgt := 218) dL_law_214 (by decide) ?_
                  refine aw_istore_n (ls2 := [_, _, _, _, _, _, _, _, _, _, _]) dL_law_218 (by decide) rfl ?_
                  refine aw_ls (ls2 := [some (aR 1005), some (aR 0), some (aI 1), some (aI (k : Int)), none, none, none, none, none, none, none]) (lsk (lsk (lsk (lsk (lsd (lsd (lsd (lsd (lsd (lsd (lsd lsn))))))))))) ?_
                  exact k219 _ _ _ _ _ w4
              · exact absurd (by rw [st.was (by omega) mb.1 mb.2]) h209
      refine aw_aload_n dL_law_119 rfl ?_
      refine aw_bipush dL_law_120 (by decide) ?_
      refine aw_V1x dL_law_122 clL_13 ⟨by decide, by decide⟩ (c := 8) (N := 5) (by decide) (by decide +kernel) rfl (t_count w2 (k := 16) (v := m2) ⟨by decide, by decide⟩ (by simp [cnF, ctF])) (by decide) (by decide) rfl rfl (by simp only [List.length_cons, List.length_nil]; omega) ?_
      refine aw_istore (ls2 := [_, _, _, _, _, _, _, _, _, _, _]) dL_law_125 (by decide) rfl ?_
      refine aw_iload_n dL_law_127 rfl ?_
      refine aw_if_eq (tgt := 167) dL_law_128 (by decide) ⟨by decide, by decide⟩ (fun h128 => ?_) (fun h128 => ?_)
      · exact absurd h128 (by decide)
      · refine aw_iload dL_law_131 rfl ?_
        refine aw_iload dL_law_133 rfl ?_
        refine aw_ic_ne (tgt := 154) dL_law_135 (by decide) ⟨by omega, by omega⟩ ⟨by omega, by omega⟩ (fun h135 => ?_) (fun h135 => ?_)
        · refine aw_iload dL_law_154 rfl ?_
          refine aw_iload dL_law_156 rfl ?_
          refine aw_iconst dL_law_158 ?_
          refine aw_iadd dL_law_159 ?_
          refine aw_ic_neE (tgt := 167) dL_law_160 (by decide) (st.up h135 mb.2) ?_
          refine aw_iconst dL_law_163 ?_
          refine aw_goto (tgt := 168) dL_law_164 (by decide) ?_
          refine aw_istore_n (ls2 := [_, _, _, _, _, _, _, _, _, _, _]) dL_law_168 (by decide) rfl ?_
          exact k169
        · refine aw_iload dL_law_138 rfl ?_
          refine aw_iconst dL_law_140 ?_
          refine aw_ic_eq (tgt := 163) dL_law_141 (by decide) ⟨by omega, by omega⟩ ⟨by decide, by decide⟩ (fun h141 => ?_) (fun h141 => ?_)
          · refine aw_iconst dL_law_163 ?_
            refine aw_goto (tgt := 168) dL_law_164 (by decide) ?_
            refine aw_istore_n (ls2 := [_, _, _, _, _, _, _, _, _, _, _]) dL_law_168 (by decide) rfl ?_
            exact k169
          · refine aw_aload_n dL_law_144 rfl ?_
            refine aw_S1x dL_law_145 clL_100 ⟨by decide, by decide⟩ (c_L_digest c2 hEN w2.2.1.2.1) (by decide) (by decide) rfl rfl (by simp only [List.length_cons, List.length_nil]; omega) ?_
            refine aw_lload dL_law_148 rfl ?_
            refine aw_lcmp dL_law_150 (fun h150 => ?_) (fun z hz0 hz1 h150 => ?_)
            · refine aw_if_eq (tgt := 163) dL_law_151 (by decide) ⟨by decide, by decide⟩ (fun h151 => ?_) (fun h151 => ?_)
              · refine aw_iconst dL_law_163 ?_
                refine aw_goto (tgt := 168) dL_law_164 (by decide) ?_
                refine aw_istore_n (ls2 := [_, _, _, _, _, _, _, _, _, _, _]) dL_law_168 (by decide) rfl ?_
                exact k169
              · exact absurd h151 (by decide)
            · exact absurd (by rw [st.same h135 h141 mb.2]) h150
    have k98 : ∀ z x y : Int, AW E M_L_law 125 2078 98 [some (aR 1005), some (aR 0), some (aI 1), some (aI (k : Int)), some (aI x), some (aI y), some (aL (DG s)), none, some (aI m), none, none] [aI z, aR 0] hi hr 125 QL := by
      intro z x y
      refine aw_iload dL_law_98 rfl ?_
      refine aw_S3i dL_law_100 clL_105 ⟨by decide, by decide⟩ (c_L_acts hEN w (by omega)) (by decide) (by decide) rfl rfl (by simp only [List.length_cons, List.length_nil]; omega) (fun v_100 h_100 r_100 n_100 q_100 => ?_)
      obtain ⟨rfl, rfl, m2, s2, P2, w2, st⟩ := q_100
      obtain ⟨q2, c2⟩ := w2.1
      refine aw_if_eq (tgt := 117) dL_law_103 (by decide) ⟨by decide, by decide⟩ (fun h103 => ?_) (fun h103 => ?_)
      · exact absurd h103 (by decide)
      · refine aw_aload_n dL_law_106 rfl ?_
        refine aw_S1x dL_law_107 clL_90 ⟨by decide, by decide⟩ (c_L_holds c2 hEN w2.2.1) (by decide) (by decide) rfl rfl (by simp only [List.length_cons, List.length_nil]; omega) ?_
        refine aw_if_eq (tgt := 117) dL_law_110 (by decide) ⟨by decide, by decide⟩ (fun h110 => ?_) (fun h110 => ?_)
        · exact absurd h110 (by decide)
        · refine aw_iconst dL_law_113 ?_
          refine aw_goto (tgt := 118) dL_law_114 (by decide) ?_
          refine aw_istore_n (ls2 := [_, _, _, _, _, _, _, _, _, _, _]) dL_law_118 (by decide) rfl ?_
          exact k119 _ _ _ _ _ st w2 _ c2 _ _
    refine aw_iload_n dL_law_32 rfl ?_
    refine aw_bipush dL_law_33 (by decide) ?_
    refine aw_ic_ge (tgt := 272) dL_law_35 (by decide) ⟨by omega, by omega⟩ ⟨by decide, by decide⟩ (fun h35 => ?_) (fun h35 => ?_)
    · exact absurd h35 (by omega)
    · refine aw_iload_n dL_law_38 rfl ?_
      refine aw_if_eq (tgt := 272) dL_law_39 (by decide) ⟨by decide, by decide⟩ (fun h39 => ?_) (fun h39 => ?_)
      · exact absurd h39 (by decide)
      · refine aw_aload_n dL_law_42 rfl ?_
        refine aw_iconst dL_law_43 ?_
        refine aw_iload_n dL_law_44 rfl ?_
        refine aw_imul dL_law_45 ?_
        refine aw_S2i dL_law_46 clL_96 ⟨by decide, by decide⟩ (c_L_lot hL hL2 hI (by omega) (by omega)) (by decide) (by decide) rfl rfl (by simp only [List.length_cons, List.length_nil]; omega) (fun v_46 h_46 r_46 n_46 q_46 => ?_)
        obtain ⟨rfl, rfl, rfl, rx46⟩ := q_46
        refine aw_istore (ls2 := [_, _, _, _, _, _, _, _, _, _, _]) dL_law_49 (by decide) rfl ?_
        refine aw_aload_n dL_law_51 rfl ?_
        refine aw_iconst dL_law_52 ?_
        refine aw_iload_n dL_law_53 rfl ?_
        refine aw_imul dL_law_54 ?_
        refine aw_iconst dL_law_55 ?_
        refine aw_iadd dL_law_56 ?_
        refine aw_S2i dL_law_57 clL_96 ⟨by decide, by decide⟩ (c_L_lot hL hL2 hI (by omega) (by omega)) (by decide) (by decide) rfl rfl (by simp only [List.length_cons, List.length_nil]; omega) (fun v_57 h_57 r_57 n_57 q_57 => ?_)
        obtain ⟨rfl, rfl, rfl, rx57⟩ := q_57
        refine aw_istore (ls2 := [_, _, _, _, _, _, _, _, _, _, _]) dL_law_60 (by decide) rfl ?_
        refine aw_aload_n dL_law_62 rfl ?_
        refine aw_S1x dL_law_63 clL_100 ⟨by decide, by decide⟩ (c_L_digest c hEN w.2.1.2.1) (by decide) (by decide) rfl rfl (by simp only [List.length_cons, List.length_nil]; omega) ?_
        refine aw_lstore (ls2 := [_, _, _, _, _, _, _, _, _, _, _]) dL_law_66 (by decide) rfl ?_
        refine aw_aload_n dL_law_68 rfl ?_
        refine aw_bipush dL_law_69 (by decide) ?_
        refine aw_V1x dL_law_71 clL_13 ⟨by decide, by decide⟩ (c := 8) (N := 5) (by decide) (by decide +kernel) rfl (t_count w (k := 16) (v := m) ⟨by decide, by decide⟩ (by simp [cnF, ctF])) (by decide) (by decide) rfl rfl (by simp only [List.length_cons, List.length_nil]; omega) ?_
        refine aw_istore (ls2 := [_, _, _, _, _, _, _, _, _, _, _]) dL_law_74 (by decide) rfl ?_
        refine aw_aload_n dL_law_76 rfl ?_
        refine aw_iload_n dL_law_77 rfl ?_
        refine aw_iconst dL_law_78 ?_
        refine aw_ic_ge (tgt := 96) dL_law_79 (by decide) ⟨by omega, by omega⟩ ⟨by decide, by decide⟩ (fun h79 => ?_) (fun h79 => ?_)
        · refine aw_iload dL_law_96 rfl ?_
          exact k98 _ _ _
        · refine aw_iload dL_law_82 rfl ?_
          refine aw_bipush dL_law_84 (by decide) ?_
          refine aw_divX dL_law_86 (by decide) (fun j86 j86r => ?_)
          refine aw_bipush dL_law_87 (by decide) ?_
          refine aw_imul dL_law_89 ?_
          refine aw_ldc (z := 2147483646) dL_law_90 w_kL104 (by decide) ?_
          refine aw_andX dL_law_92 (fun j92 j92r => ?_)
          refine aw_goto (tgt := 98) dL_law_93 (by decide) ?_
          exact k98 _ _ _
/-- the heap of what was there before alone -/
def hi0 (E : ET) : HI := fun a j => if a < 1000 then 0 else eX E (a - 1000) j
theorem hi0_z (E : ET) : ∀ a : Nat, a < 1000 → ∀ k : Nat, hi0 E a k = 0 := fun a ha k => by unfold hi0; rw [if_pos ha]
theorem hi0_x {E : ET} (XE : XH (fun a j => eX E (a - 1000) j)) : XH (hi0 E) := XE.of (fun a ha k => by unfold hi0; rw [if_neg (by omega)])
set_option maxRecDepth 100000 in
set_option maxHeartbeats 4000000 in
theorem law_aw (XE : XH (fun a j => eX E (a - 1000) j)) (hEN : EN E) (hL : L = eN E 5) (hL2 : L ≤ 260) (hI : ∀ j : Nat, InR (eX E 5 j)) : AW E M_L_law 0 0 0 [some (aR 1005), none, none, none, none, none, none, none, none, none, none] [] (hi0 E) hA0 0 QL := by
  refine aw_new dL_law_0 ci8 (by decide) (by decide +kernel) kL_14 nwX8 itX8 (Nat.le_of_ble_eq_true rfl) (Nat.le_of_ble_eq_true rfl) ?_
  refine aw_dup dL_law_3 ?_
  refine aw_I0c dL_law_4 clL_89 ⟨by decide, by decide⟩ (k_X8 hEN) (Nat.le_of_ble_eq_true rfl) (Nat.le_of_ble_eq_true rfl) (by simp only [List.length_cons, List.length_nil]; omega) ?_
  refine aw_astore_n (ls2 := [some (aR 1005), some (aR 0), none, none, none, none, none, none, none, none, none]) dL_law_7 (by decide) rfl ?_
  refine aw_room (cu2 := 125) (su2 := 2078) rfl rfl ?_
  have w := nv_start (hi0_z E) (hi0_x XE)
  obtain ⟨q, c⟩ := w.1
  refine aw_aload_n dL_law_8 rfl ?_
  refine aw_S1x dL_law_9 clL_90 ⟨by decide, by decide⟩ (c_L_holds c hEN w.2.1) (by decide) (by decide) rfl rfl (by simp only [List.length_cons, List.length_nil]; omega) ?_
  refine aw_if_eq (tgt := 28) dL_law_12 (by decide) ⟨by decide, by decide⟩ (fun h12 => ?_) (fun h12 => ?_)
  · exact absurd h12 (by decide)
  · refine aw_aload_n dL_law_15 rfl ?_
    refine aw_V0i dL_law_16 clL_93 ⟨by decide, by decide⟩ (c := 8) (N := 5) (by decide) (by decide +kernel) rfl (t_undo w) (by decide) (by decide) rfl rfl (by simp only [List.length_cons, List.length_nil]; omega) (fun v_16 h_16 r_16 n_16 q_16 => ?_)
    obtain ⟨rfl, u16⟩ := q_16
    obtain ⟨-, v16, w2⟩ := u16.resolve_right (fun g => absurd g.1 (by decide))
    refine aw_bipush dL_law_19 (by decide) ?_
    refine aw_ic_neE (tgt := 28) dL_law_21 (by decide) v16 ?_
    refine aw_iconst dL_law_24 ?_
    refine aw_goto (tgt := 29) dL_law_25 (by decide) ?_
    refine aw_istore_n (ls2 := [_, _, _, _, _, _, _, _, _, _, _]) dL_law_29 (by decide) rfl ?_
    refine aw_iconst dL_law_30 ?_
    refine aw_istore_n (ls2 := [_, _, _, _, _, _, _, _, _, _, _]) dL_law_31 (by decide) rfl ?_
    exact law_loop hEN hL hL2 hI 34 0 _ _ _ _ _ (Nat.zero_add _) w2
end LAW
