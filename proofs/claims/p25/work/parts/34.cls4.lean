/-! the class begins to write -/
section CLS4
variable {E : ET} {hi : HI} {hr : HR} {o : Nat} {t : TS}
theorem bgC_n (t : TS) (c k v s : Int) {x : Nat} (y : Int) (h : x < 2 ∨ 5 < x) : bgC t c k v s x y = t x y := by
  unfold bgC
  split
  · rw [ut_n _ _ (by omega), ut_n _ _ (by omega), ut_n _ _ (by omega), ut_n _ _ (by omega)]
  · rfl
theorem bbC_n (t : TS) (e b : Int) {x : Nat} (y : Int) (h : x < 2 ∨ 5 < x) : bbC t e b x y = t x y := by
  unfold bbC
  split
  · rw [ut_n _ _ (by omega), ut_n _ _ (by omega), ut_n _ _ (by omega), ut_n _ _ (by omega)]
  · rfl
theorem bw3_n (t : TS) {x : Nat} (y : Int) (h : x ≠ 11) : bw3 t x y = t x y := by
  unfold bw3 bw2 bw1; rw [ut_n _ _ (by simp [h]), ut_n _ _ (by simp [h]), ut_n _ _ (by simp [h])]
theorem bw6_n (t : TS) {x : Nat} (y : Int) (h : x ≠ 11) : bw6 t x y = t x y := by
  unfold bw6 bw5 bw4; rw [ut_n _ _ (by simp [h]), ut_n _ _ (by simp [h]), ut_n _ _ (by simp [h]), bw3_n _ _ h]
theorem bw8_n (t : TS) {x : Nat} (y : Int) (h : x ≠ 11) : bw8 t x y = t x y := by
  unfold bw8 bw7; rw [ut_n _ _ (by simp [h]), ut_n _ _ (by simp [h]), bw6_n _ _ h]
theorem bwA_n (t : TS) {x : Nat} (y : Int) (h : x ≠ 11) (h2 : ¬ (x = 0 ∧ y = 10)) (h3 : ¬ (x = 12 ∧ y = 1)) : bwA t x y = t x y := by
  unfold bwA bw9; rw [ut_n _ _ h3, ut_n _ _ h2, bw8_n _ _ h]
theorem bwA_w (t : TS) (y : Int) : bwA t 11 y = if y = 7 then bwO t else if y = 6 then bwO t else if y = 5 then t 0 9 * 24 + (16 + lin (t 0 10)) else if y = 4 then t 0 9 * 24 + ear (lin (t 0 10)) else if y = 3 then t 0 9 * 24 + t 0 10
    else if y = 2 then ruF (bw2 t) 0 else if y = 1 then lat (t 0 10) else if y = 0 then 1 else t 11 y := by
  unfold bwA bw9 bw8 bw7 bw6 bw5 bw4 bw3 bw2 bw1 ut
  simp only [show ¬ ((11 : Nat) = 12) by decide, show ¬ ((11 : Nat) = 0) by decide, false_and, if_false, true_and]
theorem bwB_n (t : TS) {x : Nat} (y : Int) (h : x < 2 ∨ 5 < x) : bwB t x y = bwA t x y := bgC_n _ _ _ _ _ _ h
theorem c_vAtv (ho : St o) {j N : Nat} {i v : Int} (hv : t j i = v) (hj : j < 17) (hs : sh (o + j) = (10, N)) (hN : N ≤ 100000) (h0 : 0 ≤ i) (h1 : i < N) : AMet E M_X8_valueAt [aR (o + j), aI i] (putS o hi t) hr 125 (EX (some (aI v)) (putS o hi t) hr 125) := by
  rw [← hv]; exact c_vAt ho hj hs hN h0 h1
set_option maxRecDepth 100000 in
set_option maxHeartbeats 4000000 in
theorem c_X4_beginWriting (ho : St o) (hHR : HRk hr) (hEN : EN E) (hX : XH hi) (hC : CR t) (hn : 0 ≤ t 0 10 ∧ t 0 10 < 16) (hac : t 0 9 = 0 ∨ t 0 9 = 1) (hER : ∀ i : Int, 0 ≤ i → i < 2 → 0 ≤ t 15 i ∧ InR (t 15 i)) (hST3 : 1 ≤ t 13 3 ∧ InR (t 13 3)) (hS2 : InR (t 13 2)) : AMet E M_X4_beginWriting [aR o] (putS o hi t) hr 125 (EX none (putS o hi (bwC t)) hr 125) := by
  refine am_of (by decide +kernel) (Nat.le_of_ble_eq_true rfl) ?_
  have hl := lin_b hn.1 hn.2
  have he := ear_b hl.1 hl.2
  have hlt := lat_b (t 0 10)
  have hil : InR (lat (t 0 10)) := by rcases hlt with q | q <;> rw [q] <;> exact ⟨by decide, by decide⟩
  have hkd : 0 ≤ kdF (bwB t) (t 0 9 * 24 + ear (lin (t 0 10))) ∧ kdF (bwB t) (t 0 9 * 24 + ear (lin (t 0 10))) ≤ 3 := by
    have h1 := (hC (t 0 9 * 24 + ear (lin (t 0 10))) (by omega) (by omega)).1
    unfold kdF
    split
    · unfold bwB bgC
      split
      · rw [ut_n _ _ (by simp), ut_n _ _ (by simp), ut_n _ _ (by simp)]
        unfold ut
        split
        · omega
        · rw [bwA_n _ _ (by decide) (by simp) (by simp)]; exact h1
      · rw [bwA_n _ _ (by decide) (by simp) (by simp)]; exact h1
    · omega
  have hq0 : 0 ≤ t 15 (t 0 9) := (hER _ (by omega) (by omega)).1
  have hq1 : InR (t 15 (t 0 9)) := (hER _ (by omega) (by omega)).2
  have hq2 : InR (t 13 3) := hST3.2
  have J249 : AW E M_X4_beginWriting 0 0 249 [some (aR o), some (aI (lin (t 0 10)))] [] (putS o hi (bwB t)) hr 125 (EX none (putS o hi (bwC t)) hr 125) := by
    refine aw_aload_n dX4_beginWriting_249 rfl ?_
    refine aw_getr (x := (o + 11)) dX4_beginWriting_250 ci4 (by decide) fX4_28 (by have := st_lt ho; omega) (st_sh0 ho) rfl (st_r0 ho hHR 2) ?_
    refine aw_getv dX4_beginWriting_253 ci7 (by decide) fX4_163 (by have := st_lt ho; omega) (st_sh ho 11) rfl ((putS_gk o _ _ 11 1 1 rfl).trans ((bwB_n t _ (by decide)).trans (show bwA t 11 1 = lat (t 0 10) from rfl))) ?_
    refine aw_if_eq (tgt := 323) dX4_beginWriting_256 (by decide) hil (fun h256 => ?_) (fun h256 => ?_)
    · refine aw_vret dX4_beginWriting_323 rfl (by decide) (by decide) ?_
      have e : bwC t = bwB t := if_neg (fun g => by have g1 := g.1; have g2 := g.2.1; have g3 := g.2.2; omega)
      rw [e]
      exact EX.rf
    · refine aw_aload_n dX4_beginWriting_259 rfl ?_
      refine aw_getr (x := (o + 13)) dX4_beginWriting_260 ci4 (by decide) fX4_39 (by have := st_lt ho; omega) (st_sh0 ho) rfl (st_r0 ho hHR 4) ?_
      refine aw_iconst dX4_beginWriting_263 ?_
      refine aw_S2x dX4_beginWriting_264 clX4_156 ⟨by decide, by decide⟩ (c_vAtv ho ((bwB_n t _ (by decide)).trans (bwA_n t _ (by decide) (by decide) (by decide))) (by decide) (st_sh ho 13) (by decide) (by decide) (by decide)) (by decide) (by decide) rfl rfl (by simp only [List.length_cons, List.length_nil]; omega) ?_
      refine aw_iconst dX4_beginWriting_267 ?_
      refine aw_ic_ne (tgt := 323) dX4_beginWriting_268 (by decide) hS2 ⟨by decide, by decide⟩ (fun h268 => ?_) (fun h268 => ?_)
      · refine aw_vret dX4_beginWriting_323 rfl (by decide) (by decide) ?_
        have e : bwC t = bwB t := if_neg (fun g => by have g1 := g.1; have g2 := g.2.1; have g3 := g.2.2; omega)
        rw [e]
        exact EX.rf
      · refine aw_aload_n dX4_beginWriting_271 rfl ?_
        refine aw_getr (x := (o + 1)) dX4_beginWriting_272 ci4 (by decide) fX4_12 (by have := st_lt ho; omega) (st_sh0 ho) rfl (st_r0 ho hHR 0) ?_
        refine aw_aload_n dX4_beginWriting_275 rfl ?_
        refine aw_getr (x := (o + 11)) dX4_beginWriting_276 ci4 (by decide) fX4_28 (by have := st_lt ho; omega) (st_sh0 ho) rfl (st_r0 ho hHR 2) ?_
        refine aw_getv dX4_beginWriting_279 ci7 (by decide) fX4_177 (by have := st_lt ho; omega) (st_sh ho 11) rfl ((putS_gk o _ _ 11 4 4 rfl).trans ((bwB_n t _ (by decide)).trans (show bwA t 11 4 = t 0 9 * 24 + ear (lin (t 0 10)) from rfl))) ?_
        refine aw_V1x dX4_beginWriting_282 clX4_198 ⟨by decide, by decide⟩ (c := 0) (N := 4) (by have := st_lt ho; omega) (st_sh ho 1) rfl (c_X0_kind ho hHR ⟨by omega, by omega⟩) (by decide) (by decide) rfl rfl (by simp only [List.length_cons, List.length_nil]; omega) ?_
        refine aw_iconst dX4_beginWriting_285 ?_
        refine aw_ic_ne (tgt := 323) dX4_beginWriting_286 (by decide) ⟨by omega, by omega⟩ ⟨by decide, by decide⟩ (fun h286 => ?_) (fun h286 => ?_)
        · refine aw_vret dX4_beginWriting_323 rfl (by decide) (by decide) ?_
          have e : bwC t = bwB t := if_neg (fun g => by have g1 := g.1; have g2 := g.2.1; have g3 := g.2.2; omega)
          rw [e]
          exact EX.rf
        · refine aw_aload_n dX4_beginWriting_289 rfl ?_
          refine aw_getr (x := (o + 1)) dX4_beginWriting_290 ci4 (by decide) fX4_12 (by have := st_lt ho; omega) (st_sh0 ho) rfl (st_r0 ho hHR 0) ?_
          refine aw_aload_n dX4_beginWriting_293 rfl ?_
          refine aw_getr (x := (o + 11)) dX4_beginWriting_294 ci4 (by decide) fX4_28 (by have := st_lt ho; omega) (st_sh0 ho) rfl (st_r0 ho hHR 2) ?_
          refine aw_getv dX4_beginWriting_297 ci7 (by decide) fX4_177 (by have := st_lt ho; omega) (st_sh ho 11) rfl ((putS_gk o _ _ 11 4 4 rfl).trans ((bwB_n t _ (by decide)).trans (show bwA t 11 4 = t 0 9 * 24 + ear (lin (t 0 10)) from rfl))) ?_
          refine aw_aload_n dX4_beginWriting_300 rfl ?_
          refine aw_getr (x := (o + 11)) dX4_beginWriting_301 ci4 (by decide) fX4_28 (by have := st_lt ho; omega) (st_sh0 ho) rfl (st_r0 ho hHR 2) ?_
          refine aw_getv dX4_beginWriting_304 ci7 (by decide) fX4_180 (by have := st_lt ho; omega) (st_sh ho 11) rfl ((putS_gk o _ _ 11 5 5 rfl).trans ((bwB_n t _ (by decide)).trans (show bwA t 11 5 = t 0 9 * 24 + (16 + lin (t 0 10)) from rfl))) ?_
          refine aw_V2v dX4_beginWriting_307 clX4_201 ⟨by decide, by decide⟩ (c := 0) (N := 4) (by have := st_lt ho; omega) (st_sh ho 1) rfl (c_X0_beginBackup ho hHR ⟨by omega, by omega⟩ ⟨by omega, by omega⟩) (by decide) (by decide) rfl rfl (by simp only [List.length_cons, List.length_nil]; omega) ?_
          change AW E _ _ _ _ _ _ (putS o hi (bwD t)) hr 125 _
          refine aw_aload_n dX4_beginWriting_310 rfl ?_
          refine aw_getr (x := (o + 11)) dX4_beginWriting_311 ci4 (by decide) fX4_28 (by have := st_lt ho; omega) (st_sh0 ho) rfl (st_r0 ho hHR 2) ?_
          refine aw_dup dX4_beginWriting_314 ?_
          refine aw_getv dX4_beginWriting_315 ci7 (by decide) fX4_111 (by have := st_lt ho; omega) (st_sh ho 11) rfl (putS_gk o _ _ 11 7 7 rfl) ?_
          refine aw_iconst dX4_beginWriting_318 ?_
          refine aw_iadd dX4_beginWriting_319 ?_
          refine aw_putv dX4_beginWriting_320 ci7 (by decide) fX4_111 (by have := st_lt ho; omega) (st_sh ho 11) rfl rfl (Or.inl rfl) (putS_uk o _ _ 11 7 7 _ rfl) ?_
          refine aw_vret dX4_beginWriting_323 rfl (by decide) (by decide) ?_
          have e : bwC t = bwE t := if_pos ⟨by omega, by omega, by omega⟩
          rw [e]
          exact EX.rf
  have J175 : AW E M_X4_beginWriting 0 0 175 [some (aR o), some (aI (lin (t 0 10)))] [] (putS o hi (bw7 t)) hr 125 (EX none (putS o hi (bwC t)) hr 125) := by
    refine aw_aload_n dX4_beginWriting_175 rfl ?_
    refine aw_getr (x := (o + 11)) dX4_beginWriting_176 ci4 (by decide) fX4_28 (by have := st_lt ho; omega) (st_sh0 ho) rfl (st_r0 ho hHR 2) ?_
    refine aw_aload_n dX4_beginWriting_179 rfl ?_
    refine aw_getr (x := (o + 11)) dX4_beginWriting_180 ci4 (by decide) fX4_28 (by have := st_lt ho; omega) (st_sh0 ho) rfl (st_r0 ho hHR 2) ?_
    refine aw_getv dX4_beginWriting_183 ci7 (by decide) fX4_186 (by have := st_lt ho; omega) (st_sh ho 11) rfl ((putS_gk o _ _ 11 6 6 rfl).trans (show bw7 t 11 6 = bwO t from rfl)) ?_
    refine aw_putv dX4_beginWriting_186 ci7 (by decide) fX4_111 (by have := st_lt ho; omega) (st_sh ho 11) rfl rfl (Or.inl rfl) (putS_uk o _ _ 11 7 7 _ rfl) ?_
    change AW E _ _ _ _ _ _ (putS o hi (bw8 t)) hr 125 _
    refine aw_aload_n dX4_beginWriting_189 rfl ?_
    refine aw_dup dX4_beginWriting_190 ?_
    refine aw_getv dX4_beginWriting_191 ci4 (by decide) fX4_80 (by have := st_lt ho; omega) (st_sh0 ho) rfl ((putS_gk0 o _ _ 10 10 rfl).trans (bw8_n t _ (by decide))) ?_
    refine aw_iconst dX4_beginWriting_194 ?_
    refine aw_iadd dX4_beginWriting_195 ?_
    refine aw_putv dX4_beginWriting_196 ci4 (by decide) fX4_80 (by have := st_lt ho; omega) (st_sh0 ho) rfl rfl (Or.inl rfl) (putS_uk0 o _ _ 10 10 _ rfl) ?_
    change AW E _ _ _ _ _ _ (putS o hi (bw9 t)) hr 125 _
    refine aw_aload_n dX4_beginWriting_199 rfl ?_
    refine aw_getr (x := (o + 12)) dX4_beginWriting_200 ci4 (by decide) fX4_35 (by have := st_lt ho; omega) (st_sh0 ho) rfl (st_r0 ho hHR 3) ?_
    refine aw_dup dX4_beginWriting_203 ?_
    refine aw_getv dX4_beginWriting_204 ci5 (by decide) fX4_189 (by have := st_lt ho; omega) (st_sh ho 12) rfl ((putS_gk o _ _ 12 1 1 rfl).trans (show bw9 t 12 1 = t 12 1 from bw8_n t (x := 12) 1 (by decide))) ?_
    refine aw_iconst dX4_beginWriting_207 ?_
    refine aw_iadd dX4_beginWriting_208 ?_
    refine aw_putv dX4_beginWriting_209 ci5 (by decide) fX4_189 (by have := st_lt ho; omega) (st_sh ho 12) rfl rfl (Or.inl rfl) (putS_uk o _ _ 12 1 1 _ rfl) ?_
    change AW E _ _ _ _ _ _ (putS o hi (bwA t)) hr 125 _
    refine aw_aload_n dX4_beginWriting_212 rfl ?_
    refine aw_getr (x := (o + 1)) dX4_beginWriting_213 ci4 (by decide) fX4_12 (by have := st_lt ho; omega) (st_sh0 ho) rfl (st_r0 ho hHR 0) ?_
    refine aw_aload_n dX4_beginWriting_216 rfl ?_
    refine aw_getr (x := (o + 11)) dX4_beginWriting_217 ci4 (by decide) fX4_28 (by have := st_lt ho; omega) (st_sh0 ho) rfl (st_r0 ho hHR 2) ?_
    refine aw_getv dX4_beginWriting_220 ci7 (by decide) fX4_171 (by have := st_lt ho; omega) (st_sh ho 11) rfl ((putS_gk o _ _ 11 3 3 rfl).trans (show bwA t 11 3 = t 0 9 * 24 + t 0 10 from rfl)) ?_
    refine aw_aload_n dX4_beginWriting_223 rfl ?_
    refine aw_getr (x := (o + 6)) dX4_beginWriting_224 ci4 (by decide) fX4_21 (by have := st_lt ho; omega) (st_sh0 ho) rfl (st_r0 ho hHR 1) ?_
    refine aw_iconst dX4_beginWriting_227 ?_
    refine aw_V1x dX4_beginWriting_228 clX4_143 ⟨by decide, by decide⟩ (c := 2) (N := 5) (by have := st_lt ho; omega) (st_sh ho 6) rfl (c_X2_key ho hHR ⟨by decide, by decide⟩) (by decide) (by decide) rfl rfl (by simp only [List.length_cons, List.length_nil]; omega) ?_
    refine aw_aload_n dX4_beginWriting_231 rfl ?_
    refine aw_getr (x := (o + 6)) dX4_beginWriting_232 ci4 (by decide) fX4_21 (by have := st_lt ho; omega) (st_sh0 ho) rfl (st_r0 ho hHR 1) ?_
    refine aw_iconst dX4_beginWriting_235 ?_
    refine aw_V1x dX4_beginWriting_236 clX4_192 ⟨by decide, by decide⟩ (c := 2) (N := 5) (by have := st_lt ho; omega) (st_sh ho 6) rfl (c_X2_value ho hHR ⟨by decide, by decide⟩) (by decide) (by decide) rfl rfl (by simp only [List.length_cons, List.length_nil]; omega) ?_
    refine aw_aload_n dX4_beginWriting_239 rfl ?_
    refine aw_getr (x := (o + 12)) dX4_beginWriting_240 ci4 (by decide) fX4_35 (by have := st_lt ho; omega) (st_sh0 ho) rfl (st_r0 ho hHR 3) ?_
    refine aw_getv dX4_beginWriting_243 ci5 (by decide) fX4_189 (by have := st_lt ho; omega) (st_sh ho 12) rfl ((putS_gk o _ _ 12 1 1 rfl).trans (show bwA t 12 1 = t 12 1 + 1 from rfl)) ?_
    refine aw_V4v dX4_beginWriting_246 clX4_195 ⟨by decide, by decide⟩ (c := 0) (N := 4) (by have := st_lt ho; omega) (st_sh ho 1) rfl (c_X0_begin ho hHR ⟨by omega, by omega⟩) (by decide) (by decide) rfl rfl (by simp only [List.length_cons, List.length_nil]; omega) ?_
    exact J249
  have J137 : AW E M_X4_beginWriting 0 0 137 [some (aR o), some (aI (lin (t 0 10)))] [aI (lat (t 0 10)), aR (o + 13), aR (o + 11)] (putS o hi (bw6 t)) hr 125 (EX none (putS o hi (bwC t)) hr 125) := by
    refine aw_S2x dX4_beginWriting_137 clX4_156 ⟨by decide, by decide⟩ (c_vAtv ho (bw6_n t _ (by decide)) (by decide) (st_sh ho 13) (by decide) (by omega) (by omega)) (by decide) (by decide) rfl rfl (by simp only [List.length_cons, List.length_nil]; omega) ?_
    refine aw_aload_n dX4_beginWriting_140 rfl ?_
    refine aw_getr (x := (o + 14)) dX4_beginWriting_141 ci4 (by decide) fX4_43 (by have := st_lt ho; omega) (st_sh0 ho) rfl (st_r0 ho hHR 5) ?_
    refine aw_iload_n dX4_beginWriting_144 rfl ?_
    refine aw_S2x dX4_beginWriting_145 clX4_156 ⟨by decide, by decide⟩ (c_vAtv ho (bw6_n t _ (by decide)) (by decide) (st_sh ho 14) (by decide) (by omega) (by omega)) (by decide) (by decide) rfl rfl (by simp only [List.length_cons, List.length_nil]; omega) ?_
    refine aw_iadd dX4_beginWriting_148 ?_
    refine aw_aload_n dX4_beginWriting_149 rfl ?_
    refine aw_getr (x := (o + 15)) dX4_beginWriting_150 ci4 (by decide) fX4_46 (by have := st_lt ho; omega) (st_sh0 ho) rfl (st_r0 ho hHR 6) ?_
    refine aw_aload_n dX4_beginWriting_153 rfl ?_
    refine aw_getv dX4_beginWriting_154 ci4 (by decide) fX4_76 (by have := st_lt ho; omega) (st_sh0 ho) rfl ((putS_gk0 o _ _ 9 9 rfl).trans (bw6_n t _ (by decide))) ?_
    refine aw_S2x dX4_beginWriting_157 clX4_156 ⟨by decide, by decide⟩ (c_vAtv ho (bw6_n t _ (by decide)) (by decide) (st_sh ho 15) (by decide) (by omega) (by omega)) (by decide) (by decide) rfl rfl (by simp only [List.length_cons, List.length_nil]; omega) ?_
    refine aw_aload_n dX4_beginWriting_160 rfl ?_
    refine aw_getr (x := (o + 13)) dX4_beginWriting_161 ci4 (by decide) fX4_39 (by have := st_lt ho; omega) (st_sh0 ho) rfl (st_r0 ho hHR 4) ?_
    refine aw_iconst dX4_beginWriting_164 ?_
    refine aw_S2x dX4_beginWriting_165 clX4_156 ⟨by decide, by decide⟩ (c_vAtv ho (bw6_n t _ (by decide)) (by decide) (st_sh ho 13) (by decide) (by decide) (by decide)) (by decide) (by decide) rfl rfl (by simp only [List.length_cons, List.length_nil]; omega) ?_
    refine aw_S2x dX4_beginWriting_168 clX4_183 ⟨by decide, by decide⟩ (c_X8_quotient hq1 hq2 hq0) (by decide) (by decide) rfl rfl (by simp only [List.length_cons, List.length_nil]; omega) ?_
    refine aw_iadd dX4_beginWriting_171 ?_
    refine aw_putv dX4_beginWriting_172 ci7 (by decide) fX4_186 (by have := st_lt ho; omega) (st_sh ho 11) rfl rfl (Or.inl rfl) (putS_uk o _ _ 11 6 6 _ rfl) ?_
    rw [if_pos (show 0 < t 13 3 by omega)]
    exact J175
  have J42 : AW E M_X4_beginWriting 0 0 42 [some (aR o), some (aI (lin (t 0 10)))] [aI (lat (t 0 10)), aR (o + 11)] (putS o hi (bw1 t)) hr 125 (EX none (putS o hi (bwC t)) hr 125) := by
    refine aw_putv dX4_beginWriting_42 ci7 (by decide) fX4_163 (by have := st_lt ho; omega) (st_sh ho 11) rfl rfl (Or.inr ⟨rfl, hlt⟩) (putS_uk o _ _ 11 1 1 _ rfl) ?_
    change AW E _ _ _ _ _ _ (putS o hi (bw2 t)) hr 125 _
    refine aw_aload_n dX4_beginWriting_45 rfl ?_
    refine aw_getr (x := (o + 11)) dX4_beginWriting_46 ci4 (by decide) fX4_28 (by have := st_lt ho; omega) (st_sh0 ho) rfl (st_r0 ho hHR 2) ?_
    refine aw_aload_n dX4_beginWriting_49 rfl ?_
    refine aw_getr (x := (o + 6)) dX4_beginWriting_50 ci4 (by decide) fX4_21 (by have := st_lt ho; omega) (st_sh0 ho) rfl (st_r0 ho hHR 1) ?_
    refine aw_iconst dX4_beginWriting_53 ?_
    refine aw_V1x dX4_beginWriting_54 clX4_139 ⟨by decide, by decide⟩ (c := 2) (N := 5) (by have := st_lt ho; omega) (st_sh ho 6) rfl (c_X2_urgency ho hHR ⟨by decide, by decide⟩) (by decide) (by decide) rfl rfl (by simp only [List.length_cons, List.length_nil]; omega) ?_
    refine aw_putv dX4_beginWriting_57 ci7 (by decide) fX4_166 (by have := st_lt ho; omega) (st_sh ho 11) rfl rfl (Or.inl rfl) (putS_uk o _ _ 11 2 2 _ rfl) ?_
    change AW E _ _ _ _ _ _ (putS o hi (bw3 t)) hr 125 _
    refine aw_aload_n dX4_beginWriting_60 rfl ?_
    refine aw_getr (x := (o + 11)) dX4_beginWriting_61 ci4 (by decide) fX4_28 (by have := st_lt ho; omega) (st_sh0 ho) rfl (st_r0 ho hHR 2) ?_
    refine aw_aload_n dX4_beginWriting_64 rfl ?_
    refine aw_getv dX4_beginWriting_65 ci4 (by decide) fX4_76 (by have := st_lt ho; omega) (st_sh0 ho) rfl ((putS_gk0 o _ _ 9 9 rfl).trans (bw3_n t _ (by decide))) ?_
    refine aw_aload_n dX4_beginWriting_68 rfl ?_
    refine aw_getv dX4_beginWriting_69 ci4 (by decide) fX4_80 (by have := st_lt ho; omega) (st_sh0 ho) rfl ((putS_gk0 o _ _ 10 10 rfl).trans (bw3_n t _ (by decide))) ?_
    refine aw_S2x dX4_beginWriting_72 clX4_168 ⟨by decide, by decide⟩ c_X8_cellOf (by decide) (by decide) rfl rfl (by simp only [List.length_cons, List.length_nil]; omega) ?_
    refine aw_putv dX4_beginWriting_75 ci7 (by decide) fX4_171 (by have := st_lt ho; omega) (st_sh ho 11) rfl rfl (Or.inl rfl) (putS_uk o _ _ 11 3 3 _ rfl) ?_
    change AW E _ _ _ _ _ _ (putS o hi (bw4 t)) hr 125 _
    refine aw_aload_n dX4_beginWriting_78 rfl ?_
    refine aw_getr (x := (o + 11)) dX4_beginWriting_79 ci4 (by decide) fX4_28 (by have := st_lt ho; omega) (st_sh0 ho) rfl (st_r0 ho hHR 2) ?_
    refine aw_aload_n dX4_beginWriting_82 rfl ?_
    refine aw_getv dX4_beginWriting_83 ci4 (by decide) fX4_76 (by have := st_lt ho; omega) (st_sh0 ho) rfl ((putS_gk0 o _ _ 9 9 rfl).trans (show bw4 t 0 9 = t 0 9 from bw3_n t (x := 0) 9 (by decide))) ?_
    refine aw_iload_n dX4_beginWriting_86 rfl ?_
    refine aw_S1x dX4_beginWriting_87 clX4_174 ⟨by decide, by decide⟩ (c_X8_earlyPosition ⟨by omega, by omega⟩) (by decide) (by decide) rfl rfl (by simp only [List.length_cons, List.length_nil]; omega) ?_
    refine aw_S2x dX4_beginWriting_90 clX4_168 ⟨by decide, by decide⟩ c_X8_cellOf (by decide) (by decide) rfl rfl (by simp only [List.length_cons, List.length_nil]; omega) ?_
    refine aw_putv dX4_beginWriting_93 ci7 (by decide) fX4_177 (by have := st_lt ho; omega) (st_sh ho 11) rfl rfl (Or.inl rfl) (putS_uk o _ _ 11 4 4 _ rfl) ?_
    change AW E _ _ _ _ _ _ (putS o hi (bw5 t)) hr 125 _
    refine aw_aload_n dX4_beginWriting_96 rfl ?_
    refine aw_getr (x := (o + 11)) dX4_beginWriting_97 ci4 (by decide) fX4_28 (by have := st_lt ho; omega) (st_sh0 ho) rfl (st_r0 ho hHR 2) ?_
    refine aw_aload_n dX4_beginWriting_100 rfl ?_
    refine aw_getv dX4_beginWriting_101 ci4 (by decide) fX4_76 (by have := st_lt ho; omega) (st_sh0 ho) rfl ((putS_gk0 o _ _ 9 9 rfl).trans (show bw5 t 0 9 = t 0 9 from bw3_n t (x := 0) 9 (by decide))) ?_
    refine aw_bipush dX4_beginWriting_104 (by decide) ?_
    refine aw_iload_n dX4_beginWriting_106 rfl ?_
    refine aw_iadd dX4_beginWriting_107 ?_
    refine aw_S2x dX4_beginWriting_108 clX4_168 ⟨by decide, by decide⟩ c_X8_cellOf (by decide) (by decide) rfl rfl (by simp only [List.length_cons, List.length_nil]; omega) ?_
    refine aw_putv dX4_beginWriting_111 ci7 (by decide) fX4_180 (by have := st_lt ho; omega) (st_sh ho 11) rfl rfl (Or.inl rfl) (putS_uk o _ _ 11 5 5 _ rfl) ?_
    change AW E _ _ _ _ _ _ (putS o hi (bw6 t)) hr 125 _
    refine aw_aload_n dX4_beginWriting_114 rfl ?_
    refine aw_getr (x := (o + 11)) dX4_beginWriting_115 ci4 (by decide) fX4_28 (by have := st_lt ho; omega) (st_sh0 ho) rfl (st_r0 ho hHR 2) ?_
    refine aw_aload_n dX4_beginWriting_118 rfl ?_
    refine aw_getr (x := (o + 13)) dX4_beginWriting_119 ci4 (by decide) fX4_39 (by have := st_lt ho; omega) (st_sh0 ho) rfl (st_r0 ho hHR 4) ?_
    refine aw_aload_n dX4_beginWriting_122 rfl ?_
    refine aw_getr (x := (o + 11)) dX4_beginWriting_123 ci4 (by decide) fX4_28 (by have := st_lt ho; omega) (st_sh0 ho) rfl (st_r0 ho hHR 2) ?_
    refine aw_getv dX4_beginWriting_126 ci7 (by decide) fX4_163 (by have := st_lt ho; omega) (st_sh ho 11) rfl ((putS_gk o _ _ 11 1 1 rfl).trans (show bw6 t 11 1 = lat (t 0 10) from rfl)) ?_
    refine aw_if_eq (tgt := 136) dX4_beginWriting_129 (by decide) hil (fun h129 => ?_) (fun h129 => ?_)
    · refine aw_iconst dX4_beginWriting_136 ?_
      have e : lat (t 0 10) = 0 := by omega
      rw [e] at J137
      exact J137
    · refine aw_iconst dX4_beginWriting_132 ?_
      refine aw_goto (tgt := 137) dX4_beginWriting_133 (by decide) ?_
      have e : lat (t 0 10) = 1 := by omega
      rw [e] at J137
      exact J137
  refine aw_gets dX4_beginWriting_0 (by decide) gsX4_153 ?_
  refine aw_aload_n dX4_beginWriting_3 rfl ?_
  refine aw_getv dX4_beginWriting_4 ci4 (by decide) fX4_80 (by have := st_lt ho; omega) (st_sh0 ho) rfl (putS_gk0 o _ _ 10 10 rfl) ?_
  refine aw_S2x dX4_beginWriting_7 clX4_156 ⟨by decide, by decide⟩ (c_WL ho hEN hX hn.1 hn.2) (by decide) (by decide) rfl rfl (by simp only [List.length_cons, List.length_nil]; omega) ?_
  refine aw_istore_n (ls2 := [_, _]) dX4_beginWriting_10 (by decide) rfl ?_
  refine aw_aload_n dX4_beginWriting_11 rfl ?_
  refine aw_getr (x := (o + 11)) dX4_beginWriting_12 ci4 (by decide) fX4_28 (by have := st_lt ho; omega) (st_sh0 ho) rfl (st_r0 ho hHR 2) ?_
  refine aw_iconst dX4_beginWriting_15 ?_
  refine aw_putv dX4_beginWriting_16 ci7 (by decide) fX4_105 (by have := st_lt ho; omega) (st_sh ho 11) rfl rfl (Or.inr ⟨rfl, Or.inr rfl⟩) (putS_uk o _ _ 11 0 0 _ rfl) ?_
  change AW E _ _ _ _ _ _ (putS o hi (bw1 t)) hr 125 _
  refine aw_aload_n dX4_beginWriting_19 rfl ?_
  refine aw_getr (x := (o + 11)) dX4_beginWriting_20 ci4 (by decide) fX4_28 (by have := st_lt ho; omega) (st_sh0 ho) rfl (st_r0 ho hHR 2) ?_
  refine aw_gets dX4_beginWriting_23 (by decide) gsX4_160 ?_
  refine aw_aload_n dX4_beginWriting_26 rfl ?_
  refine aw_getv dX4_beginWriting_27 ci4 (by decide) fX4_80 (by have := st_lt ho; omega) (st_sh0 ho) rfl ((putS_gk0 o _ _ 10 10 rfl).trans (show bw1 t 0 10 = t 0 10 from rfl)) ?_
  refine aw_S2x dX4_beginWriting_30 clX4_156 ⟨by decide, by decide⟩ (c_LA ho hEN hX hn.1 hn.2) (by decide) (by decide) rfl rfl (by simp only [List.length_cons, List.length_nil]; omega) ?_
  refine aw_iconst dX4_beginWriting_33 ?_
  refine aw_ic_ne (tgt := 41) dX4_beginWriting_34 (by decide) hil ⟨by decide, by decide⟩ (fun h34 => ?_) (fun h34 => ?_)
  · refine aw_iconst dX4_beginWriting_41 ?_
    have e : lat (t 0 10) = 0 := by omega
    rw [e] at J42
    exact J42
  · refine aw_iconst dX4_beginWriting_37 ?_
    refine aw_goto (tgt := 42) dX4_beginWriting_38 (by decide) ?_
    have e : lat (t 0 10) = 1 := by omega
    rw [e] at J42
    exact J42
end CLS4
