/-! the law: digits, a text of commands -/
section LAWT
variable {E : ET} {hi h0 : HI} {hr : HR} {l : Int}
set_option maxRecDepth 100000 in
set_option maxHeartbeats 4000000 in
theorem c_L_digits {v : Int} (hHR : HRk hr) (t : TYP h0 hi l) (hl : l + 3 ≤ 60) (v0 : 0 ≤ v) (v1 : v < 1000) : AMet E M_L_digits [aR 0, aI v] hi hr 125 (PI (fun w h r2 n2 => r2 = hr ∧ n2 = 125 ∧ w = 1 ∧ ∃ l2 : Int, l ≤ l2 ∧ l2 ≤ l + 3 ∧ TYP h0 h l2)) := by
  refine am_of (by decide +kernel) (Nat.le_of_ble_eq_true rfl) ?_
  have z0 := t.2.1.1
  rw [t.2.2] at z0
  have k3 : ∀ (h : HI) (l2 : Int), l ≤ l2 → l2 ≤ l + 2 → TYP h0 h l2 → AW E M_L_digits 0 0 53 [some (aR 0), some (aI v), some (aI 1)] [] h hr 125 (PI (fun w h r2 n2 => r2 = hr ∧ n2 = 125 ∧ w = 1 ∧ ∃ l2 : Int, l ≤ l2 ∧ l2 ≤ l + 3 ∧ TYP h0 h l2)) := by
    intro h l2 a b t2
    refine aw_aload_n dL_digits_53 rfl ?_
    refine aw_bipush dL_digits_54 (by decide) ?_
    refine aw_iload_n dL_digits_56 rfl ?_
    refine aw_bipush dL_digits_57 (by decide) ?_
    refine aw_irem dL_digits_59 (by omega) ⟨by omega, by omega⟩ (by decide) ⟨by decide, by decide⟩ ?_
    refine aw_iadd dL_digits_60 ?_
    refine aw_V1i dL_digits_61 clL_35 ⟨by decide, by decide⟩ (c := 8) (N := 5) (by decide) (by decide +kernel) rfl (t_type hHR t2 (by omega) (by omega) (by omega)) (by decide) (by decide) rfl rfl (by simp only [List.length_cons, List.length_nil]; omega) (fun v_61 h_61 r_61 n_61 q_61 => ?_)
    obtain ⟨rfl, rfl, e61, t61⟩ := q_61
    refine aw_if_le (tgt := 71) dL_digits_64 (by decide) ⟨by omega, by omega⟩ (fun h64 => ?_) (fun h64 => ?_)
    · exact absurd h64 (by omega)
    · refine aw_iconst dL_digits_67 ?_
      refine aw_goto (tgt := 72) dL_digits_68 (by decide) ?_
      refine aw_zret dL_digits_72 rfl (Or.inr rfl) (by decide) (by decide) ?_
      exact ⟨_, rfl, rfl, rfl, rfl, l2 + 1, by omega, by omega, t61⟩
  have k2 : ∀ (h : HI) (l2 : Int), l ≤ l2 → l2 ≤ l + 1 → TYP h0 h l2 → AW E M_L_digits 0 0 20 [some (aR 0), some (aI v), none] [] h hr 125 (PI (fun w h r2 n2 => r2 = hr ∧ n2 = 125 ∧ w = 1 ∧ ∃ l2 : Int, l ≤ l2 ∧ l2 ≤ l + 3 ∧ TYP h0 h l2)) := by
    intro h l2 a b t2
    refine aw_iload_n dL_digits_20 rfl ?_
    refine aw_bipush dL_digits_21 (by decide) ?_
    refine aw_ic_lt (tgt := 43) dL_digits_23 (by decide) ⟨by omega, by omega⟩ ⟨by decide, by decide⟩ (fun h23 => ?_) (fun h23 => ?_)
    · refine aw_iconst dL_digits_43 ?_
      refine aw_goto (tgt := 48) dL_digits_44 (by decide) ?_
      refine aw_istore_n (ls2 := [_, _, _]) dL_digits_48 (by decide) rfl ?_
      refine aw_iload_n dL_digits_49 rfl ?_
      refine aw_if_eq (tgt := 71) dL_digits_50 (by decide) ⟨by decide, by decide⟩ (fun h50 => ?_) (fun h50 => ?_)
      · exact absurd h50 (by decide)
      · exact k3 _ _ (by omega) (by omega) t2
    · refine aw_aload_n dL_digits_26 rfl ?_
      refine aw_bipush dL_digits_27 (by decide) ?_
      refine aw_iload_n dL_digits_29 rfl ?_
      refine aw_bipush dL_digits_30 (by decide) ?_
      refine aw_idiv dL_digits_32 (by omega) ⟨by omega, by omega⟩ (by decide) ⟨by decide, by decide⟩ ?_
      refine aw_bipush dL_digits_33 (by decide) ?_
      refine aw_irem dL_digits_35 (by omega) ⟨by omega, by omega⟩ (by decide) ⟨by decide, by decide⟩ ?_
      refine aw_iadd dL_digits_36 ?_
      refine aw_V1i dL_digits_37 clL_35 ⟨by decide, by decide⟩ (c := 8) (N := 5) (by decide) (by decide +kernel) rfl (t_type hHR t2 (by omega) (by omega) (by omega)) (by decide) (by decide) rfl rfl (by simp only [List.length_cons, List.length_nil]; omega) (fun v_37 h_37 r_37 n_37 q_37 => ?_)
      obtain ⟨rfl, rfl, e37, t37⟩ := q_37
      refine aw_if_le (tgt := 47) dL_digits_40 (by decide) ⟨by omega, by omega⟩ (fun h40 => ?_) (fun h40 => ?_)
      · exact absurd h40 (by omega)
      · refine aw_iconst dL_digits_43 ?_
        refine aw_goto (tgt := 48) dL_digits_44 (by decide) ?_
        refine aw_istore_n (ls2 := [_, _, _]) dL_digits_48 (by decide) rfl ?_
        refine aw_iload_n dL_digits_49 rfl ?_
        refine aw_if_eq (tgt := 71) dL_digits_50 (by decide) ⟨by decide, by decide⟩ (fun h50 => ?_) (fun h50 => ?_)
        · exact absurd h50 (by decide)
        · exact k3 _ _ (by omega) (by omega) t37
  refine aw_iload_n dL_digits_0 rfl ?_
  refine aw_bipush dL_digits_1 (by decide) ?_
  refine aw_ic_lt (tgt := 20) dL_digits_3 (by decide) ⟨by omega, by omega⟩ ⟨by decide, by decide⟩ (fun h3 => ?_) (fun h3 => ?_)
  · exact k2 _ _ (by omega) (by omega) t
  · refine aw_aload_n dL_digits_6 rfl ?_
    refine aw_bipush dL_digits_7 (by decide) ?_
    refine aw_iload_n dL_digits_9 rfl ?_
    refine aw_bipush dL_digits_10 (by decide) ?_
    refine aw_idiv dL_digits_12 (by omega) ⟨by omega, by omega⟩ (by decide) ⟨by decide, by decide⟩ ?_
    refine aw_iadd dL_digits_13 ?_
    refine aw_V1i dL_digits_14 clL_35 ⟨by decide, by decide⟩ (c := 8) (N := 5) (by decide) (by decide +kernel) rfl (t_type hHR t (by omega) (by omega) (by omega)) (by decide) (by decide) rfl rfl (by simp only [List.length_cons, List.length_nil]; omega) (fun v_14 h_14 r_14 n_14 q_14 => ?_)
    obtain ⟨rfl, rfl, e14, t14⟩ := q_14
    refine aw_if_le (tgt := 47) dL_digits_17 (by decide) ⟨by omega, by omega⟩ (fun h17 => ?_) (fun h17 => ?_)
    · exact absurd h17 (by omega)
    · exact k2 _ _ (by omega) (by omega) t14
theorem less_3 (a b c d e : AV) (f g h : Option AV) : ∀ (i : Nat) (v : AV), [some a, some b, some c, some d, some e, none, none, none][i]? = some (some v) → [some a, some b, some c, some d, some e, f, g, h][i]? = some (some v) := by
  intro i v hv
  match i, hv with
  | 0, hv => exact hv
  | 1, hv => exact hv
  | 2, hv => exact hv
  | 3, hv => exact hv
  | 4, hv => exact hv
  | 5, hv => cases hv
  | 6, hv => cases hv
  | 7, hv => cases hv
  | n + 8, hv => simp at hv
set_option maxRecDepth 100000 in
set_option maxHeartbeats 4000000 in
theorem types_body {x n k : Int} (hHR : HRk hr) (hn : n ≤ 5) (k0 : 0 ≤ k) (k1 : k < n) (t2 : TYP h0 hi l) (z : 0 ≤ l) (hl : l ≤ 9 * k)
    (J : ∀ (h : HI) (m : Int), 0 ≤ m → m ≤ 9 * (k + 1) → TYP h0 h m → AW E M_L_types 0 0 23 [some (aR 0), some (aI x), some (aI n), some (aI 1), some (aI (k + 1)), none, none, none] [] h hr 125 (PI (fun w h r2 n2 => r2 = hr ∧ n2 = 125 ∧ w = 1 ∧ ∃ l2 : Int, TYP h0 h l2))) : AW E M_L_types 0 0 29 [some (aR 0), some (aI x), some (aI n), some (aI 1), some (aI k), none, none, none] [] hi hr 125 (PI (fun w h r2 n2 => r2 = hr ∧ n2 = 125 ∧ w = 1 ∧ ∃ l2 : Int, TYP h0 h l2)) := by
  have k286 : ∀ (h : HI) (m : Int) (y w g : Int), 0 ≤ m → m ≤ 9 * k + 8 → TYP h0 h m → AW E M_L_types 0 0 286 [some (aR 0), some (aI x), some (aI n), some (aI 1), some (aI k), some (aI y), some (aI w), some (aI g)] [] h hr 125 (PI (fun w h r2 n2 => r2 = hr ∧ n2 = 125 ∧ w = 1 ∧ ∃ l2 : Int, TYP h0 h l2)) := by
    intro h m y w g z hm t2
    refine aw_iload_n dL_types_286 rfl ?_
    refine aw_if_eq (tgt := 323) dL_types_287 (by decide) ⟨by decide, by decide⟩ (fun h287 => ?_) (fun h287 => ?_)
    · exact absurd h287 (by decide)
    · refine aw_iload_n dL_types_290 rfl ?_
      refine aw_bipush dL_types_291 (by decide) ?_
      refine aw_shrX dL_types_293 (fun j293 j293r => ?_)
      refine aw_bipush dL_types_294 (by decide) ?_
      refine aw_S2i dL_types_296 clL_38 ⟨by decide, by decide⟩ (c_L_low (by decide) (by decide)) (by decide) (by decide) rfl rfl (by simp only [List.length_cons, List.length_nil]; omega) (fun v_296 h_296 r_296 n_296 q_296 => ?_)
      obtain ⟨rfl, rfl, rfl, e296, g296⟩ := q_296
      refine aw_if_ne (tgt := 310) dL_types_299 (by decide) ⟨by omega, by omega⟩ (fun h299 => ?_) (fun h299 => ?_)
      · refine aw_aload_n dL_types_310 rfl ?_
        refine aw_bipush dL_types_311 (by decide) ?_
        refine aw_V1i dL_types_313 clL_35 ⟨by decide, by decide⟩ (c := 8) (N := 5) (by decide) (by decide +kernel) rfl (t_type hHR t2 (by omega) (by decide) (by decide)) (by decide) (by decide) rfl rfl (by simp only [List.length_cons, List.length_nil]; omega) (fun v_313 h_313 r_313 n_313 q_313 => ?_)
        obtain ⟨rfl, rfl, e313, t313⟩ := q_313
        refine aw_if_le (tgt := 323) dL_types_316 (by decide) ⟨by omega, by omega⟩ (fun h316 => ?_) (fun h316 => ?_)
        · exact absurd h316 (by omega)
        · refine aw_iconst dL_types_319 ?_
          refine aw_goto (tgt := 324) dL_types_320 (by decide) ?_
          refine aw_istore_n (ls2 := [_, _, _, _, _, _, _, _]) dL_types_324 (by decide) rfl ?_
          refine aw_iinc (ls2 := [_, _, _, _, _, _, _, _]) dL_types_325 rfl (by decide) rfl ?_
          refine aw_goto (tgt := 23) dL_types_328 (by decide) ?_
          refine aw_less (ls2 := [some (aR 0), some (aI x), some (aI n), some (aI 1), some (aI (k + 1)), none, none, none]) rfl (less_3 _ _ _ _ _ _ _ _) ?_
          exact J _ _ (by omega) (by omega) t313
      · refine aw_iload dL_types_302 rfl ?_
        refine aw_iload_n dL_types_304 rfl ?_
        refine aw_iconst dL_types_305 ?_
        refine aw_isub dL_types_306 ?_
        refine aw_ic_eq (tgt := 319) dL_types_307 (by decide) ⟨by omega, by omega⟩ ⟨by omega, by omega⟩ (fun h307 => ?_) (fun h307 => ?_)
        · refine aw_iconst dL_types_319 ?_
          refine aw_goto (tgt := 324) dL_types_320 (by decide) ?_
          refine aw_istore_n (ls2 := [_, _, _, _, _, _, _, _]) dL_types_324 (by decide) rfl ?_
          refine aw_iinc (ls2 := [_, _, _, _, _, _, _, _]) dL_types_325 rfl (by decide) rfl ?_
          refine aw_goto (tgt := 23) dL_types_328 (by decide) ?_
          refine aw_less (ls2 := [some (aR 0), some (aI x), some (aI n), some (aI 1), some (aI (k + 1)), none, none, none]) rfl (less_3 _ _ _ _ _ _ _ _) ?_
          exact J _ _ (by omega) (by omega) t2
        · refine aw_aload_n dL_types_310 rfl ?_
          refine aw_bipush dL_types_311 (by decide) ?_
          refine aw_V1i dL_types_313 clL_35 ⟨by decide, by decide⟩ (c := 8) (N := 5) (by decide) (by decide +kernel) rfl (t_type hHR t2 (by omega) (by decide) (by decide)) (by decide) (by decide) rfl rfl (by simp only [List.length_cons, List.length_nil]; omega) (fun v_313 h_313 r_313 n_313 q_313 => ?_)
          obtain ⟨rfl, rfl, e313, t313⟩ := q_313
          refine aw_if_le (tgt := 323) dL_types_316 (by decide) ⟨by omega, by omega⟩ (fun h316 => ?_) (fun h316 => ?_)
          · exact absurd h316 (by omega)
          · refine aw_iconst dL_types_319 ?_
            refine aw_goto (tgt := 324) dL_types_320 (by decide) ?_
            refine aw_istore_n (ls2 := [_, _, _, _, _, _, _, _]) dL_types_324 (by decide) rfl ?_
            refine aw_iinc (ls2 := [_, _, _, _, _, _, _, _]) dL_types_325 rfl (by decide) rfl ?_
            refine aw_goto (tgt := 23) dL_types_328 (by decide) ?_
            refine aw_less (ls2 := [some (aR 0), some (aI x), some (aI n), some (aI 1), some (aI (k + 1)), none, none, none]) rfl (less_3 _ _ _ _ _ _ _ _) ?_
            exact J _ _ (by omega) (by omega) t313
  have k136 : ∀ (h : HI) (m : Int) (y w g : Int), 32 ≤ g → g ≤ 126 → TYP h0 h m → 0 ≤ m → m ≤ 9 * k → 0 ≤ w ∧ w < 10 → AW E M_L_types 0 0 136 [some (aR 0), some (aI x), some (aI n), some (aI 1), some (aI k), some (aI y), some (aI w), none] [aI g] h hr 125 (PI (fun w h r2 n2 => r2 = hr ∧ n2 = 125 ∧ w = 1 ∧ ∃ l2 : Int, TYP h0 h l2)) := by
    intro h m y w g g0 g1 t2 z hm iw
    refine aw_istore (ls2 := [_, _, _, _, _, _, _, _]) dL_types_136 (by decide) rfl ?_
    refine aw_iload_n dL_types_138 rfl ?_
    refine aw_if_eq (tgt := 155) dL_types_139 (by decide) ⟨by decide, by decide⟩ (fun h139 => ?_) (fun h139 => ?_)
    · exact absurd h139 (by decide)
    · refine aw_aload_n dL_types_142 rfl ?_
      refine aw_iload dL_types_143 rfl ?_
      refine aw_V1i dL_types_145 clL_35 ⟨by decide, by decide⟩ (c := 8) (N := 5) (by decide) (by decide +kernel) rfl (t_type hHR t2 (by omega) (by omega) (by omega)) (by decide) (by decide) rfl rfl (by simp only [List.length_cons, List.length_nil]; omega) (fun v_145 h_145 r_145 n_145 q_145 => ?_)
      obtain ⟨rfl, rfl, e145, t145⟩ := q_145
      refine aw_if_le (tgt := 155) dL_types_148 (by decide) ⟨by omega, by omega⟩ (fun h148 => ?_) (fun h148 => ?_)
      · exact absurd h148 (by omega)
      · refine aw_iconst dL_types_151 ?_
        refine aw_goto (tgt := 156) dL_types_152 (by decide) ?_
        refine aw_istore_n (ls2 := [_, _, _, _, _, _, _, _]) dL_types_156 (by decide) rfl ?_
        refine aw_iload dL_types_157 rfl ?_
        refine aw_iconst dL_types_159 ?_
        refine aw_ic_ge (tgt := 218) dL_types_160 (by decide) ⟨by omega, by omega⟩ ⟨by decide, by decide⟩ (fun h160 => ?_) (fun h160 => ?_)
        · refine aw_iload dL_types_218 rfl ?_
          refine aw_bipush dL_types_220 (by decide) ?_
          refine aw_ic_ge (tgt := 254) dL_types_222 (by decide) ⟨by omega, by omega⟩ ⟨by decide, by decide⟩ (fun h222 => ?_) (fun h222 => ?_)
          · refine aw_iload dL_types_254 rfl ?_
            refine aw_bipush dL_types_256 (by decide) ?_
            refine aw_ic_ne (tgt := 286) dL_types_258 (by decide) ⟨by omega, by omega⟩ ⟨by decide, by decide⟩ (fun h258 => ?_) (fun h258 => ?_)
            · exact k286 _ _ _ _ _ (by omega) (by omega) t145
            · refine aw_iload_n dL_types_261 rfl ?_
              refine aw_if_eq (tgt := 284) dL_types_262 (by decide) ⟨by decide, by decide⟩ (fun h262 => ?_) (fun h262 => ?_)
              · exact absurd h262 (by decide)
              · refine aw_aload_n dL_types_265 rfl ?_
                refine aw_iload dL_types_266 rfl ?_
                refine aw_iconst dL_types_268 ?_
                refine aw_shrX dL_types_269 (fun j269 j269r => ?_)
                refine aw_iconst dL_types_270 ?_
                refine aw_S2i dL_types_271 clL_38 ⟨by decide, by decide⟩ (c_L_low (by decide) (by decide)) (by decide) (by decide) rfl rfl (by simp only [List.length_cons, List.length_nil]; omega) (fun v_271 h_271 r_271 n_271 q_271 => ?_)
                obtain ⟨rfl, rfl, rfl, e271, g271⟩ := q_271
                refine aw_S2i dL_types_274 clL_45 ⟨by decide, by decide⟩ (c_L_digits hHR t145 (by omega) (by omega) (by omega)) (by decide) (by decide) rfl rfl (by simp only [List.length_cons, List.length_nil]; omega) (fun v_274 h_274 r_274 n_274 q_274 => ?_)
                obtain ⟨rfl, rfl, rfl, m274, a274, b274, t274⟩ := q_274
                refine aw_if_eq (tgt := 284) dL_types_277 (by decide) ⟨by decide, by decide⟩ (fun h277 => ?_) (fun h277 => ?_)
                · exact absurd h277 (by decide)
                · refine aw_iconst dL_types_280 ?_
                  refine aw_goto (tgt := 285) dL_types_281 (by decide) ?_
                  refine aw_istore_n (ls2 := [_, _, _, _, _, _, _, _]) dL_types_285 (by decide) rfl ?_
                  exact k286 _ _ _ _ _ (by omega) (by omega) t274
          · refine aw_iload_n dL_types_225 rfl ?_
            refine aw_if_eq (tgt := 249) dL_types_226 (by decide) ⟨by decide, by decide⟩ (fun h226 => ?_) (fun h226 => ?_)
            · exact absurd h226 (by decide)
            · refine aw_aload_n dL_types_229 rfl ?_
              refine aw_iload dL_types_230 rfl ?_
              refine aw_iconst dL_types_232 ?_
              refine aw_shrX dL_types_233 (fun j233 j233r => ?_)
              refine aw_bipush dL_types_234 (by decide) ?_
              refine aw_S2i dL_types_236 clL_38 ⟨by decide, by decide⟩ (c_L_low (by decide) (by decide)) (by decide) (by decide) rfl rfl (by simp only [List.length_cons, List.length_nil]; omega) (fun v_236 h_236 r_236 n_236 q_236 => ?_)
              obtain ⟨rfl, rfl, rfl, e236, g236⟩ := q_236
              refine aw_S2i dL_types_239 clL_45 ⟨by decide, by decide⟩ (c_L_digits hHR t145 (by omega) (by omega) (by omega)) (by decide) (by decide) rfl rfl (by simp only [List.length_cons, List.length_nil]; omega) (fun v_239 h_239 r_239 n_239 q_239 => ?_)
              obtain ⟨rfl, rfl, rfl, m239, a239, b239, t239⟩ := q_239
              refine aw_if_eq (tgt := 249) dL_types_242 (by decide) ⟨by decide, by decide⟩ (fun h242 => ?_) (fun h242 => ?_)
              · exact absurd h242 (by decide)
              · refine aw_iconst dL_types_245 ?_
                refine aw_goto (tgt := 250) dL_types_246 (by decide) ?_
                refine aw_istore_n (ls2 := [_, _, _, _, _, _, _, _]) dL_types_250 (by decide) rfl ?_
                refine aw_goto (tgt := 286) dL_types_251 (by decide) ?_
                exact k286 _ _ _ _ _ (by omega) (by omega) t239
        · refine aw_iload_n dL_types_163 rfl ?_
          refine aw_if_eq (tgt := 213) dL_types_164 (by decide) ⟨by decide, by decide⟩ (fun h164 => ?_) (fun h164 => ?_)
          · exact absurd h164 (by decide)
          · refine aw_aload_n dL_types_167 rfl ?_
            refine aw_iload dL_types_168 rfl ?_
            refine aw_iconst dL_types_170 ?_
            refine aw_shrX dL_types_171 (fun j171 j171r => ?_)
            refine aw_bipush dL_types_172 (by decide) ?_
            refine aw_S2i dL_types_174 clL_38 ⟨by decide, by decide⟩ (c_L_low (by decide) (by decide)) (by decide) (by decide) rfl rfl (by simp only [List.length_cons, List.length_nil]; omega) (fun v_174 h_174 r_174 n_174 q_174 => ?_)
            obtain ⟨rfl, rfl, rfl, e174, g174⟩ := q_174
            refine aw_S2i dL_types_177 clL_45 ⟨by decide, by decide⟩ (c_L_digits hHR t145 (by omega) (by omega) (by omega)) (by decide) (by decide) rfl rfl (by simp only [List.length_cons, List.length_nil]; omega) (fun v_177 h_177 r_177 n_177 q_177 => ?_)
            obtain ⟨rfl, rfl, rfl, m177, a177, b177, t177⟩ := q_177
            refine aw_if_eq (tgt := 213) dL_types_180 (by decide) ⟨by decide, by decide⟩ (fun h180 => ?_) (fun h180 => ?_)
            · exact absurd h180 (by decide)
            · refine aw_aload_n dL_types_183 rfl ?_
              refine aw_bipush dL_types_184 (by decide) ?_
              refine aw_V1i dL_types_186 clL_35 ⟨by decide, by decide⟩ (c := 8) (N := 5) (by decide) (by decide +kernel) rfl (t_type hHR t177 (by omega) (by decide) (by decide)) (by decide) (by decide) rfl rfl (by simp only [List.length_cons, List.length_nil]; omega) (fun v_186 h_186 r_186 n_186 q_186 => ?_)
              obtain ⟨rfl, rfl, e186, t186⟩ := q_186
              refine aw_if_le (tgt := 213) dL_types_189 (by decide) ⟨by omega, by omega⟩ (fun h189 => ?_) (fun h189 => ?_)
              · exact absurd h189 (by omega)
              · refine aw_aload_n dL_types_192 rfl ?_
                refine aw_iload dL_types_193 rfl ?_
                refine aw_iconst dL_types_195 ?_
                refine aw_shrX dL_types_196 (fun j196 j196r => ?_)
                refine aw_sipush dL_types_197 (by decide) ?_
                refine aw_S2i dL_types_200 clL_38 ⟨by decide, by decide⟩ (c_L_low (by decide) (by decide)) (by decide) (by decide) rfl rfl (by simp only [List.length_cons, List.length_nil]; omega) (fun v_200 h_200 r_200 n_200 q_200 => ?_)
                obtain ⟨rfl, rfl, rfl, e200, g200⟩ := q_200
                refine aw_S2i dL_types_203 clL_45 ⟨by decide, by decide⟩ (c_L_digits hHR t186 (by omega) (by omega) (by omega)) (by decide) (by decide) rfl rfl (by simp only [List.length_cons, List.length_nil]; omega) (fun v_203 h_203 r_203 n_203 q_203 => ?_)
                obtain ⟨rfl, rfl, rfl, m203, a203, b203, t203⟩ := q_203
                refine aw_if_eq (tgt := 213) dL_types_206 (by decide) ⟨by decide, by decide⟩ (fun h206 => ?_) (fun h206 => ?_)
                · exact absurd h206 (by decide)
                · refine aw_iconst dL_types_209 ?_
                  refine aw_goto (tgt := 214) dL_types_210 (by decide) ?_
                  refine aw_istore_n (ls2 := [_, _, _, _, _, _, _, _]) dL_types_214 (by decide) rfl ?_
                  refine aw_goto (tgt := 286) dL_types_215 (by decide) ?_
                  exact k286 _ _ _ _ _ (by omega) (by omega) t203
  refine aw_iload_n dL_types_29 rfl ?_
  refine aw_iconst dL_types_30 ?_
  refine aw_iconst dL_types_31 ?_
  refine aw_iload dL_types_32 rfl ?_
  refine aw_imul dL_types_34 ?_
  refine aw_iadd dL_types_35 ?_
  refine aw_shrX dL_types_36 (fun j36 j36r => ?_)
  refine aw_istore (ls2 := [_, _, _, _, _, _, _, _]) dL_types_37 (by decide) rfl ?_
  refine aw_iload dL_types_39 rfl ?_
  refine aw_bipush dL_types_41 (by decide) ?_
  refine aw_S2i dL_types_43 clL_38 ⟨by decide, by decide⟩ (c_L_low (by decide) (by decide)) (by decide) (by decide) rfl rfl (by simp only [List.length_cons, List.length_nil]; omega) (fun v_43 h_43 r_43 n_43 q_43 => ?_)
  obtain ⟨rfl, rfl, rfl, e43, g43⟩ := q_43
  refine aw_istore (ls2 := [_, _, _, _, _, _, _, _]) dL_types_46 (by decide) rfl ?_
  refine aw_iload dL_types_48 rfl ?_
  refine aw_iconst dL_types_50 ?_
  refine aw_ic_ge (tgt := 59) dL_types_51 (by decide) ⟨by omega, by omega⟩ ⟨by decide, by decide⟩ (fun h51 => ?_) (fun h51 => ?_)
  · refine aw_iload dL_types_59 rfl ?_
    refine aw_iconst dL_types_61 ?_
    refine aw_ic_ne (tgt := 70) dL_types_62 (by decide) ⟨by omega, by omega⟩ ⟨by decide, by decide⟩ (fun h62 => ?_) (fun h62 => ?_)
    · refine aw_iload dL_types_70 rfl ?_
      refine aw_bipush dL_types_72 (by decide) ?_
      refine aw_ic_ge (tgt := 82) dL_types_74 (by decide) ⟨by omega, by omega⟩ ⟨by decide, by decide⟩ (fun h74 => ?_) (fun h74 => ?_)
      · refine aw_iload dL_types_82 rfl ?_
        refine aw_bipush dL_types_84 (by decide) ?_
        refine aw_ic_ne (tgt := 94) dL_types_86 (by decide) ⟨by omega, by omega⟩ ⟨by decide, by decide⟩ (fun h86 => ?_) (fun h86 => ?_)
        · refine aw_iload dL_types_94 rfl ?_
          refine aw_bipush dL_types_96 (by decide) ?_
          refine aw_ic_ne (tgt := 106) dL_types_98 (by decide) ⟨by omega, by omega⟩ ⟨by decide, by decide⟩ (fun h98 => ?_) (fun h98 => ?_)
          · refine aw_iload dL_types_106 rfl ?_
            refine aw_bipush dL_types_108 (by decide) ?_
            refine aw_ic_ne (tgt := 118) dL_types_110 (by decide) ⟨by omega, by omega⟩ ⟨by decide, by decide⟩ (fun h110 => ?_) (fun h110 => ?_)
            · refine aw_iload dL_types_118 rfl ?_
              refine aw_iconst dL_types_120 ?_
              refine aw_shrX dL_types_121 (fun j121 j121r => ?_)
              refine aw_iconst dL_types_122 ?_
              refine aw_S2i dL_types_123 clL_38 ⟨by decide, by decide⟩ (c_L_low (by decide) (by decide)) (by decide) (by decide) rfl rfl (by simp only [List.length_cons, List.length_nil]; omega) (fun v_123 h_123 r_123 n_123 q_123 => ?_)
              obtain ⟨rfl, rfl, rfl, e123, g123⟩ := q_123
              refine aw_if_ne (tgt := 134) dL_types_126 (by decide) ⟨by omega, by omega⟩ (fun h126 => ?_) (fun h126 => ?_)
              · refine aw_bipush dL_types_134 (by decide) ?_
                exact k136 _ _ _ _ _ (by decide) (by decide) t2 (by omega) (by omega) ⟨e43, g43⟩
              · refine aw_bipush dL_types_129 (by decide) ?_
                refine aw_goto (tgt := 136) dL_types_131 (by decide) ?_
                exact k136 _ _ _ _ _ (by decide) (by decide) t2 (by omega) (by omega) ⟨e43, g43⟩
            · refine aw_bipush dL_types_113 (by decide) ?_
              refine aw_goto (tgt := 136) dL_types_115 (by decide) ?_
              exact k136 _ _ _ _ _ (by decide) (by decide) t2 (by omega) (by omega) ⟨e43, g43⟩
          · refine aw_bipush dL_types_101 (by decide) ?_
            refine aw_goto (tgt := 136) dL_types_103 (by decide) ?_
            exact k136 _ _ _ _ _ (by decide) (by decide) t2 (by omega) (by omega) ⟨e43, g43⟩
        · refine aw_bipush dL_types_89 (by decide) ?_
          refine aw_goto (tgt := 136) dL_types_91 (by decide) ?_
          exact k136 _ _ _ _ _ (by decide) (by decide) t2 (by omega) (by omega) ⟨e43, g43⟩
      · refine aw_bipush dL_types_77 (by decide) ?_
        refine aw_goto (tgt := 136) dL_types_79 (by decide) ?_
        exact k136 _ _ _ _ _ (by decide) (by decide) t2 (by omega) (by omega) ⟨e43, g43⟩
    · refine aw_bipush dL_types_65 (by decide) ?_
      refine aw_goto (tgt := 136) dL_types_67 (by decide) ?_
      exact k136 _ _ _ _ _ (by decide) (by decide) t2 (by omega) (by omega) ⟨e43, g43⟩
  · refine aw_bipush dL_types_54 (by decide) ?_
    refine aw_goto (tgt := 136) dL_types_56 (by decide) ?_
    exact k136 _ _ _ _ _ (by decide) (by decide) t2 (by omega) (by omega) ⟨e43, g43⟩
set_option maxRecDepth 100000 in
set_option maxHeartbeats 4000000 in
theorem c_L_types {x : Int} (hHR : HRk hr) (t : TYP h0 hi l) : AMet E M_L_types [aR 0, aI x] hi hr 125 (PI (fun w h r2 n2 => r2 = hr ∧ n2 = 125 ∧ w = 1 ∧ ∃ l2 : Int, TYP h0 h l2)) := by
  refine am_of (by decide +kernel) (Nat.le_of_ble_eq_true rfl) ?_
  have z0 := t.2.1.1
  have z1 := t.2.1.2.1
  rw [t.2.2] at z0 z1
  have loop : ∀ (n : Int), 0 ≤ n → n < 6 → ∀ (d k : Nat) (h : HI) (m : Int), (k : Int) + d = 6 → k ≤ 6 → 0 ≤ m → m ≤ 9 * (k : Int) → TYP h0 h m → AW E M_L_types 0 0 23 [some (aR 0), some (aI x), some (aI n), some (aI 1), some (aI (k : Int)), none, none, none] [] h hr 125 (PI (fun w h r2 n2 => r2 = hr ∧ n2 = 125 ∧ w = 1 ∧ ∃ l2 : Int, TYP h0 h l2)) := by
    intro n n0 n1 d
    induction d with
    | zero =>
      intro k h m hd hk z hl t2
      refine aw_iload dL_types_23 rfl ?_
      refine aw_iload_n dL_types_25 rfl ?_
      refine aw_ic_ge (tgt := 331) dL_types_26 (by decide) ⟨by omega, by omega⟩ ⟨by omega, by omega⟩ (fun h26 => ?_) (fun h26 => ?_)
      · refine aw_iload_n dL_types_331 rfl ?_
        refine aw_zret dL_types_332 rfl (Or.inr rfl) (by decide) (by decide) ?_
        exact ⟨_, rfl, rfl, rfl, rfl, _, t2⟩
      · exact absurd h26 (by omega)
    | succ d ih =>
      intro k h m hd hk z hl t2
      refine aw_iload dL_types_23 rfl ?_
      refine aw_iload_n dL_types_25 rfl ?_
      refine aw_ic_ge (tgt := 331) dL_types_26 (by decide) ⟨by omega, by omega⟩ ⟨by omega, by omega⟩ (fun h26 => ?_) (fun h26 => ?_)
      · refine aw_iload_n dL_types_331 rfl ?_
        refine aw_zret dL_types_332 rfl (Or.inr rfl) (by decide) (by decide) ?_
        exact ⟨_, rfl, rfl, rfl, rfl, _, t2⟩
      · exact types_body hHR (by omega) (by omega) (by omega) t2 z hl (fun h m m0 m1 t3 => by
          have g := ih (k + 1) h m (by omega) (by omega) m0 (by omega) t3
          have e : ((k + 1 : Nat) : Int) = (k : Int) + 1 := by omega
          rw [e] at g
          exact g)
  refine aw_iload_n dL_types_0 rfl ?_
  refine aw_bipush dL_types_1 (by decide) ?_
  refine aw_S2i dL_types_3 clL_38 ⟨by decide, by decide⟩ (c_L_low (by decide) (by decide)) (by decide) (by decide) rfl rfl (by simp only [List.length_cons, List.length_nil]; omega) (fun v_3 h_3 r_3 n_3 q_3 => ?_)
  obtain ⟨rfl, rfl, rfl, e3, g3⟩ := q_3
  refine aw_istore_n (ls2 := [_, _, _, _, _, _, _, _]) dL_types_6 (by decide) rfl ?_
  refine aw_aload_n dL_types_7 rfl ?_
  refine aw_V0i dL_types_8 clL_41 ⟨by decide, by decide⟩ (c := 8) (N := 5) (by decide) (by decide +kernel) rfl (t_clear hHR t) (by decide) (by decide) rfl rfl (by simp only [List.length_cons, List.length_nil]; omega) (fun v_8 h_8 r_8 n_8 q_8 => ?_)
  obtain ⟨rfl, rfl, e8, t8⟩ := q_8
  refine aw_if_lt (tgt := 18) dL_types_11 (by decide) ⟨by omega, by omega⟩ (fun h11 => ?_) (fun h11 => ?_)
  · exact absurd h11 (by omega)
  · refine aw_iconst dL_types_14 ?_
    refine aw_goto (tgt := 19) dL_types_15 (by decide) ?_
    refine aw_istore_n (ls2 := [_, _, _, _, _, _, _, _]) dL_types_19 (by decide) rfl ?_
    refine aw_iconst dL_types_20 ?_
    refine aw_istore (ls2 := [_, _, _, _, _, _, _, _]) dL_types_21 (by decide) rfl ?_
    exact loop _ (by omega) (by omega) 6 0 _ _ (by decide) (by decide) (by decide) (by decide) t8
end LAWT
