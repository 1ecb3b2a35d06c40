/-! the relation: a tick, and many in one step -/
theorem fn1_2 {t : TS} {pc : Int} (e3 : t 11 3 = pc) (hpc : 0 ≤ pc ∧ pc < 48) (y : Int) : fn1 t 2 y = if y = pc then 2 else t 2 y := by
  unfold fn1
  have e : fn0 t 11 3 = pc := by unfold fn0; rw [ut_n _ _ (by decide)]; exact e3
  rw [e, mkC_at _ _ hpc]
  unfold fn0
  rw [ut_n _ _ (by simp)]
theorem fn3_2 {t : TS} {pc bc : Int} (e3 : t 11 3 = pc) (e5 : t 11 5 = bc) (hpc : 0 ≤ pc ∧ pc < 48) (hbc : 0 ≤ bc ∧ bc < 48) (y : Int) : fn3 t 2 y = if ¬ t 11 1 = 0 ∧ y = bc then 0 else if y = pc then 2 else t 2 y := by
  have e1 : fn1 t 11 1 = t 11 1 := fn1_n _ _ (by decide) (by decide)
  have e5' : fn1 t 11 5 = bc := by rw [fn1_n _ _ (by decide) (by decide)]; exact e5
  unfold fn3
  rw [e1]
  by_cases c : t 11 1 = 0
  · rw [if_pos c, if_neg (fun g => g.1 c), fn1_2 e3 hpc]
  · rw [if_neg c]
    unfold fn2
    rw [e5', mkC_at _ _ hbc, fn1_2 e3 hpc]
    by_cases d : y = bc
    · rw [if_pos d, if_pos ⟨c, d⟩]
    · rw [if_neg d, if_neg (show ¬ (¬ t 11 1 = 0 ∧ y = bc) from fun g => d g.2)]
theorem fnC_n (t : TS) {x : Nat} (y : Int) (h : ¬ (x = 12 ∧ y = 2)) : fnC t x y = fn3 t x y := by
  unfold fnC; split
  · exact ut_n _ _ h
  · rfl
theorem fn3_0 (t : TS) : fn3 t 11 0 = 0 := by
  unfold fn3; split
  · unfold fn1 fn0; rw [mkC_n _ _ _ _ (by decide), ut_s]
  · unfold fn2; rw [mkC_n _ _ _ _ (by decide)]; unfold fn1 fn0; rw [mkC_n _ _ _ _ (by decide), ut_s]
theorem fnC_2 (t : TS) : fnC t 12 2 = t 12 2 + if t 11 2 = 1 ∨ t 11 2 = 2 then 1 else 0 := by
  have e : fn3 t 11 2 = t 11 2 := fn3_n _ _ (by decide) (by decide)
  have e2 : fn3 t 12 2 = t 12 2 := fn3_n _ _ (by decide) (by decide)
  unfold fnC
  rw [e]
  split
  · rw [ut_s, e2]
  · rw [e2, Int.add_zero]
theorem Rl.tick {t : TS} {s : Int → Int} (h : Rl t s) (hw : iwF s = 1) : Rl (gnC t 1) (ti2 s) := by
  have hM := h.1.1
  have hL := h.1.2
  have hb := hM.2.1
  have p1 := hM.2.2.2.1
  have p0 := hM.z 248 (by unfold xc; omega)
  have z3 := hM.z 253 (by unfold xc; omega)
  have z4 := hM.z 254 (by unfold xc; omega)
  have hl := lin_b p0 (by omega)
  have hW := h.2.2.2.2.2.1
  obtain ⟨a1, a2, a3, a4, a5, a6, a7, a8, a9, a10, a11, a12, a13, a14, a15, a16⟩ := hW.2.1 hw
  have h5 := h.2.1.2.2
  have M2 := (ti2_M hM).1
  have L2 := (ti2_L hM hL).1
  have g5 : gn1 t 1 11 5 = 24 * s 2 + (16 + lin (s 248)) := by rw [gn1_n _ _ _ (by decide)]; exact a5
  have g6 : gn1 t 1 11 6 = t 11 6 := gn1_n _ _ _ (by decide)
  have g7 : gn1 t 1 11 7 = s 253 + s 254 - 1 := by unfold gn1; rw [ut_s, a6]
  have gk : kdF (gn1 t 1) (24 * s 2 + (16 + lin (s 248))) = t 2 (24 * s 2 + (16 + lin (s 248))) := by rw [kd_in _ (by omega) (by omega), gn1_n _ _ _ (by simp)]
  by_cases c3 : 0 < s 253
  · have kb := a16 c3
    have e54 := a8 c3
    by_cases c1 : s 253 = 1
    · -- the backup is made
      have e4 : gn4 t 1 = gn3 (gn1 t 1) := by unfold gn4; rw [g5, g6, g7, gk]; exact if_pos ⟨kb, by omega⟩
      have e : gnC t 1 = gn3 (gn1 t 1) := by
        unfold gnC
        rw [gn4_7, e4, if_neg (by omega)]
      have et : ti2 s = up1 (up1 (up1 s 253 (s 253 - 1)) (152 + 4 * (8 * s 2 + lin (s 248))) 2) 9 (s 9 + 1) := by
        unfold ti2
        have x2 : up1 s 253 (s 253 - 1) 2 = s 2 := up1_n _ _ (by decide)
        have x8 : up1 s 253 (s 253 - 1) 248 = s 248 := up1_n _ _ (by decide)
        have x9 : up1 (up1 s 253 (s 253 - 1)) (152 + 4 * (8 * s 2 + lin (s 248))) 2 9 = s 9 := by rw [up1_n _ _ (by omega), up1_n _ _ (by decide)]
        rw [if_pos c3]
        dsimp only
        rw [if_pos (by rw [up1_s]; omega), x2, x8, x9]
      rw [et] at M2 ⊢
      rw [e]
      refine h.made M2 hw c1 (fun x y q1 q2 q3 => ?_) (fun y => ?_) ?_ ?_ (fun x q1 q2 q3 => ?_) ?_ ?_ ?_
      · rw [gn3_n _ _ q2 q3, gn1_n _ _ _ q1]
      · unfold gn3 gn2; rw [ut_n _ _ (by simp), g5, mkC_at _ _ ⟨by omega, by omega⟩, gn1_n _ _ _ (by simp)]
      · rw [gn3_n _ _ (by decide) (by decide), g7]; omega
      · unfold gn3 gn2; rw [ut_s, mkC_n _ _ _ _ (by decide), gn1_n _ _ _ (by decide)]
      · rw [up1_n _ _ q2, up1_n _ _ q3, up1_n _ _ q1]
      · rw [up1_n _ _ (by decide), up1_n _ _ (by omega), up1_s]; omega
      · rw [up1_s]
      · rw [up1_n _ _ (by omega), up1_s]
    · have e4 : gn4 t 1 = gn1 t 1 := by unfold gn4; rw [g5, g6, g7, gk]; exact if_neg (fun g => by have := g.2; omega)
      have e : gnC t 1 = gn1 t 1 := by
        unfold gnC
        rw [gn4_7, e4, if_neg (by omega)]
      have et : ti2 s = up1 s 253 (s 253 - 1) := by
        unfold ti2
        rw [if_pos c3]
        dsimp only
        rw [if_neg (by rw [up1_s]; omega)]
      rw [et] at M2 L2 ⊢
      rw [e]
      have x3 : up1 s 253 (s 253 - 1) 253 = s 253 - 1 := up1_s _ _ _
      have x4 : up1 s 253 (s 253 - 1) 254 = s 254 := up1_n _ _ (by decide)
      have x5 : up1 s 253 (s 253 - 1) 255 = s 255 := up1_n _ _ (by decide)
      exact h.left M2 (fun x y q => gn1_n _ _ _ q) (fun x q1 q2 q3 => up1_n _ _ q1) hw (by rw [g7, x3, x4]; omega) (by rw [x4]; exact a7) (fun _ => by rw [x4]; exact e54) (by rw [x4]; exact a9) (by rw [x4, x5]; exact a10) (by rw [x3]; omega) L2
  · have nk : ¬ t 2 (24 * s 2 + (16 + lin (s 248))) = 1 := fun g => c3 ((hW.2.2 _ (by omega) (by omega) (by omega) g).2.1)
    have e4 : gn4 t 1 = gn1 t 1 := by unfold gn4; rw [g5, g6, g7, gk]; exact if_neg (fun g => nk g.1)
    have x4 : up1 (up1 s 254 (s 254 - 1)) 255 1 254 = s 254 - 1 := by rw [up1_n _ _ (by decide), up1_s]
    by_cases c1 : s 254 = 1
    · have e : gnC t 1 = fnC (gn1 t 1) := by
        unfold gnC
        rw [gn4_7, e4, if_pos (by omega)]
      have et : ti2 s = enF (up1 (up1 s 254 (s 254 - 1)) 255 1) := by
        unfold ti2
        rw [if_neg c3, if_pos (by omega)]
        dsimp only
        rw [if_pos (by rw [x4]; omega)]
      have mu : MI (up1 (up1 s 254 (s 254 - 1)) 255 1) := (hM.far (k := 254) (by omega) (by omega) (by omega) (by have := hM.b 254 (by unfold xc; omega); omega)).far (by omega) (by omega) (by omega) (by unfold BIG; omega)
      rw [et, e]
      have g3 : gn1 t 1 11 3 = 24 * s 2 + s 248 := by rw [gn1_n _ _ _ (by decide)]; exact a3
      have g1 : gn1 t 1 11 1 = lat (s 248) := by rw [gn1_n _ _ _ (by decide)]; exact a1
      have g2 : gn1 t 1 11 2 = s 251 := by rw [gn1_n _ _ _ (by decide)]; exact a2
      have hlt := lat_b (s 248)
      have hu := h5.2.2.2
      rw [a2] at hu
      refine h.fin hw (by omega) (fun x y q1 q2 q3 q4 => ?_) (fun y => ?_) ?_ ?_ ?_ mu (fun x q1 q2 => by rw [up1_n _ _ q2, up1_n _ _ q1])
      · rw [fnC_n _ _ q4, fn3_n _ _ q1 q2, gn1_n _ _ _ q3]
      · rw [fnC_n _ _ (by simp), fn3_2 g3 g5 ⟨by omega, by omega⟩ ⟨by omega, by omega⟩, g1, gn1_n _ _ _ (by simp)]
        by_cases q : lat (s 248) = 1 ∧ y = 24 * s 2 + (16 + lin (s 248))
        · rw [if_pos q, if_pos ⟨by omega, q.2⟩]
        · rw [if_neg q, if_neg (fun g => q ⟨by have := g.1; omega, g.2⟩)]
      · rw [fnC_n _ _ (by decide), fn3_0]
      · rw [fnC_n _ _ (by decide), fn3_n _ _ (by decide) (by decide), g7]; exact ⟨by omega, by omega⟩
      · rw [fnC_2, g2, gn1_n _ _ _ (by decide)]
        by_cases q : s 251 = 1 ∨ s 251 = 2
        · rw [if_pos q, if_neg (by omega)]
        · rw [if_neg q, if_pos (by omega)]
    · have e : gnC t 1 = gn1 t 1 := by
        unfold gnC
        rw [gn4_7, e4, if_neg (by omega)]
      have et : ti2 s = up1 (up1 s 254 (s 254 - 1)) 255 1 := by
        unfold ti2
        rw [if_neg c3, if_pos (by omega)]
        dsimp only
        rw [if_neg (by rw [x4]; omega)]
      rw [et] at M2 L2 ⊢
      rw [e]
      have x3 : up1 (up1 s 254 (s 254 - 1)) 255 1 253 = s 253 := by rw [up1_n _ _ (by decide), up1_n _ _ (by decide)]
      have x5 : up1 (up1 s 254 (s 254 - 1)) 255 1 255 = 1 := up1_s _ _ _
      exact h.left M2 (fun x y q => gn1_n _ _ _ q) (fun x q1 q2 q3 => by rw [up1_n _ _ q3, up1_n _ _ q2]) hw (by rw [g7, x3, x4]; omega) (by rw [x4]; omega) (fun q => by rw [x3] at q; omega) (by rw [x4]; omega) (by rw [x4, x5, if_pos (by omega)]) (by rw [x3]) L2
