/-! the relation: a cut, two -/
theorem rcA_11 : ∀ (d : Nat) (s : Int → Int), MI s → s 11 ≤ d → rcA d s 11 = 0 := by
  intro d
  induction d with
  | zero => intro s h h11; have z := h.z 11 (by unfold xc; omega); show s 11 = 0; omega
  | succ d ih =>
    intro s h h11
    have z := h.z 11 (by unfold xc; omega)
    unfold rcA
    by_cases c : 0 < s 11
    · rw [if_pos c]
      exact ih _ (gfF_M h c) (by rw [gfF_at s c, if_pos rfl]; omega)
    · rw [if_neg c]; omega
theorem brS_11 {s : Int → Int} (h : MI s) : brS s 11 = 0 := by
  have m := clN_M (br2_M (br1_M h))
  unfold brS br5
  try dsimp only
  rw [up1_n _ _ (by decide), up1_n _ _ (by decide)]
  exact rcA_11 9 _ m (by have := m.2.2.1; omega)
theorem brS_1 (s : Int → Int) : brS s 1 = 1 := by
  unfold brS br5
  try dsimp only
  rw [up1_n _ _ (by decide), up1_s]
theorem brS_8 {s : Int → Int} (h : MI s) : brS s 8 = s 8 + 1 := by
  unfold brS br5
  try dsimp only
  rw [up1_s, up1_n _ _ (by decide), rcA_x (by decide) (by decide) 9 _ (clN_M (br2_M (br1_M h)))]
  unfold clN
  rw [zA_at, if_neg (by omega), br2_x (br1_M h) (by omega), br1_x _ (by decide)]
theorem brS_4 {s : Int → Int} (h : MI s) : brS s 4 = s 4 + (s 11 + iwF s) := by
  unfold brS br5
  try dsimp only
  rw [up1_n _ _ (by decide), up1_n _ _ (by decide), rcA_x (by decide) (by decide) 9 _ (clN_M (br2_M (br1_M h)))]
  unfold clN
  rw [zA_at, if_neg (by omega), br2_x (br1_M h) (by omega)]
  unfold br1
  rw [up1_s]
theorem tr1_2 {t : TS} {pc : Int} (e3 : t 11 3 = pc) (hpc : 0 ≤ pc ∧ pc < 48) (y : Int) : tr1 t 2 y = if y = pc then 3 else t 2 y := by
  unfold tr1
  have e : fn0 t 11 3 = pc := by unfold fn0; rw [ut_n _ _ (by decide)]; exact e3
  rw [e, mkC_at _ _ hpc]
  unfold fn0
  rw [ut_n _ _ (by simp)]
theorem tr2_2 {t : TS} {pc ec : Int} (e3 : t 11 3 = pc) (e4 : t 11 4 = ec) (hpc : 0 ≤ pc ∧ pc < 48) (hec : 0 ≤ ec ∧ ec < 48) (y : Int) : tr2 t 2 y = if (¬ t 11 1 = 0 ∧ t 11 7 < t 11 6) ∧ y = ec then 3 else if y = pc then 3 else t 2 y := by
  have f : ∀ k : Int, ¬ k = 0 → tr1 t 11 k = t 11 k := fun k hk => tr1_n _ _ (by decide) (fun g => hk g.2)
  unfold tr2
  rw [f 1 (by decide), f 7 (by decide), f 6 (by decide), f 4 (by decide), e4]
  by_cases c : ¬ t 11 1 = 0 ∧ t 11 7 < t 11 6
  · rw [if_pos c, mkC_at _ _ hec, tr1_2 e3 hpc]
    by_cases d : y = ec
    · rw [if_pos d, if_pos ⟨c, d⟩]
    · rw [if_neg d, if_neg (show ¬ ((¬ t 11 1 = 0 ∧ t 11 7 < t 11 6) ∧ y = ec) from fun g => d g.2)]
  · rw [if_neg c, if_neg (fun g => c g.1), tr1_2 e3 hpc]
theorem trC_n (t : TS) {x : Nat} (y : Int) (h : x ≠ 2) (h2 : ¬ (x = 11 ∧ y = 0)) : trC t x y = t x y := by
  unfold trC; split
  · rw [mkC_n _ _ _ _ h, tr2_n _ _ h h2]
  · exact tr2_n _ _ h h2
theorem tr2_0 (t : TS) : tr2 t 11 0 = 0 := by
  unfold tr2; split
  · rw [mkC_n _ _ _ _ (by decide)]; unfold tr1 fn0; rw [mkC_n _ _ _ _ (by decide), ut_s]
  · unfold tr1 fn0; rw [mkC_n _ _ _ _ (by decide), ut_s]
theorem trC_0 (t : TS) : trC t 11 0 = 0 := by
  unfold trC; split
  · rw [mkC_n _ _ _ _ (by decide), tr2_0]
  · exact tr2_0 t
theorem trC_at {t : TS} {pc ec bc : Int} (e3 : t 11 3 = pc) (e4 : t 11 4 = ec) (e5 : t 11 5 = bc) (hpc : 0 ≤ pc ∧ pc < 48) (hec : 0 ≤ ec ∧ ec < 48) (hbc : 0 ≤ bc ∧ bc < 48) (n1 : ¬ bc = ec) (n2 : ¬ bc = pc) (y : Int) :
    trC t 2 y = if t 2 bc = 1 ∧ y = bc then 0 else if (¬ t 11 1 = 0 ∧ t 11 7 < t 11 6) ∧ y = ec then 3 else if y = pc then 3 else t 2 y := by
  have f5 : tr2 t 11 5 = bc := by rw [tr2_n _ _ (by decide) (by decide)]; exact e5
  have fk : kdF (tr2 t) bc = t 2 bc := by rw [kd_in _ hbc.1 hbc.2, tr2_2 e3 e4 hpc hec, if_neg (fun g => n1 g.2), if_neg n2]
  unfold trC
  rw [f5, fk]
  by_cases c : t 2 bc = 1
  · rw [if_pos c, mkC_at _ _ hbc, tr2_2 e3 e4 hpc hec]
    by_cases d : y = bc
    · rw [if_pos d, if_pos ⟨c, d⟩]
    · rw [if_neg d, if_neg (show ¬ (t 2 bc = 1 ∧ y = bc) from fun g => d g.2)]
  · rw [if_neg c, if_neg (fun g => c g.1), tr2_2 e3 e4 hpc hec]
/-- what is torn -/
theorem trC_2 {t t4 : TS} {s : Int → Int} (h : Rl t s) (hw : iwF s = 1) (e2 : ∀ y, t4 2 y = t 2 y) (e11 : ∀ y, t4 11 y = t 11 y) {c : Int} (c0 : 0 ≤ c) (c1 : c < 48) : trC t4 2 c = brS s (atI c) := by
  have hM := h.1.1
  have hb := hM.2.1
  have p1 := hM.2.2.2.1
  have p0 := hM.z 248 (by unfold xc; omega)
  have z3 := hM.z 253 (by unfold xc; omega)
  have hl := lin_b p0 (by omega)
  have he := ear_b hl.1 hl.2
  have hla := lat_b (s 248)
  have hR := h.2.2.2.2.2.1
  obtain ⟨a1, a2, a3, a4, a5, a7, a6, a8, a9, a10, a11, a12, -, -, -, a16⟩ := hR.2.1 hw
  have hbk := hR.2.2
  have hC := (h.2.2.1 c c0 c1).1
  have eb := brS_c hM hw c0 c1 (show (0 : Int) ≤ 0 by decide) (by decide)
  simp only [Int.add_zero, if_true] at eb
  rw [eb, trC_at (pc := 24 * s 2 + s 248) (ec := 24 * s 2 + ear (lin (s 248))) (bc := 24 * s 2 + (16 + lin (s 248))) (by rw [e11]; exact a3) (by rw [e11]; exact a4) (by rw [e11]; exact a5) (by omega) (by omega) (by omega) (by omega) (by omega), e2, e2, e11, e11, e11, a1]
  have q1 : t 2 (24 * s 2 + (16 + lin (s 248))) = 1 ↔ 0 < s 253 := ⟨fun g => (hbk _ (by omega) (by omega) (by omega) g).2.1, a16⟩
  have q2 : (¬ lat (s 248) = 0 ∧ t 11 7 < t 11 6) ↔ (lat (s 248) = 1 ∧ s 255 = 1) := by
    rw [a7, a10]
    by_cases z : 0 < s 253
    · have := a8 z
      rw [if_neg (by omega)]
      omega
    · by_cases z2 : s 254 < t 11 6
      · rw [if_pos z2]; omega
      · rw [if_neg z2]; omega
  simp only [q1, q2, hC]
  by_cases A : (lat (s 248) = 1 ∧ s 255 = 1) ∧ c = 24 * s 2 + ear (lin (s 248))
  · rw [if_pos A, if_neg (by omega), if_pos A]
  · rw [if_neg A, if_neg A]
/-- what a cut comes to -/
def LC (t t6 : TS) (s : Int → Int) : Prop := (∀ c : Int, 0 ≤ c → c < 48 → t6 2 c = brS s (atI c)) ∧ (∀ (x : Nat) (y : Int), ¬ x = 2 → ¬ x = 16 → ¬ (x = 11 ∧ y = 0) → ¬ (x = 6 ∧ y = 4) → ¬ (x = 12 ∧ (y = 3 ∨ y = 5)) → ¬ (x = 0 ∧ y = 8) → t6 x y = t x y) ∧
  (t6 6 4 = 0 ∧ t6 11 0 = 0 ∧ t6 0 8 = 0 ∧ t6 12 3 = t 12 3 + (s 11 + iwF s) ∧ t6 12 5 = t 12 5 + 1) ∧ ∀ j : Int, 0 ≤ j → j < 12 → t6 16 j = stF s j
theorem LC.rl {t t2 : TS} {s : Int → Int} (h : Rl t s) (g : LC t t2 s) : Rl t2 (brS s) := by
  obtain ⟨e2, et, ⟨e6, e11, e8, e3, e5⟩, -⟩ := g
  have hM := h.1.1
  have hb := hM.2.1
  have p1 := hM.2.2.2.1
  have p0 := hM.z 248 (by unfold xc; omega)
  have hl := lin_b p0 (by omega)
  have he := ear_b hl.1 hl.2
  have hR := h.2.2.2.2.2.1
  have hC := h.2.2.1
  have hNx := h.2.2.2.2.1
  obtain ⟨⟨i1, i2⟩, ⟨i3, i4, i5⟩, i6, i7, i8, i9, i10⟩ := h
  have M2 := brS_M hM
  have n2 : brS s 2 = s 2 := brS_x hM (by decide) (by decide) (by decide) (by decide) (by decide)
  have nw : iwF (brS s) = 0 := by unfold iwF; rw [brS_n hM (by decide), brS_n hM (by decide)]; rfl
  have x0 : ∀ y, ¬ y = 8 → t2 0 y = t 0 y := fun y hy => et 0 y (by decide) (by decide) (by simp) (by simp) (by simp) (fun g => hy g.2)
  have x11 : ∀ y, ¬ y = 0 → t2 11 y = t 11 y := fun y hy => et 11 y (by decide) (by decide) (fun g => hy g.2) (by simp) (by simp) (by simp)
  have x12 : ∀ y, ¬ (y = 3 ∨ y = 5) → t2 12 y = t 12 y := fun y hy => et 12 y (by decide) (by decide) (by simp) (by simp) (fun g => hy g.2) (by simp)
  have xx : ∀ (x : Nat) (y : Int), x = 3 ∨ x = 4 ∨ x = 5 ∨ (7 ≤ x ∧ x ≤ 10) ∨ (13 ≤ x ∧ x ≤ 15) → t2 x y = t x y := fun x y hx => et x y (by omega) (by omega) (by omega) (by omega) (by omega) (by omega)
  have K : ∀ c : Int, 0 ≤ c → c < 48 → (t2 2 c = 3 ∧ c % 24 < 16 ∧ 24 * s 2 ≤ c ∧ c < 24 * s 2 + t 0 10) ∨ (t2 2 c = 0 ∧ 16 ≤ c % 24) ∨ ((∀ q : Int, 0 ≤ q → q < 4 → brS s (atI c + q) = s (atI c + q)) ∧ (16 ≤ c % 24 → ¬ t 2 c = 1)) := by
    intro c c0 c1
    by_cases hw : iwF s = 1
    · obtain ⟨a1, a2, a3, a4, a5, a7, a6, a8, a9, a10, a11, a12, -, -, -, a16⟩ := hR.2.1 hw
      have eb := fun q q0 q1 => brS_c (q := q) hM hw c0 c1 q0 q1
      have ek := e2 c c0 c1
      by_cases A : (lat (s 248) = 1 ∧ s 255 = 1) ∧ c = 24 * s 2 + ear (lin (s 248))
      · left
        have hle := lat_ear p0 (by omega) A.1.1
        have e := eb 0 (by decide) (by decide)
        rw [if_pos A, if_pos rfl, Int.add_zero] at e
        exact ⟨ek.trans e, by omega, by omega, by omega⟩
      · by_cases B : 0 < s 253 ∧ c = 24 * s 2 + (16 + lin (s 248))
        · right; left
          have e := eb 0 (by decide) (by decide)
          rw [if_neg A, if_pos B, Int.add_zero] at e
          exact ⟨ek.trans e, by omega⟩
        · by_cases C : c = 24 * s 2 + s 248
          · left
            have e := eb 0 (by decide) (by decide)
            rw [if_neg A, if_neg B, if_pos C, if_pos rfl, Int.add_zero] at e
            exact ⟨ek.trans e, by omega, by omega, by omega⟩
          · right; right
            refine ⟨fun q q0 q1 => ?_, fun g1 g2 => ?_⟩
            · rw [eb q q0 q1, if_neg A, if_neg B, if_neg C]
            · exact B (hR.2.2 c c0 c1 g1 g2).2
    · have hw0 : iwF s = 0 := by have := iw_b s; omega
      have bl := atI_b c0 c1
      right; right
      exact ⟨fun q q0 q1 => brS_o hM hw0 (by omega) (by omega), fun g1 g2 => hw (hR.2.2 c c0 c1 g1 g2).1⟩
  have K2 : ∀ c : Int, 0 ≤ c → c < 48 → (∀ q : Int, 0 ≤ q → q < 4 → brS s (atI c + q) = s (atI c + q)) → t2 2 c = t 2 c := by
    intro c c0 c1 g
    have e := g 0 (by decide) (by decide)
    rw [Int.add_zero] at e
    rw [e2 c c0 c1, e, (hC c c0 c1).1]
  refine ⟨⟨M2, by rw [brS_n hM (by decide)]; decide, by rw [brS_n hM (by decide)]; decide⟩, ⟨?_, ?_, ?_⟩, ?_, ?_, ?_, ?_, ?_⟩
  · intro c c0 c1
    have r := i3 c c0 c1
    rw [xx 3 c (by decide), xx 4 c (by decide), xx 5 c (by decide)]
    refine ⟨?_, r.2⟩
    rcases K c c0 c1 with k | k | k
    · omega
    · omega
    · rw [K2 c c0 c1 k.1]; exact r.1
  · refine ⟨by rw [e6]; decide, fun i j0 j1 => ?_⟩
    rw [xx 7 i (by decide), xx 8 i (by decide), xx 9 i (by decide), xx 10 i (by decide)]
    exact i4.2 i j0 j1
  · refine ⟨fun k k0 k1 => ?_, Or.inl e11, by rw [x11 1 (by decide), x11 2 (by decide)]; exact i5.2.2⟩
    by_cases hk : k = 0
    · rw [hk, e11]; exact ⟨by decide, by decide⟩
    · rw [x11 k hk]; exact i5.1 k k0 k1
  · intro c c0 c1
    refine ⟨e2 c c0 c1, fun hk => ?_⟩
    rcases K c c0 c1 with k | k | k
    · omega
    · omega
    · rw [K2 c c0 c1 k.1] at hk
      rw [xx 3 c (by decide), xx 4 c (by decide), xx 5 c (by decide), k.1 1 (by decide) (by decide), k.1 2 (by decide) (by decide), k.1 3 (by decide) (by decide)]
      exact (hC c c0 c1).2 hk
  · exact ⟨by rw [e6, brS_11 hM], fun i j0 j1 => by rw [brS_11 hM] at j1; omega⟩
  · refine ⟨by rw [x0 10 (by decide)]; exact hNx.1, by rw [x0 9 (by decide), n2]; exact hNx.2.1, fun p q0 q1 => ?_⟩
    rw [x0 10 (by decide), n2]
    have c0 : 0 ≤ 24 * s 2 + p := by omega
    have c1 : 24 * s 2 + p < 48 := by omega
    rcases K _ c0 c1 with k | k | k
    · omega
    · omega
    · rw [K2 _ c0 c1 k.1]; exact hNx.2.2 p q0 q1
  · refine ⟨by rw [e11, nw], fun g => by omega, fun c c0 c1 g1 g2 => ?_⟩
    exfalso
    rcases K c c0 c1 with k | k | k
    · omega
    · omega
    · rw [K2 c c0 c1 k.1] at g2; exact k.2 g1 g2
  · obtain ⟨⟨b1, b2, b3, b4, b5, b6⟩, b7, b8, b9, b10⟩ := i10
    have sx : ∀ x : Int, ¬ x = 1 → ¬ x = 4 → ¬ x = 8 → ¬ x = 11 → x < 24 → brS s x = s x := fun x q1 q2 q3 q4 q5 => brS_x hM q1 q2 q3 q4 q5
    refine ⟨⟨?_, ?_, ?_, ?_, ?_, ?_⟩, ?_, ?_, ?_, ?_⟩
    · rw [x12 1 (by decide), sx 10 (by decide) (by decide) (by decide) (by decide) (by decide)]; exact b1
    · rw [x12 2 (by decide), sx 3 (by decide) (by decide) (by decide) (by decide) (by decide)]; exact b2
    · rw [e3, brS_4 hM, b3]
    · rw [x12 4 (by decide), sx 5 (by decide) (by decide) (by decide) (by decide) (by decide)]; exact b4
    · rw [e5, brS_8 hM, b5]
    · rw [x12 6 (by decide), sx 9 (by decide) (by decide) (by decide) (by decide) (by decide)]; exact b6
    · rw [e8, brS_1]; rfl
    · intro i j0 j1; rw [xx 13 i (by decide), sx _ (by omega) (by omega) (by omega) (by omega) (by omega)]; exact b8 i j0 j1
    · intro i j0 j1; rw [xx 14 i (by decide), sx _ (by omega) (by omega) (by omega) (by omega) (by omega)]; exact b9 i j0 j1
    · intro i j0 j1; rw [xx 15 i (by decide), sx _ (by omega) (by omega) (by omega) (by omega) (by omega)]; exact b10 i j0 j1
/-- the class's way there -/
def lc4 (t : TS) (b : Int) : TS := ut (ut (ut (ut t 0 8 0) 12 5 (ut t 0 8 0 12 5 + 1)) 12 3 (ut (ut t 0 8 0) 12 5 (ut t 0 8 0 12 5 + 1) 12 3 + (ut (ut t 0 8 0) 12 5 (ut t 0 8 0 12 5 + 1) 6 4 + b))) 6 4 0
theorem lc4_n (t : TS) (b : Int) {x : Nat} {y : Int} (h1 : ¬ (x = 6 ∧ y = 4)) (h2 : ¬ (x = 12 ∧ (y = 3 ∨ y = 5))) (h3 : ¬ (x = 0 ∧ y = 8)) : lc4 t b x y = t x y := by
  unfold lc4
  rw [ut_n _ _ h1, ut_n _ _ (fun g => h2 ⟨g.1, Or.inl g.2⟩), ut_n _ _ (fun g => h2 ⟨g.1, Or.inr g.2⟩), ut_n _ _ h3]
theorem lc4_v (t : TS) (b : Int) : lc4 t b 6 4 = 0 ∧ lc4 t b 0 8 = 0 ∧ lc4 t b 12 3 = t 12 3 + (t 6 4 + b) ∧ lc4 t b 12 5 = t 12 5 + 1 := by
  unfold lc4
  refine ⟨ut_s _ _ _ _, ?_, ?_, ?_⟩
  · rw [ut_n _ _ (by decide), ut_n _ _ (by decide), ut_n _ _ (by decide), ut_s]
  · rw [ut_n _ _ (by decide), ut_s, ut_n _ _ (by decide), ut_n _ _ (by decide), ut_n _ _ (by decide), ut_n _ _ (by decide)]
  · rw [ut_n _ _ (by decide), ut_n _ _ (by decide), ut_s, ut_n _ _ (by decide)]
theorem lc4_R {t : TS} (b : Int) (hC : CR t) (hW : WR t) : CR (lc4 t b) ∧ WR (lc4 t b) := by
  have n : ∀ (x : Nat) (y : Int), x = 2 ∨ x = 3 ∨ x = 4 ∨ x = 5 ∨ x = 11 → lc4 t b x y = t x y := fun x y hx => lc4_n t b (by omega) (by omega) (by omega)
  refine ⟨fun c c0 c1 => ?_, fun k k0 k1 => ?_, ?_, ?_⟩
  · rw [n 2 c (by decide), n 3 c (by decide), n 4 c (by decide), n 5 c (by decide)]; exact hC c c0 c1
  · rw [n 11 k (by decide)]; exact hW.1 k k0 k1
  · rw [n 11 0 (by decide)]; exact hW.2.1
  · rw [n 11 1 (by decide), n 11 2 (by decide)]; exact hW.2.2
theorem LC.busy {t : TS} {s : Int → Int} (h : Rl t s) (hw : iwF s = 1) (h16 : ∀ j : Int, 0 ≤ j → j < 12 → t 16 j = stF s j) : LC t (trC (lc4 t 1)) s := by
  have v := lc4_v t 1
  have e6 : t 6 4 = s 11 := h.2.2.2.1.1
  refine ⟨fun c c0 c1 => trC_2 h hw (fun y => lc4_n t 1 (by simp) (by simp) (by simp)) (fun y => lc4_n t 1 (by simp) (by simp) (by simp)) c0 c1, fun x y g1 g2 g3 g4 g5 g6 => ?_, ⟨?_, trC_0 _, ?_, ?_, ?_⟩, fun j j0 j1 => ?_⟩
  · rw [trC_n _ _ g1 g3, lc4_n t 1 g4 g5 g6]
  · rw [trC_n _ _ (by decide) (by decide)]; exact v.1
  · rw [trC_n _ _ (by decide) (by decide)]; exact v.2.1
  · rw [trC_n _ _ (by decide) (by decide), v.2.2.1, e6, hw]
  · rw [trC_n _ _ (by decide) (by decide)]; exact v.2.2.2
  · rw [trC_n _ _ (by decide) (by simp), lc4_n t 1 (by simp) (by simp) (by simp)]; exact h16 j j0 j1
theorem LC.idle {t : TS} {s : Int → Int} (h : Rl t s) (hw : iwF s = 0) (h16 : ∀ j : Int, 0 ≤ j → j < 12 → t 16 j = stF s j) : LC t (lc4 t 0) s := by
  have v := lc4_v t 0
  have e6 : t 6 4 = s 11 := h.2.2.2.1.1
  have e11 : t 11 0 = iwF s := h.2.2.2.2.2.1.1
  refine ⟨fun c c0 c1 => ?_, fun x y g1 g2 g3 g4 g5 g6 => lc4_n t 0 g4 g5 g6, ⟨v.1, ?_, v.2.1, ?_, v.2.2.2⟩, fun j j0 j1 => ?_⟩
  · have bl := atI_b c0 c1
    rw [lc4_n t 0 (by simp) (by simp) (by simp), brS_o h.1.1 hw (by omega) (by omega), (h.2.2.1 c c0 c1).1]
  · rw [lc4_n t 0 (by simp) (by simp) (by simp), e11, hw]
  · rw [v.2.2.1, e6, hw]
  · rw [lc4_n t 0 (by simp) (by simp) (by simp)]; exact h16 j j0 j1
theorem LC.fin {t t6 : TS} {s : Int → Int} (h : Rl t s) (hT : t 12 0 = s 0) (g : LC t t6 s) (v : Int) : RlT (ut t6 12 4 (t6 12 4 + v)) (up1 (brS s) 5 (brS s 5 + v)) := by
  have R6 := g.rl h
  have hM := h.1.1
  have b10 := R6.2.2.2.2.2.2
  refine ⟨R6.gen ((brS_M hM).cnt (by unfold xc; omega)) (fun x y _ q => ut_n _ _ (by omega)) (fun x q => up1_n _ _ (by omega)) ⟨ut_n _ _ (by decide), ut_n _ _ (by decide)⟩ ?_, ?_⟩
  · obtain ⟨⟨b1, b2, b3, b4, b5, b6⟩, b7, b8, b9, b10⟩ := b10
    have u : ∀ (x : Nat) (y : Int), ¬ (x = 12 ∧ y = 4) → ut t6 12 4 (t6 12 4 + v) x y = t6 x y := fun x y q => ut_n _ _ q
    have w : ∀ x : Int, ¬ x = 5 → up1 (brS s) 5 (brS s 5 + v) x = brS s x := fun x q => up1_n _ _ q
    refine ⟨⟨?_, ?_, ?_, ?_, ?_, ?_⟩, ?_, fun i j0 j1 => ?_, fun i j0 j1 => ?_, fun i j0 j1 => ?_⟩
    · rw [u _ _ (by decide), w _ (by decide)]; exact b1
    · rw [u _ _ (by decide), w _ (by decide)]; exact b2
    · rw [u _ _ (by decide), w _ (by decide)]; exact b3
    · rw [ut_s, up1_s, b4]
    · rw [u _ _ (by decide), w _ (by decide)]; exact b5
    · rw [u _ _ (by decide), w _ (by decide)]; exact b6
    · rw [u _ _ (by decide), w _ (by decide)]; exact b7
    · rw [u _ _ (by simp), w _ (by omega)]; exact b8 i j0 j1
    · rw [u _ _ (by simp), w _ (by omega)]; exact b9 i j0 j1
    · rw [u _ _ (by simp), w _ (by omega)]; exact b10 i j0 j1
  · rw [ut_n _ _ (by decide), up1_n _ _ (by decide), g.2.1 12 0 (by decide) (by decide) (by decide) (by decide) (by decide) (by decide), hT, brS_x hM (by decide) (by decide) (by decide) (by decide) (by decide)]
