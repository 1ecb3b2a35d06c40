/-! the relation: a cut -/
theorem Rl.r16 {t t2 : TS} {s : Int → Int} (h : Rl t s) (e : ∀ (x : Nat) (y : Int), x ≠ 16 → t2 x y = t x y) : Rl t2 s := by
  refine h.gen h.1.1 (fun x y _ q => e x y (by omega)) (fun _ _ => rfl) ⟨e 0 9 (by decide), e 0 10 (by decide)⟩ ?_
  have h10 := h.2.2.2.2.2.2
  refine ⟨?_, by rw [e 0 8 (by decide)]; exact h10.2.1, fun i i0 i1 => by rw [e 13 i (by decide)]; exact h10.2.2.1 i i0 i1, fun i i0 i1 => by rw [e 14 i (by decide)]; exact h10.2.2.2.1 i i0 i1, fun i i0 i1 => by rw [e 15 i (by decide)]; exact h10.2.2.2.2 i i0 i1⟩
  rw [e 12 1 (by decide), e 12 2 (by decide), e 12 3 (by decide), e 12 4 (by decide), e 12 5 (by decide), e 12 6 (by decide)]
  exact h10.1
theorem taF_c (s : Int → Int) {b p c q : Int} (hb : b = 0 ∨ b = 1) (p0 : 0 ≤ p) (p1 : p < 16) (c0 : 0 ≤ c) (c1 : c < 48) (q0 : 0 ≤ q) (q1 : q < 4) : taF s b p (atI c + q) = if c = 24 * b + p then (if q = 0 then 3 else 0) else s (atI c + q) := by
  have e := atI_pg hb p0 p1
  unfold taF
  try dsimp only
  by_cases h : c = 24 * b + p
  · subst h
    rw [if_pos rfl, e]
    rcases (show q = 0 ∨ q = 1 ∨ q = 2 ∨ q = 3 by omega) with rfl | rfl | rfl | rfl
    · rw [up1_n _ _ (by omega), up1_n _ _ (by omega), up1_n _ _ (by omega), Int.add_zero, up1_s, if_pos rfl]
    · rw [up1_n _ _ (by omega), up1_n _ _ (by omega), up1_s, if_neg (by decide)]
    · rw [up1_n _ _ (by omega), up1_s, if_neg (by decide)]
    · rw [up1_s, if_neg (by decide)]
  · have d := atI_inj c0 c1 (show 0 ≤ 24 * b + p by omega) (by omega) h
    rw [e] at d
    rw [if_neg h, up1_n _ _ (by omega), up1_n _ _ (by omega), up1_n _ _ (by omega), up1_n _ _ (by omega)]
theorem clB_c (s : Int → Int) {b l c q : Int} (hb : b = 0 ∨ b = 1) (l0 : 0 ≤ l) (l1 : l < 8) (c0 : 0 ≤ c) (c1 : c < 48) (q0 : 0 ≤ q) (q1 : q < 4) : clB s b l (atI c + q) = if c = 24 * b + (16 + l) then 0 else s (atI c + q) := by
  have e := atI_bk hb l0 l1
  unfold clB
  rw [zA_at]
  by_cases h : c = 24 * b + (16 + l)
  · rw [if_pos h, h, e, if_pos (by omega)]
  · have d := atI_inj c0 c1 (show 0 ≤ 24 * b + (16 + l) by omega) (by omega) h
    rw [e] at d
    rw [if_neg h, if_neg (by omega)]
theorem brS_m {s : Int → Int} (hM : MI s) {x : Int} (x0 : 24 ≤ x) (x1 : x < 216) : brS s x = br2 (br1 s) x := by
  unfold brS br5
  try dsimp only
  rw [up1_n _ _ (by omega), up1_n _ _ (by omega), rcA_x (by omega) (by omega) 9 _ (clN_M (br2_M (br1_M hM)))]
  unfold clN
  rw [zA_at, if_neg (by omega)]
theorem brS_c {s : Int → Int} (hM : MI s) (hw : iwF s = 1) {c q : Int} (c0 : 0 ≤ c) (c1 : c < 48) (q0 : 0 ≤ q) (q1 : q < 4) :
    brS s (atI c + q) = if (lat (s 248) = 1 ∧ s 255 = 1) ∧ c = 24 * s 2 + ear (lin (s 248)) then (if q = 0 then 3 else 0) else if 0 < s 253 ∧ c = 24 * s 2 + (16 + lin (s 248)) then 0 else if c = 24 * s 2 + s 248 then (if q = 0 then 3 else 0) else s (atI c + q) := by
  have hb := hM.2.1
  have p1 := hM.2.2.2.1
  have p0 := hM.z 248 (by unfold xc; omega)
  have hl := lin_b p0 (by omega)
  have he := ear_b hl.1 hl.2
  have bl := atI_b c0 c1
  have eb : ∀ x : Int, ¬ x = 4 → br1 s x = s x := fun x hx => br1_x s hx
  have ew : iwF (br1 s) = 1 := by unfold iwF; rw [eb 253 (by decide), eb 254 (by decide)]; exact hw
  have tx : ∀ (f : Int → Int) (p x : Int), 0 ≤ p → p ≤ 15 → 216 ≤ x → taF f (s 2) p x = f x := fun f p x q0 q1 hx => taF_x f hb q0 q1 (by omega)
  have ea : ∀ x : Int, 216 ≤ x → br2a (br1 s) x = s x := by
    intro x hx
    unfold br2a
    rw [eb 2 (by decide), eb 248 (by decide)]
    split
    · unfold clB
      rw [zA_at, if_neg (by omega), tx _ _ _ p0 p1 hx, eb x (by omega)]
    · rw [tx _ _ _ p0 p1 hx, eb x (by omega)]
  have ec : br2a (br1 s) (atI c + q) = if 0 < s 253 ∧ c = 24 * s 2 + (16 + lin (s 248)) then 0 else if c = 24 * s 2 + s 248 then (if q = 0 then 3 else 0) else s (atI c + q) := by
    unfold br2a
    rw [eb 2 (by decide), eb 248 (by decide), tx _ _ 253 p0 p1 (by decide), eb 253 (by decide)]
    by_cases h : 0 < s 253
    · rw [if_pos h, clB_c _ hb hl.1 hl.2 c0 c1 q0 q1, taF_c _ hb p0 (by omega) c0 c1 q0 q1, eb _ (by omega)]
      simp only [h, true_and]
    · rw [if_neg h, taF_c _ hb p0 (by omega) c0 c1 q0 q1, eb _ (by omega)]
      simp only [h, false_and, if_false]
  rw [brS_m hM (by omega) (by omega), ← ec]
  unfold br2
  rw [if_pos ew, eb 2 (by decide), eb 248 (by decide)]
  unfold br2b
  rw [ea 248 (by decide), ea 255 (by decide)]
  by_cases h : lat (s 248) = 1 ∧ s 255 = 1
  · rw [if_pos h, taF_c _ hb he.1 he.2 c0 c1 q0 q1]
    simp only [h, true_and, and_self]
  · rw [if_neg h, if_neg (fun g => h g.1)]
theorem brS_o {s : Int → Int} (hM : MI s) (hw : iwF s = 0) {x : Int} (x0 : 24 ≤ x) (x1 : x < 216) : brS s x = s x := by
  have eb : ∀ x : Int, ¬ x = 4 → br1 s x = s x := fun x hx => br1_x s hx
  have ew : iwF (br1 s) = 0 := by unfold iwF; rw [eb 253 (by decide), eb 254 (by decide)]; exact hw
  rw [brS_m hM x0 x1]
  unfold br2
  rw [if_neg (by omega), eb x (by omega)]
