/-! the relation: ticks of a writing -/
theorem Rl.time {t : TS} {s : Int → Int} (h : Rl t s) {v : Int} (hm : MI (up1 s 0 v)) : Rl t (up1 s 0 v) := by
  have e : ∀ x : Int, ¬ x = 0 → up1 s 0 v x = s x := fun x hx => up1_n _ _ hx
  obtain ⟨⟨h1, h2⟩, h3, h6, h7, h8, h9, h10⟩ := h
  have ew : iwF (up1 s 0 v) = iwF s := iw_time s v
  refine ⟨⟨hm, by rw [e 253 (by decide)]; exact h2.1, by rw [e 254 (by decide)]; exact h2.2⟩, h3, fun c c0 c1 => ?_, ?_, ?_, ?_, ?_⟩
  · have b := atI_b c0 c1
    rw [e _ (by omega), e _ (by omega), e _ (by omega), e _ (by omega)]; exact h6 c c0 c1
  · unfold RQ
    rw [e 11 (by decide)]
    refine ⟨h7.1, fun i i0 i1 => ?_⟩
    rw [e _ (by omega), e _ (by omega), e _ (by omega), e _ (by omega)]; exact h7.2 i i0 i1
  · unfold RNx; rw [e 2 (by decide)]; exact h8
  · unfold RWr RWb
    rw [ew, e 2 (by decide), e 248 (by decide), e 249 (by decide), e 250 (by decide), e 251 (by decide), e 252 (by decide), e 253 (by decide), e 254 (by decide), e 255 (by decide)]
    exact h9
  · unfold RTl
    rw [e 10 (by decide), e 3 (by decide), e 4 (by decide), e 5 (by decide), e 8 (by decide), e 9 (by decide), e 1 (by decide)]
    refine ⟨h10.1, h10.2.1, fun i i0 i1 => ?_, fun i i0 i1 => ?_, fun i i0 i1 => ?_⟩
    · rw [e _ (by omega)]; exact h10.2.2.1 i i0 i1
    · rw [e _ (by omega)]; exact h10.2.2.2.1 i i0 i1
    · rw [e _ (by omega)]; exact h10.2.2.2.2 i i0 i1
theorem Rl.wr {t t2 : TS} {s s2 : Int → Int} (h : Rl t s) (m : MI s2) (l : ML s2) (et : ∀ (x : Nat) (y : Int), (6 ≤ x ∧ x ≤ 10) ∨ 13 ≤ x ∨ x = 0 → t2 x y = t x y)
    (es : ∀ x : Int, (x < 24 ∨ (216 ≤ x ∧ x < 248)) → ¬ x = 3 → ¬ x = 9 → s2 x = s x) (cr : CR t2) (wr : WR t2) (c : RC t2 s2)
    (pg : ∀ p : Int, 0 ≤ p → p < 16 → (t2 2 (24 * s 2 + p) = 0 ↔ t 2 (24 * s 2 + p) = 0)) (w : RWr t2 s2) (tl : t2 12 1 = t 12 1 ∧ t2 12 2 = s2 3 ∧ t2 12 3 = t 12 3 ∧ t2 12 4 = t 12 4 ∧ t2 12 5 = t 12 5 ∧ t2 12 6 = s2 9) : Rl t2 s2 := by
  obtain ⟨⟨h1, h2⟩, ⟨h3, h4, h5⟩, h6, h7, h8, h9, h10⟩ := h
  have e2 := es 2 (by decide) (by decide) (by decide)
  have e11 := es 11 (by decide) (by decide) (by decide)
  have t0e : ∀ y, t2 0 y = t 0 y := fun y => et 0 y (by decide)
  have q : ∀ (x : Nat) (y : Int), 6 ≤ x → x ≤ 10 → t2 x y = t x y := fun x y x0 x1 => et x y (Or.inl ⟨x0, x1⟩)
  refine ⟨⟨m, l⟩, ⟨cr, ?_, wr⟩, c, ?_, ?_, w, ?_⟩
  · refine ⟨by rw [q 6 4 (by decide) (by decide)]; exact h4.1, fun i i0 i1 => ?_⟩
    rw [q 7 i (by decide) (by decide), q 8 i (by decide) (by decide), q 9 i (by decide) (by decide), q 10 i (by decide) (by decide)]; exact h4.2 i i0 i1
  · refine ⟨by rw [q 6 4 (by decide) (by decide), e11]; exact h7.1, fun i i0 i1 => ?_⟩
    rw [e11] at i1
    have := h1.2.2.1
    rw [q 7 i (by decide) (by decide), q 8 i (by decide) (by decide), q 9 i (by decide) (by decide), q 10 i (by decide) (by decide), es _ (by omega) (by omega) (by omega), es _ (by omega) (by omega) (by omega), es _ (by omega) (by omega) (by omega), es _ (by omega) (by omega) (by omega)]
    exact h7.2 i i0 i1
  · unfold RNx; rw [t0e, t0e, e2]
    exact ⟨h8.1, h8.2.1, fun p p0 p1 => by rw [pg p p0 p1]; exact h8.2.2 p p0 p1⟩
  · unfold RTl
    obtain ⟨u1, u2, u3, u4, u5, u6⟩ := tl
    obtain ⟨⟨v1, v2, v3, v4, v5, v6⟩, hp, hs1, hs2, hs3⟩ := h10
    rw [t0e, u1, u3, u4, u5, es 10 (by decide) (by decide) (by decide), es 4 (by decide) (by decide) (by decide), es 5 (by decide) (by decide) (by decide), es 8 (by decide) (by decide) (by decide), es 1 (by decide) (by decide) (by decide)]
    refine ⟨⟨v1, u2, v3, v4, v5, u6⟩, hp, fun i i0 i1 => ?_, fun i i0 i1 => ?_, fun i i0 i1 => ?_⟩
    · rw [et 13 _ (by decide), es _ (by omega) (by omega) (by omega)]; exact hs1 i i0 i1
    · rw [et 14 _ (by decide), es _ (by omega) (by omega) (by omega)]; exact hs2 i i0 i1
    · rw [et 15 _ (by decide), es _ (by omega) (by omega) (by omega)]; exact hs3 i i0 i1
theorem enF_c {s : Int → Int} (h : MI s) {c q : Int} (c0 : 0 ≤ c) (c1 : c < 48) (q0 : 0 ≤ q) (q1 : q < 4) :
    enF s (atI c + q) = if lat (s 248) = 1 ∧ c = 24 * s 2 + (16 + lin (s 248)) then 0 else if c = 24 * s 2 + s 248 then (if q = 0 then 2 else if q = 1 then s 249 else if q = 2 then s 250 else s 252) else s (atI c + q) := by
  have hb := h.2.1
  have p1 := h.2.2.2.1
  have p0 := h.z 248 (by unfold xc; omega)
  have hl := lin_b p0 (by omega)
  have bl := atI_b c0 c1
  have epc := atI_pg hb p0 (show s 248 < 16 by omega)
  have ebc := atI_bk hb hl.1 hl.2
  have key : en1 s (atI c + q) = if c = 24 * s 2 + s 248 then (if q = 0 then 2 else if q = 1 then s 249 else if q = 2 then s 250 else s 252) else s (atI c + q) := by
    unfold en1
    by_cases e : c = 24 * s 2 + s 248
    · subst e
      rw [if_pos rfl, epc]
      rcases (show q = 0 ∨ q = 1 ∨ q = 2 ∨ q = 3 by omega) with rfl | rfl | rfl | rfl
      · rw [up1_n _ _ (by omega), up1_n _ _ (by omega), up1_n _ _ (by omega), Int.add_zero, up1_s, if_pos rfl]
      · rw [up1_n _ _ (by omega), up1_n _ _ (by omega), up1_s, up1_n _ _ (by omega), if_neg (by decide), if_pos rfl]
      · rw [up1_n _ _ (by omega), up1_s, up1_n _ _ (by omega), up1_n _ _ (by omega), if_neg (by decide), if_neg (by decide), if_pos rfl]
      · rw [up1_s, up1_n _ _ (by omega), up1_n _ _ (by omega), up1_n _ _ (by omega), if_neg (by decide), if_neg (by decide), if_neg (by decide)]
    · have d := atI_inj c0 c1 (show 0 ≤ 24 * s 2 + s 248 by omega) (by omega) e
      rw [epc] at d
      rw [if_neg e, up1_n _ _ (by omega), up1_n _ _ (by omega), up1_n _ _ (by omega), up1_n _ _ (by omega)]
  simp only [enF, clN]
  rw [zA_at, if_neg (by omega), up1_n _ _ (by omega)]
  unfold en2
  by_cases lt : lat (s 248) = 1
  · rw [if_pos lt]
    unfold clB
    rw [zA_at]
    by_cases e : c = 24 * s 2 + (16 + lin (s 248))
    · rw [if_pos (by rw [e, ebc]; omega), if_pos ⟨lt, e⟩]
    · have d := atI_inj c0 c1 (show 0 ≤ 24 * s 2 + (16 + lin (s 248)) by omega) (by omega) e
      rw [ebc] at d
      rw [if_neg (by omega), if_neg (fun g => e g.2), key]
  · rw [if_neg lt, if_neg (fun g => lt g.1), key]
theorem enF_l {s : Int → Int} (h : MI s) {x : Int} (hx : x < 24 ∨ (216 ≤ x ∧ x < 248)) (h3 : ¬ x = 3) : enF s x = s x := by
  have hb := h.2.1
  have p1 := h.2.2.2.1
  have p0 := h.z 248 (by unfold xc; omega)
  have hl := lin_b p0 (by omega)
  simp only [enF, clN]
  rw [zA_at, if_neg (by omega), up1_n _ _ h3]
  unfold en2
  split
  · unfold clB; rw [zA_at, if_neg (by omega), en1_x h (by omega)]
  · exact en1_x h (by omega)
theorem enF_3 {s : Int → Int} (h : MI s) : enF s 3 = s 3 + if s 251 % 3 = 0 then 0 else 1 := by
  have hb := h.2.1
  have p1 := h.2.2.2.1
  have p0 := h.z 248 (by unfold xc; omega)
  have hl := lin_b p0 (by omega)
  have e : ∀ x : Int, x < 24 ∨ 216 ≤ x → en2 (en1 s) (s 2) (s 248) x = s x := by
    intro x hx
    unfold en2
    split
    · unfold clB; rw [zA_at, if_neg (by omega), en1_x h (by omega)]
    · exact en1_x h (by omega)
  simp only [enF, clN]
  rw [zA_at, if_neg (by omega), up1_s, e 3 (by omega), e 251 (by omega)]
