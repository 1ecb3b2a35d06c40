/-! the relation: one tick of a writing -/
theorem kd_in (t : TS) {c : Int} (h0 : 0 ≤ c) (h1 : c < 48) : kdF t c = t 2 c := by unfold kdF; rw [if_pos ⟨h0, h1⟩]
/-- only what is left changes -/
theorem Rl.left {t t2 : TS} {s s2 : Int → Int} (h : Rl t s) (m : MI s2) (et : ∀ (x : Nat) (y : Int), ¬ (x = 11 ∧ y = 7) → t2 x y = t x y) (es : ∀ x : Int, ¬ x = 253 → ¬ x = 254 → ¬ x = 255 → s2 x = s x) (hw : iwF s = 1)
    (e7 : t2 11 7 = s2 253 + s2 254) (l : s2 254 ≤ t 11 6) (p : 0 < s2 253 → s2 254 = t 11 6) (o : 1 ≤ s2 254) (g : s2 255 = if s2 254 < t 11 6 then 1 else 0) (z : 0 < s2 253 ↔ 0 < s 253) (hl : ML s2) : Rl t2 s2 := by
  have hW := h.2.2.2.2.2.1
  have hWb := hW.2.1 hw
  have h5 := h.2.1.2.2
  have iw2 : iwF s2 = 1 := iw_1 (by omega)
  refine h.wr m hl (fun x y hx => et x y (by omega)) (fun x hx _ _ => es x (by omega) (by omega) (by omega)) ?_ ⟨fun k k0 k1 => ?_, ?_, ?_⟩ (fun c c0 c1 => ?_) (fun p p0 p1 => by rw [et 2 _ (by simp)]) ⟨?_, fun _ => ?_, fun c c0 c1 c2 c3 => ?_⟩ ?_
  · intro c c0 c1
    rw [et 2 _ (by simp), et 3 _ (by simp), et 4 _ (by simp), et 5 _ (by simp)]; exact h.2.1.1 c c0 c1
  · by_cases e : k = 7
    · rw [e, e7]
      have b := hl.1
      have b2 := hl.2
      have b3 := m.z 253 (by unfold xc; omega)
      exact ⟨by omega, by omega⟩
    · rw [et 11 k (fun g => e g.2)]; exact h5.1 k k0 k1
  · rw [et 11 0 (by decide)]; exact h5.2.1
  · rw [et 11 1 (by decide), et 11 2 (by decide)]; exact h5.2.2
  · have b := atI_b c0 c1
    rw [et 2 _ (by simp), et 3 _ (by simp), et 4 _ (by simp), et 5 _ (by simp), es _ (by omega) (by omega) (by omega), es _ (by omega) (by omega) (by omega), es _ (by omega) (by omega) (by omega), es _ (by omega) (by omega) (by omega)]
    exact h.2.2.1 c c0 c1
  · rw [et 11 0 (by decide), iw2, ← hw]; exact hW.1
  · unfold RWb
    unfold RWb at hWb
    rw [et 11 1 (by decide), et 11 2 (by decide), et 11 3 (by decide), et 11 4 (by decide), et 11 5 (by decide), et 11 6 (by decide), et 0 10 (by decide), et 2 _ (by simp), et 2 _ (by simp), et 3 _ (by simp), et 4 _ (by simp), et 5 _ (by simp),
      es 248 (by decide) (by decide) (by decide), es 249 (by decide) (by decide) (by decide), es 250 (by decide) (by decide) (by decide), es 251 (by decide) (by decide) (by decide), es 252 (by decide) (by decide) (by decide), es 2 (by decide) (by decide) (by decide), e7]
    obtain ⟨a1, a2, a3, a4, a5, a6, a7, a8, a9, a10, a11, a12, a13, a14, a15, a16⟩ := hWb
    exact ⟨a1, a2, a3, a4, a5, rfl, l, p, o, g, a11, a12, a13, a14, a15, fun q => a16 (z.mp q)⟩
  · rw [et 2 _ (by simp)] at c3
    obtain ⟨x1, x2, x3⟩ := hW.2.2 c c0 c1 c2 c3
    rw [es 2 (by decide) (by decide) (by decide), es 248 (by decide) (by decide) (by decide)]
    exact ⟨iw2, z.mpr x2, x3⟩
  · obtain ⟨⟨v1, v2, v3, v4, v5, v6⟩, -⟩ := h.2.2.2.2.2.2
    rw [et 12 1 (by decide), et 12 2 (by decide), et 12 3 (by decide), et 12 4 (by decide), et 12 5 (by decide), et 12 6 (by decide), es 3 (by decide) (by decide) (by decide), es 9 (by decide) (by decide) (by decide)]
    exact ⟨rfl, v2, rfl, rfl, rfl, v6⟩
/-- the backup is made -/
theorem Rl.made {t t2 : TS} {s s2 : Int → Int} (h : Rl t s) (m : MI s2) (hw : iwF s = 1) (h3 : s 253 = 1) (et : ∀ (x : Nat) (y : Int), ¬ (x = 11 ∧ y = 7) → ¬ x = 2 → ¬ (x = 12 ∧ y = 6) → t2 x y = t x y)
    (ek : ∀ y : Int, t2 2 y = if y = 24 * s 2 + (16 + lin (s 248)) then 2 else t 2 y) (e7 : t2 11 7 = s 254) (e6 : t2 12 6 = t 12 6 + 1)
    (es : ∀ x : Int, ¬ x = 253 → ¬ x = 9 → ¬ x = 152 + 4 * (8 * s 2 + lin (s 248)) → s2 x = s x) (u3 : s2 253 = 0) (u9 : s2 9 = s 9 + 1) (ub : s2 (152 + 4 * (8 * s 2 + lin (s 248))) = 2) : Rl t2 s2 := by
  have hb := h.1.1.2.1
  have p1 := h.1.1.2.2.2.1
  have p0 := h.1.1.z 248 (by unfold xc; omega)
  have hl := lin_b p0 (by omega)
  have hW := h.2.2.2.2.2.1
  have hWb := hW.2.1 hw
  have h5 := h.2.1.2.2
  have ebc := atI_bk hb hl.1 hl.2
  have b54 := h.1.2.2
  have e254 : s2 254 = s 254 := es 254 (by omega) (by omega) (by omega)
  obtain ⟨a1, a2, a3, a4, a5, a6, a7, a8, a9, a10, a11, a12, a13, a14, a15, a16⟩ := hWb
  have iw2 : iwF s2 = 1 := iw_1 (by rw [e254]; omega)
  have kb : t 2 (24 * s 2 + (16 + lin (s 248))) = 1 := a16 (by omega)
  refine h.wr m ⟨by rw [u3]; omega, by rw [e254]; exact b54⟩ (fun x y hx => et x y (by omega) (by omega) (by omega)) (fun x hx _ h9 => es x (by omega) h9 (by omega)) (fun c c0 c1 => ?_) ⟨fun k k0 k1 => ?_, ?_, ?_⟩ (fun c c0 c1 => ?_)
    (fun p p0 p1 => by rw [ek, if_neg (by omega)]) ⟨?_, fun _ => ?_, fun c c0 c1 c2 c3 => ?_⟩ ?_
  · have g := h.2.1.1 c c0 c1
    rw [ek, et 3 _ (by simp) (by decide) (by simp), et 4 _ (by simp) (by decide) (by simp), et 5 _ (by simp) (by decide) (by simp)]
    refine ⟨?_, g.2⟩
    split
    · exact ⟨by decide, by decide⟩
    · exact g.1
  · by_cases e : k = 7
    · rw [e, e7]; exact ⟨by omega, by omega⟩
    · rw [et 11 k (fun g => e g.2) (by decide) (by simp)]; exact h5.1 k k0 k1
  · rw [et 11 0 (by decide) (by decide) (by decide)]; exact h5.2.1
  · rw [et 11 1 (by decide) (by decide) (by decide), et 11 2 (by decide) (by decide) (by decide)]; exact h5.2.2
  · have b := atI_b c0 c1
    have g := h.2.2.1 c c0 c1
    rw [ek, et 3 _ (by simp) (by decide) (by simp), et 4 _ (by simp) (by decide) (by simp), et 5 _ (by simp) (by decide) (by simp)]
    by_cases e : c = 24 * s 2 + (16 + lin (s 248))
    · rw [if_pos e, e, ebc, ub]
      refine ⟨rfl, fun _ => ?_⟩
      rw [es _ (by omega) (by omega) (by omega), es _ (by omega) (by omega) (by omega), es _ (by omega) (by omega) (by omega), ← ebc, ← e]
      exact g.2 (Or.inr ⟨by omega, by rw [e, kb]; decide⟩)
    · have d := atI_inj c0 c1 (show 0 ≤ 24 * s 2 + (16 + lin (s 248)) by omega) (by omega) e
      rw [ebc] at d
      rw [if_neg e, es _ (by omega) (by omega) (by omega), es _ (by omega) (by omega) (by omega), es _ (by omega) (by omega) (by omega), es _ (by omega) (by omega) (by omega)]
      exact g
  · rw [et 11 0 (by decide) (by decide) (by decide), iw2, ← hw]; exact hW.1
  · unfold RWb
    rw [et 11 1 (by decide) (by decide) (by decide), et 11 2 (by decide) (by decide) (by decide), et 11 3 (by decide) (by decide) (by decide), et 11 4 (by decide) (by decide) (by decide), et 11 5 (by decide) (by decide) (by decide), et 11 6 (by decide) (by decide) (by decide), et 0 10 (by decide) (by decide) (by decide), es 248 (by omega) (by omega) (by omega), es 249 (by omega) (by omega) (by omega), es 250 (by omega) (by omega) (by omega), es 251 (by omega) (by omega) (by omega), es 252 (by omega) (by omega) (by omega), es 255 (by omega) (by omega) (by omega), es 2 (by omega) (by omega) (by omega), e7, e254, u3,
      et 3 _ (by simp) (by decide) (by simp), et 4 _ (by simp) (by decide) (by simp), et 5 _ (by simp) (by decide) (by simp), ek (24 * s 2 + s 248), if_neg (show ¬ 24 * s 2 + s 248 = 24 * s 2 + (16 + lin (s 248)) by omega)]
    exact ⟨a1, a2, a3, a4, a5, by omega, a7, fun q => absurd q (by decide), a9, a10, a11, a12, a13, a14, a15, fun q => absurd q (by decide)⟩
  · rw [ek] at c3
    split at c3
    · exact absurd c3 (by decide)
    · next e => exact absurd (hW.2.2 c c0 c1 c2 c3).2.2 e
  · obtain ⟨⟨v1, v2, v3, v4, v5, v6⟩, -⟩ := h.2.2.2.2.2.2
    rw [et 12 1 (by decide) (by decide) (by decide), et 12 2 (by decide) (by decide) (by decide), et 12 3 (by decide) (by decide) (by decide), et 12 4 (by decide) (by decide) (by decide), et 12 5 (by decide) (by decide) (by decide), e6, es 3 (by omega) (by omega) (by omega), u9, v6]
    exact ⟨rfl, v2, rfl, rfl, rfl, rfl⟩
/-- a writing that ends -/
theorem Rl.fin {t t2 : TS} {s u : Int → Int} (h : Rl t s) (hw : iwF s = 1) (h3 : s 253 = 0) (et : ∀ (x : Nat) (y : Int), ¬ x = 2 → ¬ (x = 11 ∧ y = 0) → ¬ (x = 11 ∧ y = 7) → ¬ (x = 12 ∧ y = 2) → t2 x y = t x y)
    (ek : ∀ y : Int, t2 2 y = if lat (s 248) = 1 ∧ y = 24 * s 2 + (16 + lin (s 248)) then 0 else if y = 24 * s 2 + s 248 then 2 else t 2 y) (e0 : t2 11 0 = 0) (e7 : InR (t2 11 7)) (e2 : t2 12 2 = t 12 2 + if s 251 % 3 = 0 then 0 else 1)
    (mu : MI u) (eu : ∀ x : Int, ¬ x = 254 → ¬ x = 255 → u x = s x) : Rl t2 (enF u) := by
  have hb := h.1.1.2.1
  have p1 := h.1.1.2.2.2.1
  have p0 := h.1.1.z 248 (by unfold xc; omega)
  have hl := lin_b p0 (by omega)
  have hW := h.2.2.2.2.2.1
  obtain ⟨a1, a2, a3, a4, a5, a6, a7, a8, a9, a10, a11, a12, a13, a14, a15, a16⟩ := hW.2.1 hw
  have h5 := h.2.1.2.2
  have ebc := atI_bk hb hl.1 hl.2
  have epc := atI_pg hb p0 (show s 248 < 16 by omega)
  have Ec := fun {c q : Int} (c0 : 0 ≤ c) (c1 : c < 48) (q0 : 0 ≤ q) (q1 : q < 4) => enF_c mu c0 c1 q0 q1
  rw [eu 248 (by decide) (by decide), eu 2 (by decide) (by decide), eu 249 (by decide) (by decide), eu 250 (by decide) (by decide), eu 252 (by decide) (by decide)] at Ec
  have El := fun {x : Int} (hx : x < 24 ∨ (216 ≤ x ∧ x < 248)) (hx3 : ¬ x = 3) => (enF_l mu hx hx3).trans (eu x (by omega) (by omega))
  have E3 := enF_3 mu
  rw [eu 3 (by decide) (by decide), eu 251 (by decide) (by decide)] at E3
  have me := (enF_M mu).1
  have n3 := enF_n (s := u) (x := 253) (by omega)
  have n4 := enF_n (s := u) (x := 254) (by omega)
  have iw2 : iwF (enF u) = 0 := by unfold iwF; rw [n3, n4]; rfl
  have nob : ∀ c : Int, 0 ≤ c → c < 48 → 16 ≤ c % 24 → ¬ t 2 c = 1 := fun c c0 c1 c2 e => by have g := (hW.2.2 c c0 c1 c2 e).2.1; omega
  refine h.wr me ⟨by rw [n3]; decide, by rw [n4]; decide⟩ (fun x y hx => et x y (by omega) (by omega) (by omega) (by omega)) (fun x hx hx3 _ => El hx hx3) (fun c c0 c1 => ?_) ⟨fun k k0 k1 => ?_, ?_, ?_⟩ (fun c c0 c1 => ?_)
    (fun p q0 q1 => ?_) ⟨?_, fun q => ?_, fun c c0 c1 c2 c3 => ?_⟩ ?_
  · have g := h.2.1.1 c c0 c1
    rw [ek, et 3 _ (by decide) (by simp) (by simp) (by simp), et 4 _ (by decide) (by simp) (by simp) (by simp), et 5 _ (by decide) (by simp) (by simp) (by simp)]
    refine ⟨?_, g.2⟩
    split
    · exact ⟨by decide, by decide⟩
    · split
      · exact ⟨by decide, by decide⟩
      · exact g.1
  · by_cases e : k = 7
    · rw [e]; exact e7
    · by_cases e1 : k = 0
      · rw [e1, e0]; exact ⟨by decide, by decide⟩
      · rw [et 11 k (by decide) (fun g => e1 g.2) (fun g => e g.2) (by simp)]; exact h5.1 k k0 k1
  · exact Or.inl e0
  · rw [et 11 1 (by decide) (by decide) (by decide) (by decide), et 11 2 (by decide) (by decide) (by decide) (by decide)]; exact h5.2.2
  · have b0 := Ec c0 c1 (show (0 : Int) ≤ 0 by decide) (by decide)
    simp only [Int.add_zero] at b0
    have b1 := Ec c0 c1 (show (0 : Int) ≤ 1 by decide) (by decide)
    have b2 := Ec c0 c1 (show (0 : Int) ≤ 2 by decide) (by decide)
    have b3 := Ec c0 c1 (show (0 : Int) ≤ 3 by decide) (by decide)
    have g := h.2.2.1 c c0 c1
    rw [ek, et 3 _ (by decide) (by simp) (by simp) (by simp), et 4 _ (by decide) (by simp) (by simp) (by simp), et 5 _ (by decide) (by simp) (by simp) (by simp), b0, b1, b2, b3]
    by_cases e : lat (s 248) = 1 ∧ c = 24 * s 2 + (16 + lin (s 248))
    · rw [if_pos e, if_pos e]
      refine ⟨rfl, fun q => ?_⟩
      rcases q with q | q
      · exact absurd q (by decide)
      · exact absurd rfl q.2
    · rw [if_neg e, if_neg e, if_neg e, if_neg e, if_neg e]
      by_cases e1 : c = 24 * s 2 + s 248
      · rw [if_pos e1, if_pos e1, if_pos e1, if_pos e1, if_pos e1, e1]
        exact ⟨rfl, fun _ => ⟨a13, a14, a15⟩⟩
      · have b := atI_b c0 c1
        rw [if_neg e1, if_neg e1, if_neg e1, if_neg e1, if_neg e1, eu _ (by omega) (by omega), eu _ (by omega) (by omega), eu _ (by omega) (by omega), eu _ (by omega) (by omega)]; exact g
  · rw [ek, if_neg (by omega)]
    by_cases e : 24 * s 2 + p = 24 * s 2 + s 248
    · rw [if_pos e, e, a12]; constructor <;> intro q <;> exact absurd q (by decide)
    · rw [if_neg e]
  · rw [e0, iw2]
  · rw [iw2] at q; exact absurd q (by decide)
  · rw [ek] at c3
    split at c3
    · exact absurd c3 (by decide)
    · split at c3
      · exact absurd c3 (by decide)
      · exact absurd c3 (nob c c0 c1 c2)
  · obtain ⟨⟨v1, v2, v3, v4, v5, v6⟩, -⟩ := h.2.2.2.2.2.2
    rw [et 12 1 (by decide) (by decide) (by decide) (by decide), e2, et 12 3 (by decide) (by decide) (by decide) (by decide), et 12 4 (by decide) (by decide) (by decide) (by decide), et 12 5 (by decide) (by decide) (by decide) (by decide), et 12 6 (by decide) (by decide) (by decide) (by decide), E3, El (x := 9) (by decide) (by decide), v2, v6]
    exact ⟨rfl, rfl, rfl, rfl, rfl, rfl⟩
