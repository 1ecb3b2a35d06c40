/-! the relation: many ticks in one step -/
theorem Rl.tm {t : TS} {s : Int → Int} (h : Rl t s) (v : Int) : Rl (ut t 12 0 v) s := by
  have e : ∀ (x : Nat) (y : Int), ¬ (x = 12 ∧ y = 0) → ut t 12 0 v x y = t x y := fun x y q => ut_n _ _ q
  obtain ⟨h1, ⟨h3, h4, h5⟩, h6, h7, h8, h9, h10⟩ := h
  refine ⟨h1, ⟨?_, ?_, ?_⟩, ?_, ?_, ?_, ?_, ?_⟩
  · intro c c0 c1
    rw [e 2 _ (by simp), e 3 _ (by simp), e 4 _ (by simp), e 5 _ (by simp)]; exact h3 c c0 c1
  · refine ⟨by rw [e 6 4 (by decide)]; exact h4.1, fun i i0 i1 => ?_⟩
    rw [e 7 _ (by simp), e 8 _ (by simp), e 9 _ (by simp), e 10 _ (by simp)]; exact h4.2 i i0 i1
  · refine ⟨fun k k0 k1 => by rw [e 11 _ (by simp)]; exact h5.1 k k0 k1, by rw [e 11 0 (by decide)]; exact h5.2.1, by rw [e 11 1 (by decide), e 11 2 (by decide)]; exact h5.2.2⟩
  · intro c c0 c1
    rw [e 2 _ (by simp), e 3 _ (by simp), e 4 _ (by simp), e 5 _ (by simp)]; exact h6 c c0 c1
  · refine ⟨by rw [e 6 4 (by decide)]; exact h7.1, fun i i0 i1 => ?_⟩
    rw [e 7 _ (by simp), e 8 _ (by simp), e 9 _ (by simp), e 10 _ (by simp)]; exact h7.2 i i0 i1
  · refine ⟨by rw [e 0 10 (by decide)]; exact h8.1, by rw [e 0 9 (by decide)]; exact h8.2.1, fun p p0 p1 => by rw [e 2 _ (by simp), e 0 10 (by decide)]; exact h8.2.2 p p0 p1⟩
  · unfold RWr RWb
    have ew : ∀ y, ut t 12 0 v 11 y = t 11 y := fun y => e 11 y (by simp)
    have e2 : ∀ y, ut t 12 0 v 2 y = t 2 y := fun y => e 2 y (by simp)
    have e3 : ∀ y, ut t 12 0 v 3 y = t 3 y := fun y => e 3 y (by simp)
    have e4 : ∀ y, ut t 12 0 v 4 y = t 4 y := fun y => e 4 y (by simp)
    have e5 : ∀ y, ut t 12 0 v 5 y = t 5 y := fun y => e 5 y (by simp)
    have e0 : ∀ y, ut t 12 0 v 0 y = t 0 y := fun y => e 0 y (by simp)
    simp only [ew, e2, e3, e4, e5, e0]
    exact h9
  · refine ⟨by rw [e 12 1 (by decide), e 12 2 (by decide), e 12 3 (by decide), e 12 4 (by decide), e 12 5 (by decide), e 12 6 (by decide)]; exact h10.1, by rw [e 0 8 (by decide)]; exact h10.2.1, fun i i0 i1 => ?_, fun i i0 i1 => ?_, fun i i0 i1 => ?_⟩
    · rw [e 13 _ (by simp)]; exact h10.2.2.1 i i0 i1
    · rw [e 14 _ (by simp)]; exact h10.2.2.2.1 i i0 i1
    · rw [e 15 _ (by simp)]; exact h10.2.2.2.2 i i0 i1
theorem gn1_gn1 (t : TS) (k : Int) : gn1 (gn1 t k) 1 = gn1 t (k + 1) := by
  funext x y
  unfold gn1 ut
  by_cases h : x = 11 ∧ y = 7
  · rw [if_pos h, if_pos h, if_pos ⟨rfl, rfl⟩]; omega
  · rw [if_neg h, if_neg h, if_neg h]
theorem gn1_gn3 (t : TS) (k : Int) : gn1 (gn3 (gn1 t k)) 1 = gn3 (gn1 t (k + 1)) := by
  have a7 : gn3 (gn1 t k) 11 7 = t 11 7 - k := by rw [gn3_n _ _ (by decide) (by decide)]; exact ut_s _ _ _ _
  have b5 : ∀ j, gn1 t j 11 5 = t 11 5 := fun j => gn1_n _ _ _ (by decide)
  have b6 : ∀ j, gn2 (gn1 t j) 12 6 = t 12 6 := fun j => by unfold gn2; rw [mkC_n _ _ _ _ (by decide), gn1_n _ _ _ (by decide)]
  funext x y
  by_cases h : x = 11 ∧ y = 7
  · obtain ⟨rfl, rfl⟩ := h
    rw [gn3_n _ _ (by decide) (by decide)]
    unfold gn1
    rw [ut_s, ut_s]
    have : gn3 (ut t 11 7 (t 11 7 - k)) 11 7 = t 11 7 - k := a7
    rw [this]; omega
  · have e : gn1 (gn3 (gn1 t k)) 1 x y = gn3 (gn1 t k) x y := gn1_n _ _ _ h
    rw [e]
    unfold gn3
    rw [b6, b6]
    by_cases h2 : x = 12 ∧ y = 6
    · obtain ⟨rfl, rfl⟩ := h2
      rw [ut_s, ut_s]
    · rw [ut_n _ _ h2, ut_n _ _ h2]
      unfold gn2
      rw [b5, b5]
      unfold mkC
      split
      · by_cases h3 : x = 2 ∧ y = t 11 5
        · obtain ⟨rfl, h4⟩ := h3
          rw [h4, ut_s, ut_s]
        · rw [ut_n _ _ h3, ut_n _ _ h3, gn1_n _ _ _ h, gn1_n _ _ _ h]
      · rw [gn1_n _ _ _ h, gn1_n _ _ _ h]
theorem gn4_add {t : TS} (h : 0 ≤ t 11 5 ∧ t 11 5 < 48) (k : Int) : gn4 (gn4 t k) 1 = gn4 t (k + 1) := by
  have b5 : ∀ j, gn1 t j 11 5 = t 11 5 := fun j => gn1_n _ _ _ (by decide)
  have b6 : ∀ j, gn1 t j 11 6 = t 11 6 := fun j => gn1_n _ _ _ (by decide)
  have b7 : ∀ j, gn1 t j 11 7 = t 11 7 - j := fun j => ut_s _ _ _ _
  have bk : ∀ j, kdF (gn1 t j) (t 11 5) = t 2 (t 11 5) := fun j => by rw [kd_in _ h.1 h.2, gn1_n _ _ _ (by simp)]
  have C : ∀ j, gn4 t j = if t 2 (t 11 5) = 1 ∧ t 11 7 - j ≤ t 11 6 then gn3 (gn1 t j) else gn1 t j := fun j => by
    unfold gn4; rw [b5, b6, b7, bk]
  by_cases c : t 2 (t 11 5) = 1 ∧ t 11 7 - k ≤ t 11 6
  · have e1 : gn4 t k = gn3 (gn1 t k) := by rw [C, if_pos c]
    have e2 : gn4 t (k + 1) = gn3 (gn1 t (k + 1)) := by rw [C, if_pos ⟨c.1, by have := c.2; omega⟩]
    rw [e1, e2]
    unfold gn4
    rw [gn1_gn3]
    have k2 : kdF (gn3 (gn1 t (k + 1))) (gn3 (gn1 t (k + 1)) 11 5) = 2 := by
      have e5 : gn3 (gn1 t (k + 1)) 11 5 = t 11 5 := by rw [gn3_n _ _ (by decide) (by decide), b5]
      rw [e5, kd_in _ h.1 h.2]
      unfold gn3 gn2
      rw [ut_n _ _ (by simp), b5, mkC_at _ _ h, if_pos rfl]
    rw [k2, if_neg (fun g => absurd g.1 (by decide))]
  · have e1 : gn4 t k = gn1 t k := by rw [C, if_neg c]
    rw [e1]
    unfold gn4
    rw [gn1_gn1]
theorem gnC_add {t : TS} (h : 0 ≤ t 11 5 ∧ t 11 5 < 48) (k : Int) (hk : 0 < t 11 7 - k) : gnC t (k + 1) = gnC (gnC t k) 1 := by
  have e : gnC t k = gn4 t k := by unfold gnC; rw [gn4_7, if_neg (by omega)]
  rw [e]
  unfold gnC
  rw [gn4_add h]
theorem Rl.bc {t : TS} {s : Int → Int} (h : Rl t s) (hw : iwF s = 1) : 0 ≤ t 11 5 ∧ t 11 5 < 48 := by
  have hb := h.1.1.2.1
  have p1 := h.1.1.2.2.2.1
  have p0 := h.1.1.z 248 (by unfold xc; omega)
  have hl := lin_b p0 (by omega)
  rw [(h.2.2.2.2.2.1.2.1 hw).2.2.2.2.1]
  omega
/-- k ticks while something is being written, in one step -/
theorem Rl.jump {t : TS} {s : Int → Int} (hM : MI s) (h : Rl t (ti1 s)) (hw : iwF (ti1 s) = 1) : ∀ k : Nat, (k : Int) + 1 ≤ ti1 s 253 + ti1 s 254 → s 0 + (k + 1) ≤ BIG → Rl (gnC t ((k : Int) + 1)) (goA s (k + 1)) := by
  have hl := (h.2.2.2.2.2.1.2.1 hw).2.2.2.2.2.1
  intro k
  induction k with
  | zero => intro _ _; exact h.tick hw
  | succ k ih =>
    intro hk hb
    have g := ih (by omega) (by omega)
    have hk2 : 0 < t 11 7 - ((k : Int) + 1) := by omega
    have e := gnC_add (h.bc hw) ((k : Int) + 1) hk2
    have em : gnC t ((k : Int) + 1) = gn4 t ((k : Int) + 1) := by unfold gnC; rw [gn4_7, if_neg (by omega)]
    have w2 : iwF (goA s (k + 1)) = 1 := by
      rw [← g.2.2.2.2.2.1.1, em, gn4_n _ _ _ (by decide) (by decide) (by decide), h.2.2.2.2.2.1.1]; exact hw
    have g0 := goA_M hM (k + 1) (by omega)
    have mt := g0.1.time (by rw [g0.2]; omega)
    have e1 : ti1 (goA s (k + 1)) = up1 (goA s (k + 1)) 0 (goA s (k + 1) 0 + 1) := by
      unfold ti1; dsimp only; rw [iw_time, if_neg (by omega)]
    have q := (g.time mt).tick (by rw [iw_time]; exact w2)
    rw [← e1] at q
    have ec : ((k + 1 : Nat) : Int) + 1 = (k : Int) + 1 + 1 := by omega
    rw [ec, e]
    exact q
/-- nothing can begin: the ticks go by -/
theorem tkA_busy {p : Int} (d : Nat) {s : Int → Int} (h : iwF s = 1) : tkA p d s = s := by
  cases d with
  | zero => rfl
  | succ d => unfold tkA; rw [if_neg (fun g => by have := g.2.2; omega)]
theorem tkA_idle {p : Int} (hp : 0 ≤ p) : ∀ (d : Nat) (s : Int → Int), MI s → s 11 < d → iwF (tkA p d s) = 0 → (16 ≤ p ∨ tkA p d s 11 ≤ 0) ∧ ∀ x : Int, ¬ x = 11 → x < 216 → tkA p d s x = s x := by
  intro d
  induction d with
  | zero => intro s h h1 _; have := h.z 11 (by unfold xc; omega); omega
  | succ d ih =>
    intro s h h1 hw
    unfold tkA at hw ⊢
    by_cases c : p < 16 ∧ 0 < s 11 ∧ iwF s = 0
    · rw [if_pos c] at hw ⊢
      by_cases q : psF s = 1
      · rw [if_pos q] at hw ⊢
        have e11 : gfF s 11 = s 11 - 1 := by rw [gfF_at s c.2.1, if_pos rfl]
        have g := ih (gfF s) (gfF_M h c.2.1) (by rw [e11]; omega) hw
        exact ⟨g.1, fun x x0 x1 => by rw [g.2 x x0 x1, gfF_x c.2.1 x0 x1]⟩
      · rw [if_neg q] at hw
        have w := iw_1 (bgF_254 h hp (by omega) c.2.1)
        rw [tkA_busy d w, w] at hw
        exact absurd hw (by decide)
    · rw [if_neg c] at hw ⊢
      exact ⟨by omega, fun _ _ _ => rfl⟩
theorem ti2_idle {s : Int → Int} (h : iwF s = 0) : ti2 s = s := by
  have : ¬ (0 < s 254 ∨ 0 < s 253) := fun g => by unfold iwF at h; rw [if_pos g] at h; exact absurd h (by decide)
  unfold ti2
  rw [if_neg (by omega), if_neg (by omega)]
theorem Rl.idle {t : TS} {s : Int → Int} (hM : MI s) (h : Rl t (ti1 s)) (hw : iwF (ti1 s) = 0) : ∀ k : Nat, s 0 + (k + 1) ≤ BIG → Rl t (goA s (k + 1)) ∧ iwF (goA s (k + 1)) = 0 ∧ (16 ≤ nxt (goA s (k + 1)) ∨ goA s (k + 1) 11 ≤ 0) := by
  have hB : BIG = 1000000 := rfl
  intro k
  induction k with
  | zero =>
    intro hb
    have mt := hM.time (by omega)
    have w0 : iwF s = 0 := by
      rcases iw_b s with q | q
      · exact q
      · have e : ti1 s = up1 s 0 (s 0 + 1) := by unfold ti1; dsimp only; rw [iw_time, if_neg (by omega)]
        rw [e, iw_time, q] at hw; exact absurd hw (by decide)
    have e : ti1 s = tkF (up1 s 0 (s 0 + 1)) := by unfold ti1; dsimp only; rw [iw_time, if_pos w0]
    have e1 : goA s 1 = ti1 s := by show ti2 (ti1 s) = _; rw [ti2_idle hw]
    have h8 := hM.2.2.1
    have g := tkA_idle (nxt_b (up1 s 0 (s 0 + 1))).1 9 (up1 s 0 (s 0 + 1)) mt (by rw [up1_n _ _ (by decide)]; omega) (by rw [e] at hw; exact hw)
    have en : nxt (ti1 s) = nxt (up1 s 0 (s 0 + 1)) := by
      rw [e]
      exact nxt_cong (g.2 2 (by decide) (by decide)) (by rw [show tkF (up1 s 0 (s 0 + 1)) 2 = _ from g.2 2 (by decide) (by decide)]; exact mt.2.1) (fun x x0 x1 => g.2 x (by omega) (by omega))
    show Rl t (goA s 1) ∧ iwF (goA s 1) = 0 ∧ _
    refine ⟨by rw [e1]; exact h, by rw [e1]; exact hw, ?_⟩
    show 16 ≤ nxt (goA s 1) ∨ goA s 1 11 ≤ 0
    rw [e1, en, e]
    exact g.1
  | succ k ih =>
    intro hb
    obtain ⟨g1, g2, g3⟩ := ih (by omega)
    have g0 := goA_M hM (k + 1) (by omega)
    have mt := g0.1.time (by rw [g0.2]; omega)
    have en : nxt (up1 (goA s (k + 1)) 0 (goA s (k + 1) 0 + 1)) = nxt (goA s (k + 1)) := nxt_cong (up1_n _ _ (by decide)) mt.2.1 (fun x x0 x1 => up1_n _ _ (by omega))
    have e : ti1 (goA s (k + 1)) = up1 (goA s (k + 1)) 0 (goA s (k + 1) 0 + 1) := by
      unfold ti1
      dsimp only
      rw [iw_time, if_pos g2]
      unfold tkF tkA
      rw [en, if_neg (fun q => by have q1 := q.1; have q2 := q.2.1; rw [up1_n _ _ (by decide)] at q2; omega)]
    have e2 : goA s (k + 1 + 1) = up1 (goA s (k + 1)) 0 (goA s (k + 1) 0 + 1) := by
      show ti2 (ti1 (goA s (k + 1))) = _
      rw [e, ti2_idle (by rw [iw_time]; exact g2)]
    rw [e2]
    exact ⟨g1.time mt, by rw [iw_time]; exact g2, by rw [en, up1_n _ _ (by decide)]; exact g3⟩
