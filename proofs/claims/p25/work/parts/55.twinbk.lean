/-! the twin: a backup is never torn -/
def BK (s : Int → Int) : Prop := ∀ c : Int, 0 ≤ c → c < 48 → 16 ≤ c % 24 → ¬ s (atI c) = 3
theorem atI_hi {c : Int} (h0 : 0 ≤ c) (h1 : c < 48) (h2 : 16 ≤ c % 24) : 152 ≤ atI c ∧ atI c < 216 := by unfold atI; rw [if_neg (by omega)]; omega
theorem BK.of {s t : Int → Int} (h : BK s) (e : ∀ x : Int, 152 ≤ x → x < 216 → t x = 0 ∨ t x = 1 ∨ t x = 2 ∨ t x = s x) : BK t := by
  intro c c0 c1 c2 g
  have b := atI_hi c0 c1 c2
  have := h c c0 c1 c2
  rcases e (atI c) b.1 b.2 with q | q | q | q <;> omega
theorem BK.same {s t : Int → Int} (h : BK s) (e : ∀ x : Int, 152 ≤ x → x < 216 → t x = s x) : BK t := h.of (fun x x0 x1 => Or.inr (Or.inr (Or.inr (e x x0 x1))))
theorem up1_o (f : Int → Int) (k v x : Int) : up1 f k v x = v ∨ up1 f k v x = f x := by unfold up1; split <;> simp
theorem zA_o (s : Int → Int) (a : Int) (n : Nat) (x : Int) : zA s a n x = 0 ∨ zA s a n x = s x := by rw [zA_at]; split <;> simp
theorem BK.begin {s : Int → Int} (h : BK s) (hM : MI s) {p : Int} (p0 : 0 ≤ p) (p1 : p < 16) : BK (bgB s p) := by
  intro c c0 c1 c2
  have e := bgB_c hM p0 p1 c0 c1 (show (0 : Int) ≤ 0 by decide) (by decide)
  simp only [Int.add_zero] at e
  rw [e]
  split
  · rw [if_pos trivial]; decide
  · split
    · decide
    · exact h c c0 c1 c2
theorem BK.drop {s : Int → Int} (h : BK s) (h0 : 0 < s 11) : BK (gfF s) := h.same (fun x x0 x1 => gfF_x h0 (by omega) x1)
theorem BK.takes {p : Int} (hp : 0 ≤ p) : ∀ (d : Nat) (s : Int → Int), MI s → BK s → (s 10 + 1 ≤ s 0 ∨ iwF s = 1) → BK (tkA p d s) := by
  intro d
  induction d with
  | zero => intro s _ h _; exact h
  | succ d ih =>
    intro s hM h hst
    unfold tkA
    by_cases c : p < 16 ∧ 0 < s 11 ∧ iwF s = 0
    · rw [if_pos c]
      have h1 : s 10 + 1 ≤ s 0 := by
        rcases hst with g | g
        · exact g
        · have := c.2.2; omega
      by_cases q : psF s = 1
      · rw [if_pos q]
        exact ih _ (gfF_M hM c.2.1) (h.drop c.2.1) (Or.inl (by rw [gfF_x c.2.1 (by decide) (by decide), gfF_x c.2.1 (by decide) (by decide)]; exact h1))
      · rw [if_neg q]
        rw [tkA_busy d (iw_1 (bgF_254 hM hp (by omega) c.2.1)), bgF_e]
        exact (h.begin hM hp c.1).drop (by rw [bgB_11 hM hp (by omega)]; exact c.2.1)
    · rw [if_neg c]; exact h
theorem BK.two {s : Int → Int} (h : BK s) (hM : MI s) : BK (ti2 s) := by
  unfold ti2
  split
  · dsimp only
    split
    · refine h.of (fun x x0 x1 => ?_)
      rw [up1_n _ _ (by omega)]
      rcases up1_o (up1 s 253 (s 253 - 1)) (152 + 4 * (8 * up1 s 253 (s 253 - 1) 2 + lin (up1 s 253 (s 253 - 1) 248))) 2 x with q | q
      · exact Or.inr (Or.inr (Or.inl q))
      · rw [q, up1_n _ _ (by omega)]; exact Or.inr (Or.inr (Or.inr rfl))
    · exact h.same (fun x x0 x1 => up1_n _ _ (by omega))
  · split
    · dsimp only
      have e : ∀ x : Int, x < 254 → up1 (up1 s 254 (s 254 - 1)) 255 1 x = s x := fun x hx => by rw [up1_n _ _ (by omega), up1_n _ _ (by omega)]
      have mu : MI (up1 (up1 s 254 (s 254 - 1)) 255 1) := (hM.far (k := 254) (by omega) (by omega) (by omega) (by have := hM.b 254 (by unfold xc; omega); omega)).far (by omega) (by omega) (by omega) (by unfold BIG; omega)
      split
      · intro c c0 c1 c2
        have b := atI_hi c0 c1 c2
        have g := enF_c mu c0 c1 (show (0 : Int) ≤ 0 by decide) (by decide)
        simp only [Int.add_zero] at g
        rw [g]
        split
        · decide
        · split
          · rw [if_pos trivial]; decide
          · rw [e _ (by omega)]; exact h c c0 c1 c2
      · exact h.same (fun x x0 x1 => e x (by omega))
    · exact h
theorem BK.tick {s : Int → Int} (h : BK s) (hM : MI s) (hb : s 0 + 1 ≤ BIG) : BK (tiF s) := by
  have m := hM.time hb
  have h10 := hM.2.2.2.2.2.2.1
  have h1 : BK (up1 s 0 (s 0 + 1)) := h.same (fun x x0 x1 => up1_n _ _ (by omega))
  unfold tiF
  refine BK.two ?_ (ti1_M hM hb).1
  unfold ti1
  dsimp only
  split
  · exact BK.takes (nxt_b _).1 9 _ m h1 (Or.inl (by rw [up1_n _ _ (by decide), up1_s]; omega))
  · exact h1
theorem BK.goes {s : Int → Int} (h : BK s) (hM : MI s) : ∀ k : Nat, s 0 + k ≤ BIG → BK (goA s k) := by
  intro k
  induction k with
  | zero => intro _; exact h
  | succ k ih =>
    intro hk
    have g := goA_M hM k (by omega)
    exact (ih (by omega)).tick g.1 (by rw [g.2]; omega)
theorem BK.as {s : Int → Int} (h : BK s) (hM : MI s) (k v u : Int) : BK (asF s k v u).2 := by
  have h8 := hM.2.2.1
  unfold asF
  split
  · exact h
  · split
    · exact h
    · split
      · exact h
      · exact h.same (fun x x0 x1 => cmF_x hM (by omega) _ _ _ _ (by omega) (by omega))
theorem BK.lt {s : Int → Int} (h : BK s) (hM : MI s) (m : Int) : BK (ltF s m).2 := by
  have z0 := hM.z 0 (by unfold xc; omega)
  unfold ltF
  split
  · exact h
  · split
    · exact h
    · split
      · exact h
      · exact h.goes hM m.toNat (by unfold BIG; omega)
theorem BK.ch {s : Int → Int} (h : BK s) : BK (chF s).2 := by
  unfold chF
  split
  · exact h
  · exact h.same (fun x x0 x1 => up1_n _ _ (by omega))
theorem BK.op {s : Int → Int} (h : BK s) (hM : MI s) : BK (opF s).2 := by
  have g2 : ∀ x : Int, 152 ≤ x → x < 216 → opA (up1 s 1 0) 48 x = s x := fun x x0 x1 => by rw [opA_x hM.on (by omega) (by omega) 48 (by omega), up1_n _ _ (by omega)]
  unfold opF
  split
  · generalize opA (up1 s 1 0) 48 = q at g2 ⊢
    exact h.same g2
  · exact h
theorem BK.sl {s : Int → Int} (h : BK s) (w t : Int) : BK (slF s w t).2 := by
  unfold slF
  split
  · exact h.same (fun x x0 x1 => up1_n _ _ (by omega))
  · exact h
theorem BK.er {s : Int → Int} (h : BK s) (b : Int) : BK (erF s b).2 := by
  by_cases hb : 0 ≤ b ∧ b ≤ 1
  · unfold erF
    generalize (if s 1 = 1 ∨ b = s 2 then (0 : Int) else 1) = m0
    rw [if_neg (fun g => g hb)]
    split
    · exact h
    · refine BK.same (s := er1 s b) (fun c c0 c1 c2 => ?_) (fun x x0 x1 => up1_n _ _ (by omega))
      have e := er1_c s (show b = 0 ∨ b = 1 by omega) c0 c1 (show (0 : Int) ≤ 0 by decide) (by decide)
      simp only [Int.add_zero] at e
      rw [e]
      split
      · decide
      · exact h c c0 c1 c2
  · unfold erF; rw [if_pos hb]; exact h
theorem BK.se {s : Int → Int} (h : BK s) (w v : Int) : BK (seF s w v).2 := by
  by_cases c : 0 ≤ w ∧ w ≤ 3 ∧ (if w = 2 then 0 else 1) ≤ v ∧ v ≤ moF w
  · have e : seF s w v = (s (20 + w), up1 s (20 + w) v) := by unfold seF; rw [if_pos c]
    rw [e]; exact h.same (fun x x0 x1 => up1_n _ _ (by omega))
  · have e : seF s w v = (-1, s) := by unfold seF; rw [if_neg c]
    rw [e]; exact h
theorem BK.cl {s : Int → Int} (h : BK s) (hM : MI s) (b : Int) : BK (clF s b).2 := by
  unfold clF
  split
  · exact h
  · split
    · exact h
    · split
      · exact h
      · obtain ⟨-, -, g3⟩ := clA_M hM (b := b) (by omega) (by omega) 24 (by omega)
        exact h.same (fun x x0 x1 => g3 x (by omega) (by omega))
theorem BK.of2 {s : Int → Int} (h : BK s) (hM : MI s) : BK (ofF s).2 := by
  have hb := hM.2.1
  have p1 := hM.2.2.2.1
  have p0 := hM.z 248 (by unfold xc; omega)
  have hl := lin_b p0 (by omega)
  have he := ear_b hl.1 hl.2
  have eb : ∀ x : Int, ¬ x = 4 → br1 s x = s x := fun x hx => br1_x s hx
  have m1 := br1_M hM
  have g2 : ∀ x : Int, 152 ≤ x → x < 216 → br2 (br1 s) x = 0 ∨ br2 (br1 s) x = s x := by
    intro x x0 x1
    unfold br2
    rw [eb 2 (by decide), eb 248 (by decide)]
    split
    · have ta : ∀ (f : Int → Int) (p : Int), 0 ≤ p → p ≤ 15 → taF f (s 2) p x = f x := fun f p q0 q1 => taF_x f hb q0 q1 (by omega)
      have ha : br2a (br1 s) x = 0 ∨ br2a (br1 s) x = s x := by
        unfold br2a
        rw [eb 2 (by decide), eb 248 (by decide)]
        split
        · unfold clB
          rcases zA_o (taF (br1 s) (s 2) (s 248)) (152 + 4 * (8 * s 2 + lin (s 248))) 4 x with q | q
          · exact Or.inl q
          · rw [q, ta _ _ p0 p1, eb x (by omega)]; exact Or.inr rfl
        · rw [ta _ _ p0 p1, eb x (by omega)]; exact Or.inr rfl
      unfold br2b
      split
      · rw [ta _ _ he.1 (by omega)]; exact ha
      · exact ha
    · rw [eb x (by omega)]; exact Or.inr rfl
  unfold ofF
  split
  · exact h
  · refine h.of (fun x x0 x1 => ?_)
    have e : up1 (brS s) 5 (brS s 5 + onA (lsF s) 12) x = br2 (br1 s) x := by
      rw [up1_n _ _ (by omega)]
      unfold brS br5
      try dsimp only
      rw [up1_n _ _ (by omega), up1_n _ _ (by omega), rcA_x (by omega) (by omega) 9 _ (clN_M (br2_M m1))]
      unfold clN
      rw [zA_at, if_neg (by omega)]
    rcases g2 x x0 x1 with q | q
    · exact Or.inl (e.trans q)
    · exact Or.inr (Or.inr (Or.inr (e.trans q)))
theorem BK.ca {s : Int → Int} (h : BK s) (hM : MI s) (x v1 v2 : Int) : BK (caF s x v1 v2).2 := by
  unfold caF
  split
  · exact h.as hM _ _ _
  · split
    · exact h.as hM _ _ _
    · split
      · exact h.lt hM _
      · split
        · exact h.of2 hM
        · split
          · exact h.op hM
          · split
            · exact h.ch
            · split
              · exact h.cl hM _
              · exact h.er _
