/-! the relation: a block is erased -/
theorem my_eq {s : Int → Int} {b m0 : Int} (hm : m0 = 0 ∨ m0 = 1) : ∀ k : Nat, (myA s b m0 k = 0 ∨ myA s b m0 k = 1) ∧ (myA s b m0 k = 1 ↔ (m0 = 1 ∧ ctA s b k = 0)) := by
  intro k
  induction k with
  | zero => exact ⟨hm, ⟨fun g => ⟨g, rfl⟩, fun g => g.1⟩⟩
  | succ k ih =>
    have hc := ctA_b s b k
    have hi := ip_b s (24 * b + (k : Int))
    have e : ctA s b (k + 1) = ctA s b k + ipF s (24 * b + (k : Int)) := rfl
    unfold myA
    by_cases c : myA s b m0 k = 1 ∧ ipF s (24 * b + (k : Int)) = 0
    · rw [if_pos c]
      exact ⟨Or.inr rfl, ⟨fun _ => ⟨(ih.2.mp c.1).1, by have := (ih.2.mp c.1).2; omega⟩, fun _ => rfl⟩⟩
    · rw [if_neg c]
      refine ⟨Or.inl rfl, ⟨fun g => absurd g (by decide), fun g => absurd ⟨ih.2.mpr ⟨g.1, by omega⟩, by omega⟩ c⟩⟩
theorem cbA_at (s : Int → Int) (b : Int) : ∀ (k : Nat) (x : Int), cbA s b k x = if 152 + 4 * (8 * b) ≤ x ∧ x < 152 + 4 * (8 * b + (k : Int)) then 0 else s x := by
  intro k
  induction k with
  | zero => intro x; rw [if_neg (by omega)]; rfl
  | succ k ih =>
    intro x
    unfold cbA clB
    rw [zA_at, ih]
    by_cases c : 152 + 4 * (8 * b + (k : Int)) ≤ x ∧ x < 152 + 4 * (8 * b + (k : Int)) + ((4 : Nat) : Int)
    · rw [if_pos c, if_pos (by omega)]
    · rw [if_neg c]
      by_cases d : 152 + 4 * (8 * b) ≤ x ∧ x < 152 + 4 * (8 * b + (k : Int))
      · rw [if_pos d, if_pos (by omega)]
      · rw [if_neg d, if_neg (by omega)]
theorem er1_c (s : Int → Int) {b c q : Int} (hb : b = 0 ∨ b = 1) (c0 : 0 ≤ c) (c1 : c < 48) (q0 : 0 ≤ q) (q1 : q < 4) : er1 s b (atI c + q) = if 24 * b ≤ c ∧ c < 24 * b + 24 then 0 else s (atI c + q) := by
  unfold er1
  rw [cbA_at, zA_at]
  unfold atI
  by_cases d : c % 24 < 16
  · rw [if_pos d]
    by_cases e : 24 * b ≤ c ∧ c < 24 * b + 24
    · rw [if_pos e, if_neg (by omega), if_pos (by omega)]
    · rw [if_neg e, if_neg (by omega), if_neg (by omega)]
  · rw [if_neg d]
    by_cases e : 24 * b ≤ c ∧ c < 24 * b + 24
    · rw [if_pos e, if_pos (by omega)]
    · rw [if_neg e, if_neg (by omega), if_neg (by omega)]
theorem bkC_n (t : TS) (b : Int) {x : Nat} (y : Int) (h : x ≠ 2) : ∀ k : Nat, bkC t b k x y = t x y := by
  intro k
  induction k with
  | zero => rfl
  | succ k ih => unfold bkC; rw [mkC_n _ _ _ _ h, ih]
theorem bkC_at (t : TS) {b : Int} (hb : b = 0 ∨ b = 1) (y : Int) : ∀ k : Nat, k ≤ 24 → bkC t b k 2 y = if 24 * b ≤ y ∧ y < 24 * b + (k : Int) then 0 else t 2 y := by
  intro k
  induction k with
  | zero => intro _; rw [if_neg (by omega)]; rfl
  | succ k ih =>
    intro hk
    unfold bkC
    rw [mkC_at _ _ ⟨by omega, by omega⟩, ih (by omega)]
    by_cases c : y = b * 24 + (k : Int)
    · rw [if_pos c, if_pos (by omega)]
    · rw [if_neg c]
      by_cases d : 24 * b ≤ y ∧ y < 24 * b + (k : Int)
      · rw [if_pos d, if_pos (by omega)]
      · rw [if_neg d, if_neg (by omega)]
theorem Rl.blank {t : TS} {s : Int → Int} (h : Rl t s) {b : Int} (hb : b = 0 ∨ b = 1) (hn : ¬ b = s 2) : Rl (bkC t b 24) (er1 s b) := by
  have hM := h.1.1
  have h2 := hM.2.1
  have p1 := hM.2.2.2.1
  have p0 := hM.z 248 (by unfold xc; omega)
  have hl := lin_b p0 (by omega)
  have he := ear_b hl.1 hl.2
  have et : ∀ (x : Nat) (y : Int), ¬ x = 2 → bkC t b 24 x y = t x y := fun x y q => bkC_n t b y q 24
  have ek : ∀ y : Int, bkC t b 24 2 y = if 24 * b ≤ y ∧ y < 24 * b + 24 then 0 else t 2 y := fun y => bkC_at t hb y 24 (by omega)
  have es : ∀ x : Int, x < 24 ∨ 216 ≤ x → er1 s b x = s x := fun x q => er1_x s hb q
  have ew : iwF (er1 s b) = iwF s := by unfold iwF; rw [es 253 (by decide), es 254 (by decide)]
  have h5 := h.2.1.2.2
  have hW := h.2.2.2.2.2.1
  refine h.wr (er1_M hM hb) ⟨by rw [es 253 (by decide)]; exact h.1.2.1, by rw [es 254 (by decide)]; exact h.1.2.2⟩ (fun x y q => et x y (by omega)) (fun x q _ _ => es x (by omega)) (fun c c0 c1 => ?_)
    ⟨fun k k0 k1 => by rw [et 11 k (by decide)]; exact h5.1 k k0 k1, by rw [et 11 0 (by decide)]; exact h5.2.1, by rw [et 11 1 (by decide), et 11 2 (by decide)]; exact h5.2.2⟩ (fun c c0 c1 => ?_)
    (fun p q0 q1 => by rw [ek, if_neg (by omega)]) ⟨?_, fun q => ?_, fun c c0 c1 c2 c3 => ?_⟩ ?_
  · have g := h.2.1.1 c c0 c1
    rw [ek, et 3 _ (by decide), et 4 _ (by decide), et 5 _ (by decide)]
    refine ⟨?_, g.2⟩
    split
    · exact ⟨by decide, by decide⟩
    · exact g.1
  · have b0 := er1_c s hb c0 c1 (show (0 : Int) ≤ 0 by decide) (by decide)
    simp only [Int.add_zero] at b0
    have b1 := er1_c s hb c0 c1 (show (0 : Int) ≤ 1 by decide) (by decide)
    have b2 := er1_c s hb c0 c1 (show (0 : Int) ≤ 2 by decide) (by decide)
    have b3 := er1_c s hb c0 c1 (show (0 : Int) ≤ 3 by decide) (by decide)
    have g := h.2.2.1 c c0 c1
    rw [ek, et 3 _ (by decide), et 4 _ (by decide), et 5 _ (by decide), b0, b1, b2, b3]
    by_cases e : 24 * b ≤ c ∧ c < 24 * b + 24
    · rw [if_pos e, if_pos e]
      refine ⟨rfl, fun q => ?_⟩
      rcases q with q | q
      · exact absurd q (by decide)
      · exact absurd rfl q.2
    · rw [if_neg e, if_neg e, if_neg e, if_neg e, if_neg e]; exact g
  · rw [et 11 0 (by decide), ew]; exact hW.1
  · rw [ew] at q
    have g := hW.2.1 q
    unfold RWb at g ⊢
    rw [es 2 (by decide), es 248 (by decide), es 249 (by decide), es 250 (by decide), es 251 (by decide), es 252 (by decide), es 253 (by decide), es 254 (by decide), es 255 (by decide), et 11 1 (by decide), et 11 2 (by decide), et 11 3 (by decide), et 11 4 (by decide), et 11 5 (by decide), et 11 6 (by decide), et 11 7 (by decide), et 0 10 (by decide),
      et 3 _ (by decide), et 4 _ (by decide), et 5 _ (by decide), ek, ek, if_neg (show ¬ (24 * b ≤ 24 * s 2 + s 248 ∧ 24 * s 2 + s 248 < 24 * b + 24) by omega), if_neg (show ¬ (24 * b ≤ 24 * s 2 + (16 + lin (s 248)) ∧ 24 * s 2 + (16 + lin (s 248)) < 24 * b + 24) by omega)]
    exact g
  · rw [ek] at c3
    split at c3
    · exact absurd c3 (by decide)
    · rw [ew, es 253 (by decide), es 2 (by decide), es 248 (by decide)]
      exact hW.2.2 c c0 c1 c2 c3
  · obtain ⟨⟨v1, v2, v3, v4, v5, v6⟩, -⟩ := h.2.2.2.2.2.2
    rw [et 12 1 (by decide), et 12 2 (by decide), et 12 3 (by decide), et 12 4 (by decide), et 12 5 (by decide), et 12 6 (by decide), es 3 (by decide), es 9 (by decide)]
    exact ⟨rfl, v2, rfl, rfl, rfl, v6⟩
