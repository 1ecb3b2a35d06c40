/-! the twin's acts: power, blocks, requests -/
theorem pa2_gi {a b : Nat} (h : b ≠ a) (hi : HI) (f g : Int → Int) {j : Int} (h0 : 0 ≤ j) : pa a (pa b hi g) f b j.toNat = g j := by rw [pa_gn _ _ _ h, pa_gi _ _ _ h0]
theorem pa2_ui {a b : Nat} (h : b ≠ a) (hi : HI) (f g : Int → Int) {j : Int} (v : Int) (h0 : 0 ≤ j) : up2 (pa a (pa b hi g) f) b j.toNat v = pa a (pa b hi (up1 g j v)) f := by rw [pa_un _ _ _ _ h, pa_ui _ _ _ _ h0]
theorem in0 {p : Prop} [Decidable p] : ((if p then (1 : Int) else 0) = 0) ↔ ¬ p := by by_cases h : p <;> simp [h]
theorem in_r {p : Prop} [Decidable p] : InR (if p then (1 : Int) else 0) := by by_cases h : p <;> simp only [h, if_true, if_false] <;> exact ⟨by decide, by decide⟩
theorem lsA_lt (st t : Int → Int) : ∀ k : Nat, k ≤ 12 → lsA st t k < 2 ^ 12 := by
  intro k
  induction k with
  | zero => intro _; show 0 < 2 ^ 12; decide
  | succ k ih =>
    intro hk
    unfold lsA
    refine Nat.or_lt_two_pow (ih (by omega)) ?_
    split
    · rw [Nat.one_shiftLeft]; exact Nat.pow_lt_pow_right (by decide) (by omega)
    · decide
theorem lsF_lt (s : Int → Int) : lsF s < 4096 := lsA_lt _ _ 12 (by omega)
theorem onA_b (a : Nat) : ∀ k : Nat, 0 ≤ onA a k ∧ onA a k ≤ k := by
  intro k
  induction k with
  | zero => exact ⟨Int.le_refl _, Int.le_refl _⟩
  | succ k ih =>
    unfold onA
    have : (a / 2 ^ k) &&& 1 ≤ 1 := Nat.and_le_right
    omega
section TWIN4
variable {E : ET} {hi : HI} {hr : HR} {s z : Int → Int}
end TWIN4
