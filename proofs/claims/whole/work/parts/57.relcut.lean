/-! the relation: a cut -/
theorem Rl.r16 {t t2 : TS} {s : Int → Int} (h : Rl t s) (e : ∀ (x : Nat) (y : Int), x ≠ 16 → t2 x y = t x y) : Rl t2 s := by
  refine h.gen h.1.1 (fun x y _ q => e x y (by omega)) (fun _ _ => rfl) ⟨e 0 9 (by decide), e 0 10 (by decide)⟩ ?_
  have h10 := h.2.2.2.2.2.2
  refine ⟨?_, by rw [e 0 8 (by decide)]; exact h10.2.1, fun i i0 i1 => by rw [e 13 i (by decide)]; exact h10.2.2.1 i i0 i1, fun i i0 i1 => by rw [e 14 i (by decide)]; exact h10.2.2.2.1 i i0 i1, fun i i0 i1 => by rw [e 15 i (by decide)]; exact h10.2.2.2.2 i i0 i1⟩
  rw [e 12 1 (by decide), e 12 2 (by decide), e 12 3 (by decide), e 12 4 (by decide), e 12 5 (by decide), e 12 6 (by decide)]
  exact h10.1
