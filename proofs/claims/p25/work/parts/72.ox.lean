/-! all of a State -/
/-- all that holds of a State -/
def OX (s : Int → Int) (n : Int) : Prop := OKS s n ∧ BK s ∧ XI s
theorem OX.le {s : Int → Int} {n m : Int} (h : OX s n) (hn : n ≤ m) : OX s m := ⟨h.1.le hn, h.2⟩
theorem OX.ca {s : Int → Int} {n : Int} (h : OX s n) (hn : n < 100000) (x v1 v2 : Int) : OX (caF s x v1 v2).2 (n + 1) := ⟨h.1.ca hn _ _ _, h.2.1.ca h.1.1 _ _ _, h.2.2.ca h.1.1 h.1.2.2.2.2 _ _ _⟩
theorem OX.doA {G : Int → Int} {len : Int} : ∀ (k : Nat) (s : Int → Int) (a d t m n : Int), OX s n → n + k ≤ 100000 → OX (doA G len k s a d t m).2.1 (n + k) := by
  intro k
  induction k with
  | zero => intro s a d t m n h _; exact h.le (by omega)
  | succ k ih =>
    intro s a d t m n h hn
    have ho := h.ca (by omega) (hrF G len a) (c1F G len a).2.1 (c2F G len a).2.1
    rw [doA_s]
    generalize caF s (hrF G len a) (c1F G len a).2.1 (c2F G len a).2.1 = q at ho ⊢
    split
    · exact h.le (by omega)
    · split
      · exact h.le (by omega)
      · split
        · exact ho.le (by omega)
        · exact (ih q.2 _ _ _ _ (n + 1) ho (by omega)).le (by omega)
