/-! the class's writing as functions of a State's rows -/
theorem mkC_n (t : TS) (c k : Int) {x : Nat} (y : Int) (h : x ≠ 2) : mkC t c k x y = t x y := by
  unfold mkC
  split
  · exact ut_n _ _ (fun g => h g.1)
  · rfl
theorem mkC_at (t : TS) {c : Int} (k : Int) (h : 0 ≤ c ∧ c < 48) (y : Int) : mkC t c k 2 y = if y = c then k else t 2 y := by
  unfold mkC
  rw [if_pos h]
  unfold ut
  simp
def odC (t : TS) : Int := if ¬ ruF t 0 = 0 ∧ ¬ ruF t 0 = 3 then 0 else if pcF t (rkF t 0) = -1 ∨ ¬ spF t (pcF t (rkF t 0)) = rsF t 0 then 1 else 0
def fn0 (t : TS) : TS := ut t 11 0 0
def fn1 (t : TS) : TS := mkC (fn0 t) (fn0 t 11 3) 2
def fn2 (t : TS) : TS := mkC (fn1 t) (fn1 t 11 5) 0
def fn3 (t : TS) : TS := if fn1 t 11 1 = 0 then fn1 t else fn2 t
def fnC (t : TS) : TS := if fn3 t 11 2 = 1 ∨ fn3 t 11 2 = 2 then ut (fn3 t) 12 2 (fn3 t 12 2 + 1) else fn3 t
def gn1 (t : TS) (k : Int) : TS := ut t 11 7 (t 11 7 - k)
def gn2 (t : TS) : TS := mkC t (t 11 5) 2
def gn3 (t : TS) : TS := ut (gn2 t) 12 6 (gn2 t 12 6 + 1)
def gn4 (t : TS) (k : Int) : TS := if kdF (gn1 t k) (gn1 t k 11 5) = 1 ∧ gn1 t k 11 7 ≤ gn1 t k 11 6 then gn3 (gn1 t k) else gn1 t k
def gnC (t : TS) (k : Int) : TS := if gn4 t k 11 7 ≤ 0 then fnC (gn4 t k) else gn4 t k
def tr1 (t : TS) : TS := mkC (fn0 t) (fn0 t 11 3) 3
def tr2 (t : TS) : TS := if ¬ tr1 t 11 1 = 0 ∧ tr1 t 11 7 < tr1 t 11 6 then mkC (tr1 t) (tr1 t 11 4) 3 else tr1 t
def trC (t : TS) : TS := if kdF (tr2 t) (tr2 t 11 5) = 1 then mkC (tr2 t) (tr2 t 11 5) 0 else tr2 t
def bw1 (t : TS) : TS := ut t 11 0 1
def bw2 (t : TS) : TS := ut (bw1 t) 11 1 (lat (t 0 10))
def bw3 (t : TS) : TS := ut (bw2 t) 11 2 (ruF (bw2 t) 0)
def bw4 (t : TS) : TS := ut (bw3 t) 11 3 (t 0 9 * 24 + t 0 10)
def bw5 (t : TS) : TS := ut (bw4 t) 11 4 (t 0 9 * 24 + ear (lin (t 0 10)))
def bw6 (t : TS) : TS := ut (bw5 t) 11 5 (t 0 9 * 24 + (16 + lin (t 0 10)))
def bwO (t : TS) : Int := t 13 (lat (t 0 10)) + t 14 (lin (t 0 10)) + t 15 (t 0 9) / t 13 3
def bw7 (t : TS) : TS := ut (bw6 t) 11 6 (bwO t)
def bw8 (t : TS) : TS := ut (bw7 t) 11 7 (bwO t)
def bw9 (t : TS) : TS := ut (bw8 t) 0 10 (t 0 10 + 1)
def bwA (t : TS) : TS := ut (bw9 t) 12 1 (t 12 1 + 1)
def bwB (t : TS) : TS := bgC (bwA t) (t 0 9 * 24 + t 0 10) (rkF (bwA t) 0) (rvF (bwA t) 0) (t 12 1 + 1)
def bwD (t : TS) : TS := bbC (bwB t) (t 0 9 * 24 + ear (lin (t 0 10))) (t 0 9 * 24 + (16 + lin (t 0 10)))
def bwE (t : TS) : TS := ut (bwD t) 11 7 (bwD t 11 7 + 2)
def bwC (t : TS) : TS := if lat (t 0 10) = 1 ∧ t 13 2 = 1 ∧ kdF (bwB t) (t 0 9 * 24 + ear (lin (t 0 10))) = 2 then bwE t else bwB t
/-- what the statics hold -/
def EN (E : ET) : Prop := eN E 0 = 4 ∧ eN E 1 = 16 ∧ eN E 2 = 16 ∧ eN E 3 = 4 ∧ eN E 4 = 4
def fiF (w : Int) : Int := if w = 0 then 2 else if w = 1 then 5 else if w = 2 then 1 else 3
def leF (w : Int) : Int := if w = 2 then 0 else 1
def XH (hi : HI) : Prop := (∀ j : Nat, j < 4 → hi 1000 j = fiF (j : Int)) ∧ (∀ j : Nat, j < 16 → hi 1001 j = lin (j : Int)) ∧ (∀ j : Nat, j < 16 → hi 1002 j = lat (j : Int)) ∧ (∀ j : Nat, j < 4 → hi 1003 j = leF (j : Int)) ∧ (∀ j : Nat, j < 4 → hi 1004 j = moF (j : Int))
/-- the writing's rows are in their ranges -/
def WR (t : TS) : Prop := (∀ k : Int, 0 ≤ k → k < 8 → InR (t 11 k)) ∧ (t 11 0 = 0 ∨ t 11 0 = 1) ∧ ((t 11 1 = 0 ∨ t 11 1 = 1) ∧ 0 ≤ t 11 2 ∧ t 11 2 ≤ 3)
theorem fn1_n (t : TS) {x : Nat} (y : Int) (h : x ≠ 2) (h2 : ¬ (x = 11 ∧ y = 0)) : fn1 t x y = t x y := by
  unfold fn1 fn0; rw [mkC_n _ _ _ _ h, ut_n _ _ h2]
theorem fn2_n (t : TS) {x : Nat} (y : Int) (h : x ≠ 2) (h2 : ¬ (x = 11 ∧ y = 0)) : fn2 t x y = t x y := by
  unfold fn2; rw [mkC_n _ _ _ _ h, fn1_n _ _ h h2]
theorem fn3_n (t : TS) {x : Nat} (y : Int) (h : x ≠ 2) (h2 : ¬ (x = 11 ∧ y = 0)) : fn3 t x y = t x y := by
  unfold fn3; split
  · exact fn1_n _ _ h h2
  · exact fn2_n _ _ h h2
theorem gn1_n (t : TS) (k : Int) {x : Nat} (y : Int) (h2 : ¬ (x = 11 ∧ y = 7)) : gn1 t k x y = t x y := ut_n _ _ h2
theorem gn3_n (t : TS) {x : Nat} (y : Int) (h : x ≠ 2) (h2 : ¬ (x = 12 ∧ y = 6)) : gn3 t x y = t x y := by
  unfold gn3 gn2; rw [ut_n _ _ h2, mkC_n _ _ _ _ h]
theorem gn4_n (t : TS) (k : Int) {x : Nat} (y : Int) (h : x ≠ 2) (h2 : ¬ (x = 12 ∧ y = 6)) (h3 : ¬ (x = 11 ∧ y = 7)) : gn4 t k x y = t x y := by
  unfold gn4; split
  · rw [gn3_n _ _ h h2, gn1_n _ _ _ h3]
  · exact gn1_n _ _ _ h3
theorem gn4_7 (t : TS) (k : Int) : gn4 t k 11 7 = t 11 7 - k := by
  unfold gn4; split
  · rw [gn3_n _ _ (by decide) (by decide)]; exact ut_s _ _ _ _
  · exact ut_s _ _ _ _
theorem tr1_n (t : TS) {x : Nat} (y : Int) (h : x ≠ 2) (h2 : ¬ (x = 11 ∧ y = 0)) : tr1 t x y = t x y := by
  unfold tr1 fn0; rw [mkC_n _ _ _ _ h, ut_n _ _ h2]
theorem tr2_n (t : TS) {x : Nat} (y : Int) (h : x ≠ 2) (h2 : ¬ (x = 11 ∧ y = 0)) : tr2 t x y = t x y := by
  unfold tr2; split
  · rw [mkC_n _ _ _ _ h, tr1_n _ _ h h2]
  · exact tr1_n _ _ h h2
theorem fn0_CR {t : TS} (h : CR t) : CR (fn0 t) := by
  intro c h0 h1
  unfold fn0
  rw [ut_n _ _ (by simp), ut_n _ _ (by simp), ut_n _ _ (by simp), ut_n _ _ (by simp)]
  exact h c h0 h1
theorem tr2_CR {t : TS} (h : CR t) : CR (tr2 t) := by
  have h1 : CR (tr1 t) := mkC_CR (fn0_CR h) _ ⟨by decide, by decide⟩
  unfold tr2; split
  · exact mkC_CR h1 _ ⟨by decide, by decide⟩
  · exact h1
