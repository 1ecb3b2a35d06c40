/-! texts, the twin's way -/
def ff (f : Int → Int) (a d t m : Int) : Int → Int := fun k => if k = 7 then a else if k = 8 then d else if k = 9 then t else if k = 10 then m else f k
theorem ff_7 (f : Int → Int) (a d t m v : Int) : up1 (ff f a d t m) 7 v = ff f v d t m := by
  funext k; unfold up1 ff; by_cases h : k = 7 <;> simp [h]
theorem ff_8 (f : Int → Int) (a d t m v : Int) : up1 (ff f a d t m) 8 v = ff f a v t m := by
  funext k; unfold up1 ff; by_cases h : k = 8
  · subst h; simp
  · simp [h]
theorem ff_9 (f : Int → Int) (a d t m v : Int) : up1 (ff f a d t m) 9 v = ff f a d v m := by
  funext k; unfold up1 ff; by_cases h : k = 9
  · subst h; simp
  · simp [h]
theorem ff_10 (f : Int → Int) (a d t m v : Int) : up1 (ff f a d t m) 10 v = ff f a d t v := by
  funext k; unfold up1 ff; by_cases h : k = 10
  · subst h; simp
  · simp [h]
theorem ff_n (f : Int → Int) (a d t m : Int) {k : Int} (h : k ≠ 7 ∧ k ≠ 8 ∧ k ≠ 9 ∧ k ≠ 10) : ff f a d t m k = f k := by
  unfold ff; rw [if_neg h.1, if_neg h.2.1, if_neg h.2.2.1, if_neg h.2.2.2]
theorem ff_self (f : Int → Int) : ff f (f 7) (f 8) (f 9) (f 10) = f := by
  funext k; unfold ff
  split
  · next h => rw [h]
  · split
    · next h => rw [h]
    · split
      · next h => rw [h]
      · split
        · next h => rw [h]
        · rfl
theorem mt_5 (X : HI) (f : Int → Int) (a d t m : Int) (p b s : Int → Int) : mh X (ff f a d t m) p b s 125 5 = f 5 := by rw [mh_f _ _ _ _ _ 5 5 rfl, ff_n _ _ _ _ _ (by decide)]
theorem mt_7 (X : HI) (f : Int → Int) (a d t m : Int) (p b s : Int → Int) : mh X (ff f a d t m) p b s 125 7 = a := by rw [mh_f _ _ _ _ _ 7 7 rfl]; rfl
theorem mt_8 (X : HI) (f : Int → Int) (a d t m : Int) (p b s : Int → Int) : mh X (ff f a d t m) p b s 125 8 = d := by rw [mh_f _ _ _ _ _ 8 8 rfl]; rfl
theorem mt_9 (X : HI) (f : Int → Int) (a d t m : Int) (p b s : Int → Int) : mh X (ff f a d t m) p b s 125 9 = t := by rw [mh_f _ _ _ _ _ 9 9 rfl]; rfl
theorem mt_10 (X : HI) (f : Int → Int) (a d t m : Int) (p b s : Int → Int) : mh X (ff f a d t m) p b s 125 10 = m := by rw [mh_f _ _ _ _ _ 10 10 rfl]; rfl
theorem mt_u7 (X : HI) (f : Int → Int) (a d t m : Int) (p b s : Int → Int) (v : Int) : up2 (mh X (ff f a d t m) p b s) 125 7 v = mh X (ff f v d t m) p b s := by rw [mh_uf _ _ _ _ _ 7 7 _ rfl, ff_7]
theorem mt_u8 (X : HI) (f : Int → Int) (a d t m : Int) (p b s : Int → Int) (v : Int) : up2 (mh X (ff f a d t m) p b s) 125 8 v = mh X (ff f a v t m) p b s := by rw [mh_uf _ _ _ _ _ 8 8 _ rfl, ff_8]
theorem mt_u9 (X : HI) (f : Int → Int) (a d t m : Int) (p b s : Int → Int) (v : Int) : up2 (mh X (ff f a d t m) p b s) 125 9 v = mh X (ff f a d v m) p b s := by rw [mh_uf _ _ _ _ _ 9 9 _ rfl, ff_9]
theorem mt_u10 (X : HI) (f : Int → Int) (a d t m : Int) (p b s : Int → Int) (v : Int) : up2 (mh X (ff f a d t m) p b s) 125 10 v = mh X (ff f a d t v) p b s := by rw [mh_uf _ _ _ _ _ 10 10 _ rfl, ff_10]
/-- a text: its signs -/
def TX (G : Int → Int) (len : Int) : Prop := 0 ≤ len ∧ len ≤ 60 ∧ ∀ j, 0 ≤ j → j < len → 32 ≤ G j ∧ G j ≤ 126
def hrF (G : Int → Int) (len a : Int) : Int := if a < len then G a else -1
theorem hr_b {G : Int → Int} {len : Int} (h : TX G len) {a : Int} (h0 : 0 ≤ a) : -1 ≤ hrF G len a ∧ hrF G len a ≤ 126 := by
  unfold hrF
  split
  · have := h.2.2 a h0 (by assumption); omega
  · omega
def dgF (G : Int → Int) (len a : Int) : Int := if 48 ≤ hrF G len a ∧ hrF G len a ≤ 57 then 1 else 0
theorem dg_b (G : Int → Int) (len a : Int) : dgF G len a = 0 ∨ dgF G len a = 1 := by unfold dgF; split <;> simp
def nuA (G : Int → Int) (len : Int) : Nat → Int → Int → Int × Int
  | 0, v, a => (v, a)
  | k + 1, v, a => if dgF G len a = 1 then nuA G len k (10 * v + hrF G len a - 48) (a + 1) else (v, a)
/-- a number: whether it is one, it, what follows -/
def nuF (G : Int → Int) (len m a : Int) : Int × Int × Int := if ¬ m = 0 ∧ dgF G len a = 1 then (1, nuA G len 3 0 a) else (0, 0, a)
def tsF (G : Int → Int) (len x m a : Int) : Int := if ¬ m = 0 ∧ hrF G len a = x then 1 else 0
def h2F (x : Int) : Int := if x = 119 ∨ x = 117 then 1 else 0
def h1F (x : Int) : Int := if x = 116 ∨ x = 99 ∨ x = 101 then 1 else 0
def kfF (x : Int) : Int := if h2F x = 1 ∨ h1F x = 1 ∨ x = 120 ∨ x = 111 ∨ x = 115 then 1 else 0
def c1F (G : Int → Int) (len a : Int) : Int × Int × Int :=
  if h2F (hrF G len a) = 1 ∨ h1F (hrF G len a) = 1 then nuF G len (kfF (hrF G len a)) (a + kfF (hrF G len a)) else (kfF (hrF G len a), 0, a + kfF (hrF G len a))
def c2F (G : Int → Int) (len a : Int) : Int × Int × Int :=
  if ¬ (c1F G len a).1 = 0 ∧ h2F (hrF G len a) = 1 then nuF G len (tsF G len 44 (c1F G len a).1 (c1F G len a).2.2) ((c1F G len a).2.2 + tsF G len 44 (c1F G len a).1 (c1F G len a).2.2)
  else ((c1F G len a).1, 0, (c1F G len a).2.2)
def cmd (G : Int → Int) (len a : Int) : Int := tsF G len 59 (c2F G len a).1 (c2F G len a).2.2
def cma (G : Int → Int) (len a : Int) : Int := (c2F G len a).2.2 + cmd G len a
theorem nuA_b {G : Int → Int} {len : Int} : ∀ (k : Nat) (v a : Int), 0 ≤ v → 0 ≤ a → 0 ≤ (nuA G len k v a).1 ∧ (nuA G len k v a).1 < 10 ^ k * (v + 1) ∧ a ≤ (nuA G len k v a).2 ∧ (nuA G len k v a).2 ≤ a + k := by
  intro k
  induction k with
  | zero => intro v a hv ha; unfold nuA; exact ⟨hv, by rw [Int.pow_zero]; omega, Int.le_refl _, by omega⟩
  | succ k ih =>
    intro v a hv ha
    unfold nuA
    split
    · next c =>
      have c2 : 48 ≤ hrF G len a ∧ hrF G len a ≤ 57 := by unfold dgF at c; split at c <;> first | assumption | omega
      obtain ⟨g1, g2, g3, g4⟩ := ih (10 * v + hrF G len a - 48) (a + 1) (by omega) (by omega)
      refine ⟨g1, ?_, by omega, by omega⟩
      have hp : (0 : Int) < 10 ^ k := Int.pow_pos (by decide)
      have e : (10 : Int) ^ (k + 1) * (v + 1) = 10 ^ k * (10 * (v + 1)) := by rw [Int.pow_succ, Int.mul_assoc]
      rw [e]
      have : (10 : Int) ^ k * (10 * v + hrF G len a - 48 + 1) ≤ 10 ^ k * (10 * (v + 1)) := Int.mul_le_mul_of_nonneg_left (by omega) (Int.le_of_lt hp)
      omega
    · have hp : (0 : Int) < 10 ^ (k + 1) := Int.pow_pos (by decide)
      have : 1 * (v + 1) ≤ (10 : Int) ^ (k + 1) * (v + 1) := Int.mul_le_mul_of_nonneg_right (by omega) (by omega)
      exact ⟨hv, by dsimp only; omega, Int.le_refl _, by dsimp only; omega⟩
theorem nuF_b {G : Int → Int} {len : Int} (m : Int) {a : Int} (h0 : 0 ≤ a) : ((nuF G len m a).1 = 0 ∨ (nuF G len m a).1 = 1) ∧ 0 ≤ (nuF G len m a).2.1 ∧ (nuF G len m a).2.1 ≤ 999 ∧ a ≤ (nuF G len m a).2.2 ∧ (nuF G len m a).2.2 ≤ a + 3 := by
  unfold nuF
  split
  · obtain ⟨g1, g2, g3, g4⟩ := nuA_b (G := G) (len := len) 3 0 a (by omega) h0
    have e : (10 : Int) ^ 3 * (0 + 1) = 1000 := by decide
    rw [e] at g2
    exact ⟨Or.inr rfl, g1, by show (nuA G len 3 0 a).1 ≤ 999; omega, g3, g4⟩
  · exact ⟨Or.inl rfl, Int.le_refl _, by dsimp only; omega, Int.le_refl _, by dsimp only; omega⟩
theorem ts_b (G : Int → Int) (len x m a : Int) : tsF G len x m a = 0 ∨ tsF G len x m a = 1 := by unfold tsF; split <;> simp
theorem kf_b (x : Int) : kfF x = 0 ∨ kfF x = 1 := by unfold kfF; split <;> simp
theorem h2_b (x : Int) : h2F x = 0 ∨ h2F x = 1 := by unfold h2F; split <;> simp
theorem h1_b (x : Int) : h1F x = 0 ∨ h1F x = 1 := by unfold h1F; split <;> simp
theorem c1_b {G : Int → Int} {len a : Int} (h0 : 0 ≤ a) : ((c1F G len a).1 = 0 ∨ (c1F G len a).1 = 1) ∧ 0 ≤ (c1F G len a).2.1 ∧ (c1F G len a).2.1 ≤ 999 ∧ a + kfF (hrF G len a) ≤ (c1F G len a).2.2 ∧ (c1F G len a).2.2 ≤ a + 4 := by
  have hk := kf_b (hrF G len a)
  unfold c1F
  split
  · obtain ⟨g1, g2, g3, g4, g5⟩ := nuF_b (G := G) (len := len) (kfF (hrF G len a)) (a := a + kfF (hrF G len a)) (by omega)
    exact ⟨g1, g2, g3, g4, by omega⟩
  · exact ⟨hk, by dsimp only; omega, by dsimp only; omega, Int.le_refl _, by dsimp only; omega⟩
theorem c2_b {G : Int → Int} {len a : Int} (h0 : 0 ≤ a) : ((c2F G len a).1 = 0 ∨ (c2F G len a).1 = 1) ∧ 0 ≤ (c2F G len a).2.1 ∧ (c2F G len a).2.1 ≤ 999 ∧ a + kfF (hrF G len a) ≤ (c2F G len a).2.2 ∧ (c2F G len a).2.2 ≤ a + 8 := by
  have hk := kf_b (hrF G len a)
  obtain ⟨b1, b2, b3, b4, b5⟩ := c1_b (G := G) (len := len) h0
  unfold c2F
  split
  · have ht := ts_b G len 44 (c1F G len a).1 (c1F G len a).2.2
    obtain ⟨g1, g2, g3, g4, g5⟩ := nuF_b (G := G) (len := len) (tsF G len 44 (c1F G len a).1 (c1F G len a).2.2) (a := (c1F G len a).2.2 + tsF G len 44 (c1F G len a).1 (c1F G len a).2.2) (by omega)
    exact ⟨g1, g2, g3, by omega, by omega⟩
  · exact ⟨b1, by dsimp only; omega, by dsimp only; omega, b4, by dsimp only; omega⟩
theorem cmd_b (G : Int → Int) (len a : Int) : cmd G len a = 0 ∨ cmd G len a = 1 := ts_b _ _ _ _ _
theorem cma_b {G : Int → Int} {len a : Int} (h0 : 0 ≤ a) : a ≤ cma G len a ∧ cma G len a ≤ a + 9 ∧ (cmd G len a = 1 → a + 1 ≤ cma G len a) := by
  have hk := kf_b (hrF G len a)
  have := cmd_b G len a
  obtain ⟨b1, b2, b3, b4, b5⟩ := c2_b (G := G) (len := len) h0
  unfold cma
  exact ⟨by omega, by omega, fun _ => by omega⟩
/-- what a command does -/
def caF (s : Int → Int) (x v1 v2 : Int) : Int × (Int → Int) :=
  if x = 119 then asF s v1 v2 0 else if x = 117 then asF s v1 v2 1 else if x = 116 then ltF s v1 else if x = 120 then ofF s else if x = 111 then opF s else if x = 115 then chF s
  else if x = 99 then clF s v1 else erF s v1
theorem OKS.ca {s : Int → Int} {n : Int} (h : OKS s n) (hn : n < 100000) (x v1 v2 : Int) : OKS (caF s x v1 v2).2 (n + 1) := by
  unfold caF
  split
  · exact (h.as _ _ _).le (by omega)
  · split
    · exact (h.as _ _ _).le (by omega)
    · split
      · exact (h.lt _).le (by omega)
      · split
        · exact h.of.le (by omega)
        · split
          · exact h.op.le (by omega)
          · split
            · exact h.ch.le (by omega)
            · split
              · exact (h.cl _).le (by omega)
              · exact h.er hn _
theorem r_ca {s : Int → Int} {n : Int} (h : OKS s n) (x v1 v2 : Int) : InR (caF s x v1 v2).1 := by
  unfold caF
  exact r_ite (fun _ => r_as h.1 _ _ _) (fun _ => r_ite (fun _ => r_as h.1 _ _ _) (fun _ => r_ite (fun _ => r_lt h _) (fun _ => r_ite (fun _ => r_of _) (fun _ => r_ite (fun _ => r_op h.1) (fun _ => r_ite (fun _ => r_ch h.1) (fun _ => r_ite (fun _ => r_cl _ _) (fun _ => r_er h.1 _)))))))
/-- where the commands end: the place of the one that is not possible or -1, the row, at, done, told, isForm -/
abbrev DR : Type := Int × (Int → Int) × Int × Int × Int × Int
def doA (G : Int → Int) (len : Int) : Nat → (Int → Int) → Int → Int → Int → Int → DR
  | 0, s, a, d, t, m => ⟨-1, s, a, d, t, m⟩
  | k + 1, s, a, d, t, m =>
    if len ≤ a then ⟨-1, s, a, d, t, m⟩
    else if cmd G len a = 0 then ⟨a, s, cma G len a, d, 0, 0⟩
    else if (caF s (hrF G len a) (c1F G len a).2.1 (c2F G len a).2.1).1 < 0 then ⟨a, (caF s (hrF G len a) (c1F G len a).2.1 (c2F G len a).2.1).2, cma G len a, d, (caF s (hrF G len a) (c1F G len a).2.1 (c2F G len a).2.1).1, 1⟩
    else doA G len k (caF s (hrF G len a) (c1F G len a).2.1 (c2F G len a).2.1).2 (cma G len a) (d + 1) (caF s (hrF G len a) (c1F G len a).2.1 (c2F G len a).2.1).1 1
theorem doA_b {G : Int → Int} {len : Int} : ∀ (k : Nat) (s : Int → Int) (a d t m n : Int), OKS s n → n + k ≤ 100000 → 0 ≤ a → 0 ≤ d → InR t ∨ len ≤ a ∨ True →
    OKS (doA G len k s a d t m).2.1 (n + k) ∧ d ≤ (doA G len k s a d t m).2.2.2.1 ∧ (doA G len k s a d t m).2.2.2.1 ≤ d + k ∧ ((doA G len k s a d t m).1 = -1 ∨ (0 ≤ (doA G len k s a d t m).1 ∧ (doA G len k s a d t m).1 < len ∧ InR (doA G len k s a d t m).2.2.2.2.1 ∧ ((doA G len k s a d t m).2.2.2.2.2 = 0 ∨ (doA G len k s a d t m).2.2.2.2.2 = 1))) := by
  intro k
  induction k with
  | zero => intro s a d t m n h hn ha hd _; exact ⟨h.le (by omega), Int.le_refl _, by show d ≤ _; omega, Or.inl rfl⟩
  | succ k ih =>
    intro s a d t m n h hn ha hd _
    unfold doA
    split
    · exact ⟨h.le (by omega), Int.le_refl _, by dsimp only; omega, Or.inl rfl⟩
    · next c1 =>
      split
      · exact ⟨h.le (by omega), Int.le_refl _, by dsimp only; omega, Or.inr ⟨ha, by dsimp only; omega, (⟨by decide, by decide⟩ : InR 0), Or.inl rfl⟩⟩
      · have ho := h.ca (by omega) (hrF G len a) (c1F G len a).2.1 (c2F G len a).2.1
        have hr := r_ca h (hrF G len a) (c1F G len a).2.1 (c2F G len a).2.1
        have hb := cma_b (G := G) (len := len) ha
        generalize caF s (hrF G len a) (c1F G len a).2.1 (c2F G len a).2.1 = q at ho hr ⊢
        split
        · exact ⟨ho.le (by omega), Int.le_refl _, by dsimp only; omega, Or.inr ⟨ha, by dsimp only; omega, hr, Or.inr rfl⟩⟩
        · obtain ⟨g1, g2, g3, g4⟩ := ih q.2 (cma G len a) (d + 1) q.1 1 (n + 1) ho (by omega) (by omega) (by omega) (Or.inr (Or.inr trivial))
          exact ⟨g1.le (by omega), by omega, by omega, g4⟩
def dorF (G : Int → Int) (len : Int) (s : Int → Int) (t m : Int) : DR := doA G len 61 s 0 0 t m
def faF (G : Int → Int) (len : Int) (s : Int → Int) (w t m : Int) : Int :=
  if ¬ (0 ≤ w ∧ w ≤ 2) then -1 else if ¬ (0 ≤ (dorF G len s t m).1 ∧ (w < 2 ∨ ¬ (dorF G len s t m).2.2.2.2.2 = 0)) then -4 else if w = 0 then (dorF G len s t m).1 else if w = 1 then (if (dorF G len s t m).2.2.2.2.2 = 0 then 1 else 2) else (dorF G len s t m).2.2.2.2.1
def pyF (G : Int → Int) (len : Int) (s : Int → Int) (t m : Int) : Int × (Int → Int) := (if (dorF G len s t m).1 < 0 then (dorF G len s t m).2.2.2.1 else -2, (dorF G len s t m).2.1)
