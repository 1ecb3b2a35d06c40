/-! the twin's whole heap -/
abbrev mh (X : HI) (f p b s : Int → Int) : HI := pa 126 (pa 127 (pa 128 (pa 125 X f) p) b) s
theorem mh_f (X : HI) (f p b s : Int → Int) (k : Nat) (kk : Int) (h : ((k : Nat) : Int) = kk) : mh X f p b s 125 k = f kk := by
  unfold mh
  rw [pa_gn _ _ _ (by decide), pa_gn _ _ _ (by decide), pa_gn _ _ _ (by decide), pa_g, h]
theorem mh_uf (X : HI) (f p b s : Int → Int) (k : Nat) (kk v : Int) (h : ((k : Nat) : Int) = kk) : up2 (mh X f p b s) 125 k v = mh X (up1 f kk v) p b s := by
  rw [pa_un _ _ _ _ (by decide), pa_un _ _ _ _ (by decide), pa_un _ _ _ _ (by decide), pa_u, h]
theorem mh_g126 (X : HI) (f p b s : Int → Int) {j : Int} (h : 0 ≤ j) : mh X f p b s 126 j.toNat = s j := pa_gi _ _ _ h
theorem mh_g127 (X : HI) (f p b s : Int → Int) {j : Int} (h : 0 ≤ j) : mh X f p b s 127 j.toNat = b j := by unfold mh; rw [pa_gn _ _ _ (by decide), pa_gi _ _ _ h]
theorem mh_g128 (X : HI) (f p b s : Int → Int) {j : Int} (h : 0 ≤ j) : mh X f p b s 128 j.toNat = p j := by unfold mh; rw [pa_gn _ _ _ (by decide), pa_gn _ _ _ (by decide), pa_gi _ _ _ h]
theorem mh_x (X : HI) (f p b s : Int → Int) {a : Nat} (k : Nat) (h : a < 125 ∨ 128 < a) : mh X f p b s a k = X a k := by
  unfold mh
  rw [pa_gn _ _ _ (by omega), pa_gn _ _ _ (by omega), pa_gn _ _ _ (by omega), pa_gn _ _ _ (by omega)]
theorem mh_g129 (X : HI) (f p b s : Int → Int) (j : Nat) : mh X f p b s 129 j = X 129 j := mh_x _ _ _ _ _ _ (by omega)
theorem mh_u126 (X : HI) (f p b s : Int → Int) (j v : Int) (h : 0 ≤ j) : up2 (mh X f p b s) 126 j.toNat v = mh X f p b (up1 s j v) := pa_ui _ _ _ _ h
theorem mh_u127 (X : HI) (f p b s : Int → Int) (j v : Int) (h : 0 ≤ j) : up2 (mh X f p b s) 127 j.toNat v = mh X f p (up1 b j v) s := by rw [pa_un _ _ _ _ (by decide), pa_ui _ _ _ _ h]
theorem mh_u128 (X : HI) (f p b s : Int → Int) (j v : Int) (h : 0 ≤ j) : up2 (mh X f p b s) 128 j.toNat v = mh X f (up1 p j v) b s := by rw [pa_un _ _ _ _ (by decide), pa_un _ _ _ _ (by decide), pa_ui _ _ _ _ h]
theorem mh_130 (X : HI) (f p b s w : Int → Int) : pa 126 (pa 130 (pa 127 (pa 128 (pa 125 X f) p) b) w) s = mh (pa 130 X w) f p b s := by
  rw [pa_comm _ _ _ (show (130 : Nat) ≠ 127 by decide), pa_comm _ _ _ (show (130 : Nat) ≠ 128 by decide), pa_comm _ _ _ (show (130 : Nat) ≠ 125 by decide)]
abbrev fd (hi : HI) : Int → Int := fun k => hi 125 k.toNat
abbrev sg (hi : HI) : Int → Int := fun k => hi 126 k.toNat
abbrev bn (hi : HI) : Int → Int := fun k => hi 127 k.toNat
abbrev pst (hi : HI) : Int → Int := fun k => hi 128 k.toNat
theorem mh_self (hi : HI) : mh hi (fd hi) (pst hi) (bn hi) (sg hi) = hi := by
  unfold mh
  rw [pa_self 125 hi, pa_self 128 hi, pa_self 127 hi, pa_self 126 hi]
/-- one row copied to another -/
def bgnA (s b : Int → Int) : Nat → Int → Int
  | 0 => b
  | k + 1 => up1 (bgnA s b k) (k : Int) (s (k : Int))
theorem bgnA_at (s b : Int → Int) : ∀ (n : Nat) (x : Int), bgnA s b n x = if 0 ≤ x ∧ x < n then s x else b x := by
  intro n
  induction n with
  | zero => intro x; rw [if_neg (by omega)]; rfl
  | succ n ih =>
    intro x
    unfold bgnA up1
    by_cases e : x = (n : Int)
    · rw [if_pos e, if_pos (by omega), e]
    · rw [if_neg e, ih]
      by_cases e2 : 0 ≤ x ∧ x < (n : Int)
      · rw [if_pos e2, if_pos (by omega)]
      · rw [if_neg e2, if_neg (by omega)]
def shA (p : Int → Int) : Nat → Int → Int
  | 0 => p
  | k + 1 => up1 (shA p k) (k : Int) (shA p k ((k : Int) + 256))
theorem shA_at (p : Int → Int) : ∀ (n : Nat) (x : Int), shA p n x = if 0 ≤ x ∧ x < n then p (x + 256) else p x := by
  intro n
  induction n with
  | zero => intro x; rw [if_neg (by omega)]; rfl
  | succ n ih =>
    intro x
    unfold shA up1
    by_cases e : x = (n : Int)
    · rw [if_pos e, if_pos (by omega), ih, if_neg (by omega), e]
    · rw [if_neg e, ih]
      by_cases e2 : 0 ≤ x ∧ x < (n : Int)
      · rw [if_pos e2, if_pos (by omega)]
      · rw [if_neg e2, if_neg (by omega)]
def psA (p b : Int → Int) (a : Int) : Nat → Int → Int
  | 0 => p
  | k + 1 => up1 (psA p b a k) (a + (k : Int)) (b (k : Int))
theorem psA_at (p b : Int → Int) (a : Int) : ∀ (n : Nat) (x : Int), psA p b a n x = if a ≤ x ∧ x < a + n then b (x - a) else p x := by
  intro n
  induction n with
  | zero => intro x; rw [if_neg (by omega)]; rfl
  | succ n ih =>
    intro x
    unfold psA up1
    by_cases e : x = a + (n : Int)
    · rw [if_pos e, if_pos (by omega)]; congr 1; omega
    · rw [if_neg e, ih]
      by_cases e2 : a ≤ x ∧ x < a + (n : Int)
      · rw [if_pos e2, if_pos (by omega)]
      · rw [if_neg e2, if_neg (by omega)]
/-- a state is pushed: n states before, n2 behind -/
def PUSH (n : Int) (p p2 b : Int → Int) (n2 : Int) : Prop :=
  (n = 4 → n2 = 4 ∧ (∀ k, 0 ≤ k → k < 768 → p2 k = p (k + 256)) ∧ ∀ k, 0 ≤ k → k < 256 → p2 (768 + k) = b k) ∧
  (n < 4 → n2 = n + 1 ∧ (∀ k, 0 ≤ k → k < 256 * n → p2 k = p k) ∧ ∀ k, 0 ≤ k → k < 256 → p2 (256 * n + k) = b k)
/-- what the twin's rows are behind a change that answers q.1 and would come to q.2 -/
def PUB (hi : HI) (q : Int × (Int → Int)) (v : Int) (h : HI) : Prop :=
  v = q.1 ∧ (∀ a : Nat, a < 125 → ∀ k : Nat, h a k = hi a k) ∧ (∀ k : Nat, h 129 k = hi 129 k) ∧ h 125 5 = hi 125 5 ∧
  ((q.1 < 0 ∧ (∀ k : Int, 0 ≤ k → k < 256 → sg h k = sg hi k) ∧ h 125 3 = hi 125 3 ∧ ∀ k : Nat, h 128 k = hi 128 k) ∨
   (0 ≤ q.1 ∧ (∀ k : Int, 0 ≤ k → k < 256 → sg h k = q.2 k) ∧ PUSH (hi 125 3) (pst hi) (pst h) (sg hi) (h 125 3)))
/-- the end of acted -/
def ACT (X : HI) (f p b s : Int → Int) (a : Int) (h : HI) : Prop :=
  (a < 0 ∧ h = mh X f p b (bgnA b s 256)) ∨ (0 ≤ a ∧ ∃ f2 p2 : Int → Int, h = mh X f2 p2 b s ∧ PUSH (f 3) p p2 b (f2 3) ∧ ∀ x, x ≠ 3 → f2 x = f x)
theorem sg_mh (X : HI) (f p b s : Int → Int) {k : Int} (h : 0 ≤ k) : sg (mh X f p b s) k = s k := mh_g126 _ _ _ _ _ h
theorem pub_of {hi X h : HI} {f : Int → Int} {q : Int × (Int → Int)} {v : Int} (hv : v = q.1) (hX : ∀ a : Nat, a < 125 ∨ a = 129 → ∀ k : Nat, X a k = hi a k) (hn : 0 ≤ f 3) (hf3 : f 3 = hi 125 3) (hf5 : f 5 = hi 125 5)
    (hA : ACT X f (pst hi) (bgnA (sg hi) (bn hi) 256) q.2 v h) : PUB hi q v h := by
  refine ⟨hv, ?_, ?_, ?_, ?_⟩
  · intro a ha k
    rcases hA with ⟨-, rfl⟩ | ⟨-, f2, p2, rfl, -, -⟩ <;> rw [mh_x _ _ _ _ _ _ (by omega), hX a (by omega) k]
  · intro k
    rcases hA with ⟨-, rfl⟩ | ⟨-, f2, p2, rfl, -, -⟩ <;> rw [mh_x _ _ _ _ _ _ (by omega), hX 129 (by omega) k]
  · rcases hA with ⟨-, rfl⟩ | ⟨-, f2, p2, rfl, -, e⟩
    · rw [mh_f _ _ _ _ _ 5 5 rfl, hf5]
    · rw [mh_f _ _ _ _ _ 5 5 rfl, e 5 (by decide), hf5]
  · rcases hA with ⟨h0, rfl⟩ | ⟨h0, f2, p2, rfl, hp, e⟩
    · left
      refine ⟨by omega, fun k h1 h2 => ?_, ?_, fun k => ?_⟩
      · rw [sg_mh _ _ _ _ _ h1, bgnA_at, if_pos ⟨h1, by omega⟩, bgnA_at, if_pos ⟨h1, by omega⟩]
      · rw [mh_f _ _ _ _ _ 3 3 rfl, hf3]
      · show mh _ _ _ _ _ 128 k = _
        unfold mh
        rw [pa_gn _ _ _ (by decide), pa_gn _ _ _ (by decide), pa_g]
        show hi 128 (k : Int).toNat = _
        rw [Int.toNat_natCast]
    · right
      have eb : ∀ k, 0 ≤ k → k < 256 → bgnA (sg hi) (bn hi) 256 k = sg hi k := fun k h1 h2 => by rw [bgnA_at, if_pos ⟨h1, by omega⟩]
      have ep : ∀ k, 0 ≤ k → pst (mh X f2 p2 (bgnA (sg hi) (bn hi) 256) q.2) k = p2 k := fun k h1 => mh_g128 _ _ _ _ _ h1
      refine ⟨by omega, fun k h1 h2 => sg_mh _ _ _ _ _ h1, ?_⟩
      rw [mh_f _ _ _ _ _ 3 3 rfl, ← hf3]
      refine ⟨fun h4 => ?_, fun h4 => ?_⟩
      · obtain ⟨g1, g2, g3⟩ := hp.1 h4
        exact ⟨g1, fun k h1 h2 => by rw [ep k h1, g2 k h1 h2], fun k h1 h2 => by rw [ep _ (by omega), g3 k h1 h2, eb k h1 h2]⟩
      · obtain ⟨g1, g2, g3⟩ := hp.2 h4
        exact ⟨g1, fun k h1 h2 => by rw [ep k h1, g2 k h1 h2], fun k h1 h2 => by rw [ep _ (by omega), g3 k h1 h2, eb k h1 h2]⟩
