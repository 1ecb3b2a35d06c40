/-! the relation: settings, power, blocks, copies -/
theorem Rl.gen {t t2 : TS} {s s2 : Int → Int} (h : Rl t s) (m : MI s2) (et : ∀ (x : Nat) (y : Int), 2 ≤ x → x ≤ 11 → t2 x y = t x y) (es : ∀ x : Int, x = 2 ∨ x = 11 ∨ 24 ≤ x → s2 x = s x) (e0 : t2 0 9 = t 0 9 ∧ t2 0 10 = t 0 10) (tl : RTl t2 s2) : Rl t2 s2 := by
  obtain ⟨⟨h1, h2⟩, ⟨h3, h4, h5⟩, h6, h7, h8, h9, h10⟩ := h
  have e2 := es 2 (by decide)
  have e11 := es 11 (by decide)
  have t2e : ∀ y, t2 2 y = t 2 y := fun y => et 2 y (by decide) (by decide)
  have t3e : ∀ y, t2 3 y = t 3 y := fun y => et 3 y (by decide) (by decide)
  have t4e : ∀ y, t2 4 y = t 4 y := fun y => et 4 y (by decide) (by decide)
  have t5e : ∀ y, t2 5 y = t 5 y := fun y => et 5 y (by decide) (by decide)
  have twe : ∀ y, t2 11 y = t 11 y := fun y => et 11 y (by decide) (by decide)
  have ew : iwF s2 = iwF s := by unfold iwF; rw [es 253 (by decide), es 254 (by decide)]
  refine ⟨⟨m, by rw [es 253 (by decide)]; exact h2.1, by rw [es 254 (by decide)]; exact h2.2⟩, ⟨?_, ?_, ?_⟩, ?_, ?_, ?_, ?_, tl⟩
  · intro c c0 c1; rw [t2e, t3e, t4e, t5e]; exact h3 c c0 c1
  · refine ⟨by rw [et 6 4 (by decide) (by decide)]; exact h4.1, fun i i0 i1 => ?_⟩
    rw [et 7 i (by decide) (by decide), et 8 i (by decide) (by decide), et 9 i (by decide) (by decide), et 10 i (by decide) (by decide)]; exact h4.2 i i0 i1
  · exact ⟨fun k k0 k1 => by rw [twe]; exact h5.1 k k0 k1, by rw [twe]; exact h5.2.1, by rw [twe, twe]; exact h5.2.2⟩
  · intro c c0 c1
    have b := atI_b c0 c1
    rw [t2e, t3e, t4e, t5e, es _ (by omega), es _ (by omega), es _ (by omega), es _ (by omega)]
    exact h6 c c0 c1
  · refine ⟨by rw [et 6 4 (by decide) (by decide), e11]; exact h7.1, fun i i0 i1 => ?_⟩
    rw [e11] at i1
    rw [et 7 i (by decide) (by decide), et 8 i (by decide) (by decide), et 9 i (by decide) (by decide), et 10 i (by decide) (by decide), es _ (by omega), es _ (by omega), es _ (by omega), es _ (by omega)]
    exact h7.2 i i0 i1
  · unfold RNx; rw [e0.1, e0.2, e2]
    exact ⟨h8.1, h8.2.1, fun p p0 p1 => by rw [t2e]; exact h8.2.2 p p0 p1⟩
  · unfold RWr RWb
    rw [ew, e2, es 248 (by decide), es 249 (by decide), es 250 (by decide), es 251 (by decide), es 252 (by decide), es 253 (by decide), es 254 (by decide), es 255 (by decide)]
    simp only [twe, t2e, t3e, t4e, t5e, e0.2]
    exact h9
/-- a slowness, a setting, the times of a block -/
theorem Rl.cfg {t t2 : TS} {s s2 : Int → Int} (h : Rl t s) (m : MI s2) (et : ∀ (x : Nat) (y : Int), x < 13 → t2 x y = t x y) (es : ∀ x : Int, ¬ x = 6 → ¬ x = 7 → x < 12 ∨ 24 ≤ x → s2 x = s x)
    (c1 : ∀ i : Int, 0 ≤ i → i < 4 → t2 13 i = s2 (20 + i)) (c2 : ∀ i : Int, 0 ≤ i → i < 8 → t2 14 i = s2 (12 + i)) (c3 : ∀ i : Int, 0 ≤ i → i < 2 → t2 15 i = s2 (6 + i)) : Rl t2 s2 := by
  have h10 := h.2.2.2.2.2.2
  refine h.gen m (fun x y _ q => et x y (by omega)) (fun x q => es x (by omega) (by omega) (by omega)) ⟨et 0 9 (by decide), et 0 10 (by decide)⟩ ⟨?_, ?_, c1, c2, c3⟩
  · rw [et 12 1 (by decide), et 12 2 (by decide), et 12 3 (by decide), et 12 4 (by decide), et 12 5 (by decide), et 12 6 (by decide), es 10 (by decide) (by decide) (by decide), es 3 (by decide) (by decide) (by decide), es 4 (by decide) (by decide) (by decide), es 5 (by decide) (by decide) (by decide), es 8 (by decide) (by decide) (by decide), es 9 (by decide) (by decide) (by decide)]
    exact h10.1
  · rw [et 0 8 (by decide), es 1 (by decide) (by decide) (by decide)]; exact h10.2.1
/-- the power comes back -/
theorem Rl.pw {t : TS} {s : Int → Int} (h : Rl t s) {v : Int} (m : MI (up1 s 1 v)) : Rl (ut t 0 8 (1 - v)) (up1 s 1 v) := by
  have e : ∀ (x : Nat) (y : Int), ¬ (x = 0 ∧ y = 8) → ut t 0 8 (1 - v) x y = t x y := fun x y q => ut_n _ _ q
  have es : ∀ x : Int, ¬ x = 1 → up1 s 1 v x = s x := fun x q => up1_n _ _ q
  have h10 := h.2.2.2.2.2.2
  refine h.gen m (fun x y x0 _ => e x y (by omega)) (fun x q => es x (by omega)) ⟨e 0 9 (by decide), e 0 10 (by decide)⟩ ⟨?_, ?_, fun i i0 i1 => ?_, fun i i0 i1 => ?_, fun i i0 i1 => ?_⟩
  · rw [e 12 1 (by decide), e 12 2 (by decide), e 12 3 (by decide), e 12 4 (by decide), e 12 5 (by decide), e 12 6 (by decide), es 10 (by decide), es 3 (by decide), es 4 (by decide), es 5 (by decide), es 8 (by decide), es 9 (by decide)]
    exact h10.1
  · rw [ut_s, up1_s]
  · rw [e 13 _ (by simp), es _ (by omega)]; exact h10.2.2.1 i i0 i1
  · rw [e 14 _ (by simp), es _ (by omega)]; exact h10.2.2.2.1 i i0 i1
  · rw [e 15 _ (by simp), es _ (by omega)]; exact h10.2.2.2.2 i i0 i1
/-- a copy is asked for -/
def acC (t : TS) (c u : Int) : TS := if ipC t c = 1 then adC t (kyF t c) (vlF t c) u (spF t c) else t
theorem Rl.copy {t : TS} {s : Int → Int} (h : Rl t s) {c u : Int} (c0 : 0 ≤ c) (c1 : c < 48) (hu : 0 ≤ u ∧ u ≤ 3) : Rl (acC t c u) (if s 11 < 8 ∧ ipF s c = 1 then cpF s c u else s) := by
  have hC := h.2.2.1
  have h8 := h.1.1.2.2.1
  have e6 : t 6 4 = s 11 := h.2.2.2.1.1
  have b := atI_b c0 c1
  unfold acC
  rw [ip_eq hC c0 c1]
  by_cases i : ipF s c = 1
  · have hi : s (atI c) = 2 ∧ plc s (s (atI c + 1)) = c := by
      unfold ipF at i; split at i
      · assumption
      · exact absurd i (by decide)
    rw [if_pos i]
    by_cases q : s 11 < 8
    · rw [if_pos ⟨q, i⟩]
      have e := hC c c0 c1
      obtain ⟨x1, x2, x3⟩ := e.2 (Or.inl (by rw [e.1]; exact hi.1))
      have k1 : kyF t c = s (atI c + 1) := by unfold kyF; rw [if_pos ⟨c0, c1⟩, x1]
      have k2 : vlF t c = s (atI c + 2) := by unfold vlF; rw [if_pos ⟨c0, c1⟩, x2]
      have k3 : spF t c = s (atI c + 3) := by unfold spF; rw [if_pos ⟨c0, c1⟩, x3]
      have hp : 0 < s (atI c + 3) := by
        rcases plc_k (s := s) (s (atI c + 1)) with g | ⟨g1, g2, g3, g4, g5⟩
        · omega
        · rw [hi.2] at g5; exact g5
      unfold cpF
      rw [k1, k2, k3]
      exact h.add (by omega) ⟨h.1.1.z _ (by unfold xc; omega), h.1.1.b _ (by unfold xc; omega)⟩ ⟨h.1.1.z _ (by unfold xc; omega), h.1.1.b _ (by unfold xc; omega)⟩ hu ⟨by omega, h.1.1.b _ (by unfold xc; omega)⟩ (fun _ => hp)
    · rw [if_neg (fun g => q g.1)]
      unfold adC
      rw [if_pos (by omega)]
      exact h
  · rw [if_neg i, if_neg (fun g => i g.2)]; exact h
theorem acC_n (t : TS) (c u : Int) {x : Nat} (y : Int) (h : x < 6 ∨ 10 < x) : acC t c u x y = t x y := by
  unfold acC; split
  · exact adC_n _ _ _ _ _ _ h
  · rfl
theorem ib_eq {t : TS} {s : Int → Int} (h : RC t s) {b : Int} (hb : b = 0 ∨ b = 1) : ∀ k : Nat, k ≤ 16 → ibC t b k = blA s b k := by
  intro k
  induction k with
  | zero => intro _; rfl
  | succ k ih =>
    intro hk
    have e := (h (24 * b + (k : Int)) (by omega) (by omega)).1
    rw [atI_pg hb (by omega) (by omega)] at e
    unfold ibC blA
    rw [ih (by omega), kd_in _ (by omega) (by omega), show b * 24 + (k : Int) = 24 * b + (k : Int) by omega, e]
theorem ib_all {t : TS} {b : Int} : ∀ k : Nat, ibC t b k = 1 → ∀ p : Int, 0 ≤ p → p < k → kdF t (b * 24 + p) = 0 := by
  intro k
  induction k with
  | zero => intro _ p p0 p1; omega
  | succ k ih =>
    intro h p p0 p1
    unfold ibC at h
    split at h
    · next c =>
      by_cases e : p = (k : Int)
      · rw [e]; exact c.2
      · exact ih c.1 p p0 (by omega)
    · exact absurd h (by decide)
/-- the other block's turn -/
theorem Rl.turn {t : TS} {s : Int → Int} (h : Rl t s) (hw : iwF s = 0) (hb : ibC t (1 - s 2) 16 = 1) (m : MI (up1 s 2 (1 - s 2))) : Rl (ut (ut t 0 9 (1 - s 2)) 0 10 0) (up1 s 2 (1 - s 2)) := by
  have h2 := h.1.1.2.1
  have e : ∀ (x : Nat) (y : Int), ¬ x = 0 → ut (ut t 0 9 (1 - s 2)) 0 10 0 x y = t x y := fun x y q => by rw [ut_n _ _ (fun g => q g.1), ut_n _ _ (fun g => q g.1)]
  have es : ∀ x : Int, ¬ x = 2 → up1 s 2 (1 - s 2) x = s x := fun x q => up1_n _ _ q
  have ew : iwF (up1 s 2 (1 - s 2)) = 0 := by unfold iwF; rw [es 253 (by decide), es 254 (by decide)]; exact hw
  obtain ⟨⟨h1, hl⟩, ⟨h3, h4, h5⟩, h6, h7, h8, h9, h10⟩ := h
  refine ⟨⟨m, by rw [es 253 (by decide)]; exact hl.1, by rw [es 254 (by decide)]; exact hl.2⟩, ⟨?_, ?_, ?_⟩, ?_, ?_, ?_, ⟨?_, fun q => ?_, fun c c0 c1 c2 c3 => ?_⟩, ?_⟩
  · intro c c0 c1; rw [e 2 _ (by decide), e 3 _ (by decide), e 4 _ (by decide), e 5 _ (by decide)]; exact h3 c c0 c1
  · refine ⟨by rw [e 6 _ (by decide)]; exact h4.1, fun i i0 i1 => ?_⟩
    rw [e 7 _ (by decide), e 8 _ (by decide), e 9 _ (by decide), e 10 _ (by decide)]; exact h4.2 i i0 i1
  · exact ⟨fun k k0 k1 => by rw [e 11 _ (by decide)]; exact h5.1 k k0 k1, by rw [e 11 _ (by decide)]; exact h5.2.1, by rw [e 11 _ (by decide), e 11 _ (by decide)]; exact h5.2.2⟩
  · intro c c0 c1
    have b := atI_b c0 c1
    rw [e 2 _ (by decide), e 3 _ (by decide), e 4 _ (by decide), e 5 _ (by decide), es _ (by omega), es _ (by omega), es _ (by omega), es _ (by omega)]
    exact h6 c c0 c1
  · unfold RQ
    rw [e 6 _ (by decide), es 11 (by decide)]
    refine ⟨h7.1, fun i i0 i1 => ?_⟩
    rw [e 7 _ (by decide), e 8 _ (by decide), e 9 _ (by decide), e 10 _ (by decide), es _ (by omega), es _ (by omega), es _ (by omega), es _ (by omega)]; exact h7.2 i i0 i1
  · unfold RNx
    rw [ut_s, ut_n _ _ (by decide), ut_s, up1_s]
    refine ⟨⟨by decide, by decide⟩, rfl, fun p p0 p1 => ?_⟩
    have g := ib_all 16 hb p p0 p1
    rw [kd_in _ (by omega) (by omega), show (1 - s 2) * 24 + p = 24 * (1 - s 2) + p by omega] at g
    rw [e 2 _ (by decide), g]
    exact ⟨fun _ => p0, fun _ => rfl⟩
  · rw [e 11 _ (by decide), ew, h9.1]; exact hw
  · rw [ew] at q; exact absurd q (by decide)
  · rw [e 2 _ (by decide)] at c3
    have := (h9.2.2 c c0 c1 c2 c3).1
    rw [hw] at this; exact absurd this (by decide)
  · unfold RTl
    rw [ut_n _ _ (show ¬ ((0 : Nat) = 0 ∧ (8 : Int) = 10) by decide), ut_n _ _ (show ¬ ((0 : Nat) = 0 ∧ (8 : Int) = 9) by decide), e 12 1 (by decide), e 12 2 (by decide), e 12 3 (by decide), e 12 4 (by decide), e 12 5 (by decide), e 12 6 (by decide), es 10 (by decide), es 3 (by decide), es 4 (by decide), es 5 (by decide), es 8 (by decide), es 9 (by decide), es 1 (by decide)]
    refine ⟨h10.1, h10.2.1, fun i i0 i1 => ?_, fun i i0 i1 => ?_, fun i i0 i1 => ?_⟩
    · rw [e 13 _ (by decide), es _ (by omega)]; exact h10.2.2.1 i i0 i1
    · rw [e 14 _ (by decide), es _ (by omega)]; exact h10.2.2.2.1 i i0 i1
    · rw [e 15 _ (by decide), es _ (by omega)]; exact h10.2.2.2.2 i i0 i1
