/-! the start: what the constructors leave -/
theorem rl_init {t : TS} {s : Int → Int} (ht : ∀ (x : Nat) (y : Int), x < 17 → 0 ≤ y → t x y = if x = 0 ∧ y = 8 then 1 else if x = 13 ∧ y < 4 then fiF y else 0)
    (hs : ∀ x : Int, 0 ≤ x → s x = if x = 20 then 2 else if x = 21 then 5 else if x = 22 then 1 else if x = 23 then 3 else 0) : RlT t s ∧ OKS s 0 ∧ BK s := by
  have s0 : ∀ x : Int, 0 ≤ x → x < 20 ∨ 23 < x → s x = 0 := fun x h0 h1 => by rw [hs x h0, if_neg (by omega), if_neg (by omega), if_neg (by omega), if_neg (by omega)]
  have s20 : s 20 = 2 := by rw [hs 20 (by decide)]; rfl
  have s21 : s 21 = 5 := by rw [hs 21 (by decide)]; rfl
  have s22 : s 22 = 1 := by rw [hs 22 (by decide)]; rfl
  have s23 : s 23 = 3 := by rw [hs 23 (by decide)]; rfl
  have t0 : ∀ (x : Nat) (y : Int), 0 < x → x < 17 → ¬ x = 13 → 0 ≤ y → t x y = 0 := fun x y h1 h2 h3 h4 => by rw [ht x y h2 h4, if_neg (fun g => by have := g.1; omega), if_neg (fun g => h3 g.1)]
  have t8 : t 0 8 = 1 := by rw [ht 0 8 (by decide) (by decide), if_pos ⟨rfl, rfl⟩]
  have t9 : t 0 9 = 0 := by rw [ht 0 9 (by decide) (by decide)]; rfl
  have t10 : t 0 10 = 0 := by rw [ht 0 10 (by decide) (by decide)]; rfl
  have iw : iwF s = 0 := by unfold iwF; rw [s0 254 (by decide) (by decide), s0 253 (by decide) (by decide)]; rfl
  have m : MI s := by
    have e2 := s0 2 (by decide) (by decide)
    have e11 := s0 11 (by decide) (by decide)
    have e248 := s0 248 (by decide) (by decide)
    have e1 := s0 1 (by decide) (by decide)
    have e10 := s0 10 (by decide) (by decide)
    have e0 := s0 0 (by decide) (by decide)
    have e6 := s0 6 (by decide) (by decide)
    have e7 := s0 7 (by decide) (by decide)
    refine ⟨fun x hx => ?_, Or.inl e2, by omega, by omega, by omega, Or.inl e1, by omega, by omega, by omega, fun x h1 h2 => ?_, by omega, by omega⟩
    · unfold xc at hx
      rw [hs x (by omega)]
      unfold BIG
      (repeat' split) <;> omega
    · rw [hs x (by omega)]
      (repeat' split) <;> omega
  have l : ML s := ⟨by rw [s0 253 (by decide) (by decide)]; decide, by rw [s0 254 (by decide) (by decide)]; decide⟩
  have z : InR 0 := ⟨by decide, by decide⟩
  refine ⟨⟨⟨⟨m, l⟩, ⟨fun c c0 c1 => ?_, ⟨?_, fun i i0 i1 => ?_⟩, ⟨fun k k0 k1 => ?_, Or.inl (t0 11 0 (by decide) (by decide) (by decide) (by decide)), ?_⟩⟩, fun c c0 c1 => ?_, ⟨?_, fun i i0 i1 => ?_⟩, ⟨?_, ?_, fun p p0 p1 => ?_⟩, ⟨?_, fun g => ?_, fun c c0 c1 _ g => ?_⟩, ?_⟩, ?_⟩, ⟨m, ?_, ?_, ?_, l⟩, ?_⟩
  · rw [t0 2 c (by decide) (by decide) (by decide) c0, t0 3 c (by decide) (by decide) (by decide) c0, t0 4 c (by decide) (by decide) (by decide) c0, t0 5 c (by decide) (by decide) (by decide) c0]
    exact ⟨⟨by decide, by decide⟩, z, z, by decide, by decide⟩
  · rw [t0 6 4 (by decide) (by decide) (by decide) (by decide)]; exact ⟨by decide, by decide⟩
  · rw [t0 7 i (by decide) (by decide) (by decide) i0, t0 8 i (by decide) (by decide) (by decide) i0, t0 9 i (by decide) (by decide) (by decide) i0, t0 10 i (by decide) (by decide) (by decide) i0]
    exact ⟨z, z, ⟨by decide, by decide⟩, z⟩
  · rw [t0 11 k (by decide) (by decide) (by decide) k0]; exact z
  · rw [t0 11 1 (by decide) (by decide) (by decide) (by decide), t0 11 2 (by decide) (by decide) (by decide) (by decide)]; exact ⟨Or.inl rfl, by decide, by decide⟩
  · have b := atI_b c0 c1
    have e := t0 2 c (by decide) (by decide) (by decide) c0
    refine ⟨by rw [e, s0 _ (by omega) (by omega)], fun g => ?_⟩
    exfalso
    rw [e] at g
    rcases g with g | g
    · exact absurd g (by decide)
    · exact g.2 rfl
  · rw [t0 6 4 (by decide) (by decide) (by decide) (by decide), s0 11 (by decide) (by decide)]
  · rw [s0 11 (by decide) (by decide)] at i1; omega
  · rw [t10]; exact ⟨by decide, by decide⟩
  · rw [t9, s0 2 (by decide) (by decide)]
  · rw [t10, s0 2 (by decide) (by decide), t0 2 _ (by decide) (by decide) (by decide) (by omega)]
    exact ⟨fun _ => p0, fun _ => rfl⟩
  · rw [t0 11 0 (by decide) (by decide) (by decide) (by decide), iw]
  · omega
  · rw [t0 2 c (by decide) (by decide) (by decide) c0] at g; exact absurd g (by decide)
  · refine ⟨⟨?_, ?_, ?_, ?_, ?_, ?_⟩, ?_, fun i i0 i1 => ?_, fun i i0 i1 => ?_, fun i i0 i1 => ?_⟩
    · rw [t0 12 1 (by decide) (by decide) (by decide) (by decide), s0 10 (by decide) (by decide)]
    · rw [t0 12 2 (by decide) (by decide) (by decide) (by decide), s0 3 (by decide) (by decide)]
    · rw [t0 12 3 (by decide) (by decide) (by decide) (by decide), s0 4 (by decide) (by decide)]
    · rw [t0 12 4 (by decide) (by decide) (by decide) (by decide), s0 5 (by decide) (by decide)]
    · rw [t0 12 5 (by decide) (by decide) (by decide) (by decide), s0 8 (by decide) (by decide)]
    · rw [t0 12 6 (by decide) (by decide) (by decide) (by decide), s0 9 (by decide) (by decide)]
    · rw [t8, s0 1 (by decide) (by decide)]; rfl
    · rw [ht 13 i (by decide) i0, if_neg (fun g => absurd g.1 (by decide)), if_pos ⟨rfl, i1⟩]
      rcases (show i = 0 ∨ i = 1 ∨ i = 2 ∨ i = 3 by omega) with rfl | rfl | rfl | rfl
      · exact s20.symm
      · exact s21.symm
      · exact s22.symm
      · exact s23.symm
    · rw [t0 14 i (by decide) (by decide) (by decide) i0, s0 _ (by omega) (by omega)]
    · rw [t0 15 i (by decide) (by decide) (by decide) i0, s0 _ (by omega) (by omega)]
  · rw [t0 12 0 (by decide) (by decide) (by decide) (by decide), s0 0 (by decide) (by decide)]
  · rw [s0 0 (by decide) (by decide)]; decide
  · rw [s0 6 (by decide) (by decide)]; decide
  · rw [s0 7 (by decide) (by decide)]; decide
  · intro c c0 c1 c2 g
    have b := atI_b c0 c1
    rw [s0 _ (by omega) (by omega)] at g
    exact absurd g (by decide)
theorem stH_o (hi : HI) {o a : Nat} (k : Nat) (h1 : ¬ a = o) (h2 : ¬ a = o + 13) : stH hi o a k = hi a k := by
  unfold stH cpy up2
  rw [if_neg (fun g => h2 g.1), if_neg (fun g => h1 g.1)]
theorem stH_8 (hi : HI) (o k : Nat) (h : o < 900) : stH hi o o k = if k = 8 then 1 else hi o k := by
  unfold stH cpy up2
  rw [if_neg (fun g => by have := g.1; omega)]
  by_cases e : k = 8
  · rw [if_pos ⟨rfl, e⟩, if_pos e]
  · rw [if_neg (fun g => e g.2), if_neg e]
theorem stH_13 (hi : HI) (o k : Nat) (h : o < 900) : stH hi o (o + 13) k = if k < 4 then hi 1000 k else hi (o + 13) k := by
  unfold stH cpy up2
  by_cases e : k < 4
  · rw [if_pos ⟨rfl, e⟩, if_pos e, if_neg (fun g => by have := g.1; omega)]
  · rw [if_neg (fun g => e g.2), if_neg e, if_neg (fun g => by have := g.1; omega)]
theorem hiB_o (hi : HI) {a : Nat} (k : Nat) (h : a < 37 ∨ 122 ≤ a) : hiB hi a k = hi a k := by
  unfold hiB
  rw [stH_o _ _ (by omega) (by omega), stH_o _ _ (by omega) (by omega), stH_o _ _ (by omega) (by omega), stH_o _ _ (by omega) (by omega), stH_o _ _ (by omega) (by omega)]
theorem hiA_o (hi : HI) {a : Nat} (k : Nat) (h : a = 35 ∨ 122 ≤ a) : hiA hi a k = hi a k := by
  unfold hiA
  rw [hiB_o _ _ (by omega), stH_o _ _ (by omega) (by omega), stH_o _ _ (by omega) (by omega)]
theorem sh_far {a : Nat} (h : 125 ≤ a) : sh a = (12, 0) := by
  unfold sh
  rw [List.getD_eq_getElem?_getD, List.getElem?_eq_none (by rw [shL_len]; exact h)]
  rfl
theorem frf_lt {c k : Nat} (h : frf c k = true) : k < 12 := by
  unfold frf at h
  simp at h
  omega
theorem hA6_k : HRk hA6 := by
  have D : ∀ a : Nat, a < 125 → ∀ k : Nat, k < 12 → a ≠ 36 → frf (sh a).1 k = true → hA6 a k = HR0 a k := by decide +kernel
  intro a k h36 hf
  by_cases ha : a < 125
  · exact D a ha k (frf_lt hf) h36 hf
  · rw [sh_far (by omega)] at hf
    unfold frf at hf
    simp at hf
def q0 : Nat → Nat := fun j => [37, 54, 71, 88, 105].getD j 37
theorem hA6_q : HQ hA6 q0 := by
  have D1 : ∀ j : Nat, j < 5 → hA6 36 j = some (q0 j) ∧ q0 j ∈ stIds := by decide +kernel
  have D2 : ∀ j : Nat, j < 5 → ¬ q0 j = 1 ∧ ¬ q0 j = 18 := by decide +kernel
  have D3 : ∀ i : Nat, i < 5 → ∀ j : Nat, j < 5 → q0 i = q0 j → i = j := by decide +kernel
  exact ⟨D1, D2, fun i j hi hj e => D3 i hi j hj e⟩
def s00 : Int → Int := fun x => if x = 20 then 2 else if x = 21 then 5 else if x = 22 then 1 else if x = 23 then 3 else 0
theorem s00_z {x : Int} (h : x < 20 ∨ 23 < x) : s00 x = 0 := by
  unfold s00
  rw [if_neg (by omega), if_neg (by omega), if_neg (by omega), if_neg (by omega)]
theorem xi_start : XI s00 := by
  have iw : iwF s00 = 0 := by unfold iwF; rw [s00_z (by decide), s00_z (by decide)]; rfl
  have no : ∀ a b : Int, ¬ OG s00 a b := by
    rintro a b (⟨c, ⟨c0, c1⟩, l, -⟩ | ⟨g, -⟩)
    · have bb := atI_b c0 c1
      unfold LV at l
      rw [s00_z (by omega)] at l
      rcases l with l | l
      · exact absurd l (by decide)
      · exact absurd rfl l.2
    · omega
  refine ⟨⟨fun c c0 c1 c2 g => ?_, ⟨fun a b b' g => absurd g (no a b), fun a b g => absurd g (no a b), fun a b g => absurd g (no a b)⟩, fun g => ?_⟩, ⟨fun i i0 i1 => ?_, fun i i0 i1 => ?_⟩, fun g => ?_⟩
  · have bb := atI_b c0 c1
    rw [s00_z (by omega)] at g
    exact absurd g (by decide)
  · rw [s00_z (by decide)] at g; exact absurd g (by decide)
  · rw [s00_z (by decide)] at i1; omega
  · rw [s00_z (by decide)] at i1; omega
  · rw [s00_z (by decide)] at g; exact absurd g (by decide)
/-- what holds at the start -/
theorem nv_start {hi : HI} (z : ∀ a : Nat, a < 1000 → ∀ k : Nat, hi a k = 0) (hX : XH hi) : NV (hiA hi) hA6 0 s00 (fun _ => s00) 0 := by
  have far : ∀ a : Nat, (a = 35 ∨ 122 ≤ a) → ∀ k : Nat, hiA hi a k = hi a k := fun a ha k => hiA_o _ _ ha
  have e35 : hiA hi 35 1 = 0 := by rw [far 35 (by decide)]; exact z 35 (by decide) 1
  have e122 : hiA hi 122 1 = 0 := by rw [far 122 (by decide)]; exact z 122 (by decide) 1
  have xh : XH (hiA hi) := hX.of (fun a ha k => far a (by omega) k)
  have et : ∀ (x : Nat) (y : Int), x < 17 → 0 ≤ y → getS 1 (hiA hi) x y = if x = 0 ∧ y = 8 then 1 else if x = 13 ∧ y < 4 then fiF y else 0 := by
    intro x y hx hy
    show hiA hi (1 + x) y.toNat = _
    unfold hiA
    rw [hiB_o _ _ (by omega), stH_o _ _ (by omega) (by omega)]
    by_cases c : x = 0
    · subst c
      rw [stH_8 hi 1 y.toNat (by decide), z 1 (by decide)]
      by_cases d : y = 8
      · rw [if_pos (by omega), if_pos ⟨rfl, d⟩]
      · rw [if_neg (by omega), if_neg (fun g => d g.2), if_neg (fun g => absurd g.1 (by decide))]
    · by_cases c2 : x = 13
      · subst c2
        rw [stH_13 hi 1 y.toNat (by decide), z (1 + 13) (by decide), if_neg (show ¬ ((13 : Nat) = 0 ∧ y = 8) from fun g => absurd g.1 (by decide))]
        by_cases d : y < 4
        · rw [if_pos (show y.toNat < 4 by omega), if_pos (show (13 : Nat) = 13 ∧ y < 4 from ⟨rfl, d⟩), hX.1 _ (by omega), Int.toNat_of_nonneg hy]
        · rw [if_neg (show ¬ y.toNat < 4 by omega), if_neg (show ¬ ((13 : Nat) = 13 ∧ y < 4) from fun g => d g.2)]
      · rw [stH_o _ _ (by omega) (by omega), z _ (by omega), if_neg (fun g => c g.1), if_neg (fun g => c2 g.1)]
  obtain ⟨r1, r2, r3⟩ := rl_init (s := s00) et (fun x _ => rfl)
  refine ⟨⟨q0, hA6_k, hA6_q, ⟨e35, by decide, by decide⟩, r1, fun i hi2 => absurd hi2 (by omega), xh⟩, ⟨r2, r3, xi_start⟩, fun i hi2 => absurd hi2 (by omega), ?_⟩
  unfold TXV
  rw [e122]
  exact ⟨by decide, by decide, fun j j0 j1 => by omega⟩
