/-! a State is copied to another -/
def cpR (t : TS) (j N : Nat) (u : TS) : TS := fun x y => if x = j ∧ y < N then u x y else t x y
theorem cpR_s (t : TS) (j N : Nat) (u : TS) {y : Int} (h : y < N) : cpR t j N u j y = u j y := by unfold cpR; rw [if_pos ⟨rfl, h⟩]
theorem cpR_n (t : TS) {j x : Nat} (N : Nat) (u : TS) (y : Int) (h : ¬ x = j) : cpR t j N u x y = t x y := by unfold cpR; rw [if_neg (fun g => h g.1)]
theorem st_dj {o p : Nat} (ho : St o) (hp : St p) (hn : ¬ p = o) : p + 17 ≤ o ∨ o + 17 ≤ p := (show ∀ o, o ∈ stIds → ∀ p, p ∈ stIds → ¬ p = o → p + 17 ≤ o ∨ o + 17 ≤ p by decide) o ho p hp hn
theorem putS_o {o p : Nat} (ho : St o) (hp : St p) (hn : ¬ p = o) (hi : HI) (t : TS) (j k : Nat) (hj : j < 17 := by decide) : putS o hi t (p + j) k = hi (p + j) k := putS_out hi t k (by have := st_dj ho hp hn; omega)
theorem putS_o0 {o p : Nat} (ho : St o) (hp : St p) (hn : ¬ p = o) (hi : HI) (t : TS) (k : Nat) : putS o hi t p k = hi p k := putS_o ho hp hn hi t 0 k
theorem putS_cpy {o p : Nat} (ho : St o) (hp : St p) (hn : ¬ p = o) (hi : HI) (t : TS) (j N : Nat) (hj : j < 17) : cpy (putS o hi t) (p + j) (o + j) N = putS o hi (cpR t j N (getS p hi)) := by
  funext x y
  unfold cpy
  by_cases h : x = o + j ∧ y < N
  · rw [if_pos h, putS_o ho hp hn hi t j y hj, h.1, putS_g _ _ _ _ _ hj, cpR_s _ _ _ _ (by omega)]
    show _ = hi (p + j) (y : Int).toNat
    rw [Int.toNat_natCast]
  · rw [if_neg h]
    unfold putS
    by_cases h2 : o ≤ x ∧ x < o + 17
    · rw [if_pos h2, if_pos h2]
      unfold cpR
      rw [if_neg (fun g => h ⟨by omega, by omega⟩)]
    · rw [if_neg h2, if_neg h2]
/-- the same content -/
def SAME (t u : TS) : Prop := (∀ (x : Nat) (y : Int), 2 ≤ x → x ≤ 5 → 0 ≤ y → y < 48 → t x y = u x y) ∧ t 6 4 = u 6 4 ∧ (∀ (x : Nat) (y : Int), 7 ≤ x → x ≤ 10 → 0 ≤ y → y < 8 → t x y = u x y) ∧ (∀ y : Int, 0 ≤ y → y < 8 → t 11 y = u 11 y) ∧ (∀ y : Int, 0 ≤ y → y < 7 → t 12 y = u 12 y) ∧
  ((∀ y : Int, 0 ≤ y → y < 4 → t 13 y = u 13 y) ∧ (∀ y : Int, 0 ≤ y → y < 8 → t 14 y = u 14 y) ∧ ∀ y : Int, 0 ≤ y → y < 2 → t 15 y = u 15 y) ∧ t 0 8 = u 0 8 ∧ t 0 9 = u 0 9 ∧ t 0 10 = u 0 10
theorem SAME.rf (t : TS) : SAME t t := ⟨fun _ _ _ _ _ _ => rfl, rfl, fun _ _ _ _ _ _ => rfl, fun _ _ _ => rfl, fun _ _ _ => rfl, ⟨fun _ _ _ => rfl, fun _ _ _ => rfl, fun _ _ _ => rfl⟩, rfl, rfl, rfl⟩
theorem SAME.tr {t u v : TS} (h : SAME t u) (g : SAME u v) : SAME t v := by
  obtain ⟨a1, a2, a3, a4, a5, ⟨a6, a7, a8⟩, a9, a10, a11⟩ := h
  obtain ⟨b1, b2, b3, b4, b5, ⟨b6, b7, b8⟩, b9, b10, b11⟩ := g
  exact ⟨fun x y h1 h2 h3 h4 => (a1 x y h1 h2 h3 h4).trans (b1 x y h1 h2 h3 h4), a2.trans b2, fun x y h1 h2 h3 h4 => (a3 x y h1 h2 h3 h4).trans (b3 x y h1 h2 h3 h4), fun y h1 h2 => (a4 y h1 h2).trans (b4 y h1 h2), fun y h1 h2 => (a5 y h1 h2).trans (b5 y h1 h2),
    ⟨fun y h1 h2 => (a6 y h1 h2).trans (b6 y h1 h2), fun y h1 h2 => (a7 y h1 h2).trans (b7 y h1 h2), fun y h1 h2 => (a8 y h1 h2).trans (b8 y h1 h2)⟩, a9.trans b9, a10.trans b10, a11.trans b11⟩
theorem SAME.rl {t u : TS} {s : Int → Int} (h : SAME t u) (g : Rl u s) : Rl t s := by
  obtain ⟨a1, a2, a3, a4, a5, ⟨a6, a7, a8⟩, a9, a10, a11⟩ := h
  have hM := g.1.1
  have hb := hM.2.1
  have p1 := hM.2.2.2.1
  have p0 := hM.z 248 (by unfold xc; omega)
  have h8 := hM.2.2.1
  have hl := lin_b p0 (by omega)
  have he := ear_b hl.1 hl.2
  have c2 : ∀ y : Int, 0 ≤ y → y < 48 → t 2 y = u 2 y := fun y h1 h2 => a1 2 y (by decide) (by decide) h1 h2
  have c3 : ∀ y : Int, 0 ≤ y → y < 48 → t 3 y = u 3 y := fun y h1 h2 => a1 3 y (by decide) (by decide) h1 h2
  have c4 : ∀ y : Int, 0 ≤ y → y < 48 → t 4 y = u 4 y := fun y h1 h2 => a1 4 y (by decide) (by decide) h1 h2
  have c5 : ∀ y : Int, 0 ≤ y → y < 48 → t 5 y = u 5 y := fun y h1 h2 => a1 5 y (by decide) (by decide) h1 h2
  obtain ⟨i1, ⟨i3, i4, i5⟩, i6, i7, i8, i9, i10⟩ := g
  refine ⟨i1, ⟨?_, ?_, ?_⟩, ?_, ?_, ?_, ?_, ?_⟩
  · intro c k0 k1; rw [c2 c k0 k1, c3 c k0 k1, c4 c k0 k1, c5 c k0 k1]; exact i3 c k0 k1
  · refine ⟨by rw [a2]; exact i4.1, fun i j0 j1 => ?_⟩
    rw [a3 7 i (by decide) (by decide) j0 j1, a3 8 i (by decide) (by decide) j0 j1, a3 9 i (by decide) (by decide) j0 j1, a3 10 i (by decide) (by decide) j0 j1]
    exact i4.2 i j0 j1
  · exact ⟨fun k k0 k1 => by rw [a4 k k0 k1]; exact i5.1 k k0 k1, by rw [a4 0 (by decide) (by decide)]; exact i5.2.1, by rw [a4 1 (by decide) (by decide), a4 2 (by decide) (by decide)]; exact i5.2.2⟩
  · intro c k0 k1; rw [c2 c k0 k1, c3 c k0 k1, c4 c k0 k1, c5 c k0 k1]; exact i6 c k0 k1
  · refine ⟨by rw [a2]; exact i7.1, fun i j0 j1 => ?_⟩
    rw [a3 7 i (by decide) (by decide) j0 (by omega), a3 8 i (by decide) (by decide) j0 (by omega), a3 9 i (by decide) (by decide) j0 (by omega), a3 10 i (by decide) (by decide) j0 (by omega)]
    exact i7.2 i j0 j1
  · refine ⟨by rw [a11]; exact i8.1, by rw [a10]; exact i8.2.1, fun p q0 q1 => ?_⟩
    rw [a11, c2 _ (by omega) (by omega)]; exact i8.2.2 p q0 q1
  · refine ⟨by rw [a4 0 (by decide) (by decide)]; exact i9.1, fun hw => ?_, fun c k0 k1 => ?_⟩
    · have g := i9.2.1 hw
      unfold RWb
      rw [a4 1 (by decide) (by decide), a4 2 (by decide) (by decide), a4 3 (by decide) (by decide), a4 4 (by decide) (by decide), a4 5 (by decide) (by decide), a4 6 (by decide) (by decide), a4 7 (by decide) (by decide), a11,
        c2 (24 * s 2 + s 248) (by omega) (by omega), c3 (24 * s 2 + s 248) (by omega) (by omega), c4 (24 * s 2 + s 248) (by omega) (by omega), c5 (24 * s 2 + s 248) (by omega) (by omega), c2 (24 * s 2 + (16 + lin (s 248))) (by omega) (by omega)]
      exact g
    · rw [c2 c k0 k1]; exact i9.2.2 c k0 k1
  · obtain ⟨⟨b1, b2, b3, b4, b5, b6⟩, b7, b8, b9, b10⟩ := i10
    refine ⟨⟨?_, ?_, ?_, ?_, ?_, ?_⟩, by rw [a9]; exact b7, fun i j0 j1 => by rw [a6 i j0 j1]; exact b8 i j0 j1, fun i j0 j1 => by rw [a7 i j0 j1]; exact b9 i j0 j1, fun i j0 j1 => by rw [a8 i j0 j1]; exact b10 i j0 j1⟩
    · rw [a5 1 (by decide) (by decide)]; exact b1
    · rw [a5 2 (by decide) (by decide)]; exact b2
    · rw [a5 3 (by decide) (by decide)]; exact b3
    · rw [a5 4 (by decide) (by decide)]; exact b4
    · rw [a5 5 (by decide) (by decide)]; exact b5
    · rw [a5 6 (by decide) (by decide)]; exact b6
theorem SAME.rlT {t u : TS} {s : Int → Int} (h : SAME t u) (g : RlT u s) : RlT t s := ⟨h.rl g.1, by rw [h.2.2.2.2.1 0 (by decide) (by decide)]; exact g.2⟩
/-- the relation looks at the rows of the twin that there are -/
theorem Rl.cong {t : TS} {s s2 : Int → Int} (h : Rl t s) (e : ∀ x : Int, 0 ≤ x → x < 256 → s2 x = s x) : Rl t s2 := by
  have m : MI s2 := h.1.1.cong e
  have e8 := h.1.1.2.2.1
  have h10 := h.2.2.2.2.2.2
  have hC := h.2.2.1
  have hQ := h.2.2.2.1
  have hN := h.2.2.2.2.1
  have hW := h.2.2.2.2.2.1
  have ew : iwF s2 = iwF s := by unfold iwF; rw [e 253 (by decide) (by decide), e 254 (by decide) (by decide)]
  refine ⟨⟨m, by rw [e 253 (by decide) (by decide)]; exact h.1.2.1, by rw [e 254 (by decide) (by decide)]; exact h.1.2.2⟩, h.2.1, ?_, ?_, ?_, ?_, ?_⟩
  · intro c c0 c1
    have b := atI_b c0 c1
    rw [e _ (by omega) (by omega), e _ (by omega) (by omega), e _ (by omega) (by omega), e _ (by omega) (by omega)]
    exact hC c c0 c1
  · refine ⟨by rw [e 11 (by decide) (by decide)]; exact hQ.1, fun i i0 i1 => ?_⟩
    rw [e 11 (by decide) (by decide)] at i1
    rw [e _ (by omega) (by omega), e _ (by omega) (by omega), e _ (by omega) (by omega), e _ (by omega) (by omega)]
    exact hQ.2 i i0 i1
  · unfold RNx; rw [e 2 (by decide) (by decide)]; exact hN
  · unfold RWr RWb
    rw [ew, e 2 (by decide) (by decide), e 248 (by decide) (by decide), e 249 (by decide) (by decide), e 250 (by decide) (by decide), e 251 (by decide) (by decide), e 252 (by decide) (by decide), e 253 (by decide) (by decide), e 254 (by decide) (by decide), e 255 (by decide) (by decide)]
    exact hW
  · obtain ⟨⟨b1, b2, b3, b4, b5, b6⟩, b7, b8, b9, b10⟩ := h10
    refine ⟨⟨?_, ?_, ?_, ?_, ?_, ?_⟩, ?_, fun i j0 j1 => ?_, fun i j0 j1 => ?_, fun i j0 j1 => ?_⟩
    · rw [e 10 (by decide) (by decide)]; exact b1
    · rw [e 3 (by decide) (by decide)]; exact b2
    · rw [e 4 (by decide) (by decide)]; exact b3
    · rw [e 5 (by decide) (by decide)]; exact b4
    · rw [e 8 (by decide) (by decide)]; exact b5
    · rw [e 9 (by decide) (by decide)]; exact b6
    · rw [e 1 (by decide) (by decide)]; exact b7
    · rw [e _ (by omega) (by omega)]; exact b8 i j0 j1
    · rw [e _ (by omega) (by omega)]; exact b9 i j0 j1
    · rw [e _ (by omega) (by omega)]; exact b10 i j0 j1
theorem RlT.cong {t : TS} {s s2 : Int → Int} (h : RlT t s) (e : ∀ x : Int, 0 ≤ x → x < 256 → s2 x = s x) : RlT t s2 := ⟨h.1.cong e, by rw [e 0 (by decide) (by decide)]; exact h.2⟩
def scC (t u : TS) : TS := cpR (cpR (cpR (cpR t 2 48 u) 3 48 u) 4 48 u) 5 48 u
def scQ (t u : TS) : TS := ut (cpR (cpR (cpR (cpR t 7 8 u) 8 8 u) 9 8 u) 10 8 u) 6 4 (u 6 4)
def scW (t u : TS) : TS := ut (ut (ut (ut (ut (ut (ut (ut t 11 0 (u 11 0)) 11 1 (u 11 1)) 11 2 (u 11 2)) 11 3 (u 11 3)) 11 4 (u 11 4)) 11 5 (u 11 5)) 11 6 (u 11 6)) 11 7 (u 11 7)
def scT (t u : TS) : TS := ut (ut (ut (ut (ut (ut (ut t 12 0 (u 12 0)) 12 1 (u 12 1)) 12 2 (u 12 2)) 12 3 (u 12 3)) 12 4 (u 12 4)) 12 5 (u 12 5)) 12 6 (u 12 6)
def scR (t u : TS) : TS := scT (scW (scQ (scC t u) u) u) u
def scS (t u : TS) : TS := ut (ut (ut (cpR (cpR (cpR (scR t u) 13 4 u) 14 8 u) 15 2 u) 0 8 (u 0 8)) 0 9 (u 0 9)) 0 10 (u 0 10)
theorem scC_n (t u : TS) {x : Nat} (y : Int) (h : x < 2 ∨ 5 < x) : scC t u x y = t x y := by
  unfold scC; rw [cpR_n _ _ _ _ (by omega), cpR_n _ _ _ _ (by omega), cpR_n _ _ _ _ (by omega), cpR_n _ _ _ _ (by omega)]
theorem scC_s (t u : TS) {x : Nat} {y : Int} (h1 : 2 ≤ x) (h2 : x ≤ 5) (hy : y < 48) : scC t u x y = u x y := by
  unfold scC
  rcases (show x = 2 ∨ x = 3 ∨ x = 4 ∨ x = 5 by omega) with rfl | rfl | rfl | rfl
  · rw [cpR_n _ _ _ _ (by decide), cpR_n _ _ _ _ (by decide), cpR_n _ _ _ _ (by decide), cpR_s _ _ _ _ hy]
  · rw [cpR_n _ _ _ _ (by decide), cpR_n _ _ _ _ (by decide), cpR_s _ _ _ _ hy]
  · rw [cpR_n _ _ _ _ (by decide), cpR_s _ _ _ _ hy]
  · rw [cpR_s _ _ _ _ hy]
theorem scQ_n (t u : TS) {x : Nat} (y : Int) (h : x < 6 ∨ 10 < x) : scQ t u x y = t x y := by
  unfold scQ; rw [ut_n _ _ (by omega), cpR_n _ _ _ _ (by omega), cpR_n _ _ _ _ (by omega), cpR_n _ _ _ _ (by omega), cpR_n _ _ _ _ (by omega)]
theorem scQ_s (t u : TS) {x : Nat} {y : Int} (h1 : 7 ≤ x) (h2 : x ≤ 10) (hy : y < 8) : scQ t u x y = u x y := by
  unfold scQ
  rw [ut_n _ _ (by omega)]
  rcases (show x = 7 ∨ x = 8 ∨ x = 9 ∨ x = 10 by omega) with rfl | rfl | rfl | rfl
  · rw [cpR_n _ _ _ _ (by decide), cpR_n _ _ _ _ (by decide), cpR_n _ _ _ _ (by decide), cpR_s _ _ _ _ hy]
  · rw [cpR_n _ _ _ _ (by decide), cpR_n _ _ _ _ (by decide), cpR_s _ _ _ _ hy]
  · rw [cpR_n _ _ _ _ (by decide), cpR_s _ _ _ _ hy]
  · rw [cpR_s _ _ _ _ hy]
theorem scQ_6 (t u : TS) : scQ t u 6 4 = u 6 4 := ut_s _ _ _ _
theorem scW_n (t u : TS) {x : Nat} (y : Int) (h : ¬ x = 11) : scW t u x y = t x y := by
  unfold scW; rw [ut_n _ _ (fun g => h g.1), ut_n _ _ (fun g => h g.1), ut_n _ _ (fun g => h g.1), ut_n _ _ (fun g => h g.1), ut_n _ _ (fun g => h g.1), ut_n _ _ (fun g => h g.1), ut_n _ _ (fun g => h g.1), ut_n _ _ (fun g => h g.1)]
theorem scW_s (t u : TS) {y : Int} (h0 : 0 ≤ y) (h1 : y < 8) : scW t u 11 y = u 11 y := by
  rcases (show y = 0 ∨ y = 1 ∨ y = 2 ∨ y = 3 ∨ y = 4 ∨ y = 5 ∨ y = 6 ∨ y = 7 by omega) with rfl | rfl | rfl | rfl | rfl | rfl | rfl | rfl <;> simp [scW, ut]
theorem scT_n (t u : TS) {x : Nat} (y : Int) (h : ¬ x = 12) : scT t u x y = t x y := by
  unfold scT; rw [ut_n _ _ (fun g => h g.1), ut_n _ _ (fun g => h g.1), ut_n _ _ (fun g => h g.1), ut_n _ _ (fun g => h g.1), ut_n _ _ (fun g => h g.1), ut_n _ _ (fun g => h g.1), ut_n _ _ (fun g => h g.1)]
theorem scT_s (t u : TS) {y : Int} (h0 : 0 ≤ y) (h1 : y < 7) : scT t u 12 y = u 12 y := by
  rcases (show y = 0 ∨ y = 1 ∨ y = 2 ∨ y = 3 ∨ y = 4 ∨ y = 5 ∨ y = 6 by omega) with rfl | rfl | rfl | rfl | rfl | rfl | rfl <;> simp [scT, ut]
theorem scS_n (t u : TS) {x : Nat} (y : Int) (h0 : ¬ x = 0) (h : x < 13 ∨ 15 < x) : scS t u x y = scR t u x y := by
  unfold scS; rw [ut_n _ _ (fun g => h0 g.1), ut_n _ _ (fun g => h0 g.1), ut_n _ _ (fun g => h0 g.1), cpR_n _ _ _ _ (by omega), cpR_n _ _ _ _ (by omega), cpR_n _ _ _ _ (by omega)]
theorem scS_same (t u : TS) : SAME (scS t u) u := by
  refine ⟨fun x y h1 h2 h3 h4 => ?_, ?_, fun x y h1 h2 h3 h4 => ?_, fun y h1 h2 => ?_, fun y h1 h2 => ?_, ⟨fun y h1 h2 => ?_, fun y h1 h2 => ?_, fun y h1 h2 => ?_⟩, ?_, ?_, ?_⟩
  · rw [scS_n _ _ _ (by omega) (by omega)]; unfold scR; rw [scT_n _ _ _ (by omega), scW_n _ _ _ (by omega), scQ_n _ _ _ (by omega), scC_s _ _ h1 h2 h4]
  · rw [scS_n _ _ _ (by omega) (by omega)]; unfold scR; rw [scT_n _ _ _ (by omega), scW_n _ _ _ (by omega), scQ_6]
  · rw [scS_n _ _ _ (by omega) (by omega)]; unfold scR; rw [scT_n _ _ _ (by omega), scW_n _ _ _ (by omega), scQ_s _ _ h1 h2 h4]
  · rw [scS_n _ _ _ (by omega) (by omega)]; unfold scR; rw [scT_n _ _ _ (by omega), scW_s _ _ h1 h2]
  · rw [scS_n _ _ _ (by omega) (by omega)]; unfold scR; rw [scT_s _ _ h1 h2]
  · unfold scS; rw [ut_n _ _ (by simp), ut_n _ _ (by simp), ut_n _ _ (by simp), cpR_n _ _ _ _ (by decide), cpR_n _ _ _ _ (by decide), cpR_s _ _ _ _ h2]
  · unfold scS; rw [ut_n _ _ (by simp), ut_n _ _ (by simp), ut_n _ _ (by simp), cpR_n _ _ _ _ (by decide), cpR_s _ _ _ _ h2]
  · unfold scS; rw [ut_n _ _ (by simp), ut_n _ _ (by simp), ut_n _ _ (by simp), cpR_s _ _ _ _ h2]
  · unfold scS; rw [ut_n _ _ (by decide), ut_n _ _ (by decide), ut_s]
  · unfold scS; rw [ut_n _ _ (by decide), ut_s]
  · unfold scS; rw [ut_s]
