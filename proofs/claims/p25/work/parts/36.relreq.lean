/-! the relation: requests -/
theorem Rl.req {t t2 : TS} {s s2 : Int → Int} (h : Rl t s) (et : ∀ (x : Nat) (y : Int), x < 6 ∨ 10 < x → t2 x y = t x y) (es : ∀ x : Int, x ≠ 11 → x < 216 ∨ 248 ≤ x → s2 x = s x) (m : MI s2) (q : QR t2) (r : RQ t2 s2) : Rl t2 s2 := by
  obtain ⟨⟨h1, h2⟩, ⟨h3, h4, h5⟩, h6, h7, h8, h9, h10⟩ := h
  have e2 := es 2 (by decide) (by decide)
  have e248 := es 248 (by decide) (by decide)
  have e249 := es 249 (by decide) (by decide)
  have e250 := es 250 (by decide) (by decide)
  have e251 := es 251 (by decide) (by decide)
  have e252 := es 252 (by decide) (by decide)
  have e253 := es 253 (by decide) (by decide)
  have e254 := es 254 (by decide) (by decide)
  have e255 := es 255 (by decide) (by decide)
  have ew : iwF s2 = iwF s := by unfold iwF; rw [e253, e254]
  have t2e : ∀ y, t2 2 y = t 2 y := fun y => et 2 y (by decide)
  have t3e : ∀ y, t2 3 y = t 3 y := fun y => et 3 y (by decide)
  have t4e : ∀ y, t2 4 y = t 4 y := fun y => et 4 y (by decide)
  have t5e : ∀ y, t2 5 y = t 5 y := fun y => et 5 y (by decide)
  have t0e : ∀ y, t2 0 y = t 0 y := fun y => et 0 y (by decide)
  have twe : ∀ y, t2 11 y = t 11 y := fun y => et 11 y (by decide)
  have tte : ∀ y, t2 12 y = t 12 y := fun y => et 12 y (by decide)
  refine ⟨⟨m, by rw [e253]; exact h2.1, by rw [e254]; exact h2.2⟩, ⟨?_, q, ?_⟩, ?_, r, ?_, ?_, ?_⟩
  · intro c c0 c1; rw [t2e, t3e, t4e, t5e]; exact h3 c c0 c1
  · refine ⟨fun k k0 k1 => by rw [twe]; exact h5.1 k k0 k1, by rw [twe]; exact h5.2.1, by rw [twe, twe]; exact h5.2.2⟩
  · intro c c0 c1
    have b := atI_b c0 c1
    rw [t2e, t3e, t4e, t5e, es _ (by omega) (by omega), es (atI c + 1) (by omega) (by omega), es (atI c + 2) (by omega) (by omega), es (atI c + 3) (by omega) (by omega)]
    exact h6 c c0 c1
  · unfold RNx; rw [t0e, t0e, e2]
    exact ⟨h8.1, h8.2.1, fun p p0 p1 => by rw [t2e]; exact h8.2.2 p p0 p1⟩
  · unfold RWr RWb
    rw [ew, e2, e248, e249, e250, e251, e252, e253, e254, e255]
    simp only [twe, t0e, t2e, t3e, t4e, t5e]
    exact h9
  · unfold RTl
    simp only [tte, t0e]
    rw [es 10 (by decide) (by decide), es 3 (by decide) (by decide), es 4 (by decide) (by decide), es 5 (by decide) (by decide), es 8 (by decide) (by decide), es 9 (by decide) (by decide), es 1 (by decide) (by decide)]
    refine ⟨h10.1, h10.2.1, fun i i0 i1 => ?_, fun i i0 i1 => ?_, fun i i0 i1 => ?_⟩
    · rw [et 13 _ (by decide), es _ (by omega) (by omega)]; exact h10.2.2.1 i i0 i1
    · rw [et 14 _ (by decide), es _ (by omega) (by omega)]; exact h10.2.2.2.1 i i0 i1
    · rw [et 15 _ (by decide), es _ (by omega) (by omega)]; exact h10.2.2.2.2 i i0 i1
theorem Rl.drop {t : TS} {s : Int → Int} (h : Rl t s) (h0 : 0 < s 11) : Rl (dfC t) (gfF s) := by
  have hQ := h.2.2.2.1
  have hq := h.2.1.2.1
  have h8 := h.1.1.2.2.1
  have e6 : t 6 4 = s 11 := hQ.1
  have hp : 0 < t 6 4 := by omega
  have hp8 : t 6 4 ≤ 8 := by omega
  refine h.req (fun x y hx => dfC_n t y hx) (fun x h1 h2 => ?_) (gfF_M h.1.1 h0) ⟨?_, fun i i0 i1 => ?_⟩ ⟨?_, fun i i0 i1 => ?_⟩
  · rcases h2 with h2 | h2
    · exact gfF_x h0 h1 h2
    · exact gfF_x2 h0 h8 h2
  · rw [dfC_6 t hp]; omega
  · rw [dfC_at t hp hp8 (x := 7) (by decide), dfC_at t hp hp8 (x := 8) (by decide), dfC_at t hp hp8 (x := 9) (by decide), dfC_at t hp hp8 (x := 10) (by decide)]
    split
    · exact hq.2 (i + 1) (by omega) (by omega)
    · exact hq.2 i i0 i1
  · rw [dfC_6 t hp, gfF_at s h0, if_pos rfl, e6]
  · have e11 : gfF s 11 = s 11 - 1 := by rw [gfF_at s h0, if_pos rfl]
    rw [e11] at i1
    have g := hQ.2 (i + 1) (by omega) (by omega)
    have ee : ∀ q : Int, 0 ≤ q → q < 4 → gfF s (216 + 4 * i + q) = s (216 + 4 * (i + 1) + q) := by
      intro q q0 q1
      rw [gfF_at s h0, if_neg (by omega), if_pos (by omega)]
      congr 1; omega
    have e0 := ee 0 (by decide) (by decide)
    rw [Int.add_zero, Int.add_zero] at e0
    have hc : 0 ≤ i ∧ i < t 6 4 - 1 := by omega
    rw [dfC_at t hp hp8 (x := 7) (by decide), dfC_at t hp hp8 (x := 8) (by decide), dfC_at t hp hp8 (x := 9) (by decide), dfC_at t hp hp8 (x := 10) (by decide), if_pos hc, if_pos hc, if_pos hc, if_pos hc, e0, ee 1 (by decide) (by decide), ee 2 (by decide) (by decide), ee 3 (by decide) (by decide)]
    exact g
