/-! the relation: when all would be done -/
theorem gnC_0 (t : TS) (k : Int) : gnC t k 11 0 = if t 11 7 - k ≤ 0 then 0 else t 11 0 := by
  unfold gnC
  rw [gn4_7]
  split
  · rw [fnC_n _ _ (by decide), fn3_0]
  · exact gn4_n _ _ _ (by decide) (by decide) (by decide)
theorem gnC_6 (t : TS) (k : Int) : gnC t k 6 4 = t 6 4 := by
  unfold gnC
  split
  · rw [fnC_n _ _ (by decide), fn3_n _ _ (by decide) (by decide), gn4_n _ _ _ (by decide) (by decide) (by decide)]
  · exact gn4_n _ _ _ (by decide) (by decide) (by decide)
theorem Rl.busy {t : TS} {s : Int → Int} (h : Rl t s) (hw : iwF s = 1) (hb : s 0 + (s 253 + s 254) ≤ BIG) (j : Nat) (hj : (j : Int) + 1 ≤ s 253 + s 254) : iwF (goA s (j + 1)) = (if (j : Int) + 1 < s 253 + s 254 then 1 else 0) ∧ goA s (j + 1) 11 = s 11 := by
  have hM := h.1.1
  have m1 := hM.time (show s 0 + 1 ≤ BIG by omega)
  have et : ti1 s = up1 s 0 (s 0 + 1) := ti1_b hw
  have g : Rl t (ti1 s) := by rw [et]; exact h.time m1
  have gw : iwF (ti1 s) = 1 := by rw [et, iw_time]; exact hw
  have j1 := g.jump hM gw j (by rw [et, up1_n _ _ (by decide), up1_n _ _ (by decide)]; exact hj) (by omega)
  have e1 := j1.2.2.2.2.2.1.1
  have e2 := j1.2.2.2.1.1
  have e6 := h.2.2.2.1.1
  have hWb := h.2.2.2.2.2.1.2.1 hw
  have e0 : t 11 0 = 1 := h.2.2.2.2.2.1.1.trans hw
  have e7 : t 11 7 = s 253 + s 254 := hWb.2.2.2.2.2.1
  rw [gnC_0, e7, e0] at e1
  rw [gnC_6, e6] at e2
  refine ⟨?_, e2.symm⟩
  rw [← e1]
  by_cases c : (j : Int) + 1 < s 253 + s 254
  · rw [if_pos c, if_neg (by omega)]
  · rw [if_neg c, if_pos (by omega)]
theorem di_stop {s : Int → Int} (h : ¬ (iwF s = 1 ∨ (0 < s 11 ∧ nxt s < 16))) (d : Nat) (n : Int) : diA d s n = (s, n) := by
  cases d with
  | zero => rfl
  | succ d => rw [diA, if_neg h]
theorem di_go {s : Int → Int} (hM : MI s) (hL : ML s) : ∀ L : Nat, s 0 + L ≤ BIG → (∀ j : Nat, j < L → iwF (goA s j) = 1 ∨ (0 < goA s j 11 ∧ nxt (goA s j) < 16)) → (mu (goA s L) + L ≤ mu s ∧ ML (goA s L)) ∧ ∀ (d : Nat) (n : Int), diA (d + L) s n = diA d (goA s L) (n + L) := by
  intro L
  induction L with
  | zero =>
    intro _ _
    refine ⟨⟨?_, hL⟩, fun d n => ?_⟩
    · show mu s + ((0 : Nat) : Int) ≤ mu s
      omega
    · show diA d s n = diA d s (n + ((0 : Nat) : Int))
      rw [show n + ((0 : Nat) : Int) = n by omega]
  | succ L ih =>
    intro hb hc
    have g := ih (by omega) (fun j hj => hc j (by omega))
    have m := goA_M hM L (by omega)
    have c := hc L (by omega)
    have t := tiF_mu m.1 g.1.2 (by rw [m.2]; omega) c
    refine ⟨⟨?_, t.2⟩, fun d n => ?_⟩
    · show mu (tiF (goA s L)) + ((L + 1 : Nat) : Int) ≤ mu s
      have := g.1.1
      omega
    · have e := g.2 (d + 1) n
      rw [show d + (L + 1) = d + 1 + L by omega, e, diA, if_pos c, show n + (L : Int) + 1 = n + ((L + 1 : Nat) : Int) by omega]
      rfl
def duR (q : (Int → Int) × Int) : Int := if 0 < q.1 11 then -4 else q.2
def duF (s : Int → Int) : Int := duR (diA 1000000 s 0)
theorem diF_e (s : Int → Int) : diF s = if s 1 = 1 then -2 else duF s := rfl
/-- a writing that is gone on with to its end -/
theorem du_busy {t : TS} {s : Int → Int} (h : Rl t s) (hw : iwF s = 1) (hb : s 0 + mu s ≤ BIG) {d : Nat} {n : Int} (hd : mu s ≤ d) {L : Nat} (hL : (L : Int) = s 253 + s 254) :
    1 ≤ L ∧ L ≤ d ∧ s 0 + L ≤ BIG ∧ mu (goA s L) + L ≤ mu s ∧ goA s L 0 = s 0 + L ∧ goA s L 11 = s 11 ∧ iwF (goA s L) = 0 ∧ diA d s n = diA (d - L) (goA s L) (n + L) := by
  have hM := h.1.1
  have z11 := hM.z 11 (by unfold xc; omega)
  have z3 := hM.z 253 (by unfold xc; omega)
  have z4 := hM.z 254 (by unfold xc; omega)
  have h1 : 1 ≤ s 253 + s 254 := by unfold iwF at hw; split at hw <;> omega
  have hmu : s 253 + s 254 ≤ mu s := by unfold mu; omega
  have hb1 : s 0 + (s 253 + s 254) ≤ BIG := by omega
  have B := h.busy hw hb1
  have g := di_go hM h.1.2 L (by omega) (fun j hj => by
    left
    cases j with
    | zero => exact hw
    | succ j => have e := (B j (by omega)).1; rw [if_pos (by omega)] at e; exact e)
  obtain ⟨l, rfl⟩ : ∃ l, L = l + 1 := ⟨L - 1, by omega⟩
  have bl := B l (by omega)
  rw [if_neg (by omega)] at bl
  have e := g.2 (d - (l + 1)) n
  rw [show d - (l + 1) + (l + 1) = d by omega] at e
  exact ⟨by omega, by omega, by omega, g.1.1, (goA_M hM (l + 1) (by omega)).2, bl.2, bl.1, e⟩
theorem du_idle {t : TS} {s : Int → Int} (h : Rl t s) (hw : iwF s = 0) (hq : 0 < s 11) (hn : nxt s < 16) (hb : s 0 + mu s ≤ BIG) {d : Nat} {n : Int} (hd : mu s ≤ d) :
    1 ≤ d ∧ s 0 + ((1 : Nat) : Int) ≤ BIG ∧ mu (goA s 1) + 1 ≤ mu s ∧ goA s 1 0 = s 0 + ((1 : Nat) : Int) ∧ goA s 1 11 < s 11 ∧ diA d s n = diA (d - 1) (goA s 1) (n + ((1 : Nat) : Int)) := by
  have hM := h.1.1
  have z3 := hM.z 253 (by unfold xc; omega)
  have z4 := hM.z 254 (by unfold xc; omega)
  have e3 : s 253 = 0 ∧ s 254 = 0 := by unfold iwF at hw; split at hw <;> omega
  have hm1 : 1 ≤ mu s := by unfold mu; omega
  have g := di_go hM h.1.2 1 (by omega) (fun j hj => by
    right
    have : j = 0 := by omega
    subst this
    exact ⟨hq, hn⟩)
  have m := goA_M hM 1 (by omega)
  have y3 := m.1.z 253 (by unfold xc; omega)
  have y4 := m.1.z 254 (by unfold xc; omega)
  have e := g.2 (d - 1) n
  rw [show d - 1 + 1 = d by omega] at e
  have gm := g.1.1
  refine ⟨by omega, by omega, gm, m.2, ?_, e⟩
  unfold mu at gm
  omega
