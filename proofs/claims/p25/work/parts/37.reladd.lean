/-! the relation: a request that comes -/
def adJ (s : Int → Int) (u : Int) : Nat → Nat
  | 0 => 0
  | k + 1 => if u < s (216 + 4 * (k : Int) + 2) then adJ s u k else k + 1
theorem adJ_cong {s s2 : Int → Int} (u : Int) : ∀ k : Nat, (∀ x : Int, x < 216 + 4 * (k : Int) → s2 x = s x) → adJ s2 u k = adJ s u k := by
  intro k
  induction k with
  | zero => intro _; rfl
  | succ k ih =>
    intro h
    unfold adJ
    rw [h _ (by omega), ih (fun x hx => h x (by omega))]
theorem adJ_le (s : Int → Int) (u : Int) : ∀ k : Nat, adJ s u k ≤ k := by
  intro k
  induction k with
  | zero => exact Nat.le_refl _
  | succ k ih => unfold adJ; split <;> omega
theorem cmA_e (u : Int) : ∀ (k d : Nat) (s : Int → Int), k ≤ d → (cmA u d (k : Int) s).2 = (adJ s u k : Int) ∧ ∀ x : Int, (cmA u d (k : Int) s).1 x = if 216 + 4 * ((adJ s u k : Int) + 1) ≤ x ∧ x < 216 + 4 * ((k : Int) + 1) then s (x - 4) else s x := by
  intro k
  induction k with
  | zero =>
    intro d s _
    have e : cmA u d ((0 : Nat) : Int) s = (s, ((0 : Nat) : Int)) := by
      cases d with
      | zero => rfl
      | succ d => unfold cmA; rw [if_neg (by omega)]
    rw [e]
    refine ⟨rfl, fun x => ?_⟩
    have e0 : (adJ s u 0 : Int) = 0 := rfl
    rw [e0, if_neg (by omega)]
  | succ k ih =>
    intro d s hd
    cases d with
    | zero => omega
    | succ d =>
      have e1 : ((k + 1 : Nat) : Int) - 1 = (k : Int) := by omega
      have e2 : ((k + 1 : Nat) : Int) + -1 = (k : Int) := by omega
      unfold cmA adJ
      rw [e1, e2]
      by_cases c : u < s (216 + 4 * (k : Int) + 2)
      · rw [if_pos ⟨by omega, c⟩, if_pos c]
        have hc : ∀ x : Int, cpA s (216 + 4 * ((k + 1 : Nat) : Int)) (216 + 4 * (k : Int)) 4 x = if 216 + 4 * ((k + 1 : Nat) : Int) ≤ x ∧ x < 216 + 4 * ((k + 1 : Nat) : Int) + 4 then s (x - 4) else s x := by
          intro x
          have g := cpA_at s (216 + 4 * ((k + 1 : Nat) : Int)) (216 + 4 * (k : Int)) 4 (by omega) 4 (by omega) x
          rw [g]
          by_cases q : 216 + 4 * ((k + 1 : Nat) : Int) ≤ x ∧ x < 216 + 4 * ((k + 1 : Nat) : Int) + 4
          · rw [if_pos (by omega), if_pos q]; congr 1; omega
          · rw [if_neg (by omega), if_neg q]
        have hlow : ∀ x : Int, x < 216 + 4 * (k : Int) + 4 → cpA s (216 + 4 * ((k + 1 : Nat) : Int)) (216 + 4 * (k : Int)) 4 x = s x := fun x hx => by rw [hc, if_neg (by omega)]
        have ej := adJ_cong u k (s := s) (s2 := cpA s (216 + 4 * ((k + 1 : Nat) : Int)) (216 + 4 * (k : Int)) 4) (fun x hx => hlow x (by omega))
        have g := ih d (cpA s (216 + 4 * ((k + 1 : Nat) : Int)) (216 + 4 * (k : Int)) 4) (by omega)
        rw [ej] at g
        have hle := adJ_le s u k
        refine ⟨g.1, fun x => ?_⟩
        rw [g.2 x]
        by_cases q : 216 + 4 * ((adJ s u k : Int) + 1) ≤ x ∧ x < 216 + 4 * ((k : Int) + 1)
        · rw [if_pos q, if_pos (by omega), hlow _ (by omega)]
        · rw [if_neg q, hc]
          by_cases q2 : 216 + 4 * ((k + 1 : Nat) : Int) ≤ x ∧ x < 216 + 4 * ((k + 1 : Nat) : Int) + 4
          · rw [if_pos q2, if_pos (by omega)]
          · rw [if_neg q2, if_neg (by omega)]
      · rw [if_neg (fun g => c g.2), if_neg c]
        exact ⟨rfl, fun x => by rw [if_neg (by omega)]⟩
theorem cmF_at {s : Int → Int} (h : MI s) (h7 : s 11 ≤ 7) (key val u stp : Int) {i q : Int} (i0 : 0 ≤ i) (i1 : i < 8) (q0 : 0 ≤ q) (q1 : q < 4) :
    cmF s key val u stp (216 + 4 * i + q) = if i = (adJ s u (s 11).toNat : Int) then (if q = 0 then key else if q = 1 then val else if q = 2 then u else stp)
      else if (adJ s u (s 11).toNat : Int) < i ∧ i ≤ s 11 then s (216 + 4 * (i - 1) + q) else s (216 + 4 * i + q) := by
  have h0 := h.z 11 (by unfold xc; omega)
  have g := cmA_e u (s 11).toNat 9 s (by omega)
  rw [Int.toNat_of_nonneg h0] at g
  simp only [cmF, cmE]
  rw [up1_n _ _ (by omega), g.1]
  generalize (adJ s u (s 11).toNat : Int) = ix at g ⊢
  by_cases e : i = ix
  · rw [if_pos e, e]
    rcases (show q = 0 ∨ q = 1 ∨ q = 2 ∨ q = 3 by omega) with rfl | rfl | rfl | rfl
    · rw [up1_n _ _ (by omega), up1_n _ _ (by omega), up1_n _ _ (by omega), Int.add_zero, up1_s, if_pos rfl]
    · rw [up1_n _ _ (by omega), up1_n _ _ (by omega), up1_s, if_neg (by decide), if_pos rfl]
    · rw [up1_n _ _ (by omega), up1_s, if_neg (by decide), if_neg (by decide), if_pos rfl]
    · rw [up1_s, if_neg (by decide), if_neg (by decide), if_neg (by decide)]
  · rw [if_neg e, up1_n _ _ (by omega), up1_n _ _ (by omega), up1_n _ _ (by omega), up1_n _ _ (by omega), g.2]
    by_cases q2 : ix < i ∧ i ≤ s 11
    · rw [if_pos q2, if_pos (by omega)]; congr 1; omega
    · rw [if_neg q2, if_neg (by omega)]
theorem adI_eq {t : TS} {s : Int → Int} (u : Int) : ∀ k : Nat, k ≤ 8 → (∀ i : Int, 0 ≤ i → i < k → t 9 i = s (216 + 4 * i + 2)) → adI t u k = adJ s u k := by
  intro k
  induction k with
  | zero => intro _ _; rfl
  | succ k ih =>
    intro hk h
    have e : ruF t (k : Int) = s (216 + 4 * (k : Int) + 2) := by unfold ruF; rw [if_pos ⟨by omega, by omega⟩, h _ (by omega) (by omega)]
    unfold adI adJ
    rw [e, ih (by omega) (fun i i0 i1 => h i i0 (by omega))]
theorem Rl.add {t : TS} {s : Int → Int} (h : Rl t s) (h7 : s 11 ≤ 7) {k v u st : Int} (hk : 0 ≤ k ∧ k ≤ BIG) (hv : 0 ≤ v ∧ v ≤ BIG) (hu : 0 ≤ u ∧ u ≤ 3) (hs : 0 ≤ st ∧ st ≤ BIG) (hst : u = 0 ∨ u = 3 → 0 < st) : Rl (adC t k v u st) (cmF s k v u st) := by
  have hQ := h.2.2.2.1
  have hq := h.2.1.2.1
  have h0 := h.1.1.z 11 (by unfold xc; omega)
  have hB : BIG = 1000000 := rfl
  have e6 : t 6 4 = s 11 := hQ.1
  have p0 : 0 ≤ t 6 4 := by omega
  have p8 : t 6 4 < 8 := by omega
  have ea : adI t u (t 6 4).toNat = adJ s u (s 11).toNat := by
    rw [e6]
    exact adI_eq u _ (by omega) (fun i i0 i1 => (hQ.2 i i0 (by omega)).2.2.1)
  have hle := adJ_le s u (s 11).toNat
  have A : ∀ (x : Nat) (y : Int), 7 ≤ x ∧ x ≤ 10 → adC t k v u st x y = if y = (adJ s u (s 11).toNat : Int) then (if x = 7 then k else if x = 8 then v else if x = 9 then u else st)
      else if (adJ s u (s 11).toNat : Int) < y ∧ y ≤ s 11 then t x (y - 1) else t x y := by
    intro x y hx
    rw [adC_at t k v u st p0 p8 hx y, ea, e6]
  have B := fun (i q : Int) (i0 : 0 ≤ i) (i1 : i < 8) (q0 : 0 ≤ q) (q1 : q < 4) => cmF_at h.1.1 h7 k v u st i0 i1 q0 q1
  have hix : (0 : Int) ≤ (adJ s u (s 11).toNat : Int) ∧ (adJ s u (s 11).toNat : Int) ≤ s 11 := by omega
  generalize (adJ s u (s 11).toNat : Int) = ix at A B hix
  refine h.req (fun x y hx => adC_n t k v u st y hx) (fun x h1 h2 => cmF_x h.1.1 h7 k v u st h2 h1) (cmF_M h.1.1 h7 hk hv ⟨hu.1, by omega⟩ hs) ⟨?_, fun i i0 i1 => ?_⟩ ⟨?_, fun i i0 i1 => ?_⟩
  · rw [adC_6 t k v u st p8]; omega
  · rw [A 7 i (by decide), A 8 i (by decide), A 9 i (by decide), A 10 i (by decide)]
    by_cases e : i = ix
    · rw [if_pos e, if_pos e, if_pos e, if_pos e]
      exact ⟨(⟨by omega, by omega⟩ : InR k), (⟨by omega, by omega⟩ : InR v), hu, (⟨by omega, by omega⟩ : InR st)⟩
    · rw [if_neg e, if_neg e, if_neg e, if_neg e]
      by_cases e2 : ix < i ∧ i ≤ s 11
      · rw [if_pos e2, if_pos e2, if_pos e2, if_pos e2]
        by_cases e3 : 0 ≤ i - 1
        · exact hq.2 (i - 1) e3 (by omega)
        · exact absurd e3 (by omega)
      · rw [if_neg e2, if_neg e2, if_neg e2, if_neg e2]; exact hq.2 i i0 i1
  · rw [adC_6 t k v u st p8, cmF_11 h.1.1 h7, e6]
  · rw [cmF_11 h.1.1 h7] at i1
    have b0 := B i 0 i0 (by omega) (by decide) (by decide)
    rw [Int.add_zero] at b0
    rw [A 7 i (by decide), A 8 i (by decide), A 9 i (by decide), A 10 i (by decide), b0, B i 1 i0 (by omega) (by decide) (by decide), B i 2 i0 (by omega) (by decide) (by decide), B i 3 i0 (by omega) (by decide) (by decide)]
    by_cases e : i = ix
    · rw [if_pos e, if_pos e, if_pos e, if_pos e, if_pos e, if_pos e, if_pos e, if_pos e]
      exact ⟨rfl, rfl, rfl, rfl, hst⟩
    · rw [if_neg e, if_neg e, if_neg e, if_neg e, if_neg e, if_neg e, if_neg e, if_neg e]
      by_cases e2 : ix < i ∧ i ≤ s 11
      · rw [if_pos e2, if_pos e2, if_pos e2, if_pos e2, if_pos e2, if_pos e2, if_pos e2, if_pos e2, Int.add_zero]
        exact hQ.2 (i - 1) (by omega) (by omega)
      · rw [if_neg e2, if_neg e2, if_neg e2, if_neg e2, if_neg e2, if_neg e2, if_neg e2, if_neg e2]
        exact hQ.2 i i0 (by omega)
