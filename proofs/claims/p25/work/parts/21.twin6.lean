/-! the twin's changes -/
section TWIN6
variable {E : ET} {hi X : HI} {hr : HR} {f p b s : Int → Int}
theorem r_ite {p : Prop} [Decidable p] {a b : Int × (Int → Int)} (ha : p → InR a.1) (hb : ¬ p → InR b.1) : InR (if p then a else b).1 := by
  by_cases h : p
  · rw [if_pos h]; exact ha h
  · rw [if_neg h]; exact hb h
theorem r_as {s : Int → Int} (h : MI s) (k v u : Int) : InR (asF s k v u).1 := by
  have h8 := h.2.2.1
  have h0 := h.z 11 (by unfold xc; omega)
  unfold asF
  refine r_ite (fun _ => (⟨by decide, by decide⟩ : InR (-1))) (fun _ => r_ite (fun _ => (⟨by decide, by decide⟩ : InR (-2))) (fun _ => r_ite (fun _ => (⟨by decide, by decide⟩ : InR (-3))) (fun h3 => ?_)))
  show InR (cmF s k v (2 - u) 0 11)
  rw [cmF_11 h (by omega)]
  exact ⟨by omega, by omega⟩
theorem r_of (s : Int → Int) : InR (ofF s).1 := by
  have := onA_b (lsF s) 12
  unfold ofF
  exact r_ite (fun _ => (⟨by decide, by decide⟩ : InR (-2))) (fun _ => (⟨by omega, by omega⟩ : InR (onA (lsF s) 12)))
theorem opA_11 {s : Int → Int} (h : MI s) : ∀ k : Nat, k ≤ 48 → 0 ≤ opA s k 11 ∧ opA s k 11 ≤ 8 := fun k hk => ⟨(opA_M h k hk).z 11 (by unfold xc; omega), (opA_M h k hk).2.2.1⟩
theorem r_op {s : Int → Int} (h : MI s) : InR (opF s).1 := by
  have := opA_11 h.on 48 (by omega)
  unfold opF
  generalize opA (up1 s 1 0) 48 = t at this ⊢
  exact r_ite (fun _ => (⟨by omega, by omega⟩ : InR (t 11))) (fun _ => (⟨by decide, by decide⟩ : InR (-2)))
theorem r_ch {s : Int → Int} (h : MI s) : InR (chF s).1 := by
  have := h.2.1
  unfold chF
  exact r_ite (fun _ => (⟨by decide, by decide⟩ : InR (-2))) (fun _ => (⟨by omega, by omega⟩ : InR (1 - s 2)))
theorem r_cl (s : Int → Int) (b : Int) : InR (clF s b).1 := by
  have := ctA_b s b 24
  unfold clF
  exact r_ite (fun _ => (⟨by decide, by decide⟩ : InR (-1))) (fun _ => r_ite (fun _ => (⟨by decide, by decide⟩ : InR (-2))) (fun _ => r_ite (fun _ => (⟨by decide, by decide⟩ : InR (-3))) (fun _ => (⟨by omega, by omega⟩ : InR (ctA s b 24)))))
theorem r_er {s : Int → Int} (h : MI s) (b : Int) : InR (erF s b).1 := by
  unfold erF
  refine r_ite (fun _ => (⟨by decide, by decide⟩ : InR (-1))) (fun h1 => r_ite (fun _ => (⟨by decide, by decide⟩ : InR (-2))) (fun _ => ?_))
  have hb : b = 0 ∨ b = 1 := by omega
  show InR (er1 s b (6 + b) + 1)
  rw [er1_x s hb (by omega)]
  have z := h.z (6 + b) (by unfold xc; omega)
  rcases hb with rfl | rfl
  · have z2 : s (6 + 0) ≤ 100000 := h.2.2.2.2.2.2.2.1
    exact ⟨by omega, by omega⟩
  · have z2 : s (6 + 1) ≤ 100000 := h.2.2.2.2.2.2.2.2.1
    exact ⟨by omega, by omega⟩
theorem r_sl {s : Int → Int} (h : MI s) (w t : Int) : InR (slF s w t).1 := by
  unfold slF
  exact r_ite (fun _ => h.r (12 + w) (by unfold xc; omega)) (fun _ => (⟨by decide, by decide⟩ : InR (-1)))
theorem r_se {s : Int → Int} (h : MI s) (w t : Int) : InR (seF s w t).1 := by
  unfold seF
  exact r_ite (fun _ => h.r (20 + w) (by unfold xc; omega)) (fun _ => (⟨by decide, by decide⟩ : InR (-1)))
end TWIN6
