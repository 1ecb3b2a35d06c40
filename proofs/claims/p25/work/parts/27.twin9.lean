/-! the twin's texts, two -/
section TWIN9
variable {E : ET} {hi X : HI} {hr : HR} {f p b s G : Int → Int} {a d t m : Int}
theorem cmd_kf {G : Int → Int} {len a : Int} (h : cmd G len a = 1) : kfF (hrF G len a) = 1 := by
  have hk := kf_b (hrF G len a)
  have h2 : ¬ (c2F G len a).1 = 0 := by
    intro e
    unfold cmd tsF at h
    rw [if_neg (fun g => g.1 e)] at h
    exact absurd h (by decide)
  have h1 : ¬ (c1F G len a).1 = 0 := by
    intro e
    unfold c2F at h2
    rw [if_neg (fun g => g.1 e)] at h2
    exact h2 e
  by_cases c : h2F (hrF G len a) = 1 ∨ h1F (hrF G len a) = 1
  · unfold kfF; rw [if_pos (by rcases c with c | c <;> simp [c])]
  · unfold c1F at h1
    rw [if_neg c] at h1
    dsimp only at h1
    omega
theorem kf_x {x : Int} (h : kfF x = 1) : x = 119 ∨ x = 117 ∨ x = 116 ∨ x = 120 ∨ x = 111 ∨ x = 115 ∨ x = 99 ∨ x = 101 := by
  have e2 : h2F x = 1 → x = 119 ∨ x = 117 := fun q => by unfold h2F at q; split at q <;> first | assumption | omega
  have e1 : h1F x = 1 → x = 116 ∨ x = 99 ∨ x = 101 := fun q => by unfold h1F at q; split at q <;> first | assumption | omega
  unfold kfF at h
  split at h
  · next c =>
    rcases c with c | c | c
    · have := e2 c; omega
    · have := e1 c; omega
    · omega
  · exact absurd h (by decide)
/-- the twin's row for a text, behind another sign -/
def tyF (len c : Int) : Int := if ¬ (32 ≤ c ∧ c ≤ 126) then -1 else if len = 60 then -3 else len + 1
abbrev tg (hi : HI) : Int → Int := fun k => hi 129 k.toNat
theorem tt_self (hi : HI) : pa 125 (pa 129 hi (tg hi)) (fd hi) = hi := by rw [pa_self 129 hi, pa_self 125 hi]
def TYQ (hi : HI) (c : Int) (v : Int) (h : HI) : Prop := v = tyF (hi 125 5) c ∧ (v < 0 → h = hi) ∧ (0 ≤ v → h = pa 125 (pa 129 hi (up1 (tg hi) (hi 125 5) c)) (up1 (fd hi) 5 (hi 125 5 + 1)))
end TWIN9
