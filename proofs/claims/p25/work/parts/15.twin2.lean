/-! the twin's acts: requests and ticks -/
section TWIN2
variable {E : ET} {hi : HI} {hr : HR} {s : Int → Int}
theorem stF_r {s : Int → Int} (h : MI s) (key : Int) : InR (stF s key) ∧ 0 ≤ stF s key := by
  unfold stF
  split
  · exact ⟨⟨by decide, by decide⟩, by decide⟩
  · rcases plc_b s key with g | g
    · omega
    · have := atI_b g.1 g.2
      exact ⟨h.r _ (by unfold xc; omega), h.z _ (by unfold xc; omega)⟩
end TWIN2
