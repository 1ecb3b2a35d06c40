/-! the small methods -/
section SMALL
variable {E : ET} {hi : HI} {hr : HR} {s : Int → Int}
set_option maxRecDepth 100000 in
set_option maxHeartbeats 4000000 in
theorem c_X8_isIn {v a b : Int} (hv : InR v) (ha : InR a) (hb : InR b) : AMet E M_X8_isIn [aI v, aI a, aI b] hi hr 125 (EX (some (aI (if a ≤ v ∧ v ≤ b then 1 else 0))) hi hr 125) := by
  refine am_of (by decide +kernel) (Nat.le_of_ble_eq_true rfl) ?_
  refine aw_iload_n dX8_isIn_0 rfl ?_
  refine aw_iload_n dX8_isIn_1 rfl ?_
  refine aw_ic_lt (tgt := 14) dX8_isIn_2 (by decide) (by assumption) (by assumption) (fun h2 => ?_) (fun h2 => ?_)
  · refine aw_iconst dX8_isIn_14 ?_
    refine aw_zret dX8_isIn_15 rfl (Or.inl rfl) (by decide) (by decide) ?_
    refine ⟨?_, rfl, rfl, rfl⟩; simp only [Option.some.injEq, Sum.inl.injEq]; (try rw [if_pos ⟨by omega, by omega⟩]); (try rw [if_neg (by omega)])
  · refine aw_iload_n dX8_isIn_5 rfl ?_
    refine aw_iload_n dX8_isIn_6 rfl ?_
    refine aw_ic_gt (tgt := 14) dX8_isIn_7 (by decide) (by assumption) (by assumption) (fun h7 => ?_) (fun h7 => ?_)
    · refine aw_iconst dX8_isIn_14 ?_
      refine aw_zret dX8_isIn_15 rfl (Or.inl rfl) (by decide) (by decide) ?_
      refine ⟨?_, rfl, rfl, rfl⟩; simp only [Option.some.injEq, Sum.inl.injEq]; (try rw [if_pos ⟨by omega, by omega⟩]); (try rw [if_neg (by omega)])
    · refine aw_iconst dX8_isIn_10 ?_
      refine aw_goto (tgt := 15) dX8_isIn_11 (by decide) ?_
      refine aw_zret dX8_isIn_15 rfl (Or.inr rfl) (by decide) (by decide) ?_
      refine ⟨?_, rfl, rfl, rfl⟩; simp only [Option.some.injEq, Sum.inl.injEq]; (try rw [if_pos ⟨by omega, by omega⟩]); (try rw [if_neg (by omega)])
end SMALL
