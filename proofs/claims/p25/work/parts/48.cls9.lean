/-! the class's acts, three -/
section CLS9
variable {E : ET} {hi : HI} {hr : HR} {o : Nat} {t : TS} {s : Int → Int}
theorem opA_s (s : Int → Int) (n : Nat) : opA s (n + 1) = if 16 ≤ (n : Int) % 24 ∧ opA s n 11 < 8 ∧ ipF (opA s n) (n : Int) = 1 then cpF (opA s n) (n : Int) 0 else opA s n := rfl
theorem opA_skip (s : Int → Int) (b : Nat) : ∀ j : Nat, j ≤ 16 → opA s (24 * b + j) = opA s (24 * b) := by
  intro j
  induction j with
  | zero => intro _; rfl
  | succ j ih =>
    intro hj
    have e : opA s (24 * b + (j + 1)) = opA s (24 * b + j) := by
      rw [show 24 * b + (j + 1) = (24 * b + j) + 1 from rfl, opA_s, if_neg (fun g => by have := g.1; omega)]
    rw [e]
    exact ih (by omega)
theorem opA_step (s : Int → Int) (b k : Nat) (h0 : 16 ≤ k) (h1 : k < 24) : opA s (24 * b + k + 1) = if opA s (24 * b + k) 11 < 8 ∧ ipF (opA s (24 * b + k)) ((24 * b + k : Nat) : Int) = 1 then cpF (opA s (24 * b + k)) ((24 * b + k : Nat) : Int) 0 else opA s (24 * b + k) := by
  rw [opA_s]
  by_cases c : opA s (24 * b + k) 11 < 8 ∧ ipF (opA s (24 * b + k)) ((24 * b + k : Nat) : Int) = 1
  · rw [if_pos c, if_pos ⟨by omega, c⟩]
  · rw [if_neg c, if_neg (fun g => c g.2)]
set_option maxRecDepth 100000 in
set_option maxHeartbeats 4000000 in
theorem c_X4_restorePower (ho : St o) (hHR : HRk hr) (hR : RlT t s) : AMet E M_X4_restorePower [aR o] (putS o hi t) hr 125 (QI hi hr o (opF s)) := by
  refine am_of (by decide +kernel) (Nat.le_of_ble_eq_true rfl) ?_
  obtain ⟨hR0, hT⟩ := hR
  have hR : RlT t s := ⟨hR0, hT⟩
  have hM := hR0.1.1
  have h1 := hM.2.2.2.2.2.1
  have h8 := hM.2.2.1
  have z0 := hM.z 0 (by unfold xc; omega)
  have z11 := hM.z 11 (by unfold xc; omega)
  have e6 : t 6 4 = s 11 := hR0.2.2.2.1.1
  have hp : t 0 8 = 1 - s 1 := hR0.2.2.2.2.2.2.2.1
  have hB : BIG = 1000000 := rfl
  by_cases c : s 1 = 1
  · have m := hM.on
    have R0 := hR0.pw (v := 0) m
    have hk := opA_skip (up1 s 1 0)
    have hs := opA_step (up1 s 1 0)
    have h0 : opA (up1 s 1 0) 0 = up1 s 1 0 := rfl
    have hx : opA (up1 s 1 0) 48 0 = s 0 := by rw [opA_x m (by decide) (by decide) 48 (by decide), up1_n _ _ (by decide)]
    have e : opF s = (opA (up1 s 1 0) 48 11, opA (up1 s 1 0) 48) := by unfold opF; rw [if_pos c]
    rw [e]
    generalize opA (up1 s 1 0) = W at hk hs h0 hx
    have inner : ∀ (b : Nat), b < 2 → (∀ (t : TS) (l2 : Option AV), Rl t (W (24 * (b + 1))) → t 12 0 = s 0 → AW E M_X4_restorePower 0 0 17 [some (aR o), some (aI (((b + 1 : Nat) : Int))), l2] [] (putS o hi t) hr 125 (QI hi hr o (W 48 11, W 48))) → ∀ (d k : Nat) (t : TS), k + d = 24 → 16 ≤ k → Rl t (W (24 * b + k)) → t 12 0 = s 0 →
        AW E M_X4_restorePower 0 0 25 [some (aR o), some (aI ((b : Int))), some (aI (k : Int))] [] (putS o hi t) hr 125 (QI hi hr o (W 48 11, W 48)) := by
      intro b hb hnext d
      induction d with
      | zero =>
        intro k t hkd k16 g1 g2
        have hk' : k = 24 := by omega
        subst hk'
        have g3 := hnext t (some (aI ((24 : Nat) : Int))) g1 g2
        have eb : ((b + 1 : Nat) : Int) = (b : Int) + 1 := by omega
        rw [eb] at g3
        refine aw_iload_n dX4_restorePower_25 rfl ?_
        refine aw_bipush dX4_restorePower_26 (by decide) ?_
        refine aw_ic_ge (tgt := 47) dX4_restorePower_28 (by decide) ⟨by decide, by decide⟩ ⟨by decide, by decide⟩ (fun h28 => ?_) (fun h28 => ?_)
        · refine aw_iinc (ls2 := [_, _, _]) dX4_restorePower_47 rfl (by decide) rfl ?_
          refine aw_goto (tgt := 17) dX4_restorePower_50 (by decide) ?_
          exact g3
        · exact absurd h28 (by decide)
      | succ d ih =>
        intro k t hkd k16 g1 g2
        have ec : (b : Int) * 24 + (k : Int) = ((24 * b + k : Nat) : Int) := by omega
        have g3 := g1.copy (c := ((24 * b + k : Nat) : Int)) (u := 0) (by omega) (by omega) ⟨by decide, by decide⟩
        rw [← hs b k k16 (by omega)] at g3
        refine aw_iload_n dX4_restorePower_25 rfl ?_
        refine aw_bipush dX4_restorePower_26 (by decide) ?_
        refine aw_ic_ge (tgt := 47) dX4_restorePower_28 (by decide) ⟨by omega, by omega⟩ ⟨by decide, by decide⟩ (fun h28 => ?_) (fun h28 => ?_)
        · exact absurd h28 (by omega)
        · refine aw_aload_n dX4_restorePower_31 rfl ?_
          refine aw_iload_n dX4_restorePower_32 rfl ?_
          refine aw_iload_n dX4_restorePower_33 rfl ?_
          refine aw_S2x dX4_restorePower_34 clX4_168 ⟨by decide, by decide⟩ c_X8_cellOf (by decide) (by decide) rfl rfl (by simp only [List.length_cons, List.length_nil]; omega) ?_
          rw [ec]
          refine aw_iconst dX4_restorePower_37 ?_
          refine aw_V2v dX4_restorePower_38 clX4_249 ⟨by decide, by decide⟩ (c := 4) (N := 11) (by have := st_lt ho; omega) (st_sh0 ho) rfl (c_X4_askForCopy ho hHR g1 (by omega) (by omega) ⟨by decide, by decide⟩) (by decide) (by decide) rfl rfl (by simp only [List.length_cons, List.length_nil]; omega) ?_
          refine aw_iinc (ls2 := [_, _, _]) dX4_restorePower_41 rfl (by decide) rfl ?_
          refine aw_goto (tgt := 25) dX4_restorePower_44 (by decide) ?_
          exact ih (k + 1) _ (by omega) (by omega) g3 (by rw [acC_n _ _ _ _ (by decide)]; exact g2)
    have o2 : ∀ (t : TS) (l2 : Option AV), Rl t (W (24 * (1 + 1))) → t 12 0 = s 0 → AW E M_X4_restorePower 0 0 17 [some (aR o), some (aI (((1 + 1 : Nat) : Int))), l2] [] (putS o hi t) hr 125 (QI hi hr o (W 48 11, W 48)) := by
      intro t l2 g1 g2
      refine aw_iload_n dX4_restorePower_17 rfl ?_
      refine aw_iconst dX4_restorePower_18 ?_
      refine aw_ic_ge (tgt := 53) dX4_restorePower_19 (by decide) ⟨by decide, by decide⟩ ⟨by decide, by decide⟩ (fun h19 => ?_) (fun h19 => ?_)
      · refine aw_aload_n dX4_restorePower_53 rfl ?_
        refine aw_getr (x := (o + 6)) dX4_restorePower_54 ci4 (by decide) fX4_21 (by have := st_lt ho; omega) (st_sh0 ho) rfl (st_r0 ho hHR 1) ?_
        refine aw_V0x dX4_restorePower_57 clX4_87 ⟨by decide, by decide⟩ (c := 2) (N := 5) (by have := st_lt ho; omega) (st_sh ho 6) rfl (c_X2_size ho hHR) (by decide) (by decide) rfl rfl (by simp only [List.length_cons, List.length_nil]; omega) ?_
        refine aw_iret dX4_restorePower_60 rfl (by decide) (by decide) ?_
        exact ⟨_, rfl, rfl, rfl, g1.2.2.2.1.1, t, rfl, g1, g2.trans hx.symm⟩
      · exact absurd h19 (by decide)
    have o1 : ∀ (t : TS) (l2 : Option AV), Rl t (W (24 * (0 + 1))) → t 12 0 = s 0 → AW E M_X4_restorePower 0 0 17 [some (aR o), some (aI (((0 + 1 : Nat) : Int))), l2] [] (putS o hi t) hr 125 (QI hi hr o (W 48 11, W 48)) := by
      intro t l2 g1 g2
      refine aw_iload_n dX4_restorePower_17 rfl ?_
      refine aw_iconst dX4_restorePower_18 ?_
      refine aw_ic_ge (tgt := 53) dX4_restorePower_19 (by decide) ⟨by decide, by decide⟩ ⟨by decide, by decide⟩ (fun h19 => ?_) (fun h19 => ?_)
      · exact absurd h19 (by decide)
      · refine aw_bipush dX4_restorePower_22 (by decide) ?_
        refine aw_istore_n (ls2 := [_, _, _]) dX4_restorePower_24 (by decide) rfl ?_
        exact inner 1 (by decide) o2 8 16 t (by decide) (by decide) (by rw [hk 1 16 (by decide)]; exact g1) g2
    refine aw_aload_n dX4_restorePower_0 rfl ?_
    refine aw_getv dX4_restorePower_1 ci4 (by decide) fX4_52 (by have := st_lt ho; omega) (st_sh0 ho) rfl (putS_gk0 o _ _ 8 8 rfl) ?_
    refine aw_if_eq (tgt := 10) dX4_restorePower_4 (by decide) ⟨by omega, by omega⟩ (fun h4 => ?_) (fun h4 => ?_)
    · refine aw_aload_n dX4_restorePower_10 rfl ?_
      refine aw_iconst dX4_restorePower_11 ?_
      refine aw_putv dX4_restorePower_12 ci4 (by decide) fX4_52 (by have := st_lt ho; omega) (st_sh0 ho) rfl rfl (Or.inr ⟨rfl, Or.inr rfl⟩) (putS_uk0 o _ _ 8 8 _ rfl) ?_
      refine aw_iconst dX4_restorePower_15 ?_
      refine aw_istore_n (ls2 := [_, _, _]) dX4_restorePower_16 (by decide) rfl ?_
      refine aw_iload_n dX4_restorePower_17 rfl ?_
      refine aw_iconst dX4_restorePower_18 ?_
      refine aw_ic_ge (tgt := 53) dX4_restorePower_19 (by decide) ⟨by decide, by decide⟩ ⟨by decide, by decide⟩ (fun h19 => ?_) (fun h19 => ?_)
      · exact absurd h19 (by decide)
      · refine aw_bipush dX4_restorePower_22 (by decide) ?_
        refine aw_istore_n (ls2 := [_, _, _]) dX4_restorePower_24 (by decide) rfl ?_
        exact inner 0 (by decide) o1 8 16 _ (by decide) (by decide) (by rw [hk 0 16 (by decide)]; show Rl _ (W 0); rw [h0]; exact R0) (by rw [ut_n _ _ (by decide)]; exact hT)
    · exact absurd h4 (by omega)
  · have e : opF s = (-2, s) := by unfold opF; rw [if_neg c]
    rw [e]
    refine aw_aload_n dX4_restorePower_0 rfl ?_
    refine aw_getv dX4_restorePower_1 ci4 (by decide) fX4_52 (by have := st_lt ho; omega) (st_sh0 ho) rfl (putS_gk0 o _ _ 8 8 rfl) ?_
    refine aw_if_eq (tgt := 10) dX4_restorePower_4 (by decide) ⟨by omega, by omega⟩ (fun h4 => ?_) (fun h4 => ?_)
    · exact absurd h4 (by omega)
    · refine aw_bipush dX4_restorePower_7 (by decide) ?_
      refine aw_iret dX4_restorePower_9 rfl (by decide) (by decide) ?_
      exact ⟨_, rfl, rfl, rfl, rfl, t, rfl, hR⟩
end CLS9
