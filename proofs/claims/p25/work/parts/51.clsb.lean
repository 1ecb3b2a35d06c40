/-! the class's acts, five -/
section CLSB
variable {E : ET} {hi : HI} {hr : HR} {o : Nat} {t : TS} {s : Int → Int}
set_option maxRecDepth 100000 in
set_option maxHeartbeats 4000000 in
theorem c_X4_eraseBlock (ho : St o) (hHR : HRk hr) (hR : RlT t s) {n : Int} (hO : OKS s n) (hn : n < 100000) {b : Int} (hb : InR b) : AMet E M_X4_eraseBlock [aR o, aI b] (putS o hi t) hr 125 (QI hi hr o (erF s b)) := by
  refine am_of (by decide +kernel) (Nat.le_of_ble_eq_true rfl) ?_
  obtain ⟨hR0, hT⟩ := hR
  have hR : RlT t s := ⟨hR0, hT⟩
  have hM := hR0.1.1
  have h1 := hM.2.2.2.2.2.1
  have h8 := hM.2.2.1
  have z0 := hM.z 0 (by unfold xc; omega)
  have z11 := hM.z 11 (by unfold xc; omega)
  have e6 : t 6 4 = s 11 := hR0.2.2.2.1.1
  have hp : t 0 8 = 1 - s 1 := hR0.2.2.2.2.2.2.2.1
  have hB : BIG = 1000000 := rfl
  have h2 := hM.2.1
  have ea : t 0 9 = s 2 := hR0.2.2.2.2.1.2.1
  refine aw_iload_n dX4_eraseBlock_0 rfl ?_
  refine aw_iconst dX4_eraseBlock_1 ?_
  refine aw_iconst dX4_eraseBlock_2 ?_
  refine aw_S3x dX4_eraseBlock_3 clX4_83 ⟨by decide, by decide⟩ (c_X8_isIn hb ⟨by decide, by decide⟩ ⟨by decide, by decide⟩) (by decide) (by decide) rfl rfl (by simp only [List.length_cons, List.length_nil]; omega) ?_
  refine aw_if_ne (tgt := 11) dX4_eraseBlock_6 (by decide) in_r (fun h6 => ?_) (fun h6 => ?_)
  · rw [in0, Classical.not_not] at h6
    have hcb := ctC_b t b 24
    have ect0 : ctC t b 24 = ctA s b 24 := ct_eq hR0.2.2.1 (by omega) 24 (by omega)
    have my := my_eq (s := s) (b := b) (m0 := (if s 1 = 1 ∨ b = s 2 then 0 else 1)) (by split <;> omega) 24
    refine aw_aload_n dX4_eraseBlock_11 rfl ?_
    refine aw_getv dX4_eraseBlock_12 ci4 (by decide) fX4_52 (by have := st_lt ho; omega) (st_sh0 ho) rfl (putS_gk0 o _ _ 8 8 rfl) ?_
    refine aw_if_eq (tgt := 37) dX4_eraseBlock_15 (by decide) ⟨by omega, by omega⟩ (fun h15 => ?_) (fun h15 => ?_)
    · refine aw_bipush dX4_eraseBlock_37 (by decide) ?_
      refine aw_iret dX4_eraseBlock_39 rfl (by decide) (by decide) ?_
      have k0 : myA s b (if s 1 = 1 ∨ b = s 2 then 0 else 1) 24 = 0 := my.1.resolve_right (fun g => by have g2 := my.2.mp g; have g3 := g2.1; have g4 := g2.2; split at g3 <;> omega)
      have e : erF s b = (-2, s) := by unfold erF; rw [if_neg (fun g => g h6), if_pos k0]
      rw [e]
      exact ⟨_, rfl, rfl, rfl, rfl, t, rfl, hR⟩
    · refine aw_iload_n dX4_eraseBlock_18 rfl ?_
      refine aw_aload_n dX4_eraseBlock_19 rfl ?_
      refine aw_getv dX4_eraseBlock_20 ci4 (by decide) fX4_76 (by have := st_lt ho; omega) (st_sh0 ho) rfl ((putS_gk0 o _ _ 9 9 rfl).trans ea) ?_
      refine aw_ic_eq (tgt := 37) dX4_eraseBlock_23 (by decide) hb ⟨by omega, by omega⟩ (fun h23 => ?_) (fun h23 => ?_)
      · refine aw_bipush dX4_eraseBlock_37 (by decide) ?_
        refine aw_iret dX4_eraseBlock_39 rfl (by decide) (by decide) ?_
        have k0 : myA s b (if s 1 = 1 ∨ b = s 2 then 0 else 1) 24 = 0 := my.1.resolve_right (fun g => by have g2 := my.2.mp g; have g3 := g2.1; have g4 := g2.2; split at g3 <;> omega)
        have e : erF s b = (-2, s) := by unfold erF; rw [if_neg (fun g => g h6), if_pos k0]
        rw [e]
        exact ⟨_, rfl, rfl, rfl, rfl, t, rfl, hR⟩
      · refine aw_aload_n dX4_eraseBlock_26 rfl ?_
        refine aw_getr (x := (o + 1)) dX4_eraseBlock_27 ci4 (by decide) fX4_12 (by have := st_lt ho; omega) (st_sh0 ho) rfl (st_r0 ho hHR 0) ?_
        refine aw_iload_n dX4_eraseBlock_30 rfl ?_
        refine aw_V1x dX4_eraseBlock_31 clX4_261 ⟨by decide, by decide⟩ (c := 0) (N := 4) (by have := st_lt ho; omega) (st_sh ho 1) rfl (c_X0_placesInBlock ho hHR (by omega) hR0.2.1.1) (by decide) (by decide) rfl rfl (by simp only [List.length_cons, List.length_nil]; omega) ?_
        refine aw_if_le (tgt := 40) dX4_eraseBlock_34 (by decide) ⟨by omega, by omega⟩ (fun h34 => ?_) (fun h34 => ?_)
        · refine aw_aload_n dX4_eraseBlock_40 rfl ?_
          refine aw_getr (x := (o + 1)) dX4_eraseBlock_41 ci4 (by decide) fX4_12 (by have := st_lt ho; omega) (st_sh0 ho) rfl (st_r0 ho hHR 0) ?_
          refine aw_iload_n dX4_eraseBlock_44 rfl ?_
          refine aw_V1v dX4_eraseBlock_45 clX4_264 ⟨by decide, by decide⟩ (c := 0) (N := 4) (by have := st_lt ho; omega) (st_sh ho 1) rfl (c_X0_blankBlock ho hHR (by omega)) (by decide) (by decide) rfl rfl (by simp only [List.length_cons, List.length_nil]; omega) ?_
          refine aw_aload_n dX4_eraseBlock_48 rfl ?_
          refine aw_getr (x := (o + 15)) dX4_eraseBlock_49 ci4 (by decide) fX4_46 (by have := st_lt ho; omega) (st_sh0 ho) rfl (st_r0 ho hHR 6) ?_
          refine aw_iload_n dX4_eraseBlock_52 rfl ?_
          refine aw_S2x dX4_eraseBlock_53 clX4_156 ⟨by decide, by decide⟩ (c_vAtv ho (bkC_n t b b (by decide) 24) (by decide) (st_sh ho 15) (by decide) (by omega) (by omega)) (by decide) (by decide) rfl rfl (by simp only [List.length_cons, List.length_nil]; omega) ?_
          refine aw_iconst dX4_eraseBlock_56 ?_
          refine aw_iadd dX4_eraseBlock_57 ?_
          refine aw_istore_n (ls2 := [_, _, _]) dX4_eraseBlock_58 (by decide) rfl ?_
          refine aw_aload_n dX4_eraseBlock_59 rfl ?_
          refine aw_getr (x := (o + 15)) dX4_eraseBlock_60 ci4 (by decide) fX4_46 (by have := st_lt ho; omega) (st_sh0 ho) rfl (st_r0 ho hHR 6) ?_
          refine aw_iload_n dX4_eraseBlock_63 rfl ?_
          refine aw_iload_n dX4_eraseBlock_64 rfl ?_
          refine aw_S3v dX4_eraseBlock_65 clX4_267 ⟨by decide, by decide⟩ (c_X8_putAt ho (by decide) (st_sh ho 15) (by decide) (by omega) (by omega)) (by decide) (by decide) rfl rfl (by simp only [List.length_cons, List.length_nil]; omega) ?_
          refine aw_iload_n dX4_eraseBlock_68 rfl ?_
          refine aw_iret dX4_eraseBlock_69 rfl (by decide) (by decide) ?_
          have hb01 : b = 0 ∨ b = 1 := by omega
          have k0 : myA s b (if s 1 = 1 ∨ b = s 2 then 0 else 1) 24 = 1 := my.2.mpr ⟨by rw [if_neg (by omega)], by omega⟩
          have e : erF s b = (er1 s b (6 + b) + 1, up1 (er1 s b) (6 + b) (er1 s b (6 + b) + 1)) := by unfold erF; rw [if_neg (fun g => g h6), if_neg (by omega)]
          have m := (hO.er hn b).1
          rw [e] at m
          rw [e]
          have e6 : er1 s b (6 + b) = s (6 + b) := er1_x s hb01 (by omega)
          have x3 : ∀ i : Int, 0 ≤ i → i < 2 → t 15 i = s (6 + i) := hR0.2.2.2.2.2.2.2.2.2.2
          have x1 := hR0.2.2.2.2.2.2.2.2.1
          have x2 := hR0.2.2.2.2.2.2.2.2.2.1
          refine ⟨_, rfl, rfl, rfl, by rw [e6, x3 b (by omega) (by omega)], _, rfl, ?_⟩
          show RlT (ut (bkC t b 24) 15 b (t 15 b + 1)) (up1 (er1 s b) (6 + b) (er1 s b (6 + b) + 1))
          have R := hR0.blank hb01 (by omega)
          refine ⟨R.cfg (s2 := up1 (er1 s b) (6 + b) (er1 s b (6 + b) + 1)) m (fun x y hx => ut_n _ _ (fun g => by omega)) (fun x x6 x7 hx => up1_n _ _ (by omega)) (fun i i0 i1 => ?_) (fun i i0 i1 => ?_) (fun i i0 i1 => ?_), ?_⟩
          · rw [ut_n _ _ (by simp), bkC_n _ _ _ (by decide), up1_n _ _ (by omega), er1_x s hb01 (by omega)]; exact x1 i i0 i1
          · rw [ut_n _ _ (by simp), bkC_n _ _ _ (by decide), up1_n _ _ (by omega), er1_x s hb01 (by omega)]; exact x2 i i0 i1
          · by_cases q : i = b
            · rw [q, ut_s, up1_s, e6, x3 b (by omega) (by omega)]
            · rw [ut_n _ _ (fun g => q g.2), bkC_n _ _ _ (by decide), up1_n _ _ (by omega), er1_x s hb01 (by omega)]; exact x3 i i0 i1
          · rw [ut_n _ _ (by simp), bkC_n _ _ _ (by decide), up1_n _ _ (by omega), er1_x s hb01 (by omega)]; exact hT
        · refine aw_bipush dX4_eraseBlock_37 (by decide) ?_
          refine aw_iret dX4_eraseBlock_39 rfl (by decide) (by decide) ?_
          have k0 : myA s b (if s 1 = 1 ∨ b = s 2 then 0 else 1) 24 = 0 := my.1.resolve_right (fun g => by have g2 := my.2.mp g; have g3 := g2.1; have g4 := g2.2; split at g3 <;> omega)
          have e : erF s b = (-2, s) := by unfold erF; rw [if_neg (fun g => g h6), if_pos k0]
          rw [e]
          exact ⟨_, rfl, rfl, rfl, rfl, t, rfl, hR⟩
  · refine aw_iconst dX4_eraseBlock_9 ?_
    refine aw_iret dX4_eraseBlock_10 rfl (by decide) (by decide) ?_
    rw [in0] at h6
    have e : erF s b = (-1, s) := by unfold erF; rw [if_pos h6]
    rw [e]
    exact ⟨_, rfl, rfl, rfl, rfl, t, rfl, hR⟩
end CLSB
