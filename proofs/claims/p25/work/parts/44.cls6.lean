/-! the class lets ticks pass -/
section CLS6
variable {E : ET} {hi : HI} {hr : HR} {o : Nat} {t : TS} {s : Int → Int}
theorem goA_add (s : Int → Int) (k : Nat) : ∀ j : Nat, goA (goA s k) j = goA s (k + j) := by
  intro j
  induction j with
  | zero => rfl
  | succ j ih => show tiF (goA (goA s k) j) = tiF (goA s (k + j)); rw [ih]
theorem gnC_t (t : TS) (k : Int) : gnC t k 12 0 = t 12 0 := by
  unfold gnC
  split
  · rw [fnC_n _ _ (by decide), fn3_n _ _ (by decide) (by decide), gn4_n _ _ _ (by decide) (by decide) (by decide)]
  · exact gn4_n _ _ _ (by decide) (by decide) (by decide)
theorem ti1_0 (s : Int → Int) (h : MI s) (hb : s 0 + 1 ≤ BIG) : ti1 s 0 = s 0 + 1 := (ti1_M h hb).2
theorem ti1_b {s : Int → Int} (h : iwF s = 1) : ti1 s = up1 s 0 (s 0 + 1) := by unfold ti1; dsimp only; rw [iw_time, if_neg (by omega)]
theorem ti1_n {s : Int → Int} (h : iwF s = 0) : ti1 s = tkF (up1 s 0 (s 0 + 1)) := by unfold ti1; dsimp only; rw [iw_time, if_pos h]
set_option maxRecDepth 100000 in
set_option maxHeartbeats 4000000 in
theorem c_X4_pass (ho : St o) (hHR : HRk hr) (hEN : EN E) (hX : XH hi) {m : Nat} (hR : Rl t s) (hT : t 12 0 = s 0) (hb : s 0 + m ≤ BIG) : AMet E M_X4_pass [aR o, aI (m : Int)] (putS o hi t) hr 125 (QS hi hr o (s 0 + (m : Int)) (goA s m)) := by
  refine am_of (by decide +kernel) (Nat.le_of_ble_eq_true rfl) ?_
  have hB : BIG = 1000000 := rfl
  have loop : ∀ (N left : Nat), left ≤ N → ∀ (t : TS) (s : Int → Int) (l3 : Option AV), Rl t s → t 12 0 = s 0 → s 0 + left ≤ BIG → AW E M_X4_pass 0 0 2 [some (aR o), some (aI (m : Int)), some (aI (left : Int)), l3] [] (putS o hi t) hr 125 (QS hi hr o (s 0 + (left : Int)) (goA s left)) := by
    intro N
    induction N with
    | zero =>
      intro left hl t s l3 hR hT hb
      have hl' : left = 0 := by omega
      subst hl'
      refine aw_iload_n dX4_pass_2 rfl ?_
      refine aw_if_le (tgt := 85) dX4_pass_3 (by decide) ⟨by decide, by decide⟩ (fun h3 => ?_) (fun h3 => ?_)
      · refine aw_vret dX4_pass_85 rfl (by decide) (by decide) ?_
        exact ⟨rfl, rfl, rfl, t, rfl, hR, by rw [hT]; exact (Int.add_zero _).symm⟩
      · exact absurd h3 (by decide)
    | succ N ih =>
      intro left hl t s l3 hR hT hb
      have hM := hR.1.1
      have z0 := hM.z 0 (by unfold xc; omega)
      have h10 := hM.2.2.2.2.2.2.1
      have hbu : t 11 0 = iwF s := hR.2.2.2.2.2.1.1
      have hw := iw_b s
      by_cases l0 : left = 0
      · subst l0
        refine aw_iload_n dX4_pass_2 rfl ?_
        refine aw_if_le (tgt := 85) dX4_pass_3 (by decide) ⟨by decide, by decide⟩ (fun h3 => ?_) (fun h3 => ?_)
        · refine aw_vret dX4_pass_85 rfl (by decide) (by decide) ?_
          exact ⟨rfl, rfl, rfl, t, rfl, hR, by rw [hT]; exact (Int.add_zero _).symm⟩
        · exact absurd h3 (by decide)
      have mt := hM.time (show s 0 + 1 ≤ BIG by omega)
      have J78 : ∀ (k : Nat) (t3 : TS), 1 ≤ k → k ≤ left → Rl t3 (goA s k) → t3 12 0 = s 0 + k → AW E M_X4_pass 0 0 78 [some (aR o), some (aI (m : Int)), some (aI (left : Int)), some (aI (k : Int))] [] (putS o hi t3) hr 125 (QS hi hr o (s 0 + (left : Int)) (goA s left)) := by
        intro k t3 k1 k2 g1 g2
        have e0 := (goA_M hM k (by omega)).2
        have eL : (left : Int) - (k : Int) = ((left - k : Nat) : Int) := by omega
        have eA : goA (goA s k) (left - k) = goA s left := by rw [goA_add, show k + (left - k) = left by omega]
        have eB : goA s k 0 + ((left - k : Nat) : Int) = s 0 + (left : Int) := by omega
        have g := ih (left - k) (by omega) t3 (goA s k) (some (aI (k : Int))) g1 (by rw [g2, e0]) (by omega)
        rw [eA, eB] at g
        refine aw_iload_n dX4_pass_78 rfl ?_
        refine aw_iload_n dX4_pass_79 rfl ?_
        refine aw_isub dX4_pass_80 ?_
        refine aw_istore_n (ls2 := [_, _, _, _]) dX4_pass_81 (by decide) rfl ?_
        refine aw_goto (tgt := 2) dX4_pass_82 (by decide) ?_
        rw [eL]
        exact g
      have J20 : ∀ t : TS, Rl t (ti1 s) → t 12 0 = s 0 → AW E M_X4_pass 0 0 20 [some (aR o), some (aI (m : Int)), some (aI (left : Int)), l3] [] (putS o hi t) hr 125 (QS hi hr o (s 0 + (left : Int)) (goA s left)) := by
        intro t hR1 hT1
        have hbu : t 11 0 = iwF (ti1 s) := hR1.2.2.2.2.2.1.1
        have hw := iw_b (ti1 s)
        by_cases b : iwF (ti1 s) = 1
        · have hWb := hR1.2.2.2.2.2.1.2.1 b
          have hlf : t 11 7 = ti1 s 253 + ti1 s 254 := hWb.2.2.2.2.2.1
          have hl1 : 1 ≤ ti1 s 254 := hWb.2.2.2.2.2.2.2.2.1
          have z3 := hR1.1.1.z 253 (by unfold xc; omega)
          have y1 := hR1.1.2.1
          have y2 := hR1.1.2.2
          obtain ⟨k, hk⟩ : ∃ k : Nat, max 1 (min (left : Int) (t 11 7)) = (k : Int) + 1 := ⟨(max 1 (min (left : Int) (t 11 7)) - 1).toNat, by omega⟩
          have k1 : k + 1 ≤ left := by omega
          have k2 : (k : Int) + 1 ≤ t 11 7 := by omega
          have hR3 := hR1.tm (t 12 0 + ((k : Int) + 1))
          have gj := hR3.jump hM b k (by omega) (by omega)
          have e7 : ut t 12 0 (t 12 0 + ((k : Int) + 1)) 11 7 = t 11 7 := ut_n _ _ (by decide)
          have e0 : ut t 12 0 (t 12 0 + ((k : Int) + 1)) 11 0 = t 11 0 := ut_n _ _ (by decide)
          have ec : (k : Int) + 1 = ((k + 1 : Nat) : Int) := by omega
          refine aw_aload_n dX4_pass_20 rfl ?_
          refine aw_getr (x := (o + 11)) dX4_pass_21 ci4 (by decide) fX4_28 (by have := st_lt ho; omega) (st_sh0 ho) rfl (st_r0 ho hHR 2) ?_
          refine aw_getv dX4_pass_24 ci7 (by decide) fX4_105 (by have := st_lt ho; omega) (st_sh ho 11) rfl (putS_gk o _ _ 11 0 0 rfl) ?_
          refine aw_if_eq (tgt := 48) dX4_pass_27 (by decide) ⟨by omega, by omega⟩ (fun h27 => ?_) (fun h27 => ?_)
          · exact absurd h27 (by omega)
          · refine aw_iconst dX4_pass_30 ?_
            refine aw_iload_n dX4_pass_31 rfl ?_
            refine aw_aload_n dX4_pass_32 rfl ?_
            refine aw_getr (x := (o + 11)) dX4_pass_33 ci4 (by decide) fX4_28 (by have := st_lt ho; omega) (st_sh0 ho) rfl (st_r0 ho hHR 2) ?_
            refine aw_getv dX4_pass_36 ci7 (by decide) fX4_111 (by have := st_lt ho; omega) (st_sh ho 11) rfl (putS_gk o _ _ 11 7 7 rfl) ?_
            refine aw_min dX4_pass_39 cmX4_114 w_min2 w_math w_min4 (by decide) (by simp only [List.length_cons, List.length_nil]; decide) (by decide) (by decide) ⟨by omega, by omega⟩ ⟨by omega, by omega⟩ ?_
            refine aw_max dX4_pass_42 cmX4_120 w_max2 w_math w_max4 (by decide) (by simp only [List.length_cons, List.length_nil]; decide) (by decide) (by decide) ⟨by decide, by decide⟩ ⟨by omega, by omega⟩ ?_
            refine aw_goto (tgt := 49) dX4_pass_45 (by decide) ?_
            rw [hk]
            refine aw_istore_n (ls2 := [_, _, _, _]) dX4_pass_49 (by decide) rfl ?_
            refine aw_aload_n dX4_pass_50 rfl ?_
            refine aw_getr (x := (o + 12)) dX4_pass_51 ci4 (by decide) fX4_35 (by have := st_lt ho; omega) (st_sh0 ho) rfl (st_r0 ho hHR 3) ?_
            refine aw_dup dX4_pass_54 ?_
            refine aw_getv dX4_pass_55 ci5 (by decide) fX4_95 (by have := st_lt ho; omega) (st_sh ho 12) rfl (putS_gk o _ _ 12 0 0 rfl) ?_
            refine aw_iload_n dX4_pass_58 rfl ?_
            refine aw_iadd dX4_pass_59 ?_
            refine aw_putv dX4_pass_60 ci5 (by decide) fX4_95 (by have := st_lt ho; omega) (st_sh ho 12) rfl rfl (Or.inl rfl) (putS_uk o _ _ 12 0 0 _ rfl) ?_
            refine aw_aload_n dX4_pass_63 rfl ?_
            refine aw_getr (x := (o + 11)) dX4_pass_64 ci4 (by decide) fX4_28 (by have := st_lt ho; omega) (st_sh0 ho) rfl (st_r0 ho hHR 2) ?_
            refine aw_getv dX4_pass_67 ci7 (by decide) fX4_105 (by have := st_lt ho; omega) (st_sh ho 11) rfl (putS_gk o _ _ 11 0 0 rfl) ?_
            refine aw_if_eq (tgt := 78) dX4_pass_70 (by decide) (by rw [e0]; exact ⟨by omega, by omega⟩) (fun h70 => ?_) (fun h70 => ?_)
            · exact absurd h70 (by rw [e0]; omega)
            · refine aw_aload_n dX4_pass_73 rfl ?_
              refine aw_iload_n dX4_pass_74 rfl ?_
              refine aw_V1v dX4_pass_75 clX4_123 ⟨by decide, by decide⟩ (c := 4) (N := 11) (by have := st_lt ho; omega) (st_sh0 ho) rfl (c_X4_goOn ho hHR hR3.2.1.1 hR3.2.1.2.2 (k := (k : Int) + 1) (by rw [e7]; exact ⟨by omega, by omega⟩)) (by decide) (by decide) rfl rfl (by simp only [List.length_cons, List.length_nil]; omega) ?_
              have g := J78 (k + 1) _ (by omega) k1 gj (by rw [gnC_t, ut_s, hT1]; omega)
              rw [← ec] at g
              exact g
        · have b0 : iwF (ti1 s) = 0 := by omega
          have hR3 := hR1.tm (t 12 0 + (left : Int))
          have gi := (hR3.idle hM b0 (left - 1) (by omega)).1
          rw [show left - 1 + 1 = left by omega] at gi
          have e0 : ut t 12 0 (t 12 0 + (left : Int)) 11 0 = t 11 0 := ut_n _ _ (by decide)
          refine aw_aload_n dX4_pass_20 rfl ?_
          refine aw_getr (x := (o + 11)) dX4_pass_21 ci4 (by decide) fX4_28 (by have := st_lt ho; omega) (st_sh0 ho) rfl (st_r0 ho hHR 2) ?_
          refine aw_getv dX4_pass_24 ci7 (by decide) fX4_105 (by have := st_lt ho; omega) (st_sh ho 11) rfl (putS_gk o _ _ 11 0 0 rfl) ?_
          refine aw_if_eq (tgt := 48) dX4_pass_27 (by decide) ⟨by omega, by omega⟩ (fun h27 => ?_) (fun h27 => ?_)
          · refine aw_iload_n dX4_pass_48 rfl ?_
            refine aw_istore_n (ls2 := [_, _, _, _]) dX4_pass_49 (by decide) rfl ?_
            refine aw_aload_n dX4_pass_50 rfl ?_
            refine aw_getr (x := (o + 12)) dX4_pass_51 ci4 (by decide) fX4_35 (by have := st_lt ho; omega) (st_sh0 ho) rfl (st_r0 ho hHR 3) ?_
            refine aw_dup dX4_pass_54 ?_
            refine aw_getv dX4_pass_55 ci5 (by decide) fX4_95 (by have := st_lt ho; omega) (st_sh ho 12) rfl (putS_gk o _ _ 12 0 0 rfl) ?_
            refine aw_iload_n dX4_pass_58 rfl ?_
            refine aw_iadd dX4_pass_59 ?_
            refine aw_putv dX4_pass_60 ci5 (by decide) fX4_95 (by have := st_lt ho; omega) (st_sh ho 12) rfl rfl (Or.inl rfl) (putS_uk o _ _ 12 0 0 _ rfl) ?_
            refine aw_aload_n dX4_pass_63 rfl ?_
            refine aw_getr (x := (o + 11)) dX4_pass_64 ci4 (by decide) fX4_28 (by have := st_lt ho; omega) (st_sh0 ho) rfl (st_r0 ho hHR 2) ?_
            refine aw_getv dX4_pass_67 ci7 (by decide) fX4_105 (by have := st_lt ho; omega) (st_sh ho 11) rfl (putS_gk o _ _ 11 0 0 rfl) ?_
            refine aw_if_eq (tgt := 78) dX4_pass_70 (by decide) (by rw [e0]; exact ⟨by omega, by omega⟩) (fun h70 => ?_) (fun h70 => ?_)
            · exact J78 left _ (by omega) (Nat.le_refl _) gi (by rw [ut_s, hT1])
            · exact absurd h70 (by rw [e0]; omega)
          · exact absurd h27 (by omega)
      refine aw_iload_n dX4_pass_2 rfl ?_
      refine aw_if_le (tgt := 85) dX4_pass_3 (by decide) ⟨by omega, by omega⟩ (fun h3 => ?_) (fun h3 => ?_)
      · exact absurd h3 (by omega)
      · refine aw_aload_n dX4_pass_6 rfl ?_
        refine aw_getr (x := (o + 11)) dX4_pass_7 ci4 (by decide) fX4_28 (by have := st_lt ho; omega) (st_sh0 ho) rfl (st_r0 ho hHR 2) ?_
        refine aw_getv dX4_pass_10 ci7 (by decide) fX4_105 (by have := st_lt ho; omega) (st_sh ho 11) rfl (putS_gk o _ _ 11 0 0 rfl) ?_
        refine aw_if_ne (tgt := 20) dX4_pass_13 (by decide) ⟨by omega, by omega⟩ (fun h13 => ?_) (fun h13 => ?_)
        · exact J20 t (by rw [ti1_b (by omega)]; exact hR.time mt) hT
        · refine aw_aload_n dX4_pass_16 rfl ?_
          refine aw_V0w dX4_pass_17 clX4_108 ⟨by decide, by decide⟩ (c := 4) (N := 11) (by have := st_lt ho; omega) (st_sh0 ho) rfl (c_X4_takeRequests ho hHR hEN hX (hR.time mt) (Or.inl (by rw [up1_n _ _ (by decide), up1_s]; omega))) (by decide) (by decide) rfl rfl (by simp only [List.length_cons, List.length_nil]; omega) (fun h2 r2 n2 q => ?_)
          obtain ⟨rfl, rfl, t2, rfl, g1, g2⟩ := q
          rw [← ti1_n (by omega)] at g1
          exact J20 t2 g1 (g2.trans hT)
  refine aw_iload_n dX4_pass_0 rfl ?_
  refine aw_istore_n (ls2 := [_, _, _, _]) dX4_pass_1 (by decide) rfl ?_
  exact loop m m (Nat.le_refl _) t s none hR hT hb
end CLS6
