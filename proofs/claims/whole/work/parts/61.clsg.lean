/-! the class: when all would be done -/
section CLSG
variable {E : ET} {hi : HI} {hr : HR} {o : Nat} {t : TS} {s : Int → Int}
set_option maxRecDepth 100000 in
set_option maxHeartbeats 4000000 in
theorem c_X4_passUntilDone (ho : St o) (hHR : HRk hr) (hEN : EN E) (hX : XH hi) (hR : RlT t s) (hb : s 0 + mu s ≤ BIG) : AMet E M_X4_passUntilDone [aR o] (putS o hi t) hr 131 (PI (fun v h r2 n2 => r2 = hr ∧ n2 = 131 ∧ v = duF s ∧ ∃ t2 : TS, h = putS o hi t2)) := by
  refine am_of (by decide +kernel) (Nat.le_of_ble_eq_true rfl) ?_
  obtain ⟨hR0, hT⟩ := hR
  have hR : RlT t s := ⟨hR0, hT⟩
  have hM := hR0.1.1
  have h1 := hM.2.2.2.2.2.1
  have h8 := hM.2.2.1
  have z0 := hM.z 0 (by unfold xc; omega)
  have z11 := hM.z 11 (by unfold xc; omega)
  have e6 : t 6 4 = s 11 := hR0.2.2.2.1.1
  have hp : t 0 8 = 1 - s 1 := hR0.2.2.2.2.2.2.2.1
  have hB : BIG = 1000000 := rfl
  have loop : ∀ (N : Nat) (t1 : TS) (s1 : Int → Int) (d rd : Nat), 2 * s1 11 + iwF s1 < N → rd + N ≤ 1000 → Rl t1 s1 → t1 12 0 = s1 0 → s1 0 + mu s1 ≤ BIG → mu s1 ≤ d → duF s = duR (diA d s1 (s1 0 - s 0)) →
      AW E M_X4_passUntilDone 0 0 10 [some (aR o), some (aI (t 12 0)), some (aI (rd : Int))] [] (putS o hi t1) hr 131 (PI (fun v h r2 n2 => r2 = hr ∧ n2 = 131 ∧ v = duF s ∧ ∃ t2 : TS, h = putS o hi t2)) := by
    intro N
    induction N with
    | zero =>
      intro t1 s1 d rd h1 _ hR1 _ _ _ _
      have y := hR1.1.1.z 11 (by unfold xc; omega)
      have hw := iw_b s1
      exact absurd h1 (by omega)
    | succ N ih =>
      intro t1 s1 d rd hN hrd hR1 hT1 hb hd hres
      have y11 := hR1.1.1.z 11 (by unfold xc; omega)
      have y8 := hR1.1.1.2.2.1
      have hw := iw_b s1
      have eb : t1 11 0 = iwF s1 := hR1.2.2.2.2.2.1.1
      have e6 : t1 6 4 = s1 11 := hR1.2.2.2.1.1
      have enx := nx_eq hR1.2.2.1 hR1.2.2.2.2.1 hR1.1.1.2.1
      have n10 := hR1.2.2.2.2.1.1
      refine aw_iload_n dX4_passUntilDone_10 rfl ?_
      refine aw_sipush dX4_passUntilDone_11 (by decide) ?_
      refine aw_ic_ge (tgt := 98) dX4_passUntilDone_14 (by decide) ⟨by omega, by omega⟩ ⟨by decide, by decide⟩ (fun h14 => ?_) (fun h14 => ?_)
      · exact absurd h14 (by omega)
      · refine aw_aload_n dX4_passUntilDone_17 rfl ?_
        refine aw_getr (x := (o + 11)) dX4_passUntilDone_18 ci4 (by decide) fX4_28 (by have := st_lt ho; omega) (st_sh0 ho) rfl (st_r0 ho hHR 2) ?_
        refine aw_getv dX4_passUntilDone_21 ci7 (by decide) fX4_105 (by have := st_lt ho; omega) (st_sh ho 11) rfl (putS_gk o _ _ 11 0 0 rfl) ?_
        refine aw_if_ne (tgt := 47) dX4_passUntilDone_24 (by decide) ⟨by omega, by omega⟩ (fun h24 => ?_) (fun h24 => ?_)
        · refine aw_aload_n dX4_passUntilDone_47 rfl ?_
          refine aw_getr (x := (o + 11)) dX4_passUntilDone_48 ci4 (by decide) fX4_28 (by have := st_lt ho; omega) (st_sh0 ho) rfl (st_r0 ho hHR 2) ?_
          refine aw_getv dX4_passUntilDone_51 ci7 (by decide) fX4_105 (by have := st_lt ho; omega) (st_sh ho 11) rfl (putS_gk o _ _ 11 0 0 rfl) ?_
          refine aw_if_ne (tgt := 67) dX4_passUntilDone_54 (by decide) ⟨by omega, by omega⟩ (fun h54 => ?_) (fun h54 => ?_)
          · have hw1 : iwF s1 = 1 := by omega
            have e7 : t1 11 7 = s1 253 + s1 254 := (hR1.2.2.2.2.2.1.2.1 hw1).2.2.2.2.2.1
            have y3 := hR1.1.1.z 253 (by unfold xc; omega)
            have y4 := hR1.1.1.z 254 (by unfold xc; omega)
            obtain ⟨L, hL⟩ : ∃ L : Nat, (L : Int) = s1 253 + s1 254 := ⟨(s1 253 + s1 254).toNat, by omega⟩
            obtain ⟨b1, b2, b3, b4, b5, b6, b7, b8⟩ := du_busy hR1 hw1 hb hd hL (n := s1 0 - s 0)
            refine aw_aload_n dX4_passUntilDone_67 rfl ?_
            refine aw_aload_n dX4_passUntilDone_68 rfl ?_
            refine aw_getr (x := (o + 11)) dX4_passUntilDone_69 ci4 (by decide) fX4_28 (by have := st_lt ho; omega) (st_sh0 ho) rfl (st_r0 ho hHR 2) ?_
            refine aw_getv dX4_passUntilDone_72 ci7 (by decide) fX4_105 (by have := st_lt ho; omega) (st_sh ho 11) rfl (putS_gk o _ _ 11 0 0 rfl) ?_
            refine aw_if_eq (tgt := 88) dX4_passUntilDone_75 (by decide) ⟨by omega, by omega⟩ (fun h75 => ?_) (fun h75 => ?_)
            · exact absurd h75 (by omega)
            · refine aw_aload_n dX4_passUntilDone_78 rfl ?_
              refine aw_getr (x := (o + 11)) dX4_passUntilDone_79 ci4 (by decide) fX4_28 (by have := st_lt ho; omega) (st_sh0 ho) rfl (st_r0 ho hHR 2) ?_
              refine aw_getv dX4_passUntilDone_82 ci7 (by decide) fX4_111 (by have := st_lt ho; omega) (st_sh ho 11) rfl (putS_gk o _ _ 11 7 7 rfl) ?_
              refine aw_goto (tgt := 89) dX4_passUntilDone_85 (by decide) ?_
              refine aw_V1w dX4_passUntilDone_89 clX4_101 ⟨by decide, by decide⟩ (c := 4) (N := 11) (by have := st_lt ho; omega) (st_sh0 ho) rfl (by have g := c_X4_pass (E := E) (hi := hi) (hr := hr) (m := L) ho hHR hEN hX hR1 hT1 b3; rw [hL, ← e7] at g; exact g) (by decide) (by decide) rfl rfl (by simp only [List.length_cons, List.length_nil]; omega) (fun h2 r2 n2 q => ?_)
              obtain ⟨rfl, rfl, t2, rfl, g1, g2⟩ := q
              refine aw_iinc (ls2 := [_, _, _]) dX4_passUntilDone_92 rfl (by decide) rfl ?_
              refine aw_goto (tgt := 10) dX4_passUntilDone_95 (by decide) ?_
              refine ih t2 (goA s1 L) (d - L) (rd + 1) (by omega) (by omega) g1 (by rw [g2, b5, e7, ← hL]) (by omega) (by omega) ?_
              rw [hres, b8, b5, show s1 0 - s 0 + (L : Int) = s1 0 + (L : Int) - s 0 by omega]
          · exact absurd h54 (by omega)
        · refine aw_aload_n dX4_passUntilDone_27 rfl ?_
          refine aw_getr (x := (o + 6)) dX4_passUntilDone_28 ci4 (by decide) fX4_21 (by have := st_lt ho; omega) (st_sh0 ho) rfl (st_r0 ho hHR 1) ?_
          refine aw_V0x dX4_passUntilDone_31 clX4_87 ⟨by decide, by decide⟩ (c := 2) (N := 5) (by have := st_lt ho; omega) (st_sh ho 6) rfl (c_X2_size ho hHR) (by decide) (by decide) rfl rfl (by simp only [List.length_cons, List.length_nil]; omega) ?_
          refine aw_if_ne (tgt := 47) dX4_passUntilDone_34 (by decide) ⟨by omega, by omega⟩ (fun h34 => ?_) (fun h34 => ?_)
          · refine aw_aload_n dX4_passUntilDone_47 rfl ?_
            refine aw_getr (x := (o + 11)) dX4_passUntilDone_48 ci4 (by decide) fX4_28 (by have := st_lt ho; omega) (st_sh0 ho) rfl (st_r0 ho hHR 2) ?_
            refine aw_getv dX4_passUntilDone_51 ci7 (by decide) fX4_105 (by have := st_lt ho; omega) (st_sh ho 11) rfl (putS_gk o _ _ 11 0 0 rfl) ?_
            refine aw_if_ne (tgt := 67) dX4_passUntilDone_54 (by decide) ⟨by omega, by omega⟩ (fun h54 => ?_) (fun h54 => ?_)
            · exact absurd h54 (by omega)
            · refine aw_aload_n dX4_passUntilDone_57 rfl ?_
              refine aw_V0x dX4_passUntilDone_58 clX4_126 ⟨by decide, by decide⟩ (c := 4) (N := 11) (by have := st_lt ho; omega) (st_sh0 ho) rfl (c_X4_isFull ho hHR ⟨by omega, by omega⟩) (by decide) (by decide) rfl rfl (by simp only [List.length_cons, List.length_nil]; omega) ?_
              refine aw_if_eq (tgt := 67) dX4_passUntilDone_61 (by decide) in_r (fun h61 => ?_) (fun h61 => ?_)
              · rw [in0] at h61
                have hw0 : iwF s1 = 0 := by omega
                obtain ⟨b1, b2, b4, b5, b6, b8⟩ := du_idle hR1 hw0 (by omega) (by omega) hb hd (n := s1 0 - s 0)
                refine aw_aload_n dX4_passUntilDone_67 rfl ?_
                refine aw_aload_n dX4_passUntilDone_68 rfl ?_
                refine aw_getr (x := (o + 11)) dX4_passUntilDone_69 ci4 (by decide) fX4_28 (by have := st_lt ho; omega) (st_sh0 ho) rfl (st_r0 ho hHR 2) ?_
                refine aw_getv dX4_passUntilDone_72 ci7 (by decide) fX4_105 (by have := st_lt ho; omega) (st_sh ho 11) rfl (putS_gk o _ _ 11 0 0 rfl) ?_
                refine aw_if_eq (tgt := 88) dX4_passUntilDone_75 (by decide) ⟨by omega, by omega⟩ (fun h75 => ?_) (fun h75 => ?_)
                · refine aw_iconst dX4_passUntilDone_88 ?_
                  refine aw_V1w dX4_passUntilDone_89 clX4_101 ⟨by decide, by decide⟩ (c := 4) (N := 11) (by have := st_lt ho; omega) (st_sh0 ho) rfl (c_X4_pass (m := 1) ho hHR hEN hX hR1 hT1 b2) (by decide) (by decide) rfl rfl (by simp only [List.length_cons, List.length_nil]; omega) (fun h2 r2 n2 q => ?_)
                  obtain ⟨rfl, rfl, t2, rfl, g1, g2⟩ := q
                  refine aw_iinc (ls2 := [_, _, _]) dX4_passUntilDone_92 rfl (by decide) rfl ?_
                  refine aw_goto (tgt := 10) dX4_passUntilDone_95 (by decide) ?_
                  have hw2 := iw_b (goA s1 1)
                  refine ih t2 (goA s1 1) (d - 1) (rd + 1) (by omega) (by omega) g1 (by rw [g2, b5]) (by omega) (by omega) ?_
                  rw [hres, b8, b5, show s1 0 - s 0 + ((1 : Nat) : Int) = s1 0 + ((1 : Nat) : Int) - s 0 by omega]
                · exact absurd h75 (by omega)
              · refine aw_bipush dX4_passUntilDone_64 (by decide) ?_
                refine aw_iret dX4_passUntilDone_66 rfl (by decide) (by decide) ?_
                rw [in0, Classical.not_not] at h61
                have hst := di_stop (s := s1) (by rintro (q | q) <;> omega) d (s1 0 - s 0)
                refine ⟨_, rfl, rfl, rfl, ?_, t1, rfl⟩
                rw [hres, hst]
                unfold duR
                rw [if_pos (by dsimp only; omega)]
          · refine aw_aload_n dX4_passUntilDone_37 rfl ?_
            refine aw_getr (x := (o + 12)) dX4_passUntilDone_38 ci4 (by decide) fX4_35 (by have := st_lt ho; omega) (st_sh0 ho) rfl (st_r0 ho hHR 3) ?_
            refine aw_getv dX4_passUntilDone_41 ci5 (by decide) fX4_95 (by have := st_lt ho; omega) (st_sh ho 12) rfl (putS_gk o _ _ 12 0 0 rfl) ?_
            refine aw_iload_n dX4_passUntilDone_44 rfl ?_
            refine aw_isub dX4_passUntilDone_45 ?_
            refine aw_iret dX4_passUntilDone_46 rfl (by decide) (by decide) ?_
            have hst := di_stop (s := s1) (by rintro (q | q) <;> omega) d (s1 0 - s 0)
            refine ⟨_, rfl, rfl, rfl, ?_, t1, rfl⟩
            rw [hres, hst]
            unfold duR
            rw [if_neg (by dsimp only; omega)]
            dsimp only
            omega
  refine aw_aload_n dX4_passUntilDone_0 rfl ?_
  refine aw_getr (x := (o + 12)) dX4_passUntilDone_1 ci4 (by decide) fX4_35 (by have := st_lt ho; omega) (st_sh0 ho) rfl (st_r0 ho hHR 3) ?_
  refine aw_getv dX4_passUntilDone_4 ci5 (by decide) fX4_95 (by have := st_lt ho; omega) (st_sh ho 12) rfl (putS_gk o _ _ 12 0 0 rfl) ?_
  refine aw_istore_n (ls2 := [_, _, _]) dX4_passUntilDone_7 (by decide) rfl ?_
  refine aw_iconst dX4_passUntilDone_8 ?_
  refine aw_istore_n (ls2 := [_, _, _]) dX4_passUntilDone_9 (by decide) rfl ?_
  have hw := iw_b s
  refine loop 18 t s 1000000 0 (by omega) (by omega) hR0 hT (by omega) (by omega) ?_
  rw [Int.sub_self]
  rfl
end CLSG
