/-! the class takes requests -/
section CLS5
variable {E : ET} {hi : HI} {hr : HR} {o : Nat} {t : TS} {s : Int → Int}
/-- what a change of a State comes to -/
abbrev QS (hi : HI) (hr : HR) (o : Nat) (m : Int) (s : Int → Int) : QT := PV (fun h r2 n2 => r2 = hr ∧ n2 = 125 ∧ ∃ t2 : TS, h = putS o hi t2 ∧ Rl t2 s ∧ t2 12 0 = m)
theorem dfC_k (t : TS) {x : Nat} (y : Int) (h : x < 6 ∨ 10 < x) : dfC t x y = t x y := dfC_n t y h
set_option maxRecDepth 100000 in
set_option maxHeartbeats 4000000 in
theorem c_X4_takes0 (ho : St o) (hHR : HRk hr) (hEN : EN E) (hX : XH hi) {p m : Int} (hR : Rl t s) (hst : s 10 + 1 ≤ s 0 ∨ iwF s = 1) (hp : iwF s = 0 → t 0 10 = p) (hm : t 12 0 = m) : AMet E M_X4_takeRequests [aR o] (putS o hi t) hr 125 (QS hi hr o m (tkA p 9 s)) := by
  refine am_of (by decide +kernel) (Nat.le_of_ble_eq_true rfl) ?_
  have loop : ∀ (d k : Nat) (t : TS) (s : Int → Int), k + d = 8 → Rl t s → (s 11 ≤ d ∨ iwF s = 1) → (s 10 + 1 ≤ s 0 ∨ iwF s = 1) → (iwF s = 0 → t 0 10 = p) → t 12 0 = m → AW E M_X4_takeRequests 0 0 2 [some (aR o), some (aI (k : Int))] [] (putS o hi t) hr 125 (QS hi hr o m (tkA p (d + 1) s)) := by
    intro d
    induction d with
    | zero =>
      intro k t s hk hR h11 hst hp hm
      have hk' : k = 8 := by omega
      subst hk'
      have z11 := hR.1.1.z 11 (by unfold xc; omega)
      have e : tkA p (0 + 1) s = s := by
        show (if _ then _ else _) = _
        rw [if_neg (fun g => by have g2 := g.2.1; have g3 := g.2.2; omega)]
      rw [e]
      refine aw_iload_n dX4_takeRequests_2 rfl ?_
      refine aw_bipush dX4_takeRequests_3 (by decide) ?_
      refine aw_ic_ge (tgt := 60) dX4_takeRequests_5 (by decide) ⟨by decide, by decide⟩ ⟨by decide, by decide⟩ (fun h5 => ?_) (fun h5 => ?_)
      · refine aw_vret dX4_takeRequests_60 rfl (by decide) (by decide) ?_
        exact ⟨rfl, rfl, rfl, t, rfl, hR, hm⟩
      · exact absurd h5 (by decide)
    | succ d ih =>
      intro k t s hk hR h11 hst hp hm
      have z11 := hR.1.1.z 11 (by unfold xc; omega)
      have e6 : t 6 4 = s 11 := hR.2.2.2.1.1
      have h8 := hR.1.1.2.2.1
      have hn := hR.2.2.2.2.1.1
      have ha : t 0 9 = s 2 := hR.2.2.2.2.1.2.1
      have hb := hR.1.1.2.1
      have hbu : t 11 0 = iwF s := hR.2.2.2.2.2.1.1
      have hw := iw_b s
      have hRT := hR.2.2.2.2.2.2
      have hps := ps_b s
      have hER : ∀ i : Int, 0 ≤ i → i < 2 → 0 ≤ t 15 i ∧ InR (t 15 i) := fun i i0 i1 => by rw [hRT.2.2.2.2 i i0 i1]; exact ⟨hR.1.1.z _ (by unfold xc; omega), hR.1.1.r _ (by unfold xc; omega)⟩
      have e23 : t 13 3 = s 23 := hRT.2.2.1 3 (by decide) (by decide)
      have e22 : t 13 2 = s 22 := hRT.2.2.1 2 (by decide) (by decide)
      have hS3 : 1 ≤ t 13 3 ∧ InR (t 13 3) := by rw [e23]; exact ⟨hR.1.1.2.2.2.2.1, hR.1.1.r _ (by unfold xc; omega)⟩
      have hS2 : InR (t 13 2) := by rw [e22]; exact hR.1.1.r _ (by unfold xc; omega)
      refine aw_iload_n dX4_takeRequests_2 rfl ?_
      refine aw_bipush dX4_takeRequests_3 (by decide) ?_
      refine aw_ic_ge (tgt := 60) dX4_takeRequests_5 (by decide) ⟨by omega, by omega⟩ ⟨by decide, by decide⟩ (fun h5 => ?_) (fun h5 => ?_)
      · exact absurd h5 (by omega)
      · refine aw_aload_n dX4_takeRequests_8 rfl ?_
        refine aw_getr (x := (o + 11)) dX4_takeRequests_9 ci4 (by decide) fX4_28 (by have := st_lt ho; omega) (st_sh0 ho) rfl (st_r0 ho hHR 2) ?_
        refine aw_getv dX4_takeRequests_12 ci7 (by decide) fX4_105 (by have := st_lt ho; omega) (st_sh ho 11) rfl (putS_gk o _ _ 11 0 0 rfl) ?_
        refine aw_if_ne (tgt := 35) dX4_takeRequests_15 (by decide) ⟨by omega, by omega⟩ (fun h15 => ?_) (fun h15 => ?_)
        · refine aw_vret dX4_takeRequests_35 rfl (by decide) (by decide) ?_
          have e : tkA p (d + 1 + 1) s = s := by
            show (if _ then _ else _) = _
            rw [if_neg (fun g => by have g1 := g.1; have g2 := g.2.1; have g3 := g.2.2; omega)]
          rw [e]
          exact ⟨rfl, rfl, rfl, t, rfl, hR, hm⟩
        · refine aw_aload_n dX4_takeRequests_18 rfl ?_
          refine aw_V0x dX4_takeRequests_19 clX4_126 ⟨by decide, by decide⟩ (c := 4) (N := 11) (by have := st_lt ho; omega) (st_sh0 ho) rfl (c_X4_isFull ho hHR ⟨by omega, by omega⟩) (by decide) (by decide) rfl rfl (by simp only [List.length_cons, List.length_nil]; omega) ?_
          refine aw_if_ne (tgt := 35) dX4_takeRequests_22 (by decide) in_r (fun h22 => ?_) (fun h22 => ?_)
          · refine aw_vret dX4_takeRequests_35 rfl (by decide) (by decide) ?_
            rw [in0, Classical.not_not] at h22
            have e : tkA p (d + 1 + 1) s = s := by
              show (if _ then _ else _) = _
              rw [if_neg (fun g => by have g1 := g.1; have g2 := g.2.1; have g3 := g.2.2; have := hp g3; omega)]
            rw [e]
            exact ⟨rfl, rfl, rfl, t, rfl, hR, hm⟩
          · refine aw_aload_n dX4_takeRequests_25 rfl ?_
            refine aw_getr (x := (o + 6)) dX4_takeRequests_26 ci4 (by decide) fX4_21 (by have := st_lt ho; omega) (st_sh0 ho) rfl (st_r0 ho hHR 1) ?_
            refine aw_V0x dX4_takeRequests_29 clX4_87 ⟨by decide, by decide⟩ (c := 2) (N := 5) (by have := st_lt ho; omega) (st_sh ho 6) rfl (c_X2_size ho hHR) (by decide) (by decide) rfl rfl (by simp only [List.length_cons, List.length_nil]; omega) ?_
            refine aw_if_ne (tgt := 36) dX4_takeRequests_32 (by decide) ⟨by omega, by omega⟩ (fun h32 => ?_) (fun h32 => ?_)
            · rw [in0] at h22
              have hw0 : iwF s = 0 := by omega
              have hod := od_eq hR.2.2.1 hR.2.2.2.1 hR.2.1.2.1 (by omega)
              refine aw_aload_n dX4_takeRequests_36 rfl ?_
              refine aw_V0x dX4_takeRequests_37 clX4_130 ⟨by decide, by decide⟩ (c := 4) (N := 11) (by have := st_lt ho; omega) (st_sh0 ho) rfl (c_X4_isOutdated ho hHR hR.2.1.1 hR.2.1.2.1) (by decide) (by decide) rfl rfl (by simp only [List.length_cons, List.length_nil]; omega) ?_
              refine aw_if_ne (tgt := 47) dX4_takeRequests_40 (by decide) ⟨by omega, by omega⟩ (fun h40 => ?_) (fun h40 => ?_)
              · refine aw_aload_n dX4_takeRequests_47 rfl ?_
                refine aw_getr (x := (o + 6)) dX4_takeRequests_48 ci4 (by decide) fX4_21 (by have := st_lt ho; omega) (st_sh0 ho) rfl (st_r0 ho hHR 1) ?_
                refine aw_V0v dX4_takeRequests_51 clX4_136 ⟨by decide, by decide⟩ (c := 2) (N := 5) (by have := st_lt ho; omega) (st_sh ho 6) rfl (c_X2_dropFirst ho hHR hR.2.1.2.1) (by decide) (by decide) rfl rfl (by simp only [List.length_cons, List.length_nil]; omega) ?_
                refine aw_iinc (ls2 := [_, _]) dX4_takeRequests_54 rfl (by decide) rfl ?_
                refine aw_goto (tgt := 2) dX4_takeRequests_57 (by decide) ?_
                have g := hR.drop (show 0 < s 11 by omega)
                have e : tkA p (d + 1 + 1) s = tkA p (d + 1) (gfF s) := by
                  show (if _ then _ else _) = _
                  rw [if_pos ⟨by omega, by omega, by omega⟩, if_pos (by omega)]
                rw [e]
                have e11 : gfF s 11 = s 11 - 1 := by rw [gfF_at s (by omega), if_pos rfl]
                have e10 : gfF s 10 = s 10 := gfF_x (by omega) (by decide) (by decide)
                have e0 : gfF s 0 = s 0 := gfF_x (by omega) (by decide) (by decide)
                exact ih (k + 1) _ _ (by omega) g (Or.inl (by omega)) (Or.inl (by rw [e10, e0]; rcases hst with q | q <;> omega)) (fun _ => by rw [dfC_n _ _ (by decide)]; exact hp hw0) (by rw [dfC_n _ _ (by decide)]; exact hm)
              · have hRb := hR.begin (by omega) hw0 (by omega) (by rcases hst with q | q <;> omega)
                refine aw_aload_n dX4_takeRequests_43 rfl ?_
                refine aw_V0v dX4_takeRequests_44 clX4_133 ⟨by decide, by decide⟩ (c := 4) (N := 11) (by have := st_lt ho; omega) (st_sh0 ho) rfl (c_X4_beginWriting ho hHR hEN hX hR.2.1.1 ⟨by omega, by omega⟩ (by omega) hER hS3 hS2) (by decide) (by decide) rfl rfl (by simp only [List.length_cons, List.length_nil]; omega) ?_
                refine aw_aload_n dX4_takeRequests_47 rfl ?_
                refine aw_getr (x := (o + 6)) dX4_takeRequests_48 ci4 (by decide) fX4_21 (by have := st_lt ho; omega) (st_sh0 ho) rfl (st_r0 ho hHR 1) ?_
                refine aw_V0v dX4_takeRequests_51 clX4_136 ⟨by decide, by decide⟩ (c := 2) (N := 5) (by have := st_lt ho; omega) (st_sh ho 6) rfl (c_X2_dropFirst ho hHR hRb.2.1.2.1) (by decide) (by decide) rfl rfl (by simp only [List.length_cons, List.length_nil]; omega) ?_
                refine aw_iinc (ls2 := [_, _]) dX4_takeRequests_54 rfl (by decide) rfl ?_
                refine aw_goto (tgt := 2) dX4_takeRequests_57 (by decide) ?_
                have g := hRb.drop (by rw [bgB_11 hR.1.1 hn.1 (by omega)]; omega)
                have g3 : Rl (dfC (bwC t)) (bgF s (t 0 10)) := g
                have ew : iwF (bgF s (t 0 10)) = 1 := iw_1 (bgF_254 hR.1.1 hn.1 (by omega) (by omega))
                have e : tkA p (d + 1 + 1) s = tkA p (d + 1) (bgF s (t 0 10)) := by
                  show (if _ then _ else _) = _
                  rw [if_pos ⟨by omega, by omega, by omega⟩, if_neg (by omega), hp hw0]
                rw [e]
                have e12 : dfC (bwC t) 12 0 = t 12 0 := by rw [dfC_n _ _ (by decide), bwC_n 12 0 (by decide) (by decide), bwA_n _ _ (by decide) (by decide) (by decide)]
                exact ih (k + 1) _ _ (by omega) g3 (Or.inr ew) (Or.inr ew) (fun q => by omega) (e12.trans hm)
            · refine aw_vret dX4_takeRequests_35 rfl (by decide) (by decide) ?_
              have e : tkA p (d + 1 + 1) s = s := by
                show (if _ then _ else _) = _
                rw [if_neg (fun g => by have g1 := g.1; have g2 := g.2.1; have g3 := g.2.2; omega)]
              rw [e]
              exact ⟨rfl, rfl, rfl, t, rfl, hR, hm⟩
  refine aw_iconst dX4_takeRequests_0 ?_
  refine aw_istore_n (ls2 := [_, _]) dX4_takeRequests_1 (by decide) rfl ?_
  exact loop 8 0 t s (by omega) hR (Or.inl hR.1.1.2.2.1) hst hp hm
theorem c_X4_takeRequests (ho : St o) (hHR : HRk hr) (hEN : EN E) (hX : XH hi) (hR : Rl t s) (hst : s 10 + 1 ≤ s 0 ∨ iwF s = 1) : AMet E M_X4_takeRequests [aR o] (putS o hi t) hr 125 (QS hi hr o (t 12 0) (tkF s)) :=
  c_X4_takes0 ho hHR hEN hX hR hst (fun _ => (nx_eq hR.2.2.1 hR.2.2.2.2.1 hR.1.1.2.1).symm) rfl
end CLS5
