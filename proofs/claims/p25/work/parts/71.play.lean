/-! the class's calls: play -/
section CALLP
variable {E : ET} {hi : HI} {hr : HR} {q : Nat → Nat} {m n : Int} {s G : Int → Int} {P : Nat → Int → Int}
set_option maxRecDepth 100000 in
set_option maxHeartbeats 4000000 in
theorem c_X8_play (c : CIv hr hi q m s P) (hEN : EN E) (hO : OKS s n) (hn : n + 61 ≤ 100000) {len t0 m0 : Int} (hG : ∀ j : Nat, (j : Int) < len → hi 123 j = G (j : Int)) (hTX : TX G len) (e1 : hi 122 1 = len) : AMet E M_X8_play [aR 0] hi hr 125 (PI (fun v h r2 n2 => n2 = 125 ∧ POST hi m s P (pyF G len s t0 m0) v h r2)) := by
  refine am_of (by decide +kernel) (Nat.le_of_ble_eq_true rfl) ?_
  have hHR := c.1
  have hR := c.2.2.2.1
  have hM := hR.1.1.1
  have hT := (scS_same (getS 18 hi) (getS 1 hi)).rlT hR
  have h2T : RlT (getS 18 (putS 18 hi (scS (getS 18 hi) (getS 1 hi)))) s := (get_put st18 _ _).rlT hT
  have hXH : XH (putS 18 hi (scS (getS 18 hi) (getS 1 hi))) := c.2.2.2.2.2.of (fun a ha k => putS_out _ _ _ (by omega))
  have e2 : putS 18 hi (scS (getS 18 hi) (getS 1 hi)) 122 1 = len := (putS_out _ _ _ (by decide)).trans e1
  have cR : AMet E M_X3_run [aR 124, aR 122, aR 18] (putS 18 hi (scS (getS 18 hi) (getS 1 hi))) hr 125 (PV (fun h r2 n2 => r2 = hr ∧ n2 = 125 ∧ ∃ (w2 f2 : Int → Int) (t2 : TS), h = H3 (putS 18 hi (scS (getS 18 hi) (getS 1 hi))) w2 f2 t2 ∧ f2 1 = len ∧ RES w2 t2 (dorF G len s t0 m0))) := by
    have g := c_X3_run (E := E) (Y := putS 18 hi (scS (getS 18 hi) (getS 1 hi))) (w := fun k => putS 18 hi (scS (getS 18 hi) (getS 1 hi)) 124 k.toNat) (f := fun k => putS 18 hi (scS (getS 18 hi) (getS 1 hi)) 122 k.toNat) (t := getS 18 (putS 18 hi (scS (getS 18 hi) (getS 1 hi)))) (G := G) (len := len) (t0 := t0) (m0 := m0) hHR hEN hXH h2T hO hn (fun j hj => (putS_out _ _ _ (by decide)).trans (hG j hj)) hTX e2
    rw [h3_self] at g
    exact g
  have kp : ∀ (w2 f2 : Int → Int) (t2 : TS), f2 1 = len → KEEPC hi (H3 (putS 18 hi (scS (getS 18 hi) (getS 1 hi))) w2 f2 t2) := fun w2 f2 t2 g => ⟨fun a ha h1 h2 k => (h3_o _ _ _ _ _ ⟨ha, h1, h2⟩).trans (putS_out _ _ _ (by omega)), (h3_g2 _ _ _ _ 1 1 rfl).trans (g.trans e1.symm)⟩
  refine aw_aload_n dX8_play_0 rfl ?_
  refine aw_getr (x := 18) dX8_play_1 ci8 (by decide) fX8_16 (by decide) (by decide +kernel) rfl ((hHR 0 1 (by decide) (by decide +kernel)).trans rfl) ?_
  refine aw_aload_n dX8_play_4 rfl ?_
  refine aw_getr (x := 1) dX8_play_5 ci8 (by decide) fX8_12 (by decide) (by decide +kernel) rfl ((hHR 0 0 (by decide) (by decide +kernel)).trans rfl) ?_
  refine aw_V1v dX8_play_8 clX8_110 ⟨by decide, by decide⟩ (c := 4) (N := 11) (by decide) (by decide +kernel) rfl (c_copy st18 st1 (by decide) hHR hR.1.bo) (by decide) (by decide) rfl rfl (by simp only [List.length_cons, List.length_nil]; omega) ?_
  refine aw_aload_n dX8_play_11 rfl ?_
  refine aw_getr (x := 124) dX8_play_12 ci8 (by decide) fX8_36 (by decide) (by decide +kernel) rfl ((hHR 0 4 (by decide) (by decide +kernel)).trans rfl) ?_
  refine aw_aload_n dX8_play_15 rfl ?_
  refine aw_getr (x := 122) dX8_play_16 ci8 (by decide) fX8_29 (by decide) (by decide +kernel) rfl ((hHR 0 3 (by decide) (by decide +kernel)).trans rfl) ?_
  refine aw_aload_n dX8_play_19 rfl ?_
  refine aw_getr (x := 18) dX8_play_20 ci8 (by decide) fX8_16 (by decide) (by decide +kernel) rfl ((hHR 0 1 (by decide) (by decide +kernel)).trans rfl) ?_
  refine aw_V2w dX8_play_23 clX8_133 ⟨by decide, by decide⟩ (c := 3) (N := 5) (by decide) (by decide +kernel) rfl cR (by decide) (by decide) rfl rfl (by simp only [List.length_cons, List.length_nil]; omega) (fun h2 r2 n2 z => ?_)
  obtain ⟨rfl, rfl, w2, f2, t2, rfl, z1, z2⟩ := z
  have k1 := kp w2 f2 t2 z1
  have b124 : ∀ k : Nat, H3 (putS 18 hi (scS (getS 18 hi) (getS 1 hi))) w2 f2 t2 124 k = w2 (k : Int) := fun k => h3_g4 _ _ _ _ k (k : Int) rfl
  have ck := c.keepc k1
  obtain ⟨g1, g2, g3, g4, g5, g6, g7⟩ := ck.q
  obtain ⟨n1, n2⟩ := ck.nt
  have hb2 := res_b z2
  have HF : AMet E M_X3_hasFault [aR 124] (H3 (putS 18 hi (scS (getS 18 hi) (getS 1 hi))) w2 f2 t2) r2 125 (EX (some (aI (w2 1))) (H3 (putS 18 hi (scS (getS 18 hi) (getS 1 hi))) w2 f2 t2) r2 125) := by
    have g := c_X3_hasFault (E := E) (hi := (H3 (putS 18 hi (scS (getS 18 hi) (getS 1 hi))) w2 f2 t2)) hHR (by rw [b124]; exact res_b z2)
    rw [b124] at g
    exact g
  refine aw_aload_n dX8_play_26 rfl ?_
  refine aw_getr (x := 124) dX8_play_27 ci8 (by decide) fX8_36 (by decide) (by decide +kernel) rfl ((hHR 0 4 (by decide) (by decide +kernel)).trans rfl) ?_
  refine aw_V0x dX8_play_30 clX8_140 ⟨by decide, by decide⟩ (c := 3) (N := 5) (by decide) (by decide +kernel) rfl HF (by decide) (by decide) rfl rfl (by simp only [List.length_cons, List.length_nil]; omega) ?_
  refine aw_if_eq (tgt := 39) dX8_play_33 (by decide) ⟨by omega, by omega⟩ (fun h33 => ?_) (fun h33 => ?_)
  · rcases z2 with ⟨a1, a2, a3, a4⟩ | ⟨a1, a2, -⟩
    rotate_left
    · exact absurd h33 (by omega)
    have e18 : SAME (getS 18 (nt1 (H3 (putS 18 hi (scS (getS 18 hi) (getS 1 hi))) w2 f2 t2) (q m.toNat))) t2 := (get_other g2 st18 (fun e => g4 e.symm) _ _).tr (get_put st18 _ _)
    have h18 : RlT (getS 18 (nt1 (H3 (putS 18 hi (scS (getS 18 hi) (getS 1 hi))) w2 f2 t2) (q m.toNat))) (dorF G len s t0 m0).2.1 := e18.rlT a4
    have h5 : RlT (scS (getS 1 (nt1 (H3 (putS 18 hi (scS (getS 18 hi) (getS 1 hi))) w2 f2 t2) (q m.toNat))) (getS 18 (nt1 (H3 (putS 18 hi (scS (getS 18 hi) (getS 1 hi))) w2 f2 t2) (q m.toNat)))) (pyF G len s t0 m0).2 := (scS_same _ _).rlT h18
    have n4 := (ck.after h5).2.2.2
    have n35 := n4 35 (Or.inl rfl) 1
    have z5 : 0 ≤ putS 1 (nt1 (H3 (putS 18 hi (scS (getS 18 hi) (getS 1 hi))) w2 f2 t2) (q m.toNat)) (scS (getS 1 (nt1 (H3 (putS 18 hi (scS (getS 18 hi) (getS 1 hi))) w2 f2 t2) (q m.toNat))) (getS 18 (nt1 (H3 (putS 18 hi (scS (getS 18 hi) (getS 1 hi))) w2 f2 t2) (q m.toNat)))) 35 1 := by omega
    have z6 : putS 1 (nt1 (H3 (putS 18 hi (scS (getS 18 hi) (getS 1 hi))) w2 f2 t2) (q m.toNat)) (scS (getS 1 (nt1 (H3 (putS 18 hi (scS (getS 18 hi) (getS 1 hi))) w2 f2 t2) (q m.toNat))) (getS 18 (nt1 (H3 (putS 18 hi (scS (getS 18 hi) (getS 1 hi))) w2 f2 t2) (q m.toNat)))) 35 1 ≤ 4 := by omega
    have ev : w2 0 = (pyF G len s t0 m0).1 := by unfold pyF; rw [if_pos a1]; exact a3
    have db := doA_b (G := G) (len := len) 61 s 0 0 t0 m0 n hO hn (by decide) (by decide) (Or.inr (Or.inr trivial))
    have d1 : 0 ≤ w2 0 ∧ w2 0 ≤ 61 := by rw [a3]; exact ⟨db.2.1, by have := db.2.2.1; unfold dorF; omega⟩
    have CD : AMet E M_X3_commandsDone [aR 124] (putS 1 (nt1 (H3 (putS 18 hi (scS (getS 18 hi) (getS 1 hi))) w2 f2 t2) (q m.toNat)) (scS (getS 1 (nt1 (H3 (putS 18 hi (scS (getS 18 hi) (getS 1 hi))) w2 f2 t2) (q m.toNat))) (getS 18 (nt1 (H3 (putS 18 hi (scS (getS 18 hi) (getS 1 hi))) w2 f2 t2) (q m.toNat))))) r2 125 (EX (some (aI (w2 0))) (putS 1 (nt1 (H3 (putS 18 hi (scS (getS 18 hi) (getS 1 hi))) w2 f2 t2) (q m.toNat)) (scS (getS 1 (nt1 (H3 (putS 18 hi (scS (getS 18 hi) (getS 1 hi))) w2 f2 t2) (q m.toNat))) (getS 18 (nt1 (H3 (putS 18 hi (scS (getS 18 hi) (getS 1 hi))) w2 f2 t2) (q m.toNat))))) r2 125) := by
      have g := c_X3_commandsDone (E := E) (hi := putS 1 (nt1 (H3 (putS 18 hi (scS (getS 18 hi) (getS 1 hi))) w2 f2 t2) (q m.toNat)) (scS (getS 1 (nt1 (H3 (putS 18 hi (scS (getS 18 hi) (getS 1 hi))) w2 f2 t2) (q m.toNat))) (getS 18 (nt1 (H3 (putS 18 hi (scS (getS 18 hi) (getS 1 hi))) w2 f2 t2) (q m.toNat))))) hHR
      rw [n4 124 (Or.inr (by decide)), b124] at g
      exact g
    refine aw_aload_n dX8_play_39 rfl ?_
    refine aw_getr (x := 35) dX8_play_40 ci8 (by decide) fX8_22 (by decide) (by decide +kernel) rfl ((hHR 0 2 (by decide) (by decide +kernel)).trans rfl) ?_
    refine aw_aload_n dX8_play_43 rfl ?_
    refine aw_getr (x := 1) dX8_play_44 ci8 (by decide) fX8_12 (by decide) (by decide +kernel) rfl ((hHR 0 0 (by decide) (by decide +kernel)).trans rfl) ?_
    refine aw_V1v dX8_play_47 clX8_44 ⟨by decide, by decide⟩ (c := 1) (N := 2) (by decide) (by decide +kernel) rfl (c_X1_note hHR g5 g6 g1 g2 g3 g7) (by decide) (by decide) rfl rfl (by simp only [List.length_cons, List.length_nil]; omega) ?_
    refine aw_aload_n dX8_play_50 rfl ?_
    refine aw_getr (x := 1) dX8_play_51 ci8 (by decide) fX8_12 (by decide) (by decide +kernel) rfl ((hHR 0 0 (by decide) (by decide +kernel)).trans rfl) ?_
    refine aw_aload_n dX8_play_54 rfl ?_
    refine aw_getr (x := 18) dX8_play_55 ci8 (by decide) fX8_16 (by decide) (by decide +kernel) rfl ((hHR 0 1 (by decide) (by decide +kernel)).trans rfl) ?_
    refine aw_V1v dX8_play_58 clX8_110 ⟨by decide, by decide⟩ (c := 4) (N := 11) (by decide) (by decide +kernel) rfl (c_copy st1 st18 (by decide) hHR h18.1.bo) (by decide) (by decide) rfl rfl (by simp only [List.length_cons, List.length_nil]; omega) ?_
    refine aw_aload_n dX8_play_61 rfl ?_
    refine aw_aload_n dX8_play_62 rfl ?_
    refine aw_getr (x := 124) dX8_play_63 ci8 (by decide) fX8_36 (by decide) (by decide +kernel) rfl ((hHR 0 4 (by decide) (by decide +kernel)).trans rfl) ?_
    refine aw_V0x dX8_play_66 clX8_143 ⟨by decide, by decide⟩ (c := 3) (N := 5) (by decide) (by decide +kernel) rfl CD (by decide) (by decide) rfl rfl (by simp only [List.length_cons, List.length_nil]; omega) ?_
    refine aw_V1i dX8_play_69 clX8_52 ⟨by decide, by decide⟩ (c := 8) (N := 5) (by decide) (by decide +kernel) rfl (c_X8_keepChange hHR z5 z6 c.2.1.1 ⟨by omega, by omega⟩) (by decide) (by decide) rfl rfl (by simp only [List.length_cons, List.length_nil]; omega) (fun v2 h3 r3 n3 kc => ?_)
    obtain ⟨rfl, rfl, kc⟩ := kc
    refine aw_iret dX8_play_72 rfl (by decide) (by decide) ?_
    rw [ev] at kc ⊢
    exact ⟨_, rfl, rfl, (post_of ck h5 (fun g => absurd g (by omega)) rfl kc).from k1⟩
  · refine aw_bipush dX8_play_36 (by decide) ?_
    refine aw_iret dX8_play_38 rfl (by decide) (by decide) ?_
    rcases z2 with ⟨a1, a2, a3, a4⟩ | ⟨a1, a2, -⟩
    · exact absurd a2 h33
    have e : (pyF G len s t0 m0).1 = -2 := by unfold pyF; rw [if_neg (by omega)]
    refine ⟨_, rfl, rfl, ?_⟩
    rw [← e]
    exact (post_same ck (by rw [e]; decide)).from k1
end CALLP
