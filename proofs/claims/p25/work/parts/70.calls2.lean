/-! the class's calls: questions, texts -/
section CALLQ
variable {E : ET} {hi : HI} {hr : HR} {q : Nat → Nat} {m n : Int} {s G : Int → Int} {P : Nat → Int → Int}
set_option maxRecDepth 100000 in
set_option maxHeartbeats 4000000 in
theorem c_X8_placeOf {k : Int} {w : Int} (c : CIv hr hi q m s P) (ik : InR k) (iw : InR w) : AMet E M_X8_placeOf [aR 0, aI k, aI w] hi hr 125 (EX (some (aI (poF s k w))) hi hr 125) := by
  refine am_of (by decide +kernel) (Nat.le_of_ble_eq_true rfl) ?_
  have hHR := c.1
  have hR := c.2.2.2.1
  have hM := hR.1.1.1
  refine aw_aload_n dX8_placeOf_0 rfl ?_
  refine aw_getr (x := 1) dX8_placeOf_1 ci8 (by decide) fX8_12 (by decide) (by decide +kernel) rfl ((hHR 0 0 (by decide) (by decide +kernel)).trans rfl) ?_
  refine aw_iload_n dX8_placeOf_4 rfl ?_
  refine aw_iload_n dX8_placeOf_5 rfl ?_
  refine aw_V2x dX8_placeOf_6 clX8_85 ⟨by decide, by decide⟩ (c := 4) (N := 11) (by decide) (by decide +kernel) rfl (by have g := c_X4_placeFact (E := E) (hi := hi) (t := getS 1 hi) st1 hHR hR.1 ik iw; rw [putS_self] at g; exact g) (by decide) (by decide) rfl rfl (by simp only [List.length_cons, List.length_nil]; omega) ?_
  refine aw_iret dX8_placeOf_9 rfl (by decide) (by decide) ?_
  exact EX.rf
set_option maxRecDepth 100000 in
set_option maxHeartbeats 4000000 in
theorem c_X8_pageOf {b : Int} {k : Int} {w : Int} (c : CIv hr hi q m s P) (hEN : EN E) (ib : InR b) (ik : InR k) (iw : InR w) : AMet E M_X8_pageOf [aR 0, aI b, aI k, aI w] hi hr 125 (EX (some (aI (pgF s b k w))) hi hr 125) := by
  refine am_of (by decide +kernel) (Nat.le_of_ble_eq_true rfl) ?_
  have hHR := c.1
  have hR := c.2.2.2.1
  have hM := hR.1.1.1
  refine aw_aload_n dX8_pageOf_0 rfl ?_
  refine aw_getr (x := 1) dX8_pageOf_1 ci8 (by decide) fX8_12 (by decide) (by decide +kernel) rfl ((hHR 0 0 (by decide) (by decide +kernel)).trans rfl) ?_
  refine aw_iload_n dX8_pageOf_4 rfl ?_
  refine aw_iload_n dX8_pageOf_5 rfl ?_
  refine aw_iload_n dX8_pageOf_6 rfl ?_
  refine aw_V3x dX8_pageOf_7 clX8_88 ⟨by decide, by decide⟩ (c := 4) (N := 11) (by decide) (by decide +kernel) rfl (by have g := c_X4_pageFact (E := E) (hi := hi) (t := getS 1 hi) st1 hHR hEN c.2.2.2.2.2 hR.1 ib ik iw; rw [putS_self] at g; exact g) (by decide) (by decide) rfl rfl (by simp only [List.length_cons, List.length_nil]; omega) ?_
  refine aw_iret dX8_pageOf_10 rfl (by decide) (by decide) ?_
  exact EX.rf
set_option maxRecDepth 100000 in
set_option maxHeartbeats 4000000 in
theorem c_X8_backupOf {b : Int} {k : Int} {w : Int} (c : CIv hr hi q m s P) (ib : InR b) (ik : InR k) (iw : InR w) : AMet E M_X8_backupOf [aR 0, aI b, aI k, aI w] hi hr 125 (EX (some (aI (bpF s b k w))) hi hr 125) := by
  refine am_of (by decide +kernel) (Nat.le_of_ble_eq_true rfl) ?_
  have hHR := c.1
  have hR := c.2.2.2.1
  have hM := hR.1.1.1
  refine aw_aload_n dX8_backupOf_0 rfl ?_
  refine aw_getr (x := 1) dX8_backupOf_1 ci8 (by decide) fX8_12 (by decide) (by decide +kernel) rfl ((hHR 0 0 (by decide) (by decide +kernel)).trans rfl) ?_
  refine aw_iload_n dX8_backupOf_4 rfl ?_
  refine aw_iload_n dX8_backupOf_5 rfl ?_
  refine aw_iload_n dX8_backupOf_6 rfl ?_
  refine aw_V3x dX8_backupOf_7 clX8_91 ⟨by decide, by decide⟩ (c := 4) (N := 11) (by decide) (by decide +kernel) rfl (by have g := c_X4_backupFact (E := E) (hi := hi) (t := getS 1 hi) st1 hHR hR.1 ib ik iw; rw [putS_self] at g; exact g) (by decide) (by decide) rfl rfl (by simp only [List.length_cons, List.length_nil]; omega) ?_
  refine aw_iret dX8_backupOf_10 rfl (by decide) (by decide) ?_
  exact EX.rf
set_option maxRecDepth 100000 in
set_option maxHeartbeats 4000000 in
theorem c_X8_waits {i : Int} {w : Int} (c : CIv hr hi q m s P) (ii : InR i) (iw : InR w) : AMet E M_X8_waits [aR 0, aI i, aI w] hi hr 125 (EX (some (aI (wtF s i w))) hi hr 125) := by
  refine am_of (by decide +kernel) (Nat.le_of_ble_eq_true rfl) ?_
  have hHR := c.1
  have hR := c.2.2.2.1
  have hM := hR.1.1.1
  refine aw_aload_n dX8_waits_0 rfl ?_
  refine aw_getr (x := 1) dX8_waits_1 ci8 (by decide) fX8_12 (by decide) (by decide +kernel) rfl ((hHR 0 0 (by decide) (by decide +kernel)).trans rfl) ?_
  refine aw_iload_n dX8_waits_4 rfl ?_
  refine aw_iload_n dX8_waits_5 rfl ?_
  refine aw_V2x dX8_waits_6 clX8_94 ⟨by decide, by decide⟩ (c := 4) (N := 11) (by decide) (by decide +kernel) rfl (by have g := c_X4_requestFact (E := E) (hi := hi) (t := getS 1 hi) st1 hHR hR.1 ii iw; rw [putS_self] at g; exact g) (by decide) (by decide) rfl rfl (by simp only [List.length_cons, List.length_nil]; omega) ?_
  refine aw_iret dX8_waits_9 rfl (by decide) (by decide) ?_
  exact EX.rf
set_option maxRecDepth 100000 in
set_option maxHeartbeats 4000000 in
theorem c_X8_count {w : Int} (c : CIv hr hi q m s P) (hBK : BK s) (iw : InR w) : AMet E M_X8_count [aR 0, aI w] hi hr 125 (EX (some (aI (cnF s m (hi 122 1) w))) hi hr 125) := by
  refine am_of (by decide +kernel) (Nat.le_of_ble_eq_true rfl) ?_
  have hHR := c.1
  have hR := c.2.2.2.1
  have hM := hR.1.1.1
  refine aw_iload_n dX8_count_0 rfl ?_
  refine aw_bipush dX8_count_1 (by decide) ?_
  refine aw_ic_ne (tgt := 14) dX8_count_3 (by decide) iw ⟨by decide, by decide⟩ (fun h3 => ?_) (fun h3 => ?_)
  · refine aw_iload_n dX8_count_14 rfl ?_
    refine aw_bipush dX8_count_15 (by decide) ?_
    refine aw_ic_ne (tgt := 28) dX8_count_17 (by decide) iw ⟨by decide, by decide⟩ (fun h17 => ?_) (fun h17 => ?_)
    · refine aw_aload_n dX8_count_28 rfl ?_
      refine aw_getr (x := 1) dX8_count_29 ci8 (by decide) fX8_12 (by decide) (by decide +kernel) rfl ((hHR 0 0 (by decide) (by decide +kernel)).trans rfl) ?_
      refine aw_iload_n dX8_count_32 rfl ?_
      refine aw_V1x dX8_count_33 clX8_103 ⟨by decide, by decide⟩ (c := 4) (N := 11) (by decide) (by decide +kernel) rfl (by have g := c_X4_numberOf (E := E) (hi := hi) (t := getS 1 hi) st1 hHR hR hBK iw (n := m) (len := hi 122 1) (by omega) (by omega); rw [putS_self] at g; exact g) (by decide) (by decide) rfl rfl (by simp only [List.length_cons, List.length_nil]; omega) ?_
      refine aw_iret dX8_count_36 rfl (by decide) (by decide) ?_
      exact EX.rf
    · refine aw_aload_n dX8_count_20 rfl ?_
      refine aw_getr (x := 122) dX8_count_21 ci8 (by decide) fX8_29 (by decide) (by decide +kernel) rfl ((hHR 0 3 (by decide) (by decide +kernel)).trans rfl) ?_
      refine aw_V0x dX8_count_24 clX8_100 ⟨by decide, by decide⟩ (c := 6) (N := 6) (by decide) (by decide +kernel) rfl (c_X6_length hHR) (by decide) (by decide) rfl rfl (by simp only [List.length_cons, List.length_nil]; omega) ?_
      refine aw_iret dX8_count_27 rfl (by decide) (by decide) ?_
      exact exI (by rw [show w = 17 by omega]; rfl)
  · refine aw_aload_n dX8_count_6 rfl ?_
    refine aw_getr (x := 35) dX8_count_7 ci8 (by decide) fX8_22 (by decide) (by decide +kernel) rfl ((hHR 0 2 (by decide) (by decide +kernel)).trans rfl) ?_
    refine aw_V0x dX8_count_10 clX8_97 ⟨by decide, by decide⟩ (c := 1) (N := 2) (by decide) (by decide +kernel) rfl (c_X1_size hHR) (by decide) (by decide) rfl rfl (by simp only [List.length_cons, List.length_nil]; omega) ?_
    refine aw_iret dX8_count_13 rfl (by decide) (by decide) ?_
    exact exI (by rw [show w = 16 by omega, c.2.2.1.1]; rfl)
theorem keepc_rf (hi : HI) : KEEPC hi hi := ⟨fun _ _ _ _ _ => rfl, rfl⟩
theorem keepc_18 (hi : HI) (t : TS) : KEEPC hi (putS 18 hi t) := ⟨fun a ha _ _ k => putS_out _ _ _ (by omega), putS_out _ _ _ (by decide)⟩
set_option maxRecDepth 100000 in
set_option maxHeartbeats 4000000 in
theorem c_X8_undo (c : CIv hr hi q m s P) : AMet E M_X8_undo [aR 0] hi hr 125 (PI (fun v h r2 n2 => r2 = hr ∧ n2 = 125 ∧ (m = 0 → v = -2 ∧ h = hi) ∧ (0 < m → v = m - 1 ∧ CIv hr h q (m - 1) (P (m - 1).toNat) P ∧ ∀ a : Nat, 122 ≤ a → ∀ k : Nat, h a k = hi a k))) := by
  refine am_of (by decide +kernel) (Nat.le_of_ble_eq_true rfl) ?_
  have hHR := c.1
  have hR := c.2.2.2.1
  have hM := hR.1.1.1
  obtain ⟨e35, m0, m4⟩ := c.2.2.1
  refine aw_aload_n dX8_undo_0 rfl ?_
  refine aw_getr (x := 35) dX8_undo_1 ci8 (by decide) fX8_22 (by decide) (by decide +kernel) rfl ((hHR 0 2 (by decide) (by decide +kernel)).trans rfl) ?_
  refine aw_aload_n dX8_undo_4 rfl ?_
  refine aw_getr (x := 1) dX8_undo_5 ci8 (by decide) fX8_12 (by decide) (by decide +kernel) rfl ((hHR 0 0 (by decide) (by decide +kernel)).trans rfl) ?_
  refine aw_V1i dX8_undo_8 clX8_123 ⟨by decide, by decide⟩ (c := 1) (N := 2) (by decide) (by decide +kernel) rfl (c_X1_restore (x := q (m - 1).toNat) hHR (by omega) (by omega) (fun g => ⟨by rw [e35]; exact (c.2.1.1 (m - 1).toNat (by omega)).1, (c.2.1.1 (m - 1).toNat (by omega)).2, (c.2.1.2.1 (m - 1).toNat (by omega)).1, (c.2.2.2.2.1 (m - 1).toNat (by omega)).1.bo⟩)) (by decide) (by decide) rfl rfl (by simp only [List.length_cons, List.length_nil]; omega) (fun v h2 r2 n2 z => ?_)
  obtain ⟨rfl, rfl, z1, z2⟩ := z
  refine aw_iret dX8_undo_11 rfl (by decide) (by decide) ?_
  refine ⟨_, rfl, rfl, rfl, fun g => z1 (by omega), fun g => ?_⟩
  obtain ⟨rfl, t2, rfl, zS⟩ := z2 (by omega)
  have far : ∀ a : Nat, 122 ≤ a → ∀ k : Nat, putS 1 (up2 hi 35 1 (hi 35 1 - 1)) t2 a k = hi a k := fun a ha k => (putS_out _ _ _ (by omega)).trans (up2_ne _ _ _ (by omega) _)
  have hx := c.2.1.1 (m - 1).toNat (by omega)
  refine ⟨by omega, ⟨c.1, c.2.1, ⟨(putS_out _ _ _ (by decide)).trans ((up2_self _ _ _ _).trans (by omega)), by omega, by omega⟩, ?_, fun i hi2 => ?_, c.2.2.2.2.2.of (fun a ha k => far a (by omega) k)⟩, far⟩
  · exact ((get_put st1 _ _).tr zS).rlT (c.2.2.2.2.1 _ (by omega))
  · have y := c.2.1.1 i (by omega)
    exact ((get_other st1 y.2 (c.2.1.2.1 i (by omega)).1 _ _).tr (get_size y.2 _ _)).rlT (c.2.2.2.2.1 i (by omega))
set_option maxRecDepth 100000 in
set_option maxHeartbeats 4000000 in
theorem c_X8_type {x : Int} (hHR : HRk hr) (ix : InR x) (h0 : 0 ≤ hi 122 1) (h1 : hi 122 1 ≤ 60) : AMet E M_X8_type [aR 0, aI x] hi hr 125 (PI (fun v h r2 n2 => r2 = hr ∧ n2 = 125 ∧ v = tyF (hi 122 1) x ∧ (v < 0 → h = hi) ∧ (0 ≤ v → h = up2 (up2 hi 123 (hi 122 1).toNat x) 122 1 (hi 122 1 + 1)))) := by
  refine am_of (by decide +kernel) (Nat.le_of_ble_eq_true rfl) ?_
  refine aw_aload_n dX8_type_0 rfl ?_
  refine aw_getr (x := 122) dX8_type_1 ci8 (by decide) fX8_29 (by decide) (by decide +kernel) rfl ((hHR 0 3 (by decide) (by decide +kernel)).trans rfl) ?_
  refine aw_iload_n dX8_type_4 rfl ?_
  refine aw_V1i dX8_type_5 clX8_127 ⟨by decide, by decide⟩ (c := 6) (N := 6) (by decide) (by decide +kernel) rfl (c_X6_append hHR ix h0 h1) (by decide) (by decide) rfl rfl (by simp only [List.length_cons, List.length_nil]; omega) (fun v h2 r2 n2 z => ?_)
  refine aw_iret dX8_type_8 rfl (by decide) (by decide) ?_
  exact ⟨_, rfl, z⟩
set_option maxRecDepth 100000 in
set_option maxHeartbeats 4000000 in
theorem c_X8_clearText (hHR : HRk hr) : AMet E M_X8_clearText [aR 0] hi hr 125 (EX (some (aI (hi 122 1))) (up2 hi 122 1 0) hr 125) := by
  refine am_of (by decide +kernel) (Nat.le_of_ble_eq_true rfl) ?_
  refine aw_aload_n dX8_clearText_0 rfl ?_
  refine aw_getr (x := 122) dX8_clearText_1 ci8 (by decide) fX8_29 (by decide) (by decide +kernel) rfl ((hHR 0 3 (by decide) (by decide +kernel)).trans rfl) ?_
  refine aw_V0x dX8_clearText_4 clX8_130 ⟨by decide, by decide⟩ (c := 6) (N := 6) (by decide) (by decide +kernel) rfl (c_X6_makeEmpty hHR) (by decide) (by decide) rfl rfl (by simp only [List.length_cons, List.length_nil]; omega) ?_
  refine aw_iret dX8_clearText_7 rfl (by decide) (by decide) ?_
  exact EX.rf
theorem res_b {w2 : Int → Int} {t2 : TS} {r : DR} (h : RES w2 t2 r) : w2 1 = 0 ∨ w2 1 = 1 := h.elim (fun g => Or.inl g.2.1) (fun g => Or.inr g.2.1)
theorem res_fa {w2 : Int → Int} {t2 : TS} {len t0 m0 x : Int} (hx : 0 ≤ x ∧ x ≤ 2) (h : RES w2 t2 (dorF G len s t0 m0)) : (if w2 1 = 0 then -4 else if x = 0 then w2 2 else if x = 1 then w2 3 else w2 4) = faF G len s x t0 m0 := by
  unfold faF
  rw [if_neg (show ¬ ¬ (0 ≤ x ∧ x ≤ 2) from fun g => g hx)]
  generalize dorF G len s t0 m0 = r at h ⊢
  rcases h with ⟨a1, a2, a3, a4⟩ | ⟨a1, a2, a3, a4, a5⟩
  · rw [if_pos a2, if_pos (fun g => by have := g.1; omega)]
  · rw [if_neg (show ¬ w2 1 = 0 by omega), a3, a4, a5]
    by_cases e : x = 0
    · rw [if_pos e, if_neg (show ¬ ¬ (0 ≤ r.1 ∧ (x < 2 ∨ ¬ r.2.2.2.2.2 = 0)) from fun g => g ⟨a1, Or.inl (by omega)⟩), if_pos e]
    · by_cases e1 : x = 1
      · rw [if_neg e, if_pos e1, if_neg (show ¬ ¬ (0 ≤ r.1 ∧ (x < 2 ∨ ¬ r.2.2.2.2.2 = 0)) from fun g => g ⟨a1, Or.inl (by omega)⟩), if_neg e, if_pos e1]
      · rw [if_neg e, if_neg e1]
        by_cases f : r.2.2.2.2.2 = 0
        · rw [if_pos f, if_pos (fun g => g.2.elim (fun q => by omega) (fun q => q f))]
        · rw [if_neg f, if_neg (show ¬ ¬ (0 ≤ r.1 ∧ (x < 2 ∨ ¬ r.2.2.2.2.2 = 0)) from fun g => g ⟨a1, Or.inr f⟩), if_neg e, if_neg e1]
set_option maxRecDepth 100000 in
set_option maxHeartbeats 4000000 in
theorem c_X8_fault {k : Int} (c : CIv hr hi q m s P) (hEN : EN E) (hO : OKS s n) (hn : n + 61 ≤ 100000) {len t0 m0 : Int} (hG : ∀ j : Nat, (j : Int) < len → hi 123 j = G (j : Int)) (hTX : TX G len) (e1 : hi 122 1 = len) (ik : InR k) : AMet E M_X8_fault [aR 0, aI k] hi hr 125 (PI (fun v h r2 n2 => r2 = hr ∧ n2 = 125 ∧ v = faF G len s k t0 m0 ∧ KEEPC hi h)) := by
  refine am_of (by decide +kernel) (Nat.le_of_ble_eq_true rfl) ?_
  have hHR := c.1
  have hR := c.2.2.2.1
  have hM := hR.1.1.1
  have hT := (scS_same (getS 18 hi) (getS 1 hi)).rlT hR
  have h2T : RlT (getS 18 (putS 18 hi (scS (getS 18 hi) (getS 1 hi)))) s := (get_put st18 _ _).rlT hT
  have hXH : XH (putS 18 hi (scS (getS 18 hi) (getS 1 hi))) := c.2.2.2.2.2.of (fun a ha k => putS_out _ _ _ (by omega))
  have e2 : putS 18 hi (scS (getS 18 hi) (getS 1 hi)) 122 1 = len := (putS_out _ _ _ (by decide)).trans e1
  have cR : AMet E M_X3_run [aR 124, aR 122, aR 18] (putS 18 hi (scS (getS 18 hi) (getS 1 hi))) hr 125 (PV (fun h r2 n2 => r2 = hr ∧ n2 = 125 ∧ ∃ (w2 f2 : Int → Int) (t2 : TS), h = H3 (putS 18 hi (scS (getS 18 hi) (getS 1 hi))) w2 f2 t2 ∧ f2 1 = len ∧ RES w2 t2 (dorF G len s t0 m0))) := by
    have g := c_X3_run (E := E) (Y := putS 18 hi (scS (getS 18 hi) (getS 1 hi))) (w := fun k => putS 18 hi (scS (getS 18 hi) (getS 1 hi)) 124 k.toNat) (f := fun k => putS 18 hi (scS (getS 18 hi) (getS 1 hi)) 122 k.toNat) (t := getS 18 (putS 18 hi (scS (getS 18 hi) (getS 1 hi)))) (G := G) (len := len) (t0 := t0) (m0 := m0) hHR hEN hXH h2T hO hn (fun j hj => (putS_out _ _ _ (by decide)).trans (hG j hj)) hTX e2
    rw [h3_self] at g
    exact g
  have kp : ∀ (w2 f2 : Int → Int) (t2 : TS), f2 1 = len → KEEPC hi (H3 (putS 18 hi (scS (getS 18 hi) (getS 1 hi))) w2 f2 t2) := fun w2 f2 t2 g => ⟨fun a ha h1 h2 k => (h3_o _ _ _ _ _ ⟨ha, h1, h2⟩).trans (putS_out _ _ _ (by omega)), (h3_g2 _ _ _ _ 1 1 rfl).trans (g.trans e1.symm)⟩
  refine aw_iload_n dX8_fault_0 rfl ?_
  refine aw_iconst dX8_fault_1 ?_
  refine aw_iconst dX8_fault_2 ?_
  refine aw_S3x dX8_fault_3 clX8_40 ⟨by decide, by decide⟩ (c_X8_isIn ik ⟨by decide, by decide⟩ ⟨by decide, by decide⟩) (by decide) (by decide) rfl rfl (by simp only [List.length_cons, List.length_nil]; omega) ?_
  refine aw_if_ne (tgt := 11) dX8_fault_6 (by decide) in_r (fun h6 => ?_) (fun h6 => ?_)
  · rw [in0, Classical.not_not] at h6
    refine aw_aload_n dX8_fault_11 rfl ?_
    refine aw_getr (x := 18) dX8_fault_12 ci8 (by decide) fX8_16 (by decide) (by decide +kernel) rfl ((hHR 0 1 (by decide) (by decide +kernel)).trans rfl) ?_
    refine aw_aload_n dX8_fault_15 rfl ?_
    refine aw_getr (x := 1) dX8_fault_16 ci8 (by decide) fX8_12 (by decide) (by decide +kernel) rfl ((hHR 0 0 (by decide) (by decide +kernel)).trans rfl) ?_
    refine aw_V1v dX8_fault_19 clX8_110 ⟨by decide, by decide⟩ (c := 4) (N := 11) (by decide) (by decide +kernel) rfl (c_copy st18 st1 (by decide) hHR hR.1.bo) (by decide) (by decide) rfl rfl (by simp only [List.length_cons, List.length_nil]; omega) ?_
    refine aw_aload_n dX8_fault_22 rfl ?_
    refine aw_getr (x := 124) dX8_fault_23 ci8 (by decide) fX8_36 (by decide) (by decide +kernel) rfl ((hHR 0 4 (by decide) (by decide +kernel)).trans rfl) ?_
    refine aw_aload_n dX8_fault_26 rfl ?_
    refine aw_getr (x := 122) dX8_fault_27 ci8 (by decide) fX8_29 (by decide) (by decide +kernel) rfl ((hHR 0 3 (by decide) (by decide +kernel)).trans rfl) ?_
    refine aw_aload_n dX8_fault_30 rfl ?_
    refine aw_getr (x := 18) dX8_fault_31 ci8 (by decide) fX8_16 (by decide) (by decide +kernel) rfl ((hHR 0 1 (by decide) (by decide +kernel)).trans rfl) ?_
    refine aw_V2w dX8_fault_34 clX8_133 ⟨by decide, by decide⟩ (c := 3) (N := 5) (by decide) (by decide +kernel) rfl cR (by decide) (by decide) rfl rfl (by simp only [List.length_cons, List.length_nil]; omega) (fun h2 r2 n2 z => ?_)
    obtain ⟨rfl, rfl, w2, f2, t2, rfl, z1, z2⟩ := z
    have k1 := kp w2 f2 t2 z1
    have b124 : ∀ k : Nat, H3 (putS 18 hi (scS (getS 18 hi) (getS 1 hi))) w2 f2 t2 124 k = w2 (k : Int) := fun k => h3_g4 _ _ _ _ k (k : Int) rfl
    refine aw_aload_n dX8_fault_37 rfl ?_
    refine aw_getr (x := 124) dX8_fault_38 ci8 (by decide) fX8_36 (by decide) (by decide +kernel) rfl ((hHR 0 4 (by decide) (by decide +kernel)).trans rfl) ?_
    refine aw_iload_n dX8_fault_41 rfl ?_
    refine aw_V1x dX8_fault_42 clX8_137 ⟨by decide, by decide⟩ (c := 3) (N := 5) (by decide) (by decide +kernel) rfl (by have g := c_X3_faultFact (E := E) (hi := H3 (putS 18 hi (scS (getS 18 hi) (getS 1 hi))) w2 f2 t2) (x := k) hHR (by rw [b124]; exact res_b z2) ik; rw [b124, b124, b124, b124] at g; exact g) (by decide) (by decide) rfl rfl (by simp only [List.length_cons, List.length_nil]; omega) ?_
    refine aw_iret dX8_fault_45 rfl (by decide) (by decide) ?_
    exact ⟨_, rfl, rfl, rfl, res_fa h6 z2, k1⟩
  · refine aw_iconst dX8_fault_9 ?_
    refine aw_iret dX8_fault_10 rfl (by decide) (by decide) ?_
    rw [in0] at h6
    exact ⟨_, rfl, rfl, rfl, by unfold faF; rw [if_pos h6], keepc_rf _⟩
end CALLQ
