/-! the class's calls: changes -/
theorem post_same {hr : HR} {hi : HI} {q : Nat → Nat} {m : Int} {s : Int → Int} {P : Nat → Int → Int} {res : Int × (Int → Int)} (c : CIv hr hi q m s P) (hv : res.1 < 0) : POST hi m s P res res.1 hi hr := ⟨rfl, fun _ _ _ => rfl, rfl, q, m, s, P, c, Or.inl ⟨hv, rfl, rfl, rfl⟩⟩
theorem e_ite {p : Prop} [Decidable p] {s : Int → Int} {a b : Int × (Int → Int)} (ha : p → a.1 < 0 → a.2 = s) (hb : ¬ p → b.1 < 0 → b.2 = s) : (if p then a else b).1 < 0 → (if p then a else b).2 = s := by
  by_cases h : p
  · rw [if_pos h]; exact ha h
  · rw [if_neg h]; exact hb h
theorem e_as {s : Int → Int} (h : MI s) (k v u : Int) : (asF s k v u).1 < 0 → (asF s k v u).2 = s := by
  have h8 := h.2.2.1
  have z := h.z 11 (by unfold xc; omega)
  unfold asF
  refine e_ite (fun _ _ => rfl) (fun _ => e_ite (fun _ _ => rfl) (fun _ => e_ite (fun _ _ => rfl) (fun c g => ?_)))
  have e : (cmF s k v (2 - u) 0 11) = s 11 + 1 := cmF_11 h (by omega) _ _ _ _
  exact absurd g (by dsimp only; omega)
theorem e_lt {s : Int → Int} (h : MI s) (m : Int) : (ltF s m).1 < 0 → (ltF s m).2 = s := by
  unfold ltF
  refine e_ite (fun _ _ => rfl) (fun c1 => e_ite (fun _ _ => rfl) (fun _ => e_ite (fun _ _ => rfl) (fun c g => ?_)))
  have e := (goA_3 h m.toNat (by unfold BIG; omega)).1
  exact absurd g (by dsimp only; omega)
theorem e_of (s : Int → Int) : (ofF s).1 < 0 → (ofF s).2 = s := by
  unfold ofF
  refine e_ite (fun _ _ => rfl) (fun _ g => ?_)
  have e := (onA_b (lsF s) 12).1
  exact absurd g (by dsimp only; omega)
theorem e_op {s : Int → Int} (h : MI s) : (opF s).1 < 0 → (opF s).2 = s := by
  have e := (opA_11 h.on 48 (by decide)).1
  unfold opF
  generalize opA (up1 s 1 0) 48 = W at e
  exact e_ite (fun _ g => absurd g (by dsimp only; omega)) (fun _ _ => rfl)
theorem e_ch {s : Int → Int} (h : MI s) : (chF s).1 < 0 → (chF s).2 = s := by
  have e := h.2.1
  unfold chF
  exact e_ite (fun _ _ => rfl) (fun _ g => absurd g (by dsimp only; omega))
theorem e_cl (s : Int → Int) (b : Int) : (clF s b).1 < 0 → (clF s b).2 = s := by
  have e := (ctA_b s b 24).1
  unfold clF
  exact e_ite (fun _ _ => rfl) (fun _ => e_ite (fun _ _ => rfl) (fun _ => e_ite (fun _ _ => rfl) (fun _ g => absurd g (by dsimp only; omega))))
theorem e_er {s : Int → Int} (h : MI s) (b : Int) : (erF s b).1 < 0 → (erF s b).2 = s := by
  unfold erF
  refine e_ite (fun _ _ => rfl) (fun c => e_ite (fun _ _ => rfl) (fun _ g => ?_))
  have e : er1 s b (6 + b) = s (6 + b) := er1_x s (show b = 0 ∨ b = 1 by omega) (by omega)
  have z := h.z (6 + b) (by unfold xc; omega)
  exact absurd g (by dsimp only; omega)
theorem e_sl {s : Int → Int} (h : MI s) (w t : Int) : (slF s w t).1 < 0 → (slF s w t).2 = s := by
  unfold slF
  refine e_ite (fun c g => ?_) (fun _ _ => rfl)
  have z := h.z (12 + w) (by unfold xc; omega)
  exact absurd g (by dsimp only; omega)
theorem e_se {s : Int → Int} (h : MI s) (w t : Int) : (seF s w t).1 < 0 → (seF s w t).2 = s := by
  have z : 0 ≤ w → w ≤ 3 → 0 ≤ s (20 + w) := fun h0 h1 => h.z (20 + w) (by unfold xc; omega)
  by_cases c : 0 ≤ w ∧ w ≤ 3 ∧ (if w = 2 then 0 else 1) ≤ t ∧ t ≤ moF w
  · have e : seF s w t = (s (20 + w), up1 s (20 + w) t) := by unfold seF; rw [if_pos c]
    rw [e]
    intro g
    have := z c.1 c.2.1
    exact absurd g (by dsimp only; omega)
  · have e : seF s w t = (-1, s) := by unfold seF; rw [if_neg c]
    rw [e]
    intro _
    rfl
section CALLSC
variable {E : ET} {hi : HI} {hr : HR} {q : Nat → Nat} {m n : Int} {s : Int → Int} {P : Nat → Int → Int}
set_option maxRecDepth 100000 in
set_option maxHeartbeats 4000000 in
theorem c_X8_keepChange {v : Int} (hHR : HRk hr) (h0 : 0 ≤ hi 35 1) (h4 : hi 35 1 ≤ 4) (hP : HP hr q) (hv : InR v) : AMet E M_X8_keepChange [aR 0, aI v] hi hr 125 (PI (fun z h r2 n2 => n2 = 125 ∧ z = v ∧ KC hr q hi v h r2)) := by
  refine am_of (by decide +kernel) (Nat.le_of_ble_eq_true rfl) ?_
  refine aw_iload_n dX8_keepChange_0 rfl ?_
  refine aw_if_lt (tgt := 11) dX8_keepChange_1 (by decide) hv (fun h1 => ?_) (fun h1 => ?_)
  · refine aw_iload_n dX8_keepChange_11 rfl ?_
    refine aw_iret dX8_keepChange_12 rfl (by decide) (by decide) ?_
    exact ⟨_, rfl, rfl, rfl, fun _ => ⟨rfl, rfl⟩, fun g => absurd g (by omega)⟩
  · refine aw_aload_n dX8_keepChange_4 rfl ?_
    refine aw_getr (x := 35) dX8_keepChange_5 ci8 (by decide) fX8_22 (by decide) (by decide +kernel) rfl ((hHR 0 2 (by decide) (by decide +kernel)).trans rfl) ?_
    refine aw_V0w dX8_keepChange_8 clX8_146 ⟨by decide, by decide⟩ (c := 1) (N := 2) (by decide) (by decide +kernel) rfl (c_X1_keep hHR h0 h4 hP) (by decide) (by decide) rfl rfl (by simp only [List.length_cons, List.length_nil]; omega) (fun h2 r2 n2 k => ?_)
    obtain ⟨rfl, k1, k2⟩ := k
    refine aw_iload_n dX8_keepChange_11 rfl ?_
    refine aw_iret dX8_keepChange_12 rfl (by decide) (by decide) ?_
    exact ⟨_, rfl, rfl, rfl, fun g => absurd g (by omega), fun _ => ⟨k1, k2⟩⟩
set_option maxRecDepth 100000 in
set_option maxHeartbeats 4000000 in
theorem c_X8_tick {k : Int} (c : CIv hr hi q m s P) (hEN : EN E) (hO : OKS s n) (ik : InR k) : AMet E M_X8_tick [aR 0, aI k] hi hr 125 (PI (fun v h r2 n2 => n2 = 125 ∧ POST hi m s P (ltF s k) v h r2)) := by
  refine am_of (by decide +kernel) (Nat.le_of_ble_eq_true rfl) ?_
  have hHR := c.1
  have hR := c.2.2.2.1
  have hM := hR.1.1.1
  obtain ⟨g1, g2, g3, g4, g5, g6, g7⟩ := c.q
  obtain ⟨n1, n2⟩ := c.nt
  refine aw_aload_n dX8_tick_0 rfl ?_
  refine aw_getr (x := 35) dX8_tick_1 ci8 (by decide) fX8_22 (by decide) (by decide +kernel) rfl ((hHR 0 2 (by decide) (by decide +kernel)).trans rfl) ?_
  refine aw_aload_n dX8_tick_4 rfl ?_
  refine aw_getr (x := 1) dX8_tick_5 ci8 (by decide) fX8_12 (by decide) (by decide +kernel) rfl ((hHR 0 0 (by decide) (by decide +kernel)).trans rfl) ?_
  refine aw_V1v dX8_tick_8 clX8_44 ⟨by decide, by decide⟩ (c := 1) (N := 2) (by decide) (by decide +kernel) rfl (c_X1_note hHR g5 g6 g1 g2 g3 g7) (by decide) (by decide) rfl rfl (by simp only [List.length_cons, List.length_nil]; omega) ?_
  refine aw_aload_n dX8_tick_11 rfl ?_
  refine aw_aload_n dX8_tick_12 rfl ?_
  refine aw_getr (x := 1) dX8_tick_13 ci8 (by decide) fX8_12 (by decide) (by decide +kernel) rfl ((hHR 0 0 (by decide) (by decide +kernel)).trans rfl) ?_
  refine aw_iload_n dX8_tick_16 rfl ?_
  refine aw_V1i dX8_tick_17 clX8_56 ⟨by decide, by decide⟩ (c := 4) (N := 11) (by decide) (by decide +kernel) rfl (by have g := c_X4_letTicks (E := E) (hi := nt1 hi (q m.toNat)) (t := getS 1 (nt1 hi (q m.toNat))) st1 hHR hEN n2 n1 hO.L ik; rw [putS_self] at g; exact g) (by decide) (by decide) rfl rfl (by simp only [List.length_cons, List.length_nil]; omega) (fun v h2 r2 n3 kq => ?_)
  obtain ⟨rfl, rfl, rfl, t2, rfl, gR⟩ := kq
  have n4 := (c.after gR).2.2.2 35 (Or.inl rfl) 1
  have z5 : 0 ≤ putS 1 (nt1 hi (q m.toNat)) t2 35 1 := by omega
  have z6 : putS 1 (nt1 hi (q m.toNat)) t2 35 1 ≤ 4 := by omega
  refine aw_V1i dX8_tick_20 clX8_52 ⟨by decide, by decide⟩ (c := 8) (N := 5) (by decide) (by decide +kernel) rfl (c_X8_keepChange hHR z5 z6 c.2.1.1 (r_lt hO k)) (by decide) (by decide) rfl rfl (by simp only [List.length_cons, List.length_nil]; omega) (fun v2 h3 r3 n3 kc => ?_)
  obtain ⟨rfl, rfl, kc⟩ := kc
  refine aw_iret dX8_tick_23 rfl (by decide) (by decide) ?_
  exact ⟨_, rfl, rfl, post_of c gR (e_lt hM k) rfl kc⟩
set_option maxRecDepth 100000 in
set_option maxHeartbeats 4000000 in
theorem c_X8_cut  (c : CIv hr hi q m s P)  : AMet E M_X8_cut [aR 0] hi hr 125 (PI (fun v h r2 n2 => n2 = 125 ∧ POST hi m s P (ofF s) v h r2)) := by
  refine am_of (by decide +kernel) (Nat.le_of_ble_eq_true rfl) ?_
  have hHR := c.1
  have hR := c.2.2.2.1
  have hM := hR.1.1.1
  obtain ⟨g1, g2, g3, g4, g5, g6, g7⟩ := c.q
  obtain ⟨n1, n2⟩ := c.nt
  refine aw_aload_n dX8_cut_0 rfl ?_
  refine aw_getr (x := 35) dX8_cut_1 ci8 (by decide) fX8_22 (by decide) (by decide +kernel) rfl ((hHR 0 2 (by decide) (by decide +kernel)).trans rfl) ?_
  refine aw_aload_n dX8_cut_4 rfl ?_
  refine aw_getr (x := 1) dX8_cut_5 ci8 (by decide) fX8_12 (by decide) (by decide +kernel) rfl ((hHR 0 0 (by decide) (by decide +kernel)).trans rfl) ?_
  refine aw_V1v dX8_cut_8 clX8_44 ⟨by decide, by decide⟩ (c := 1) (N := 2) (by decide) (by decide +kernel) rfl (c_X1_note hHR g5 g6 g1 g2 g3 g7) (by decide) (by decide) rfl rfl (by simp only [List.length_cons, List.length_nil]; omega) ?_
  refine aw_aload_n dX8_cut_11 rfl ?_
  refine aw_aload_n dX8_cut_12 rfl ?_
  refine aw_getr (x := 1) dX8_cut_13 ci8 (by decide) fX8_12 (by decide) (by decide +kernel) rfl ((hHR 0 0 (by decide) (by decide +kernel)).trans rfl) ?_
  refine aw_V0i dX8_cut_16 clX8_59 ⟨by decide, by decide⟩ (c := 4) (N := 11) (by decide) (by decide +kernel) rfl (by have g := c_X4_cutPower (E := E) (hi := nt1 hi (q m.toNat)) (t := getS 1 (nt1 hi (q m.toNat))) st1 hHR n1; rw [putS_self] at g; exact g) (by decide) (by decide) rfl rfl (by simp only [List.length_cons, List.length_nil]; omega) (fun v h2 r2 n3 kq => ?_)
  obtain ⟨rfl, rfl, rfl, t2, rfl, gR⟩ := kq
  have n4 := (c.after gR).2.2.2 35 (Or.inl rfl) 1
  have z5 : 0 ≤ putS 1 (nt1 hi (q m.toNat)) t2 35 1 := by omega
  have z6 : putS 1 (nt1 hi (q m.toNat)) t2 35 1 ≤ 4 := by omega
  refine aw_V1i dX8_cut_19 clX8_52 ⟨by decide, by decide⟩ (c := 8) (N := 5) (by decide) (by decide +kernel) rfl (c_X8_keepChange hHR z5 z6 c.2.1.1 (r_of s)) (by decide) (by decide) rfl rfl (by simp only [List.length_cons, List.length_nil]; omega) (fun v2 h3 r3 n3 kc => ?_)
  obtain ⟨rfl, rfl, kc⟩ := kc
  refine aw_iret dX8_cut_22 rfl (by decide) (by decide) ?_
  exact ⟨_, rfl, rfl, post_of c gR (e_of s) rfl kc⟩
set_option maxRecDepth 100000 in
set_option maxHeartbeats 4000000 in
theorem c_X8_on  (c : CIv hr hi q m s P)  : AMet E M_X8_on [aR 0] hi hr 125 (PI (fun v h r2 n2 => n2 = 125 ∧ POST hi m s P (opF s) v h r2)) := by
  refine am_of (by decide +kernel) (Nat.le_of_ble_eq_true rfl) ?_
  have hHR := c.1
  have hR := c.2.2.2.1
  have hM := hR.1.1.1
  obtain ⟨g1, g2, g3, g4, g5, g6, g7⟩ := c.q
  obtain ⟨n1, n2⟩ := c.nt
  refine aw_aload_n dX8_on_0 rfl ?_
  refine aw_getr (x := 35) dX8_on_1 ci8 (by decide) fX8_22 (by decide) (by decide +kernel) rfl ((hHR 0 2 (by decide) (by decide +kernel)).trans rfl) ?_
  refine aw_aload_n dX8_on_4 rfl ?_
  refine aw_getr (x := 1) dX8_on_5 ci8 (by decide) fX8_12 (by decide) (by decide +kernel) rfl ((hHR 0 0 (by decide) (by decide +kernel)).trans rfl) ?_
  refine aw_V1v dX8_on_8 clX8_44 ⟨by decide, by decide⟩ (c := 1) (N := 2) (by decide) (by decide +kernel) rfl (c_X1_note hHR g5 g6 g1 g2 g3 g7) (by decide) (by decide) rfl rfl (by simp only [List.length_cons, List.length_nil]; omega) ?_
  refine aw_aload_n dX8_on_11 rfl ?_
  refine aw_aload_n dX8_on_12 rfl ?_
  refine aw_getr (x := 1) dX8_on_13 ci8 (by decide) fX8_12 (by decide) (by decide +kernel) rfl ((hHR 0 0 (by decide) (by decide +kernel)).trans rfl) ?_
  refine aw_V0i dX8_on_16 clX8_63 ⟨by decide, by decide⟩ (c := 4) (N := 11) (by decide) (by decide +kernel) rfl (by have g := c_X4_restorePower (E := E) (hi := nt1 hi (q m.toNat)) (t := getS 1 (nt1 hi (q m.toNat))) st1 hHR n1; rw [putS_self] at g; exact g) (by decide) (by decide) rfl rfl (by simp only [List.length_cons, List.length_nil]; omega) (fun v h2 r2 n3 kq => ?_)
  obtain ⟨rfl, rfl, rfl, t2, rfl, gR⟩ := kq
  have n4 := (c.after gR).2.2.2 35 (Or.inl rfl) 1
  have z5 : 0 ≤ putS 1 (nt1 hi (q m.toNat)) t2 35 1 := by omega
  have z6 : putS 1 (nt1 hi (q m.toNat)) t2 35 1 ≤ 4 := by omega
  refine aw_V1i dX8_on_19 clX8_52 ⟨by decide, by decide⟩ (c := 8) (N := 5) (by decide) (by decide +kernel) rfl (c_X8_keepChange hHR z5 z6 c.2.1.1 (r_op hM)) (by decide) (by decide) rfl rfl (by simp only [List.length_cons, List.length_nil]; omega) (fun v2 h3 r3 n3 kc => ?_)
  obtain ⟨rfl, rfl, kc⟩ := kc
  refine aw_iret dX8_on_22 rfl (by decide) (by decide) ?_
  exact ⟨_, rfl, rfl, post_of c gR (e_op hM) rfl kc⟩
set_option maxRecDepth 100000 in
set_option maxHeartbeats 4000000 in
theorem c_X8_turn  (c : CIv hr hi q m s P)  : AMet E M_X8_turn [aR 0] hi hr 125 (PI (fun v h r2 n2 => n2 = 125 ∧ POST hi m s P (chF s) v h r2)) := by
  refine am_of (by decide +kernel) (Nat.le_of_ble_eq_true rfl) ?_
  have hHR := c.1
  have hR := c.2.2.2.1
  have hM := hR.1.1.1
  obtain ⟨g1, g2, g3, g4, g5, g6, g7⟩ := c.q
  obtain ⟨n1, n2⟩ := c.nt
  refine aw_aload_n dX8_turn_0 rfl ?_
  refine aw_getr (x := 35) dX8_turn_1 ci8 (by decide) fX8_22 (by decide) (by decide +kernel) rfl ((hHR 0 2 (by decide) (by decide +kernel)).trans rfl) ?_
  refine aw_aload_n dX8_turn_4 rfl ?_
  refine aw_getr (x := 1) dX8_turn_5 ci8 (by decide) fX8_12 (by decide) (by decide +kernel) rfl ((hHR 0 0 (by decide) (by decide +kernel)).trans rfl) ?_
  refine aw_V1v dX8_turn_8 clX8_44 ⟨by decide, by decide⟩ (c := 1) (N := 2) (by decide) (by decide +kernel) rfl (c_X1_note hHR g5 g6 g1 g2 g3 g7) (by decide) (by decide) rfl rfl (by simp only [List.length_cons, List.length_nil]; omega) ?_
  refine aw_aload_n dX8_turn_11 rfl ?_
  refine aw_aload_n dX8_turn_12 rfl ?_
  refine aw_getr (x := 1) dX8_turn_13 ci8 (by decide) fX8_12 (by decide) (by decide +kernel) rfl ((hHR 0 0 (by decide) (by decide +kernel)).trans rfl) ?_
  refine aw_V0i dX8_turn_16 clX8_66 ⟨by decide, by decide⟩ (c := 4) (N := 11) (by decide) (by decide +kernel) rfl (by have g := c_X4_turnToOther (E := E) (hi := nt1 hi (q m.toNat)) (t := getS 1 (nt1 hi (q m.toNat))) st1 hHR n1; rw [putS_self] at g; exact g) (by decide) (by decide) rfl rfl (by simp only [List.length_cons, List.length_nil]; omega) (fun v h2 r2 n3 kq => ?_)
  obtain ⟨rfl, rfl, rfl, t2, rfl, gR⟩ := kq
  have n4 := (c.after gR).2.2.2 35 (Or.inl rfl) 1
  have z5 : 0 ≤ putS 1 (nt1 hi (q m.toNat)) t2 35 1 := by omega
  have z6 : putS 1 (nt1 hi (q m.toNat)) t2 35 1 ≤ 4 := by omega
  refine aw_V1i dX8_turn_19 clX8_52 ⟨by decide, by decide⟩ (c := 8) (N := 5) (by decide) (by decide +kernel) rfl (c_X8_keepChange hHR z5 z6 c.2.1.1 (r_ch hM)) (by decide) (by decide) rfl rfl (by simp only [List.length_cons, List.length_nil]; omega) (fun v2 h3 r3 n3 kc => ?_)
  obtain ⟨rfl, rfl, kc⟩ := kc
  refine aw_iret dX8_turn_22 rfl (by decide) (by decide) ?_
  exact ⟨_, rfl, rfl, post_of c gR (e_ch hM) rfl kc⟩
set_option maxRecDepth 100000 in
set_option maxHeartbeats 4000000 in
theorem c_X8_clean {k : Int} (c : CIv hr hi q m s P) (ik : InR k) : AMet E M_X8_clean [aR 0, aI k] hi hr 125 (PI (fun v h r2 n2 => n2 = 125 ∧ POST hi m s P (clF s k) v h r2)) := by
  refine am_of (by decide +kernel) (Nat.le_of_ble_eq_true rfl) ?_
  have hHR := c.1
  have hR := c.2.2.2.1
  have hM := hR.1.1.1
  obtain ⟨g1, g2, g3, g4, g5, g6, g7⟩ := c.q
  obtain ⟨n1, n2⟩ := c.nt
  refine aw_aload_n dX8_clean_0 rfl ?_
  refine aw_getr (x := 35) dX8_clean_1 ci8 (by decide) fX8_22 (by decide) (by decide +kernel) rfl ((hHR 0 2 (by decide) (by decide +kernel)).trans rfl) ?_
  refine aw_aload_n dX8_clean_4 rfl ?_
  refine aw_getr (x := 1) dX8_clean_5 ci8 (by decide) fX8_12 (by decide) (by decide +kernel) rfl ((hHR 0 0 (by decide) (by decide +kernel)).trans rfl) ?_
  refine aw_V1v dX8_clean_8 clX8_44 ⟨by decide, by decide⟩ (c := 1) (N := 2) (by decide) (by decide +kernel) rfl (c_X1_note hHR g5 g6 g1 g2 g3 g7) (by decide) (by decide) rfl rfl (by simp only [List.length_cons, List.length_nil]; omega) ?_
  refine aw_aload_n dX8_clean_11 rfl ?_
  refine aw_aload_n dX8_clean_12 rfl ?_
  refine aw_getr (x := 1) dX8_clean_13 ci8 (by decide) fX8_12 (by decide) (by decide +kernel) rfl ((hHR 0 0 (by decide) (by decide +kernel)).trans rfl) ?_
  refine aw_iload_n dX8_clean_16 rfl ?_
  refine aw_V1i dX8_clean_17 clX8_69 ⟨by decide, by decide⟩ (c := 4) (N := 11) (by decide) (by decide +kernel) rfl (by have g := c_X4_cleanBlock (E := E) (hi := nt1 hi (q m.toNat)) (t := getS 1 (nt1 hi (q m.toNat))) st1 hHR n1 ik; rw [putS_self] at g; exact g) (by decide) (by decide) rfl rfl (by simp only [List.length_cons, List.length_nil]; omega) (fun v h2 r2 n3 kq => ?_)
  obtain ⟨rfl, rfl, rfl, t2, rfl, gR⟩ := kq
  have n4 := (c.after gR).2.2.2 35 (Or.inl rfl) 1
  have z5 : 0 ≤ putS 1 (nt1 hi (q m.toNat)) t2 35 1 := by omega
  have z6 : putS 1 (nt1 hi (q m.toNat)) t2 35 1 ≤ 4 := by omega
  refine aw_V1i dX8_clean_20 clX8_52 ⟨by decide, by decide⟩ (c := 8) (N := 5) (by decide) (by decide +kernel) rfl (c_X8_keepChange hHR z5 z6 c.2.1.1 (r_cl s k)) (by decide) (by decide) rfl rfl (by simp only [List.length_cons, List.length_nil]; omega) (fun v2 h3 r3 n3 kc => ?_)
  obtain ⟨rfl, rfl, kc⟩ := kc
  refine aw_iret dX8_clean_23 rfl (by decide) (by decide) ?_
  exact ⟨_, rfl, rfl, post_of c gR (e_cl s k) rfl kc⟩
set_option maxRecDepth 100000 in
set_option maxHeartbeats 4000000 in
theorem c_X8_erase {k : Int} (c : CIv hr hi q m s P) (hO : OKS s n) (hn : n < 100000) (ik : InR k) : AMet E M_X8_erase [aR 0, aI k] hi hr 125 (PI (fun v h r2 n2 => n2 = 125 ∧ POST hi m s P (erF s k) v h r2)) := by
  refine am_of (by decide +kernel) (Nat.le_of_ble_eq_true rfl) ?_
  have hHR := c.1
  have hR := c.2.2.2.1
  have hM := hR.1.1.1
  obtain ⟨g1, g2, g3, g4, g5, g6, g7⟩ := c.q
  obtain ⟨n1, n2⟩ := c.nt
  refine aw_aload_n dX8_erase_0 rfl ?_
  refine aw_getr (x := 35) dX8_erase_1 ci8 (by decide) fX8_22 (by decide) (by decide +kernel) rfl ((hHR 0 2 (by decide) (by decide +kernel)).trans rfl) ?_
  refine aw_aload_n dX8_erase_4 rfl ?_
  refine aw_getr (x := 1) dX8_erase_5 ci8 (by decide) fX8_12 (by decide) (by decide +kernel) rfl ((hHR 0 0 (by decide) (by decide +kernel)).trans rfl) ?_
  refine aw_V1v dX8_erase_8 clX8_44 ⟨by decide, by decide⟩ (c := 1) (N := 2) (by decide) (by decide +kernel) rfl (c_X1_note hHR g5 g6 g1 g2 g3 g7) (by decide) (by decide) rfl rfl (by simp only [List.length_cons, List.length_nil]; omega) ?_
  refine aw_aload_n dX8_erase_11 rfl ?_
  refine aw_aload_n dX8_erase_12 rfl ?_
  refine aw_getr (x := 1) dX8_erase_13 ci8 (by decide) fX8_12 (by decide) (by decide +kernel) rfl ((hHR 0 0 (by decide) (by decide +kernel)).trans rfl) ?_
  refine aw_iload_n dX8_erase_16 rfl ?_
  refine aw_V1i dX8_erase_17 clX8_72 ⟨by decide, by decide⟩ (c := 4) (N := 11) (by decide) (by decide +kernel) rfl (by have g := c_X4_eraseBlock (E := E) (hi := nt1 hi (q m.toNat)) (t := getS 1 (nt1 hi (q m.toNat))) st1 hHR n1 hO hn ik; rw [putS_self] at g; exact g) (by decide) (by decide) rfl rfl (by simp only [List.length_cons, List.length_nil]; omega) (fun v h2 r2 n3 kq => ?_)
  obtain ⟨rfl, rfl, rfl, t2, rfl, gR⟩ := kq
  have n4 := (c.after gR).2.2.2 35 (Or.inl rfl) 1
  have z5 : 0 ≤ putS 1 (nt1 hi (q m.toNat)) t2 35 1 := by omega
  have z6 : putS 1 (nt1 hi (q m.toNat)) t2 35 1 ≤ 4 := by omega
  refine aw_V1i dX8_erase_20 clX8_52 ⟨by decide, by decide⟩ (c := 8) (N := 5) (by decide) (by decide +kernel) rfl (c_X8_keepChange hHR z5 z6 c.2.1.1 (r_er hM k)) (by decide) (by decide) rfl rfl (by simp only [List.length_cons, List.length_nil]; omega) (fun v2 h3 r3 n3 kc => ?_)
  obtain ⟨rfl, rfl, kc⟩ := kc
  refine aw_iret dX8_erase_23 rfl (by decide) (by decide) ?_
  exact ⟨_, rfl, rfl, post_of c gR (e_er hM k) rfl kc⟩
set_option maxRecDepth 100000 in
set_option maxHeartbeats 4000000 in
theorem c_X8_slow {w : Int} {k : Int} (c : CIv hr hi q m s P) (iw : InR w) (ik : InR k) : AMet E M_X8_slow [aR 0, aI w, aI k] hi hr 125 (PI (fun v h r2 n2 => n2 = 125 ∧ POST hi m s P (slF s w k) v h r2)) := by
  refine am_of (by decide +kernel) (Nat.le_of_ble_eq_true rfl) ?_
  have hHR := c.1
  have hR := c.2.2.2.1
  have hM := hR.1.1.1
  obtain ⟨g1, g2, g3, g4, g5, g6, g7⟩ := c.q
  obtain ⟨n1, n2⟩ := c.nt
  refine aw_aload_n dX8_slow_0 rfl ?_
  refine aw_getr (x := 35) dX8_slow_1 ci8 (by decide) fX8_22 (by decide) (by decide +kernel) rfl ((hHR 0 2 (by decide) (by decide +kernel)).trans rfl) ?_
  refine aw_aload_n dX8_slow_4 rfl ?_
  refine aw_getr (x := 1) dX8_slow_5 ci8 (by decide) fX8_12 (by decide) (by decide +kernel) rfl ((hHR 0 0 (by decide) (by decide +kernel)).trans rfl) ?_
  refine aw_V1v dX8_slow_8 clX8_44 ⟨by decide, by decide⟩ (c := 1) (N := 2) (by decide) (by decide +kernel) rfl (c_X1_note hHR g5 g6 g1 g2 g3 g7) (by decide) (by decide) rfl rfl (by simp only [List.length_cons, List.length_nil]; omega) ?_
  refine aw_aload_n dX8_slow_11 rfl ?_
  refine aw_aload_n dX8_slow_12 rfl ?_
  refine aw_getr (x := 1) dX8_slow_13 ci8 (by decide) fX8_12 (by decide) (by decide +kernel) rfl ((hHR 0 0 (by decide) (by decide +kernel)).trans rfl) ?_
  refine aw_iload_n dX8_slow_16 rfl ?_
  refine aw_iload_n dX8_slow_17 rfl ?_
  refine aw_V2i dX8_slow_18 clX8_75 ⟨by decide, by decide⟩ (c := 4) (N := 11) (by decide) (by decide +kernel) rfl (by have g := c_X4_changeSlowness (E := E) (hi := nt1 hi (q m.toNat)) (t := getS 1 (nt1 hi (q m.toNat))) st1 hHR n1 iw ik; rw [putS_self] at g; exact g) (by decide) (by decide) rfl rfl (by simp only [List.length_cons, List.length_nil]; omega) (fun v h2 r2 n3 kq => ?_)
  obtain ⟨rfl, rfl, rfl, t2, rfl, gR⟩ := kq
  have n4 := (c.after gR).2.2.2 35 (Or.inl rfl) 1
  have z5 : 0 ≤ putS 1 (nt1 hi (q m.toNat)) t2 35 1 := by omega
  have z6 : putS 1 (nt1 hi (q m.toNat)) t2 35 1 ≤ 4 := by omega
  refine aw_V1i dX8_slow_21 clX8_52 ⟨by decide, by decide⟩ (c := 8) (N := 5) (by decide) (by decide +kernel) rfl (c_X8_keepChange hHR z5 z6 c.2.1.1 (r_sl hM w k)) (by decide) (by decide) rfl rfl (by simp only [List.length_cons, List.length_nil]; omega) (fun v2 h3 r3 n3 kc => ?_)
  obtain ⟨rfl, rfl, kc⟩ := kc
  refine aw_iret dX8_slow_24 rfl (by decide) (by decide) ?_
  exact ⟨_, rfl, rfl, post_of c gR (e_sl hM w k) rfl kc⟩
set_option maxRecDepth 100000 in
set_option maxHeartbeats 4000000 in
theorem c_X8_set {w : Int} {k : Int} (c : CIv hr hi q m s P) (hEN : EN E) (iw : InR w) (ik : InR k) : AMet E M_X8_set [aR 0, aI w, aI k] hi hr 125 (PI (fun v h r2 n2 => n2 = 125 ∧ POST hi m s P (seF s w k) v h r2)) := by
  refine am_of (by decide +kernel) (Nat.le_of_ble_eq_true rfl) ?_
  have hHR := c.1
  have hR := c.2.2.2.1
  have hM := hR.1.1.1
  obtain ⟨g1, g2, g3, g4, g5, g6, g7⟩ := c.q
  obtain ⟨n1, n2⟩ := c.nt
  refine aw_aload_n dX8_set_0 rfl ?_
  refine aw_getr (x := 35) dX8_set_1 ci8 (by decide) fX8_22 (by decide) (by decide +kernel) rfl ((hHR 0 2 (by decide) (by decide +kernel)).trans rfl) ?_
  refine aw_aload_n dX8_set_4 rfl ?_
  refine aw_getr (x := 1) dX8_set_5 ci8 (by decide) fX8_12 (by decide) (by decide +kernel) rfl ((hHR 0 0 (by decide) (by decide +kernel)).trans rfl) ?_
  refine aw_V1v dX8_set_8 clX8_44 ⟨by decide, by decide⟩ (c := 1) (N := 2) (by decide) (by decide +kernel) rfl (c_X1_note hHR g5 g6 g1 g2 g3 g7) (by decide) (by decide) rfl rfl (by simp only [List.length_cons, List.length_nil]; omega) ?_
  refine aw_aload_n dX8_set_11 rfl ?_
  refine aw_aload_n dX8_set_12 rfl ?_
  refine aw_getr (x := 1) dX8_set_13 ci8 (by decide) fX8_12 (by decide) (by decide +kernel) rfl ((hHR 0 0 (by decide) (by decide +kernel)).trans rfl) ?_
  refine aw_iload_n dX8_set_16 rfl ?_
  refine aw_iload_n dX8_set_17 rfl ?_
  refine aw_V2i dX8_set_18 clX8_79 ⟨by decide, by decide⟩ (c := 4) (N := 11) (by decide) (by decide +kernel) rfl (by have g := c_X4_changeSetting (E := E) (hi := nt1 hi (q m.toNat)) (t := getS 1 (nt1 hi (q m.toNat))) st1 hHR hEN n2 n1 iw ik; rw [putS_self] at g; exact g) (by decide) (by decide) rfl rfl (by simp only [List.length_cons, List.length_nil]; omega) (fun v h2 r2 n3 kq => ?_)
  obtain ⟨rfl, rfl, rfl, t2, rfl, gR⟩ := kq
  have n4 := (c.after gR).2.2.2 35 (Or.inl rfl) 1
  have z5 : 0 ≤ putS 1 (nt1 hi (q m.toNat)) t2 35 1 := by omega
  have z6 : putS 1 (nt1 hi (q m.toNat)) t2 35 1 ≤ 4 := by omega
  refine aw_V1i dX8_set_21 clX8_52 ⟨by decide, by decide⟩ (c := 8) (N := 5) (by decide) (by decide +kernel) rfl (c_X8_keepChange hHR z5 z6 c.2.1.1 (r_se hM w k)) (by decide) (by decide) rfl rfl (by simp only [List.length_cons, List.length_nil]; omega) (fun v2 h3 r3 n3 kc => ?_)
  obtain ⟨rfl, rfl, kc⟩ := kc
  refine aw_iret dX8_set_24 rfl (by decide) (by decide) ?_
  exact ⟨_, rfl, rfl, post_of c gR (e_se hM w k) rfl kc⟩
set_option maxRecDepth 100000 in
set_option maxHeartbeats 4000000 in
theorem c_X8_write {k : Int} {w : Int} {u : Int} (c : CIv hr hi q m s P) (ik : InR k) (iw : InR w) (iu : InR u) : AMet E M_X8_write [aR 0, aI k, aI w, aI u] hi hr 125 (PI (fun v h r2 n2 => n2 = 125 ∧ POST hi m s P (asF s k w u) v h r2)) := by
  refine am_of (by decide +kernel) (Nat.le_of_ble_eq_true rfl) ?_
  have hHR := c.1
  have hR := c.2.2.2.1
  have hM := hR.1.1.1
  obtain ⟨g1, g2, g3, g4, g5, g6, g7⟩ := c.q
  obtain ⟨n1, n2⟩ := c.nt
  refine aw_iload_n dX8_write_0 rfl ?_
  refine aw_iconst dX8_write_1 ?_
  refine aw_iconst dX8_write_2 ?_
  refine aw_S3x dX8_write_3 clX8_40 ⟨by decide, by decide⟩ (c_X8_isIn iu ⟨by decide, by decide⟩ ⟨by decide, by decide⟩) (by decide) (by decide) rfl rfl (by simp only [List.length_cons, List.length_nil]; omega) ?_
  refine aw_if_ne (tgt := 11) dX8_write_6 (by decide) in_r (fun h6 => ?_) (fun h6 => ?_)
  · refine aw_aload_n dX8_write_11 rfl ?_
    refine aw_getr (x := 35) dX8_write_12 ci8 (by decide) fX8_22 (by decide) (by decide +kernel) rfl ((hHR 0 2 (by decide) (by decide +kernel)).trans rfl) ?_
    refine aw_aload_n dX8_write_15 rfl ?_
    refine aw_getr (x := 1) dX8_write_16 ci8 (by decide) fX8_12 (by decide) (by decide +kernel) rfl ((hHR 0 0 (by decide) (by decide +kernel)).trans rfl) ?_
    refine aw_V1v dX8_write_19 clX8_44 ⟨by decide, by decide⟩ (c := 1) (N := 2) (by decide) (by decide +kernel) rfl (c_X1_note hHR g5 g6 g1 g2 g3 g7) (by decide) (by decide) rfl rfl (by simp only [List.length_cons, List.length_nil]; omega) ?_
    refine aw_aload_n dX8_write_22 rfl ?_
    refine aw_aload_n dX8_write_23 rfl ?_
    refine aw_getr (x := 1) dX8_write_24 ci8 (by decide) fX8_12 (by decide) (by decide +kernel) rfl ((hHR 0 0 (by decide) (by decide +kernel)).trans rfl) ?_
    refine aw_iload_n dX8_write_27 rfl ?_
    refine aw_iload_n dX8_write_28 rfl ?_
    refine aw_iload_n dX8_write_29 rfl ?_
    refine aw_iconst dX8_write_30 ?_
    refine aw_ic_ne (tgt := 38) dX8_write_31 (by decide) iu ⟨by decide, by decide⟩ (fun h31 => ?_) (fun h31 => ?_)
    · rw [in0, Classical.not_not] at h6
      obtain rfl : u = 0 := by omega
      refine aw_iconst dX8_write_38 ?_
      refine aw_V3i dX8_write_39 clX8_48 ⟨by decide, by decide⟩ (c := 4) (N := 11) (by decide) (by decide +kernel) rfl (by have g := c_X4_askFor (E := E) (hi := nt1 hi (q m.toNat)) (t := getS 1 (nt1 hi (q m.toNat))) st1 hHR n1 ik iw (u := 2) (Or.inr rfl); rw [show asG s k w 2 = asF s k w 0 from as_eq s k w (u := 0) ⟨by decide, by decide⟩] at g; rw [putS_self] at g; exact g) (by decide) (by decide) rfl rfl (by simp only [List.length_cons, List.length_nil]; omega) (fun v h2 r2 n3 kq => ?_)
      obtain ⟨rfl, rfl, rfl, t2, rfl, gR⟩ := kq
      have n4 := (c.after gR).2.2.2 35 (Or.inl rfl) 1
      have z5 : 0 ≤ putS 1 (nt1 hi (q m.toNat)) t2 35 1 := by omega
      have z6 : putS 1 (nt1 hi (q m.toNat)) t2 35 1 ≤ 4 := by omega
      refine aw_V1i dX8_write_42 clX8_52 ⟨by decide, by decide⟩ (c := 8) (N := 5) (by decide) (by decide +kernel) rfl (c_X8_keepChange hHR z5 z6 c.2.1.1 (r_as hM k w _)) (by decide) (by decide) rfl rfl (by simp only [List.length_cons, List.length_nil]; omega) (fun v2 h3 r3 n3 kc => ?_)
      obtain ⟨rfl, rfl, kc⟩ := kc
      refine aw_iret dX8_write_45 rfl (by decide) (by decide) ?_
      exact ⟨_, rfl, rfl, post_of c gR (e_as hM k w _) rfl kc⟩
    · obtain rfl : u = 1 := by omega
      refine aw_iconst dX8_write_34 ?_
      refine aw_goto (tgt := 39) dX8_write_35 (by decide) ?_
      refine aw_V3i dX8_write_39 clX8_48 ⟨by decide, by decide⟩ (c := 4) (N := 11) (by decide) (by decide +kernel) rfl (by have g := c_X4_askFor (E := E) (hi := nt1 hi (q m.toNat)) (t := getS 1 (nt1 hi (q m.toNat))) st1 hHR n1 ik iw (u := 1) (Or.inl rfl); rw [show asG s k w 1 = asF s k w 1 from as_eq s k w (u := 1) ⟨by decide, by decide⟩] at g; rw [putS_self] at g; exact g) (by decide) (by decide) rfl rfl (by simp only [List.length_cons, List.length_nil]; omega) (fun v h2 r2 n3 kq => ?_)
      obtain ⟨rfl, rfl, rfl, t2, rfl, gR⟩ := kq
      have n4 := (c.after gR).2.2.2 35 (Or.inl rfl) 1
      have z5 : 0 ≤ putS 1 (nt1 hi (q m.toNat)) t2 35 1 := by omega
      have z6 : putS 1 (nt1 hi (q m.toNat)) t2 35 1 ≤ 4 := by omega
      refine aw_V1i dX8_write_42 clX8_52 ⟨by decide, by decide⟩ (c := 8) (N := 5) (by decide) (by decide +kernel) rfl (c_X8_keepChange hHR z5 z6 c.2.1.1 (r_as hM k w _)) (by decide) (by decide) rfl rfl (by simp only [List.length_cons, List.length_nil]; omega) (fun v2 h3 r3 n3 kc => ?_)
      obtain ⟨rfl, rfl, kc⟩ := kc
      refine aw_iret dX8_write_45 rfl (by decide) (by decide) ?_
      exact ⟨_, rfl, rfl, post_of c gR (e_as hM k w _) rfl kc⟩
  · refine aw_iconst dX8_write_9 ?_
    refine aw_iret dX8_write_10 rfl (by decide) (by decide) ?_
    rw [in0] at h6
    have e : asF s k w u = (-1, s) := by unfold asF; rw [if_pos (Or.inr (Or.inr h6))]
    rw [e]
    exact ⟨_, rfl, rfl, post_same c (by dsimp only; decide)⟩
end CALLSC
