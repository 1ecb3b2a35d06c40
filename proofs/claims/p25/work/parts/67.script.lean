/-! the class does a command, and a text -/
theorem XH.of {h1 h2 : HI} (h : XH h1) (e : ∀ a : Nat, 1000 ≤ a → ∀ k : Nat, h2 a k = h1 a k) : XH h2 :=
  ⟨fun j hj => by rw [e 1000 (by decide)]; exact h.1 j hj, fun j hj => by rw [e 1001 (by decide)]; exact h.2.1 j hj, fun j hj => by rw [e 1002 (by decide)]; exact h.2.2.1 j hj, fun j hj => by rw [e 1003 (by decide)]; exact h.2.2.2.1 j hj, fun j hj => by rw [e 1004 (by decide)]; exact h.2.2.2.2 j hj⟩
theorem as_eq (s : Int → Int) (k v : Int) {u : Int} (hu : 0 ≤ u ∧ u ≤ 1) : asG s k v (2 - u) = asF s k v u := by
  unfold asG asF
  by_cases c : ¬ (0 ≤ k ∧ k ≤ 11) ∨ ¬ (0 ≤ v ∧ v ≤ 999)
  · rw [if_pos c, if_pos (c.elim Or.inl (fun g => Or.inr (Or.inl g)))]
  · rw [if_neg c, if_neg (show ¬ (¬ (0 ≤ k ∧ k ≤ 11) ∨ ¬ (0 ≤ v ∧ v ≤ 999) ∨ ¬ (0 ≤ u ∧ u ≤ 1)) from fun g => g.elim (fun q => c (Or.inl q)) (fun q => q.elim (fun z => c (Or.inr z)) (fun z => z hu)))]
theorem OKS.L {s : Int → Int} {n : Int} (h : OKS s n) : s 0 ≤ 9000 := h.2.1
/-- Script, Text, a State -/
abbrev H3 (Y : HI) (w f : Int → Int) (t : TS) : HI := putS 18 (pa 122 (pa 124 Y w) f) t
theorem putS_pa {a : Nat} (h : a < 18 ∨ 35 ≤ a) (Y : HI) (f : Int → Int) (t : TS) : putS 18 (pa a Y f) t = pa a (putS 18 Y t) f := by
  funext x k
  show (if 18 ≤ x ∧ x < 18 + 17 then t (x - 18) (k : Int) else (if x = a then f (k : Int) else Y x k)) = (if x = a then f (k : Int) else (if 18 ≤ x ∧ x < 18 + 17 then t (x - 18) (k : Int) else Y x k))
  by_cases e : x = a
  · rw [if_pos e, if_neg (by omega), if_pos e]
  · rw [if_neg e]
    by_cases e2 : 18 ≤ x ∧ x < 18 + 17
    · rw [if_pos e2, if_neg e]
    · rw [if_neg e2, if_neg e]
theorem h3_122 (Y : HI) (w f : Int → Int) (t : TS) : H3 Y w f t = pa 122 (putS 18 (pa 124 Y w) t) f := putS_pa (by decide) _ _ _
theorem h3_124 (Y : HI) (w f : Int → Int) (t : TS) : H3 Y w f t = pa 124 (putS 18 (pa 122 Y f) t) w := by
  unfold H3
  rw [pa_comm _ _ _ (show (122 : Nat) ≠ 124 by decide), putS_pa (by decide)]
theorem h3_g2 (Y : HI) (w f : Int → Int) (t : TS) (k : Nat) (kk : Int) (h : ((k : Nat) : Int) = kk) : H3 Y w f t 122 k = f kk := by rw [h3_122, pa_g, h]
theorem h3_g4 (Y : HI) (w f : Int → Int) (t : TS) (k : Nat) (kk : Int) (h : ((k : Nat) : Int) = kk) : H3 Y w f t 124 k = w kk := by rw [h3_124, pa_g, h]
theorem h3_u4 (Y : HI) (w f : Int → Int) (t : TS) (k : Nat) (kk v : Int) (h : ((k : Nat) : Int) = kk) : up2 (H3 Y w f t) 124 k v = H3 Y (up1 w kk v) f t := by rw [h3_124, pa_u, h, ← h3_124]
theorem h3_o (Y : HI) (w f : Int → Int) (t : TS) {a : Nat} (k : Nat) (h : (a < 18 ∨ 35 ≤ a) ∧ ¬ a = 122 ∧ ¬ a = 124) : H3 Y w f t a k = Y a k := by
  unfold H3
  rw [putS_out _ _ _ (by omega), pa_gn _ _ _ h.2.1, pa_gn _ _ _ h.2.2]
theorem h3_self (hi : HI) : H3 hi (fun k => hi 124 k.toNat) (fun k => hi 122 k.toNat) (getS 18 hi) = hi := by
  have e : pa 122 (pa 124 hi (fun k => hi 124 k.toNat)) (fun k => hi 122 k.toNat) = hi := by rw [pa_self 124 hi, pa_self 122 hi]
  unfold H3
  rw [e, putS_self]
theorem doA_s (G : Int → Int) (len : Int) (k : Nat) (s : Int → Int) (a d t m : Int) : doA G len (k + 1) s a d t m =
    if len ≤ a then ⟨-1, s, a, d, t, m⟩
    else if cmd G len a = 0 then ⟨a, s, cma G len a, d, 0, 0⟩
    else if (caF s (hrF G len a) (c1F G len a).2.1 (c2F G len a).2.1).1 < 0 then ⟨a, (caF s (hrF G len a) (c1F G len a).2.1 (c2F G len a).2.1).2, cma G len a, d, (caF s (hrF G len a) (c1F G len a).2.1 (c2F G len a).2.1).1, 1⟩
    else doA G len k (caF s (hrF G len a) (c1F G len a).2.1 (c2F G len a).2.1).2 (cma G len a) (d + 1) (caF s (hrF G len a) (c1F G len a).2.1 (c2F G len a).2.1).1 1 := rfl
/-- what a run leaves -/
def RES (w2 : Int → Int) (t2 : TS) (r : DR) : Prop :=
  (r.1 < 0 ∧ w2 1 = 0 ∧ w2 0 = r.2.2.2.1 ∧ RlT t2 r.2.1) ∨ (0 ≤ r.1 ∧ w2 1 = 1 ∧ w2 2 = r.1 ∧ w2 3 = (if r.2.2.2.2.2 = 0 then 1 else 2) ∧ w2 4 = (if r.2.2.2.2.2 = 0 then -4 else r.2.2.2.2.1))
section SCRIPT
variable {E : ET} {hi X Y : HI} {hr : HR} {o : Nat} {t : TS} {s f w G : Int → Int}
theorem ip_d : True := trivial
set_option maxRecDepth 100000 in
set_option maxHeartbeats 4000000 in
theorem c_X3_perform (ho : St o) (hHR : HRk hr) (hEN : EN E) (hX : XH (pa 122 X f)) (hR : RlT t s) {n x v1 v2 : Int} (hO : OKS s n) (hn : n < 100000) (e3 : f 3 = x) (e4 : f 4 = v1) (e5 : f 5 = v2) (hx : x = 119 ∨ x = 117 ∨ x = 116 ∨ x = 120 ∨ x = 111 ∨ x = 115 ∨ x = 99 ∨ x = 101) (hv1 : InR v1) (hv2 : InR v2) : AMet E M_X3_perform [aR 122, aR o] (putS o (pa 122 X f) t) hr 125 (QI (pa 122 X f) hr o (caF s x v1 v2)) := by
  refine am_of (by decide +kernel) (Nat.le_of_ble_eq_true rfl) ?_
  refine aw_aload_n dX3_perform_0 rfl ?_
  refine aw_getv dX3_perform_1 ci6 (by decide) fX3_51 (by decide) (by decide +kernel) rfl (((putS_out _ _ _ (by have := st_lt ho; omega)).trans (pa_gk 122 _ _ 3 3 rfl)).trans e3) ?_
  rcases hx with rfl | rfl | rfl | rfl | rfl | rfl | rfl | rfl
  · refine aw_tab (tgt := 108) (off := 104) dX3_perform_4 ⟨by decide, by decide⟩ (by decide) (by decide) (by decide +kernel) (by decide) ?_
    refine aw_aload_n dX3_perform_108 rfl ?_
    refine aw_aload_n dX3_perform_109 rfl ?_
    refine aw_getv dX3_perform_110 ci6 (by decide) fX3_54 (by decide) (by decide +kernel) rfl (((putS_out _ _ _ (by have := st_lt ho; omega)).trans (pa_gk 122 _ _ 4 4 rfl)).trans e4) ?_
    refine aw_aload_n dX3_perform_113 rfl ?_
    refine aw_getv dX3_perform_114 ci6 (by decide) fX3_57 (by decide) (by decide +kernel) rfl (((putS_out _ _ _ (by have := st_lt ho; omega)).trans (pa_gk 122 _ _ 5 5 rfl)).trans e5) ?_
    refine aw_iconst dX3_perform_117 ?_
    refine aw_V3i dX3_perform_118 clX3_60 ⟨by decide, by decide⟩ (c := 4) (N := 11) (by have := st_lt ho; omega) (st_sh0 ho) rfl (by have g := c_X4_askFor (E := E) (hi := pa 122 X f) ho hHR hR hv1 hv2 (u := 2) (Or.inr rfl); rw [show (2 : Int) = 2 - 0 from rfl, as_eq s v1 v2 (u := 0) ⟨by decide, by decide⟩] at g; exact g) (by decide) (by decide) rfl rfl (by simp only [List.length_cons, List.length_nil]; omega) (fun v h2 r2 n2 q => ?_)
    obtain ⟨rfl, rfl, rfl, t2, rfl, g1⟩ := q
    refine aw_iret dX3_perform_121 rfl (by decide) (by decide) ?_
    exact ⟨_, rfl, rfl, rfl, rfl, t2, rfl, g1⟩
  · refine aw_tab (tgt := 122) (off := 118) dX3_perform_4 ⟨by decide, by decide⟩ (by decide) (by decide) (by decide +kernel) (by decide) ?_
    refine aw_aload_n dX3_perform_122 rfl ?_
    refine aw_aload_n dX3_perform_123 rfl ?_
    refine aw_getv dX3_perform_124 ci6 (by decide) fX3_54 (by decide) (by decide +kernel) rfl (((putS_out _ _ _ (by have := st_lt ho; omega)).trans (pa_gk 122 _ _ 4 4 rfl)).trans e4) ?_
    refine aw_aload_n dX3_perform_127 rfl ?_
    refine aw_getv dX3_perform_128 ci6 (by decide) fX3_57 (by decide) (by decide +kernel) rfl (((putS_out _ _ _ (by have := st_lt ho; omega)).trans (pa_gk 122 _ _ 5 5 rfl)).trans e5) ?_
    refine aw_iconst dX3_perform_131 ?_
    refine aw_V3i dX3_perform_132 clX3_60 ⟨by decide, by decide⟩ (c := 4) (N := 11) (by have := st_lt ho; omega) (st_sh0 ho) rfl (by have g := c_X4_askFor (E := E) (hi := pa 122 X f) ho hHR hR hv1 hv2 (u := 1) (Or.inl rfl); rw [show asG s v1 v2 1 = asF s v1 v2 1 from as_eq s v1 v2 (u := 1) ⟨by decide, by decide⟩] at g; exact g) (by decide) (by decide) rfl rfl (by simp only [List.length_cons, List.length_nil]; omega) (fun v h2 r2 n2 q => ?_)
    obtain ⟨rfl, rfl, rfl, t2, rfl, g1⟩ := q
    refine aw_iret dX3_perform_135 rfl (by decide) (by decide) ?_
    exact ⟨_, rfl, rfl, rfl, rfl, t2, rfl, g1⟩
  · refine aw_tab (tgt := 136) (off := 132) dX3_perform_4 ⟨by decide, by decide⟩ (by decide) (by decide) (by decide +kernel) (by decide) ?_
    refine aw_aload_n dX3_perform_136 rfl ?_
    refine aw_aload_n dX3_perform_137 rfl ?_
    refine aw_getv dX3_perform_138 ci6 (by decide) fX3_54 (by decide) (by decide +kernel) rfl (((putS_out _ _ _ (by have := st_lt ho; omega)).trans (pa_gk 122 _ _ 4 4 rfl)).trans e4) ?_
    refine aw_V1i dX3_perform_141 clX3_66 ⟨by decide, by decide⟩ (c := 4) (N := 11) (by have := st_lt ho; omega) (st_sh0 ho) rfl (c_X4_letTicks ho hHR hEN hX hR hO.L hv1) (by decide) (by decide) rfl rfl (by simp only [List.length_cons, List.length_nil]; omega) (fun v h2 r2 n2 q => ?_)
    obtain ⟨rfl, rfl, rfl, t2, rfl, g1⟩ := q
    refine aw_iret dX3_perform_144 rfl (by decide) (by decide) ?_
    exact ⟨_, rfl, rfl, rfl, rfl, t2, rfl, g1⟩
  · refine aw_tab (tgt := 145) (off := 141) dX3_perform_4 ⟨by decide, by decide⟩ (by decide) (by decide) (by decide +kernel) (by decide) ?_
    refine aw_aload_n dX3_perform_145 rfl ?_
    refine aw_V0i dX3_perform_146 clX3_70 ⟨by decide, by decide⟩ (c := 4) (N := 11) (by have := st_lt ho; omega) (st_sh0 ho) rfl (c_X4_cutPower ho hHR hR) (by decide) (by decide) rfl rfl (by simp only [List.length_cons, List.length_nil]; omega) (fun v h2 r2 n2 q => ?_)
    obtain ⟨rfl, rfl, rfl, t2, rfl, g1⟩ := q
    refine aw_iret dX3_perform_149 rfl (by decide) (by decide) ?_
    exact ⟨_, rfl, rfl, rfl, rfl, t2, rfl, g1⟩
  · refine aw_tab (tgt := 150) (off := 146) dX3_perform_4 ⟨by decide, by decide⟩ (by decide) (by decide) (by decide +kernel) (by decide) ?_
    refine aw_aload_n dX3_perform_150 rfl ?_
    refine aw_V0i dX3_perform_151 clX3_74 ⟨by decide, by decide⟩ (c := 4) (N := 11) (by have := st_lt ho; omega) (st_sh0 ho) rfl (c_X4_restorePower ho hHR hR) (by decide) (by decide) rfl rfl (by simp only [List.length_cons, List.length_nil]; omega) (fun v h2 r2 n2 q => ?_)
    obtain ⟨rfl, rfl, rfl, t2, rfl, g1⟩ := q
    refine aw_iret dX3_perform_154 rfl (by decide) (by decide) ?_
    exact ⟨_, rfl, rfl, rfl, rfl, t2, rfl, g1⟩
  · refine aw_tab (tgt := 155) (off := 151) dX3_perform_4 ⟨by decide, by decide⟩ (by decide) (by decide) (by decide +kernel) (by decide) ?_
    refine aw_aload_n dX3_perform_155 rfl ?_
    refine aw_V0i dX3_perform_156 clX3_77 ⟨by decide, by decide⟩ (c := 4) (N := 11) (by have := st_lt ho; omega) (st_sh0 ho) rfl (c_X4_turnToOther ho hHR hR) (by decide) (by decide) rfl rfl (by simp only [List.length_cons, List.length_nil]; omega) (fun v h2 r2 n2 q => ?_)
    obtain ⟨rfl, rfl, rfl, t2, rfl, g1⟩ := q
    refine aw_iret dX3_perform_159 rfl (by decide) (by decide) ?_
    exact ⟨_, rfl, rfl, rfl, rfl, t2, rfl, g1⟩
  · refine aw_tab (tgt := 160) (off := 156) dX3_perform_4 ⟨by decide, by decide⟩ (by decide) (by decide) (by decide +kernel) (by decide) ?_
    refine aw_aload_n dX3_perform_160 rfl ?_
    refine aw_aload_n dX3_perform_161 rfl ?_
    refine aw_getv dX3_perform_162 ci6 (by decide) fX3_54 (by decide) (by decide +kernel) rfl (((putS_out _ _ _ (by have := st_lt ho; omega)).trans (pa_gk 122 _ _ 4 4 rfl)).trans e4) ?_
    refine aw_V1i dX3_perform_165 clX3_80 ⟨by decide, by decide⟩ (c := 4) (N := 11) (by have := st_lt ho; omega) (st_sh0 ho) rfl (c_X4_cleanBlock ho hHR hR hv1) (by decide) (by decide) rfl rfl (by simp only [List.length_cons, List.length_nil]; omega) (fun v h2 r2 n2 q => ?_)
    obtain ⟨rfl, rfl, rfl, t2, rfl, g1⟩ := q
    refine aw_iret dX3_perform_168 rfl (by decide) (by decide) ?_
    exact ⟨_, rfl, rfl, rfl, rfl, t2, rfl, g1⟩
  · refine aw_tab (tgt := 169) (off := 165) dX3_perform_4 ⟨by decide, by decide⟩ (by decide) (by decide) (by decide +kernel) (by decide) ?_
    refine aw_aload_n dX3_perform_169 rfl ?_
    refine aw_aload_n dX3_perform_170 rfl ?_
    refine aw_getv dX3_perform_171 ci6 (by decide) fX3_54 (by decide) (by decide +kernel) rfl (((putS_out _ _ _ (by have := st_lt ho; omega)).trans (pa_gk 122 _ _ 4 4 rfl)).trans e4) ?_
    refine aw_V1i dX3_perform_174 clX3_83 ⟨by decide, by decide⟩ (c := 4) (N := 11) (by have := st_lt ho; omega) (st_sh0 ho) rfl (c_X4_eraseBlock ho hHR hR hO hn hv1) (by decide) (by decide) rfl rfl (by simp only [List.length_cons, List.length_nil]; omega) (fun v h2 r2 n2 q => ?_)
    obtain ⟨rfl, rfl, rfl, t2, rfl, g1⟩ := q
    refine aw_iret dX3_perform_177 rfl (by decide) (by decide) ?_
    exact ⟨_, rfl, rfl, rfl, rfl, t2, rfl, g1⟩
set_option maxRecDepth 100000 in
set_option maxHeartbeats 4000000 in
theorem c_X3_tellFault (hHR : HRk hr) {a b : Int} : AMet E M_X3_tellFault [aR 124, aI a, aI b] (pa 124 X w) hr 125 (EX none (pa 124 X (up1 (up1 (up1 w 1 1) 3 a) 4 b)) hr 125) := by
  refine am_of (by decide +kernel) (Nat.le_of_ble_eq_true rfl) ?_
  refine aw_aload_n dX3_tellFault_0 rfl ?_
  refine aw_iconst dX3_tellFault_1 ?_
  refine aw_putv dX3_tellFault_2 ci3 (by decide) fX3_15 (by decide) (by decide +kernel) rfl rfl (Or.inr ⟨rfl, Or.inr rfl⟩) (pa_uk 124 _ _ 1 1 _ rfl) ?_
  refine aw_aload_n dX3_tellFault_5 rfl ?_
  refine aw_iload_n dX3_tellFault_6 rfl ?_
  refine aw_putv dX3_tellFault_7 ci3 (by decide) fX3_45 (by decide) (by decide +kernel) rfl rfl (Or.inl rfl) (pa_uk 124 _ _ 3 3 _ rfl) ?_
  refine aw_aload_n dX3_tellFault_10 rfl ?_
  refine aw_iload_n dX3_tellFault_11 rfl ?_
  refine aw_putv dX3_tellFault_12 ci3 (by decide) fX3_48 (by decide) (by decide +kernel) rfl rfl (Or.inl rfl) (pa_uk 124 _ _ 4 4 _ rfl) ?_
  refine aw_vret dX3_tellFault_15 rfl (by decide) (by decide) ?_
  exact EX.rf
set_option maxRecDepth 100000 in
set_option maxHeartbeats 4000000 in
theorem c_X3_hasFault (hHR : HRk hr) (hb : hi 124 1 = 0 ∨ hi 124 1 = 1) : AMet E M_X3_hasFault [aR 124] hi hr 125 (EX (some (aI (hi 124 1))) hi hr 125) := by
  refine am_of (by decide +kernel) (Nat.le_of_ble_eq_true rfl) ?_
  refine aw_aload_n dX3_hasFault_0 rfl ?_
  refine aw_getv dX3_hasFault_1 ci3 (by decide) fX3_15 (by decide) (by decide +kernel) rfl rfl ?_
  refine aw_zret dX3_hasFault_4 rfl hb (by decide) (by decide) ?_
  exact EX.rf
set_option maxRecDepth 100000 in
set_option maxHeartbeats 4000000 in
theorem c_X3_commandsDone (hHR : HRk hr) : AMet E M_X3_commandsDone [aR 124] hi hr 125 (EX (some (aI (hi 124 0))) hi hr 125) := by
  refine am_of (by decide +kernel) (Nat.le_of_ble_eq_true rfl) ?_
  refine aw_aload_n dX3_commandsDone_0 rfl ?_
  refine aw_getv dX3_commandsDone_1 ci3 (by decide) fX3_9 (by decide) (by decide +kernel) rfl rfl ?_
  refine aw_iret dX3_commandsDone_4 rfl (by decide) (by decide) ?_
  exact EX.rf
set_option maxRecDepth 100000 in
set_option maxHeartbeats 4000000 in
theorem c_X3_faultFact (hHR : HRk hr) (hb : hi 124 1 = 0 ∨ hi 124 1 = 1) {x : Int} (hx : InR x) : AMet E M_X3_faultFact [aR 124, aI x] hi hr 125 (EX (some (aI (if hi 124 1 = 0 then -4 else if x = 0 then hi 124 2 else if x = 1 then hi 124 3 else hi 124 4))) hi hr 125) := by
  refine am_of (by decide +kernel) (Nat.le_of_ble_eq_true rfl) ?_
  refine aw_aload_n dX3_faultFact_0 rfl ?_
  refine aw_getv dX3_faultFact_1 ci3 (by decide) fX3_15 (by decide) (by decide +kernel) rfl rfl ?_
  refine aw_if_ne (tgt := 10) dX3_faultFact_4 (by decide) ⟨by omega, by omega⟩ (fun h4 => ?_) (fun h4 => ?_)
  · refine aw_iload_n dX3_faultFact_10 rfl ?_
    refine aw_if_ne (tgt := 19) dX3_faultFact_11 (by decide) hx (fun h11 => ?_) (fun h11 => ?_)
    · refine aw_iload_n dX3_faultFact_19 rfl ?_
      refine aw_iconst dX3_faultFact_20 ?_
      refine aw_ic_ne (tgt := 31) dX3_faultFact_21 (by decide) hx ⟨by decide, by decide⟩ (fun h21 => ?_) (fun h21 => ?_)
      · refine aw_aload_n dX3_faultFact_31 rfl ?_
        refine aw_getv dX3_faultFact_32 ci3 (by decide) fX3_48 (by decide) (by decide +kernel) rfl rfl ?_
        refine aw_iret dX3_faultFact_35 rfl (by decide) (by decide) ?_
        exact exI (by rw [if_neg (by omega), if_neg (by omega), if_neg (by omega)])
      · refine aw_aload_n dX3_faultFact_24 rfl ?_
        refine aw_getv dX3_faultFact_25 ci3 (by decide) fX3_45 (by decide) (by decide +kernel) rfl rfl ?_
        refine aw_goto (tgt := 35) dX3_faultFact_28 (by decide) ?_
        refine aw_iret dX3_faultFact_35 rfl (by decide) (by decide) ?_
        exact exI (by rw [if_neg (by omega), if_neg (by omega), if_pos (by omega)])
    · refine aw_aload_n dX3_faultFact_14 rfl ?_
      refine aw_getv dX3_faultFact_15 ci3 (by decide) fX3_31 (by decide) (by decide +kernel) rfl rfl ?_
      refine aw_iret dX3_faultFact_18 rfl (by decide) (by decide) ?_
      exact exI (by rw [if_neg (by omega), if_pos (by omega)])
  · refine aw_bipush dX3_faultFact_7 (by decide) ?_
    refine aw_iret dX3_faultFact_9 rfl (by decide) (by decide) ?_
    exact exI (by rw [if_pos (by omega)])
set_option maxRecDepth 100000 in
set_option maxHeartbeats 4000000 in
theorem c_X3_run (hHR : HRk hr) (hEN : EN E) (hX : XH Y) (hR : RlT t s) {n len t0 m0 : Int} (hO : OKS s n) (hn : n + 61 ≤ 100000) (hG : ∀ j : Nat, (j : Int) < len → Y 123 j = G (j : Int)) (hT : TX G len) (e1 : f 1 = len) : AMet E M_X3_run [aR 124, aR 122, aR 18] (H3 Y w f t) hr 125 (PV (fun h r2 n2 => r2 = hr ∧ n2 = 125 ∧ ∃ (w2 f2 : Int → Int) (t2 : TS), h = H3 Y w2 f2 t2 ∧ f2 1 = len ∧ RES w2 t2 (dorF G len s t0 m0))) := by
  refine am_of (by decide +kernel) (Nat.le_of_ble_eq_true rfl) ?_
  have loop : ∀ (k idx : Nat) (s w f : Int → Int) (t : TS) (n t0 m0 : Int) (l4 : Option AV), OKS s n → n + k ≤ 100000 → RlT t s → f 1 = len → (idx : Int) ≤ f 2 → 0 ≤ f 2 → f 2 ≤ 1000 → 61 ≤ f 2 + k → w 1 = 0 → AW E M_X3_run 0 0 16 [some (aR 124), some (aR 122), some (aR 18), some (aI (idx : Int)), l4] [] (H3 Y w f t) hr 125 (PV (fun h r2 n2 => r2 = hr ∧ n2 = 125 ∧ ∃ (w2 f2 : Int → Int) (t2 : TS), h = H3 Y w2 f2 t2 ∧ f2 1 = f 1 ∧ RES w2 t2 (doA G (f 1) k s (f 2) (w 0) t0 m0))) := by
    intro k
    induction k with
    | zero =>
      intro idx s w f t n t0 m0 l4 hO hn hR e1 hidx h0 h9 hk hw1
      have hl0 := hT.1
      have hl1 := hT.2.1
      by_cases i60 : idx < 60
      · skip
        refine aw_iload_n dX3_run_16 rfl ?_
        refine aw_bipush dX3_run_17 (by decide) ?_
        refine aw_ic_ge (tgt := 88) dX3_run_19 (by decide) ⟨by omega, by omega⟩ ⟨by decide, by decide⟩ (fun h19 => ?_) (fun h19 => ?_)
        · exact absurd h19 (by omega)
        · refine aw_aload_n dX3_run_22 rfl ?_
          refine aw_V0x dX3_run_23 clX3_24 ⟨by decide, by decide⟩ (c := 6) (N := 6) (by decide) (by decide +kernel) rfl (by have g := c_X6_hasMore (E := E) (X := putS 18 (pa 124 Y w) t) (f := f) hHR ⟨by omega, by omega⟩ ⟨by omega, by omega⟩; rw [← h3_122] at g; exact g) (by decide) (by decide) rfl rfl (by simp only [List.length_cons, List.length_nil]; omega) ?_
          refine aw_if_eq (tgt := 88) dX3_run_26 (by decide) in_r (fun h26 => ?_) (fun h26 => ?_)
          · refine aw_vret dX3_run_88 rfl (by decide) (by decide) ?_
            rw [in0] at h26
            have er : (doA G (f 1) 0 s (f 2) (w 0) t0 m0) = (-1, s, f 2, w 0, t0, m0) := rfl
            rw [er]
            exact ⟨rfl, rfl, rfl, w, f, t, rfl, rfl, Or.inl ⟨show (-1 : Int) < 0 by decide, hw1, rfl, hR⟩⟩
          · exact absurd (in0.mpr (show ¬ f 2 < f 1 by omega)) h26
      · skip
        refine aw_iload_n dX3_run_16 rfl ?_
        refine aw_bipush dX3_run_17 (by decide) ?_
        refine aw_ic_ge (tgt := 88) dX3_run_19 (by decide) ⟨by omega, by omega⟩ ⟨by decide, by decide⟩ (fun h19 => ?_) (fun h19 => ?_)
        · refine aw_vret dX3_run_88 rfl (by decide) (by decide) ?_
          exact ⟨rfl, rfl, rfl, w, f, t, rfl, rfl, Or.inl ⟨show (-1 : Int) < 0 by decide, hw1, rfl, hR⟩⟩
        · exact absurd h19 (by omega)
    | succ k ih =>
      intro idx s w f t n t0 m0 l4 hO hn hR e1 hidx h0 h9 hk hw1
      have hl0 := hT.1
      have hl1 := hT.2.1
      have hC1 := c1_b (G := G) (len := f 1) h0
      have hC2 := c2_b (G := G) (len := f 1) h0
      have hX1 : XH (pa 124 Y w) := hX.of (fun a ha k => pa_gn _ _ _ (by omega))
      by_cases c : f 2 < f 1
      · skip
        refine aw_iload_n dX3_run_16 rfl ?_
        refine aw_bipush dX3_run_17 (by decide) ?_
        refine aw_ic_ge (tgt := 88) dX3_run_19 (by decide) ⟨by omega, by omega⟩ ⟨by decide, by decide⟩ (fun h19 => ?_) (fun h19 => ?_)
        · exact absurd h19 (by omega)
        · refine aw_aload_n dX3_run_22 rfl ?_
          refine aw_V0x dX3_run_23 clX3_24 ⟨by decide, by decide⟩ (c := 6) (N := 6) (by decide) (by decide +kernel) rfl (by have g := c_X6_hasMore (E := E) (X := putS 18 (pa 124 Y w) t) (f := f) hHR ⟨by omega, by omega⟩ ⟨by omega, by omega⟩; rw [← h3_122] at g; exact g) (by decide) (by decide) rfl rfl (by simp only [List.length_cons, List.length_nil]; omega) ?_
          refine aw_if_eq (tgt := 88) dX3_run_26 (by decide) in_r (fun h26 => ?_) (fun h26 => ?_)
          · exact absurd h26 (fun g => in0.mp g c)
          · refine aw_aload_n dX3_run_29 rfl ?_
            refine aw_aload_n dX3_run_30 rfl ?_
            refine aw_getv dX3_run_31 ci6 (by decide) fX3_28 (by decide) (by decide +kernel) rfl (h3_g2 _ _ _ _ 2 2 rfl) ?_
            refine aw_putv dX3_run_34 ci3 (by decide) fX3_31 (by decide) (by decide +kernel) rfl rfl (Or.inl rfl) (h3_u4 _ _ _ _ 2 2 _ rfl) ?_
            refine aw_aload_n dX3_run_37 rfl ?_
            refine aw_V0i dX3_run_38 clX3_34 ⟨by decide, by decide⟩ (c := 6) (N := 6) (by decide) (by decide +kernel) rfl (by have g := c_X6_readCommand (E := E) (X := putS 18 (pa 124 Y (up1 w 2 (f 2))) t) (f := f) (G := G) hHR (fun j hj => by rw [putS_out _ _ _ (by decide), pa_gn _ _ _ (by decide)]; exact hG j (by omega)) (by rw [e1]; exact hT) h0 (by omega) c; rw [← h3_122] at g; exact g) (by decide) (by decide) rfl rfl (by simp only [List.length_cons, List.length_nil]; omega) (fun vb h2 r2 n2 q => ?_)
            obtain ⟨rfl, rfl, hvb, fb, rfl, fb1, fb2⟩ := q
            rw [← h3_122]
            have hcb := cmd_b G (f 1) (f 2)
            refine aw_if_ne (tgt := 52) dX3_run_41 (by decide) ⟨by omega, by omega⟩ (fun h41 => ?_) (fun h41 => ?_)
            · have ev : cmd G (f 1) (f 2) = 1 := by omega
              obtain ⟨f2', f3, f4, f5⟩ := fb2 (by omega)
              have hX2 : XH (pa 122 (pa 124 Y (up1 w 2 (f 2))) fb) := (hX.of (h1 := Y) (h2 := pa 124 Y (up1 w 2 (f 2))) (fun a ha k => pa_gn _ _ _ (by omega))).of (fun a ha k => pa_gn _ _ _ (by omega))
              have hOc := hO.ca (by omega) (hrF G (f 1) (f 2)) (c1F G (f 1) (f 2)).2.1 (c2F G (f 1) (f 2)).2.1
              have hrc := r_ca hO (hrF G (f 1) (f 2)) (c1F G (f 1) (f 2)).2.1 (c2F G (f 1) (f 2)).2.1
              have hcm := (cma_b (G := G) (len := f 1) h0).2
              refine aw_aload_n dX3_run_52 rfl ?_
              refine aw_aload_n dX3_run_53 rfl ?_
              refine aw_S2i dX3_run_54 clX3_41 ⟨by decide, by decide⟩ (c_X3_perform (X := pa 124 Y (up1 w 2 (f 2))) (f := fb) st18 hHR hEN hX2 hR hO (by omega) f3 f4 f5 (kf_x (cmd_kf ev)) ⟨by omega, by omega⟩ ⟨by omega, by omega⟩) (by decide) (by decide) rfl rfl (by simp only [List.length_cons, List.length_nil]; omega) (fun v h2 r2 n2 q => ?_)
              obtain ⟨rfl, rfl, rfl, t2, rfl, g1⟩ := q
              refine aw_istore (ls2 := [_, _, _, _, _]) dX3_run_57 (by decide) rfl ?_
              refine aw_iload dX3_run_59 rfl ?_
              refine aw_if_ge (tgt := 72) dX3_run_61 (by decide) hrc (fun h61 => ?_) (fun h61 => ?_)
              · refine aw_aload_n dX3_run_72 rfl ?_
                refine aw_dup dX3_run_73 ?_
                refine aw_getv dX3_run_74 ci3 (by decide) fX3_9 (by decide) (by decide +kernel) rfl ((h3_g4 _ _ _ _ 0 0 rfl).trans (up1_n _ _ (by decide))) ?_
                refine aw_iconst dX3_run_77 ?_
                refine aw_iadd dX3_run_78 ?_
                refine aw_putv dX3_run_79 ci3 (by decide) fX3_9 (by decide) (by decide +kernel) rfl rfl (Or.inl rfl) (h3_u4 _ _ _ _ 0 0 _ rfl) ?_
                refine aw_iinc (ls2 := [_, _, _, _, _]) dX3_run_82 rfl (by decide) rfl ?_
                refine aw_goto (tgt := 16) dX3_run_85 (by decide) ?_
                have er : (doA G (f 1) (k + 1) s (f 2) (w 0) t0 m0) = doA G (f 1) k (caF s (hrF G (f 1) (f 2)) (c1F G (f 1) (f 2)).2.1 (c2F G (f 1) (f 2)).2.1).2 (cma G (f 1) (f 2)) (w 0 + 1) (caF s (hrF G (f 1) (f 2)) (c1F G (f 1) (f 2)).2.1 (c2F G (f 1) (f 2)).2.1).1 1 := by rw [doA_s, if_neg (by omega), if_neg (by omega), if_neg (by omega)]
                rw [er]
                have c1 := hcm.2 ev
                have g := ih (idx + 1) (caF s (hrF G (f 1) (f 2)) (c1F G (f 1) (f 2)).2.1 (c2F G (f 1) (f 2)).2.1).2 (up1 (up1 w 2 (f 2)) 0 (w 0 + 1)) fb t2 (n + 1) (caF s (hrF G (f 1) (f 2)) (c1F G (f 1) (f 2)).2.1 (c2F G (f 1) (f 2)).2.1).1 1 (some (aI (caF s (hrF G (f 1) (f 2)) (c1F G (f 1) (f 2)).2.1 (c2F G (f 1) (f 2)).2.1).1)) hOc (by omega) g1 (fb1.trans e1) (by omega) (by omega) (by omega) (by omega) (by rw [up1_n _ _ (by decide), up1_n _ _ (by decide)]; exact hw1)
                rw [fb1, f2', up1_s] at g
                exact g
              · refine aw_aload_n dX3_run_64 rfl ?_
                refine aw_iconst dX3_run_65 ?_
                refine aw_iload dX3_run_66 rfl ?_
                refine aw_V2v dX3_run_68 clX3_37 ⟨by decide, by decide⟩ (c := 3) (N := 5) (by decide) (by decide +kernel) rfl (by have g := c_X3_tellFault (E := E) (X := putS 18 (pa 122 Y fb) t2) (w := up1 w 2 (f 2)) hHR (a := 2) (b := (caF s (hrF G (f 1) (f 2)) (c1F G (f 1) (f 2)).2.1 (c2F G (f 1) (f 2)).2.1).1); rw [← h3_124, ← h3_124] at g; exact g) (by decide) (by decide) rfl rfl (by simp only [List.length_cons, List.length_nil]; omega) ?_
                refine aw_vret dX3_run_71 rfl (by decide) (by decide) ?_
                have er : (doA G (f 1) (k + 1) s (f 2) (w 0) t0 m0) = (f 2, (caF s (hrF G (f 1) (f 2)) (c1F G (f 1) (f 2)).2.1 (c2F G (f 1) (f 2)).2.1).2, cma G (f 1) (f 2), w 0, (caF s (hrF G (f 1) (f 2)) (c1F G (f 1) (f 2)).2.1 (c2F G (f 1) (f 2)).2.1).1, 1) := by rw [doA_s, if_neg (by omega), if_neg (by omega), if_pos (by omega)]
                rw [er]
                exact ⟨rfl, rfl, rfl, _, fb, t2, rfl, fb1, Or.inr ⟨h0, by rw [up1_n _ _ (by decide), up1_n _ _ (by decide), up1_s], by rw [up1_n _ _ (by decide), up1_n _ _ (by decide), up1_n _ _ (by decide), up1_s], by rw [up1_n _ _ (by decide), up1_s]; rfl, by rw [up1_s]; rfl⟩⟩
            · refine aw_aload_n dX3_run_44 rfl ?_
              refine aw_iconst dX3_run_45 ?_
              refine aw_bipush dX3_run_46 (by decide) ?_
              refine aw_V2v dX3_run_48 clX3_37 ⟨by decide, by decide⟩ (c := 3) (N := 5) (by decide) (by decide +kernel) rfl (by have g := c_X3_tellFault (E := E) (X := putS 18 (pa 122 Y fb) t) (w := up1 w 2 (f 2)) hHR (a := 1) (b := -4); rw [← h3_124, ← h3_124] at g; exact g) (by decide) (by decide) rfl rfl (by simp only [List.length_cons, List.length_nil]; omega) ?_
              refine aw_vret dX3_run_51 rfl (by decide) (by decide) ?_
              have ec : cmd G (f 1) (f 2) = 0 := by omega
              have er : (doA G (f 1) (k + 1) s (f 2) (w 0) t0 m0) = (f 2, s, cma G (f 1) (f 2), w 0, 0, 0) := by rw [doA_s, if_neg (by omega), if_pos ec]
              rw [er]
              exact ⟨rfl, rfl, rfl, _, fb, t, rfl, fb1, Or.inr ⟨h0, by rw [up1_n _ _ (by decide), up1_n _ _ (by decide), up1_s], by rw [up1_n _ _ (by decide), up1_n _ _ (by decide), up1_n _ _ (by decide), up1_s], by rw [up1_n _ _ (by decide), up1_s]; rfl, by rw [up1_s]; rfl⟩⟩
      · have er : (doA G (f 1) (k + 1) s (f 2) (w 0) t0 m0) = (-1, s, f 2, w 0, t0, m0) := by rw [doA_s, if_pos (by omega)]
        rw [er]
        by_cases i60 : idx < 60
        · skip
          refine aw_iload_n dX3_run_16 rfl ?_
          refine aw_bipush dX3_run_17 (by decide) ?_
          refine aw_ic_ge (tgt := 88) dX3_run_19 (by decide) ⟨by omega, by omega⟩ ⟨by decide, by decide⟩ (fun h19 => ?_) (fun h19 => ?_)
          · exact absurd h19 (by omega)
          · refine aw_aload_n dX3_run_22 rfl ?_
            refine aw_V0x dX3_run_23 clX3_24 ⟨by decide, by decide⟩ (c := 6) (N := 6) (by decide) (by decide +kernel) rfl (by have g := c_X6_hasMore (E := E) (X := putS 18 (pa 124 Y w) t) (f := f) hHR ⟨by omega, by omega⟩ ⟨by omega, by omega⟩; rw [← h3_122] at g; exact g) (by decide) (by decide) rfl rfl (by simp only [List.length_cons, List.length_nil]; omega) ?_
            refine aw_if_eq (tgt := 88) dX3_run_26 (by decide) in_r (fun h26 => ?_) (fun h26 => ?_)
            · refine aw_vret dX3_run_88 rfl (by decide) (by decide) ?_
              exact ⟨rfl, rfl, rfl, w, f, t, rfl, rfl, Or.inl ⟨show (-1 : Int) < 0 by decide, hw1, rfl, hR⟩⟩
            · exact absurd (in0.mpr c) h26
        · skip
          refine aw_iload_n dX3_run_16 rfl ?_
          refine aw_bipush dX3_run_17 (by decide) ?_
          refine aw_ic_ge (tgt := 88) dX3_run_19 (by decide) ⟨by omega, by omega⟩ ⟨by decide, by decide⟩ (fun h19 => ?_) (fun h19 => ?_)
          · refine aw_vret dX3_run_88 rfl (by decide) (by decide) ?_
            exact ⟨rfl, rfl, rfl, w, f, t, rfl, rfl, Or.inl ⟨show (-1 : Int) < 0 by decide, hw1, rfl, hR⟩⟩
          · exact absurd h19 (by omega)
  refine aw_aload_n dX3_run_0 rfl ?_
  refine aw_iconst dX3_run_1 ?_
  refine aw_putv dX3_run_2 ci3 (by decide) fX3_9 (by decide) (by decide +kernel) rfl rfl (Or.inl rfl) (h3_u4 _ _ _ _ 0 0 _ rfl) ?_
  refine aw_aload_n dX3_run_5 rfl ?_
  refine aw_iconst dX3_run_6 ?_
  refine aw_putv dX3_run_7 ci3 (by decide) fX3_15 (by decide) (by decide +kernel) rfl rfl (Or.inr ⟨rfl, Or.inl rfl⟩) (h3_u4 _ _ _ _ 1 1 _ rfl) ?_
  refine aw_aload_n dX3_run_10 rfl ?_
  refine aw_V0v dX3_run_11 clX3_19 ⟨by decide, by decide⟩ (c := 6) (N := 6) (by decide) (by decide +kernel) rfl (by have g := c_X6_rewind (E := E) (X := putS 18 (pa 124 Y (up1 (up1 w 0 0) 1 0)) t) (f := f) hHR; rw [← h3_122, ← h3_122] at g; exact g) (by decide) (by decide) rfl rfl (by simp only [List.length_cons, List.length_nil]; omega) ?_
  refine aw_iconst dX3_run_14 ?_
  refine aw_istore_n (ls2 := [_, _, _, _, _]) dX3_run_15 (by decide) rfl ?_
  have g := loop 61 0 s (up1 (up1 w 0 0) 1 0) (up1 f 2 0) t n t0 m0 none hO (by omega) hR (by rw [up1_n _ _ (by decide)]; exact e1) (by rw [up1_s]; decide) (by rw [up1_s]; decide) (by rw [up1_s]; decide) (by rw [up1_s]; decide) (up1_s _ _ _)
  rw [up1_s, up1_n f _ (show (1 : Int) ≠ 2 by decide), up1_n (up1 w 0 0) _ (show (0 : Int) ≠ 1 by decide), up1_s, e1] at g
  exact g
end SCRIPT
