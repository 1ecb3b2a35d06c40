/-! the twin's changes -/
section TWIN6
variable {E : ET} {hi X : HI} {hr : HR} {f p b s : Int → Int}
set_option maxRecDepth 100000 in
set_option maxHeartbeats 4000000 in
theorem c_X9_begins (hHR : HRk hr) : AMet E M_X9_begins [aR 125] (mh X f p b s) hr 131 (EX none (mh X f p (bgnA s b 256) s) hr 131) := by
  refine am_of (by decide +kernel) (Nat.le_of_ble_eq_true rfl) ?_
  have loop : ∀ (d k : Nat), k + d = 256 → AW E M_X9_begins 0 0 2 [some (aR 125), some (aI (k : Int))] [] (mh X f p (bgnA s b k) s) hr 131 (EX none (mh X f p (bgnA s b 256) s) hr 131) := by
    intro d
    induction d with
    | zero =>
      intro k hk
      have hk' : k = 256 := by omega
      subst hk'
      refine aw_iload_n dX9_begins_2 rfl ?_
      refine aw_sipush dX9_begins_3 (by decide) ?_
      refine aw_ic_ge (tgt := 27) dX9_begins_6 (by decide) ⟨by decide, by decide⟩ ⟨by decide, by decide⟩ (fun h6 => ?_) (fun h6 => ?_)
      · refine aw_vret dX9_begins_27 rfl (by decide) (by decide) ?_
        exact EX.rf
      · exact absurd h6 (by decide)
    | succ d ih =>
      intro k hk
      refine aw_iload_n dX9_begins_2 rfl ?_
      refine aw_sipush dX9_begins_3 (by decide) ?_
      refine aw_ic_ge (tgt := 27) dX9_begins_6 (by decide) ⟨by omega, by omega⟩ ⟨by decide, by decide⟩ (fun h6 => ?_) (fun h6 => ?_)
      · exact absurd h6 (by omega)
      · refine aw_aload_n dX9_begins_9 rfl ?_
        refine aw_getr (x := 127) dX9_begins_10 ci9 (by decide) fX9_13 (by decide) (by decide +kernel) rfl ((hHR 125 1 (by decide) (by decide +kernel)).trans rfl) ?_
        refine aw_iload_n dX9_begins_13 rfl ?_
        refine aw_aload_n dX9_begins_14 rfl ?_
        refine aw_getr (x := 126) dX9_begins_15 ci9 (by decide) fX9_7 (by decide) (by decide +kernel) rfl ((hHR 125 0 (by decide) (by decide +kernel)).trans rfl) ?_
        refine aw_iload_n dX9_begins_18 rfl ?_
        refine aw_iald (N := 256) dX9_begins_19 (Or.inl ⟨(by decide), (by decide +kernel)⟩) (by omega) (by omega) (by decide) (mh_g126 _ _ _ _ _ (by omega)) ?_
        refine aw_iast (N := 256) dX9_begins_20 (by decide) (by decide +kernel) (by omega) (by omega) (by decide) (mh_u127 _ _ _ _ _ _ _ (by omega)) ?_
        refine aw_iinc (ls2 := [_, _]) dX9_begins_21 rfl (by decide) rfl ?_
        refine aw_goto (tgt := 2) dX9_begins_24 (by decide) ?_
        exact ih (k + 1) (by omega)
  refine aw_iconst dX9_begins_0 ?_
  refine aw_istore_n (ls2 := [_, _]) dX9_begins_1 (by decide) rfl ?_
  exact loop 256 0 (by omega)
set_option maxRecDepth 100000 in
set_option maxHeartbeats 4000000 in
theorem c_X9_returns (hHR : HRk hr) : AMet E M_X9_returns [aR 125] (mh X f p b s) hr 131 (EX none (mh X f p b (bgnA b s 256)) hr 131) := by
  refine am_of (by decide +kernel) (Nat.le_of_ble_eq_true rfl) ?_
  have loop : ∀ (d k : Nat), k + d = 256 → AW E M_X9_returns 0 0 2 [some (aR 125), some (aI (k : Int))] [] (mh X f p b (bgnA b s k)) hr 131 (EX none (mh X f p b (bgnA b s 256)) hr 131) := by
    intro d
    induction d with
    | zero =>
      intro k hk
      have hk' : k = 256 := by omega
      subst hk'
      refine aw_iload_n dX9_returns_2 rfl ?_
      refine aw_sipush dX9_returns_3 (by decide) ?_
      refine aw_ic_ge (tgt := 27) dX9_returns_6 (by decide) ⟨by decide, by decide⟩ ⟨by decide, by decide⟩ (fun h6 => ?_) (fun h6 => ?_)
      · refine aw_vret dX9_returns_27 rfl (by decide) (by decide) ?_
        exact EX.rf
      · exact absurd h6 (by decide)
    | succ d ih =>
      intro k hk
      refine aw_iload_n dX9_returns_2 rfl ?_
      refine aw_sipush dX9_returns_3 (by decide) ?_
      refine aw_ic_ge (tgt := 27) dX9_returns_6 (by decide) ⟨by omega, by omega⟩ ⟨by decide, by decide⟩ (fun h6 => ?_) (fun h6 => ?_)
      · exact absurd h6 (by omega)
      · refine aw_aload_n dX9_returns_9 rfl ?_
        refine aw_getr (x := 126) dX9_returns_10 ci9 (by decide) fX9_7 (by decide) (by decide +kernel) rfl ((hHR 125 0 (by decide) (by decide +kernel)).trans rfl) ?_
        refine aw_iload_n dX9_returns_13 rfl ?_
        refine aw_aload_n dX9_returns_14 rfl ?_
        refine aw_getr (x := 127) dX9_returns_15 ci9 (by decide) fX9_13 (by decide) (by decide +kernel) rfl ((hHR 125 1 (by decide) (by decide +kernel)).trans rfl) ?_
        refine aw_iload_n dX9_returns_18 rfl ?_
        refine aw_iald (N := 256) dX9_returns_19 (Or.inl ⟨(by decide), (by decide +kernel)⟩) (by omega) (by omega) (by decide) (mh_g127 _ _ _ _ _ (by omega)) ?_
        refine aw_iast (N := 256) dX9_returns_20 (by decide) (by decide +kernel) (by omega) (by omega) (by decide) (mh_u126 _ _ _ _ _ _ _ (by omega)) ?_
        refine aw_iinc (ls2 := [_, _]) dX9_returns_21 rfl (by decide) rfl ?_
        refine aw_goto (tgt := 2) dX9_returns_24 (by decide) ?_
        exact ih (k + 1) (by omega)
  refine aw_iconst dX9_returns_0 ?_
  refine aw_istore_n (ls2 := [_, _]) dX9_returns_1 (by decide) rfl ?_
  exact loop 256 0 (by omega)
set_option maxRecDepth 100000 in
set_option maxHeartbeats 4000000 in
theorem c_X9_acted {a : Int} (hHR : HRk hr) (ha : InR a) (h0 : 0 ≤ f 3) (h4 : f 3 ≤ 4) : AMet E M_X9_acted [aR 125, aI a] (mh X f p b s) hr 131 (PI (fun v h r2 n2 => v = a ∧ r2 = hr ∧ n2 = 131 ∧ ACT X f p b s a h)) := by
  refine am_of (by decide +kernel) (Nat.le_of_ble_eq_true rfl) ?_
  have loop2 : 0 ≤ a → ∀ (f1 p1 : Int → Int) (m : Int), f1 3 = m → 0 ≤ m → m ≤ 3 → (∀ p2 : Int → Int, p2 = psA p1 b (256 * m) 256 → ACT X f p b s a (mh X (up1 f1 3 (m + 1)) p2 b s)) → ∀ (d k : Nat), k + d = 256 → AW E M_X9_acted 0 0 61 [some (aR 125), some (aI a), some (aI (k : Int))] [] (mh X f1 (psA p1 b (256 * m) k) b s) hr 131 (PI (fun v h r2 n2 => v = a ∧ r2 = hr ∧ n2 = 131 ∧ ACT X f p b s a h)) := by
    intro ha f1 p1 m hf hm0 hm3 hK d
    induction d with
    | zero =>
      intro k hk
      have hk' : k = 256 := by omega
      subst hk'
      refine aw_iload_n dX9_acted_61 rfl ?_
      refine aw_sipush dX9_acted_62 (by decide) ?_
      refine aw_ic_ge (tgt := 95) dX9_acted_65 (by decide) ⟨by decide, by decide⟩ ⟨by decide, by decide⟩ (fun h65 => ?_) (fun h65 => ?_)
      · refine aw_aload_n dX9_acted_95 rfl ?_
        refine aw_dup dX9_acted_96 ?_
        refine aw_getv dX9_acted_97 ci9 (by decide) fX9_28 (by decide) (by decide +kernel) rfl (mh_f _ _ _ _ _ 3 3 rfl) ?_
        rw [hf]
        refine aw_iconst dX9_acted_100 ?_
        refine aw_iadd dX9_acted_101 ?_
        refine aw_putv dX9_acted_102 ci9 (by decide) fX9_28 (by decide) (by decide +kernel) rfl rfl (Or.inl rfl) (mh_uf _ _ _ _ _ 3 3 _ rfl) ?_
        refine aw_iload_n dX9_acted_105 rfl ?_
        refine aw_iret dX9_acted_106 rfl (by decide) (by decide) ?_
        exact ⟨_, rfl, rfl, rfl, rfl, hK _ rfl⟩
      · exact absurd h65 (by decide)
    | succ d ih =>
      intro k hk
      refine aw_iload_n dX9_acted_61 rfl ?_
      refine aw_sipush dX9_acted_62 (by decide) ?_
      refine aw_ic_ge (tgt := 95) dX9_acted_65 (by decide) ⟨by omega, by omega⟩ ⟨by decide, by decide⟩ (fun h65 => ?_) (fun h65 => ?_)
      · exact absurd h65 (by omega)
      · refine aw_aload_n dX9_acted_68 rfl ?_
        refine aw_getr (x := 128) dX9_acted_69 ci9 (by decide) fX9_16 (by decide) (by decide +kernel) rfl ((hHR 125 2 (by decide) (by decide +kernel)).trans rfl) ?_
        refine aw_sipush dX9_acted_72 (by decide) ?_
        refine aw_aload_n dX9_acted_75 rfl ?_
        refine aw_getv dX9_acted_76 ci9 (by decide) fX9_28 (by decide) (by decide +kernel) rfl (mh_f _ _ _ _ _ 3 3 rfl) ?_
        rw [hf]
        refine aw_imul dX9_acted_79 ?_
        refine aw_iload_n dX9_acted_80 rfl ?_
        refine aw_iadd dX9_acted_81 ?_
        refine aw_aload_n dX9_acted_82 rfl ?_
        refine aw_getr (x := 127) dX9_acted_83 ci9 (by decide) fX9_13 (by decide) (by decide +kernel) rfl ((hHR 125 1 (by decide) (by decide +kernel)).trans rfl) ?_
        refine aw_iload_n dX9_acted_86 rfl ?_
        refine aw_iald (N := 256) dX9_acted_87 (Or.inl ⟨(by decide), (by decide +kernel)⟩) (by omega) (by omega) (by decide) (mh_g127 _ _ _ _ _ (by omega)) ?_
        refine aw_iast (N := 1024) dX9_acted_88 (by decide) (by decide +kernel) (by omega) (by omega) (by decide) (mh_u128 _ _ _ _ _ _ _ (by omega)) ?_
        refine aw_iinc (ls2 := [_, _, _]) dX9_acted_89 rfl (by decide) rfl ?_
        refine aw_goto (tgt := 61) dX9_acted_92 (by decide) ?_
        exact ih (k + 1) (by omega)
  have loop1 : 0 ≤ a → f 3 = 4 → ∀ (d k : Nat), k + d = 768 → AW E M_X9_acted 0 0 20 [some (aR 125), some (aI a), some (aI (k : Int))] [] (mh X f (shA p k) b s) hr 131 (PI (fun v h r2 n2 => v = a ∧ r2 = hr ∧ n2 = 131 ∧ ACT X f p b s a h)) := by
    intro ha h4 d
    induction d with
    | zero =>
      intro k hk
      have hk' : k = 768 := by omega
      subst hk'
      refine aw_iload_n dX9_acted_20 rfl ?_
      refine aw_sipush dX9_acted_21 (by decide) ?_
      refine aw_ic_ge (tgt := 49) dX9_acted_24 (by decide) ⟨by decide, by decide⟩ ⟨by decide, by decide⟩ (fun h24 => ?_) (fun h24 => ?_)
      · refine aw_aload_n dX9_acted_49 rfl ?_
        refine aw_dup dX9_acted_50 ?_
        refine aw_getv dX9_acted_51 ci9 (by decide) fX9_28 (by decide) (by decide +kernel) rfl (mh_f _ _ _ _ _ 3 3 rfl) ?_
        refine aw_iconst dX9_acted_54 ?_
        refine aw_isub dX9_acted_55 ?_
        refine aw_putv dX9_acted_56 ci9 (by decide) fX9_28 (by decide) (by decide +kernel) rfl rfl (Or.inl rfl) (mh_uf _ _ _ _ _ 3 3 _ rfl) ?_
        refine aw_iconst dX9_acted_59 ?_
        refine aw_istore_n (ls2 := [_, _, _]) dX9_acted_60 (by decide) rfl ?_
        refine loop2 ha _ (shA p 768) 3 (by rw [up1_s, h4]; rfl) (by decide) (by decide) (fun p2 hp2 => Or.inr ⟨ha, _, p2, rfl, ⟨fun _ => ⟨?_, fun k h1 h2 => ?_, fun k h1 h2 => ?_⟩, fun h => by omega⟩, fun x hx => ?_⟩) 256 0 (by omega)
        · rw [up1_s]; rfl
        · rw [hp2, psA_at, if_neg (by omega), shA_at, if_pos (by omega)]
        · rw [hp2, psA_at, if_pos (by omega)]; congr 1; omega
        · rw [up1_n _ _ hx, up1_n _ _ hx]
      · exact absurd h24 (by decide)
    | succ d ih =>
      intro k hk
      refine aw_iload_n dX9_acted_20 rfl ?_
      refine aw_sipush dX9_acted_21 (by decide) ?_
      refine aw_ic_ge (tgt := 49) dX9_acted_24 (by decide) ⟨by omega, by omega⟩ ⟨by decide, by decide⟩ (fun h24 => ?_) (fun h24 => ?_)
      · exact absurd h24 (by omega)
      · refine aw_aload_n dX9_acted_27 rfl ?_
        refine aw_getr (x := 128) dX9_acted_28 ci9 (by decide) fX9_16 (by decide) (by decide +kernel) rfl ((hHR 125 2 (by decide) (by decide +kernel)).trans rfl) ?_
        refine aw_iload_n dX9_acted_31 rfl ?_
        refine aw_aload_n dX9_acted_32 rfl ?_
        refine aw_getr (x := 128) dX9_acted_33 ci9 (by decide) fX9_16 (by decide) (by decide +kernel) rfl ((hHR 125 2 (by decide) (by decide +kernel)).trans rfl) ?_
        refine aw_iload_n dX9_acted_36 rfl ?_
        refine aw_sipush dX9_acted_37 (by decide) ?_
        refine aw_iadd dX9_acted_40 ?_
        refine aw_iald (N := 1024) dX9_acted_41 (Or.inl ⟨(by decide), (by decide +kernel)⟩) (by omega) (by omega) (by decide) (mh_g128 _ _ _ _ _ (by omega)) ?_
        refine aw_iast (N := 1024) dX9_acted_42 (by decide) (by decide +kernel) (by omega) (by omega) (by decide) (mh_u128 _ _ _ _ _ _ _ (by omega)) ?_
        refine aw_iinc (ls2 := [_, _, _]) dX9_acted_43 rfl (by decide) rfl ?_
        refine aw_goto (tgt := 20) dX9_acted_46 (by decide) ?_
        exact ih (k + 1) (by omega)
  refine aw_iload_n dX9_acted_0 rfl ?_
  refine aw_if_ge (tgt := 10) dX9_acted_1 (by decide) ha (fun h1 => ?_) (fun h1 => ?_)
  · refine aw_aload_n dX9_acted_10 rfl ?_
    refine aw_getv dX9_acted_11 ci9 (by decide) fX9_28 (by decide) (by decide +kernel) rfl (mh_f _ _ _ _ _ 3 3 rfl) ?_
    refine aw_iconst dX9_acted_14 ?_
    refine aw_ic_ne (tgt := 59) dX9_acted_15 (by decide) ⟨by omega, by omega⟩ ⟨by decide, by decide⟩ (fun h15 => ?_) (fun h15 => ?_)
    · refine aw_iconst dX9_acted_59 ?_
      refine aw_istore_n (ls2 := [_, _, _]) dX9_acted_60 (by decide) rfl ?_
      refine loop2 (by omega) f p (f 3) rfl h0 (by omega) (fun p2 hp2 => Or.inr ⟨by omega, _, p2, rfl, ⟨fun h => by omega, fun _ => ⟨?_, fun k h1 h2 => ?_, fun k h1 h2 => ?_⟩⟩, fun x hx => ?_⟩) 256 0 (by omega)
      · rw [up1_s]
      · rw [hp2, psA_at, if_neg (by omega)]
      · rw [hp2, psA_at, if_pos (by omega)]; congr 1; omega
      · rw [up1_n _ _ hx]
    · refine aw_iconst dX9_acted_18 ?_
      refine aw_istore_n (ls2 := [_, _, _]) dX9_acted_19 (by decide) rfl ?_
      exact loop1 (by omega) (by omega) 768 0 (by omega)
  · refine aw_aload_n dX9_acted_4 rfl ?_
    refine aw_V0v dX9_acted_5 clX9_25 ⟨by decide, by decide⟩ (c := 9) (N := 11) (by decide) (by decide +kernel) rfl (c_X9_returns hHR) (by decide) (by decide) rfl rfl (by simp only [List.length_cons, List.length_nil]; omega) ?_
    refine aw_iload_n dX9_acted_8 rfl ?_
    refine aw_iret dX9_acted_9 rfl (by decide) (by decide) ?_
    exact ⟨_, rfl, rfl, rfl, rfl, Or.inl ⟨by omega, rfl⟩⟩
theorem r_ite {p : Prop} [Decidable p] {a b : Int × (Int → Int)} (ha : p → InR a.1) (hb : ¬ p → InR b.1) : InR (if p then a else b).1 := by
  by_cases h : p
  · rw [if_pos h]; exact ha h
  · rw [if_neg h]; exact hb h
theorem r_as {s : Int → Int} (h : MI s) (k v u : Int) : InR (asF s k v u).1 := by
  have h8 := h.2.2.1
  have h0 := h.z 11 (by unfold xc; omega)
  unfold asF
  refine r_ite (fun _ => (⟨by decide, by decide⟩ : InR (-1))) (fun _ => r_ite (fun _ => (⟨by decide, by decide⟩ : InR (-2))) (fun _ => r_ite (fun _ => (⟨by decide, by decide⟩ : InR (-3))) (fun h3 => ?_)))
  show InR (cmF s k v (2 - u) 0 11)
  rw [cmF_11 h (by omega)]
  exact ⟨by omega, by omega⟩
theorem r_of (s : Int → Int) : InR (ofF s).1 := by
  have := onA_b (lsF s) 12
  unfold ofF
  exact r_ite (fun _ => (⟨by decide, by decide⟩ : InR (-2))) (fun _ => (⟨by omega, by omega⟩ : InR (onA (lsF s) 12)))
theorem opA_11 {s : Int → Int} (h : MI s) : ∀ k : Nat, k ≤ 48 → 0 ≤ opA s k 11 ∧ opA s k 11 ≤ 8 := fun k hk => ⟨(opA_M h k hk).z 11 (by unfold xc; omega), (opA_M h k hk).2.2.1⟩
theorem r_op {s : Int → Int} (h : MI s) : InR (opF s).1 := by
  have := opA_11 h.on 48 (by omega)
  unfold opF
  generalize opA (up1 s 1 0) 48 = t at this ⊢
  exact r_ite (fun _ => (⟨by omega, by omega⟩ : InR (t 11))) (fun _ => (⟨by decide, by decide⟩ : InR (-2)))
theorem r_ch {s : Int → Int} (h : MI s) : InR (chF s).1 := by
  have := h.2.1
  unfold chF
  exact r_ite (fun _ => (⟨by decide, by decide⟩ : InR (-2))) (fun _ => (⟨by omega, by omega⟩ : InR (1 - s 2)))
theorem r_cl (s : Int → Int) (b : Int) : InR (clF s b).1 := by
  have := ctA_b s b 24
  unfold clF
  exact r_ite (fun _ => (⟨by decide, by decide⟩ : InR (-1))) (fun _ => r_ite (fun _ => (⟨by decide, by decide⟩ : InR (-2))) (fun _ => r_ite (fun _ => (⟨by decide, by decide⟩ : InR (-3))) (fun _ => (⟨by omega, by omega⟩ : InR (ctA s b 24)))))
theorem r_er {s : Int → Int} (h : MI s) (b : Int) : InR (erF s b).1 := by
  unfold erF
  refine r_ite (fun _ => (⟨by decide, by decide⟩ : InR (-1))) (fun h1 => r_ite (fun _ => (⟨by decide, by decide⟩ : InR (-2))) (fun _ => ?_))
  have hb : b = 0 ∨ b = 1 := by omega
  show InR (er1 s b (6 + b) + 1)
  rw [er1_x s hb (by omega)]
  have z := h.z (6 + b) (by unfold xc; omega)
  rcases hb with rfl | rfl
  · have z2 : s (6 + 0) ≤ 100000 := h.2.2.2.2.2.2.2.1
    exact ⟨by omega, by omega⟩
  · have z2 : s (6 + 1) ≤ 100000 := h.2.2.2.2.2.2.2.2.1
    exact ⟨by omega, by omega⟩
theorem r_sl {s : Int → Int} (h : MI s) (w t : Int) : InR (slF s w t).1 := by
  unfold slF
  exact r_ite (fun _ => h.r (12 + w) (by unfold xc; omega)) (fun _ => (⟨by decide, by decide⟩ : InR (-1)))
theorem r_se {s : Int → Int} (h : MI s) (w t : Int) : InR (seF s w t).1 := by
  unfold seF
  exact r_ite (fun _ => h.r (20 + w) (by unfold xc; omega)) (fun _ => (⟨by decide, by decide⟩ : InR (-1)))
set_option maxRecDepth 100000 in
set_option maxHeartbeats 4000000 in
theorem c_X9_write {k w u : Int} (hHR : HRk hr) (hM : MI (sg hi)) (h0 : 0 ≤ hi 125 3) (h4 : hi 125 3 ≤ 4) (hk : InR k) (hv : InR w) (hu : InR u) : AMet E M_X9_write [aR 125, aI k, aI w, aI u] hi hr 131 (PI (fun v h r2 n2 => r2 = hr ∧ n2 = 131 ∧ PUB hi (asF (sg hi) k w u) v h)) := by
  rw [← mh_self hi]
  have e5 : ∀ h, PUB hi (asF (sg hi) k w u) (asF (sg hi) k w u).1 h → PUB (mh hi (fd hi) (pst hi) (bn hi) (sg hi)) (asF (sg hi) k w u) (asF (sg hi) k w u).1 h := fun h g => by rw [mh_self]; exact g
  refine am_of (by decide +kernel) (Nat.le_of_ble_eq_true rfl) ?_
  refine aw_aload_n dX9_write_0 rfl ?_
  refine aw_V0v dX9_write_1 clX9_131 ⟨by decide, by decide⟩ (c := 9) (N := 11) (by decide) (by decide +kernel) rfl (c_X9_begins hHR) (by decide) (by decide) rfl rfl (by simp only [List.length_cons, List.length_nil]; omega) ?_
  refine aw_aload_n dX9_write_4 rfl ?_
  refine aw_aload_n dX9_write_5 rfl ?_
  refine aw_iload_n dX9_write_6 rfl ?_
  refine aw_iload_n dX9_write_7 rfl ?_
  refine aw_iload_n dX9_write_8 rfl ?_
  refine aw_V3x dX9_write_9 clX9_134 ⟨by decide, by decide⟩ (c := 9) (N := 11) (by decide) (by decide +kernel) rfl (c_X9_asks hHR hM hk hv hu) (by decide) (by decide) rfl rfl (by simp only [List.length_cons, List.length_nil]; omega) ?_
  refine aw_V1i dX9_write_12 clX9_138 ⟨by decide, by decide⟩ (c := 9) (N := 11) (by decide) (by decide +kernel) rfl (c_X9_acted hHR (r_as hM k w u) h0 h4) (by decide) (by decide) rfl rfl (by simp only [List.length_cons, List.length_nil]; omega) (fun v h2 r2 n2 q => ?_)
  obtain ⟨rfl, rfl, rfl, q⟩ := q
  have q := pub_of (hi := hi) (q := asF (sg hi) k w u) rfl (by intro a ha k; rfl) h0 rfl rfl q
  refine aw_iret dX9_write_15 rfl (by decide) (by decide) ?_
  exact ⟨_, rfl, rfl, rfl, e5 _ q⟩
set_option maxRecDepth 100000 in
set_option maxHeartbeats 4000000 in
theorem c_X9_on (hHR : HRk hr) (hM : MI (sg hi)) (h0 : 0 ≤ hi 125 3) (h4 : hi 125 3 ≤ 4) : AMet E M_X9_on [aR 125] hi hr 131 (PI (fun v h r2 n2 => r2 = hr ∧ n2 = 131 ∧ PUB hi (opF (sg hi)) v h)) := by
  rw [← mh_self hi]
  have e5 : ∀ h, PUB hi (opF (sg hi)) (opF (sg hi)).1 h → PUB (mh hi (fd hi) (pst hi) (bn hi) (sg hi)) (opF (sg hi)) (opF (sg hi)).1 h := fun h g => by rw [mh_self]; exact g
  refine am_of (by decide +kernel) (Nat.le_of_ble_eq_true rfl) ?_
  refine aw_aload_n dX9_on_0 rfl ?_
  refine aw_V0v dX9_on_1 clX9_131 ⟨by decide, by decide⟩ (c := 9) (N := 11) (by decide) (by decide +kernel) rfl (c_X9_begins hHR) (by decide) (by decide) rfl rfl (by simp only [List.length_cons, List.length_nil]; omega) ?_
  refine aw_aload_n dX9_on_4 rfl ?_
  refine aw_aload_n dX9_on_5 rfl ?_
  refine aw_V0x dX9_on_6 clX9_147 ⟨by decide, by decide⟩ (c := 9) (N := 11) (by decide) (by decide +kernel) rfl (c_X9_turnsOn hHR hM) (by decide) (by decide) rfl rfl (by simp only [List.length_cons, List.length_nil]; omega) ?_
  refine aw_V1i dX9_on_9 clX9_138 ⟨by decide, by decide⟩ (c := 9) (N := 11) (by decide) (by decide +kernel) rfl (c_X9_acted hHR (r_op hM) h0 h4) (by decide) (by decide) rfl rfl (by simp only [List.length_cons, List.length_nil]; omega) (fun v h2 r2 n2 q => ?_)
  obtain ⟨rfl, rfl, rfl, q⟩ := q
  have q := pub_of (hi := hi) (q := opF (sg hi)) rfl (by intro a ha k; rfl) h0 rfl rfl q
  refine aw_iret dX9_on_12 rfl (by decide) (by decide) ?_
  exact ⟨_, rfl, rfl, rfl, e5 _ q⟩
set_option maxRecDepth 100000 in
set_option maxHeartbeats 4000000 in
theorem c_X9_turn (hHR : HRk hr) (hM : MI (sg hi)) (h0 : 0 ≤ hi 125 3) (h4 : hi 125 3 ≤ 4) : AMet E M_X9_turn [aR 125] hi hr 131 (PI (fun v h r2 n2 => r2 = hr ∧ n2 = 131 ∧ PUB hi (chF (sg hi)) v h)) := by
  rw [← mh_self hi]
  have e5 : ∀ h, PUB hi (chF (sg hi)) (chF (sg hi)).1 h → PUB (mh hi (fd hi) (pst hi) (bn hi) (sg hi)) (chF (sg hi)) (chF (sg hi)).1 h := fun h g => by rw [mh_self]; exact g
  refine am_of (by decide +kernel) (Nat.le_of_ble_eq_true rfl) ?_
  refine aw_aload_n dX9_turn_0 rfl ?_
  refine aw_V0v dX9_turn_1 clX9_131 ⟨by decide, by decide⟩ (c := 9) (N := 11) (by decide) (by decide +kernel) rfl (c_X9_begins hHR) (by decide) (by decide) rfl rfl (by simp only [List.length_cons, List.length_nil]; omega) ?_
  refine aw_aload_n dX9_turn_4 rfl ?_
  refine aw_aload_n dX9_turn_5 rfl ?_
  refine aw_V0x dX9_turn_6 clX9_150 ⟨by decide, by decide⟩ (c := 9) (N := 11) (by decide) (by decide +kernel) rfl (c_X9_changes hHR hM) (by decide) (by decide) rfl rfl (by simp only [List.length_cons, List.length_nil]; omega) ?_
  refine aw_V1i dX9_turn_9 clX9_138 ⟨by decide, by decide⟩ (c := 9) (N := 11) (by decide) (by decide +kernel) rfl (c_X9_acted hHR (r_ch hM) h0 h4) (by decide) (by decide) rfl rfl (by simp only [List.length_cons, List.length_nil]; omega) (fun v h2 r2 n2 q => ?_)
  obtain ⟨rfl, rfl, rfl, q⟩ := q
  have q := pub_of (hi := hi) (q := chF (sg hi)) rfl (by intro a ha k; rfl) h0 rfl rfl q
  refine aw_iret dX9_turn_12 rfl (by decide) (by decide) ?_
  exact ⟨_, rfl, rfl, rfl, e5 _ q⟩
set_option maxRecDepth 100000 in
set_option maxHeartbeats 4000000 in
theorem c_X9_clean {k : Int} (hHR : HRk hr) (hM : MI (sg hi)) (h0 : 0 ≤ hi 125 3) (h4 : hi 125 3 ≤ 4) (hk : InR k) : AMet E M_X9_clean [aR 125, aI k] hi hr 131 (PI (fun v h r2 n2 => r2 = hr ∧ n2 = 131 ∧ PUB hi (clF (sg hi) k) v h)) := by
  rw [← mh_self hi]
  have e5 : ∀ h, PUB hi (clF (sg hi) k) (clF (sg hi) k).1 h → PUB (mh hi (fd hi) (pst hi) (bn hi) (sg hi)) (clF (sg hi) k) (clF (sg hi) k).1 h := fun h g => by rw [mh_self]; exact g
  refine am_of (by decide +kernel) (Nat.le_of_ble_eq_true rfl) ?_
  refine aw_aload_n dX9_clean_0 rfl ?_
  refine aw_V0v dX9_clean_1 clX9_131 ⟨by decide, by decide⟩ (c := 9) (N := 11) (by decide) (by decide +kernel) rfl (c_X9_begins hHR) (by decide) (by decide) rfl rfl (by simp only [List.length_cons, List.length_nil]; omega) ?_
  refine aw_aload_n dX9_clean_4 rfl ?_
  refine aw_aload_n dX9_clean_5 rfl ?_
  refine aw_iload_n dX9_clean_6 rfl ?_
  refine aw_V1x dX9_clean_7 clX9_153 ⟨by decide, by decide⟩ (c := 9) (N := 11) (by decide) (by decide +kernel) rfl (c_X9_cleans hHR hM hk) (by decide) (by decide) rfl rfl (by simp only [List.length_cons, List.length_nil]; omega) ?_
  refine aw_V1i dX9_clean_10 clX9_138 ⟨by decide, by decide⟩ (c := 9) (N := 11) (by decide) (by decide +kernel) rfl (c_X9_acted hHR (r_cl _ k) h0 h4) (by decide) (by decide) rfl rfl (by simp only [List.length_cons, List.length_nil]; omega) (fun v h2 r2 n2 q => ?_)
  obtain ⟨rfl, rfl, rfl, q⟩ := q
  have q := pub_of (hi := hi) (q := clF (sg hi) k) rfl (by intro a ha k; rfl) h0 rfl rfl q
  refine aw_iret dX9_clean_13 rfl (by decide) (by decide) ?_
  exact ⟨_, rfl, rfl, rfl, e5 _ q⟩
set_option maxRecDepth 100000 in
set_option maxHeartbeats 4000000 in
theorem c_X9_erase {k : Int} (hHR : HRk hr) (hM : MI (sg hi)) (h0 : 0 ≤ hi 125 3) (h4 : hi 125 3 ≤ 4) (hk : InR k) : AMet E M_X9_erase [aR 125, aI k] hi hr 131 (PI (fun v h r2 n2 => r2 = hr ∧ n2 = 131 ∧ PUB hi (erF (sg hi) k) v h)) := by
  rw [← mh_self hi]
  have e5 : ∀ h, PUB hi (erF (sg hi) k) (erF (sg hi) k).1 h → PUB (mh hi (fd hi) (pst hi) (bn hi) (sg hi)) (erF (sg hi) k) (erF (sg hi) k).1 h := fun h g => by rw [mh_self]; exact g
  refine am_of (by decide +kernel) (Nat.le_of_ble_eq_true rfl) ?_
  refine aw_aload_n dX9_erase_0 rfl ?_
  refine aw_V0v dX9_erase_1 clX9_131 ⟨by decide, by decide⟩ (c := 9) (N := 11) (by decide) (by decide +kernel) rfl (c_X9_begins hHR) (by decide) (by decide) rfl rfl (by simp only [List.length_cons, List.length_nil]; omega) ?_
  refine aw_aload_n dX9_erase_4 rfl ?_
  refine aw_aload_n dX9_erase_5 rfl ?_
  refine aw_iload_n dX9_erase_6 rfl ?_
  refine aw_V1x dX9_erase_7 clX9_156 ⟨by decide, by decide⟩ (c := 9) (N := 11) (by decide) (by decide +kernel) rfl (c_X9_erases hHR hM hk) (by decide) (by decide) rfl rfl (by simp only [List.length_cons, List.length_nil]; omega) ?_
  refine aw_V1i dX9_erase_10 clX9_138 ⟨by decide, by decide⟩ (c := 9) (N := 11) (by decide) (by decide +kernel) rfl (c_X9_acted hHR (r_er hM k) h0 h4) (by decide) (by decide) rfl rfl (by simp only [List.length_cons, List.length_nil]; omega) (fun v h2 r2 n2 q => ?_)
  obtain ⟨rfl, rfl, rfl, q⟩ := q
  have q := pub_of (hi := hi) (q := erF (sg hi) k) rfl (by intro a ha k; rfl) h0 rfl rfl q
  refine aw_iret dX9_erase_13 rfl (by decide) (by decide) ?_
  exact ⟨_, rfl, rfl, rfl, e5 _ q⟩
set_option maxRecDepth 100000 in
set_option maxHeartbeats 4000000 in
theorem c_X9_tick {k : Int} (hHR : HRk hr) (hM : MI (sg hi)) (h0 : 0 ≤ hi 125 3) (h4 : hi 125 3 ≤ 4) (hk : InR k) (hr3 : InR (ltF (sg hi) k).1) : AMet E M_X9_tick [aR 125, aI k] hi hr 131 (PI (fun v h r2 n2 => r2 = hr ∧ n2 = 131 ∧ PUB hi (ltF (sg hi) k) v h)) := by
  rw [← mh_self hi]
  have e5 : ∀ h, PUB hi (ltF (sg hi) k) (ltF (sg hi) k).1 h → PUB (mh hi (fd hi) (pst hi) (bn hi) (sg hi)) (ltF (sg hi) k) (ltF (sg hi) k).1 h := fun h g => by rw [mh_self]; exact g
  refine am_of (by decide +kernel) (Nat.le_of_ble_eq_true rfl) ?_
  refine aw_aload_n dX9_tick_0 rfl ?_
  refine aw_V0v dX9_tick_1 clX9_131 ⟨by decide, by decide⟩ (c := 9) (N := 11) (by decide) (by decide +kernel) rfl (c_X9_begins hHR) (by decide) (by decide) rfl rfl (by simp only [List.length_cons, List.length_nil]; omega) ?_
  refine aw_aload_n dX9_tick_4 rfl ?_
  refine aw_aload_n dX9_tick_5 rfl ?_
  refine aw_iload_n dX9_tick_6 rfl ?_
  refine aw_V1x dX9_tick_7 clX9_141 ⟨by decide, by decide⟩ (c := 9) (N := 11) (by decide) (by decide +kernel) rfl (c_X9_lets hHR hM hk) (by decide) (by decide) rfl rfl (by simp only [List.length_cons, List.length_nil]; omega) ?_
  refine aw_V1i dX9_tick_10 clX9_138 ⟨by decide, by decide⟩ (c := 9) (N := 11) (by decide) (by decide +kernel) rfl (c_X9_acted hHR (hr3) h0 h4) (by decide) (by decide) rfl rfl (by simp only [List.length_cons, List.length_nil]; omega) (fun v h2 r2 n2 q => ?_)
  obtain ⟨rfl, rfl, rfl, q⟩ := q
  have q := pub_of (hi := hi) (q := ltF (sg hi) k) rfl (by intro a ha k; rfl) h0 rfl rfl q
  refine aw_iret dX9_tick_13 rfl (by decide) (by decide) ?_
  exact ⟨_, rfl, rfl, rfl, e5 _ q⟩
set_option maxRecDepth 100000 in
set_option maxHeartbeats 4000000 in
theorem c_X9_cut (hHR : HRk hr) (hM : MI (sg hi)) (h0 : 0 ≤ hi 125 3) (h4 : hi 125 3 ≤ 4) : AMet E M_X9_cut [aR 125] hi hr 131 (PI (fun v h r2 n2 => r2 = hr ∧ n2 = 131 ∧ PUB hi (ofF (sg hi)) v h)) := by
  rw [← mh_self hi]
  have e5 : ∀ h, PUB hi (ofF (sg hi)) (ofF (sg hi)).1 h → PUB (mh hi (fd hi) (pst hi) (bn hi) (sg hi)) (ofF (sg hi)) (ofF (sg hi)).1 h := fun h g => by rw [mh_self]; exact g
  refine am_of (by decide +kernel) (Nat.le_of_ble_eq_true rfl) ?_
  refine aw_aload_n dX9_cut_0 rfl ?_
  refine aw_V0v dX9_cut_1 clX9_131 ⟨by decide, by decide⟩ (c := 9) (N := 11) (by decide) (by decide +kernel) rfl (c_X9_begins hHR) (by decide) (by decide) rfl rfl (by simp only [List.length_cons, List.length_nil]; omega) ?_
  refine aw_aload_n dX9_cut_4 rfl ?_
  refine aw_aload_n dX9_cut_5 rfl ?_
  refine aw_V0i dX9_cut_6 clX9_144 ⟨by decide, by decide⟩ (c := 9) (N := 11) (by decide) (by decide +kernel) rfl (c_X9_turnsOff hHR hM) (by decide) (by decide) rfl rfl (by simp only [List.length_cons, List.length_nil]; omega) (fun v h2 r2 n2 q => ?_)
  obtain ⟨rfl, rfl, rfl, w, rfl⟩ := q
  rw [mh_130]
  refine aw_V1i dX9_cut_9 clX9_138 ⟨by decide, by decide⟩ (c := 9) (N := 11) (by decide) (by decide +kernel) rfl (c_X9_acted hHR (r_of (sg hi)) h0 h4) (by decide) (by decide) rfl rfl (by simp only [List.length_cons, List.length_nil]; omega) (fun v h2 r2 n2 q => ?_)
  obtain ⟨rfl, rfl, rfl, q⟩ := q
  have q := pub_of (hi := hi) (q := ofF (sg hi)) rfl (by intro a ha k; exact pa_gn _ _ _ (by omega)) h0 rfl rfl q
  refine aw_iret dX9_cut_12 rfl (by decide) (by decide) ?_
  exact ⟨_, rfl, rfl, rfl, e5 _ q⟩
set_option maxRecDepth 100000 in
set_option maxHeartbeats 4000000 in
theorem c_X9_slow {w t : Int} (hHR : HRk hr) (hM : MI (sg hi)) (h0 : 0 ≤ hi 125 3) (h4 : hi 125 3 ≤ 4) (hw : InR w) (ht : InR t) : AMet E M_X9_slow [aR 125, aI w, aI t] hi hr 131 (PI (fun v h r2 n2 => r2 = hr ∧ n2 = 131 ∧ PUB hi (slF (sg hi) w t) v h)) := by
  have K : AMet E M_X9_slow [aR 125, aI w, aI t] (mh hi (fd hi) (pst hi) (bn hi) (sg hi)) hr 131 (PI (fun v h r2 n2 => r2 = hr ∧ n2 = 131 ∧ PUB hi (slF (sg hi) w t) v h)) := by
    refine am_of (by decide +kernel) (Nat.le_of_ble_eq_true rfl) ?_
    have J : ∀ (a : Int) (t2 : Int → Int), slF (sg hi) w t = (a, t2) → AW E M_X9_slow 0 0 37 [some (aR 125), some (aI w), some (aI t)] [aI a, aR 125] (mh hi (fd hi) (pst hi) (bgnA (sg hi) (bn hi) 256) t2) hr 131 (PI (fun v h r2 n2 => r2 = hr ∧ n2 = 131 ∧ PUB hi (slF (sg hi) w t) v h)) := by
      intro a t2 e
      refine aw_V1i dX9_slow_37 clX9_138 ⟨by decide, by decide⟩ (c := 9) (N := 11) (by decide) (by decide +kernel) rfl (c_X9_acted (a := a) hHR (by have g := r_sl hM w t; rw [e] at g; exact g) h0 h4) (by decide) (by decide) rfl rfl (by simp only [List.length_cons, List.length_nil]; omega) (fun v h2 r2 n2 q => ?_)
      obtain ⟨rfl, rfl, rfl, q⟩ := q
      have q := pub_of (hi := hi) (q := slF (sg hi) w t) (v := v) (by rw [e]) (by intro a ha k; rfl) h0 rfl rfl (by rw [e]; exact q)
      refine aw_iret dX9_slow_40 rfl (by decide) (by decide) ?_
      exact ⟨_, rfl, rfl, rfl, q⟩
    refine aw_aload_n dX9_slow_0 rfl ?_
    refine aw_V0v dX9_slow_1 clX9_131 ⟨by decide, by decide⟩ (c := 9) (N := 11) (by decide) (by decide +kernel) rfl (c_X9_begins hHR) (by decide) (by decide) rfl rfl (by simp only [List.length_cons, List.length_nil]; omega) ?_
    refine aw_aload_n dX9_slow_4 rfl ?_
    refine aw_iload_n dX9_slow_5 rfl ?_
    refine aw_iconst dX9_slow_6 ?_
    refine aw_bipush dX9_slow_7 (by decide) ?_
    refine aw_S3x dX9_slow_9 clX9_32 ⟨by decide, by decide⟩ (c_X9_in hw ⟨by decide, by decide⟩ ⟨by decide, by decide⟩) (by decide) (by decide) rfl rfl (by simp only [List.length_cons, List.length_nil]; omega) ?_
    refine aw_if_eq (tgt := 36) dX9_slow_12 (by decide) in_r (fun h12 => ?_) (fun h12 => ?_)
    · refine aw_iconst dX9_slow_36 ?_
      rw [in0] at h12
      have e : slF (sg hi) w t = (-1, sg hi) := by unfold slF; rw [if_neg (by omega)]
      exact J _ _ e
    · refine aw_iload_n dX9_slow_15 rfl ?_
      refine aw_iconst dX9_slow_16 ?_
      refine aw_iconst dX9_slow_17 ?_
      refine aw_S3x dX9_slow_18 clX9_32 ⟨by decide, by decide⟩ (c_X9_in ht ⟨by decide, by decide⟩ ⟨by decide, by decide⟩) (by decide) (by decide) rfl rfl (by simp only [List.length_cons, List.length_nil]; omega) ?_
      refine aw_if_eq (tgt := 36) dX9_slow_21 (by decide) in_r (fun h21 => ?_) (fun h21 => ?_)
      · refine aw_iconst dX9_slow_36 ?_
        rw [in0] at h21
        have e : slF (sg hi) w t = (-1, sg hi) := by unfold slF; rw [if_neg (by omega)]
        exact J _ _ e
      · refine aw_aload_n dX9_slow_24 rfl ?_
        refine aw_bipush dX9_slow_25 (by decide) ?_
        refine aw_iload_n dX9_slow_27 rfl ?_
        refine aw_iadd dX9_slow_28 ?_
        refine aw_iload_n dX9_slow_29 rfl ?_
        refine aw_V2x dX9_slow_30 clX9_159 ⟨by decide, by decide⟩ (c := 9) (N := 11) (by decide) (by decide +kernel) rfl (c_X9_puts (s := sg hi) (a := 12 + w) (v := t) hHR (by rw [in0, Classical.not_not] at h12; omega) (by rw [in0, Classical.not_not] at h12; omega)) (by decide) (by decide) rfl rfl (by simp only [List.length_cons, List.length_nil]; omega) ?_
        refine aw_goto (tgt := 37) dX9_slow_33 (by decide) ?_
        rw [in0, Classical.not_not] at h12 h21
        have e : slF (sg hi) w t = (sg hi (12 + w), up1 (sg hi) (12 + w) t) := by unfold slF; rw [if_pos ⟨by omega, by omega, by omega, by omega⟩]
        exact J _ _ e
  rwa [mh_self] at K
set_option maxRecDepth 100000 in
set_option maxHeartbeats 4000000 in
theorem c_X9_set {w t : Int} (hHR : HRk hr) (hM : MI (sg hi)) (h0 : 0 ≤ hi 125 3) (h4 : hi 125 3 ≤ 4) (hw : InR w) (ht : InR t) : AMet E M_X9_set [aR 125, aI w, aI t] hi hr 131 (PI (fun v h r2 n2 => r2 = hr ∧ n2 = 131 ∧ PUB hi (seF (sg hi) w t) v h)) := by
  have K : AMet E M_X9_set [aR 125, aI w, aI t] (mh hi (fd hi) (pst hi) (bn hi) (sg hi)) hr 131 (PI (fun v h r2 n2 => r2 = hr ∧ n2 = 131 ∧ PUB hi (seF (sg hi) w t) v h)) := by
    refine am_of (by decide +kernel) (Nat.le_of_ble_eq_true rfl) ?_
    have J : ∀ (a : Int) (t2 : Int → Int), seF (sg hi) w t = (a, t2) → AW E M_X9_set 0 0 76 [some (aR 125), some (aI w), some (aI t), some (aI (moF w))] [aI a, aR 125] (mh hi (fd hi) (pst hi) (bgnA (sg hi) (bn hi) 256) t2) hr 131 (PI (fun v h r2 n2 => r2 = hr ∧ n2 = 131 ∧ PUB hi (seF (sg hi) w t) v h)) := by
      intro a t2 e
      refine aw_V1i dX9_set_76 clX9_138 ⟨by decide, by decide⟩ (c := 9) (N := 11) (by decide) (by decide +kernel) rfl (c_X9_acted (a := a) hHR (by have g := r_se hM w t; rw [e] at g; exact g) h0 h4) (by decide) (by decide) rfl rfl (by simp only [List.length_cons, List.length_nil]; omega) (fun v h2 r2 n2 q => ?_)
      obtain ⟨rfl, rfl, rfl, q⟩ := q
      have q := pub_of (hi := hi) (q := seF (sg hi) w t) (v := v) (by rw [e]) (by intro a ha k; rfl) h0 rfl rfl (by rw [e]; exact q)
      refine aw_iret dX9_set_79 rfl (by decide) (by decide) ?_
      exact ⟨_, rfl, rfl, rfl, q⟩
    have J35 : AW E M_X9_set 0 0 35 [some (aR 125), some (aI w), some (aI t), some (aI (moF w))] [] (mh hi (fd hi) (pst hi) (bgnA (sg hi) (bn hi) 256) (sg hi)) hr 131 (PI (fun v h r2 n2 => r2 = hr ∧ n2 = 131 ∧ PUB hi (seF (sg hi) w t) v h)) := by
      have hmo : 1 ≤ moF w ∧ moF w ≤ 99 := by unfold moF; (repeat' split) <;> omega
      refine aw_aload_n dX9_set_35 rfl ?_
      refine aw_iload_n dX9_set_36 rfl ?_
      refine aw_iconst dX9_set_37 ?_
      refine aw_iconst dX9_set_38 ?_
      refine aw_S3x dX9_set_39 clX9_32 ⟨by decide, by decide⟩ (c_X9_in hw ⟨by decide, by decide⟩ ⟨by decide, by decide⟩) (by decide) (by decide) rfl rfl (by simp only [List.length_cons, List.length_nil]; omega) ?_
      refine aw_if_eq (tgt := 75) dX9_set_42 (by decide) in_r (fun h42 => ?_) (fun h42 => ?_)
      · refine aw_iconst dX9_set_75 ?_
        rw [in0] at h42
        have e : seF (sg hi) w t = (-1, sg hi) := by
          unfold seF
          rw [if_neg (fun g => by have g3 := g.2.2.1; have g4 := g.2.2.2; split at g3 <;> omega)]
        exact J _ _ e
      · refine aw_iload_n dX9_set_45 rfl ?_
        refine aw_iload_n dX9_set_46 rfl ?_
        refine aw_iconst dX9_set_47 ?_
        refine aw_ic_ne (tgt := 55) dX9_set_48 (by decide) hw ⟨by decide, by decide⟩ (fun h48 => ?_) (fun h48 => ?_)
        · refine aw_iconst dX9_set_55 ?_
          refine aw_iload_n dX9_set_56 rfl ?_
          refine aw_S3x dX9_set_57 clX9_32 ⟨by decide, by decide⟩ (c_X9_in ht ⟨by decide, by decide⟩ ⟨by omega, by omega⟩) (by decide) (by decide) rfl rfl (by simp only [List.length_cons, List.length_nil]; omega) ?_
          refine aw_if_eq (tgt := 75) dX9_set_60 (by decide) in_r (fun h60 => ?_) (fun h60 => ?_)
          · refine aw_iconst dX9_set_75 ?_
            rw [in0] at h60
            have e : seF (sg hi) w t = (-1, sg hi) := by
              unfold seF
              rw [if_neg (fun g => by have g3 := g.2.2.1; have g4 := g.2.2.2; split at g3 <;> omega)]
            exact J _ _ e
          · refine aw_aload_n dX9_set_63 rfl ?_
            refine aw_bipush dX9_set_64 (by decide) ?_
            refine aw_iload_n dX9_set_66 rfl ?_
            refine aw_iadd dX9_set_67 ?_
            refine aw_iload_n dX9_set_68 rfl ?_
            refine aw_V2x dX9_set_69 clX9_159 ⟨by decide, by decide⟩ (c := 9) (N := 11) (by decide) (by decide +kernel) rfl (c_X9_puts (s := sg hi) (a := 20 + w) (v := t) hHR (by rw [in0, Classical.not_not] at h42; omega) (by rw [in0, Classical.not_not] at h42; omega)) (by decide) (by decide) rfl rfl (by simp only [List.length_cons, List.length_nil]; omega) ?_
            refine aw_goto (tgt := 76) dX9_set_72 (by decide) ?_
            rw [in0, Classical.not_not] at h42 h60
            have e : seF (sg hi) w t = (sg hi (20 + w), up1 (sg hi) (20 + w) t) := by
              unfold seF
              rw [if_pos ⟨by omega, by omega, by split <;> omega, by omega⟩]
            exact J _ _ e
        · refine aw_iconst dX9_set_51 ?_
          refine aw_goto (tgt := 56) dX9_set_52 (by decide) ?_
          refine aw_iload_n dX9_set_56 rfl ?_
          refine aw_S3x dX9_set_57 clX9_32 ⟨by decide, by decide⟩ (c_X9_in ht ⟨by decide, by decide⟩ ⟨by omega, by omega⟩) (by decide) (by decide) rfl rfl (by simp only [List.length_cons, List.length_nil]; omega) ?_
          refine aw_if_eq (tgt := 75) dX9_set_60 (by decide) in_r (fun h60 => ?_) (fun h60 => ?_)
          · refine aw_iconst dX9_set_75 ?_
            rw [in0] at h60
            have e : seF (sg hi) w t = (-1, sg hi) := by
              unfold seF
              rw [if_neg (fun g => by have g3 := g.2.2.1; have g4 := g.2.2.2; split at g3 <;> omega)]
            exact J _ _ e
          · refine aw_aload_n dX9_set_63 rfl ?_
            refine aw_bipush dX9_set_64 (by decide) ?_
            refine aw_iload_n dX9_set_66 rfl ?_
            refine aw_iadd dX9_set_67 ?_
            refine aw_iload_n dX9_set_68 rfl ?_
            refine aw_V2x dX9_set_69 clX9_159 ⟨by decide, by decide⟩ (c := 9) (N := 11) (by decide) (by decide +kernel) rfl (c_X9_puts (s := sg hi) (a := 20 + w) (v := t) hHR (by rw [in0, Classical.not_not] at h42; omega) (by rw [in0, Classical.not_not] at h42; omega)) (by decide) (by decide) rfl rfl (by simp only [List.length_cons, List.length_nil]; omega) ?_
            refine aw_goto (tgt := 76) dX9_set_72 (by decide) ?_
            rw [in0, Classical.not_not] at h42 h60
            have e : seF (sg hi) w t = (sg hi (20 + w), up1 (sg hi) (20 + w) t) := by
              unfold seF
              rw [if_pos ⟨by omega, by omega, by split <;> omega, by omega⟩]
            exact J _ _ e
    refine aw_aload_n dX9_set_0 rfl ?_
    refine aw_V0v dX9_set_1 clX9_131 ⟨by decide, by decide⟩ (c := 9) (N := 11) (by decide) (by decide +kernel) rfl (c_X9_begins hHR) (by decide) (by decide) rfl rfl (by simp only [List.length_cons, List.length_nil]; omega) ?_
    refine aw_iload_n dX9_set_4 rfl ?_
    refine aw_if_ne (tgt := 13) dX9_set_5 (by decide) hw (fun h5 => ?_) (fun h5 => ?_)
    · refine aw_iload_n dX9_set_13 rfl ?_
      refine aw_iconst dX9_set_14 ?_
      refine aw_ic_ne (tgt := 23) dX9_set_15 (by decide) hw ⟨by decide, by decide⟩ (fun h15 => ?_) (fun h15 => ?_)
      · refine aw_iload_n dX9_set_23 rfl ?_
        refine aw_iconst dX9_set_24 ?_
        refine aw_ic_ne (tgt := 32) dX9_set_25 (by decide) hw ⟨by decide, by decide⟩ (fun h25 => ?_) (fun h25 => ?_)
        · refine aw_bipush dX9_set_32 (by decide) ?_
          refine aw_istore_n (ls2 := [_, _, _, _]) dX9_set_34 (by decide) rfl ?_
          have e : moF w = 99 := by unfold moF; (repeat' split) <;> omega
          rw [e] at J35
          exact J35
        · refine aw_iconst dX9_set_28 ?_
          refine aw_goto (tgt := 34) dX9_set_29 (by decide) ?_
          refine aw_istore_n (ls2 := [_, _, _, _]) dX9_set_34 (by decide) rfl ?_
          have e : moF w = 1 := by unfold moF; (repeat' split) <;> omega
          rw [e] at J35
          exact J35
      · refine aw_bipush dX9_set_18 (by decide) ?_
        refine aw_goto (tgt := 34) dX9_set_20 (by decide) ?_
        refine aw_istore_n (ls2 := [_, _, _, _]) dX9_set_34 (by decide) rfl ?_
        have e : moF w = 20 := by unfold moF; (repeat' split) <;> omega
        rw [e] at J35
        exact J35
    · refine aw_bipush dX9_set_8 (by decide) ?_
      refine aw_goto (tgt := 34) dX9_set_10 (by decide) ?_
      refine aw_istore_n (ls2 := [_, _, _, _]) dX9_set_34 (by decide) rfl ?_
      have e : moF w = 9 := by unfold moF; (repeat' split) <;> omega
      rw [e] at J35
      exact J35
  rwa [mh_self] at K
end TWIN6
