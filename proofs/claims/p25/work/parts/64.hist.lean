/-! the class's history -/
section HIST0
variable {E : ET} {M : MT} {cu su pc : Nat} {ls : List (Option AV)} {st : List AV} {hi : HI} {hr : HR} {n : Nat} {Q : QT} {a N : Nat}
theorem aw_alenS (hd : decode (mC M) pc = .ok (.arraylength, 1)) (ha : a < n) (hs : sh a = (11, N)) (kk : AW E M cu su (pc + 1) ls (aI (N : Int) :: st) hi hr n Q) : AW E M cu su pc ls (aR a :: st) hi hr n Q := by
  intro p e s m args below meth cd H locs lsA hX hC hL hR
  have h2 := (hC.cell ha).2.2 (by rw [hs])
  rw [hs] at h2
  have g := kk p e s m args below meth cd H locs lsA hX hC hL hR
  rw [List.map_cons, cv_r, hC.adr ha]
  refine W.alen hX.1 hX.2.1 h2 (hX.2.2.2.2.2.2.2.2.2.2.1.1 _ _) (n := Int32.ofInt (N : Int)) ?_ rfl rfl hd g
  rw [arrV_size, oi_nI]
  rfl
end HIST0
def HP (hr : HR) (q : Nat → Nat) : Prop := ∀ j : Nat, j < 5 → hr 36 j = some (q j) ∧ St (q j)
theorem HRk.of {hr hr2 : HR} (h : HRk hr) (e : ∀ a j : Nat, ¬ a = 36 → hr2 a j = hr a j) : HRk hr2 := fun a k ha hf => by rw [e a k ha]; exact h a k ha hf
def rotk (hr : HR) (q : Nat → Nat) (k : Nat) : HR := fun a j => if a = 36 ∧ j < k then some (q (j + 1)) else hr a j
def rot (hr : HR) (q : Nat → Nat) : HR := upr (rotk hr q 4) 36 4 (some (q 0))
theorem rotk_s (hr : HR) (q : Nat → Nat) (k : Nat) : upr (rotk hr q k) 36 k (some (q (k + 1))) = rotk hr q (k + 1) := by
  funext a j
  unfold upr rotk
  by_cases h : a = 36
  · by_cases h2 : j = k
    · rw [if_pos ⟨h, h2⟩, if_pos ⟨h, by omega⟩, h2]
    · rw [if_neg (fun g => h2 g.2)]
      by_cases h3 : j < k
      · rw [if_pos ⟨h, h3⟩, if_pos ⟨h, by omega⟩]
      · rw [if_neg (fun g => h3 g.2), if_neg (fun g => by have := g.2; omega)]
  · rw [if_neg (fun g => h g.1), if_neg (fun g => h g.1), if_neg (fun g => h g.1)]
theorem rotk_o (hr : HR) (q : Nat → Nat) (k : Nat) (a j : Nat) (h : ¬ a = 36) : rotk hr q k a j = hr a j := by unfold rotk; rw [if_neg (fun g => h g.1)]
theorem rot_o (hr : HR) (q : Nat → Nat) (a j : Nat) (h : ¬ a = 36) : rot hr q a j = hr a j := by unfold rot; rw [upr_ne _ _ _ h, rotk_o _ _ _ _ _ h]
theorem rotk_0 (hr : HR) (q : Nat → Nat) : rotk hr q 0 = hr := by
  funext a j; unfold rotk; rw [if_neg (fun g => by have := g.2; omega)]
def rq (q : Nat → Nat) : Nat → Nat := fun j => if j = 4 then q 0 else q (j + 1)
theorem rot_HP {hr : HR} {q : Nat → Nat} (h : HP hr q) : HP (rot hr q) (rq q) := by
  intro j hj
  unfold rot upr rotk rq
  by_cases e : j = 4
  · rw [if_pos ⟨rfl, e⟩, if_pos e]; exact ⟨rfl, (h 0 (by decide)).2⟩
  · rw [if_neg (fun g => e g.2), if_pos ⟨rfl, by omega⟩, if_neg e]; exact ⟨rfl, (h (j + 1) (by omega)).2⟩
theorem st1 : St 1 := by unfold St; decide
theorem st18 : St 18 := by unfold St; decide
theorem st_35 {x : Nat} (h : St x) (j : Nat) (hj : j < 17) : ¬ x + j = 35 := (show ∀ x, x ∈ stIds → ∀ j, j < 17 → ¬ x + j = 35 by decide) x h j hj
theorem same_get {x : Nat} {h1 h2 : HI} (e : ∀ j : Nat, j < 17 → ∀ k : Nat, h1 (x + j) k = h2 (x + j) k) : SAME (getS x h1) (getS x h2) :=
  ⟨fun j k _ g _ _ => e j (by omega) _, e 6 (by decide) _, fun j k _ g _ _ => e j (by omega) _, fun k _ _ => e 11 (by decide) _, fun k _ _ => e 12 (by decide) _, ⟨fun k _ _ => e 13 (by decide) _, fun k _ _ => e 14 (by decide) _, fun k _ _ => e 15 (by decide) _⟩, e 0 (by decide) _, e 0 (by decide) _, e 0 (by decide) _⟩
theorem SAME.bo {t u : TS} (h : SAME t u) (g : BO u) : BO t := ⟨by rw [h.2.2.2.2.2.2.1]; exact g.1, by rw [h.2.2.2.1 0 (by decide) (by decide)]; exact g.2.1, by rw [h.2.2.2.1 1 (by decide) (by decide)]; exact g.2.2⟩
theorem up2_up2 (f : HI) (a k : Nat) (v w : Int) : up2 (up2 f a k v) a k w = up2 f a k w := by
  funext x y; unfold up2; split <;> rfl
section HIST
variable {E : ET} {hi : HI} {hr : HR} {q : Nat → Nat}
set_option maxRecDepth 100000 in
set_option maxHeartbeats 4000000 in
theorem c_X1_size (hHR : HRk hr) : AMet E M_X1_size [aR 35] hi hr 125 (EX (some (aI (hi 35 1))) hi hr 125) := by
  refine am_of (by decide +kernel) (Nat.le_of_ble_eq_true rfl) ?_
  refine aw_aload_n dX1_size_0 rfl ?_
  refine aw_getv dX1_size_1 ci1 (by decide) fX1_18 (by decide) (by decide +kernel) rfl rfl ?_
  refine aw_iret dX1_size_4 rfl (by decide) (by decide) ?_
  exact EX.rf
set_option maxRecDepth 100000 in
set_option maxHeartbeats 4000000 in
theorem c_X1_stateAt {i : Int} {x : Nat} (hHR : HRk hr) (h0 : 0 ≤ i) (h5 : i < 5) (hx : hr 36 i.toNat = some x) : AMet E M_X1_stateAt [aR 35, aI i] hi hr 125 (EX (some (aR x)) hi hr 125) := by
  refine am_of (by decide +kernel) (Nat.le_of_ble_eq_true rfl) ?_
  refine aw_iload_n dX1_stateAt_0 rfl ?_
  refine aw_if_lt (tgt := 22) dX1_stateAt_1 (by decide) ⟨by omega, by omega⟩ (fun h1 => ?_) (fun h1 => ?_)
  · exact absurd h1 (by omega)
  · refine aw_iload_n dX1_stateAt_4 rfl ?_
    refine aw_aload_n dX1_stateAt_5 rfl ?_
    refine aw_getr (x := 36) dX1_stateAt_6 ci1 (by decide) fX1_11 (by decide) (by decide +kernel) rfl ((hHR 35 0 (by decide) (by decide +kernel)).trans rfl) ?_
    refine aw_alenS (N := 5) dX1_stateAt_9 (by decide) (by decide +kernel) ?_
    refine aw_ic_ge (tgt := 22) dX1_stateAt_10 (by decide) ⟨by omega, by omega⟩ ⟨by decide, by decide⟩ (fun h10 => ?_) (fun h10 => ?_)
    · exact absurd h10 (by omega)
    · refine aw_aload_n dX1_stateAt_13 rfl ?_
      refine aw_getr (x := 36) dX1_stateAt_14 ci1 (by decide) fX1_11 (by decide) (by decide +kernel) rfl ((hHR 35 0 (by decide) (by decide +kernel)).trans rfl) ?_
      refine aw_iload_n dX1_stateAt_17 rfl ?_
      refine aw_aaload (N := 5) dX1_stateAt_18 (by decide) (by decide +kernel) h0 h5 ⟨by omega, by omega⟩ hx ?_
      refine aw_goto (tgt := 23) dX1_stateAt_19 (by decide) ?_
      refine aw_aret dX1_stateAt_23 rfl ⟨_, rfl⟩ (by decide) (by decide) ?_
      exact EX.rf
set_option maxRecDepth 100000 in
set_option maxHeartbeats 4000000 in
theorem c_X1_note {x : Nat} (hHR : HRk hr) (h0 : 0 ≤ hi 35 1) (h4 : hi 35 1 ≤ 4) (hx : hr 36 (hi 35 1).toNat = some x) (hq : St x) (hn : ¬ 1 = x) (hB : BO (getS 1 hi)) : AMet E M_X1_note [aR 35, aR 1] hi hr 125 (EX none (putS x hi (scS (getS x hi) (getS 1 hi))) hr 125) := by
  refine am_of (by decide +kernel) (Nat.le_of_ble_eq_true rfl) ?_
  refine aw_aload_n dX1_note_0 rfl ?_
  refine aw_aload_n dX1_note_1 rfl ?_
  refine aw_getv dX1_note_2 ci1 (by decide) fX1_18 (by decide) (by decide +kernel) rfl rfl ?_
  refine aw_V1x dX1_note_5 clX1_22 ⟨by decide, by decide⟩ (c := 1) (N := 2) (by decide) (by decide +kernel) rfl (c_X1_stateAt hHR h0 (by omega) hx) (by decide) (by decide) rfl rfl (by simp only [List.length_cons, List.length_nil]; omega) ?_
  refine aw_astore_n (ls2 := [_, _, _]) dX1_note_8 (by decide) rfl ?_
  refine aw_aload_n dX1_note_9 rfl ?_
  refine aw_ifnull dX1_note_10 ?_
  refine aw_aload_n dX1_note_13 rfl ?_
  refine aw_aload_n dX1_note_14 rfl ?_
  refine aw_V1v dX1_note_15 clX1_26 ⟨by decide, by decide⟩ (c := 4) (N := 11) (by have := st_lt hq; omega) (st_sh0 hq) rfl (c_copy hq st1 hn hHR hB) (by decide) (by decide) rfl rfl (by simp only [List.length_cons, List.length_nil]; omega) ?_
  refine aw_vret dX1_note_18 rfl (by decide) (by decide) ?_
  exact EX.rf
set_option maxRecDepth 100000 in
set_option maxHeartbeats 4000000 in
theorem c_X1_dropOldest (hHR : HRk hr) (hP : HP hr q) : AMet E M_X1_dropOldest [aR 35] hi hr 125 (EX none (up2 hi 35 1 4) (rot hr q) 125) := by
  refine am_of (by decide +kernel) (Nat.le_of_ble_eq_true rfl) ?_
  have loop : ∀ (d k : Nat), k + d = 4 → AW E M_X1_dropOldest 0 0 8 [some (aR 35), some (aR (q 0)), some (aI (k : Int))] [] hi (rotk hr q k) 125 (EX none (up2 hi 35 1 4) (rot hr q) 125) := by
    have hq0 := (hP 0 (by decide)).2
    intro d
    induction d with
    | zero =>
      intro k hk
      have hk' : k = 4 := by omega
      subst hk'
      have hHR := hHR.of (rotk_o hr q 4)
      refine aw_iload_n dX1_dropOldest_8 rfl ?_
      refine aw_iconst dX1_dropOldest_9 ?_
      refine aw_iadd dX1_dropOldest_10 ?_
      refine aw_aload_n dX1_dropOldest_11 rfl ?_
      refine aw_getr (x := 36) dX1_dropOldest_12 ci1 (by decide) fX1_11 (by decide) (by decide +kernel) rfl ((hHR 35 0 (by decide) (by decide +kernel)).trans rfl) ?_
      refine aw_alenS (N := 5) dX1_dropOldest_15 (by decide) (by decide +kernel) ?_
      refine aw_ic_ge (tgt := 39) dX1_dropOldest_16 (by decide) ⟨by decide, by decide⟩ ⟨by decide, by decide⟩ (fun h16 => ?_) (fun h16 => ?_)
      · refine aw_aload_n dX1_dropOldest_39 rfl ?_
        refine aw_getr (x := 36) dX1_dropOldest_40 ci1 (by decide) fX1_11 (by decide) (by decide +kernel) rfl ((hHR 35 0 (by decide) (by decide +kernel)).trans rfl) ?_
        refine aw_iconst dX1_dropOldest_43 ?_
        refine aw_aload_n dX1_dropOldest_44 rfl ?_
        refine aw_aastore (N := 5) dX1_dropOldest_45 (by decide) (by decide +kernel) (by have := st_lt hq0; omega) (st_sh0 hq0) (by decide) (by decide) ⟨by decide, by decide⟩ ?_
        refine aw_aload_n dX1_dropOldest_46 rfl ?_
        refine aw_iconst dX1_dropOldest_47 ?_
        refine aw_putv dX1_dropOldest_48 ci1 (by decide) fX1_18 (by decide) (by decide +kernel) rfl rfl (Or.inl rfl) rfl ?_
        refine aw_vret dX1_dropOldest_51 rfl (by decide) (by decide) ?_
        exact EX.rf
      · exact absurd h16 (by decide)
    | succ d ih =>
      intro k hk
      have hHR := hHR.of (rotk_o hr q k)
      have hqk := (hP (k + 1) (by omega)).2
      have ek : ((k : Int) + 1).toNat = k + 1 := by omega
      have hx : rotk hr q k 36 ((k : Int) + 1).toNat = some (q (k + 1)) := by rw [ek]; unfold rotk; rw [if_neg (fun g => by have := g.2; omega)]; exact (hP (k + 1) (by omega)).1
      refine aw_iload_n dX1_dropOldest_8 rfl ?_
      refine aw_iconst dX1_dropOldest_9 ?_
      refine aw_iadd dX1_dropOldest_10 ?_
      refine aw_aload_n dX1_dropOldest_11 rfl ?_
      refine aw_getr (x := 36) dX1_dropOldest_12 ci1 (by decide) fX1_11 (by decide) (by decide +kernel) rfl ((hHR 35 0 (by decide) (by decide +kernel)).trans rfl) ?_
      refine aw_alenS (N := 5) dX1_dropOldest_15 (by decide) (by decide +kernel) ?_
      refine aw_ic_ge (tgt := 39) dX1_dropOldest_16 (by decide) ⟨by omega, by omega⟩ ⟨by decide, by decide⟩ (fun h16 => ?_) (fun h16 => ?_)
      · exact absurd h16 (by omega)
      · refine aw_aload_n dX1_dropOldest_19 rfl ?_
        refine aw_getr (x := 36) dX1_dropOldest_20 ci1 (by decide) fX1_11 (by decide) (by decide +kernel) rfl ((hHR 35 0 (by decide) (by decide +kernel)).trans rfl) ?_
        refine aw_iload_n dX1_dropOldest_23 rfl ?_
        refine aw_aload_n dX1_dropOldest_24 rfl ?_
        refine aw_getr (x := 36) dX1_dropOldest_25 ci1 (by decide) fX1_11 (by decide) (by decide +kernel) rfl ((hHR 35 0 (by decide) (by decide +kernel)).trans rfl) ?_
        refine aw_iload_n dX1_dropOldest_28 rfl ?_
        refine aw_iconst dX1_dropOldest_29 ?_
        refine aw_iadd dX1_dropOldest_30 ?_
        refine aw_aaload (N := 5) dX1_dropOldest_31 (by decide) (by decide +kernel) (by omega) (by omega) ⟨by omega, by omega⟩ hx ?_
        refine aw_aastore (N := 5) dX1_dropOldest_32 (by decide) (by decide +kernel) (by have := st_lt hqk; omega) (st_sh0 hqk) (by omega) (by omega) ⟨by omega, by omega⟩ ?_
        rw [Int.toNat_natCast, rotk_s]
        refine aw_iinc (ls2 := [_, _, _]) dX1_dropOldest_33 rfl (by decide) rfl ?_
        refine aw_goto (tgt := 8) dX1_dropOldest_36 (by decide) ?_
        exact ih (k + 1) (by omega)
  refine aw_aload_n dX1_dropOldest_0 rfl ?_
  refine aw_iconst dX1_dropOldest_1 ?_
  refine aw_V1x dX1_dropOldest_2 clX1_22 ⟨by decide, by decide⟩ (c := 1) (N := 2) (by decide) (by decide +kernel) rfl (c_X1_stateAt hHR (by decide) (by decide) (hP 0 (by decide)).1) (by decide) (by decide) rfl rfl (by simp only [List.length_cons, List.length_nil]; omega) ?_
  refine aw_astore_n (ls2 := [_, _, _]) dX1_dropOldest_5 (by decide) rfl ?_
  refine aw_iconst dX1_dropOldest_6 ?_
  refine aw_istore_n (ls2 := [_, _, _]) dX1_dropOldest_7 (by decide) rfl ?_
  have g := loop 4 0 (by decide)
  rw [rotk_0] at g
  exact g
set_option maxRecDepth 100000 in
set_option maxHeartbeats 4000000 in
theorem c_X1_keep (hHR : HRk hr) (h0 : 0 ≤ hi 35 1) (h4 : hi 35 1 ≤ 4) (hP : HP hr q) : AMet E M_X1_keep [aR 35] hi hr 125 (PV (fun h r2 n2 => n2 = 125 ∧ (hi 35 1 < 4 → r2 = hr ∧ h = up2 hi 35 1 (hi 35 1 + 1)) ∧ (hi 35 1 = 4 → r2 = rot hr q ∧ h = up2 hi 35 1 4))) := by
  refine am_of (by decide +kernel) (Nat.le_of_ble_eq_true rfl) ?_
  refine aw_aload_n dX1_keep_0 rfl ?_
  refine aw_dup dX1_keep_1 ?_
  refine aw_getv dX1_keep_2 ci1 (by decide) fX1_18 (by decide) (by decide +kernel) rfl rfl ?_
  refine aw_iconst dX1_keep_5 ?_
  refine aw_iadd dX1_keep_6 ?_
  refine aw_putv dX1_keep_7 ci1 (by decide) fX1_18 (by decide) (by decide +kernel) rfl rfl (Or.inl rfl) rfl ?_
  refine aw_aload_n dX1_keep_10 rfl ?_
  refine aw_getv dX1_keep_11 ci1 (by decide) fX1_18 (by decide) (by decide +kernel) rfl (rfl.trans (up2_self _ _ _ _)) ?_
  refine aw_iconst dX1_keep_14 ?_
  refine aw_ic_le (tgt := 22) dX1_keep_15 (by decide) ⟨by omega, by omega⟩ ⟨by decide, by decide⟩ (fun h15 => ?_) (fun h15 => ?_)
  · refine aw_vret dX1_keep_22 rfl (by decide) (by decide) ?_
    exact ⟨rfl, rfl, fun _ => ⟨rfl, rfl⟩, fun g => absurd g (by omega)⟩
  · refine aw_aload_n dX1_keep_18 rfl ?_
    refine aw_V0v dX1_keep_19 clX1_30 ⟨by decide, by decide⟩ (c := 1) (N := 2) (by decide) (by decide +kernel) rfl (c_X1_dropOldest hHR hP) (by decide) (by decide) rfl rfl (by simp only [List.length_cons, List.length_nil]; omega) ?_
    refine aw_vret dX1_keep_22 rfl (by decide) (by decide) ?_
    exact ⟨rfl, rfl, fun g => absurd g (by omega), fun _ => ⟨rfl, up2_up2 _ _ _ _ _⟩⟩
set_option maxRecDepth 100000 in
set_option maxHeartbeats 4000000 in
theorem c_X1_restore {x : Nat} (hHR : HRk hr) (h0 : 0 ≤ hi 35 1) (h4 : hi 35 1 ≤ 4) (hx : 0 < hi 35 1 → hr 36 (hi 35 1 - 1).toNat = some x ∧ St x ∧ ¬ x = 1 ∧ BO (getS x hi)) : AMet E M_X1_restore [aR 35, aR 1] hi hr 125 (PI (fun v h r2 n2 => r2 = hr ∧ n2 = 125 ∧ (hi 35 1 = 0 → v = -2 ∧ h = hi) ∧ (0 < hi 35 1 → v = hi 35 1 - 1 ∧ ∃ t2 : TS, h = putS 1 (up2 hi 35 1 (hi 35 1 - 1)) t2 ∧ SAME t2 (getS x hi)))) := by
  refine am_of (by decide +kernel) (Nat.le_of_ble_eq_true rfl) ?_
  refine aw_aload_n dX1_restore_0 rfl ?_
  refine aw_getv dX1_restore_1 ci1 (by decide) fX1_18 (by decide) (by decide +kernel) rfl rfl ?_
  refine aw_if_ne (tgt := 10) dX1_restore_4 (by decide) ⟨by omega, by omega⟩ (fun h4 => ?_) (fun h4 => ?_)
  · obtain ⟨hx1, hq, hn, hB⟩ := hx (by omega)
    have hS : SAME (getS x (up2 hi 35 1 (hi 35 1 - 1))) (getS x hi) := same_get (fun j hj k => up2_ne _ _ _ (st_35 hq j hj) _)
    have hB1 := hS.bo hB
    refine aw_aload_n dX1_restore_10 rfl ?_
    refine aw_dup dX1_restore_11 ?_
    refine aw_getv dX1_restore_12 ci1 (by decide) fX1_18 (by decide) (by decide +kernel) rfl rfl ?_
    refine aw_iconst dX1_restore_15 ?_
    refine aw_isub dX1_restore_16 ?_
    refine aw_putv dX1_restore_17 ci1 (by decide) fX1_18 (by decide) (by decide +kernel) rfl rfl (Or.inl rfl) rfl ?_
    refine aw_aload_n dX1_restore_20 rfl ?_
    refine aw_aload_n dX1_restore_21 rfl ?_
    refine aw_getv dX1_restore_22 ci1 (by decide) fX1_18 (by decide) (by decide +kernel) rfl (rfl.trans (up2_self _ _ _ _)) ?_
    refine aw_V1x dX1_restore_25 clX1_22 ⟨by decide, by decide⟩ (c := 1) (N := 2) (by decide) (by decide +kernel) rfl (c_X1_stateAt hHR (by omega) (by omega) hx1) (by decide) (by decide) rfl rfl (by simp only [List.length_cons, List.length_nil]; omega) ?_
    refine aw_astore_n (ls2 := [_, _, _]) dX1_restore_28 (by decide) rfl ?_
    refine aw_aload_n dX1_restore_29 rfl ?_
    refine aw_ifnull dX1_restore_30 ?_
    refine aw_aload_n dX1_restore_33 rfl ?_
    refine aw_aload_n dX1_restore_34 rfl ?_
    refine aw_V1v dX1_restore_35 clX1_26 ⟨by decide, by decide⟩ (c := 4) (N := 11) (by decide) (by decide +kernel) rfl (c_copy st1 hq hn hHR hB1) (by decide) (by decide) rfl rfl (by simp only [List.length_cons, List.length_nil]; omega) ?_
    refine aw_aload_n dX1_restore_38 rfl ?_
    refine aw_getv dX1_restore_39 ci1 (by decide) fX1_18 (by decide) (by decide +kernel) rfl rfl ?_
    refine aw_iret dX1_restore_42 rfl (by decide) (by decide) ?_
    refine ⟨_, rfl, rfl, rfl, fun g => absurd g (by omega), fun _ => ⟨?_, _, rfl, (scS_same _ _).tr hS⟩⟩
    rw [putS_out _ _ _ (by decide)]
    exact up2_self _ _ _ _
  · refine aw_bipush dX1_restore_7 (by decide) ?_
    refine aw_iret dX1_restore_9 rfl (by decide) (by decide) ?_
    exact ⟨_, rfl, rfl, rfl, fun _ => ⟨rfl, rfl⟩, fun g => absurd g (by omega)⟩
end HIST
