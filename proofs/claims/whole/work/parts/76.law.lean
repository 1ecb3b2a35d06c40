/-! the law: its loop, its start -/
section LAW2
variable {E : ET} {L : Nat}
set_option maxRecDepth 100000 in
set_option maxHeartbeats 4000000 in
theorem law_loop (hEN : EN E) (XE : XH (fun a j => eX E (a - 1000) j)) (hL : L = eN E 5) (hL2 : L ≤ 2048) (hI : ∀ j : Nat, InR (eX E 5 j)) : ∀ (d k : Nat) (hi : HI) (hr : HR), (L : Int) ≤ 4 * (k : Int) + 4 * (d : Int) → k ≤ 600 → INV hi hr (64 * (k : Int)) → AW E M_L_law 131 3697 18 [some (aR 1005), some (aR 0), some (aR 125), some (aI (4 * (k : Int)))] [] hi hr 131 QL := by
  intro d
  induction d with
  | zero =>
    intro k hi hr hd hk6 inv
    refine aw_iload_n dL_law_18 rfl ?_
    refine aw_aload_n dL_law_19 rfl ?_
    refine aw_alen dL_law_20 (Or.inr ⟨5, by decide, rfl, hL⟩) ?_
    refine aw_iconst dL_law_21 ?_
    refine aw_isub dL_law_22 ?_
    refine aw_ic_gt (tgt := 678) dL_law_23 (by decide) ⟨by omega, by omega⟩ ⟨by omega, by omega⟩ (fun h23 => ?_) (fun h23 => ?_)
    · refine aw_iconst dL_law_678 ?_
      refine aw_zret dL_law_679 rfl (Or.inr rfl) (by decide) (by decide) ?_
      exact rfl
    · exact absurd h23 (by omega)
  | succ d ih =>
    intro k hi hr hd hk6 inv
    refine aw_st (fun hS => ?_)
    refine aw_iload_n dL_law_18 rfl ?_
    refine aw_aload_n dL_law_19 rfl ?_
    refine aw_alen dL_law_20 (Or.inr ⟨5, by decide, rfl, hL⟩) ?_
    refine aw_iconst dL_law_21 ?_
    refine aw_isub dL_law_22 ?_
    refine aw_ic_gt (tgt := 678) dL_law_23 (by decide) ⟨by omega, by omega⟩ ⟨by omega, by omega⟩ (fun h23 => ?_) (fun h23 => ?_)
    · refine aw_iconst dL_law_678 ?_
      refine aw_zret dL_law_679 rfl (Or.inr rfl) (by decide) (by decide) ?_
      exact rfl
    · have J : ∀ (h2 : HI) (r2 : HR), INV h2 r2 (64 * ((k : Int) + 1)) → AW E M_L_law 131 3697 672 [some (aR 1005), some (aR 0), some (aR 125), some (aI (4 * (k : Int)))] [] h2 r2 131 QL := by
        intro h2 r2 i2
        have e : 4 * (k : Int) + 4 = 4 * ((k + 1 : Nat) : Int) := by omega
        have g := ih (k + 1) h2 r2 (by omega) (by omega) (by rw [show ((k + 1 : Nat) : Int) = (k : Int) + 1 by omega]; exact i2)
        rw [← e] at g
        refine aw_iinc (ls2 := [_, _, _, _]) dL_law_672 rfl (by decide) rfl ?_
        refine aw_goto (tgt := 18) dL_law_675 (by decide) ?_
        exact g
      refine aw_aload_n dL_law_26 rfl ?_
      refine aw_iload_n dL_law_27 rfl ?_
      refine aw_iald (N := L) dL_law_28 (Or.inr ⟨5, by decide, rfl, hL⟩) (by omega) (by omega) (by omega) (hS 5 (by decide) _) ?_
      refine aw_bipush dL_law_29 (by decide) ?_
      refine aw_iandG dL_law_31 ?_
      have hw := i32r (Int32.ofInt (eX E 5 (4 * (k : Int)).toNat) &&& Int32.ofInt 31)
      generalize (Int32.ofInt (eX E 5 (4 * (k : Int)).toNat) &&& Int32.ofInt 31).toInt = w at hw ⊢
      by_cases hd : 0 ≤ w ∧ w ≤ 21
      · rcases (show w = 0 ∨ w = 1 ∨ w = 2 ∨ w = 3 ∨ w = 4 ∨ w = 5 ∨ w = 6 ∨ w = 7 ∨ w = 8 ∨ w = 9 ∨ w = 10 ∨ w = 11 ∨ w = 12 ∨ w = 13 ∨ w = 14 ∨ w = 15 ∨ w = 16 ∨ w = 17 ∨ w = 18 ∨ w = 19 ∨ w = 20 ∨ w = 21 by omega) with rfl | rfl | rfl | rfl | rfl | rfl | rfl | rfl | rfl | rfl | rfl | rfl | rfl | rfl | rfl | rfl | rfl | rfl | rfl | rfl | rfl | rfl
        · refine aw_tab (tgt := 136) (off := 104) dL_law_32 ⟨by decide, by decide⟩ (by decide) (by decide) (by decide +kernel) (by decide) ?_
          exact lc_write hEN XE hL hL2 hI (by omega) inv J
        · refine aw_tab (tgt := 179) (off := 147) dL_law_32 ⟨by decide, by decide⟩ (by decide) (by decide) (by decide +kernel) (by decide) ?_
          exact lc_tick hEN XE hL hL2 hI (by omega) inv J
        · refine aw_tab (tgt := 202) (off := 170) dL_law_32 ⟨by decide, by decide⟩ (by decide) (by decide) (by decide +kernel) (by decide) ?_
          exact lc_cut hEN XE hL hL2 hI (by omega) inv J
        · refine aw_tab (tgt := 215) (off := 183) dL_law_32 ⟨by decide, by decide⟩ (by decide) (by decide) (by decide +kernel) (by decide) ?_
          exact lc_on hEN XE hL hL2 hI (by omega) inv J
        · refine aw_tab (tgt := 228) (off := 196) dL_law_32 ⟨by decide, by decide⟩ (by decide) (by decide) (by decide +kernel) (by decide) ?_
          exact lc_turn hEN XE hL hL2 hI (by omega) inv J
        · refine aw_tab (tgt := 241) (off := 209) dL_law_32 ⟨by decide, by decide⟩ (by decide) (by decide) (by decide +kernel) (by decide) ?_
          exact lc_clean hEN XE hL hL2 hI (by omega) inv J
        · refine aw_tab (tgt := 264) (off := 232) dL_law_32 ⟨by decide, by decide⟩ (by decide) (by decide) (by decide +kernel) (by decide) ?_
          exact lc_erase hEN XE hL hL2 hI (by omega) inv J
        · refine aw_tab (tgt := 287) (off := 255) dL_law_32 ⟨by decide, by decide⟩ (by decide) (by decide) (by decide +kernel) (by decide) ?_
          exact lc_slow hEN XE hL hL2 hI (by omega) inv J
        · refine aw_tab (tgt := 320) (off := 288) dL_law_32 ⟨by decide, by decide⟩ (by decide) (by decide) (by decide +kernel) (by decide) ?_
          exact lc_set hEN XE hL hL2 hI (by omega) inv J
        · refine aw_tab (tgt := 353) (off := 321) dL_law_32 ⟨by decide, by decide⟩ (by decide) (by decide) (by decide +kernel) (by decide) ?_
          exact lc_read hEN XE hL hL2 hI (by omega) inv J
        · refine aw_tab (tgt := 376) (off := 344) dL_law_32 ⟨by decide, by decide⟩ (by decide) (by decide) (by decide +kernel) (by decide) ?_
          exact lc_placeOf hEN XE hL hL2 hI (by omega) inv J
        · refine aw_tab (tgt := 409) (off := 377) dL_law_32 ⟨by decide, by decide⟩ (by decide) (by decide) (by decide +kernel) (by decide) ?_
          exact lc_pageOf hEN XE hL hL2 hI (by omega) inv J
        · refine aw_tab (tgt := 452) (off := 420) dL_law_32 ⟨by decide, by decide⟩ (by decide) (by decide) (by decide +kernel) (by decide) ?_
          exact lc_backupOf hEN XE hL hL2 hI (by omega) inv J
        · refine aw_tab (tgt := 495) (off := 463) dL_law_32 ⟨by decide, by decide⟩ (by decide) (by decide) (by decide +kernel) (by decide) ?_
          exact lc_waits hEN XE hL hL2 hI (by omega) inv J
        · refine aw_tab (tgt := 528) (off := 496) dL_law_32 ⟨by decide, by decide⟩ (by decide) (by decide) (by decide +kernel) (by decide) ?_
          exact lc_count hEN XE hL hL2 hI (by omega) inv J
        · refine aw_tab (tgt := 551) (off := 519) dL_law_32 ⟨by decide, by decide⟩ (by decide) (by decide) (by decide +kernel) (by decide) ?_
          exact lc_wouldLose hEN XE hL hL2 hI (by omega) inv J
        · refine aw_tab (tgt := 574) (off := 542) dL_law_32 ⟨by decide, by decide⟩ (by decide) (by decide) (by decide +kernel) (by decide) ?_
          exact lc_doneIn hEN XE hL hL2 hI (by omega) inv J
        · refine aw_tab (tgt := 587) (off := 555) dL_law_32 ⟨by decide, by decide⟩ (by decide) (by decide) (by decide +kernel) (by decide) ?_
          exact lc_undo hEN XE hL hL2 hI (by omega) inv J
        · refine aw_tab (tgt := 600) (off := 568) dL_law_32 ⟨by decide, by decide⟩ (by decide) (by decide) (by decide +kernel) (by decide) ?_
          exact lc_type hEN XE hL hL2 hI (by omega) inv J
        · refine aw_tab (tgt := 623) (off := 591) dL_law_32 ⟨by decide, by decide⟩ (by decide) (by decide) (by decide +kernel) (by decide) ?_
          exact lc_clearText hEN XE hL hL2 hI (by omega) inv J
        · refine aw_tab (tgt := 636) (off := 604) dL_law_32 ⟨by decide, by decide⟩ (by decide) (by decide) (by decide +kernel) (by decide) ?_
          exact lc_fault hEN XE hL hL2 hI (by omega) inv J
        · refine aw_tab (tgt := 659) (off := 627) dL_law_32 ⟨by decide, by decide⟩ (by decide) (by decide) (by decide +kernel) (by decide) ?_
          exact lc_play hEN XE hL hL2 hI (by omega) inv J
      · refine aw_tabD (tgt := 672) dL_law_32 hw (by omega) (by decide) ?_
        exact J _ _ (inv.le (by omega))
/-- the heap of what was there before alone -/
def hi0 (E : ET) : HI := fun a j => if a < 1000 then 0 else eX E (a - 1000) j
theorem hi0_z (E : ET) : ∀ a : Nat, a < 1000 → ∀ k : Nat, hi0 E a k = 0 := fun a ha k => by unfold hi0; rw [if_pos ha]
theorem hi0_x {E : ET} (XE : XH (fun a j => eX E (a - 1000) j)) : XH (hi0 E) := XE.of (fun a ha k => by unfold hi0; rw [if_neg (by omega)])
set_option maxRecDepth 100000 in
set_option maxHeartbeats 4000000 in
theorem law_aw (hEN : EN E) (XE : XH (fun a j => eX E (a - 1000) j)) (hL : L = eN E 5) (hL2 : L ≤ 2048) (hI : ∀ j : Nat, InR (eX E 5 j)) : AW E M_L_law 0 0 0 [some (aR 1005), none, none, none] [] (hi0 E) hA0 0 QL := by
  refine aw_new dL_law_0 ci8 (by decide) (by decide +kernel) kL_7 nwX8 itX8 (Nat.le_of_ble_eq_true rfl) (Nat.le_of_ble_eq_true rfl) ?_
  refine aw_dup dL_law_3 ?_
  refine aw_I0c dL_law_4 clL_9 ⟨by decide, by decide⟩ (k_X8 hEN) (Nat.le_of_ble_eq_true rfl) (Nat.le_of_ble_eq_true rfl) (by simp only [List.length_cons, List.length_nil]; omega) ?_
  refine aw_astore_n (ls2 := [some (aR 1005), some (aR 0), none, none]) dL_law_7 (by decide) rfl ?_
  refine aw_new dL_law_8 ci9 (by decide) (by decide +kernel) kL_10 nwX9 itX9 (Nat.le_of_ble_eq_true rfl) (Nat.le_of_ble_eq_true rfl) ?_
  refine aw_dup dL_law_11 ?_
  refine aw_I0c dL_law_12 clL_12 ⟨by decide, by decide⟩ k_X9 (Nat.le_of_ble_eq_true rfl) (Nat.le_of_ble_eq_true rfl) (by simp only [List.length_cons, List.length_nil]; omega) ?_
  refine aw_astore_n (ls2 := [some (aR 1005), some (aR 0), some (aR 125), none]) dL_law_15 (by decide) rfl ?_
  refine aw_room (cu2 := 131) (su2 := 3697) rfl rfl ?_
  have g := law_loop hEN XE hL hL2 hI L 0 (hiM (hiA (hi0 E))) hA7 (by omega) (by decide) (inv_start (hi0_z E) (hi0_x XE))
  refine aw_iconst dL_law_16 ?_
  refine aw_istore_n (ls2 := [_, _, _, _]) dL_law_17 (by decide) rfl ?_
  exact g
end LAW2
