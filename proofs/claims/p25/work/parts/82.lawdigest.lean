/-! the law: a number of all that can be asked -/
def dgv (s : Int → Int) (k : Int) : Int := if k = 16 ∨ k = 17 then 0 else cnF s 0 0 k
def dg1 (s : Int → Int) : Nat → Int64
  | 0 => 67
  | k + 1 => 31 * dg1 s k + (Int32.ofInt (dgv s (k : Int))).toInt64
def dg2 (s : Int → Int) : Nat → Int64
  | 0 => dg1 s 38
  | k + 1 => 31 * dg2 s k + (Int32.ofInt (pgF s ((k : Int) / 64) ((k : Int) / 4 % 16) ((k : Int) % 4))).toInt64
def dg3 (s : Int → Int) : Nat → Int64
  | 0 => dg2 s 128
  | k + 1 => 31 * dg3 s k + (Int32.ofInt (bpF s ((k : Int) / 32) ((k : Int) / 4 % 8) ((k : Int) % 4))).toInt64
def dg4 (s : Int → Int) : Nat → Int64
  | 0 => dg3 s 64
  | k + 1 => 31 * dg4 s k + (Int32.ofInt (wtF s ((k : Int) / 3) ((k : Int) % 3))).toInt64
def DG (s : Int → Int) : Int64 := dg4 s 24
theorem cn_n (s : Int → Int) (n len n2 len2 : Int) {w : Int} (h1 : ¬ w = 16) (h2 : ¬ w = 17) : cnF s n len w = cnF s n2 len2 w := by
  unfold cnF
  by_cases c : 0 ≤ w ∧ w ≤ 17
  · rw [if_pos c, if_pos c]
    unfold ctF
    by_cases c1 : w = 0 ∨ w = 2
    · rw [if_pos c1, if_pos c1]
    · rw [if_neg c1, if_neg c1]
      by_cases c2 : w = 1
      · rw [if_pos c2, if_pos c2]
      · rw [if_neg c2, if_neg c2]
        by_cases c3 : w = 3
        · rw [if_pos c3, if_pos c3]
        · rw [if_neg c3, if_neg c3]
          by_cases c4 : w = 4
          · rw [if_pos c4, if_pos c4]
          · rw [if_neg c4, if_neg c4]
            by_cases c5 : w = 5
            · rw [if_pos c5, if_pos c5]
            · rw [if_neg c5, if_neg c5]
              by_cases c6 : w = 6
              · rw [if_pos c6, if_pos c6]
              · rw [if_neg c6, if_neg c6]
                by_cases c7 : 7 ≤ w ∧ w ≤ 9
                · rw [if_pos c7, if_pos c7]
                · rw [if_neg c7, if_neg c7]
                  by_cases c8 : w = 10
                  · rw [if_pos c8, if_pos c8]
                  · rw [if_neg c8, if_neg c8]
                    by_cases c9 : w = 11
                    · rw [if_pos c9, if_pos c9]
                    · rw [if_neg c9, if_neg c9]
                      by_cases d1 : w = 12 ∨ w = 13
                      · rw [if_pos d1, if_pos d1]
                      · rw [if_neg d1, if_neg d1, if_pos (show w = 14 ∨ w = 15 by omega), if_pos (show w = 14 ∨ w = 15 by omega)]
  · rw [if_neg c, if_neg c]
section DIG
variable {E : ET} {hi : HI} {hr : HR} {q : Nat → Nat} {m : Int} {s : Int → Int} {P : Nat → Int → Int}
set_option maxRecDepth 100000 in
set_option maxHeartbeats 4000000 in
theorem c_L_digest (c : CIv hr hi q m s P) (hEN : EN E) (hBK : BK s) : AMet E M_L_digest [aR 0] hi hr 125 (EX (some (aL (DG s))) hi hr 125) := by
  refine am_of (by decide +kernel) (Nat.le_of_ble_eq_true rfl) ?_
  have l4 : ∀ (d k : Nat), k + d = 24 → AW E M_L_digest 0 0 128 [some (aR 0), some (aL (dg4 s k)), none, some (aI (k : Int))] [] hi hr 125 (EX (some (aL (DG s))) hi hr 125) := by
    intro d
    induction d with
    | zero =>
      intro k hk
      have ek : k = 24 := by omega
      subst ek
      refine aw_iload_n dL_digest_128 rfl ?_
      refine aw_bipush dL_digest_129 (by decide) ?_
      refine aw_ic_ge (tgt := 158) dL_digest_131 (by decide) ⟨by omega, by omega⟩ ⟨by decide, by decide⟩ (fun h131 => ?_) (fun h131 => ?_)
      · refine aw_lload_n dL_digest_158 rfl ?_
        refine aw_lret dL_digest_159 rfl (by decide) (by decide) ?_
        exact EX.rf
      · exact absurd h131 (by omega)
    | succ d ih =>
      intro k hk
      refine aw_iload_n dL_digest_128 rfl ?_
      refine aw_bipush dL_digest_129 (by decide) ?_
      refine aw_ic_ge (tgt := 158) dL_digest_131 (by decide) ⟨by omega, by omega⟩ ⟨by decide, by decide⟩ (fun h131 => ?_) (fun h131 => ?_)
      · exact absurd h131 (by omega)
      · refine aw_ldc2 dL_digest_134 w_kL11 ?_
        refine aw_lload_n dL_digest_137 rfl ?_
        refine aw_lmul dL_digest_138 ?_
        refine aw_aload_n dL_digest_139 rfl ?_
        refine aw_iload_n dL_digest_140 rfl ?_
        refine aw_iconst dL_digest_141 ?_
        refine aw_idiv dL_digest_142 (by omega) ⟨by omega, by omega⟩ (by decide) ⟨by decide, by decide⟩ ?_
        refine aw_iload_n dL_digest_143 rfl ?_
        refine aw_iconst dL_digest_144 ?_
        refine aw_irem dL_digest_145 (by omega) ⟨by omega, by omega⟩ (by decide) ⟨by decide, by decide⟩ ?_
        refine aw_V2x dL_digest_146 clL_26 ⟨by decide, by decide⟩ (c := 8) (N := 5) (by decide) (by decide +kernel) rfl (c_X8_waits c ⟨by omega, by omega⟩ ⟨by omega, by omega⟩) (by decide) (by decide) rfl rfl (by simp only [List.length_cons, List.length_nil]; omega) ?_
        refine aw_i2l dL_digest_149 ?_
        refine aw_ladd dL_digest_150 ?_
        refine aw_lstore_n (ls2 := [_, _, _, _]) dL_digest_151 (by decide) rfl ?_
        refine aw_iinc (ls2 := [_, _, _, _]) dL_digest_152 rfl (by decide) rfl ?_
        refine aw_goto (tgt := 128) dL_digest_155 (by decide) ?_
        have g := ih (k + 1) (by omega)
        have e : ((k + 1 : Nat) : Int) = (k : Int) + 1 := by omega
        rw [e] at g
        exact g
  have l3 : ∀ (d k : Nat), k + d = 64 → AW E M_L_digest 0 0 89 [some (aR 0), some (aL (dg3 s k)), none, some (aI (k : Int))] [] hi hr 125 (EX (some (aL (DG s))) hi hr 125) := by
    intro d
    induction d with
    | zero =>
      intro k hk
      have ek : k = 64 := by omega
      subst ek
      refine aw_iload_n dL_digest_89 rfl ?_
      refine aw_bipush dL_digest_90 (by decide) ?_
      refine aw_ic_ge (tgt := 126) dL_digest_92 (by decide) ⟨by omega, by omega⟩ ⟨by decide, by decide⟩ (fun h92 => ?_) (fun h92 => ?_)
      · refine aw_iconst dL_digest_126 ?_
        refine aw_istore_n (ls2 := [_, _, _, _]) dL_digest_127 (by decide) rfl ?_
        exact l4 _ 0 (Nat.zero_add _)
      · exact absurd h92 (by omega)
    | succ d ih =>
      intro k hk
      refine aw_iload_n dL_digest_89 rfl ?_
      refine aw_bipush dL_digest_90 (by decide) ?_
      refine aw_ic_ge (tgt := 126) dL_digest_92 (by decide) ⟨by omega, by omega⟩ ⟨by decide, by decide⟩ (fun h92 => ?_) (fun h92 => ?_)
      · exact absurd h92 (by omega)
      · refine aw_ldc2 dL_digest_95 w_kL11 ?_
        refine aw_lload_n dL_digest_98 rfl ?_
        refine aw_lmul dL_digest_99 ?_
        refine aw_aload_n dL_digest_100 rfl ?_
        refine aw_iload_n dL_digest_101 rfl ?_
        refine aw_bipush dL_digest_102 (by decide) ?_
        refine aw_idiv dL_digest_104 (by omega) ⟨by omega, by omega⟩ (by decide) ⟨by decide, by decide⟩ ?_
        refine aw_iload_n dL_digest_105 rfl ?_
        refine aw_iconst dL_digest_106 ?_
        refine aw_idiv dL_digest_107 (by omega) ⟨by omega, by omega⟩ (by decide) ⟨by decide, by decide⟩ ?_
        refine aw_bipush dL_digest_108 (by decide) ?_
        refine aw_irem dL_digest_110 (by omega) ⟨by omega, by omega⟩ (by decide) ⟨by decide, by decide⟩ ?_
        refine aw_iload_n dL_digest_111 rfl ?_
        refine aw_iconst dL_digest_112 ?_
        refine aw_irem dL_digest_113 (by omega) ⟨by omega, by omega⟩ (by decide) ⟨by decide, by decide⟩ ?_
        refine aw_V3x dL_digest_114 clL_23 ⟨by decide, by decide⟩ (c := 8) (N := 5) (by decide) (by decide +kernel) rfl (c_X8_backupOf c ⟨by omega, by omega⟩ ⟨by omega, by omega⟩ ⟨by omega, by omega⟩) (by decide) (by decide) rfl rfl (by simp only [List.length_cons, List.length_nil]; omega) ?_
        refine aw_i2l dL_digest_117 ?_
        refine aw_ladd dL_digest_118 ?_
        refine aw_lstore_n (ls2 := [_, _, _, _]) dL_digest_119 (by decide) rfl ?_
        refine aw_iinc (ls2 := [_, _, _, _]) dL_digest_120 rfl (by decide) rfl ?_
        refine aw_goto (tgt := 89) dL_digest_123 (by decide) ?_
        have g := ih (k + 1) (by omega)
        have e : ((k + 1 : Nat) : Int) = (k : Int) + 1 := by omega
        rw [e] at g
        exact g
  have l2 : ∀ (d k : Nat), k + d = 128 → AW E M_L_digest 0 0 49 [some (aR 0), some (aL (dg2 s k)), none, some (aI (k : Int))] [] hi hr 125 (EX (some (aL (DG s))) hi hr 125) := by
    intro d
    induction d with
    | zero =>
      intro k hk
      have ek : k = 128 := by omega
      subst ek
      refine aw_iload_n dL_digest_49 rfl ?_
      refine aw_sipush dL_digest_50 (by decide) ?_
      refine aw_ic_ge (tgt := 87) dL_digest_53 (by decide) ⟨by omega, by omega⟩ ⟨by decide, by decide⟩ (fun h53 => ?_) (fun h53 => ?_)
      · refine aw_iconst dL_digest_87 ?_
        refine aw_istore_n (ls2 := [_, _, _, _]) dL_digest_88 (by decide) rfl ?_
        exact l3 _ 0 (Nat.zero_add _)
      · exact absurd h53 (by omega)
    | succ d ih =>
      intro k hk
      refine aw_iload_n dL_digest_49 rfl ?_
      refine aw_sipush dL_digest_50 (by decide) ?_
      refine aw_ic_ge (tgt := 87) dL_digest_53 (by decide) ⟨by omega, by omega⟩ ⟨by decide, by decide⟩ (fun h53 => ?_) (fun h53 => ?_)
      · exact absurd h53 (by omega)
      · refine aw_ldc2 dL_digest_56 w_kL11 ?_
        refine aw_lload_n dL_digest_59 rfl ?_
        refine aw_lmul dL_digest_60 ?_
        refine aw_aload_n dL_digest_61 rfl ?_
        refine aw_iload_n dL_digest_62 rfl ?_
        refine aw_bipush dL_digest_63 (by decide) ?_
        refine aw_idiv dL_digest_65 (by omega) ⟨by omega, by omega⟩ (by decide) ⟨by decide, by decide⟩ ?_
        refine aw_iload_n dL_digest_66 rfl ?_
        refine aw_iconst dL_digest_67 ?_
        refine aw_idiv dL_digest_68 (by omega) ⟨by omega, by omega⟩ (by decide) ⟨by decide, by decide⟩ ?_
        refine aw_bipush dL_digest_69 (by decide) ?_
        refine aw_irem dL_digest_71 (by omega) ⟨by omega, by omega⟩ (by decide) ⟨by decide, by decide⟩ ?_
        refine aw_iload_n dL_digest_72 rfl ?_
        refine aw_iconst dL_digest_73 ?_
        refine aw_irem dL_digest_74 (by omega) ⟨by omega, by omega⟩ (by decide) ⟨by decide, by decide⟩ ?_
        refine aw_V3x dL_digest_75 clL_19 ⟨by decide, by decide⟩ (c := 8) (N := 5) (by decide) (by decide +kernel) rfl (c_X8_pageOf c hEN ⟨by omega, by omega⟩ ⟨by omega, by omega⟩ ⟨by omega, by omega⟩) (by decide) (by decide) rfl rfl (by simp only [List.length_cons, List.length_nil]; omega) ?_
        refine aw_i2l dL_digest_78 ?_
        refine aw_ladd dL_digest_79 ?_
        refine aw_lstore_n (ls2 := [_, _, _, _]) dL_digest_80 (by decide) rfl ?_
        refine aw_iinc (ls2 := [_, _, _, _]) dL_digest_81 rfl (by decide) rfl ?_
        refine aw_goto (tgt := 49) dL_digest_84 (by decide) ?_
        have g := ih (k + 1) (by omega)
        have e : ((k + 1 : Nat) : Int) = (k : Int) + 1 := by omega
        rw [e] at g
        exact g
  have l1 : ∀ (d k : Nat), k + d = 38 → AW E M_L_digest 0 0 6 [some (aR 0), some (aL (dg1 s k)), none, some (aI (k : Int))] [] hi hr 125 (EX (some (aL (DG s))) hi hr 125) := by
    intro d
    induction d with
    | zero =>
      intro k hk
      have ek : k = 38 := by omega
      subst ek
      refine aw_iload_n dL_digest_6 rfl ?_
      refine aw_bipush dL_digest_7 (by decide) ?_
      refine aw_ic_ge (tgt := 47) dL_digest_9 (by decide) ⟨by omega, by omega⟩ ⟨by decide, by decide⟩ (fun h9 => ?_) (fun h9 => ?_)
      · refine aw_iconst dL_digest_47 ?_
        refine aw_istore_n (ls2 := [_, _, _, _]) dL_digest_48 (by decide) rfl ?_
        exact l2 _ 0 (Nat.zero_add _)
      · exact absurd h9 (by omega)
    | succ d ih =>
      intro k hk
      refine aw_iload_n dL_digest_6 rfl ?_
      refine aw_bipush dL_digest_7 (by decide) ?_
      refine aw_ic_ge (tgt := 47) dL_digest_9 (by decide) ⟨by omega, by omega⟩ ⟨by decide, by decide⟩ (fun h9 => ?_) (fun h9 => ?_)
      · exact absurd h9 (by omega)
      · refine aw_ldc2 dL_digest_12 w_kL11 ?_
        refine aw_lload_n dL_digest_15 rfl ?_
        refine aw_lmul dL_digest_16 ?_
        refine aw_iload_n dL_digest_17 rfl ?_
        refine aw_bipush dL_digest_18 (by decide) ?_
        refine aw_ic_eq (tgt := 29) dL_digest_20 (by decide) ⟨by omega, by omega⟩ ⟨by decide, by decide⟩ (fun h20 => ?_) (fun h20 => ?_)
        · refine aw_iconst dL_digest_29 ?_
          refine aw_goto (tgt := 38) dL_digest_30 (by decide) ?_
          refine aw_i2l dL_digest_38 ?_
          refine aw_ladd dL_digest_39 ?_
          refine aw_lstore_n (ls2 := [_, _, _, _]) dL_digest_40 (by decide) rfl ?_
          refine aw_iinc (ls2 := [_, _, _, _]) dL_digest_41 rfl (by decide) rfl ?_
          refine aw_goto (tgt := 6) dL_digest_44 (by decide) ?_
          have g := ih (k + 1) (by omega)
          have e : ((k + 1 : Nat) : Int) = (k : Int) + 1 := by omega
          rw [e] at g
          have ev : dgv s (k : Int) = 0 := if_pos (Or.inl h20)
          have e2 : dg1 s (k + 1) = 31 * dg1 s k + (Int32.ofInt (0)).toInt64 := by
            show 31 * dg1 s k + (Int32.ofInt (dgv s (k : Int))).toInt64 = _
            rw [ev]
          rw [e2] at g
          exact g
        · refine aw_iload_n dL_digest_23 rfl ?_
          refine aw_bipush dL_digest_24 (by decide) ?_
          refine aw_ic_ne (tgt := 33) dL_digest_26 (by decide) ⟨by omega, by omega⟩ ⟨by decide, by decide⟩ (fun h26 => ?_) (fun h26 => ?_)
          · refine aw_aload_n dL_digest_33 rfl ?_
            refine aw_iload_n dL_digest_34 rfl ?_
            refine aw_V1x dL_digest_35 clL_13 ⟨by decide, by decide⟩ (c := 8) (N := 5) (by decide) (by decide +kernel) rfl (c_X8_count c hBK ⟨by omega, by omega⟩) (by decide) (by decide) rfl rfl (by simp only [List.length_cons, List.length_nil]; omega) ?_
            refine aw_i2l dL_digest_38 ?_
            refine aw_ladd dL_digest_39 ?_
            refine aw_lstore_n (ls2 := [_, _, _, _]) dL_digest_40 (by decide) rfl ?_
            refine aw_iinc (ls2 := [_, _, _, _]) dL_digest_41 rfl (by decide) rfl ?_
            refine aw_goto (tgt := 6) dL_digest_44 (by decide) ?_
            have g := ih (k + 1) (by omega)
            have e : ((k + 1 : Nat) : Int) = (k : Int) + 1 := by omega
            rw [e] at g
            have ev : dgv s (k : Int) = cnF s m (hi 122 1) (k : Int) := (if_neg (fun z => z.elim h20 h26)).trans (cn_n s _ _ _ _ h20 h26)
            have e2 : dg1 s (k + 1) = 31 * dg1 s k + (Int32.ofInt (cnF s m (hi 122 1) (k : Int))).toInt64 := by
              show 31 * dg1 s k + (Int32.ofInt (dgv s (k : Int))).toInt64 = _
              rw [ev]
            rw [e2] at g
            exact g
          · refine aw_iconst dL_digest_29 ?_
            refine aw_goto (tgt := 38) dL_digest_30 (by decide) ?_
            refine aw_i2l dL_digest_38 ?_
            refine aw_ladd dL_digest_39 ?_
            refine aw_lstore_n (ls2 := [_, _, _, _]) dL_digest_40 (by decide) rfl ?_
            refine aw_iinc (ls2 := [_, _, _, _]) dL_digest_41 rfl (by decide) rfl ?_
            refine aw_goto (tgt := 6) dL_digest_44 (by decide) ?_
            have g := ih (k + 1) (by omega)
            have e : ((k + 1 : Nat) : Int) = (k : Int) + 1 := by omega
            rw [e] at g
            have ev : dgv s (k : Int) = 0 := if_pos (Or.inr h26)
            have e2 : dg1 s (k + 1) = 31 * dg1 s k + (Int32.ofInt (0)).toInt64 := by
              show 31 * dg1 s k + (Int32.ofInt (dgv s (k : Int))).toInt64 = _
              rw [ev]
            rw [e2] at g
            exact g
  refine aw_ldc2 dL_digest_0 w_kL9 ?_
  refine aw_lstore_n (ls2 := [_, _, _, _]) dL_digest_3 (by decide) rfl ?_
  refine aw_iconst dL_digest_4 ?_
  refine aw_istore_n (ls2 := [_, _, _, _]) dL_digest_5 (by decide) rfl ?_
  exact l1 38 0 (Nat.zero_add _)
end DIG
