/-! the law: an act -/
section NEE
variable {E : ET} {M : MT} {cu su pc : Nat} {ls : List (Option AV)} {st : List AV} {hi : HI} {hr : HR} {n : Nat} {Q : QT}
theorem aw_ic_neE {off : Int} {tgt : Nat} {x y : Int} (hd : decode (mC M) pc = .ok (.if_icmp .ne off, 3)) (ht : (pc : Int) + off = (tgt : Int)) (hxy : x = y) (k : AW E M cu su (pc + 3) ls st hi hr n Q) : AW E M cu su pc ls (aI y :: aI x :: st) hi hr n Q := by
  intro p e s m args below meth c H locs lsA C hC hL hR
  subst hxy
  exact lv_icmp_ne C.1 C.2.1 hd ht (fun q => absurd rfl q) (fun _ => k p e s m args below meth c H locs lsA C hC hL hR)
end NEE
theorem OX.as {s : Int → Int} {n : Int} (h : OX s n) (k v u : Int) : OX (asF s k v u).2 (n + 61) := OX.le (n := n) ⟨h.1.as _ _ _, h.2.1.as h.1.1 _ _ _, h.2.2.as h.1.1 _ _ _⟩ (by omega)
theorem OX.lt {s : Int → Int} {n : Int} (h : OX s n) (k : Int) : OX (ltF s k).2 (n + 61) := OX.le (n := n) ⟨h.1.lt _, h.2.1.lt h.1.1 _, h.2.2.lt h.1.1 h.1.2.2.2.2 _⟩ (by omega)
theorem OX.of {s : Int → Int} {n : Int} (h : OX s n) : OX (ofF s).2 (n + 61) := OX.le (n := n) ⟨h.1.of, h.2.1.of2 h.1.1, h.2.2.of2 h.1.1⟩ (by omega)
theorem OX.op {s : Int → Int} {n : Int} (h : OX s n) : OX (opF s).2 (n + 61) := OX.le (n := n) ⟨h.1.op, h.2.1.op h.1.1, h.2.2.op h.1.1⟩ (by omega)
theorem OX.ch {s : Int → Int} {n : Int} (h : OX s n) : OX (chF s).2 (n + 61) := OX.le (n := n) ⟨h.1.ch, h.2.1.ch, h.2.2.ch h.1.1⟩ (by omega)
theorem OX.cl {s : Int → Int} {n : Int} (h : OX s n) (b : Int) : OX (clF s b).2 (n + 61) := OX.le (n := n) ⟨h.1.cl _, h.2.1.cl h.1.1 _, h.2.2.cl h.1.1 _⟩ (by omega)
theorem OX.er {s : Int → Int} {n : Int} (h : OX s n) (hn : n < 100000) (b : Int) : OX (erF s b).2 (n + 61) := OX.le (n := n + 1) ⟨h.1.er hn _, h.2.1.er _, h.2.2.er h.1.1 _⟩ (by omega)
theorem OX.sl {s : Int → Int} {n : Int} (h : OX s n) (w t : Int) : OX (slF s w t).2 (n + 61) := OX.le (n := n) ⟨h.1.sl _ _, h.2.1.sl _ _, h.2.2.sl h.1.1 _ _⟩ (by omega)
theorem OX.se {s : Int → Int} {n : Int} (h : OX s n) (w v : Int) : OX (seF s w v).2 (n + 61) := OX.le (n := n) ⟨h.1.se _ _, h.2.1.se _ _, h.2.2.se h.1.1 _ _⟩ (by omega)
theorem sl_v {s : Int → Int} {w t : Int} (w0 : 0 ≤ w) (t0 : 0 ≤ t) : (slF s w t).1 = if w ≤ 7 ∧ t ≤ 5 then s (12 + w) else -1 := by
  unfold slF
  by_cases c : w ≤ 7 ∧ t ≤ 5
  · rw [if_pos ⟨w0, c.1, t0, c.2⟩, if_pos c]
  · rw [if_neg (fun g => c ⟨g.2.1, g.2.2.2⟩), if_neg c]
theorem se_v {s : Int → Int} {w v : Int} (w0 : 0 ≤ w) (v0 : 0 ≤ v) (v7 : v ≤ 7) : (seF s w v).1 = if w ≤ 3 ∧ (w = 2 → v ≤ 1) ∧ (¬ w = 2 → ¬ v = 0) then s (20 + w) else -1 := by
  have e : (0 ≤ w ∧ w ≤ 3 ∧ (if w = 2 then 0 else 1) ≤ v ∧ v ≤ moF w) ↔ (w ≤ 3 ∧ (w = 2 → v ≤ 1) ∧ (¬ w = 2 → ¬ v = 0)) := by
    unfold moF
    by_cases c : w = 2
    · rw [if_pos c, if_neg (by omega), if_neg (by omega), if_pos c]
      exact ⟨fun g => ⟨g.2.1, fun _ => g.2.2.2, fun z => absurd c z⟩, fun g => ⟨w0, g.1, v0, g.2.1 c⟩⟩
    · rw [if_neg c]
      refine ⟨fun g => ⟨g.2.1, fun z => absurd z c, fun _ => by omega⟩, fun g => ⟨w0, g.1, by have := g.2.2 c; omega, ?_⟩⟩
      (repeat' split) <;> omega
  unfold seF
  by_cases c : w ≤ 3 ∧ (w = 2 → v ≤ 1) ∧ (¬ w = 2 → ¬ v = 0)
  · rw [if_pos (e.mpr c), if_pos c]
  · rw [if_neg (fun g => c (e.mp g)), if_neg c]
/-- where no key is in a block -/
def nkA (s : Int → Int) (b : Int) : Nat → Int
  | 0 => 1
  | k + 1 => if nkA s b k = 1 ∧ ¬ poF s (k : Int) 0 = b then 1 else 0
theorem nkA_s (s : Int → Int) (b : Int) : ∀ k : Nat, nkA s b k = 0 ∨ nkA s b k = 1 := by
  intro k
  cases k with
  | zero => exact Or.inr rfl
  | succ k => unfold nkA; split <;> simp
theorem nkA_1 (s : Int → Int) (b : Int) : ∀ k : Nat, nkA s b k = 1 ↔ ∀ j : Int, 0 ≤ j → j < k → ¬ poF s j 0 = b := by
  intro k
  induction k with
  | zero => exact ⟨fun _ j j0 j1 => by omega, fun _ => rfl⟩
  | succ k ih =>
    unfold nkA
    by_cases c : nkA s b k = 1 ∧ ¬ poF s (k : Int) 0 = b
    · rw [if_pos c]
      refine ⟨fun _ j j0 j1 => ?_, fun _ => rfl⟩
      by_cases e : j = (k : Int)
      · rw [e]; exact c.2
      · exact ih.mp c.1 j j0 (by omega)
    · rw [if_neg c]
      refine ⟨fun g => absurd g (by decide), fun g => absurd ⟨ih.mpr (fun j j0 j1 => g j j0 (by omega)), g (k : Int) (by omega) (by omega)⟩ c⟩
theorem ct_0 (s : Int → Int) (b : Int) : ∀ k : Nat, ctA s b k = 0 ↔ ∀ j : Nat, j < k → ipF s (24 * b + (j : Int)) = 0 := by
  intro k
  induction k with
  | zero => exact ⟨fun _ j h => absurd h (Nat.not_lt_zero j), fun _ => rfl⟩
  | succ k ih =>
    have hc := ctA_b s b k
    have hi := ip_b s (24 * b + (k : Int))
    have e : ctA s b (k + 1) = ctA s b k + ipF s (24 * b + (k : Int)) := rfl
    rw [e]
    refine ⟨fun g j hj => ?_, fun g => ?_⟩
    · by_cases d : j = k
      · subst d; omega
      · exact ih.mp (by omega) j (by omega)
    · have g1 := ih.mpr (fun j hj => g j (by omega))
      have g2 := g k (by omega)
      omega
theorem nk_ct {s : Int → Int} (hM : MI s) (hK : SK s) {b : Int} (hb : b = 0 ∨ b = 1) : nkA s b 12 = 1 ↔ ctA s b 24 = 0 := by
  rw [nkA_1, ct_0]
  refine ⟨fun g j hj => ?_, fun g j j0 j1 e => ?_⟩
  · rcases ip_b s (24 * b + (j : Int)) with q | q
    · exact q
    · exfalso
      obtain ⟨i1, i2⟩ := ip_2 q
      have bb := atI_b (c := 24 * b + (j : Int)) (by omega) (by omega)
      have k1 := hK.key (c := 24 * b + (j : Int)) (by omega) (by omega) i1
      have k0 := hM.z (atI (24 * b + (j : Int)) + 1) (by unfold xc; omega)
      have p := po_is (s := s) (key := s (atI (24 * b + (j : Int)) + 1)) (by omega) k0 k1
      exact g _ k0 (by omega) (by rw [p.1, i2]; omega)
  · rcases plc_k (s := s) j with f | ⟨f1, f2, f3, f4, f5⟩
    · rw [po_no f j0 (by omega) (by decide) (by decide)] at e; omega
    · have p := po_is (s := s) (key := j) f1 j0 (by omega)
      rw [p.1] at e
      have q := g (plc s j - 24 * b).toNat (by omega)
      rw [show 24 * b + ((plc s j - 24 * b).toNat : Int) = plc s j by omega] at q
      unfold ipF at q
      rw [if_pos ⟨f3, by rw [f4]⟩] at q
      exact absurd q (by decide)
theorem blA_b (s : Int → Int) (b : Int) : ∀ k : Nat, blA s b k = 0 ∨ blA s b k = 1 := by
  intro k
  cases k with
  | zero => exact Or.inr rfl
  | succ k => unfold blA; split <;> simp
section ACT
variable {E : ET} {hi : HI} {hr : HR} {m : Int} {s : Int → Int} {P : Nat → Int → Int} {n : Int}
set_option maxRecDepth 100000 in
set_option maxHeartbeats 4000000 in
theorem la_write (hEN : EN E) (w : NV hi hr m s P n) (hn : n + 61 ≤ 100000) {x y how : Int} : AW E M_L_acts 0 0 28 [some (aR 0), some (aI x), some (aI y), some (aI how), some (aI (s 1)), none, none, none, none, none, none, none, none] [] hi hr 125 (PI (fun v h2 r2 n2 => n2 = 125 ∧ v = 1 ∧ ∃ (m2 : Int) (s2 : Int → Int) (P2 : Nat → Int → Int), NV h2 r2 m2 s2 P2 (n + 61) ∧ STEP m s P m2 s2 P2)) := by
  have o := w.2.1
  have hM := o.1.1
  have hb := hM.2.1
  have h1 := hM.2.2.2.2.2.1
  have h8 := hM.2.2.1
  have z11 := hM.z 11 (by unfold xc; omega)
  have z0 := hM.z 0 (by unfold xc; omega)
  have t9 := o.1.2.1
  have iw := iw_b s
  obtain ⟨q, c⟩ := w.1
  refine aw_iload_n dL_acts_28 rfl ?_
  refine aw_bipush dL_acts_29 (by decide) ?_
  refine aw_S2i dL_acts_31 clL_38 ⟨by decide, by decide⟩ (c_L_low (by decide) (by decide)) (by decide) (by decide) rfl rfl (by simp only [List.length_cons, List.length_nil]; omega) (fun v_31 h_31 r_31 n_31 q_31 => ?_)
  obtain ⟨rfl, rfl, rfl, e31, g31⟩ := q_31
  refine aw_istore (ls2 := [_, _, _, _, _, _, _, _, _, _, _, _, _]) dL_acts_34 (by decide) rfl ?_
  refine aw_iload_n dL_acts_36 rfl ?_
  refine aw_iconst dL_acts_37 ?_
  refine aw_shrX dL_acts_38 (fun j38 j38r => ?_)
  refine aw_sipush dL_acts_39 (by decide) ?_
  refine aw_S2i dL_acts_42 clL_38 ⟨by decide, by decide⟩ (c_L_low (by decide) (by decide)) (by decide) (by decide) rfl rfl (by simp only [List.length_cons, List.length_nil]; omega) (fun v_42 h_42 r_42 n_42 q_42 => ?_)
  obtain ⟨rfl, rfl, rfl, e42, g42⟩ := q_42
  refine aw_istore (ls2 := [_, _, _, _, _, _, _, _, _, _, _, _, _]) dL_acts_45 (by decide) rfl ?_
  refine aw_iload_n dL_acts_47 rfl ?_
  refine aw_bipush dL_acts_48 (by decide) ?_
  refine aw_shrX dL_acts_50 (fun j50 j50r => ?_)
  refine aw_iconst dL_acts_51 ?_
  refine aw_S2i dL_acts_52 clL_38 ⟨by decide, by decide⟩ (c_L_low (by decide) (by decide)) (by decide) (by decide) rfl rfl (by simp only [List.length_cons, List.length_nil]; omega) (fun v_52 h_52 r_52 n_52 q_52 => ?_)
  obtain ⟨rfl, rfl, rfl, e52, g52⟩ := q_52
  refine aw_istore (ls2 := [_, _, _, _, _, _, _, _, _, _, _, _, _]) dL_acts_55 (by decide) rfl ?_
  refine aw_aload_n dL_acts_57 rfl ?_
  refine aw_iconst dL_acts_58 ?_
  refine aw_V1x dL_acts_59 clL_13 ⟨by decide, by decide⟩ (c := 8) (N := 5) (by decide) (by decide +kernel) rfl (t_count w (k := 4) (v := s 11) ⟨by decide, by decide⟩ (by simp [cnF, ctF])) (by decide) (by decide) rfl rfl (by simp only [List.length_cons, List.length_nil]; omega) ?_
  refine aw_istore (ls2 := [_, _, _, _, _, _, _, _, _, _, _, _, _]) dL_acts_62 (by decide) rfl ?_
  refine aw_aload_n dL_acts_64 rfl ?_
  refine aw_iload dL_acts_65 rfl ?_
  refine aw_iload dL_acts_67 rfl ?_
  refine aw_iload dL_acts_69 rfl ?_
  refine aw_V3i dL_acts_71 clL_55 ⟨by decide, by decide⟩ (c := 8) (N := 5) (by decide) (by decide +kernel) rfl (c_X8_write c ⟨by omega, by omega⟩ ⟨by omega, by omega⟩ ⟨by omega, by omega⟩) (by decide) (by decide) rfl rfl (by simp only [List.length_cons, List.length_nil]; omega) (fun v_71 h_71 r_71 n_71 q_71 => ?_)
  obtain ⟨rfl, pq⟩ := q_71
  obtain ⟨ev, m2, P2, w2, st⟩ := w.post pq (e_as hM _ _ _) (o.as _ _ _) (by omega)
  rw [as_v hM] at ev
  refine aw_iload dL_acts_74 rfl ?_
  refine aw_bipush dL_acts_76 (by decide) ?_
  refine aw_ic_eq (tgt := 95) dL_acts_78 (by decide) ⟨by omega, by omega⟩ ⟨by decide, by decide⟩ (fun h78 => ?_) (fun h78 => ?_)
  · refine aw_iconst dL_acts_95 ?_
    refine aw_goto (tgt := 125) dL_acts_96 (by decide) ?_
    refine aw_ic_neE (tgt := 132) dL_acts_125 (by decide) (by rw [ev]; (repeat' split) <;> omega) ?_
    refine aw_iconst dL_acts_128 ?_
    refine aw_goto (tgt := 133) dL_acts_129 (by decide) ?_
    refine aw_zret dL_acts_133 rfl (Or.inr rfl) (by decide) (by decide) ?_
    exact ⟨_, rfl, rfl, rfl, m2, _, P2, w2, st⟩
  · refine aw_iload dL_acts_81 rfl ?_
    refine aw_sipush dL_acts_83 (by decide) ?_
    refine aw_ic_eq (tgt := 95) dL_acts_86 (by decide) ⟨by omega, by omega⟩ ⟨by decide, by decide⟩ (fun h86 => ?_) (fun h86 => ?_)
    · refine aw_iconst dL_acts_95 ?_
      refine aw_goto (tgt := 125) dL_acts_96 (by decide) ?_
      refine aw_ic_neE (tgt := 132) dL_acts_125 (by decide) (by rw [ev]; (repeat' split) <;> omega) ?_
      refine aw_iconst dL_acts_128 ?_
      refine aw_goto (tgt := 133) dL_acts_129 (by decide) ?_
      refine aw_zret dL_acts_133 rfl (Or.inr rfl) (by decide) (by decide) ?_
      exact ⟨_, rfl, rfl, rfl, m2, _, P2, w2, st⟩
    · refine aw_iload dL_acts_89 rfl ?_
      refine aw_iconst dL_acts_91 ?_
      refine aw_ic_ne (tgt := 99) dL_acts_92 (by decide) ⟨by omega, by omega⟩ ⟨by decide, by decide⟩ (fun h92 => ?_) (fun h92 => ?_)
      · refine aw_iload dL_acts_99 rfl ?_
        refine aw_if_eq (tgt := 109) dL_acts_101 (by decide) ⟨by omega, by omega⟩ (fun h101 => ?_) (fun h101 => ?_)
        · refine aw_iload dL_acts_109 rfl ?_
          refine aw_bipush dL_acts_111 (by decide) ?_
          refine aw_ic_ne (tgt := 121) dL_acts_113 (by decide) ⟨by omega, by omega⟩ ⟨by decide, by decide⟩ (fun h113 => ?_) (fun h113 => ?_)
          · refine aw_iload dL_acts_121 rfl ?_
            refine aw_iconst dL_acts_123 ?_
            refine aw_iadd dL_acts_124 ?_
            refine aw_ic_neE (tgt := 132) dL_acts_125 (by decide) (by rw [ev]; (repeat' split) <;> omega) ?_
            refine aw_iconst dL_acts_128 ?_
            refine aw_goto (tgt := 133) dL_acts_129 (by decide) ?_
            refine aw_zret dL_acts_133 rfl (Or.inr rfl) (by decide) (by decide) ?_
            exact ⟨_, rfl, rfl, rfl, m2, _, P2, w2, st⟩
          · refine aw_bipush dL_acts_116 (by decide) ?_
            refine aw_goto (tgt := 125) dL_acts_118 (by decide) ?_
            refine aw_ic_neE (tgt := 132) dL_acts_125 (by decide) (by rw [ev]; (repeat' split) <;> omega) ?_
            refine aw_iconst dL_acts_128 ?_
            refine aw_goto (tgt := 133) dL_acts_129 (by decide) ?_
            refine aw_zret dL_acts_133 rfl (Or.inr rfl) (by decide) (by decide) ?_
            exact ⟨_, rfl, rfl, rfl, m2, _, P2, w2, st⟩
        · refine aw_bipush dL_acts_104 (by decide) ?_
          refine aw_goto (tgt := 125) dL_acts_106 (by decide) ?_
          refine aw_ic_neE (tgt := 132) dL_acts_125 (by decide) (by rw [ev]; (repeat' split) <;> omega) ?_
          refine aw_iconst dL_acts_128 ?_
          refine aw_goto (tgt := 133) dL_acts_129 (by decide) ?_
          refine aw_zret dL_acts_133 rfl (Or.inr rfl) (by decide) (by decide) ?_
          exact ⟨_, rfl, rfl, rfl, m2, _, P2, w2, st⟩
      · refine aw_iconst dL_acts_95 ?_
        refine aw_goto (tgt := 125) dL_acts_96 (by decide) ?_
        refine aw_ic_neE (tgt := 132) dL_acts_125 (by decide) (by rw [ev]; (repeat' split) <;> omega) ?_
        refine aw_iconst dL_acts_128 ?_
        refine aw_goto (tgt := 133) dL_acts_129 (by decide) ?_
        refine aw_zret dL_acts_133 rfl (Or.inr rfl) (by decide) (by decide) ?_
        exact ⟨_, rfl, rfl, rfl, m2, _, P2, w2, st⟩
set_option maxRecDepth 100000 in
set_option maxHeartbeats 4000000 in
theorem la_tick (hEN : EN E) (w : NV hi hr m s P n) (hn : n + 61 ≤ 100000) {x y how : Int} : AW E M_L_acts 0 0 140 [some (aR 0), some (aI x), some (aI y), some (aI how), some (aI (s 1)), none, none, none, none, none, none, none, none] [] hi hr 125 (PI (fun v h2 r2 n2 => n2 = 125 ∧ v = 1 ∧ ∃ (m2 : Int) (s2 : Int → Int) (P2 : Nat → Int → Int), NV h2 r2 m2 s2 P2 (n + 61) ∧ STEP m s P m2 s2 P2)) := by
  have o := w.2.1
  have hM := o.1.1
  have hb := hM.2.1
  have h1 := hM.2.2.2.2.2.1
  have h8 := hM.2.2.1
  have z11 := hM.z 11 (by unfold xc; omega)
  have z0 := hM.z 0 (by unfold xc; omega)
  have t9 := o.1.2.1
  have iw := iw_b s
  obtain ⟨q, c⟩ := w.1
  have k170 : ∀ mn : Int, 0 ≤ mn ∧ mn ≤ 201 → AW E M_L_acts 0 0 170 [some (aR 0), some (aI x), some (aI y), some (aI how), some (aI (s 1)), none, none, none, none, none, none, none, none] [aI mn] hi hr 125 (PI (fun v h2 r2 n2 => n2 = 125 ∧ v = 1 ∧ ∃ (m2 : Int) (s2 : Int → Int) (P2 : Nat → Int → Int), NV h2 r2 m2 s2 P2 (n + 61) ∧ STEP m s P m2 s2 P2)) := by
    intro mn hmn
    refine aw_istore (ls2 := [_, _, _, _, _, _, _, _, _, _, _, _, _]) dL_acts_170 (by decide) rfl ?_
    refine aw_aload_n dL_acts_172 rfl ?_
    refine aw_iconst dL_acts_173 ?_
    refine aw_V1x dL_acts_174 clL_13 ⟨by decide, by decide⟩ (c := 8) (N := 5) (by decide) (by decide +kernel) rfl (t_count w (k := 0) (v := s 0) ⟨by decide, by decide⟩ (by simp [cnF, ctF])) (by decide) (by decide) rfl rfl (by simp only [List.length_cons, List.length_nil]; omega) ?_
    refine aw_istore (ls2 := [_, _, _, _, _, _, _, _, _, _, _, _, _]) dL_acts_177 (by decide) rfl ?_
    refine aw_aload_n dL_acts_179 rfl ?_
    refine aw_bipush dL_acts_180 (by decide) ?_
    refine aw_V1x dL_acts_182 clL_13 ⟨by decide, by decide⟩ (c := 8) (N := 5) (by decide) (by decide +kernel) rfl (t_count w (k := 7) (v := s 3) ⟨by decide, by decide⟩ (by simp [cnF, ctF])) (by decide) (by decide) rfl rfl (by simp only [List.length_cons, List.length_nil]; omega) ?_
    refine aw_istore (ls2 := [_, _, _, _, _, _, _, _, _, _, _, _, _]) dL_acts_185 (by decide) rfl ?_
    refine aw_aload_n dL_acts_187 rfl ?_
    refine aw_iload dL_acts_188 rfl ?_
    refine aw_V1i dL_acts_190 clL_58 ⟨by decide, by decide⟩ (c := 8) (N := 5) (by decide) (by decide +kernel) rfl (c_X8_tick c hEN o.1 ⟨by omega, by omega⟩) (by decide) (by decide) rfl rfl (by simp only [List.length_cons, List.length_nil]; omega) (fun v_190 h_190 r_190 n_190 q_190 => ?_)
    obtain ⟨rfl, pq⟩ := q_190
    obtain ⟨ev, m2, P2, w2, st⟩ := w.post pq (e_lt hM _) (o.lt _) (by omega)
    have F := lt_v o.1 mn
    have rv := r_lt o.1 mn
    rw [← ev] at F rv
    refine aw_istore (ls2 := [_, _, _, _, _, _, _, _, _, _, _, _, _]) dL_acts_193 (by decide) rfl ?_
    refine aw_iload dL_acts_195 rfl ?_
    refine aw_if_eq (tgt := 208) dL_acts_197 (by decide) ⟨by omega, by omega⟩ (fun h197 => ?_) (fun h197 => ?_)
    · refine aw_iload dL_acts_208 rfl ?_
      refine aw_iconst dL_acts_210 ?_
      refine aw_ic_ne (tgt := 218) dL_acts_211 (by decide) rv ⟨by decide, by decide⟩ (fun h211 => ?_) (fun h211 => ?_)
      · exact absurd (F.1 (by omega)) h211
      · refine aw_iconst dL_acts_214 ?_
        refine aw_goto (tgt := 300) dL_acts_215 (by decide) ?_
        refine aw_zret dL_acts_300 rfl (Or.inr rfl) (by decide) (by decide) ?_
        exact ⟨_, rfl, rfl, rfl, m2, _, P2, w2, st⟩
    · refine aw_iload dL_acts_200 rfl ?_
      refine aw_sipush dL_acts_202 (by decide) ?_
      refine aw_ic_ne (tgt := 222) dL_acts_205 (by decide) ⟨by omega, by omega⟩ ⟨by decide, by decide⟩ (fun h205 => ?_) (fun h205 => ?_)
      · refine aw_iload dL_acts_222 rfl ?_
        refine aw_if_eq (tgt := 242) dL_acts_224 (by decide) ⟨by omega, by omega⟩ (fun h224 => ?_) (fun h224 => ?_)
        · refine aw_iload dL_acts_242 rfl ?_
          refine aw_bipush dL_acts_244 (by decide) ?_
          refine aw_ic_ne (tgt := 268) dL_acts_246 (by decide) rv ⟨by decide, by decide⟩ (fun h246 => ?_) (fun h246 => ?_)
          · refine aw_aload_n dL_acts_268 rfl ?_
            refine aw_bipush dL_acts_269 (by decide) ?_
            refine aw_V1x dL_acts_271 clL_13 ⟨by decide, by decide⟩ (c := 8) (N := 5) (by decide) (by decide +kernel) rfl (t_count w2 (k := 7) (v := (ltF s mn).2 3) ⟨by decide, by decide⟩ (by simp [cnF, ctF])) (by decide) (by decide) rfl rfl (by simp only [List.length_cons, List.length_nil]; omega) ?_
            refine aw_iload dL_acts_274 rfl ?_
            refine aw_iload dL_acts_276 rfl ?_
            refine aw_iadd dL_acts_278 ?_
            refine aw_ic_neE (tgt := 299) dL_acts_279 (by decide) (F.2.2.2 (by omega) (by omega) (by have := F.2.2.1 (by omega) (by omega); omega)).2.1 ?_
            refine aw_aload_n dL_acts_282 rfl ?_
            refine aw_iconst dL_acts_283 ?_
            refine aw_V1x dL_acts_284 clL_13 ⟨by decide, by decide⟩ (c := 8) (N := 5) (by decide) (by decide +kernel) rfl (t_count w2 (k := 0) (v := (ltF s mn).2 0) ⟨by decide, by decide⟩ (by simp [cnF, ctF])) (by decide) (by decide) rfl rfl (by simp only [List.length_cons, List.length_nil]; omega) ?_
            refine aw_iload dL_acts_287 rfl ?_
            refine aw_iload dL_acts_289 rfl ?_
            refine aw_iadd dL_acts_291 ?_
            refine aw_ic_neE (tgt := 299) dL_acts_292 (by decide) (F.2.2.2 (by omega) (by omega) (by have := F.2.2.1 (by omega) (by omega); omega)).2.2 ?_
            refine aw_iconst dL_acts_295 ?_
            refine aw_goto (tgt := 300) dL_acts_296 (by decide) ?_
            refine aw_zret dL_acts_300 rfl (Or.inr rfl) (by decide) (by decide) ?_
            exact ⟨_, rfl, rfl, rfl, m2, _, P2, w2, st⟩
          · refine aw_iload dL_acts_249 rfl ?_
            refine aw_iload dL_acts_251 rfl ?_
            refine aw_iadd dL_acts_253 ?_
            refine aw_sipush dL_acts_254 (by decide) ?_
            refine aw_ic_le (tgt := 264) dL_acts_257 (by decide) ⟨by omega, by omega⟩ ⟨by decide, by decide⟩ (fun h257 => ?_) (fun h257 => ?_)
            · exact absurd (F.2.2.2 (by omega) (by omega) (by omega)).1.1 (by omega)
            · refine aw_iconst dL_acts_260 ?_
              refine aw_goto (tgt := 300) dL_acts_261 (by decide) ?_
              refine aw_zret dL_acts_300 rfl (Or.inr rfl) (by decide) (by decide) ?_
              exact ⟨_, rfl, rfl, rfl, m2, _, P2, w2, st⟩
        · refine aw_iload dL_acts_227 rfl ?_
          refine aw_bipush dL_acts_229 (by decide) ?_
          refine aw_ic_ne (tgt := 238) dL_acts_231 (by decide) rv ⟨by decide, by decide⟩ (fun h231 => ?_) (fun h231 => ?_)
          · exact absurd (F.2.1 (by omega) (by omega)) h231
          · refine aw_iconst dL_acts_234 ?_
            refine aw_goto (tgt := 300) dL_acts_235 (by decide) ?_
            refine aw_zret dL_acts_300 rfl (Or.inr rfl) (by decide) (by decide) ?_
            exact ⟨_, rfl, rfl, rfl, m2, _, P2, w2, st⟩
      · refine aw_iload dL_acts_208 rfl ?_
        refine aw_iconst dL_acts_210 ?_
        refine aw_ic_ne (tgt := 218) dL_acts_211 (by decide) rv ⟨by decide, by decide⟩ (fun h211 => ?_) (fun h211 => ?_)
        · exact absurd (F.1 (by omega)) h211
        · refine aw_iconst dL_acts_214 ?_
          refine aw_goto (tgt := 300) dL_acts_215 (by decide) ?_
          refine aw_zret dL_acts_300 rfl (Or.inr rfl) (by decide) (by decide) ?_
          exact ⟨_, rfl, rfl, rfl, m2, _, P2, w2, st⟩
  refine aw_iload_n dL_acts_140 rfl ?_
  refine aw_iconst dL_acts_141 ?_
  refine aw_S2i dL_acts_142 clL_38 ⟨by decide, by decide⟩ (c_L_low (by decide) (by decide)) (by decide) (by decide) rfl rfl (by simp only [List.length_cons, List.length_nil]; omega) (fun v_142 h_142 r_142 n_142 q_142 => ?_)
  obtain ⟨rfl, rfl, rfl, e142, g142⟩ := q_142
  refine aw_if_ne (tgt := 160) dL_acts_145 (by decide) ⟨by omega, by omega⟩ (fun h145 => ?_) (fun h145 => ?_)
  · refine aw_iconst dL_acts_160 ?_
    refine aw_iload_n dL_acts_161 rfl ?_
    refine aw_iconst dL_acts_162 ?_
    refine aw_shrX dL_acts_163 (fun j163 j163r => ?_)
    refine aw_bipush dL_acts_164 (by decide) ?_
    refine aw_S2i dL_acts_166 clL_38 ⟨by decide, by decide⟩ (c_L_low (by decide) (by decide)) (by decide) (by decide) rfl rfl (by simp only [List.length_cons, List.length_nil]; omega) (fun v_166 h_166 r_166 n_166 q_166 => ?_)
    obtain ⟨rfl, rfl, rfl, e166, g166⟩ := q_166
    refine aw_iadd dL_acts_169 ?_
    exact k170 _ (by omega)
  · refine aw_iload_n dL_acts_148 rfl ?_
    refine aw_iconst dL_acts_149 ?_
    refine aw_shrX dL_acts_150 (fun j150 j150r => ?_)
    refine aw_sipush dL_acts_151 (by decide) ?_
    refine aw_S2i dL_acts_154 clL_38 ⟨by decide, by decide⟩ (c_L_low (by decide) (by decide)) (by decide) (by decide) rfl rfl (by simp only [List.length_cons, List.length_nil]; omega) (fun v_154 h_154 r_154 n_154 q_154 => ?_)
    obtain ⟨rfl, rfl, rfl, e154, g154⟩ := q_154
    refine aw_goto (tgt := 170) dL_acts_157 (by decide) ?_
    exact k170 _ (by omega)
set_option maxRecDepth 100000 in
set_option maxHeartbeats 4000000 in
theorem la_cut (hEN : EN E) (w : NV hi hr m s P n) (hn : n + 61 ≤ 100000) {x y how : Int} : AW E M_L_acts 0 0 307 [some (aR 0), some (aI x), some (aI y), some (aI how), some (aI (s 1)), none, none, none, none, none, none, none, none] [] hi hr 125 (PI (fun v h2 r2 n2 => n2 = 125 ∧ v = 1 ∧ ∃ (m2 : Int) (s2 : Int → Int) (P2 : Nat → Int → Int), NV h2 r2 m2 s2 P2 (n + 61) ∧ STEP m s P m2 s2 P2)) := by
  have o := w.2.1
  have hM := o.1.1
  have hb := hM.2.1
  have h1 := hM.2.2.2.2.2.1
  have h8 := hM.2.2.1
  have z11 := hM.z 11 (by unfold xc; omega)
  have z0 := hM.z 0 (by unfold xc; omega)
  have t9 := o.1.2.1
  have iw := iw_b s
  obtain ⟨q, c⟩ := w.1
  refine aw_aload_n dL_acts_307 rfl ?_
  refine aw_bipush dL_acts_308 (by decide) ?_
  refine aw_V1x dL_acts_310 clL_13 ⟨by decide, by decide⟩ (c := 8) (N := 5) (by decide) (by decide +kernel) rfl (t_count w (k := 9) (v := s 5) ⟨by decide, by decide⟩ (by simp [cnF, ctF])) (by decide) (by decide) rfl rfl (by simp only [List.length_cons, List.length_nil]; omega) ?_
  refine aw_istore (ls2 := [_, _, _, _, _, _, _, _, _, _, _, _, _]) dL_acts_313 (by decide) rfl ?_
  refine aw_aload_n dL_acts_315 rfl ?_
  refine aw_V0i dL_acts_316 clL_61 ⟨by decide, by decide⟩ (c := 8) (N := 5) (by decide) (by decide +kernel) rfl (c_X8_cut c) (by decide) (by decide) rfl rfl (by simp only [List.length_cons, List.length_nil]; omega) (fun v_316 h_316 r_316 n_316 q_316 => ?_)
  obtain ⟨rfl, pq⟩ := q_316
  obtain ⟨ev, m2, P2, w2, st⟩ := w.post pq (e_of s) o.of (by omega)
  have F := of_v hM
  rw [← ev] at F
  refine aw_istore (ls2 := [_, _, _, _, _, _, _, _, _, _, _, _, _]) dL_acts_319 (by decide) rfl ?_
  refine aw_iload dL_acts_321 rfl ?_
  refine aw_if_eq (tgt := 341) dL_acts_323 (by decide) ⟨by omega, by omega⟩ (fun h323 => ?_) (fun h323 => ?_)
  · refine aw_iload dL_acts_341 rfl ?_
    refine aw_if_lt (tgt := 372) dL_acts_343 (by decide) (by have := r_of s; rw [ev]; exact this) (fun h343 => ?_) (fun h343 => ?_)
    · exact absurd (F.2 (by omega)).1.1 (by omega)
    · refine aw_aload_n dL_acts_346 rfl ?_
      refine aw_bipush dL_acts_347 (by decide) ?_
      refine aw_V1x dL_acts_349 clL_13 ⟨by decide, by decide⟩ (c := 8) (N := 5) (by decide) (by decide +kernel) rfl (t_count w2 (k := 9) (v := (ofF s).2 5) ⟨by decide, by decide⟩ (by simp [cnF, ctF])) (by decide) (by decide) rfl rfl (by simp only [List.length_cons, List.length_nil]; omega) ?_
      refine aw_iload dL_acts_352 rfl ?_
      refine aw_iload dL_acts_354 rfl ?_
      refine aw_iadd dL_acts_356 ?_
      refine aw_ic_neE (tgt := 372) dL_acts_357 (by decide) (F.2 (by omega)).2.1 ?_
      refine aw_aload_n dL_acts_360 rfl ?_
      refine aw_iconst dL_acts_361 ?_
      refine aw_V1x dL_acts_362 clL_13 ⟨by decide, by decide⟩ (c := 8) (N := 5) (by decide) (by decide +kernel) rfl (t_count w2 (k := 1) (v := 0) ⟨by decide, by decide⟩ (by simp [cnF, ctF, (F.2 (by omega)).2.2])) (by decide) (by decide) rfl rfl (by simp only [List.length_cons, List.length_nil]; omega) ?_
      refine aw_if_ne (tgt := 372) dL_acts_365 (by decide) ⟨by omega, by omega⟩ (fun h365 => ?_) (fun h365 => ?_)
      · exact absurd rfl h365
      · refine aw_iconst dL_acts_368 ?_
        refine aw_goto (tgt := 373) dL_acts_369 (by decide) ?_
        refine aw_zret dL_acts_373 rfl (Or.inr rfl) (by decide) (by decide) ?_
        exact ⟨_, rfl, rfl, rfl, m2, _, P2, w2, st⟩
  · refine aw_iload dL_acts_326 rfl ?_
    refine aw_bipush dL_acts_328 (by decide) ?_
    refine aw_ic_ne (tgt := 337) dL_acts_330 (by decide) (by have := F.1; have := r_of s; rw [ev]; exact this) ⟨by decide, by decide⟩ (fun h330 => ?_) (fun h330 => ?_)
    · exact absurd (F.1 (by omega)) h330
    · refine aw_iconst dL_acts_333 ?_
      refine aw_goto (tgt := 373) dL_acts_334 (by decide) ?_
      refine aw_zret dL_acts_373 rfl (Or.inr rfl) (by decide) (by decide) ?_
      exact ⟨_, rfl, rfl, rfl, m2, _, P2, w2, st⟩
set_option maxRecDepth 100000 in
set_option maxHeartbeats 4000000 in
theorem la_on (hEN : EN E) (w : NV hi hr m s P n) (hn : n + 61 ≤ 100000) {x y how : Int} : AW E M_L_acts 0 0 380 [some (aR 0), some (aI x), some (aI y), some (aI how), some (aI (s 1)), none, none, none, none, none, none, none, none] [] hi hr 125 (PI (fun v h2 r2 n2 => n2 = 125 ∧ v = 1 ∧ ∃ (m2 : Int) (s2 : Int → Int) (P2 : Nat → Int → Int), NV h2 r2 m2 s2 P2 (n + 61) ∧ STEP m s P m2 s2 P2)) := by
  have o := w.2.1
  have hM := o.1.1
  have hb := hM.2.1
  have h1 := hM.2.2.2.2.2.1
  have h8 := hM.2.2.1
  have z11 := hM.z 11 (by unfold xc; omega)
  have z0 := hM.z 0 (by unfold xc; omega)
  have t9 := o.1.2.1
  have iw := iw_b s
  obtain ⟨q, c⟩ := w.1
  refine aw_aload_n dL_acts_380 rfl ?_
  refine aw_V0i dL_acts_381 clL_64 ⟨by decide, by decide⟩ (c := 8) (N := 5) (by decide) (by decide +kernel) rfl (c_X8_on c) (by decide) (by decide) rfl rfl (by simp only [List.length_cons, List.length_nil]; omega) (fun v_381 h_381 r_381 n_381 q_381 => ?_)
  obtain ⟨rfl, pq⟩ := q_381
  obtain ⟨ev, m2, P2, w2, st⟩ := w.post pq (e_op hM) o.op (by omega)
  have F := op_v hM
  have rv := r_op hM
  rw [← ev] at F rv
  refine aw_istore (ls2 := [_, _, _, _, _, _, _, _, _, _, _, _, _]) dL_acts_384 (by decide) rfl ?_
  refine aw_iload dL_acts_386 rfl ?_
  refine aw_if_eq (tgt := 418) dL_acts_388 (by decide) ⟨by omega, by omega⟩ (fun h388 => ?_) (fun h388 => ?_)
  · refine aw_iload dL_acts_418 rfl ?_
    refine aw_bipush dL_acts_420 (by decide) ?_
    refine aw_ic_ne (tgt := 429) dL_acts_422 (by decide) rv ⟨by decide, by decide⟩ (fun h422 => ?_) (fun h422 => ?_)
    · exact absurd (F.2 (by omega)) h422
    · refine aw_iconst dL_acts_425 ?_
      refine aw_goto (tgt := 430) dL_acts_426 (by decide) ?_
      refine aw_zret dL_acts_430 rfl (Or.inr rfl) (by decide) (by decide) ?_
      exact ⟨_, rfl, rfl, rfl, m2, _, P2, w2, st⟩
  · refine aw_iload dL_acts_391 rfl ?_
    refine aw_aload_n dL_acts_393 rfl ?_
    refine aw_iconst dL_acts_394 ?_
    refine aw_V1x dL_acts_395 clL_13 ⟨by decide, by decide⟩ (c := 8) (N := 5) (by decide) (by decide +kernel) rfl (t_count w2 (k := 4) (v := v_381) ⟨by decide, by decide⟩ (by simp [cnF, ctF, (F.1 (by omega)).2.1])) (by decide) (by decide) rfl rfl (by simp only [List.length_cons, List.length_nil]; omega) ?_
    refine aw_ic_ne (tgt := 414) dL_acts_398 (by decide) rv rv (fun h398 => ?_) (fun h398 => ?_)
    · exact absurd rfl h398
    · refine aw_aload_n dL_acts_401 rfl ?_
      refine aw_iconst dL_acts_402 ?_
      refine aw_V1x dL_acts_403 clL_13 ⟨by decide, by decide⟩ (c := 8) (N := 5) (by decide) (by decide +kernel) rfl (t_count w2 (k := 1) (v := 1) ⟨by decide, by decide⟩ (by simp [cnF, ctF, (F.1 (by omega)).2.2])) (by decide) (by decide) rfl rfl (by simp only [List.length_cons, List.length_nil]; omega) ?_
      refine aw_iconst dL_acts_406 ?_
      refine aw_ic_ne (tgt := 414) dL_acts_407 (by decide) ⟨by decide, by decide⟩ ⟨by decide, by decide⟩ (fun h407 => ?_) (fun h407 => ?_)
      · exact absurd rfl h407
      · refine aw_iconst dL_acts_410 ?_
        refine aw_goto (tgt := 430) dL_acts_411 (by decide) ?_
        refine aw_zret dL_acts_430 rfl (Or.inr rfl) (by decide) (by decide) ?_
        exact ⟨_, rfl, rfl, rfl, m2, _, P2, w2, st⟩
/-- the other block is blank so far, and one may turn -/
def tm (s : Int → Int) (k : Nat) : Int := if s 1 = 1 ∨ iwF s = 1 then 0 else blA s (1 - s 2) k
set_option maxRecDepth 100000 in
set_option maxHeartbeats 4000000 in
theorem la_turn (hEN : EN E) (w : NV hi hr m s P n) (hn : n + 61 ≤ 100000) {x y how : Int} : AW E M_L_acts 0 0 437 [some (aR 0), some (aI x), some (aI y), some (aI how), some (aI (s 1)), none, none, none, none, none, none, none, none] [] hi hr 125 (PI (fun v h2 r2 n2 => n2 = 125 ∧ v = 1 ∧ ∃ (m2 : Int) (s2 : Int → Int) (P2 : Nat → Int → Int), NV h2 r2 m2 s2 P2 (n + 61) ∧ STEP m s P m2 s2 P2)) := by
  have o := w.2.1
  have hM := o.1.1
  have hb := hM.2.1
  have h1 := hM.2.2.2.2.2.1
  have h8 := hM.2.2.1
  have z11 := hM.z 11 (by unfold xc; omega)
  have z0 := hM.z 0 (by unfold xc; omega)
  have t9 := o.1.2.1
  have iw := iw_b s
  obtain ⟨q, c⟩ := w.1
  have tmr : ∀ k : Nat, InR (tm s k) := fun k => by
    have := blA_b s (1 - s 2) k
    unfold tm
    split <;> exact ⟨by omega, by omega⟩
  have tmb : ∀ k : Nat, tm s k = 0 ∨ tm s k = 1 := fun k => by
    have := blA_b s (1 - s 2) k
    unfold tm
    split
    · exact Or.inl rfl
    · exact this
  have es : ∀ k : Nat, blA s (1 - s 2) (k + 1) = if blA s (1 - s 2) k = 1 ∧ s (24 + 4 * (16 * (1 - s 2) + (k : Int))) = 0 then 1 else 0 := fun k => rfl
  have tmN : ∀ {k : Nat}, tm s k = 0 → tm s (k + 1) = 0 := fun {k} g => by
    unfold tm at g ⊢
    by_cases c0 : s 1 = 1 ∨ iwF s = 1
    · rw [if_pos c0]
    · rw [if_neg c0] at g ⊢
      rw [es, if_neg (by omega)]
  have tmN2 : ∀ {k : Nat}, ¬ s (24 + 4 * (16 * (1 - s 2) + (k : Int))) = 0 → tm s (k + 1) = 0 := fun {k} g => by
    unfold tm
    by_cases c0 : s 1 = 1 ∨ iwF s = 1
    · rw [if_pos c0]
    · rw [if_neg c0, es, if_neg (fun z => g z.2)]
  have tmY : ∀ {k : Nat}, ¬ tm s k = 0 → s (24 + 4 * (16 * (1 - s 2) + (k : Int))) = 0 → tm s (k + 1) = 1 := fun {k} g g2 => by
    have t := tmb k
    unfold tm at g t ⊢
    by_cases c0 : s 1 = 1 ∨ iwF s = 1
    · rw [if_pos c0] at g; exact absurd rfl g
    · rw [if_neg c0] at g t ⊢
      rw [es, if_pos ⟨by omega, g2⟩]
  have pg : ∀ k : Int, 0 ≤ k → k < 16 → AMet E M_X8_pageOf [aR 0, aI (1 - s 2), aI k, aI 0] hi hr 125 (EX (some (aI (s (24 + 4 * (16 * (1 - s 2) + k))))) hi hr 125) := fun k k0 k1 => by
    have g := c_X8_pageOf c hEN (b := 1 - s 2) (k := k) (w := 0) ⟨by omega, by omega⟩ ⟨by omega, by omega⟩ ⟨by decide, by decide⟩
    have e : pgF s (1 - s 2) k 0 = s (24 + 4 * (16 * (1 - s 2) + k)) := by unfold pgF; rw [if_neg (by omega), if_pos rfl]
    rw [e] at g
    exact g
  have k506 : AW E M_L_acts 0 0 506 [some (aR 0), some (aI x), some (aI y), some (aI how), some (aI (s 1)), some (aI (s 2)), some (aI (tm s 16)), none, none, none, none, none, none] [] hi hr 125 (PI (fun v h2 r2 n2 => n2 = 125 ∧ v = 1 ∧ ∃ (m2 : Int) (s2 : Int → Int) (P2 : Nat → Int → Int), NV h2 r2 m2 s2 P2 (n + 61) ∧ STEP m s P m2 s2 P2)) := by
    refine aw_aload_n dL_acts_506 rfl ?_
    refine aw_V0i dL_acts_507 clL_67 ⟨by decide, by decide⟩ (c := 8) (N := 5) (by decide) (by decide +kernel) rfl (c_X8_turn c) (by decide) (by decide) rfl rfl (by simp only [List.length_cons, List.length_nil]; omega) (fun v_507 h_507 r_507 n_507 q_507 => ?_)
    obtain ⟨rfl, pq⟩ := q_507
    obtain ⟨ev, m2, P2, w2, st⟩ := w.post pq (e_ch hM) o.ch (by omega)
    rw [ch_v] at ev
    refine aw_iload dL_acts_510 rfl ?_
    refine aw_if_eq (tgt := 522) dL_acts_512 (by decide) (tmr 16) (fun h512 => ?_) (fun h512 => ?_)
    · refine aw_bipush dL_acts_522 (by decide) ?_
      refine aw_ic_neE (tgt := 531) dL_acts_524 (by decide) (by rw [ev]; unfold tm at h512; (repeat' split) <;> (repeat' split at h512) <;> omega) ?_
      refine aw_iconst dL_acts_527 ?_
      refine aw_goto (tgt := 532) dL_acts_528 (by decide) ?_
      refine aw_zret dL_acts_532 rfl (Or.inr rfl) (by decide) (by decide) ?_
      exact ⟨_, rfl, rfl, rfl, m2, _, P2, w2, st⟩
    · refine aw_iconst dL_acts_515 ?_
      refine aw_iload dL_acts_516 rfl ?_
      refine aw_isub dL_acts_518 ?_
      refine aw_goto (tgt := 524) dL_acts_519 (by decide) ?_
      refine aw_ic_neE (tgt := 531) dL_acts_524 (by decide) (by rw [ev]; unfold tm at h512; (repeat' split) <;> (repeat' split at h512) <;> omega) ?_
      refine aw_iconst dL_acts_527 ?_
      refine aw_goto (tgt := 532) dL_acts_528 (by decide) ?_
      refine aw_zret dL_acts_532 rfl (Or.inr rfl) (by decide) (by decide) ?_
      exact ⟨_, rfl, rfl, rfl, m2, _, P2, w2, st⟩
  have l467 : ∀ (d k : Nat), k + d = 16 → AW E M_L_acts 0 0 467 [some (aR 0), some (aI x), some (aI y), some (aI how), some (aI (s 1)), some (aI (s 2)), some (aI (tm s k)), some (aI (k : Int)), none, none, none, none, none] [] hi hr 125 (PI (fun v h2 r2 n2 => n2 = 125 ∧ v = 1 ∧ ∃ (m2 : Int) (s2 : Int → Int) (P2 : Nat → Int → Int), NV h2 r2 m2 s2 P2 (n + 61) ∧ STEP m s P m2 s2 P2)) := by
    intro d
    induction d with
    | zero =>
      intro k hk
      refine aw_iload dL_acts_467 rfl ?_
      refine aw_bipush dL_acts_469 (by decide) ?_
      refine aw_ic_ge (tgt := 506) dL_acts_471 (by decide) ⟨by omega, by omega⟩ ⟨by decide, by decide⟩ (fun h471 => ?_) (fun h471 => ?_)
      · have ek : k = 16 := by omega
        subst ek
        refine aw_ls (ls2 := [some (aR 0), some (aI x), some (aI y), some (aI how), some (aI (s 1)), some (aI (s 2)), some (aI (tm s 16)), none, none, none, none, none, none]) (lsk (lsk (lsk (lsk (lsk (lsk (lsk (lsd (lsk (lsk (lsk (lsk (lsk lsn))))))))))))) ?_
        exact k506
      · exact absurd h471 (by omega)
    | succ d ih =>
      intro k hk
      refine aw_iload dL_acts_467 rfl ?_
      refine aw_bipush dL_acts_469 (by decide) ?_
      refine aw_ic_ge (tgt := 506) dL_acts_471 (by decide) ⟨by omega, by omega⟩ ⟨by decide, by decide⟩ (fun h471 => ?_) (fun h471 => ?_)
      · exact absurd h471 (by omega)
      · refine aw_iload dL_acts_474 rfl ?_
        refine aw_if_eq (tgt := 497) dL_acts_476 (by decide) (tmr k) (fun h476 => ?_) (fun h476 => ?_)
        · refine aw_iconst dL_acts_497 ?_
          refine aw_istore (ls2 := [_, _, _, _, _, _, _, _, _, _, _, _, _]) dL_acts_498 (by decide) rfl ?_
          refine aw_iinc (ls2 := [_, _, _, _, _, _, _, _, _, _, _, _, _]) dL_acts_500 rfl (by decide) rfl ?_
          refine aw_goto (tgt := 467) dL_acts_503 (by decide) ?_
          have g := ih (k + 1) (by omega)
          rw [show ((k + 1 : Nat) : Int) = (k : Int) + 1 by omega] at g
          rw [tmN h476] at g
          exact g
        · refine aw_aload_n dL_acts_479 rfl ?_
          refine aw_iconst dL_acts_480 ?_
          refine aw_iload dL_acts_481 rfl ?_
          refine aw_isub dL_acts_483 ?_
          refine aw_iload dL_acts_484 rfl ?_
          refine aw_iconst dL_acts_486 ?_
          refine aw_V3x dL_acts_487 clL_19 ⟨by decide, by decide⟩ (c := 8) (N := 5) (by decide) (by decide +kernel) rfl (pg (k : Int) (by omega) (by omega)) (by decide) (by decide) rfl rfl (by simp only [List.length_cons, List.length_nil]; omega) ?_
          refine aw_if_ne (tgt := 497) dL_acts_490 (by decide) (hM.r _ (by unfold xc; omega)) (fun h490 => ?_) (fun h490 => ?_)
          · refine aw_iconst dL_acts_497 ?_
            refine aw_istore (ls2 := [_, _, _, _, _, _, _, _, _, _, _, _, _]) dL_acts_498 (by decide) rfl ?_
            refine aw_iinc (ls2 := [_, _, _, _, _, _, _, _, _, _, _, _, _]) dL_acts_500 rfl (by decide) rfl ?_
            refine aw_goto (tgt := 467) dL_acts_503 (by decide) ?_
            have g := ih (k + 1) (by omega)
            rw [show ((k + 1 : Nat) : Int) = (k : Int) + 1 by omega] at g
            rw [tmN2 h490] at g
            exact g
          · refine aw_iconst dL_acts_493 ?_
            refine aw_goto (tgt := 498) dL_acts_494 (by decide) ?_
            refine aw_istore (ls2 := [_, _, _, _, _, _, _, _, _, _, _, _, _]) dL_acts_498 (by decide) rfl ?_
            refine aw_iinc (ls2 := [_, _, _, _, _, _, _, _, _, _, _, _, _]) dL_acts_500 rfl (by decide) rfl ?_
            refine aw_goto (tgt := 467) dL_acts_503 (by decide) ?_
            have g := ih (k + 1) (by omega)
            rw [show ((k + 1 : Nat) : Int) = (k : Int) + 1 by omega] at g
            rw [tmY h476 h490] at g
            exact g
  have k462 : ∀ v : Int, v = tm s 0 → AW E M_L_acts 0 0 462 [some (aR 0), some (aI x), some (aI y), some (aI how), some (aI (s 1)), some (aI (s 2)), none, none, none, none, none, none, none] [aI v] hi hr 125 (PI (fun v h2 r2 n2 => n2 = 125 ∧ v = 1 ∧ ∃ (m2 : Int) (s2 : Int → Int) (P2 : Nat → Int → Int), NV h2 r2 m2 s2 P2 (n + 61) ∧ STEP m s P m2 s2 P2)) := by
    intro v ev
    subst ev
    refine aw_istore (ls2 := [_, _, _, _, _, _, _, _, _, _, _, _, _]) dL_acts_462 (by decide) rfl ?_
    refine aw_iconst dL_acts_464 ?_
    refine aw_istore (ls2 := [_, _, _, _, _, _, _, _, _, _, _, _, _]) dL_acts_465 (by decide) rfl ?_
    exact l467 16 0 (Nat.zero_add _)
  refine aw_aload_n dL_acts_437 rfl ?_
  refine aw_iconst dL_acts_438 ?_
  refine aw_V1x dL_acts_439 clL_13 ⟨by decide, by decide⟩ (c := 8) (N := 5) (by decide) (by decide +kernel) rfl (t_count w (k := 2) (v := s 2) ⟨by decide, by decide⟩ (by simp [cnF, ctF])) (by decide) (by decide) rfl rfl (by simp only [List.length_cons, List.length_nil]; omega) ?_
  refine aw_istore (ls2 := [_, _, _, _, _, _, _, _, _, _, _, _, _]) dL_acts_442 (by decide) rfl ?_
  refine aw_iload dL_acts_444 rfl ?_
  refine aw_if_ne (tgt := 461) dL_acts_446 (by decide) ⟨by omega, by omega⟩ (fun h446 => ?_) (fun h446 => ?_)
  · refine aw_iconst dL_acts_461 ?_
    refine k462 _ ?_
    unfold tm
    have : blA s (1 - s 2) 0 = 1 := rfl
    split <;> omega
  · refine aw_aload_n dL_acts_449 rfl ?_
    refine aw_iconst dL_acts_450 ?_
    refine aw_V1x dL_acts_451 clL_13 ⟨by decide, by decide⟩ (c := 8) (N := 5) (by decide) (by decide +kernel) rfl (t_count w (k := 5) (v := iwF s) ⟨by decide, by decide⟩ (by simp [cnF, ctF])) (by decide) (by decide) rfl rfl (by simp only [List.length_cons, List.length_nil]; omega) ?_
    refine aw_if_ne (tgt := 461) dL_acts_454 (by decide) ⟨by omega, by omega⟩ (fun h454 => ?_) (fun h454 => ?_)
    · refine aw_iconst dL_acts_461 ?_
      refine k462 _ ?_
      unfold tm
      have : blA s (1 - s 2) 0 = 1 := rfl
      split <;> omega
    · refine aw_iconst dL_acts_457 ?_
      refine aw_goto (tgt := 462) dL_acts_458 (by decide) ?_
      refine k462 _ ?_
      unfold tm
      have : blA s (1 - s 2) 0 = 1 := rfl
      split <;> omega
set_option maxRecDepth 100000 in
set_option maxHeartbeats 4000000 in
theorem la_clean (hEN : EN E) (w : NV hi hr m s P n) (hn : n + 61 ≤ 100000) {x y how : Int} : AW E M_L_acts 0 0 539 [some (aR 0), some (aI x), some (aI y), some (aI how), some (aI (s 1)), none, none, none, none, none, none, none, none] [] hi hr 125 (PI (fun v h2 r2 n2 => n2 = 125 ∧ v = 1 ∧ ∃ (m2 : Int) (s2 : Int → Int) (P2 : Nat → Int → Int), NV h2 r2 m2 s2 P2 (n + 61) ∧ STEP m s P m2 s2 P2)) := by
  have o := w.2.1
  have hM := o.1.1
  have hb := hM.2.1
  have h1 := hM.2.2.2.2.2.1
  have h8 := hM.2.2.1
  have z11 := hM.z 11 (by unfold xc; omega)
  have z0 := hM.z 0 (by unfold xc; omega)
  have t9 := o.1.2.1
  have iw := iw_b s
  obtain ⟨q, c⟩ := w.1
  refine aw_iload_n dL_acts_539 rfl ?_
  refine aw_iconst dL_acts_540 ?_
  refine aw_S2i dL_acts_541 clL_38 ⟨by decide, by decide⟩ (c_L_low (by decide) (by decide)) (by decide) (by decide) rfl rfl (by simp only [List.length_cons, List.length_nil]; omega) (fun v_541 h_541 r_541 n_541 q_541 => ?_)
  obtain ⟨rfl, rfl, rfl, e541, g541⟩ := q_541
  refine aw_istore (ls2 := [_, _, _, _, _, _, _, _, _, _, _, _, _]) dL_acts_544 (by decide) rfl ?_
  refine aw_aload_n dL_acts_546 rfl ?_
  refine aw_iconst dL_acts_547 ?_
  refine aw_V1x dL_acts_548 clL_13 ⟨by decide, by decide⟩ (c := 8) (N := 5) (by decide) (by decide +kernel) rfl (t_count w (k := 4) (v := s 11) ⟨by decide, by decide⟩ (by simp [cnF, ctF])) (by decide) (by decide) rfl rfl (by simp only [List.length_cons, List.length_nil]; omega) ?_
  refine aw_istore (ls2 := [_, _, _, _, _, _, _, _, _, _, _, _, _]) dL_acts_551 (by decide) rfl ?_
  refine aw_aload_n dL_acts_553 rfl ?_
  refine aw_iload dL_acts_554 rfl ?_
  refine aw_V1i dL_acts_556 clL_70 ⟨by decide, by decide⟩ (c := 8) (N := 5) (by decide) (by decide +kernel) rfl (c_X8_clean c ⟨by omega, by omega⟩) (by decide) (by decide) rfl rfl (by simp only [List.length_cons, List.length_nil]; omega) (fun v_556 h_556 r_556 n_556 q_556 => ?_)
  obtain ⟨rfl, pq⟩ := q_556
  obtain ⟨ev, m2, P2, w2, st⟩ := w.post pq (e_cl s _) (o.cl _) (by omega)
  have F := cl_v hM v_541
  have rv := r_cl s v_541
  have o2 := w2.2.1.1.1
  have y11 := o2.z 11 (by unfold xc; omega)
  have y8 := o2.2.2.1
  rw [← ev] at F rv
  refine aw_istore (ls2 := [_, _, _, _, _, _, _, _, _, _, _, _, _]) dL_acts_559 (by decide) rfl ?_
  refine aw_iload dL_acts_561 rfl ?_
  refine aw_iconst dL_acts_563 ?_
  refine aw_ic_ne (tgt := 581) dL_acts_564 (by decide) ⟨by omega, by omega⟩ ⟨by decide, by decide⟩ (fun h564 => ?_) (fun h564 => ?_)
  · refine aw_iload dL_acts_581 rfl ?_
    refine aw_if_ne (tgt := 596) dL_acts_583 (by decide) ⟨by omega, by omega⟩ (fun h583 => ?_) (fun h583 => ?_)
    · refine aw_iload dL_acts_596 rfl ?_
      refine aw_bipush dL_acts_598 (by decide) ?_
      refine aw_ic_ne (tgt := 607) dL_acts_600 (by decide) rv ⟨by decide, by decide⟩ (fun h600 => ?_) (fun h600 => ?_)
      · exact absurd (F.2.2.1 (by omega) (by omega)) h600
      · refine aw_iconst dL_acts_603 ?_
        refine aw_goto (tgt := 641) dL_acts_604 (by decide) ?_
        refine aw_zret dL_acts_641 rfl (Or.inr rfl) (by decide) (by decide) ?_
        exact ⟨_, rfl, rfl, rfl, m2, _, P2, w2, st⟩
    · refine aw_iload dL_acts_586 rfl ?_
      refine aw_aload_n dL_acts_588 rfl ?_
      refine aw_iconst dL_acts_589 ?_
      refine aw_V1x dL_acts_590 clL_13 ⟨by decide, by decide⟩ (c := 8) (N := 5) (by decide) (by decide +kernel) rfl (t_count w2 (k := 2) (v := s 2) ⟨by decide, by decide⟩ (by simp [cnF, ctF, F.1])) (by decide) (by decide) rfl rfl (by simp only [List.length_cons, List.length_nil]; omega) ?_
      refine aw_ic_ne (tgt := 611) dL_acts_593 (by decide) ⟨by omega, by omega⟩ ⟨by omega, by omega⟩ (fun h593 => ?_) (fun h593 => ?_)
      · refine aw_iload dL_acts_611 rfl ?_
        refine aw_bipush dL_acts_613 (by decide) ?_
        refine aw_ic_eq (tgt := 636) dL_acts_615 (by decide) rv ⟨by decide, by decide⟩ (fun h615 => ?_) (fun h615 => ?_)
        · refine aw_iconst dL_acts_636 ?_
          refine aw_goto (tgt := 641) dL_acts_637 (by decide) ?_
          refine aw_zret dL_acts_641 rfl (Or.inr rfl) (by decide) (by decide) ?_
          exact ⟨_, rfl, rfl, rfl, m2, _, P2, w2, st⟩
        · refine aw_iload dL_acts_618 rfl ?_
          refine aw_if_lt (tgt := 640) dL_acts_620 (by decide) rv (fun h620 => ?_) (fun h620 => ?_)
          · exact absurd (F.2.2.2 (by omega) (by omega)) (by omega)
          · refine aw_aload_n dL_acts_623 rfl ?_
            refine aw_iconst dL_acts_624 ?_
            refine aw_V1x dL_acts_625 clL_13 ⟨by decide, by decide⟩ (c := 8) (N := 5) (by decide) (by decide +kernel) rfl (t_count w2 (k := 4) (v := (clF s v_541).2 11) ⟨by decide, by decide⟩ (by simp [cnF, ctF])) (by decide) (by decide) rfl rfl (by simp only [List.length_cons, List.length_nil]; omega) ?_
            refine aw_iload dL_acts_628 rfl ?_
            refine aw_iload dL_acts_630 rfl ?_
            refine aw_iadd dL_acts_632 ?_
            refine aw_ic_neE (tgt := 640) dL_acts_633 (by decide) (by have := F.2.2.2 (by omega) (by omega); omega) ?_
            refine aw_iconst dL_acts_636 ?_
            refine aw_goto (tgt := 641) dL_acts_637 (by decide) ?_
            refine aw_zret dL_acts_641 rfl (Or.inr rfl) (by decide) (by decide) ?_
            exact ⟨_, rfl, rfl, rfl, m2, _, P2, w2, st⟩
      · refine aw_iload dL_acts_596 rfl ?_
        refine aw_bipush dL_acts_598 (by decide) ?_
        refine aw_ic_ne (tgt := 607) dL_acts_600 (by decide) rv ⟨by decide, by decide⟩ (fun h600 => ?_) (fun h600 => ?_)
        · exact absurd (F.2.2.1 (by omega) (by omega)) h600
        · refine aw_iconst dL_acts_603 ?_
          refine aw_goto (tgt := 641) dL_acts_604 (by decide) ?_
          refine aw_zret dL_acts_641 rfl (Or.inr rfl) (by decide) (by decide) ?_
          exact ⟨_, rfl, rfl, rfl, m2, _, P2, w2, st⟩
  · refine aw_iload dL_acts_567 rfl ?_
    refine aw_iconst dL_acts_569 ?_
    refine aw_ic_ne (tgt := 577) dL_acts_570 (by decide) rv ⟨by decide, by decide⟩ (fun h570 => ?_) (fun h570 => ?_)
    · exact absurd (F.2.1 (by omega)) h570
    · refine aw_iconst dL_acts_573 ?_
      refine aw_goto (tgt := 641) dL_acts_574 (by decide) ?_
      refine aw_zret dL_acts_641 rfl (Or.inr rfl) (by decide) (by decide) ?_
      exact ⟨_, rfl, rfl, rfl, m2, _, P2, w2, st⟩
/-- no key is in the block so far, and one may erase -/
def emF (s : Int → Int) (b : Int) (k : Nat) : Int := if b < 2 ∧ ¬ s 1 = 1 ∧ ¬ b = s 2 then nkA s b k else 0
theorem emF_b (s : Int → Int) (b : Int) (k : Nat) : emF s b k = 0 ∨ emF s b k = 1 := by
  have := nkA_s s b k
  unfold emF
  split
  · exact this
  · exact Or.inl rfl
theorem emF_N {s : Int → Int} {b : Int} {k : Nat} (g : emF s b k = 0) : emF s b (k + 1) = 0 := by
  unfold emF at g ⊢
  by_cases c0 : b < 2 ∧ ¬ s 1 = 1 ∧ ¬ b = s 2
  · rw [if_pos c0] at g ⊢
    show (if nkA s b k = 1 ∧ ¬ poF s (k : Int) 0 = b then (1 : Int) else 0) = 0
    rw [if_neg (by omega)]
  · rw [if_neg c0]
theorem emF_N2 {s : Int → Int} {b : Int} {k : Nat} (g : poF s (k : Int) 0 = b) : emF s b (k + 1) = 0 := by
  unfold emF
  by_cases c0 : b < 2 ∧ ¬ s 1 = 1 ∧ ¬ b = s 2
  · rw [if_pos c0]
    show (if nkA s b k = 1 ∧ ¬ poF s (k : Int) 0 = b then (1 : Int) else 0) = 0
    rw [if_neg (fun z => z.2 g)]
  · rw [if_neg c0]
theorem emF_Y {s : Int → Int} {b : Int} {k : Nat} (g : ¬ emF s b k = 0) (g2 : ¬ poF s (k : Int) 0 = b) : emF s b (k + 1) = 1 := by
  have t := emF_b s b k
  unfold emF at g t ⊢
  by_cases c0 : b < 2 ∧ ¬ s 1 = 1 ∧ ¬ b = s 2
  · rw [if_pos c0] at g t ⊢
    show (if nkA s b k = 1 ∧ ¬ poF s (k : Int) 0 = b then (1 : Int) else 0) = 1
    rw [if_pos ⟨by omega, g2⟩]
  · rw [if_neg c0] at g; exact absurd rfl g
/-- what is due of erase -/
theorem er_due {s : Int → Int} (hM : MI s) (hK : SK s) {b : Int} (b0 : 0 ≤ b) (b2 : b ≤ 2) : (erF s b).1 = if b = 2 then -1 else if emF s b 12 = 0 then -2 else s (6 + b) + 1 := by
  have F := er_v (s := s) b
  by_cases c1 : b = 2
  · rw [if_pos c1]; exact F.1 (by omega)
  · rw [if_neg c1]
    have nk := nk_ct hM hK (b := b) (by omega)
    have ns := nkA_s s b 12
    unfold emF
    by_cases c0 : b < 2 ∧ ¬ s 1 = 1 ∧ ¬ b = s 2
    · rw [if_pos c0]
      by_cases c3 : nkA s b 12 = 0
      · rw [if_pos c3]
        exact F.2.1 (by omega) (Or.inr (fun g => by have := nk.mpr g; omega))
      · rw [if_neg c3]
        exact F.2.2 (by omega) (fun g => by rcases g with g | g; exact c0.2.1 g; exact c0.2.2 g) (nk.mp (by omega))
    · rw [if_neg c0, if_pos rfl]
      refine F.2.1 (by omega) (Or.inl ?_)
      by_cases c4 : s 1 = 1
      · exact Or.inl c4
      · exact Or.inr (Classical.byContradiction fun g => c0 ⟨by omega, c4, g⟩)
set_option maxRecDepth 100000 in
set_option maxHeartbeats 4000000 in
theorem la_erase (hEN : EN E) (w : NV hi hr m s P n) (hn : n + 61 ≤ 100000) {x y how : Int} : AW E M_L_acts 0 0 648 [some (aR 0), some (aI x), some (aI y), some (aI how), some (aI (s 1)), none, none, none, none, none, none, none, none] [] hi hr 125 (PI (fun v h2 r2 n2 => n2 = 125 ∧ v = 1 ∧ ∃ (m2 : Int) (s2 : Int → Int) (P2 : Nat → Int → Int), NV h2 r2 m2 s2 P2 (n + 61) ∧ STEP m s P m2 s2 P2)) := by
  have o := w.2.1
  have hM := o.1.1
  have hb := hM.2.1
  have h1 := hM.2.2.2.2.2.1
  have h8 := hM.2.2.1
  have z11 := hM.z 11 (by unfold xc; omega)
  have z0 := hM.z 0 (by unfold xc; omega)
  have t9 := o.1.2.1
  have iw := iw_b s
  obtain ⟨q, c⟩ := w.1
  have body : ∀ b : Int, 0 ≤ b → b ≤ 2 → AW E M_L_acts 0 0 655 [some (aR 0), some (aI x), some (aI y), some (aI how), some (aI (s 1)), some (aI b), none, none, none, none, none, none, none] [] hi hr 125 (PI (fun v h2 r2 n2 => n2 = 125 ∧ v = 1 ∧ ∃ (m2 : Int) (s2 : Int → Int) (P2 : Nat → Int → Int), NV h2 r2 m2 s2 P2 (n + 61) ∧ STEP m s P m2 s2 P2)) := by
    intro b b0 b2
    have emb := emF_b s b
    have emr : ∀ k : Nat, InR (emF s b k) := fun k => by have := emb k; exact ⟨by omega, by omega⟩
    have c12 : b < 2 → cnF s m (hi 122 1) (12 + b) = s (6 + b) := fun g => by
      rcases (show b = 0 ∨ b = 1 by omega) with rfl | rfl
      · simp [cnF, ctF]
      · simp [cnF, ctF]
    have k742 : ∀ v : Int, (b < 2 → v = s (6 + b)) → AW E M_L_acts 0 0 742 [some (aR 0), some (aI x), some (aI y), some (aI how), some (aI (s 1)), some (aI b), some (aI (emF s b 12)), none, none, none, none, none, none] [aI v] hi hr 125 (PI (fun v h2 r2 n2 => n2 = 125 ∧ v = 1 ∧ ∃ (m2 : Int) (s2 : Int → Int) (P2 : Nat → Int → Int), NV h2 r2 m2 s2 P2 (n + 61) ∧ STEP m s P m2 s2 P2)) := by
      intro v hv
      refine aw_istore (ls2 := [_, _, _, _, _, _, _, _, _, _, _, _, _]) dL_acts_742 (by decide) rfl ?_
      refine aw_aload_n dL_acts_744 rfl ?_
      refine aw_iload dL_acts_745 rfl ?_
      refine aw_V1i dL_acts_747 clL_73 ⟨by decide, by decide⟩ (c := 8) (N := 5) (by decide) (by decide +kernel) rfl (c_X8_erase c o.1 (by omega) ⟨by omega, by omega⟩) (by decide) (by decide) rfl rfl (by simp only [List.length_cons, List.length_nil]; omega) (fun v_747 h_747 r_747 n_747 q_747 => ?_)
      obtain ⟨rfl, pq⟩ := q_747
      obtain ⟨ev, m2, P2, w2, st⟩ := w.post pq (e_er hM _) (o.er (by omega) _) (by omega)
      rw [er_due hM o.2.2.1.2.1 b0 b2] at ev
      refine aw_iload dL_acts_750 rfl ?_
      refine aw_iconst dL_acts_752 ?_
      refine aw_ic_ne (tgt := 760) dL_acts_753 (by decide) ⟨by omega, by omega⟩ ⟨by decide, by decide⟩ (fun h753 => ?_) (fun h753 => ?_)
      · refine aw_iload dL_acts_760 rfl ?_
        refine aw_if_eq (tgt := 772) dL_acts_762 (by decide) (emr 12) (fun h762 => ?_) (fun h762 => ?_)
        · refine aw_bipush dL_acts_772 (by decide) ?_
          refine aw_ic_neE (tgt := 781) dL_acts_774 (by decide) (by rw [ev]; (repeat' split) <;> omega) ?_
          refine aw_iconst dL_acts_777 ?_
          refine aw_goto (tgt := 782) dL_acts_778 (by decide) ?_
          refine aw_zret dL_acts_782 rfl (Or.inr rfl) (by decide) (by decide) ?_
          exact ⟨_, rfl, rfl, rfl, m2, _, P2, w2, st⟩
        · refine aw_iload dL_acts_765 rfl ?_
          refine aw_iconst dL_acts_767 ?_
          refine aw_iadd dL_acts_768 ?_
          refine aw_goto (tgt := 774) dL_acts_769 (by decide) ?_
          refine aw_ic_neE (tgt := 781) dL_acts_774 (by decide) (by rw [ev]; (repeat' split) <;> omega) ?_
          refine aw_iconst dL_acts_777 ?_
          refine aw_goto (tgt := 782) dL_acts_778 (by decide) ?_
          refine aw_zret dL_acts_782 rfl (Or.inr rfl) (by decide) (by decide) ?_
          exact ⟨_, rfl, rfl, rfl, m2, _, P2, w2, st⟩
      · refine aw_iconst dL_acts_756 ?_
        refine aw_goto (tgt := 774) dL_acts_757 (by decide) ?_
        refine aw_ic_neE (tgt := 781) dL_acts_774 (by decide) (by rw [ev]; (repeat' split) <;> omega) ?_
        refine aw_iconst dL_acts_777 ?_
        refine aw_goto (tgt := 782) dL_acts_778 (by decide) ?_
        refine aw_zret dL_acts_782 rfl (Or.inr rfl) (by decide) (by decide) ?_
        exact ⟨_, rfl, rfl, rfl, m2, _, P2, w2, st⟩
    have k723 : AW E M_L_acts 0 0 723 [some (aR 0), some (aI x), some (aI y), some (aI how), some (aI (s 1)), some (aI b), some (aI (emF s b 12)), none, none, none, none, none, none] [] hi hr 125 (PI (fun v h2 r2 n2 => n2 = 125 ∧ v = 1 ∧ ∃ (m2 : Int) (s2 : Int → Int) (P2 : Nat → Int → Int), NV h2 r2 m2 s2 P2 (n + 61) ∧ STEP m s P m2 s2 P2)) := by
      refine aw_iload dL_acts_723 rfl ?_
      refine aw_iconst dL_acts_725 ?_
      refine aw_ic_ge (tgt := 741) dL_acts_726 (by decide) ⟨by omega, by omega⟩ ⟨by decide, by decide⟩ (fun h726 => ?_) (fun h726 => ?_)
      · refine aw_iconst dL_acts_741 ?_
        exact k742 _ (fun g => absurd g (by omega))
      · refine aw_aload_n dL_acts_729 rfl ?_
        refine aw_bipush dL_acts_730 (by decide) ?_
        refine aw_iload dL_acts_732 rfl ?_
        refine aw_iadd dL_acts_734 ?_
        refine aw_V1x dL_acts_735 clL_13 ⟨by decide, by decide⟩ (c := 8) (N := 5) (by decide) (by decide +kernel) rfl (t_count w (v := s (6 + b)) ⟨by omega, by omega⟩ (c12 (by omega))) (by decide) (by decide) rfl rfl (by simp only [List.length_cons, List.length_nil]; omega) ?_
        refine aw_goto (tgt := 742) dL_acts_738 (by decide) ?_
        exact k742 _ (fun _ => rfl)
    have l686 : ∀ (d k : Nat), k + d = 12 → AW E M_L_acts 0 0 686 [some (aR 0), some (aI x), some (aI y), some (aI how), some (aI (s 1)), some (aI b), some (aI (emF s b k)), some (aI (k : Int)), none, none, none, none, none] [] hi hr 125 (PI (fun v h2 r2 n2 => n2 = 125 ∧ v = 1 ∧ ∃ (m2 : Int) (s2 : Int → Int) (P2 : Nat → Int → Int), NV h2 r2 m2 s2 P2 (n + 61) ∧ STEP m s P m2 s2 P2)) := by
      intro d
      induction d with
      | zero =>
        intro k hk
        refine aw_iload dL_acts_686 rfl ?_
        refine aw_bipush dL_acts_688 (by decide) ?_
        refine aw_ic_ge (tgt := 723) dL_acts_690 (by decide) ⟨by omega, by omega⟩ ⟨by decide, by decide⟩ (fun h690 => ?_) (fun h690 => ?_)
        · have ek : k = 12 := by omega
          subst ek
          refine aw_ls (ls2 := [some (aR 0), some (aI x), some (aI y), some (aI how), some (aI (s 1)), some (aI b), some (aI (emF s b 12)), none, none, none, none, none, none]) (lsk (lsk (lsk (lsk (lsk (lsk (lsk (lsd (lsk (lsk (lsk (lsk (lsk lsn))))))))))))) ?_
          exact k723
        · exact absurd h690 (by omega)
      | succ d ih =>
        intro k hk
        refine aw_iload dL_acts_686 rfl ?_
        refine aw_bipush dL_acts_688 (by decide) ?_
        refine aw_ic_ge (tgt := 723) dL_acts_690 (by decide) ⟨by omega, by omega⟩ ⟨by decide, by decide⟩ (fun h690 => ?_) (fun h690 => ?_)
        · exact absurd h690 (by omega)
        · refine aw_iload dL_acts_693 rfl ?_
          refine aw_if_eq (tgt := 714) dL_acts_695 (by decide) (emr k) (fun h695 => ?_) (fun h695 => ?_)
          · refine aw_iconst dL_acts_714 ?_
            refine aw_istore (ls2 := [_, _, _, _, _, _, _, _, _, _, _, _, _]) dL_acts_715 (by decide) rfl ?_
            refine aw_iinc (ls2 := [_, _, _, _, _, _, _, _, _, _, _, _, _]) dL_acts_717 rfl (by decide) rfl ?_
            refine aw_goto (tgt := 686) dL_acts_720 (by decide) ?_
            have g := ih (k + 1) (by omega)
            rw [show ((k + 1 : Nat) : Int) = (k : Int) + 1 by omega] at g
            rw [emF_N h695] at g
            exact g
          · refine aw_aload_n dL_acts_698 rfl ?_
            refine aw_iload dL_acts_699 rfl ?_
            refine aw_iconst dL_acts_701 ?_
            refine aw_V2x dL_acts_702 clL_30 ⟨by decide, by decide⟩ (c := 8) (N := 5) (by decide) (by decide +kernel) rfl (c_X8_placeOf c ⟨by omega, by omega⟩ ⟨by decide, by decide⟩) (by decide) (by decide) rfl rfl (by simp only [List.length_cons, List.length_nil]; omega) ?_
            refine aw_iload dL_acts_705 rfl ?_
            refine aw_ic_eq (tgt := 714) dL_acts_707 (by decide) (po_r hM (by omega) (by omega) (by decide) (by decide)) ⟨by omega, by omega⟩ (fun h707 => ?_) (fun h707 => ?_)
            · refine aw_iconst dL_acts_714 ?_
              refine aw_istore (ls2 := [_, _, _, _, _, _, _, _, _, _, _, _, _]) dL_acts_715 (by decide) rfl ?_
              refine aw_iinc (ls2 := [_, _, _, _, _, _, _, _, _, _, _, _, _]) dL_acts_717 rfl (by decide) rfl ?_
              refine aw_goto (tgt := 686) dL_acts_720 (by decide) ?_
              have g := ih (k + 1) (by omega)
              rw [show ((k + 1 : Nat) : Int) = (k : Int) + 1 by omega] at g
              rw [emF_N2 h707] at g
              exact g
            · refine aw_iconst dL_acts_710 ?_
              refine aw_goto (tgt := 715) dL_acts_711 (by decide) ?_
              refine aw_istore (ls2 := [_, _, _, _, _, _, _, _, _, _, _, _, _]) dL_acts_715 (by decide) rfl ?_
              refine aw_iinc (ls2 := [_, _, _, _, _, _, _, _, _, _, _, _, _]) dL_acts_717 rfl (by decide) rfl ?_
              refine aw_goto (tgt := 686) dL_acts_720 (by decide) ?_
              have g := ih (k + 1) (by omega)
              rw [show ((k + 1 : Nat) : Int) = (k : Int) + 1 by omega] at g
              rw [emF_Y h695 h707] at g
              exact g
    have k681 : ∀ v : Int, v = emF s b 0 → AW E M_L_acts 0 0 681 [some (aR 0), some (aI x), some (aI y), some (aI how), some (aI (s 1)), some (aI b), none, none, none, none, none, none, none] [aI v] hi hr 125 (PI (fun v h2 r2 n2 => n2 = 125 ∧ v = 1 ∧ ∃ (m2 : Int) (s2 : Int → Int) (P2 : Nat → Int → Int), NV h2 r2 m2 s2 P2 (n + 61) ∧ STEP m s P m2 s2 P2)) := by
      intro v ev
      subst ev
      refine aw_istore (ls2 := [_, _, _, _, _, _, _, _, _, _, _, _, _]) dL_acts_681 (by decide) rfl ?_
      refine aw_iconst dL_acts_683 ?_
      refine aw_istore (ls2 := [_, _, _, _, _, _, _, _, _, _, _, _, _]) dL_acts_684 (by decide) rfl ?_
      exact l686 12 0 (Nat.zero_add _)
    refine aw_iload dL_acts_655 rfl ?_
    refine aw_iconst dL_acts_657 ?_
    refine aw_ic_ge (tgt := 680) dL_acts_658 (by decide) ⟨by omega, by omega⟩ ⟨by decide, by decide⟩ (fun h658 => ?_) (fun h658 => ?_)
    · refine aw_iconst dL_acts_680 ?_
      refine k681 _ ?_
      unfold emF
      have : nkA s b 0 = 1 := rfl
      split <;> omega
    · refine aw_iload dL_acts_661 rfl ?_
      refine aw_if_ne (tgt := 680) dL_acts_663 (by decide) ⟨by omega, by omega⟩ (fun h663 => ?_) (fun h663 => ?_)
      · refine aw_iconst dL_acts_680 ?_
        refine k681 _ ?_
        unfold emF
        have : nkA s b 0 = 1 := rfl
        split <;> omega
      · refine aw_iload dL_acts_666 rfl ?_
        refine aw_aload_n dL_acts_668 rfl ?_
        refine aw_iconst dL_acts_669 ?_
        refine aw_V1x dL_acts_670 clL_13 ⟨by decide, by decide⟩ (c := 8) (N := 5) (by decide) (by decide +kernel) rfl (t_count w (k := 2) (v := s 2) ⟨by decide, by decide⟩ (by simp [cnF, ctF])) (by decide) (by decide) rfl rfl (by simp only [List.length_cons, List.length_nil]; omega) ?_
        refine aw_ic_eq (tgt := 680) dL_acts_673 (by decide) ⟨by omega, by omega⟩ ⟨by omega, by omega⟩ (fun h673 => ?_) (fun h673 => ?_)
        · refine aw_iconst dL_acts_680 ?_
          refine k681 _ ?_
          unfold emF
          have : nkA s b 0 = 1 := rfl
          split <;> omega
        · refine aw_iconst dL_acts_676 ?_
          refine aw_goto (tgt := 681) dL_acts_677 (by decide) ?_
          refine k681 _ ?_
          unfold emF
          have : nkA s b 0 = 1 := rfl
          split <;> omega
  refine aw_iload_n dL_acts_648 rfl ?_
  refine aw_iconst dL_acts_649 ?_
  refine aw_S2i dL_acts_650 clL_38 ⟨by decide, by decide⟩ (c_L_low (by decide) (by decide)) (by decide) (by decide) rfl rfl (by simp only [List.length_cons, List.length_nil]; omega) (fun v_650 h_650 r_650 n_650 q_650 => ?_)
  obtain ⟨rfl, rfl, rfl, e650, g650⟩ := q_650
  refine aw_istore (ls2 := [_, _, _, _, _, _, _, _, _, _, _, _, _]) dL_acts_653 (by decide) rfl ?_
  exact body _ (by omega) (by omega)
theorem cn30 (s : Int → Int) (n len : Int) {l : Int} (h0 : 0 ≤ l) (h1 : l ≤ 7) : cnF s n len (30 + l) = s (12 + l) := by
  unfold cnF
  rw [if_neg (by omega), if_neg (by omega), if_pos (by omega)]
  congr 1
  omega
theorem cn20 (s : Int → Int) (n len : Int) {l : Int} (h0 : 0 ≤ l) (h1 : l ≤ 3) : cnF s n len (20 + l) = s (20 + l) := by
  unfold cnF
  rw [if_neg (by omega), if_pos (by omega)]
  congr 1
  omega
set_option maxRecDepth 100000 in
set_option maxHeartbeats 4000000 in
theorem la_slow (hEN : EN E) (w : NV hi hr m s P n) (hn : n + 61 ≤ 100000) {x y how : Int} : AW E M_L_acts 0 0 789 [some (aR 0), some (aI x), some (aI y), some (aI how), some (aI (s 1)), none, none, none, none, none, none, none, none] [] hi hr 125 (PI (fun v h2 r2 n2 => n2 = 125 ∧ v = 1 ∧ ∃ (m2 : Int) (s2 : Int → Int) (P2 : Nat → Int → Int), NV h2 r2 m2 s2 P2 (n + 61) ∧ STEP m s P m2 s2 P2)) := by
  have o := w.2.1
  have hM := o.1.1
  have hb := hM.2.1
  have h1 := hM.2.2.2.2.2.1
  have h8 := hM.2.2.1
  have z11 := hM.z 11 (by unfold xc; omega)
  have z0 := hM.z 0 (by unfold xc; omega)
  have t9 := o.1.2.1
  have iw := iw_b s
  obtain ⟨q, c⟩ := w.1
  refine aw_iload_n dL_acts_789 rfl ?_
  refine aw_bipush dL_acts_790 (by decide) ?_
  refine aw_S2i dL_acts_792 clL_38 ⟨by decide, by decide⟩ (c_L_low (by decide) (by decide)) (by decide) (by decide) rfl rfl (by simp only [List.length_cons, List.length_nil]; omega) (fun v_792 h_792 r_792 n_792 q_792 => ?_)
  obtain ⟨rfl, rfl, rfl, e792, g792⟩ := q_792
  refine aw_istore (ls2 := [_, _, _, _, _, _, _, _, _, _, _, _, _]) dL_acts_795 (by decide) rfl ?_
  refine aw_iload_n dL_acts_797 rfl ?_
  refine aw_iconst dL_acts_798 ?_
  refine aw_shrX dL_acts_799 (fun j799 j799r => ?_)
  refine aw_bipush dL_acts_800 (by decide) ?_
  refine aw_S2i dL_acts_802 clL_38 ⟨by decide, by decide⟩ (c_L_low (by decide) (by decide)) (by decide) (by decide) rfl rfl (by simp only [List.length_cons, List.length_nil]; omega) (fun v_802 h_802 r_802 n_802 q_802 => ?_)
  obtain ⟨rfl, rfl, rfl, e802, g802⟩ := q_802
  refine aw_istore (ls2 := [_, _, _, _, _, _, _, _, _, _, _, _, _]) dL_acts_805 (by decide) rfl ?_
  refine aw_iload_n dL_acts_807 rfl ?_
  refine aw_bipush dL_acts_808 (by decide) ?_
  refine aw_shrX dL_acts_810 (fun j810 j810r => ?_)
  refine aw_iconst dL_acts_811 ?_
  refine aw_S2i dL_acts_812 clL_38 ⟨by decide, by decide⟩ (c_L_low (by decide) (by decide)) (by decide) (by decide) rfl rfl (by simp only [List.length_cons, List.length_nil]; omega) (fun v_812 h_812 r_812 n_812 q_812 => ?_)
  obtain ⟨rfl, rfl, rfl, e812, g812⟩ := q_812
  refine aw_istore (ls2 := [_, _, _, _, _, _, _, _, _, _, _, _, _]) dL_acts_815 (by decide) rfl ?_
  refine aw_iload_n dL_acts_817 rfl ?_
  refine aw_bipush dL_acts_818 (by decide) ?_
  refine aw_shrX dL_acts_820 (fun j820 j820r => ?_)
  refine aw_bipush dL_acts_821 (by decide) ?_
  refine aw_S2i dL_acts_823 clL_38 ⟨by decide, by decide⟩ (c_L_low (by decide) (by decide)) (by decide) (by decide) rfl rfl (by simp only [List.length_cons, List.length_nil]; omega) (fun v_823 h_823 r_823 n_823 q_823 => ?_)
  obtain ⟨rfl, rfl, rfl, e823, g823⟩ := q_823
  refine aw_istore (ls2 := [_, _, _, _, _, _, _, _, _, _, _, _, _]) dL_acts_826 (by decide) rfl ?_
  refine aw_iload_n dL_acts_828 rfl ?_
  refine aw_bipush dL_acts_829 (by decide) ?_
  refine aw_shrX dL_acts_831 (fun j831 j831r => ?_)
  refine aw_iconst dL_acts_832 ?_
  refine aw_S2i dL_acts_833 clL_38 ⟨by decide, by decide⟩ (c_L_low (by decide) (by decide)) (by decide) (by decide) rfl rfl (by simp only [List.length_cons, List.length_nil]; omega) (fun v_833 h_833 r_833 n_833 q_833 => ?_)
  obtain ⟨rfl, rfl, rfl, e833, g833⟩ := q_833
  refine aw_if_ne (tgt := 843) dL_acts_836 (by decide) ⟨by omega, by omega⟩ (fun h836 => ?_) (fun h836 => ?_)
  · refine aw_iconst dL_acts_843 ?_
    refine aw_istore (ls2 := [_, _, _, _, _, _, _, _, _, _, _, _, _]) dL_acts_844 (by decide) rfl ?_
    refine aw_iload dL_acts_846 rfl ?_
    refine aw_if_eq (tgt := 874) dL_acts_848 (by decide) ⟨by decide, by decide⟩ (fun h848 => ?_) (fun h848 => ?_)
    · refine aw_iload dL_acts_874 rfl ?_
      refine aw_iconst dL_acts_876 ?_
      refine aw_ic_ne (tgt := 884) dL_acts_877 (by decide) ⟨by omega, by omega⟩ ⟨by decide, by decide⟩ (fun h877 => ?_) (fun h877 => ?_)
      · refine aw_aload_n dL_acts_884 rfl ?_
        refine aw_bipush dL_acts_885 (by decide) ?_
        refine aw_iload dL_acts_887 rfl ?_
        refine aw_iadd dL_acts_889 ?_
        refine aw_V1x dL_acts_890 clL_13 ⟨by decide, by decide⟩ (c := 8) (N := 5) (by decide) (by decide +kernel) rfl (t_count w (v := s (20 + v_812)) ⟨by omega, by omega⟩ (cn20 s _ _ (by omega) (by omega))) (by decide) (by decide) rfl rfl (by simp only [List.length_cons, List.length_nil]; omega) ?_
        refine aw_istore (ls2 := [_, _, _, _, _, _, _, _, _, _, _, _, _]) dL_acts_893 (by decide) rfl ?_
        refine aw_iload dL_acts_895 rfl ?_
        refine aw_if_eq (tgt := 911) dL_acts_897 (by decide) ⟨by decide, by decide⟩ (fun h897 => ?_) (fun h897 => ?_)
        · refine aw_aload_n dL_acts_911 rfl ?_
          refine aw_iload dL_acts_912 rfl ?_
          refine aw_iload dL_acts_914 rfl ?_
          refine aw_V2i dL_acts_916 clL_79 ⟨by decide, by decide⟩ (c := 8) (N := 5) (by decide) (by decide +kernel) rfl (c_X8_set c hEN ⟨by omega, by omega⟩ ⟨by omega, by omega⟩) (by decide) (by decide) rfl rfl (by simp only [List.length_cons, List.length_nil]; omega) (fun v_916 h_916 r_916 n_916 q_916 => ?_)
          obtain ⟨rfl, pq⟩ := q_916
          obtain ⟨ev, m2, P2, w2, st⟩ := w.post pq (e_se hM _ _) (o.se _ _) (by omega)
          rw [se_v (by omega) (by omega) (by omega)] at ev
          refine aw_istore (ls2 := [_, _, _, _, _, _, _, _, _, _, _, _, _]) dL_acts_919 (by decide) rfl ?_
          refine aw_iload dL_acts_921 rfl ?_
          refine aw_if_eq (tgt := 948) dL_acts_923 (by decide) ⟨by decide, by decide⟩ (fun h923 => ?_) (fun h923 => ?_)
          · refine aw_iload dL_acts_948 rfl ?_
            refine aw_iconst dL_acts_950 ?_
            refine aw_ic_eq (tgt := 974) dL_acts_951 (by decide) ⟨by omega, by omega⟩ ⟨by decide, by decide⟩ (fun h951 => ?_) (fun h951 => ?_)
            · refine aw_iconst dL_acts_974 ?_
              refine aw_goto (tgt := 979) dL_acts_975 (by decide) ?_
              refine aw_istore (ls2 := [_, _, _, _, _, _, _, _, _, _, _, _, _]) dL_acts_979 (by decide) rfl ?_
              refine aw_iload dL_acts_981 rfl ?_
              refine aw_iload dL_acts_983 rfl ?_
              refine aw_if_eq (tgt := 992) dL_acts_985 (by decide) ⟨by decide, by decide⟩ (fun h985 => ?_) (fun h985 => ?_)
              · exact absurd h985 (by decide)
              · refine aw_iconst dL_acts_988 ?_
                refine aw_goto (tgt := 994) dL_acts_989 (by decide) ?_
                refine aw_ic_neE (tgt := 1001) dL_acts_994 (by decide) (by rw [ev]; (repeat' split) <;> omega) ?_
                refine aw_iconst dL_acts_997 ?_
                refine aw_goto (tgt := 1002) dL_acts_998 (by decide) ?_
                refine aw_zret dL_acts_1002 rfl (Or.inr rfl) (by decide) (by decide) ?_
                exact ⟨_, rfl, rfl, rfl, m2, _, P2, w2, st⟩
            · refine aw_iload dL_acts_954 rfl ?_
              refine aw_iconst dL_acts_956 ?_
              refine aw_ic_ne (tgt := 969) dL_acts_957 (by decide) ⟨by omega, by omega⟩ ⟨by decide, by decide⟩ (fun h957 => ?_) (fun h957 => ?_)
              · refine aw_iload dL_acts_969 rfl ?_
                refine aw_if_ne (tgt := 978) dL_acts_971 (by decide) ⟨by omega, by omega⟩ (fun h971 => ?_) (fun h971 => ?_)
                · refine aw_iconst dL_acts_978 ?_
                  refine aw_istore (ls2 := [_, _, _, _, _, _, _, _, _, _, _, _, _]) dL_acts_979 (by decide) rfl ?_
                  refine aw_iload dL_acts_981 rfl ?_
                  refine aw_iload dL_acts_983 rfl ?_
                  refine aw_if_eq (tgt := 992) dL_acts_985 (by decide) ⟨by decide, by decide⟩ (fun h985 => ?_) (fun h985 => ?_)
                  · refine aw_iload dL_acts_992 rfl ?_
                    refine aw_ic_neE (tgt := 1001) dL_acts_994 (by decide) (by rw [ev]; (repeat' split) <;> omega) ?_
                    refine aw_iconst dL_acts_997 ?_
                    refine aw_goto (tgt := 1002) dL_acts_998 (by decide) ?_
                    refine aw_zret dL_acts_1002 rfl (Or.inr rfl) (by decide) (by decide) ?_
                    exact ⟨_, rfl, rfl, rfl, m2, _, P2, w2, st⟩
                  · exact absurd h985 (by decide)
                · refine aw_iconst dL_acts_974 ?_
                  refine aw_goto (tgt := 979) dL_acts_975 (by decide) ?_
                  refine aw_istore (ls2 := [_, _, _, _, _, _, _, _, _, _, _, _, _]) dL_acts_979 (by decide) rfl ?_
                  refine aw_iload dL_acts_981 rfl ?_
                  refine aw_iload dL_acts_983 rfl ?_
                  refine aw_if_eq (tgt := 992) dL_acts_985 (by decide) ⟨by decide, by decide⟩ (fun h985 => ?_) (fun h985 => ?_)
                  · exact absurd h985 (by decide)
                  · refine aw_iconst dL_acts_988 ?_
                    refine aw_goto (tgt := 994) dL_acts_989 (by decide) ?_
                    refine aw_ic_neE (tgt := 1001) dL_acts_994 (by decide) (by rw [ev]; (repeat' split) <;> omega) ?_
                    refine aw_iconst dL_acts_997 ?_
                    refine aw_goto (tgt := 1002) dL_acts_998 (by decide) ?_
                    refine aw_zret dL_acts_1002 rfl (Or.inr rfl) (by decide) (by decide) ?_
                    exact ⟨_, rfl, rfl, rfl, m2, _, P2, w2, st⟩
              · refine aw_iload dL_acts_960 rfl ?_
                refine aw_iconst dL_acts_962 ?_
                refine aw_ic_le (tgt := 978) dL_acts_963 (by decide) ⟨by omega, by omega⟩ ⟨by decide, by decide⟩ (fun h963 => ?_) (fun h963 => ?_)
                · refine aw_iconst dL_acts_978 ?_
                  refine aw_istore (ls2 := [_, _, _, _, _, _, _, _, _, _, _, _, _]) dL_acts_979 (by decide) rfl ?_
                  refine aw_iload dL_acts_981 rfl ?_
                  refine aw_iload dL_acts_983 rfl ?_
                  refine aw_if_eq (tgt := 992) dL_acts_985 (by decide) ⟨by decide, by decide⟩ (fun h985 => ?_) (fun h985 => ?_)
                  · refine aw_iload dL_acts_992 rfl ?_
                    refine aw_ic_neE (tgt := 1001) dL_acts_994 (by decide) (by rw [ev]; (repeat' split) <;> omega) ?_
                    refine aw_iconst dL_acts_997 ?_
                    refine aw_goto (tgt := 1002) dL_acts_998 (by decide) ?_
                    refine aw_zret dL_acts_1002 rfl (Or.inr rfl) (by decide) (by decide) ?_
                    exact ⟨_, rfl, rfl, rfl, m2, _, P2, w2, st⟩
                  · exact absurd h985 (by decide)
                · refine aw_goto (tgt := 974) dL_acts_966 (by decide) ?_
                  refine aw_iconst dL_acts_974 ?_
                  refine aw_goto (tgt := 979) dL_acts_975 (by decide) ?_
                  refine aw_istore (ls2 := [_, _, _, _, _, _, _, _, _, _, _, _, _]) dL_acts_979 (by decide) rfl ?_
                  refine aw_iload dL_acts_981 rfl ?_
                  refine aw_iload dL_acts_983 rfl ?_
                  refine aw_if_eq (tgt := 992) dL_acts_985 (by decide) ⟨by decide, by decide⟩ (fun h985 => ?_) (fun h985 => ?_)
                  · exact absurd h985 (by decide)
                  · refine aw_iconst dL_acts_988 ?_
                    refine aw_goto (tgt := 994) dL_acts_989 (by decide) ?_
                    refine aw_ic_neE (tgt := 1001) dL_acts_994 (by decide) (by rw [ev]; (repeat' split) <;> omega) ?_
                    refine aw_iconst dL_acts_997 ?_
                    refine aw_goto (tgt := 1002) dL_acts_998 (by decide) ?_
                    refine aw_zret dL_acts_1002 rfl (Or.inr rfl) (by decide) (by decide) ?_
                    exact ⟨_, rfl, rfl, rfl, m2, _, P2, w2, st⟩
          · exact absurd h923 (by decide)
        · exact absurd h897 (by decide)
      · refine aw_iconst dL_acts_880 ?_
        refine aw_goto (tgt := 893) dL_acts_881 (by decide) ?_
        refine aw_istore (ls2 := [_, _, _, _, _, _, _, _, _, _, _, _, _]) dL_acts_893 (by decide) rfl ?_
        refine aw_iload dL_acts_895 rfl ?_
        refine aw_if_eq (tgt := 911) dL_acts_897 (by decide) ⟨by decide, by decide⟩ (fun h897 => ?_) (fun h897 => ?_)
        · refine aw_aload_n dL_acts_911 rfl ?_
          refine aw_iload dL_acts_912 rfl ?_
          refine aw_iload dL_acts_914 rfl ?_
          refine aw_V2i dL_acts_916 clL_79 ⟨by decide, by decide⟩ (c := 8) (N := 5) (by decide) (by decide +kernel) rfl (c_X8_set c hEN ⟨by omega, by omega⟩ ⟨by omega, by omega⟩) (by decide) (by decide) rfl rfl (by simp only [List.length_cons, List.length_nil]; omega) (fun v_916 h_916 r_916 n_916 q_916 => ?_)
          obtain ⟨rfl, pq⟩ := q_916
          obtain ⟨ev, m2, P2, w2, st⟩ := w.post pq (e_se hM _ _) (o.se _ _) (by omega)
          rw [se_v (by omega) (by omega) (by omega)] at ev
          refine aw_istore (ls2 := [_, _, _, _, _, _, _, _, _, _, _, _, _]) dL_acts_919 (by decide) rfl ?_
          refine aw_iload dL_acts_921 rfl ?_
          refine aw_if_eq (tgt := 948) dL_acts_923 (by decide) ⟨by decide, by decide⟩ (fun h923 => ?_) (fun h923 => ?_)
          · refine aw_iload dL_acts_948 rfl ?_
            refine aw_iconst dL_acts_950 ?_
            refine aw_ic_eq (tgt := 974) dL_acts_951 (by decide) ⟨by omega, by omega⟩ ⟨by decide, by decide⟩ (fun h951 => ?_) (fun h951 => ?_)
            · refine aw_iconst dL_acts_974 ?_
              refine aw_goto (tgt := 979) dL_acts_975 (by decide) ?_
              refine aw_istore (ls2 := [_, _, _, _, _, _, _, _, _, _, _, _, _]) dL_acts_979 (by decide) rfl ?_
              refine aw_iload dL_acts_981 rfl ?_
              refine aw_iload dL_acts_983 rfl ?_
              refine aw_if_eq (tgt := 992) dL_acts_985 (by decide) ⟨by decide, by decide⟩ (fun h985 => ?_) (fun h985 => ?_)
              · exact absurd h985 (by decide)
              · refine aw_iconst dL_acts_988 ?_
                refine aw_goto (tgt := 994) dL_acts_989 (by decide) ?_
                refine aw_ic_neE (tgt := 1001) dL_acts_994 (by decide) (by rw [ev]; (repeat' split) <;> omega) ?_
                refine aw_iconst dL_acts_997 ?_
                refine aw_goto (tgt := 1002) dL_acts_998 (by decide) ?_
                refine aw_zret dL_acts_1002 rfl (Or.inr rfl) (by decide) (by decide) ?_
                exact ⟨_, rfl, rfl, rfl, m2, _, P2, w2, st⟩
            · refine aw_iload dL_acts_954 rfl ?_
              refine aw_iconst dL_acts_956 ?_
              refine aw_ic_ne (tgt := 969) dL_acts_957 (by decide) ⟨by omega, by omega⟩ ⟨by decide, by decide⟩ (fun h957 => ?_) (fun h957 => ?_)
              · refine aw_iload dL_acts_969 rfl ?_
                refine aw_if_ne (tgt := 978) dL_acts_971 (by decide) ⟨by omega, by omega⟩ (fun h971 => ?_) (fun h971 => ?_)
                · refine aw_iconst dL_acts_978 ?_
                  refine aw_istore (ls2 := [_, _, _, _, _, _, _, _, _, _, _, _, _]) dL_acts_979 (by decide) rfl ?_
                  refine aw_iload dL_acts_981 rfl ?_
                  refine aw_iload dL_acts_983 rfl ?_
                  refine aw_if_eq (tgt := 992) dL_acts_985 (by decide) ⟨by decide, by decide⟩ (fun h985 => ?_) (fun h985 => ?_)
                  · refine aw_iload dL_acts_992 rfl ?_
                    refine aw_ic_neE (tgt := 1001) dL_acts_994 (by decide) (by rw [ev]; (repeat' split) <;> omega) ?_
                    refine aw_iconst dL_acts_997 ?_
                    refine aw_goto (tgt := 1002) dL_acts_998 (by decide) ?_
                    refine aw_zret dL_acts_1002 rfl (Or.inr rfl) (by decide) (by decide) ?_
                    exact ⟨_, rfl, rfl, rfl, m2, _, P2, w2, st⟩
                  · exact absurd h985 (by decide)
                · refine aw_iconst dL_acts_974 ?_
                  refine aw_goto (tgt := 979) dL_acts_975 (by decide) ?_
                  refine aw_istore (ls2 := [_, _, _, _, _, _, _, _, _, _, _, _, _]) dL_acts_979 (by decide) rfl ?_
                  refine aw_iload dL_acts_981 rfl ?_
                  refine aw_iload dL_acts_983 rfl ?_
                  refine aw_if_eq (tgt := 992) dL_acts_985 (by decide) ⟨by decide, by decide⟩ (fun h985 => ?_) (fun h985 => ?_)
                  · exact absurd h985 (by decide)
                  · refine aw_iconst dL_acts_988 ?_
                    refine aw_goto (tgt := 994) dL_acts_989 (by decide) ?_
                    refine aw_ic_neE (tgt := 1001) dL_acts_994 (by decide) (by rw [ev]; (repeat' split) <;> omega) ?_
                    refine aw_iconst dL_acts_997 ?_
                    refine aw_goto (tgt := 1002) dL_acts_998 (by decide) ?_
                    refine aw_zret dL_acts_1002 rfl (Or.inr rfl) (by decide) (by decide) ?_
                    exact ⟨_, rfl, rfl, rfl, m2, _, P2, w2, st⟩
              · refine aw_iload dL_acts_960 rfl ?_
                refine aw_iconst dL_acts_962 ?_
                refine aw_ic_le (tgt := 978) dL_acts_963 (by decide) ⟨by omega, by omega⟩ ⟨by decide, by decide⟩ (fun h963 => ?_) (fun h963 => ?_)
                · refine aw_iconst dL_acts_978 ?_
                  refine aw_istore (ls2 := [_, _, _, _, _, _, _, _, _, _, _, _, _]) dL_acts_979 (by decide) rfl ?_
                  refine aw_iload dL_acts_981 rfl ?_
                  refine aw_iload dL_acts_983 rfl ?_
                  refine aw_if_eq (tgt := 992) dL_acts_985 (by decide) ⟨by decide, by decide⟩ (fun h985 => ?_) (fun h985 => ?_)
                  · refine aw_iload dL_acts_992 rfl ?_
                    refine aw_ic_neE (tgt := 1001) dL_acts_994 (by decide) (by rw [ev]; (repeat' split) <;> omega) ?_
                    refine aw_iconst dL_acts_997 ?_
                    refine aw_goto (tgt := 1002) dL_acts_998 (by decide) ?_
                    refine aw_zret dL_acts_1002 rfl (Or.inr rfl) (by decide) (by decide) ?_
                    exact ⟨_, rfl, rfl, rfl, m2, _, P2, w2, st⟩
                  · exact absurd h985 (by decide)
                · refine aw_goto (tgt := 974) dL_acts_966 (by decide) ?_
                  refine aw_iconst dL_acts_974 ?_
                  refine aw_goto (tgt := 979) dL_acts_975 (by decide) ?_
                  refine aw_istore (ls2 := [_, _, _, _, _, _, _, _, _, _, _, _, _]) dL_acts_979 (by decide) rfl ?_
                  refine aw_iload dL_acts_981 rfl ?_
                  refine aw_iload dL_acts_983 rfl ?_
                  refine aw_if_eq (tgt := 992) dL_acts_985 (by decide) ⟨by decide, by decide⟩ (fun h985 => ?_) (fun h985 => ?_)
                  · exact absurd h985 (by decide)
                  · refine aw_iconst dL_acts_988 ?_
                    refine aw_goto (tgt := 994) dL_acts_989 (by decide) ?_
                    refine aw_ic_neE (tgt := 1001) dL_acts_994 (by decide) (by rw [ev]; (repeat' split) <;> omega) ?_
                    refine aw_iconst dL_acts_997 ?_
                    refine aw_goto (tgt := 1002) dL_acts_998 (by decide) ?_
                    refine aw_zret dL_acts_1002 rfl (Or.inr rfl) (by decide) (by decide) ?_
                    exact ⟨_, rfl, rfl, rfl, m2, _, P2, w2, st⟩
          · exact absurd h923 (by decide)
        · exact absurd h897 (by decide)
    · exact absurd h848 (by decide)
  · refine aw_iconst dL_acts_839 ?_
    refine aw_goto (tgt := 844) dL_acts_840 (by decide) ?_
    refine aw_istore (ls2 := [_, _, _, _, _, _, _, _, _, _, _, _, _]) dL_acts_844 (by decide) rfl ?_
    refine aw_iload dL_acts_846 rfl ?_
    refine aw_if_eq (tgt := 874) dL_acts_848 (by decide) ⟨by decide, by decide⟩ (fun h848 => ?_) (fun h848 => ?_)
    · exact absurd h848 (by decide)
    · refine aw_iload dL_acts_851 rfl ?_
      refine aw_bipush dL_acts_853 (by decide) ?_
      refine aw_ic_ne (tgt := 862) dL_acts_855 (by decide) ⟨by omega, by omega⟩ ⟨by decide, by decide⟩ (fun h855 => ?_) (fun h855 => ?_)
      · refine aw_aload_n dL_acts_862 rfl ?_
        refine aw_bipush dL_acts_863 (by decide) ?_
        refine aw_iload dL_acts_865 rfl ?_
        refine aw_iadd dL_acts_867 ?_
        refine aw_V1x dL_acts_868 clL_13 ⟨by decide, by decide⟩ (c := 8) (N := 5) (by decide) (by decide +kernel) rfl (t_count w (v := s (12 + v_792)) ⟨by omega, by omega⟩ (cn30 s _ _ (by omega) (by omega))) (by decide) (by decide) rfl rfl (by simp only [List.length_cons, List.length_nil]; omega) ?_
        refine aw_goto (tgt := 893) dL_acts_871 (by decide) ?_
        refine aw_istore (ls2 := [_, _, _, _, _, _, _, _, _, _, _, _, _]) dL_acts_893 (by decide) rfl ?_
        refine aw_iload dL_acts_895 rfl ?_
        refine aw_if_eq (tgt := 911) dL_acts_897 (by decide) ⟨by decide, by decide⟩ (fun h897 => ?_) (fun h897 => ?_)
        · exact absurd h897 (by decide)
        · refine aw_aload_n dL_acts_900 rfl ?_
          refine aw_iload dL_acts_901 rfl ?_
          refine aw_iload dL_acts_903 rfl ?_
          refine aw_V2i dL_acts_905 clL_76 ⟨by decide, by decide⟩ (c := 8) (N := 5) (by decide) (by decide +kernel) rfl (c_X8_slow c ⟨by omega, by omega⟩ ⟨by omega, by omega⟩) (by decide) (by decide) rfl rfl (by simp only [List.length_cons, List.length_nil]; omega) (fun v_905 h_905 r_905 n_905 q_905 => ?_)
          obtain ⟨rfl, pq⟩ := q_905
          obtain ⟨ev, m2, P2, w2, st⟩ := w.post pq (e_sl hM _ _) (o.sl _ _) (by omega)
          rw [sl_v (by omega) (by omega)] at ev
          refine aw_goto (tgt := 919) dL_acts_908 (by decide) ?_
          refine aw_istore (ls2 := [_, _, _, _, _, _, _, _, _, _, _, _, _]) dL_acts_919 (by decide) rfl ?_
          refine aw_iload dL_acts_921 rfl ?_
          refine aw_if_eq (tgt := 948) dL_acts_923 (by decide) ⟨by decide, by decide⟩ (fun h923 => ?_) (fun h923 => ?_)
          · exact absurd h923 (by decide)
          · refine aw_iload dL_acts_926 rfl ?_
            refine aw_bipush dL_acts_928 (by decide) ?_
            refine aw_ic_eq (tgt := 940) dL_acts_930 (by decide) ⟨by omega, by omega⟩ ⟨by decide, by decide⟩ (fun h930 => ?_) (fun h930 => ?_)
            · refine aw_iconst dL_acts_940 ?_
              refine aw_goto (tgt := 979) dL_acts_941 (by decide) ?_
              refine aw_istore (ls2 := [_, _, _, _, _, _, _, _, _, _, _, _, _]) dL_acts_979 (by decide) rfl ?_
              refine aw_iload dL_acts_981 rfl ?_
              refine aw_iload dL_acts_983 rfl ?_
              refine aw_if_eq (tgt := 992) dL_acts_985 (by decide) ⟨by decide, by decide⟩ (fun h985 => ?_) (fun h985 => ?_)
              · exact absurd h985 (by decide)
              · refine aw_iconst dL_acts_988 ?_
                refine aw_goto (tgt := 994) dL_acts_989 (by decide) ?_
                refine aw_ic_neE (tgt := 1001) dL_acts_994 (by decide) (by rw [ev]; (repeat' split) <;> omega) ?_
                refine aw_iconst dL_acts_997 ?_
                refine aw_goto (tgt := 1002) dL_acts_998 (by decide) ?_
                refine aw_zret dL_acts_1002 rfl (Or.inr rfl) (by decide) (by decide) ?_
                exact ⟨_, rfl, rfl, rfl, m2, _, P2, w2, st⟩
            · refine aw_iload dL_acts_933 rfl ?_
              refine aw_bipush dL_acts_935 (by decide) ?_
              refine aw_ic_ne (tgt := 944) dL_acts_937 (by decide) ⟨by omega, by omega⟩ ⟨by decide, by decide⟩ (fun h937 => ?_) (fun h937 => ?_)
              · refine aw_iconst dL_acts_944 ?_
                refine aw_goto (tgt := 979) dL_acts_945 (by decide) ?_
                refine aw_istore (ls2 := [_, _, _, _, _, _, _, _, _, _, _, _, _]) dL_acts_979 (by decide) rfl ?_
                refine aw_iload dL_acts_981 rfl ?_
                refine aw_iload dL_acts_983 rfl ?_
                refine aw_if_eq (tgt := 992) dL_acts_985 (by decide) ⟨by decide, by decide⟩ (fun h985 => ?_) (fun h985 => ?_)
                · refine aw_iload dL_acts_992 rfl ?_
                  refine aw_ic_neE (tgt := 1001) dL_acts_994 (by decide) (by rw [ev]; (repeat' split) <;> omega) ?_
                  refine aw_iconst dL_acts_997 ?_
                  refine aw_goto (tgt := 1002) dL_acts_998 (by decide) ?_
                  refine aw_zret dL_acts_1002 rfl (Or.inr rfl) (by decide) (by decide) ?_
                  exact ⟨_, rfl, rfl, rfl, m2, _, P2, w2, st⟩
                · exact absurd h985 (by decide)
              · refine aw_iconst dL_acts_940 ?_
                refine aw_goto (tgt := 979) dL_acts_941 (by decide) ?_
                refine aw_istore (ls2 := [_, _, _, _, _, _, _, _, _, _, _, _, _]) dL_acts_979 (by decide) rfl ?_
                refine aw_iload dL_acts_981 rfl ?_
                refine aw_iload dL_acts_983 rfl ?_
                refine aw_if_eq (tgt := 992) dL_acts_985 (by decide) ⟨by decide, by decide⟩ (fun h985 => ?_) (fun h985 => ?_)
                · exact absurd h985 (by decide)
                · refine aw_iconst dL_acts_988 ?_
                  refine aw_goto (tgt := 994) dL_acts_989 (by decide) ?_
                  refine aw_ic_neE (tgt := 1001) dL_acts_994 (by decide) (by rw [ev]; (repeat' split) <;> omega) ?_
                  refine aw_iconst dL_acts_997 ?_
                  refine aw_goto (tgt := 1002) dL_acts_998 (by decide) ?_
                  refine aw_zret dL_acts_1002 rfl (Or.inr rfl) (by decide) (by decide) ?_
                  exact ⟨_, rfl, rfl, rfl, m2, _, P2, w2, st⟩
      · refine aw_iconst dL_acts_858 ?_
        refine aw_goto (tgt := 893) dL_acts_859 (by decide) ?_
        refine aw_istore (ls2 := [_, _, _, _, _, _, _, _, _, _, _, _, _]) dL_acts_893 (by decide) rfl ?_
        refine aw_iload dL_acts_895 rfl ?_
        refine aw_if_eq (tgt := 911) dL_acts_897 (by decide) ⟨by decide, by decide⟩ (fun h897 => ?_) (fun h897 => ?_)
        · exact absurd h897 (by decide)
        · refine aw_aload_n dL_acts_900 rfl ?_
          refine aw_iload dL_acts_901 rfl ?_
          refine aw_iload dL_acts_903 rfl ?_
          refine aw_V2i dL_acts_905 clL_76 ⟨by decide, by decide⟩ (c := 8) (N := 5) (by decide) (by decide +kernel) rfl (c_X8_slow c ⟨by omega, by omega⟩ ⟨by omega, by omega⟩) (by decide) (by decide) rfl rfl (by simp only [List.length_cons, List.length_nil]; omega) (fun v_905 h_905 r_905 n_905 q_905 => ?_)
          obtain ⟨rfl, pq⟩ := q_905
          obtain ⟨ev, m2, P2, w2, st⟩ := w.post pq (e_sl hM _ _) (o.sl _ _) (by omega)
          rw [sl_v (by omega) (by omega)] at ev
          refine aw_goto (tgt := 919) dL_acts_908 (by decide) ?_
          refine aw_istore (ls2 := [_, _, _, _, _, _, _, _, _, _, _, _, _]) dL_acts_919 (by decide) rfl ?_
          refine aw_iload dL_acts_921 rfl ?_
          refine aw_if_eq (tgt := 948) dL_acts_923 (by decide) ⟨by decide, by decide⟩ (fun h923 => ?_) (fun h923 => ?_)
          · exact absurd h923 (by decide)
          · refine aw_iload dL_acts_926 rfl ?_
            refine aw_bipush dL_acts_928 (by decide) ?_
            refine aw_ic_eq (tgt := 940) dL_acts_930 (by decide) ⟨by omega, by omega⟩ ⟨by decide, by decide⟩ (fun h930 => ?_) (fun h930 => ?_)
            · refine aw_iconst dL_acts_940 ?_
              refine aw_goto (tgt := 979) dL_acts_941 (by decide) ?_
              refine aw_istore (ls2 := [_, _, _, _, _, _, _, _, _, _, _, _, _]) dL_acts_979 (by decide) rfl ?_
              refine aw_iload dL_acts_981 rfl ?_
              refine aw_iload dL_acts_983 rfl ?_
              refine aw_if_eq (tgt := 992) dL_acts_985 (by decide) ⟨by decide, by decide⟩ (fun h985 => ?_) (fun h985 => ?_)
              · exact absurd h985 (by decide)
              · refine aw_iconst dL_acts_988 ?_
                refine aw_goto (tgt := 994) dL_acts_989 (by decide) ?_
                refine aw_ic_neE (tgt := 1001) dL_acts_994 (by decide) (by rw [ev]; (repeat' split) <;> omega) ?_
                refine aw_iconst dL_acts_997 ?_
                refine aw_goto (tgt := 1002) dL_acts_998 (by decide) ?_
                refine aw_zret dL_acts_1002 rfl (Or.inr rfl) (by decide) (by decide) ?_
                exact ⟨_, rfl, rfl, rfl, m2, _, P2, w2, st⟩
            · refine aw_iload dL_acts_933 rfl ?_
              refine aw_bipush dL_acts_935 (by decide) ?_
              refine aw_ic_ne (tgt := 944) dL_acts_937 (by decide) ⟨by omega, by omega⟩ ⟨by decide, by decide⟩ (fun h937 => ?_) (fun h937 => ?_)
              · refine aw_iconst dL_acts_944 ?_
                refine aw_goto (tgt := 979) dL_acts_945 (by decide) ?_
                refine aw_istore (ls2 := [_, _, _, _, _, _, _, _, _, _, _, _, _]) dL_acts_979 (by decide) rfl ?_
                refine aw_iload dL_acts_981 rfl ?_
                refine aw_iload dL_acts_983 rfl ?_
                refine aw_if_eq (tgt := 992) dL_acts_985 (by decide) ⟨by decide, by decide⟩ (fun h985 => ?_) (fun h985 => ?_)
                · refine aw_iload dL_acts_992 rfl ?_
                  refine aw_ic_neE (tgt := 1001) dL_acts_994 (by decide) (by rw [ev]; (repeat' split) <;> omega) ?_
                  refine aw_iconst dL_acts_997 ?_
                  refine aw_goto (tgt := 1002) dL_acts_998 (by decide) ?_
                  refine aw_zret dL_acts_1002 rfl (Or.inr rfl) (by decide) (by decide) ?_
                  exact ⟨_, rfl, rfl, rfl, m2, _, P2, w2, st⟩
                · exact absurd h985 (by decide)
              · refine aw_iconst dL_acts_940 ?_
                refine aw_goto (tgt := 979) dL_acts_941 (by decide) ?_
                refine aw_istore (ls2 := [_, _, _, _, _, _, _, _, _, _, _, _, _]) dL_acts_979 (by decide) rfl ?_
                refine aw_iload dL_acts_981 rfl ?_
                refine aw_iload dL_acts_983 rfl ?_
                refine aw_if_eq (tgt := 992) dL_acts_985 (by decide) ⟨by decide, by decide⟩ (fun h985 => ?_) (fun h985 => ?_)
                · exact absurd h985 (by decide)
                · refine aw_iconst dL_acts_988 ?_
                  refine aw_goto (tgt := 994) dL_acts_989 (by decide) ?_
                  refine aw_ic_neE (tgt := 1001) dL_acts_994 (by decide) (by rw [ev]; (repeat' split) <;> omega) ?_
                  refine aw_iconst dL_acts_997 ?_
                  refine aw_goto (tgt := 1002) dL_acts_998 (by decide) ?_
                  refine aw_zret dL_acts_1002 rfl (Or.inr rfl) (by decide) (by decide) ?_
                  exact ⟨_, rfl, rfl, rfl, m2, _, P2, w2, st⟩
set_option maxRecDepth 100000 in
set_option maxHeartbeats 4000000 in
theorem la_text (hEN : EN E) (w : NV hi hr m s P n) (hn : n + 61 ≤ 100000) {x y how : Int} : AW E M_L_acts 0 0 1003 [some (aR 0), some (aI x), some (aI y), some (aI how), some (aI (s 1)), none, none, none, none, none, none, none, none] [] hi hr 125 (PI (fun v h2 r2 n2 => n2 = 125 ∧ v = 1 ∧ ∃ (m2 : Int) (s2 : Int → Int) (P2 : Nat → Int → Int), NV h2 r2 m2 s2 P2 (n + 61) ∧ STEP m s P m2 s2 P2)) := by
  have o := w.2.1
  have hM := o.1.1
  have hb := hM.2.1
  have h1 := hM.2.2.2.2.2.1
  have h8 := hM.2.2.1
  have z11 := hM.z 11 (by unfold xc; omega)
  have z0 := hM.z 0 (by unfold xc; omega)
  have t9 := o.1.2.1
  have iw := iw_b s
  obtain ⟨q, c⟩ := w.1
  refine aw_aload_n dL_acts_1003 rfl ?_
  refine aw_iload_n dL_acts_1004 rfl ?_
  refine aw_S2i dL_acts_1005 clL_82 ⟨by decide, by decide⟩ (c_L_types w.hr (TYP.rf w.2.2.2)) (by decide) (by decide) rfl rfl (by simp only [List.length_cons, List.length_nil]; omega) (fun v_1005 h_1005 r_1005 n_1005 q_1005 => ?_)
  obtain ⟨rfl, rfl, rfl, l5, t5⟩ := q_1005
  refine aw_if_eq (tgt := 1022) dL_acts_1008 (by decide) ⟨by decide, by decide⟩ (fun h1008 => ?_) (fun h1008 => ?_)
  · exact absurd h1008 (by decide)
  · refine aw_aload_n dL_acts_1011 rfl ?_
    refine aw_S1i dL_acts_1012 clL_85 ⟨by decide, by decide⟩ (c_L_reads hEN (w.txt t5) hn) (by decide) (by decide) rfl rfl (by simp only [List.length_cons, List.length_nil]; omega) (fun v_1012 h_1012 r_1012 n_1012 q_1012 => ?_)
    obtain ⟨rfl, rfl, ex⟩ := q_1012
    refine aw_if_eq (tgt := 1022) dL_acts_1015 (by decide) ⟨by decide, by decide⟩ (fun h1015 => ?_) (fun h1015 => ?_)
    · exact absurd h1015 (by decide)
    · refine aw_iconst dL_acts_1018 ?_
      refine aw_goto (tgt := 1023) dL_acts_1019 (by decide) ?_
      refine aw_zret dL_acts_1023 rfl (Or.inr rfl) (by decide) (by decide) ?_
      exact ⟨_, rfl, rfl, rfl, ex⟩
set_option maxRecDepth 100000 in
set_option maxHeartbeats 4000000 in
theorem c_L_acts (hEN : EN E) (w : NV hi hr m s P n) (hn : n + 61 ≤ 100000) {x y : Int} : AMet E M_L_acts [aR 0, aI x, aI y] hi hr 125 (PI (fun v h2 r2 n2 => n2 = 125 ∧ v = 1 ∧ ∃ (m2 : Int) (s2 : Int → Int) (P2 : Nat → Int → Int), NV h2 r2 m2 s2 P2 (n + 61) ∧ STEP m s P m2 s2 P2)) := by
  refine am_of (by decide +kernel) (Nat.le_of_ble_eq_true rfl) ?_
  have h1 := w.2.1.1.1.2.2.2.2.2.1
  have k20 : ∀ (how v : Int), 0 ≤ how → how < 18 → v = s 1 → AW E M_L_acts 0 0 20 [some (aR 0), some (aI x), some (aI y), some (aI how), none, none, none, none, none, none, none, none, none] [aI v] hi hr 125 (PI (fun v h2 r2 n2 => n2 = 125 ∧ v = 1 ∧ ∃ (m2 : Int) (s2 : Int → Int) (P2 : Nat → Int → Int), NV h2 r2 m2 s2 P2 (n + 61) ∧ STEP m s P m2 s2 P2)) := by
    intro how v g0 g1 ev
    subst ev
    refine aw_istore (ls2 := [_, _, _, _, _, _, _, _, _, _, _, _, _]) dL_acts_20 (by decide) rfl ?_
    refine aw_iload_n dL_acts_22 rfl ?_
    refine aw_bipush dL_acts_23 (by decide) ?_
    refine aw_ic_ge (tgt := 134) dL_acts_25 (by decide) ⟨by omega, by omega⟩ ⟨by decide, by decide⟩ (fun h25 => ?_) (fun h25 => ?_)
    · refine aw_iload_n dL_acts_134 rfl ?_
      refine aw_bipush dL_acts_135 (by decide) ?_
      refine aw_ic_ge (tgt := 301) dL_acts_137 (by decide) ⟨by omega, by omega⟩ ⟨by decide, by decide⟩ (fun h137 => ?_) (fun h137 => ?_)
      · refine aw_iload_n dL_acts_301 rfl ?_
        refine aw_bipush dL_acts_302 (by decide) ?_
        refine aw_ic_ne (tgt := 374) dL_acts_304 (by decide) ⟨by omega, by omega⟩ ⟨by decide, by decide⟩ (fun h304 => ?_) (fun h304 => ?_)
        · refine aw_iload_n dL_acts_374 rfl ?_
          refine aw_bipush dL_acts_375 (by decide) ?_
          refine aw_ic_ge (tgt := 431) dL_acts_377 (by decide) ⟨by omega, by omega⟩ ⟨by decide, by decide⟩ (fun h377 => ?_) (fun h377 => ?_)
          · refine aw_iload_n dL_acts_431 rfl ?_
            refine aw_bipush dL_acts_432 (by decide) ?_
            refine aw_ic_ne (tgt := 533) dL_acts_434 (by decide) ⟨by omega, by omega⟩ ⟨by decide, by decide⟩ (fun h434 => ?_) (fun h434 => ?_)
            · refine aw_iload_n dL_acts_533 rfl ?_
              refine aw_bipush dL_acts_534 (by decide) ?_
              refine aw_ic_ne (tgt := 642) dL_acts_536 (by decide) ⟨by omega, by omega⟩ ⟨by decide, by decide⟩ (fun h536 => ?_) (fun h536 => ?_)
              · refine aw_iload_n dL_acts_642 rfl ?_
                refine aw_bipush dL_acts_643 (by decide) ?_
                refine aw_ic_ne (tgt := 783) dL_acts_645 (by decide) ⟨by omega, by omega⟩ ⟨by decide, by decide⟩ (fun h645 => ?_) (fun h645 => ?_)
                · refine aw_iload_n dL_acts_783 rfl ?_
                  refine aw_bipush dL_acts_784 (by decide) ?_
                  refine aw_ic_ne (tgt := 1003) dL_acts_786 (by decide) ⟨by omega, by omega⟩ ⟨by decide, by decide⟩ (fun h786 => ?_) (fun h786 => ?_)
                  · exact la_text hEN w hn
                  · exact la_slow hEN w hn
                · exact la_erase hEN w hn
              · exact la_clean hEN w hn
            · exact la_turn hEN w hn
          · exact la_on hEN w hn
        · exact la_cut hEN w hn
      · exact la_tick hEN w hn
    · exact la_write hEN w hn
  refine aw_iload_n dL_acts_0 rfl ?_
  refine aw_bipush dL_acts_1 (by decide) ?_
  refine aw_S2i dL_acts_3 clL_38 ⟨by decide, by decide⟩ (c_L_low (by decide) (by decide)) (by decide) (by decide) rfl rfl (by simp only [List.length_cons, List.length_nil]; omega) (fun v_3 h_3 r_3 n_3 q_3 => ?_)
  obtain ⟨rfl, rfl, rfl, e3, g3⟩ := q_3
  refine aw_istore_n (ls2 := [_, _, _, _, _, _, _, _, _, _, _, _, _]) dL_acts_6 (by decide) rfl ?_
  refine aw_aload_n dL_acts_7 rfl ?_
  refine aw_iconst dL_acts_8 ?_
  refine aw_V1x dL_acts_9 clL_13 ⟨by decide, by decide⟩ (c := 8) (N := 5) (by decide) (by decide +kernel) rfl (t_count w (k := 1) (v := 1 - s 1) ⟨by decide, by decide⟩ (by simp [cnF, ctF])) (by decide) (by decide) rfl rfl (by simp only [List.length_cons, List.length_nil]; omega) ?_
  refine aw_if_ne (tgt := 19) dL_acts_12 (by decide) ⟨by omega, by omega⟩ (fun h12 => ?_) (fun h12 => ?_)
  · refine aw_iconst dL_acts_19 ?_
    exact k20 _ _ (by omega) (by omega) (by omega)
  · refine aw_iconst dL_acts_15 ?_
    refine aw_goto (tgt := 20) dL_acts_16 (by decide) ?_
    exact k20 _ _ (by omega) (by omega) (by omega)
end ACT
