/-! the law's small methods; what holds between the acts -/
section LB
variable {E : ET} {M : MT} {cu su pc : Nat} {ls : List (Option AV)} {st : List AV} {hi : HI} {hr : HR} {n : Nat} {Q Q2 : QT} {idx : Nat} {as : List AV}
theorem aw_ldc {v : Int32} {z : Int} (hd : decode (mC M) pc = .ok (.ldc idx, 2)) (hc : Cond.constant (mY M).cls idx v ∈ lw_tbl) (hz : v = Int32.ofInt z) (kk : AW E M cu su (pc + 2) ls (aI z :: st) hi hr n Q) : AW E M cu su pc ls st hi hr n Q := by
  intro p e s m args below meth c H locs lsA C hC hL hR
  have g := kk p e s m args below meth c H locs lsA C hC hL hR
  rw [List.map_cons, cv_i, ← hz] at g
  exact lv_ldc C.1 C.2.1 C.2.2.2.2.2.1 (C.2.2.2.2.2.2.2.1 _ hc rfl _) hd g
theorem aw_addX {x y : Int} (hd : decode (mC M) pc = .ok (.iadd, 1)) (k : ∀ j : Int, InR j → AW E M cu su (pc + 1) ls (aI j :: st) hi hr n Q) : AW E M cu su pc ls (aI y :: aI x :: st) hi hr n Q := by
  intro p e s m args below meth c H locs lsA C hC hL hR
  refine lv_iadd C.1 C.2.1 hd ?_
  have g : ∀ z : Int32, W p (eL E) e (mR M) s m args below meth c H locs cu su (MQ below (QA E Q) args s (mMc M) (mMs M) (fr E)) (F0 m (pc + 1) lsA (.int z :: st.map (cv E))) := fun z => by
    have q := k z.toInt ⟨Int32.le_toInt _, Int32.toInt_lt _⟩ p e s m args below meth c H locs lsA C hC hL hR
    rw [List.map_cons, cv_i, Int32.ofInt_toInt] at q
    exact q
  exact g _
theorem aw_st (k : (∀ i : Nat, i < 6 → ∀ j : Nat, hi (1000 + i) j = eX E i j) → AW E M cu su pc ls st hi hr n Q) : AW E M cu su pc ls st hi hr n Q :=
  fun p e s m args below meth c H locs lsA C hC hL hR => k hC.2.2.2.2.1 p e s m args below meth c H locs lsA C hC hL hR
theorem am_mono (h : AMet E M as hi hr n Q) (k : ∀ (r : Option AV) (h2 : HI) (r2 : HR) (n2 : Nat), Q r h2 r2 n2 → Q2 r h2 r2 n2) : AMet E M as hi hr n Q2 := by
  intro p e ha hc hk s m args below hf happ hP hT
  obtain ⟨n, o, h1, h2, h3, ⟨r, hi, hr, n', q1, q2, q3⟩, h4⟩ := h p e ha hc hk s m args below hf happ hP hT
  exact ⟨n, o, h1, h2, h3, ⟨r, hi, hr, n', q1, k _ _ _ _ q2, q3⟩, h4⟩
end LB
theorem xh_of {E : ET} {h : HI} (XE : XH (fun a j => eX E (a - 1000) j)) (hS : ∀ i : Nat, i < 6 → ∀ j : Nat, h (1000 + i) j = eX E i j) : XH h :=
  ⟨fun j hj => (hS 0 (by decide) j).trans (XE.1 j hj), fun j hj => (hS 1 (by decide) j).trans (XE.2.1 j hj), fun j hj => (hS 2 (by decide) j).trans (XE.2.2.1 j hj), fun j hj => (hS 3 (by decide) j).trans (XE.2.2.2.1 j hj), fun j hj => (hS 4 (by decide) j).trans (XE.2.2.2.2 j hj)⟩
theorem i32r (r : Int32) : InR r.toInt := by
  have h1 := Int32.le_toInt r
  have h2 := Int32.toInt_lt r
  exact ⟨by omega, by omega⟩
/-- the text that there is -/
abbrev tgv (h : HI) : Int → Int := fun k => h 123 k.toNat
def TXV (h : HI) : Prop := TX (tgv h) (h 122 1)
def TYP (hi h : HI) (l : Int) : Prop := (∀ a : Nat, ¬ a = 122 → ¬ a = 123 → ∀ k : Nat, h a k = hi a k) ∧ TXV h ∧ h 122 1 = l
theorem TYP.rf {hi : HI} (h : TXV hi) : TYP hi hi (hi 122 1) := ⟨fun _ _ _ _ => rfl, h, rfl⟩
theorem TYP.tr {a b c : HI} {l l2 : Int} (h : TYP a b l) (g : TYP b c l2) : TYP a c l2 := ⟨fun x h1 h2 k => (g.1 x h1 h2 k).trans (h.1 x h1 h2 k), g.2⟩
def STEP (m : Int) (s : Int → Int) (P : Nat → Int → Int) (m2 : Int) (s2 : Int → Int) (P2 : Nat → Int → Int) : Prop := (m2 = m ∧ s2 = s ∧ P2 = P) ∨ PU m P s m2 P2
/-- what holds between the acts -/
def NV (h : HI) (hr : HR) (m : Int) (s : Int → Int) (P : Nat → Int → Int) (n : Int) : Prop := (∃ q : Nat → Nat, CIv hr h q m s P) ∧ OX s n ∧ (∀ i : Nat, (i : Int) < m → OX (P i) n) ∧ TXV h
theorem NV.le {h : HI} {hr : HR} {m : Int} {s : Int → Int} {P : Nat → Int → Int} {n n2 : Int} (v : NV h hr m s P n) (hn : n ≤ n2) : NV h hr m s P n2 := ⟨v.1, v.2.1.le hn, fun i hi => (v.2.2.1 i hi).le hn, v.2.2.2⟩
theorem TXV.of {h h2 : HI} (t : TXV h) (e1 : h2 122 1 = h 122 1) (e2 : ∀ k : Nat, h2 123 k = h 123 k) : TXV h2 := by
  unfold TXV
  rw [e1]
  exact ⟨t.1, t.2.1, fun j j0 j1 => by show 32 ≤ h2 123 j.toNat ∧ h2 123 j.toNat ≤ 126; rw [e2]; exact t.2.2 j j0 j1⟩
theorem NV.b {h : HI} {hr : HR} {m : Int} {s : Int → Int} {P : Nat → Int → Int} {n : Int} (v : NV h hr m s P n) : 0 ≤ m ∧ m ≤ 4 := by
  obtain ⟨⟨q, c⟩, -⟩ := v
  exact ⟨c.2.2.1.2.1, c.2.2.1.2.2⟩
theorem NV.hr {h : HI} {hr : HR} {m : Int} {s : Int → Int} {P : Nat → Int → Int} {n : Int} (v : NV h hr m s P n) : HRk hr := by
  obtain ⟨⟨q, c⟩, -⟩ := v
  exact c.1
/-- a text's change leaves the rest -/
theorem NV.txt {h h2 : HI} {hr : HR} {m : Int} {s : Int → Int} {P : Nat → Int → Int} {n l : Int} (v : NV h hr m s P n) (t : TYP h h2 l) : NV h2 hr m s P n := by
  obtain ⟨⟨q, c⟩, o, p, -⟩ := v
  refine ⟨⟨q, ?_⟩, o, p, t.2.1⟩
  obtain ⟨c1, c2, ⟨c3, c4, c5⟩, c6, c7, c8⟩ := c
  have e : ∀ a : Nat, ¬ a = 122 → ¬ a = 123 → ∀ k : Nat, h2 a k = h a k := t.1
  have sm : ∀ p, St p → SAME (getS p h2) (getS p h) := fun p hp => same_get (fun j hj k => e _ (by have := st_lt hp; omega) (by have := st_lt hp; omega) k)
  exact ⟨c1, c2, ⟨(e 35 (by decide) (by decide) 1).trans c3, c4, c5⟩, (sm 1 st1).rlT c6, fun i hi => (sm _ (c2.1 i (by omega)).2).rlT (c7 i hi), c8.of (fun a ha k => e a (by omega) (by omega) k)⟩
theorem NV.post {h h2 : HI} {hr r2 : HR} {m : Int} {s : Int → Int} {P : Nat → Int → Int} {n n2 v : Int} {res : Int × (Int → Int)} (w : NV h hr m s P n) (p : POST h m s P res v h2 r2) (he : res.1 < 0 → res.2 = s) (ho : OX res.2 n2) (hn : n ≤ n2) :
    v = res.1 ∧ ∃ (m2 : Int) (P2 : Nat → Int → Int), NV h2 r2 m2 res.2 P2 n2 ∧ STEP m s P m2 res.2 P2 := by
  have wb := w.b
  obtain ⟨-, o, q, t⟩ := w
  obtain ⟨p1, p2, p3, q2, m2, s2, P2, c, d⟩ := p
  refine ⟨p1, m2, P2, ?_⟩
  have t2 : TXV h2 := t.of p3 (p2 123 (Or.inl rfl))
  rcases d with ⟨d1, rfl, rfl, rfl⟩ | ⟨d1, rfl, d3⟩
  · have e := he (by omega)
    rw [e] at ho ⊢
    exact ⟨⟨⟨q2, c⟩, ho, fun i hi => (q i hi).le hn, t2⟩, Or.inl ⟨rfl, rfl, rfl⟩⟩
  · refine ⟨⟨⟨q2, c⟩, ho, fun i hi => ?_, t2⟩, Or.inr d3⟩
    by_cases h4 : m < 4
    · obtain ⟨rfl, rfl⟩ := d3.1 h4
      dsimp only
      by_cases e : i = m.toNat
      · rw [if_pos e]; exact o.le hn
      · rw [if_neg e]; exact (q i (by omega)).le hn
    · obtain ⟨rfl, rfl⟩ := d3.2 (by omega)
      dsimp only
      by_cases e : i = 3
      · rw [if_pos e]; exact o.le hn
      · rw [if_neg e]; exact (q (i + 1) (by omega)).le hn
section LAWM
variable {E : ET} {hi : HI} {hr : HR} {L : Nat}
set_option maxRecDepth 100000 in
set_option maxHeartbeats 4000000 in
theorem c_L_low {v z : Int} (h0 : 0 < z) (h1 : z < 2147483648) : AMet E M_L_low [aI v, aI z] hi hr 125 (PI (fun w h r2 n2 => h = hi ∧ r2 = hr ∧ n2 = 125 ∧ 0 ≤ w ∧ w < z)) := by
  refine am_of (by decide +kernel) (Nat.le_of_ble_eq_true rfl) ?_
  refine aw_iload_n dL_low_0 rfl ?_
  refine aw_ldc (z := 2147483647) dL_low_1 w_kL8 (by decide) ?_
  refine aw_andM dL_low_3 (fun j j0 j1 => ?_)
  refine aw_iload_n dL_low_4 rfl ?_
  refine aw_irem dL_low_5 (by omega) ⟨by omega, by omega⟩ (by omega) ⟨by omega, by omega⟩ ?_
  refine aw_iret dL_low_6 rfl (by decide) (by decide) ?_
  exact ⟨_, rfl, rfl, rfl, rfl, Int.emod_nonneg _ (by omega), Int.emod_lt_of_pos _ h0⟩
set_option maxRecDepth 100000 in
set_option maxHeartbeats 4000000 in
theorem c_L_lot (hL : L = eN E 5) (hL2 : L ≤ 260) (hI : ∀ j : Nat, InR (eX E 5 j)) {k : Int} (k0 : 0 ≤ k) (k1 : k ≤ 1000) : AMet E M_L_lot [aR 1005, aI k] hi hr 125 (PI (fun w h r2 n2 => h = hi ∧ r2 = hr ∧ n2 = 125 ∧ InR w)) := by
  refine am_of (by decide +kernel) (Nat.le_of_ble_eq_true rfl) ?_
  refine aw_st (fun hS => ?_)
  refine aw_iload_n dL_lot_0 rfl ?_
  refine aw_aload_n dL_lot_1 rfl ?_
  refine aw_alen dL_lot_2 (Or.inr ⟨5, by decide, rfl, hL⟩) ?_
  refine aw_ic_ge (tgt := 12) dL_lot_3 (by decide) ⟨by omega, by omega⟩ ⟨by omega, by omega⟩ (fun h3 => ?_) (fun h3 => ?_)
  · refine aw_ldc (z := (-674241173)) dL_lot_12 w_kL7 (by decide) ?_
    refine aw_iload_n dL_lot_14 rfl ?_
    refine aw_sipush dL_lot_15 (by decide) ?_
    refine aw_iadd dL_lot_18 ?_
    refine aw_mulX dL_lot_19 (fun j19 j19r => ?_)
    refine aw_sipush dL_lot_20 (by decide) ?_
    refine aw_addX dL_lot_23 (fun j22 j22r => ?_)
    refine aw_iret dL_lot_24 rfl (by decide) (by decide) ?_
    exact ⟨_, rfl, rfl, rfl, rfl, j22r⟩
  · refine aw_aload_n dL_lot_6 rfl ?_
    refine aw_iload_n dL_lot_7 rfl ?_
    refine aw_iald (N := L) dL_lot_8 (Or.inr ⟨5, by decide, rfl, hL⟩) (by omega) (by omega) (by omega) rfl ?_
    refine aw_goto (tgt := 24) dL_lot_9 (by decide) ?_
    refine aw_iret dL_lot_24 rfl (by decide) (by decide) ?_
    exact ⟨_, rfl, rfl, rfl, rfl, by have := hS 5 (by decide) k.toNat; rw [show hi 1005 k.toNat = eX E 5 k.toNat from this]; exact hI _⟩
theorem t_type {h0 : HI} {l x : Int} (hHR : HRk hr) (t : TYP h0 hi l) (hl : l < 60) (x0 : 32 ≤ x) (x1 : x ≤ 126) : AMet E M_X8_type [aR 0, aI x] hi hr 125 (PI (fun v h r2 n2 => r2 = hr ∧ n2 = 125 ∧ v = l + 1 ∧ TYP h0 h (l + 1))) := by
  obtain ⟨t1, t2, t3⟩ := t
  have hl0 := t2.1
  refine am_mono (c_X8_type hHR ⟨by omega, by omega⟩ (by omega) (by omega)) ?_
  rintro r h r2 n2 ⟨v, rfl, rfl, rfl, hv, -, hh⟩
  have ev : v = l + 1 := by rw [hv]; unfold tyF; rw [if_neg (fun g => g ⟨x0, x1⟩), if_neg (by omega), t3]
  have e := hh (by omega)
  have e1 : h 122 1 = l + 1 := by rw [e, up2_self, t3]
  have e2 : ∀ j : Int, 0 ≤ j → tgv h j = if j = l then x else tgv hi j := fun j hj => by
    show h 123 j.toNat = _
    rw [e, up2_ne _ _ _ (by decide)]
    unfold up2
    by_cases d : j = l
    · rw [if_pos d, if_pos ⟨rfl, by omega⟩]
    · rw [if_neg d, if_neg (fun g => d (by have := g.2; omega))]
  refine ⟨v, rfl, rfl, rfl, ev, fun a a1 a2 k => ?_, ⟨by omega, by omega, fun j j0 j1 => ?_⟩, e1⟩
  · rw [e, up2_ne _ _ _ a1, up2_ne _ _ _ a2]; exact t1 a a1 a2 k
  · rw [e2 j j0]
    by_cases d : j = l
    · rw [if_pos d]; exact ⟨x0, x1⟩
    · rw [if_neg d]; exact t2.2.2 j j0 (by omega)
theorem t_clear {h0 : HI} {l : Int} (hHR : HRk hr) (t : TYP h0 hi l) : AMet E M_X8_clearText [aR 0] hi hr 125 (PI (fun v h r2 n2 => r2 = hr ∧ n2 = 125 ∧ v = l ∧ TYP h0 h 0)) := by
  obtain ⟨t1, t2, t3⟩ := t
  refine am_mono (c_X8_clearText hHR) ?_
  rintro r h r2 n2 ⟨rfl, rfl, rfl, rfl⟩
  refine ⟨_, rfl, rfl, rfl, t3, fun a a1 a2 k => ?_, ?_, up2_self _ _ _ _⟩
  · rw [up2_ne _ _ _ a1]; exact t1 a a1 a2 k
  · unfold TXV
    rw [up2_self]
    exact ⟨by decide, by decide, fun j j0 j1 => by omega⟩
end LAWM
