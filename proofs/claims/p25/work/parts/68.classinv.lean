/-! what the class's heap says, and how a change goes -/
def HQ (hr : HR) (q : Nat → Nat) : Prop := HP hr q ∧ (∀ j : Nat, j < 5 → ¬ q j = 1 ∧ ¬ q j = 18) ∧ ∀ i j : Nat, i < 5 → j < 5 → q i = q j → i = j
theorem HQ.rot {hr : HR} {q : Nat → Nat} (h : HQ hr q) : HQ (rot hr q) (rq q) := by
  refine ⟨rot_HP h.1, fun j hj => ?_, fun i j hi hj e => ?_⟩
  · unfold rq; split
    · exact h.2.1 0 (by decide)
    · exact h.2.1 (j + 1) (by omega)
  · unfold rq at e
    by_cases c : i = 4
    · rw [if_pos c] at e
      by_cases d : j = 4
      · omega
      · rw [if_neg d] at e; have := h.2.2 0 (j + 1) (by decide) (by omega) e; omega
    · rw [if_neg c] at e
      by_cases d : j = 4
      · rw [if_pos d] at e; have := h.2.2 (i + 1) 0 (by omega) (by decide) e; omega
      · rw [if_neg d] at e; have := h.2.2 (i + 1) (j + 1) (by omega) (by omega) e; omega
def CIv (hr : HR) (h : HI) (q : Nat → Nat) (m : Int) (s : Int → Int) (P : Nat → Int → Int) : Prop :=
  HRk hr ∧ HQ hr q ∧ (h 35 1 = m ∧ 0 ≤ m ∧ m ≤ 4) ∧ RlT (getS 1 h) s ∧ (∀ i : Nat, (i : Int) < m → RlT (getS (q i) h) (P i)) ∧ XH h
theorem get_put {o : Nat} (ho : St o) (h : HI) (t : TS) : SAME (getS o (putS o h t)) t := by
  have e : ∀ (j : Nat) (k : Int), j < 17 → 0 ≤ k → getS o (putS o h t) j k = t j k := fun j k hj hk => putS_gi o h t j hk hj
  exact ⟨fun j k _ g k0 _ => e j k (by omega) k0, e 6 4 (by decide) (by decide), fun j k _ g k0 _ => e j k (by omega) k0, fun k k0 _ => e 11 k (by decide) k0, fun k k0 _ => e 12 k (by decide) k0, ⟨fun k k0 _ => e 13 k (by decide) k0, fun k k0 _ => e 14 k (by decide) k0, fun k k0 _ => e 15 k (by decide) k0⟩, e 0 8 (by decide) (by decide), e 0 9 (by decide) (by decide), e 0 10 (by decide) (by decide)⟩
theorem get_other {o p : Nat} (ho : St o) (hp : St p) (hn : ¬ p = o) (h : HI) (t : TS) : SAME (getS p (putS o h t)) (getS p h) := same_get (fun j hj k => putS_o ho hp hn h t j k hj)
theorem get_size {p : Nat} (hp : St p) (h : HI) (v : Int) : SAME (getS p (up2 h 35 1 v)) (getS p h) := same_get (fun j hj k => up2_ne _ _ _ (st_35 hp j hj) _)
theorem st_far {o a : Nat} (ho : St o) (ha : a = 35 ∨ 122 ≤ a) : a < o ∨ o + 17 ≤ a := by
  rcases ha with rfl | ha
  · exact (show ∀ o, o ∈ stIds → 35 < o ∨ o + 17 ≤ 35 by decide) o ho
  · have := st_lt ho; omega
/-- the state that is noted, and the one that comes -/
def nt1 (hi : HI) (x : Nat) : HI := putS x hi (scS (getS x hi) (getS 1 hi))
theorem nt1_far {hi : HI} {x a : Nat} (hx : St x) (ha : a = 35 ∨ 122 ≤ a) (k : Nat) : nt1 hi x a k = hi a k := putS_out _ _ _ (st_far hx ha)
theorem CIv.q {hr : HR} {h : HI} {q : Nat → Nat} {m : Int} {s : Int → Int} {P : Nat → Int → Int} (c : CIv hr h q m s P) : hr 36 (h 35 1).toNat = some (q m.toNat) ∧ St (q m.toNat) ∧ ¬ 1 = q m.toNat ∧ ¬ q m.toNat = 18 ∧ 0 ≤ h 35 1 ∧ h 35 1 ≤ 4 ∧ BO (getS 1 h) := by
  obtain ⟨c1, c2, ⟨c3, c4, c5⟩, c6, c7, c8⟩ := c
  have g := c2.1 m.toNat (by omega)
  have g2 := c2.2.1 m.toNat (by omega)
  exact ⟨by rw [c3]; exact g.1, g.2, fun e => g2.1 e.symm, g2.2, by omega, by omega, c6.1.bo⟩
theorem CIv.nt {hr : HR} {h : HI} {q : Nat → Nat} {m : Int} {s : Int → Int} {P : Nat → Int → Int} (c : CIv hr h q m s P) : RlT (getS 1 (nt1 h (q m.toNat))) s ∧ XH (nt1 h (q m.toNat)) := by
  obtain ⟨g1, g2, g3, g4, g5, g6, g7⟩ := c.q
  exact ⟨(get_other g2 st1 (fun e => g3 e) _ _).rlT c.2.2.2.1, c.2.2.2.2.2.of (fun a ha k => nt1_far g2 (Or.inr (by omega)) k)⟩
theorem CIv.after {hr : HR} {h : HI} {q : Nat → Nat} {m : Int} {s s2 : Int → Int} {P : Nat → Int → Int} {t2 : TS} (c : CIv hr h q m s P) (hR : RlT t2 s2) :
    RlT (getS 1 (putS 1 (nt1 h (q m.toNat)) t2)) s2 ∧ (∀ i : Nat, (i : Int) < m → RlT (getS (q i) (putS 1 (nt1 h (q m.toNat)) t2)) (P i)) ∧ RlT (getS (q m.toNat) (putS 1 (nt1 h (q m.toNat)) t2)) s ∧ ∀ a : Nat, a = 35 ∨ 122 ≤ a → ∀ k : Nat, putS 1 (nt1 h (q m.toNat)) t2 a k = h a k := by
  obtain ⟨g1, g2, g3, g4, g5, g6, g7⟩ := c.q
  obtain ⟨c1, c2, ⟨c3, c4, c5⟩, c6, c7, c8⟩ := c
  refine ⟨(get_put st1 _ _).rlT hR, fun i hi => ?_, ?_, fun a ha k => (putS_out _ _ _ (st_far st1 ha)).trans (nt1_far g2 ha k)⟩
  · have x := c2.1 i (by omega)
    have y := c2.2.1 i (by omega)
    have z : ¬ q i = q m.toNat := fun e => by have := c2.2.2 i m.toNat (by omega) (by omega) e; omega
    exact ((get_other st1 x.2 y.1 _ _).tr (get_other g2 x.2 z _ _)).rlT (c7 i hi)
  · exact (((get_other st1 g2 (fun e => g3 e.symm) _ _).tr (get_put g2 _ _)).tr (scS_same _ _)).rlT c6
def PU (m : Int) (P : Nat → Int → Int) (s : Int → Int) (m2 : Int) (P2 : Nat → Int → Int) : Prop := (m < 4 → m2 = m + 1 ∧ P2 = fun i => if i = m.toNat then s else P i) ∧ (m = 4 → m2 = 4 ∧ P2 = fun i => if i = 3 then s else P (i + 1))
def KC (hr : HR) (q : Nat → Nat) (h2 : HI) (v : Int) (h3 : HI) (r3 : HR) : Prop := (v < 0 → r3 = hr ∧ h3 = h2) ∧ (0 ≤ v → (h2 35 1 < 4 → r3 = hr ∧ h3 = up2 h2 35 1 (h2 35 1 + 1)) ∧ (h2 35 1 = 4 → r3 = rot hr q ∧ h3 = up2 h2 35 1 4))
def POST (hi : HI) (m : Int) (s : Int → Int) (P : Nat → Int → Int) (res : Int × (Int → Int)) (v : Int) (h : HI) (r2 : HR) : Prop :=
  v = res.1 ∧ (∀ a : Nat, a = 123 ∨ 125 ≤ a → ∀ k : Nat, h a k = hi a k) ∧ h 122 1 = hi 122 1 ∧ ∃ (q2 : Nat → Nat) (m2 : Int) (s2 : Int → Int) (P2 : Nat → Int → Int), CIv r2 h q2 m2 s2 P2 ∧ ((v < 0 ∧ m2 = m ∧ s2 = s ∧ P2 = P) ∨ (0 ≤ v ∧ s2 = res.2 ∧ PU m P s m2 P2))
theorem post_of {hr : HR} {hi : HI} {q : Nat → Nat} {m : Int} {s : Int → Int} {P : Nat → Int → Int} {t2 : TS} {res : Int × (Int → Int)} {h3 : HI} {r3 : HR} {h2 : HI} (c : CIv hr hi q m s P) (hR : RlT t2 res.2) (he : res.1 < 0 → res.2 = s)
    (h2e : h2 = putS 1 (nt1 hi (q m.toNat)) t2) (hk : KC hr q h2 res.1 h3 r3) : POST hi m s P res res.1 h3 r3 := by
  obtain ⟨n1, n2, n3, n4⟩ := c.after hR
  rw [← h2e] at n1 n2 n3 n4
  obtain ⟨c1, c2, ⟨c3, c4, c5⟩, c6, c7, c8⟩ := c
  have e35 : h2 35 1 = m := (n4 35 (Or.inl rfl) 1).trans c3
  have xh : XH h2 := c8.of (fun a ha k => n4 a (Or.inr (by omega)) k)
  by_cases hv : res.1 < 0
  · obtain ⟨rfl, rfl⟩ := hk.1 hv
    refine ⟨rfl, fun a ha k => n4 a (Or.inr (by omega)) k, n4 122 (Or.inr (by decide)) 1, q, m, s, P, ⟨c1, c2, ⟨e35, c4, c5⟩, ?_, n2, xh⟩, Or.inl ⟨hv, rfl, rfl, rfl⟩⟩
    rw [he hv] at n1
    exact n1
  · obtain ⟨k1, k2⟩ := hk.2 (by omega)
    have far : ∀ (v : Int) (a : Nat), 122 ≤ a → ∀ k : Nat, up2 h2 35 1 v a k = hi a k := fun v a ha k => (up2_ne _ _ _ (by omega) _).trans (n4 a (Or.inr ha) k)
    have xh2 : ∀ v : Int, XH (up2 h2 35 1 v) := fun v => c8.of (fun a ha k => far v a (by omega) k)
    by_cases h4 : m < 4
    · obtain ⟨rfl, rfl⟩ := k1 (by omega)
      rw [e35]
      refine ⟨rfl, fun a ha k => far _ a (by omega) k, far _ 122 (by decide) 1, q, m + 1, res.2, _, ⟨c1, c2, ⟨up2_self _ _ _ _, by omega, by omega⟩, (get_size st1 _ _).rlT n1, fun i hi => ?_, xh2 _⟩, Or.inr ⟨by omega, rfl, ⟨fun _ => ⟨rfl, rfl⟩, fun g => absurd g (by omega)⟩⟩⟩
      have x := (c2.1 i (by omega)).2
      by_cases hi3 : i = m.toNat
      · rw [if_pos hi3, hi3]
        rw [hi3] at x
        exact (get_size x _ _).rlT n3
      · rw [if_neg hi3]
        exact (get_size x _ _).rlT (n2 i (by omega))
    · have m4 : m = 4 := by omega
      obtain ⟨rfl, rfl⟩ := k2 (by omega)
      refine ⟨rfl, fun a ha k => far _ a (by omega) k, far _ 122 (by decide) 1, rq q, 4, res.2, _, ⟨c1.of (rot_o _ _), c2.rot, ⟨up2_self _ _ _ _, by decide, by decide⟩, (get_size st1 _ _).rlT n1, fun i hi => ?_, xh2 _⟩, Or.inr ⟨by omega, rfl, ⟨fun g => absurd g (by omega), fun _ => ⟨rfl, rfl⟩⟩⟩⟩
      have x := (c2.1 (i + 1) (by omega)).2
      have eq : rq q i = q (i + 1) := by unfold rq; rw [if_neg (by omega)]
      rw [eq]
      by_cases hi3 : i = 3
      · rw [if_pos hi3]
        have e4 : i + 1 = m.toNat := by omega
        rw [e4] at x ⊢
        exact (get_size x _ _).rlT n3
      · rw [if_neg hi3]
        exact (get_size x _ _).rlT (n2 (i + 1) (by omega))
/-- what a question may change -/
def KEEPC (hi h : HI) : Prop := (∀ a : Nat, (a < 18 ∨ 35 ≤ a) → ¬ a = 122 → ¬ a = 124 → ∀ k : Nat, h a k = hi a k) ∧ h 122 1 = hi 122 1
theorem CIv.keepc {hr : HR} {hi h : HI} {q : Nat → Nat} {m : Int} {s : Int → Int} {P : Nat → Int → Int} (c : CIv hr hi q m s P) (g : KEEPC hi h) : CIv hr h q m s P := by
  obtain ⟨c1, c2, ⟨c3, c4, c5⟩, c6, c7, c8⟩ := c
  have st_k : ∀ p, St p → ¬ p = 18 → SAME (getS p h) (getS p hi) := fun p hp h18 => same_get (fun j hj k => g.1 _ (by have := st_dj st18 hp h18; omega) (by have := st_lt hp; omega) (by have := st_lt hp; omega) k)
  refine ⟨c1, c2, ⟨(g.1 35 (by decide) (by decide) (by decide) 1).trans c3, c4, c5⟩, (st_k 1 st1 (by decide)).rlT c6, fun i hi => (st_k _ (c2.1 i (by omega)).2 (c2.2.1 i (by omega)).2).rlT (c7 i hi), c8.of (fun a ha k => g.1 a (by omega) (by omega) (by omega) k)⟩
theorem POST.from {hi h0 : HI} {m : Int} {s : Int → Int} {P : Nat → Int → Int} {res : Int × (Int → Int)} {v : Int} {h : HI} {r2 : HR} (p : POST h0 m s P res v h r2) (g : KEEPC hi h0) : POST hi m s P res v h r2 := by
  obtain ⟨p1, p2, p3, p4⟩ := p
  exact ⟨p1, fun a ha k => (p2 a ha k).trans (g.1 a (by omega) (by omega) (by omega) k), p3.trans g.2, p4⟩
