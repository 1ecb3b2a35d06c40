/-! class and twin together -/
abbrev pr (hi : HI) (i : Nat) : Int → Int := fun k => pst hi (256 * (i : Int) + k)
def TXT (h : HI) : Prop := h 122 1 = h 125 5 ∧ TX (tg h) (h 125 5) ∧ ∀ j : Nat, (j : Int) < h 125 5 → h 123 j = tg h (j : Int)
def INV (h : HI) (hr : HR) (n : Int) : Prop :=
  (∃ (q : Nat → Nat) (m : Int), CIv hr h q m (sg h) (pr h) ∧ h 125 3 = m ∧ ∀ i : Nat, (i : Int) < m → OKS (pr h i) n ∧ BK (pr h i)) ∧ (OKS (sg h) n ∧ BK (sg h)) ∧ TXT h
theorem BK.cong {s t : Int → Int} (h : BK s) (e : ∀ x, 0 ≤ x → x < 256 → t x = s x) : BK t := h.same (fun x x0 x1 => e x (by omega) (by omega))
theorem inv_of {h1 h2 : HI} {hr : HR} {q : Nat → Nat} {m n : Int} {s : Int → Int} {P : Nat → Int → Int} (c : CIv hr h1 q m s P) (hx : XH h2) (lo : ∀ a : Nat, a < 122 → ∀ k : Nat, h2 a k = h1 a k) (e3 : h2 125 3 = m)
    (es : ∀ k : Int, 0 ≤ k → k < 256 → sg h2 k = s k) (ep : ∀ i : Nat, (i : Int) < m → ∀ k : Int, 0 ≤ k → k < 256 → pr h2 i k = P i k) (ho : OKS s n ∧ BK s) (hp : ∀ i : Nat, (i : Int) < m → OKS (P i) n ∧ BK (P i)) (ht : TXT h2) : INV h2 hr n := by
  obtain ⟨c1, c2, ⟨c3, c4, c5⟩, c6, c7, c8⟩ := c
  have sm : ∀ p, St p → SAME (getS p h2) (getS p h1) := fun p hp => same_get (fun j hj k => lo _ (by have := st_lt hp; omega) k)
  refine ⟨⟨q, m, ⟨c1, c2, ⟨(lo 35 (by decide) 1).trans c3, c4, c5⟩, ((sm 1 st1).rlT c6).cong es, fun i hi => ((sm _ (c2.1 i (by omega)).2).rlT (c7 i hi)).cong (ep i hi), hx⟩, e3, fun i hi => ⟨(hp i hi).1.cong (ep i hi), (hp i hi).2.cong (ep i hi)⟩⟩, ⟨ho.1.cong es, ho.2.cong es⟩, ht⟩
theorem tg_eq {h1 h2 : HI} (e : ∀ k : Nat, h2 129 k = h1 129 k) : tg h2 = tg h1 := by funext k; exact e _
theorem sg_eq {h1 h2 : HI} (e : ∀ k : Nat, h2 126 k = h1 126 k) : sg h2 = sg h1 := by funext k; exact e _
theorem TXT.keep {h1 h2 : HI} (t : TXT h1) (e1 : h2 122 1 = h1 122 1) (e2 : ∀ k : Nat, h2 123 k = h1 123 k) (e3 : h2 125 5 = h1 125 5) (e4 : ∀ k : Nat, h2 129 k = h1 129 k) : TXT h2 := by
  unfold TXT
  rw [tg_eq e4, e3, e1]
  exact ⟨t.1, t.2.1, fun j hj => by rw [e2]; exact t.2.2 j hj⟩
/-- a change -/
theorem inv_change {hi h1 h2 : HI} {hr r2 : HR} {n n2 : Int} {q : Nat → Nat} {m : Int} {res : Int × (Int → Int)} {v1 v2 : Int} (i1 : CIv hr hi q m (sg hi) (pr hi)) (i2 : hi 125 3 = m) (i3 : ∀ i : Nat, (i : Int) < m → OKS (pr hi i) n ∧ BK (pr hi i)) (i4 : OKS (sg hi) n ∧ BK (sg hi)) (i5 : TXT hi)
    (p : POST hi m (sg hi) (pr hi) res v1 h1 r2) (u : PUB h1 res v2 h2) (hx : XH h2) (ho : OKS res.2 n2 ∧ BK res.2) (hn : n ≤ n2) : v1 = v2 ∧ INV h2 r2 n2 := by
  obtain ⟨p1, p2, p3, q2, m2, s2, P2, c, p4⟩ := p
  obtain ⟨u1, u2, u3, u4, u5⟩ := u
  have m0 := i1.2.2.1.2.1
  have e3 : h1 125 3 = m := (p2 125 (Or.inr (by decide)) 3).trans i2
  have esg : sg h1 = sg hi := sg_eq (p2 126 (Or.inr (by decide)))
  have epst : ∀ k : Int, pst h1 k = pst hi k := fun k => p2 128 (Or.inr (by decide)) _
  have ht : TXT h2 := i5.keep ((u2 122 (by decide) 1).trans p3) (fun k => (u2 123 (by decide) k).trans (p2 123 (Or.inl rfl) k)) (u4.trans (p2 125 (Or.inr (by decide)) 5)) (fun k => (u3 k).trans (p2 129 (Or.inr (by decide)) k))
  have up : ∀ i : Nat, (i : Int) < m → OKS (pr hi i) n2 ∧ BK (pr hi i) := fun i hi => ⟨(i3 i hi).1.le hn, (i3 i hi).2⟩
  refine ⟨by omega, ?_⟩
  rcases p4 with ⟨a1, rfl, rfl, rfl⟩ | ⟨a1, rfl, a3⟩
  · rcases u5 with ⟨b1, b2, b3, b4⟩ | ⟨b1, -⟩
    · refine inv_of c hx (fun a ha k => u2 a (by omega) k) (b3.trans e3) (fun k k0 k1 => ?_) (fun i hi2 k k0 k1 => ?_) ⟨i4.1.le hn, i4.2⟩ up ht
      · rw [b2 k k0 k1, esg]
      · exact (b4 _).trans (epst _)
    · exact absurd a1 (by omega)
  · rcases u5 with ⟨b1, -⟩ | ⟨b1, b2, b3⟩
    · exact absurd a1 (by omega)
    · rw [e3, esg] at b3
      by_cases h4 : m < 4
      · obtain ⟨d1, d2, d3⟩ := b3.2 h4
        obtain ⟨rfl, rfl⟩ := a3.1 h4
        refine inv_of c hx (fun a ha k => u2 a (by omega) k) d1 b2 (fun i hi2 k k0 k1 => ?_) ho (fun i hi2 => ?_) ht
        · show pst h2 (256 * (i : Int) + k) = _
          by_cases e : i = m.toNat
          · rw [if_pos e, show (i : Int) = m by omega]; exact d3 k k0 k1
          · rw [if_neg e, d2 _ (by omega) (by omega)]; exact epst _
        · by_cases e : i = m.toNat
          · rw [if_pos e]; exact ⟨i4.1.le hn, i4.2⟩
          · rw [if_neg e]; exact up i (by omega)
      · have m4 : m = 4 := by have := i1.2.2.1.2.2; omega
        obtain ⟨d1, d2, d3⟩ := b3.1 m4
        obtain ⟨rfl, rfl⟩ := a3.2 m4
        refine inv_of c hx (fun a ha k => u2 a (by omega) k) d1 b2 (fun i hi2 k k0 k1 => ?_) ho (fun i hi2 => ?_) ht
        · show pst h2 (256 * (i : Int) + k) = _
          by_cases e : i = 3
          · rw [if_pos e, show (i : Int) = 3 by omega]; exact d3 k k0 k1
          · rw [if_neg e, d2 _ (by omega) (by omega), epst]
            show pst hi (256 * (i : Int) + k + 256) = pst hi (256 * ((i + 1 : Nat) : Int) + k)
            rw [show 256 * (i : Int) + k + 256 = 256 * ((i + 1 : Nat) : Int) + k by omega]
        · by_cases e : i = 3
          · rw [if_pos e]; exact ⟨i4.1.le hn, i4.2⟩
          · rw [if_neg e]; exact up (i + 1) (by omega)
/-- a question -/
theorem inv_keep {hi h1 h2 : HI} {hr : HR} {n n2 : Int} (i : INV hi hr n) (k1 : KEEPC hi h1) (k2 : KEEP h1 h2) (hx : XH h2) (hn : n ≤ n2) : INV h2 hr n2 := by
  obtain ⟨⟨q, m, c, e3, hp⟩, ho, ht⟩ := i
  obtain ⟨u2, u3, u4, u5, u6, u7⟩ := k2
  have far : ∀ a : Nat, 125 ≤ a → ∀ k : Nat, h1 a k = hi a k := fun a ha k => k1.1 a (by omega) (by omega) (by omega) k
  have esg : sg h1 = sg hi := sg_eq (far 126 (by decide))
  refine inv_of (c.keepc k1) hx (fun a ha k => u2 a (by omega) k) (u4.trans ((far 125 (by decide) 3).trans e3)) (fun k k0 k1 => by rw [u6 k k0 k1, esg]) (fun i _ k _ _ => (u7 _).trans (far 128 (by decide) _)) ⟨ho.1.le hn, ho.2⟩ (fun i hi => ⟨(hp i hi).1.le hn, (hp i hi).2⟩) ?_
  exact ht.keep ((u2 122 (by decide) 1).trans k1.2) (fun k => (u2 123 (by decide) k).trans (k1.1 123 (by decide) (by decide) (by decide) k)) (u5.trans (far 125 (by decide) 5)) (fun k => (u3 k).trans (far 129 (by decide) k))
theorem INV.le {h : HI} {hr : HR} {n n2 : Int} (i : INV h hr n) (hn : n ≤ n2) : INV h hr n2 := by
  obtain ⟨⟨q, m, c, e3, hp⟩, ho, ht⟩ := i
  exact ⟨⟨q, m, c, e3, fun i hi => ⟨(hp i hi).1.le hn, (hp i hi).2⟩⟩, ⟨ho.1.le hn, ho.2⟩, ht⟩
/-- the latest state is restored -/
theorem inv_undo {hi h1 h2 : HI} {hr : HR} {n : Int} {m : Int} {q : Nat → Nat} (c : CIv hr h1 q (m - 1) (pr hi (m - 1).toNat) (pr hi)) (hm : 0 < m) (hp : ∀ i : Nat, (i : Int) < m → OKS (pr hi i) n ∧ BK (pr hi i)) (ht : TXT hi) (far : ∀ a : Nat, 122 ≤ a → ∀ k : Nat, h1 a k = hi a k)
    (u2 : ∀ a : Nat, a < 125 → ∀ k : Nat, h2 a k = h1 a k) (u3 : ∀ k : Nat, h2 129 k = h1 129 k) (u4 : h2 125 3 = m - 1) (u5 : h2 125 5 = h1 125 5) (u6 : ∀ k : Int, 0 ≤ k → k < 256 → sg h2 k = pst h1 (256 * (m - 1) + k)) (u7 : ∀ k : Nat, h2 128 k = h1 128 k) (hx : XH h2) : INV h2 hr n := by
  refine inv_of c hx (fun a ha k => u2 a (by omega) k) u4 (fun k k0 k1 => ?_) (fun i _ k _ _ => (u7 _).trans (far 128 (by decide) _)) (hp _ (by omega)) (fun i hi2 => hp i (by omega)) ?_
  · rw [u6 k k0 k1]
    show pst h1 (256 * (m - 1) + k) = pst hi (256 * ((m - 1).toNat : Int) + k)
    rw [show ((m - 1).toNat : Int) = m - 1 by omega]
    exact far 128 (by decide) _
  · exact ht.keep ((u2 122 (by decide) 1).trans (far 122 (by decide) 1)) (fun k => (u2 123 (by decide) k).trans (far 123 (by decide) k)) (u5.trans (far 125 (by decide) 5)) (fun k => (u3 k).trans (far 129 (by decide) k))
/-- a text's other length -/
theorem inv_text {hi h2 : HI} {hr : HR} {n : Int} (i : INV hi hr n) (lo : ∀ a : Nat, a < 122 → ∀ k : Nat, h2 a k = hi a k) (u4 : h2 125 3 = hi 125 3) (u6 : ∀ k : Nat, h2 126 k = hi 126 k) (u7 : ∀ k : Nat, h2 128 k = hi 128 k) (hx : XH h2) (ht : TXT h2) : INV h2 hr n := by
  obtain ⟨⟨q, m, c, e3, hp⟩, ho, -⟩ := i
  exact inv_of c hx lo (u4.trans e3) (fun k _ _ => u6 _) (fun i _ k _ _ => u7 _) ho hp ht
theorem inv_type {hi h2 : HI} {hr : HR} {n x : Int} (i : INV hi hr n) (hv : 0 ≤ tyF (hi 122 1) x) (h2e : h2 = pa 125 (pa 129 (up2 (up2 hi 123 (hi 122 1).toNat x) 122 1 (hi 122 1 + 1)) (up1 (tg hi) (hi 125 5) x)) (up1 (fd hi) 5 (hi 125 5 + 1))) (hx : XH h2) : INV h2 hr n := by
  have ht := i.2.2
  have hl := ht.1
  have hT := ht.2.1
  have hl0 := hT.1
  have hl1 := hT.2.1
  have cx : (32 ≤ x ∧ x ≤ 126) ∧ ¬ hi 122 1 = 60 := by
    unfold tyF at hv
    by_cases c : 32 ≤ x ∧ x ≤ 126
    · rw [if_neg (fun g => g c)] at hv
      by_cases d : hi 122 1 = 60
      · rw [if_pos d] at hv; exact absurd hv (by decide)
      · exact ⟨c, d⟩
    · rw [if_pos c] at hv; exact absurd hv (by decide)
  have o : ∀ (a k : Nat), ¬ a = 122 → ¬ a = 123 → ¬ a = 125 → ¬ a = 129 → h2 a k = hi a k := fun a k h1 h2' h3 h4 => by
    rw [h2e, pa_gn _ _ _ h3, pa_gn _ _ _ h4, up2_ne _ _ _ h1, up2_ne _ _ _ h2']
  have e5 : h2 125 5 = hi 125 5 + 1 := by rw [h2e, pa_gk 125 _ _ 5 5 rfl, up1_s]
  have e122 : h2 122 1 = hi 122 1 + 1 := by rw [h2e, pa_gn _ _ _ (by decide), pa_gn _ _ _ (by decide), up2_self]
  have e129 : ∀ j : Int, 0 ≤ j → tg h2 j = up1 (tg hi) (hi 125 5) x j := fun j hj => by
    show h2 129 j.toNat = _
    rw [h2e, pa_gn _ _ _ (by decide), pa_gi _ _ _ hj]
  refine inv_text i (fun a ha k => o a k (by omega) (by omega) (by omega) (by omega)) ?_ (fun k => o 126 k (by decide) (by decide) (by decide) (by decide)) (fun k => o 128 k (by decide) (by decide) (by decide) (by decide)) hx ⟨by rw [e122, e5, hl], ⟨by omega, by omega, fun j j0 j1 => ?_⟩, fun j hj => ?_⟩
  · rw [h2e, pa_gk 125 _ _ 3 3 rfl, up1_n _ _ (by decide)]; rfl
  · rw [e129 j j0]
    by_cases e : j = hi 125 5
    · rw [e, up1_s]; exact cx.1
    · rw [up1_n _ _ e]; exact hT.2.2 j j0 (by omega)
  · rw [e129 _ (by omega), h2e, pa_gn _ _ _ (by decide), pa_gn _ _ _ (by decide), up2_ne _ _ _ (by decide)]
    by_cases e : (j : Int) = hi 125 5
    · rw [e, up1_s]
      unfold up2
      rw [if_pos ⟨rfl, by omega⟩]
    · rw [up1_n _ _ e]
      unfold up2
      rw [if_neg (fun g => e (by have := g.2; omega))]
      exact ht.2.2 j (by omega)
theorem inv_clear {hi h2 : HI} {hr : HR} {n : Int} (i : INV hi hr n) (h2e : h2 = pa 125 (pa 129 (up2 hi 122 1 0) (tg hi)) (up1 (fd hi) 5 0)) (hx : XH h2) : INV h2 hr n := by
  have o : ∀ (a k : Nat), ¬ a = 122 → ¬ a = 125 → h2 a k = hi a k := fun a k h1 h3 => by
    rw [h2e, pa_gn _ _ _ h3]
    by_cases h4 : a = 129
    · rw [h4, pa_g]; show hi 129 (k : Int).toNat = _; rw [Int.toNat_natCast]
    · rw [pa_gn _ _ _ h4, up2_ne _ _ _ h1]
  have e5 : h2 125 5 = 0 := by rw [h2e, pa_gk 125 _ _ 5 5 rfl, up1_s]
  have e122 : h2 122 1 = 0 := by rw [h2e, pa_gn _ _ _ (by decide), pa_gn _ _ _ (by decide), up2_self]
  refine inv_text i (fun a ha k => o a k (by omega) (by omega)) ?_ (fun k => o 126 k (by decide) (by decide)) (fun k => o 128 k (by decide) (by decide)) hx ⟨by rw [e122, e5], ⟨by rw [e5]; decide, by rw [e5]; decide, fun j j0 j1 => by omega⟩, fun j hj => by omega⟩
  rw [h2e, pa_gk 125 _ _ 3 3 rfl, up1_n _ _ (by decide)]; rfl
