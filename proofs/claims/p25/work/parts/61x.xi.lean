/-! what holds of a State at all times, beyond the ranges: the page that is being written, stamps, the order of requests, power -/
def LV (s : Int → Int) (c : Int) : Prop := s (atI c) = 2 ∨ (16 ≤ c % 24 ∧ ¬ s (atI c) = 0)
def OG (s : Int → Int) (a b : Int) : Prop := (∃ c : Int, (0 ≤ c ∧ c < 48) ∧ LV s c ∧ a = s (atI c + 3) ∧ b = s (atI c + 1)) ∨ (iwF s = 1 ∧ a = s 252 ∧ b = s 249)
def SK (s : Int → Int) : Prop := (∀ a b b' : Int, OG s a b → OG s a b' → b = b') ∧ (∀ a b : Int, OG s a b → a ≤ s 10) ∧ ∀ a b : Int, OG s a b → b ≤ 11
def PW (s : Int → Int) : Prop := ∀ c : Int, 0 ≤ c → c < 48 → c % 24 < 16 → s (atI c) = 1 → iwF s = 1 ∧ c = 24 * s 2 + s 248
def WB (s : Int → Int) : Prop := 0 < s 253 → 1 ≤ s 254 ∧ s (atI (24 * s 2 + (16 + lin (s 248)))) = 1
def SO (s : Int → Int) : Prop := (∀ i : Int, 0 ≤ i → i + 1 < s 11 → s (216 + 4 * i + 2) ≤ s (216 + 4 * (i + 1) + 2)) ∧ ∀ i : Int, 0 ≤ i → i < s 11 → s (216 + 4 * i) ≤ 11
def OF (s : Int → Int) : Prop := s 1 = 1 → iwF s = 0 ∧ s 11 = 0
def XC (s : Int → Int) : Prop := PW s ∧ SK s ∧ WB s
def XI (s : Int → Int) : Prop := XC s ∧ SO s ∧ OF s
theorem SK.of {s t : Int → Int} (h : SK s) (h10 : s 10 ≤ t 10) (f : ∀ a b : Int, OG t a b → OG s a b ∨ (a = t 10 ∧ b = t 249 ∧ s 10 < t 10 ∧ t 249 ≤ 11)) : SK t := by
  refine ⟨fun a b b' p q => ?_, fun a b p => ?_, fun a b p => ?_⟩
  · rcases f a b p with p | ⟨p1, p2, p3, p4⟩
    · rcases f a b' q with q | ⟨q1, q2, q3, q4⟩
      · exact h.1 a b b' p q
      · have := h.2.1 a b p; omega
    · rcases f a b' q with q | ⟨q1, q2, q3, q4⟩
      · have := h.2.1 a b' q; omega
      · rw [p2, q2]
  · rcases f a b p with p | ⟨p1, p2, p3, p4⟩
    · have := h.2.1 a b p; omega
    · omega
  · rcases f a b p with p | ⟨p1, p2, p3, p4⟩
    · exact h.2.2 a b p
    · omega
/-- a key that is somewhere is a key -/
theorem SK.key {s : Int → Int} (h : SK s) {c : Int} (c0 : 0 ≤ c) (c1 : c < 48) (k : s (atI c) = 2) : s (atI c + 1) ≤ 11 := h.2.2 _ _ (Or.inl ⟨c, ⟨c0, c1⟩, Or.inl k, rfl, rfl⟩)
theorem ip_2 {s : Int → Int} {c : Int} (h : ipF s c = 1) : s (atI c) = 2 ∧ plc s (s (atI c + 1)) = c := by
  unfold ipF at h
  by_cases g : s (atI c) = 2 ∧ plc s (s (atI c + 1)) = c
  · exact g
  · rw [if_neg g] at h; exact absurd h (by decide)
theorem iw_cong {s t : Int → Int} (e3 : t 253 = s 253) (e4 : t 254 = s 254) : iwF t = iwF s := by unfold iwF; rw [e3, e4]
theorem SK.cells {s t : Int → Int} (h : SK s) (e : ∀ x : Int, 24 ≤ x → x < 216 → t x = s x) (e10 : t 10 = s 10) (e9 : t 249 = s 249) (e2 : t 252 = s 252) (ew : iwF t = 1 → iwF s = 1) : SK t := by
  refine h.of (by omega) (fun a b g => Or.inl ?_)
  rcases g with ⟨c, ⟨c0, c1⟩, l, ga, gb⟩ | ⟨g1, g2, g3⟩
  · left
    have b := atI_b c0 c1
    refine ⟨c, ⟨c0, c1⟩, ?_, by rw [ga]; exact e _ (by omega) (by omega), by rw [gb]; exact e _ (by omega) (by omega)⟩
    unfold LV at l ⊢
    rw [e _ (by omega) (by omega)] at l
    exact l
  · exact Or.inr ⟨ew g1, g2.trans e2, g3.trans e9⟩
theorem bkc_b {s : Int → Int} (hM : MI s) : 0 ≤ 24 * s 2 + (16 + lin (s 248)) ∧ 24 * s 2 + (16 + lin (s 248)) < 48 := by
  have hb := hM.2.1
  have p1 := hM.2.2.2.1
  have p0 := hM.z 248 (by unfold xc; omega)
  have hl := lin_b p0 (by omega)
  omega
/-- the cells, what is being written, and whether something is -/
theorem XC.left {s t : Int → Int} (h : XC s) (e : ∀ x : Int, 24 ≤ x → x < 216 → t x = s x) (e10 : t 10 = s 10) (e2 : t 2 = s 2) (e8 : t 248 = s 248) (e9 : t 249 = s 249) (e52 : t 252 = s 252) (ew : iwF t = iwF s) (wb : WB t) : XC t := by
  obtain ⟨p, k, w⟩ := h
  refine ⟨fun c c0 c1 c2 g => ?_, k.cells e e10 e9 e52 (fun g => by rw [← ew]; exact g), wb⟩
  have b := atI_b c0 c1
  rw [e _ (by omega) (by omega)] at g
  rw [ew, e2, e8]
  exact p c c0 c1 c2 g
theorem XC.same {s t : Int → Int} (h : XC s) (hM : MI s) (e : ∀ x : Int, 24 ≤ x → x < 216 → t x = s x) (e10 : t 10 = s 10) (e2 : t 2 = s 2) (e8 : ∀ x : Int, 248 ≤ x → x < 255 → t x = s x) : XC t := by
  refine h.left e e10 e2 (e8 248 (by decide) (by decide)) (e8 249 (by decide) (by decide)) (e8 252 (by decide) (by decide)) (iw_cong (e8 253 (by decide) (by decide)) (e8 254 (by decide) (by decide))) (fun g => ?_)
  have b := bkc_b hM
  have c := atI_b b.1 b.2
  rw [e8 253 (by decide) (by decide)] at g
  rw [e8 254 (by decide) (by decide), e8 248 (by decide) (by decide), e2, e _ (by omega) (by omega)]
  exact h.2.2 g
theorem SO.same {s t : Int → Int} (h : SO s) (h8 : s 11 ≤ 8) (e : ∀ x : Int, 216 ≤ x → x < 248 → t x = s x) (e11 : t 11 = s 11) : SO t := by
  refine ⟨fun i i0 i1 => ?_, fun i i0 i1 => ?_⟩
  · rw [e11] at i1
    rw [e _ (by omega) (by omega), e _ (by omega) (by omega)]
    exact h.1 i i0 i1
  · rw [e11] at i1
    rw [e _ (by omega) (by omega)]
    exact h.2 i i0 i1
theorem SO.drop {s : Int → Int} (h : SO s) (h0 : 0 < s 11) : SO (gfF s) := by
  refine ⟨fun i i0 i1 => ?_, fun i i0 i1 => ?_⟩
  · rw [gfF_at s h0 11, if_pos rfl] at i1
    rw [gfF_at s h0, gfF_at s h0, if_neg (by omega), if_pos (by omega), if_neg (by omega), if_pos (by omega)]
    have g := h.1 (i + 1) (by omega) (by omega)
    rw [show 216 + 4 * i + 2 + 4 = 216 + 4 * (i + 1) + 2 by omega, show 216 + 4 * (i + 1) + 2 + 4 = 216 + 4 * (i + 1 + 1) + 2 by omega]
    exact g
  · rw [gfF_at s h0 11, if_pos rfl] at i1
    rw [gfF_at s h0, if_neg (by omega), if_pos (by omega)]
    have g := h.2 (i + 1) (by omega) (by omega)
    rw [show 216 + 4 * i + 4 = 216 + 4 * (i + 1) by omega]
    exact g
theorem XC.drop {s : Int → Int} (h : XC s) (hM : MI s) (h0 : 0 < s 11) : XC (gfF s) :=
  h.same hM (fun x x0 x1 => gfF_x h0 (by omega) x1) (gfF_x h0 (by decide) (by decide)) (gfF_x h0 (by decide) (by decide)) (fun x x0 _ => gfF_x2 h0 hM.2.2.1 x0)
theorem pg_lo {c : Int} (h0 : 0 ≤ c) (h1 : c < 48) (h2 : c % 24 < 16) : atI c < 152 := by unfold atI; rw [if_pos h2]; omega
theorem bgB_lo {s : Int → Int} (hM : MI s) {p : Int} (p0 : 0 ≤ p) (p1 : p < 16) {x : Int} (hx : (x < 24 ∧ ¬ x = 10) ∨ (216 ≤ x ∧ x < 248)) : bgB s p x = s x := by
  have hb := hM.2.1
  have hl := lin_b p0 p1
  rw [bgB_at hM p0 (by omega)]
  rw [if_neg (by omega), if_neg (by omega), if_neg (by omega), if_neg (by omega), if_neg (by omega), if_neg (by omega), if_neg (by omega), if_neg (by omega), if_neg (by omega), if_neg (by omega), if_neg (by omega)]
theorem bgB_iw {s : Int → Int} (hM : MI s) {p : Int} (p0 : 0 ≤ p) (p1 : p < 16) : 1 ≤ bgB s p 254 := by
  have hl := lin_b p0 p1
  obtain ⟨-, -, -, -, -, -, -, e, -⟩ := bgB_x hM p0 p1
  rw [e]
  have e0 : 1 ≤ s (20 + lat p) := by rcases lat_b p with q | q <;> rw [q]; exact hM.2.2.2.2.2.2.2.2.2.2.1; exact hM.2.2.2.2.2.2.2.2.2.2.2
  have e3 := hM.z (12 + lin p) (by unfold xc; omega)
  have hb := hM.2.1
  have e5 := hM.z (6 + s 2) (by unfold xc; omega)
  have e7 := ediv_b e5 hM.2.2.2.2.1
  omega
theorem XC.begin {s : Int → Int} (h : XC s) (hM : MI s) {p : Int} (p0 : 0 ≤ p) (p1 : p < 16) (hw : iwF s = 0) (hk6 : s 216 ≤ 11) : XC (bgB s p) := by
  obtain ⟨hp, hk, -⟩ := h
  have hb := hM.2.1
  have hl := lin_b p0 p1
  have he := ear_b hl.1 hl.2
  have e2 := bgB_lo hM p0 p1 (x := 2) (by omega)
  have w := bgB_iw hM p0 p1
  have w1 : iwF (bgB s p) = 1 := iw_1 (by omega)
  obtain ⟨x10, x8, x9, -, -, x52, x53, -, -⟩ := bgB_x hM p0 p1
  refine ⟨fun c c0 c1 c2 g => ?_, hk.of (by omega) (fun a b g => ?_), fun g => ?_⟩
  · have e := bgB_c hM p0 p1 c0 c1 (show (0 : Int) ≤ 0 by decide) (by decide)
    simp only [Int.add_zero] at e
    rw [e, if_neg (by omega)] at g
    rw [w1, e2, x8]
    refine ⟨rfl, ?_⟩
    by_cases d : c = 24 * s 2 + p
    · exact d
    · rw [if_neg (fun z => d z.1)] at g
      have := (hp c c0 c1 c2 g).1
      omega
  · rcases g with ⟨c, ⟨c0, c1⟩, l, ga, gb⟩ | ⟨g1, g2, g3⟩
    · left
      left
      have e := fun q (q0 : 0 ≤ q) (q1 : q < 4) => bgB_c hM p0 p1 c0 c1 (q := q) q0 q1
      have z0 := e 0 (by decide) (by decide)
      simp only [Int.add_zero] at z0
      rw [e 3 (by decide) (by decide)] at ga
      rw [e 1 (by decide) (by decide)] at gb
      by_cases m : mkF s p = 1 ∧ c = 24 * s 2 + (16 + lin p)
      · rw [if_pos m, if_neg (by decide)] at ga gb
        refine ⟨24 * s 2 + ear (lin p), ⟨by omega, by omega⟩, Or.inl ?_, ga, gb⟩
        rw [atI_pg hb he.1 he.2]
        have m1 := m.1
        unfold mkF at m1
        by_cases q : lat p = 1 ∧ s 22 = 1 ∧ s (24 + 4 * (16 * s 2 + ear (lin p))) = 2
        · exact q.2.2
        · rw [if_neg q] at m1; exact absurd m1 (by decide)
      · rw [if_neg m, if_neg (fun z => absurd z.2 (by decide))] at ga gb
        rw [if_neg m] at z0
        refine ⟨c, ⟨c0, c1⟩, ?_, ga, gb⟩
        by_cases d : c = 24 * s 2 + p
        · rw [if_pos ⟨d, trivial⟩] at z0
          unfold LV at l
          rw [z0] at l
          rcases l with l | l
          · omega
          · omega
        · rw [if_neg (fun z => d z.1)] at z0
          unfold LV at l ⊢
          rw [z0] at l
          exact l
    · right
      rw [x52] at g2
      exact ⟨by omega, g3, by omega, by rw [x9]; exact hk6⟩
  · refine ⟨w, ?_⟩
    rw [e2, x8]
    have e := bgB_c hM p0 p1 (c := 24 * s 2 + (16 + lin p)) (by omega) (by omega) (show (0 : Int) ≤ 0 by decide) (by decide)
    simp only [Int.add_zero] at e
    rw [x53] at g
    have m : mkF s p = 1 := by
      by_cases m : mkF s p = 1
      · exact m
      · rw [if_neg m] at g; exact absurd g (by decide)
    rw [e, if_pos ⟨m, trivial⟩, if_pos trivial]
theorem XI.takes {p : Int} (hp : 0 ≤ p) : ∀ (d : Nat) (s : Int → Int), MI s → XC s → SO s → (s 10 + 1 ≤ s 0 ∨ iwF s = 1) → XC (tkA p d s) ∧ SO (tkA p d s) := by
  intro d
  induction d with
  | zero => intro s _ h h2 _; exact ⟨h, h2⟩
  | succ d ih =>
    intro s hM h h2 hst
    unfold tkA
    by_cases c : p < 16 ∧ 0 < s 11 ∧ iwF s = 0
    · rw [if_pos c]
      have h1 : s 10 + 1 ≤ s 0 := by
        rcases hst with g | g
        · exact g
        · have := c.2.2; omega
      by_cases q : psF s = 1
      · rw [if_pos q]
        exact ih _ (gfF_M hM c.2.1) (h.drop hM c.2.1) (h2.drop c.2.1) (Or.inl (by rw [gfF_x c.2.1 (by decide) (by decide), gfF_x c.2.1 (by decide) (by decide)]; exact h1))
      · rw [if_neg q]
        have e11 := bgB_11 hM hp (show p ≤ 15 by omega)
        rw [tkA_busy d (iw_1 (bgF_254 hM hp (by omega) c.2.1)), bgF_e]
        have h8 := hM.2.2.1
        exact ⟨(h.begin hM hp c.1 c.2.2 (h2.2 0 (by decide) c.2.1)).drop (bgB_M hM h1 hp (by omega)) (by rw [e11]; exact c.2.1), (h2.same (t := bgB s p) h8 (fun x x0 x1 => bgB_lo hM hp c.1 (Or.inr ⟨x0, x1⟩)) e11).drop (by rw [e11]; exact c.2.1)⟩
    · rw [if_neg c]; exact ⟨h, h2⟩
theorem XC.two {s : Int → Int} (h : XC s) (hM : MI s) : XC (ti2 s) := by
  obtain ⟨hp, hk, hw⟩ := h
  have z3 := hM.z 253 (by unfold xc; omega)
  have z4 := hM.z 254 (by unfold xc; omega)
  have bb := bkc_b hM
  have ab := atI_b bb.1 bb.2
  have hb := hM.2.1
  have p1 := hM.2.2.2.1
  have p0 := hM.z 248 (by unfold xc; omega)
  have hl := lin_b p0 (by omega)
  unfold ti2
  by_cases c3 : 0 < s 253
  · rw [if_pos c3]
    obtain ⟨w1, w2⟩ := hw c3
    have iw : iwF s = 1 := iw_1 (by omega)
    dsimp only
    have x2 : up1 s 253 (s 253 - 1) 2 = s 2 := up1_n _ _ (by decide)
    have x8 : up1 s 253 (s 253 - 1) 248 = s 248 := up1_n _ _ (by decide)
    by_cases c1 : up1 s 253 (s 253 - 1) 253 = 0
    · rw [if_pos c1, x2, x8]
      have eb := atI_bk hb hl.1 hl.2
      rw [← eb]
      generalize up1 (up1 s 253 (s 253 - 1)) (atI (24 * s 2 + (16 + lin (s 248)))) 2 9 + 1 = v9
      have T : ∀ x : Int, ¬ x = 9 → ¬ x = 253 → up1 (up1 (up1 s 253 (s 253 - 1)) (atI (24 * s 2 + (16 + lin (s 248)))) 2) 9 v9 x = if x = atI (24 * s 2 + (16 + lin (s 248))) then 2 else s x := by
        intro x h9 h3
        rw [up1_n _ _ h9]
        unfold up1
        rw [if_neg h3]
      have o : ∀ x : Int, (x < 24 ∨ 216 ≤ x) → ¬ x = 9 → ¬ x = 253 → up1 (up1 (up1 s 253 (s 253 - 1)) (atI (24 * s 2 + (16 + lin (s 248)))) 2) 9 v9 x = s x := fun x hx h9 h3 => by rw [T x h9 h3, if_neg (by omega)]
      have o3 : up1 (up1 (up1 s 253 (s 253 - 1)) (atI (24 * s 2 + (16 + lin (s 248)))) 2) 9 v9 253 = 0 := by
        rw [up1_n _ _ (by decide), up1_n _ _ (by omega)]; exact c1
      generalize up1 (up1 (up1 s 253 (s 253 - 1)) (atI (24 * s 2 + (16 + lin (s 248)))) 2) 9 v9 = t at T o o3
      have iw2 : iwF t = 1 := iw_1 (by rw [o 254 (by decide) (by decide) (by decide)]; omega)
      refine ⟨fun c k0 k1 k2 g => ?_, hk.of (by rw [o 10 (by decide) (by decide) (by decide)]; exact Int.le_refl _) (fun a b g => Or.inl ?_), fun g => by omega⟩
      · have b := atI_b k0 k1
        have b2 := pg_lo k0 k1 k2
        rw [T _ (by omega) (by omega), if_neg (by omega)] at g
        rw [iw2, o 2 (by decide) (by decide) (by decide), o 248 (by decide) (by decide) (by decide)]
        exact ⟨rfl, (hp c k0 k1 k2 g).2⟩
      · rcases g with ⟨c, ⟨k0, k1⟩, l, ga, gb⟩ | ⟨g1, g2, g3⟩
        · left
          have b := atI_b k0 k1
          have ne : ∀ q : Int, 0 < q → q < 4 → ¬ atI c + q = atI (24 * s 2 + (16 + lin (s 248))) := by
            intro q q0 q1 e
            by_cases d : c = 24 * s 2 + (16 + lin (s 248))
            · rw [d] at e; omega
            · have := atI_inj k0 k1 bb.1 bb.2 d; omega
          rw [T _ (by omega) (by omega), if_neg (ne 3 (by decide) (by decide))] at ga
          rw [T _ (by omega) (by omega), if_neg (ne 1 (by decide) (by decide))] at gb
          refine ⟨c, ⟨k0, k1⟩, ?_, ga, gb⟩
          by_cases d : c = 24 * s 2 + (16 + lin (s 248))
          · rw [← d] at w2
            exact Or.inr ⟨by omega, by omega⟩
          · have dj := atI_inj k0 k1 bb.1 bb.2 d
            unfold LV at l ⊢
            rw [T _ (by omega) (by omega), if_neg (by omega)] at l
            exact l
        · right
          rw [o 252 (by decide) (by decide) (by decide)] at g2
          rw [o 249 (by decide) (by decide) (by decide)] at g3
          exact ⟨iw, g2, g3⟩
    · rw [if_neg c1]
      have o : ∀ x : Int, ¬ x = 253 → up1 s 253 (s 253 - 1) x = s x := fun x hx => up1_n _ _ hx
      have w3 : iwF (up1 s 253 (s 253 - 1)) = 1 := iw_1 (by rw [o 254 (by decide)]; omega)
      refine XC.left (s := s) ⟨hp, hk, hw⟩ (fun x x0 x1 => o x (by omega)) (o 10 (by decide)) (o 2 (by decide)) (o 248 (by decide)) (o 249 (by decide)) (o 252 (by decide)) (w3.trans iw.symm) (fun _ => ?_)
      rw [o 254 (by decide), o 2 (by decide), o 248 (by decide), o _ (by omega)]
      exact hw c3
  · rw [if_neg c3]
    by_cases c4 : 0 < s 254
    · rw [if_pos c4]
      dsimp only
      have iw : iwF s = 1 := iw_1 c4
      have o : ∀ x : Int, x < 254 → up1 (up1 s 254 (s 254 - 1)) 255 1 x = s x := fun x hx => by rw [up1_n _ _ (by omega), up1_n _ _ (by omega)]
      have o4 : up1 (up1 s 254 (s 254 - 1)) 255 1 254 = s 254 - 1 := by rw [up1_n _ _ (by omega), up1_s]
      have mu : MI (up1 (up1 s 254 (s 254 - 1)) 255 1) := (hM.far (k := 254) (by omega) (by omega) (by omega) (by have := hM.b 254 (by unfold xc; omega); omega)).far (by omega) (by omega) (by omega) (by unfold BIG; omega)
      generalize up1 (up1 s 254 (s 254 - 1)) 255 1 = t at o o4 mu
      by_cases c5 : t 254 = 0
      · rw [if_pos c5]
        have n3 : iwF (enF t) = 0 := by unfold iwF; rw [enF_n (by omega), enF_n (by omega)]; rfl
        have e10 : enF t 10 = s 10 := by
          have q1 := ti2_x hM (x := 10) (by decide) (by decide) (by decide)
          have lt8 := lin_b (p := t 248) (by rw [o 248 (by decide)]; exact p0) (by rw [o 248 (by decide)]; omega)
          simp only [enF, clN]
          rw [zA_at, if_neg (by omega), up1_n _ _ (by omega)]
          unfold en2
          split
          · unfold clB; rw [o 2 (by decide), zA_at, if_neg (by omega), en1_x mu (by omega), o 10 (by decide)]
          · rw [en1_x mu (by omega), o 10 (by decide)]
        refine ⟨fun c k0 k1 k2 g => ?_, hk.of (by omega) (fun a b g => Or.inl ?_), fun g => absurd g (by rw [enF_n (by omega)]; decide)⟩
        · have b := atI_b k0 k1
          have e := enF_c mu k0 k1 (show (0 : Int) ≤ 0 by decide) (by decide)
          simp only [Int.add_zero] at e
          rw [e, o 2 (by decide), o 248 (by decide), if_neg (by omega)] at g
          by_cases d : c = 24 * s 2 + s 248
          · rw [if_pos d, if_pos trivial] at g; exact absurd g (by decide)
          · rw [if_neg d, o _ (by omega)] at g
            exact absurd (hp c k0 k1 k2 g).2 d
        · rcases g with ⟨c, ⟨k0, k1⟩, l, ga, gb⟩ | ⟨g1, g2, g3⟩
          · have b := atI_b k0 k1
            have e := fun q (q0 : 0 ≤ q) (q1 : q < 4) => enF_c mu k0 k1 (q := q) q0 q1
            have z0 := e 0 (by decide) (by decide)
            simp only [Int.add_zero] at z0
            rw [e 3 (by decide) (by decide)] at ga
            rw [e 1 (by decide) (by decide)] at gb
            rw [o 2 (by decide), o 248 (by decide)] at ga gb z0
            by_cases d1 : lat (s 248) = 1 ∧ c = 24 * s 2 + (16 + lin (s 248))
            · rw [if_pos d1] at z0
              unfold LV at l
              rw [z0] at l
              rcases l with l | l
              · exact absurd l (by decide)
              · exact absurd rfl l.2
            · rw [if_neg d1] at ga gb z0
              by_cases d : c = 24 * s 2 + s 248
              · rw [if_pos d, if_neg (by decide), if_neg (by decide), if_neg (by decide), o 252 (by decide)] at ga
                rw [if_pos d, if_neg (by decide), if_pos rfl, o 249 (by decide)] at gb
                exact Or.inr ⟨iw, ga, gb⟩
              · rw [if_neg d, o _ (by omega)] at ga gb z0
                refine Or.inl ⟨c, ⟨k0, k1⟩, ?_, ga, gb⟩
                unfold LV at l ⊢
                rw [z0] at l
                exact l
          · omega
      · rw [if_neg c5]
        have w3 : iwF t = 1 := iw_1 (by omega)
        exact XC.left (s := s) ⟨hp, hk, hw⟩ (fun x x0 x1 => o x (by omega)) (o 10 (by decide)) (o 2 (by decide)) (o 248 (by decide)) (o 249 (by decide)) (o 252 (by decide)) (w3.trans iw.symm) (fun g => absurd g (by rw [o 253 (by decide)]; exact c3))
    · rw [if_neg c4]; exact ⟨hp, hk, hw⟩
