/-! the relation: a writing that begins -/
theorem bgC_at (t : TS) {c : Int} (k v s : Int) (hc : 0 ≤ c ∧ c < 48) (y : Int) :
    bgC t c k v s 2 y = (if y = c then 1 else t 2 y) ∧ bgC t c k v s 3 y = (if y = c then k else t 3 y) ∧ bgC t c k v s 4 y = (if y = c then v else t 4 y) ∧ bgC t c k v s 5 y = (if y = c then s else t 5 y) := by
  unfold bgC
  rw [if_pos hc]
  unfold ut
  by_cases e : y = c <;> simp [e]
theorem bbC_at (t : TS) {e b : Int} (he : 0 ≤ e ∧ e < 48) (hb : 0 ≤ b ∧ b < 48) (hn : ¬ e = b) (y : Int) :
    bbC t e b 2 y = (if y = b then 1 else t 2 y) ∧ bbC t e b 3 y = (if y = b then t 3 e else t 3 y) ∧ bbC t e b 4 y = (if y = b then t 4 e else t 4 y) ∧ bbC t e b 5 y = (if y = b then t 5 e else t 5 y) := by
  unfold bbC
  rw [if_pos ⟨he, hb⟩]
  unfold ut
  by_cases h : y = b <;> simp [h, hn]
theorem nx_eq {t : TS} {s : Int → Int} (hC : RC t s) (hN : RNx t s) (hb : s 2 = 0 ∨ s 2 = 1) : nxt s = t 0 10 := by
  have g : ∀ (d : Nat) (p : Int), 0 ≤ p → p + d = 16 → p ≤ t 0 10 → nxA s d p = t 0 10 := by
    intro d
    induction d with
    | zero => intro p h0 h1 h2; have := hN.1; unfold nxA; omega
    | succ d ih =>
      intro p h0 h1 h2
      have e := (hC (24 * s 2 + p) (by omega) (by omega)).1
      rw [atI_pg hb h0 (by omega)] at e
      have q := hN.2.2 p h0 (by omega)
      rw [e] at q
      unfold nxA
      by_cases c : s (24 + 4 * (16 * s 2 + p)) = 0
      · rw [if_neg (fun g => g.2 c)]; have := q.mp c; omega
      · rw [if_pos ⟨by omega, c⟩]
        exact ih (p + 1) (by omega) (by omega) (by have := fun z => c (q.mpr z); omega)
  exact g 16 0 (by decide) (by decide) hN.1.1
theorem lat_ear {p : Int} (h0 : 0 ≤ p) (h1 : p < 16) (hl : lat p = 1) : ear (lin p) < p := by
  unfold lat at hl
  split at hl
  · next c =>
    unfold lin ear
    split
    · omega
    · split
      · split <;> omega
      · omega
  · exact absurd hl (by decide)
theorem bwB_at {t : TS} (ha : 0 ≤ t 0 9 ∧ t 0 9 ≤ 1) (n0 : 0 ≤ t 0 10) (n1 : t 0 10 < 16) (y : Int) :
    bwB t 2 y = (if y = 24 * t 0 9 + t 0 10 then 1 else t 2 y) ∧ bwB t 3 y = (if y = 24 * t 0 9 + t 0 10 then t 7 0 else t 3 y) ∧ bwB t 4 y = (if y = 24 * t 0 9 + t 0 10 then t 8 0 else t 4 y) ∧ bwB t 5 y = (if y = 24 * t 0 9 + t 0 10 then t 12 1 + 1 else t 5 y) := by
  have cAn : ∀ (x : Nat) (y : Int), 2 ≤ x → x ≤ 10 → bwA t x y = t x y := fun x y x0 x1 => bwA_n t y (by omega) (by omega) (by omega)
  have rk : rkF (bwA t) 0 = t 7 0 := by unfold rkF; rw [if_pos (by decide), cAn 7 0 (by decide) (by decide)]
  have rv : rvF (bwA t) 0 = t 8 0 := by unfold rvF; rw [if_pos (by decide), cAn 8 0 (by decide) (by decide)]
  have g := bgC_at (bwA t) (c := t 0 9 * 24 + t 0 10) (rkF (bwA t) 0) (rvF (bwA t) 0) (t 12 1 + 1) ⟨by omega, by omega⟩ y
  rw [cAn 2 y (by decide) (by decide), cAn 3 y (by decide) (by decide), cAn 4 y (by decide) (by decide), cAn 5 y (by decide) (by decide)] at g
  have e : bwB t = bgC (bwA t) (t 0 9 * 24 + t 0 10) (rkF (bwA t) 0) (rvF (bwA t) 0) (t 12 1 + 1) := rfl
  rw [← e, rk, rv, Int.mul_comm (t 0 9) 24] at g
  exact g
/-- whether a backup is made, the class's way -/
def bwM (t : TS) : Prop := lat (t 0 10) = 1 ∧ t 13 2 = 1 ∧ t 2 (24 * t 0 9 + ear (lin (t 0 10))) = 2
theorem bwM_e {t : TS} (ha : 0 ≤ t 0 9 ∧ t 0 9 ≤ 1) (n0 : 0 ≤ t 0 10) (n1 : t 0 10 < 16) : (lat (t 0 10) = 1 ∧ t 13 2 = 1 ∧ kdF (bwB t) (t 0 9 * 24 + ear (lin (t 0 10))) = 2) ↔ bwM t := by
  have hl := lin_b n0 n1
  have he := ear_b hl.1 hl.2
  unfold bwM
  constructor
  · intro g
    have hr := lat_ear n0 n1 g.1
    have g3 := g.2.2
    unfold kdF at g3
    rw [if_pos ⟨by omega, by omega⟩, (bwB_at ha n0 n1 _).1, if_neg (by omega), Int.mul_comm (t 0 9) 24] at g3
    exact ⟨g.1, g.2.1, g3⟩
  · intro g
    have hr := lat_ear n0 n1 g.1
    refine ⟨g.1, g.2.1, ?_⟩
    unfold kdF
    rw [if_pos ⟨by omega, by omega⟩, (bwB_at ha n0 n1 _).1, if_neg (by omega), Int.mul_comm (t 0 9) 24]
    exact g.2.2
theorem bwP {t : TS} (ha : 0 ≤ t 0 9 ∧ t 0 9 ≤ 1) (n0 : 0 ≤ t 0 10) (n1 : t 0 10 < 16) (m : bwM t) (y : Int) :
    (bwC t 2 y = if y = 24 * t 0 9 + (16 + lin (t 0 10)) then 1 else bwB t 2 y) ∧ (bwC t 3 y = if y = 24 * t 0 9 + (16 + lin (t 0 10)) then t 3 (24 * t 0 9 + ear (lin (t 0 10))) else bwB t 3 y) ∧
    (bwC t 4 y = if y = 24 * t 0 9 + (16 + lin (t 0 10)) then t 4 (24 * t 0 9 + ear (lin (t 0 10))) else bwB t 4 y) ∧ (bwC t 5 y = if y = 24 * t 0 9 + (16 + lin (t 0 10)) then t 5 (24 * t 0 9 + ear (lin (t 0 10))) else bwB t 5 y) := by
  have hl := lin_b n0 n1
  have he := ear_b hl.1 hl.2
  have hr := lat_ear n0 n1 m.1
  have g := bbC_at (bwB t) (e := t 0 9 * 24 + ear (lin (t 0 10))) (b := t 0 9 * 24 + (16 + lin (t 0 10))) ⟨by omega, by omega⟩ ⟨by omega, by omega⟩ (by omega) y
  have e : bwD t = bbC (bwB t) (t 0 9 * 24 + ear (lin (t 0 10))) (t 0 9 * 24 + (16 + lin (t 0 10))) := rfl
  have eP : bwC t = bwE t := if_pos ((bwM_e ha n0 n1).mpr m)
  have u : ∀ x : Nat, x ≠ 11 → bwE t x y = bwD t x y := fun x hx => ut_n _ _ (fun q => hx q.1)
  obtain ⟨-, b3, b4, b5⟩ := bwB_at ha n0 n1 (24 * t 0 9 + ear (lin (t 0 10)))
  rw [if_neg (by omega)] at b3 b4 b5
  rw [← e, Int.mul_comm (t 0 9) 24, b3, b4, b5] at g
  rw [eP, u 2 (by decide), u 3 (by decide), u 4 (by decide), u 5 (by decide)]
  exact g
theorem bwN {t : TS} (ha : 0 ≤ t 0 9 ∧ t 0 9 ≤ 1) (n0 : 0 ≤ t 0 10) (n1 : t 0 10 < 16) (m : ¬ bwM t) : bwC t = bwB t := if_neg (fun g => m ((bwM_e ha n0 n1).mp g))
theorem bwC_at {t : TS} (ha : 0 ≤ t 0 9 ∧ t 0 9 ≤ 1) (n0 : 0 ≤ t 0 10) (n1 : t 0 10 < 16) [Decidable (bwM t)] (y : Int) :
    (bwC t 2 y = if bwM t ∧ y = 24 * t 0 9 + (16 + lin (t 0 10)) then 1 else if y = 24 * t 0 9 + t 0 10 then 1 else t 2 y) ∧
    (bwC t 3 y = if bwM t ∧ y = 24 * t 0 9 + (16 + lin (t 0 10)) then t 3 (24 * t 0 9 + ear (lin (t 0 10))) else if y = 24 * t 0 9 + t 0 10 then t 7 0 else t 3 y) ∧
    (bwC t 4 y = if bwM t ∧ y = 24 * t 0 9 + (16 + lin (t 0 10)) then t 4 (24 * t 0 9 + ear (lin (t 0 10))) else if y = 24 * t 0 9 + t 0 10 then t 8 0 else t 4 y) ∧
    (bwC t 5 y = if bwM t ∧ y = 24 * t 0 9 + (16 + lin (t 0 10)) then t 5 (24 * t 0 9 + ear (lin (t 0 10))) else if y = 24 * t 0 9 + t 0 10 then t 12 1 + 1 else t 5 y) := by
  obtain ⟨b2, b3, b4, b5⟩ := bwB_at ha n0 n1 y
  rw [← b2, ← b3, ← b4, ← b5]
  by_cases m : bwM t
  · simp only [m, true_and]; exact bwP ha n0 n1 m y
  · simp only [m, false_and, if_false]
    rw [bwN ha n0 n1 m]
    exact ⟨rfl, rfl, rfl, rfl⟩
theorem bwC_n {t : TS} (x : Nat) (y : Int) (hx : x < 2 ∨ 5 < x) (h7 : ¬ (x = 11 ∧ y = 7)) : bwC t x y = bwA t x y := by
  unfold bwC
  split
  · unfold bwE; rw [ut_n _ _ h7]; unfold bwD; rw [bbC_n _ _ _ _ hx, bwB_n _ _ hx]
  · exact bwB_n _ _ hx
theorem bwC_7 {t : TS} (ha : 0 ≤ t 0 9 ∧ t 0 9 ≤ 1) (n0 : 0 ≤ t 0 10) (n1 : t 0 10 < 16) [Decidable (bwM t)] : bwC t 11 7 = bwO t + (if bwM t then 2 else 0) := by
  by_cases m : bwM t
  · have eP : bwC t = bwE t := if_pos ((bwM_e ha n0 n1).mpr m)
    rw [eP, if_pos m]
    unfold bwE; rw [ut_s]; unfold bwD; rw [bbC_n _ _ _ _ (by decide), bwB_n _ _ (by decide), bwA_w, if_pos rfl]
  · rw [bwN ha n0 n1 m, bwB_n _ _ (by decide), bwA_w, if_pos rfl, if_neg m, Int.add_zero]
/-- the twin's rows -/
theorem bgB_c {s : Int → Int} (h : MI s) {p : Int} (p0 : 0 ≤ p) (p1 : p < 16) {c q : Int} (c0 : 0 ≤ c) (c1 : c < 48) (q0 : 0 ≤ q) (q1 : q < 4) :
    bgB s p (atI c + q) = if mkF s p = 1 ∧ c = 24 * s 2 + (16 + lin p) then (if q = 0 then 1 else s (atI (24 * s 2 + ear (lin p)) + q)) else if c = 24 * s 2 + p ∧ q = 0 then 1 else s (atI c + q) := by
  have hb := h.2.1
  have hl := lin_b p0 p1
  have he := ear_b hl.1 hl.2
  have bl := atI_b c0 c1
  have epc := atI_pg hb p0 p1
  have ebc := atI_bk hb hl.1 hl.2
  have eec := atI_pg hb he.1 he.2
  rw [bgB_at h p0 (by omega)]
  by_cases m : mkF s p = 1 ∧ c = 24 * s 2 + (16 + lin p)
  · obtain ⟨m1, e⟩ := m
    rw [if_pos (show mkF s p = 1 ∧ c = 24 * s 2 + (16 + lin p) from ⟨m1, e⟩), e, ebc, eec]
    clear ebc eec epc
    rw [if_pos ⟨m1, by omega, by omega⟩]
    by_cases q2 : q = 0
    · rw [if_pos (by omega), if_pos q2]
    · rw [if_neg (by omega), if_neg q2]; congr 1; omega
  · rw [if_neg m]
    have d1 : ¬ (mkF s p = 1 ∧ 152 + 4 * (8 * s 2 + lin p) ≤ atI c + q ∧ atI c + q < 152 + 4 * (8 * s 2 + lin p) + 4) := by
      rintro ⟨g1, g2, g3⟩
      refine m ⟨g1, Classical.byContradiction fun z => ?_⟩
      have := atI_inj c0 c1 (show 0 ≤ 24 * s 2 + (16 + lin p) by omega) (by omega) z
      rw [ebc] at this
      omega
    rw [if_neg d1]
    by_cases e : c = 24 * s 2 + p
    · subst e
      rw [epc]
      by_cases q2 : q = 0
      · rw [if_pos (by omega), if_pos ⟨rfl, q2⟩]
      · rw [if_neg (by omega), if_neg (show ¬ (24 * s 2 + p = 24 * s 2 + p ∧ q = 0) from fun g => q2 g.2)]
        clear hb epc ebc eec d1 m
        repeat rw [if_neg (by omega)]
    · have d := atI_inj c0 c1 (show 0 ≤ 24 * s 2 + p by omega) (by omega) e
      rw [epc] at d
      rw [if_neg (by omega), if_neg (show ¬ (c = 24 * s 2 + p ∧ q = 0) from fun g => e g.1)]
      clear hb epc ebc eec d1 m
      repeat rw [if_neg (by omega)]
theorem bgB_l {s : Int → Int} (h : MI s) {p : Int} (p0 : 0 ≤ p) (p1 : p < 16) {x : Int} (hx : x < 24 ∨ (216 ≤ x ∧ x < 248)) (h10 : ¬ x = 10) : bgB s p x = s x := by
  have hb := h.2.1
  have hl := lin_b p0 p1
  rw [bgB_at h p0 (by omega), if_neg (by omega)]
  repeat rw [if_neg (by omega)]
theorem bgB_x {s : Int → Int} (h : MI s) {p : Int} (p0 : 0 ≤ p) (p1 : p < 16) : bgB s p 10 = s 10 + 1 ∧ bgB s p 248 = p ∧ bgB s p 249 = s 216 ∧ bgB s p 250 = s 217 ∧ bgB s p 251 = s 218 ∧ bgB s p 252 = s 10 + 1 ∧ bgB s p 253 = (if mkF s p = 1 then 2 else 0) ∧
    bgB s p 254 = s (20 + lat p) + s (12 + lin p) + s (6 + s 2) / s 23 ∧ bgB s p 255 = 0 := by
  have hb := h.2.1
  have hl := lin_b p0 p1
  have A := fun x => bgB_at h p0 (show p ≤ 15 by omega) x
  refine ⟨?_, ?_, ?_, ?_, ?_, ?_, ?_, ?_, ?_⟩
  all_goals
    rw [A, if_neg (by omega), if_neg (by omega)]
    simp
theorem Rl.begin {t : TS} {s : Int → Int} (h : Rl t s) (h0 : 0 < s 11) (hw : iwF s = 0) (hn : t 0 10 < 16) (hst : s 10 + 1 ≤ s 0) : Rl (bwC t) (bgB s (t 0 10)) := by
  obtain ⟨⟨hM, hL⟩, ⟨hCR, hQR, hWR⟩, hC, hQ, hN, hW, hT⟩ := h
  obtain ⟨⟨n0, -⟩, ea, hpg⟩ := hN
  obtain ⟨⟨t1, t2, t3, t4, t5, t6⟩, tp, tset, tslo, ter⟩ := hT
  have hb := hM.2.1
  have ha : 0 ≤ t 0 9 ∧ t 0 9 ≤ 1 := by omega
  have h8 := hM.2.2.1
  have hl := lin_b n0 hn
  have he := ear_b hl.1 hl.2
  have hlt := lat_b (t 0 10)
  have eec := atI_pg hb he.1 he.2
  have hbm := bgB_M hM hst n0 (show t 0 10 ≤ 15 by omega)
  have hbL := bgF_L hM n0 (show t 0 10 ≤ 15 by omega) h0
  have hb11 := bgB_11 hM n0 (show t 0 10 ≤ 15 by omega)
  have hb254 := bgF_254 hM n0 (show t 0 10 ≤ 15 by omega) h0
  rw [bgF_e] at hbL hb254
  unfold ML at hbL
  rw [gfF_x2 (by omega) (by omega) (by omega), gfF_x2 (by omega) (by omega) (by omega)] at hbL
  rw [gfF_x2 (by omega) (by omega) (by omega)] at hb254
  have hq0 := hQ.2 0 (by decide) h0
  have r0 := hQR.2 0 (by decide) (by decide)
  have eO : bwO t = s (20 + lat (t 0 10)) + s (12 + lin (t 0 10)) + s (6 + s 2) / s 23 := by
    unfold bwO
    rw [tset _ (by omega) (by omega), tslo _ (by omega) (by omega), ea, ter _ (by omega) (by omega), tset 3 (by decide) (by decide)]
    rfl
  have hmk : bwM t ↔ mkF s (t 0 10) = 1 := by
    unfold bwM mkF
    rw [tset 2 (by decide) (by decide), ea, (hC _ (by omega) (by omega)).1, eec]
    show (lat (t 0 10) = 1 ∧ s 22 = 1 ∧ _) ↔ _
    constructor
    · intro g; rw [if_pos g]
    · intro g
      split at g
      · assumption
      · exact absurd g (by decide)
  have hpcb : t 2 (24 * s 2 + t 0 10) = 0 := (hpg _ n0 hn).mpr (Int.le_refl _)
  obtain ⟨B10, B248, B249, B250, B251, B252, B253, B254, B255⟩ := bgB_x hM n0 hn
  have Bc := fun {c q : Int} (c0 : 0 ≤ c) (c1 : c < 48) (q0 : 0 ≤ q) (q1 : q < 4) => bgB_c hM n0 hn c0 c1 q0 q1
  have Bl := fun {x : Int} (hx : x < 24 ∨ (216 ≤ x ∧ x < 248)) (h10 : ¬ x = 10) => bgB_l hM n0 hn hx h10
  haveI : Decidable (bwM t) := Classical.propDecidable _
  have T := fun y => bwC_at ha n0 hn y
  have T7 := bwC_7 ha n0 hn
  have Tn := fun (x : Nat) (y : Int) => bwC_n (t := t) x y
  have hpe := lat_ear n0 hn
  rw [← B254] at eO
  generalize bgB s (t 0 10) = u at *
  have hB : BIG = 1000000 := rfl
  have s0b := hM.b 0 (by unfold xc; omega)
  have z10 := hM.z 10 (by unfold xc; omega)
  have Q : ∀ (x : Nat) (y : Int), 6 ≤ x → x ≤ 10 → bwC t x y = t x y := fun x y x0 x1 => by rw [Tn x y (by omega) (by omega), bwA_n _ _ (by omega) (by omega) (by omega)]
  have Wv : ∀ y : Int, ¬ y = 7 → bwC t 11 y = bwA t 11 y := fun y hy => Tn 11 y (by decide) (fun g => hy g.2)
  have w0 : bwC t 11 0 = 1 := by rw [Wv 0 (by decide), bwA_w]; rfl
  have w1 : bwC t 11 1 = lat (t 0 10) := by rw [Wv 1 (by decide), bwA_w]; rfl
  have w2 : bwC t 11 2 = s 218 := by
    rw [Wv 2 (by decide), bwA_w]
    show ruF (bw2 t) 0 = _
    unfold ruF bw2 bw1; rw [if_pos (by decide), ut_n _ _ (by decide), ut_n _ _ (by decide)]; exact hq0.2.2.1
  have w3 : bwC t 11 3 = 24 * s 2 + t 0 10 := by
    rw [Wv 3 (by decide), bwA_w, ← ea]
    show t 0 9 * 24 + t 0 10 = _
    rw [Int.mul_comm]
  have w4 : bwC t 11 4 = 24 * s 2 + ear (lin (t 0 10)) := by
    rw [Wv 4 (by decide), bwA_w, ← ea]
    show t 0 9 * 24 + ear (lin (t 0 10)) = _
    rw [Int.mul_comm]
  have w5 : bwC t 11 5 = 24 * s 2 + (16 + lin (t 0 10)) := by
    rw [Wv 5 (by decide), bwA_w, ← ea]
    show t 0 9 * 24 + (16 + lin (t 0 10)) = _
    rw [Int.mul_comm]
  have w6 : bwC t 11 6 = u 254 := by rw [Wv 6 (by decide), bwA_w, ← eO]; rfl
  rw [eO] at T7
  have q218 : s 218 = t 9 0 := hq0.2.2.1.symm
  simp only [ea] at T hpe
  simp only [← hmk] at Bc B253
  have u2 : u 2 = s 2 := Bl (by omega) (by omega)
  have iwu : iwF u = 1 := iw_1 hb254
  have nob : ∀ c : Int, 0 ≤ c → c < 48 → 16 ≤ c % 24 → ¬ t 2 c = 1 := fun c c0 c1 c2 e => by have g := (hW.2.2 c c0 c1 c2 e).1; rw [hw] at g; exact absurd g (by decide)
  have ecR := hCR (24 * s 2 + ear (lin (t 0 10))) (by omega) (by omega)
  have eC0 := hC (24 * s 2 + ear (lin (t 0 10))) (by omega) (by omega)
  refine ⟨⟨hbm, hbL⟩, ⟨fun c c0 c1 => ?_, ⟨?_, fun i i0 i1 => ?_⟩, ⟨fun k k0 k1 => ?_, Or.inr w0, ?_⟩⟩, fun c c0 c1 => ?_, ⟨?_, fun i i0 i1 => ?_⟩, ⟨?_, ?_, fun p p0 p1 => ?_⟩, ⟨?_, fun _ => ?_, fun c c0 c1 c2 c3 => ?_⟩, ?_⟩
  · obtain ⟨T2, T3, T4, T5⟩ := T c
    have g := hCR c c0 c1
    rw [T2, T3, T4, T5]
    by_cases e : bwM t ∧ c = 24 * s 2 + (16 + lin (t 0 10))
    · rw [if_pos e, if_pos e, if_pos e, if_pos e]
      exact ⟨by omega, ecR.2⟩
    · rw [if_neg e, if_neg e, if_neg e, if_neg e]
      by_cases e2 : c = 24 * s 2 + t 0 10
      · rw [if_pos e2, if_pos e2, if_pos e2, if_pos e2]
        exact ⟨by omega, r0.1, r0.2.1, by omega, by omega⟩
      · rw [if_neg e2, if_neg e2, if_neg e2, if_neg e2]; exact g
  · rw [Q 6 4 (by decide) (by decide)]; exact hQR.1
  · rw [Q 7 i (by decide) (by decide), Q 8 i (by decide) (by decide), Q 9 i (by decide) (by decide), Q 10 i (by decide) (by decide)]; exact hQR.2 i i0 i1
  · have r9 := r0.2.2.1
    rcases (show k = 0 ∨ k = 1 ∨ k = 2 ∨ k = 3 ∨ k = 4 ∨ k = 5 ∨ k = 6 ∨ k = 7 by omega) with rfl | rfl | rfl | rfl | rfl | rfl | rfl | rfl
    · rw [w0]; exact ⟨by decide, by decide⟩
    · rw [w1]; exact ⟨by omega, by omega⟩
    · rw [w2]; exact ⟨by omega, by omega⟩
    · rw [w3]; exact ⟨by omega, by omega⟩
    · rw [w4]; exact ⟨by omega, by omega⟩
    · rw [w5]; exact ⟨by omega, by omega⟩
    · rw [w6]; exact ⟨by omega, by omega⟩
    · rw [T7]; split <;> exact ⟨by omega, by omega⟩
  · rw [w1, w2, q218]; exact ⟨hlt, r0.2.2.1⟩
  · obtain ⟨T2, T3, T4, T5⟩ := T c
    have b0 := Bc c0 c1 (show (0 : Int) ≤ 0 by decide) (by decide)
    simp only [Int.add_zero] at b0
    have b1 := Bc c0 c1 (show (0 : Int) ≤ 1 by decide) (by decide)
    have b2 := Bc c0 c1 (show (0 : Int) ≤ 2 by decide) (by decide)
    have b3 := Bc c0 c1 (show (0 : Int) ≤ 3 by decide) (by decide)
    have g := hC c c0 c1
    rw [T2, T3, T4, T5, b0, b1, b2, b3]
    by_cases e : bwM t ∧ c = 24 * s 2 + (16 + lin (t 0 10))
    · have k2 : t 2 (24 * s 2 + ear (lin (t 0 10))) = 2 := by have := e.1.2.2; rw [ea] at this; exact this
      obtain ⟨x1, x2, x3⟩ := eC0.2 (Or.inl k2)
      rw [if_pos e, if_pos e, if_pos e, if_pos e, if_pos e, if_pos e, if_pos e, if_pos e]
      exact ⟨rfl, fun _ => ⟨x1, x2, x3⟩⟩
    · rw [if_neg e, if_neg e, if_neg e, if_neg e, if_neg e, if_neg e, if_neg e, if_neg e]
      by_cases e2 : c = 24 * s 2 + t 0 10
      · rw [if_pos e2, if_pos e2, if_pos e2, if_pos e2, if_pos ⟨e2, trivial⟩]
        refine ⟨rfl, fun g2 => ?_⟩
        rcases g2 with g2 | g2
        · exact absurd g2 (by decide)
        · omega
      · rw [if_neg e2, if_neg e2, if_neg e2, if_neg e2, if_neg (fun g => e2 g.1), if_neg (fun g => e2 g.1), if_neg (fun g => e2 g.1), if_neg (fun g => e2 g.1)]; exact g
  · rw [Q 6 4 (by decide) (by decide), hb11]; exact hQ.1
  · rw [hb11] at i1
    rw [Q 7 i (by decide) (by decide), Q 8 i (by decide) (by decide), Q 9 i (by decide) (by decide), Q 10 i (by decide) (by decide), Bl (by omega) (by omega), Bl (by omega) (by omega), Bl (by omega) (by omega), Bl (by omega) (by omega)]
    exact hQ.2 i i0 i1
  · have e : bwC t 0 10 = t 0 10 + 1 := by rw [Tn 0 10 (by decide) (by decide)]; rfl
    rw [e]; omega
  · have e : bwC t 0 9 = t 0 9 := by rw [Tn 0 9 (by decide) (by decide), bwA_n _ _ (by decide) (by decide) (by decide)]
    rw [e, u2]; exact ea
  · have e : bwC t 0 10 = t 0 10 + 1 := by rw [Tn 0 10 (by decide) (by decide)]; rfl
    rw [e, u2, (T _).1, if_neg (by omega)]
    by_cases e2 : p = t 0 10
    · rw [if_pos (by omega)]; constructor <;> intro g <;> omega
    · rw [if_neg (by omega), hpg p p0 p1]; constructor <;> intro g <;> omega
  · rw [w0, iwu]
  · unfold RWb
    have e : bwC t 0 10 = t 0 10 + 1 := by rw [Tn 0 10 (by decide) (by decide)]; rfl
    obtain ⟨T2, T3, T4, T5⟩ := T (24 * s 2 + t 0 10)
    rw [if_neg (by omega), if_pos rfl] at T2 T3 T4 T5
    rw [B248, B249, B250, B251, B252, B253, B255, u2, w1, w2, w3, w4, w5, w6, T7, e, T2, T3, T4, T5]
    refine ⟨rfl, rfl, rfl, rfl, rfl, by omega, Int.le_refl _, fun _ => rfl, by omega, by rw [if_neg (by omega)], by omega, rfl, hq0.1, hq0.2.1, by omega, fun g => ?_⟩
    rw [(T _).1]
    split at g
    · next m => rw [if_pos ⟨m, rfl⟩]
    · exact absurd g (by decide)
  · rw [(T c).1] at c3
    split at c3
    · next m => exact ⟨iwu, by rw [B253, if_pos m.1]; decide, by rw [u2, B248]; exact m.2⟩
    · split at c3
      · omega
      · exact absurd c3 (nob c c0 c1 c2)
  · have e12 : ∀ y : Int, ¬ y = 1 → bwC t 12 y = t 12 y := fun y hy => by rw [Tn 12 y (by decide) (by simp), bwA_n _ _ (by decide) (by simp) (fun g => hy g.2)]
    have e121 : bwC t 12 1 = t 12 1 + 1 := by rw [Tn 12 1 (by decide) (by decide)]; rfl
    have e08 : bwC t 0 8 = t 0 8 := by rw [Tn 0 8 (by decide) (by decide), bwA_n _ _ (by decide) (by decide) (by decide)]
    have e13 : ∀ (x : Nat) (y : Int), 13 ≤ x → bwC t x y = t x y := fun x y hx => by rw [Tn x y (by omega) (by omega), bwA_n _ _ (by omega) (by omega) (by omega)]
    refine ⟨⟨?_, ?_, ?_, ?_, ?_, ?_⟩, ?_, fun i i0 i1 => ?_, fun i i0 i1 => ?_, fun i i0 i1 => ?_⟩
    · rw [e121, B10, t1]
    · rw [e12 2 (by decide), Bl (by omega) (by omega)]; exact t2
    · rw [e12 3 (by decide), Bl (by omega) (by omega)]; exact t3
    · rw [e12 4 (by decide), Bl (by omega) (by omega)]; exact t4
    · rw [e12 5 (by decide), Bl (by omega) (by omega)]; exact t5
    · rw [e12 6 (by decide), Bl (by omega) (by omega)]; exact t6
    · rw [e08, Bl (by omega) (by omega)]; exact tp
    · rw [e13 13 i (by decide), Bl (by omega) (by omega)]; exact tset i i0 i1
    · rw [e13 14 i (by decide), Bl (by omega) (by omega)]; exact tslo i i0 i1
    · rw [e13 15 i (by decide), Bl (by omega) (by omega)]; exact ter i i0 i1
