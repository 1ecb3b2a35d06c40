/-! the law: what the acts answer, pure; a text is read -/
theorem cma_2 {G : Int → Int} {len a : Int} (h0 : 0 ≤ a) (h : cmd G len a = 1) : a + 2 ≤ cma G len a ∧ cma G len a ≤ len := by
  have hk := cmd_kf h
  obtain ⟨b1, b2, b3, b4, b5⟩ := c2_b (G := G) (len := len) h0
  have e : ¬ (c2F G len a).1 = 0 ∧ hrF G len (c2F G len a).2.2 = 59 := by
    unfold cmd tsF at h
    by_cases g : ¬ (c2F G len a).1 = 0 ∧ hrF G len (c2F G len a).2.2 = 59
    · exact g
    · rw [if_neg g] at h; exact absurd h (by decide)
  have l : (c2F G len a).2.2 < len := by
    have e2 := e.2
    unfold hrF at e2
    by_cases g : (c2F G len a).2.2 < len
    · exact g
    · rw [if_neg g] at e2; exact absurd e2 (by decide)
  have e3 : cma G len a = (c2F G len a).2.2 + cmd G len a := rfl
  rw [hk] at b4
  omega
theorem ge_ite {p : Prop} [Decidable p] {a b : Int × (Int → Int)} (h1 : p → -3 ≤ a.1) (h2 : ¬ p → -3 ≤ b.1) : -3 ≤ (if p then a else b).1 := by
  by_cases h : p
  · rw [if_pos h]; exact h1 h
  · rw [if_neg h]; exact h2 h
theorem as_v {s : Int → Int} (hM : MI s) (k v u : Int) : (asF s k v u).1 = if ¬ (0 ≤ k ∧ k ≤ 11) ∨ ¬ (0 ≤ v ∧ v ≤ 999) ∨ ¬ (0 ≤ u ∧ u ≤ 1) then -1 else if s 1 = 1 then -2 else if s 11 = 8 then -3 else s 11 + 1 := by
  have h8 := hM.2.2.1
  unfold asF
  by_cases c1 : ¬ (0 ≤ k ∧ k ≤ 11) ∨ ¬ (0 ≤ v ∧ v ≤ 999) ∨ ¬ (0 ≤ u ∧ u ≤ 1)
  · rw [if_pos c1, if_pos c1]
  · rw [if_neg c1, if_neg c1]
    by_cases c2 : s 1 = 1
    · rw [if_pos c2, if_pos c2]
    · rw [if_neg c2, if_neg c2]
      by_cases c3 : s 11 = 8
      · rw [if_pos c3, if_pos c3]
      · rw [if_neg c3, if_neg c3]
        exact cmF_11 hM (by omega) _ _ _ _
theorem lt_v {s : Int → Int} {n : Int} (h : OKS s n) (m : Int) : (¬ (1 ≤ m ∧ m ≤ 200) → (ltF s m).1 = -1) ∧ ((1 ≤ m ∧ m ≤ 200) → s 1 = 1 → (ltF s m).1 = -2) ∧ ((1 ≤ m ∧ m ≤ 200) → ¬ s 1 = 1 → 9000 < s 0 + m → (ltF s m).1 = -3) ∧
    ((1 ≤ m ∧ m ≤ 200) → ¬ s 1 = 1 → s 0 + m ≤ 9000 → (0 ≤ (ltF s m).1 ∧ (ltF s m).1 ≤ 200) ∧ (ltF s m).2 3 = s 3 + (ltF s m).1 ∧ (ltF s m).2 0 = s 0 + m) := by
  have hM := h.1
  have z0 := hM.z 0 (by unfold xc; omega)
  have hB : BIG = 1000000 := rfl
  refine ⟨fun c => ?_, fun c c2 => ?_, fun c c2 c3 => ?_, fun c c2 c3 => ?_⟩
  · unfold ltF; rw [if_pos c]
  · unfold ltF; rw [if_neg (fun g => g c), if_pos c2]
  · unfold ltF; rw [if_neg (fun g => g c), if_neg c2, if_pos c3]
  · have e : ltF s m = (goA s m.toNat 3 - s 3, goA s m.toNat) := by unfold ltF; rw [if_neg (fun g => g c), if_neg c2, if_neg (by omega)]
    have g := goA_3 hM m.toNat (by omega)
    have g0 := (goA_M hM m.toNat (by omega)).2
    rw [e]
    refine ⟨⟨?_, ?_⟩, ?_, ?_⟩
    · dsimp only; omega
    · dsimp only; omega
    · dsimp only; omega
    · dsimp only; omega
theorem of_v {s : Int → Int} (hM : MI s) : (s 1 = 1 → (ofF s).1 = -2) ∧ (¬ s 1 = 1 → (0 ≤ (ofF s).1 ∧ (ofF s).1 ≤ 12) ∧ (ofF s).2 5 = s 5 + (ofF s).1 ∧ (ofF s).2 1 = 1) := by
  refine ⟨fun c => ?_, fun c => ?_⟩
  · unfold ofF; rw [if_pos c]
  · have e : ofF s = (onA (lsF s) 12, up1 (brS s) 5 (brS s 5 + onA (lsF s) 12)) := by unfold ofF; rw [if_neg c]
    have g := onA_b (lsF s) 12
    have e5 := brS_x hM (x := 5) (by decide) (by decide) (by decide) (by decide) (by decide)
    have e1 := brS_1 s
    generalize onA (lsF s) 12 = w at e g
    rw [e]
    refine ⟨⟨g.1, by dsimp only; omega⟩, ?_, ?_⟩
    · dsimp only; rw [up1_s, e5]
    · dsimp only; rw [up1_n _ _ (by decide), e1]
theorem op_v {s : Int → Int} (hM : MI s) : (s 1 = 1 → (0 ≤ (opF s).1 ∧ (opF s).1 ≤ 8) ∧ (opF s).2 11 = (opF s).1 ∧ (opF s).2 1 = 0) ∧ (¬ s 1 = 1 → (opF s).1 = -2) := by
  have g := opA_11 hM.on 48 (by omega)
  have e1 : opA (up1 s 1 0) 48 1 = 0 := by rw [opA_x hM.on (by omega) (by omega) 48 (by omega), up1_s]
  refine ⟨fun c => ?_, fun c => ?_⟩
  · have e : opF s = (opA (up1 s 1 0) 48 11, opA (up1 s 1 0) 48) := by unfold opF; rw [if_pos c]
    rw [e]
    generalize opA (up1 s 1 0) 48 = w at g e1 ⊢
    exact ⟨g, rfl, e1⟩
  · unfold opF; rw [if_neg c]
theorem ch_v {s : Int → Int} : (chF s).1 = if s 1 = 1 ∨ iwF s = 1 ∨ blA s (1 - s 2) 16 = 0 then -2 else 1 - s 2 := by
  unfold chF
  generalize blA s (1 - s 2) 16 = w
  split <;> rfl
theorem cl_v {s : Int → Int} (hM : MI s) (b : Int) : (clF s b).2 2 = s 2 ∧ (¬ (0 ≤ b ∧ b ≤ 1) → (clF s b).1 = -1) ∧ ((0 ≤ b ∧ b ≤ 1) → s 1 = 1 ∨ b = s 2 → (clF s b).1 = -2) ∧
    ((0 ≤ b ∧ b ≤ 1) → ¬ (s 1 = 1 ∨ b = s 2) → (clF s b).1 = -3 ∨ ((0 ≤ (clF s b).1 ∧ (clF s b).1 ≤ 24) ∧ (clF s b).2 11 = s 11 + (clF s b).1)) := by
  by_cases c1 : 0 ≤ b ∧ b ≤ 1
  · by_cases c2 : s 1 = 1 ∨ b = s 2
    · have e : clF s b = (-2, s) := by unfold clF; rw [if_neg (fun g => g c1), if_pos c2]
      rw [e]
      exact ⟨rfl, fun g => absurd c1 g, fun _ _ => rfl, fun _ g => absurd c2 g⟩
    · have t := ctA_b s b 24
      by_cases c3 : 8 < s 11 + ctA s b 24
      · have e : clF s b = (-3, s) := by unfold clF; rw [if_neg (fun g => g c1), if_neg c2, if_pos c3]
        rw [e]
        exact ⟨rfl, fun g => absurd c1 g, fun _ g => absurd g c2, fun _ _ => Or.inl rfl⟩
      · have e : clF s b = (ctA s b 24, clA s b 24) := by unfold clF; rw [if_neg (fun g => g c1), if_neg c2, if_neg c3]
        obtain ⟨-, g2, g3⟩ := clA_M hM (b := b) (by omega) (by omega) 24 (by omega)
        have g32 := g3 2 (by decide) (by decide)
        rw [e]
        generalize clA s b 24 = w at g2 g32 ⊢
        generalize ctA s b 24 = z at g2 t ⊢
        exact ⟨g32, fun g => absurd c1 g, fun _ g => absurd g c2, fun _ _ => Or.inr ⟨⟨t.1, by dsimp only; omega⟩, g2⟩⟩
  · have e : clF s b = (-1, s) := by unfold clF; rw [if_pos c1]
    rw [e]
    exact ⟨rfl, fun _ => rfl, fun g => absurd g c1, fun g => absurd g c1⟩
theorem er_v {s : Int → Int} (b : Int) : (¬ (0 ≤ b ∧ b ≤ 1) → (erF s b).1 = -1) ∧ ((0 ≤ b ∧ b ≤ 1) → (s 1 = 1 ∨ b = s 2) ∨ ¬ ctA s b 24 = 0 → (erF s b).1 = -2) ∧ ((0 ≤ b ∧ b ≤ 1) → ¬ (s 1 = 1 ∨ b = s 2) → ctA s b 24 = 0 → (erF s b).1 = s (6 + b) + 1) := by
  by_cases c1 : 0 ≤ b ∧ b ≤ 1
  · have my := my_eq (s := s) (b := b) (m0 := if s 1 = 1 ∨ b = s 2 then (0 : Int) else 1) (by split <;> simp) 24
    have e1 := er1_x s (b := b) (show b = 0 ∨ b = 1 by omega) (x := 6 + b) (by omega)
    refine ⟨fun g => absurd c1 g, fun _ c2 => ?_, fun _ c2 c3 => ?_⟩
    · have : myA s b (if s 1 = 1 ∨ b = s 2 then (0 : Int) else 1) 24 = 0 := by
        rcases my.1 with g | g
        · exact g
        · have g2 := my.2.mp g
          rcases c2 with c2 | c2
          · rw [if_pos c2] at g2; exact absurd g2.1 (by decide)
          · exact absurd g2.2 c2
      unfold erF
      rw [if_neg (fun g => g c1), if_pos this]
    · have : ¬ myA s b (if s 1 = 1 ∨ b = s 2 then (0 : Int) else 1) 24 = 0 := by
        have g : myA s b (if s 1 = 1 ∨ b = s 2 then (0 : Int) else 1) 24 = 1 := my.2.mpr ⟨if_neg c2, c3⟩
        omega
      unfold erF
      rw [if_neg (fun g => g c1), if_neg this]
      dsimp only
      rw [e1]
  · have e : erF s b = (-1, s) := by unfold erF; rw [if_pos c1]
    rw [e]
    exact ⟨fun _ => rfl, fun g => absurd g c1, fun g => absurd g c1⟩
theorem ca_3 {s : Int → Int} {n : Int} (h : OKS s n) (x v1 v2 : Int) : -3 ≤ (caF s x v1 v2).1 := by
  have hM := h.1
  have z11 := hM.z 11 (by unfold xc; omega)
  have z6 := hM.z 6 (by unfold xc; omega)
  have z7 := hM.z 7 (by unfold xc; omega)
  have hb := hM.2.1
  have A : ∀ u : Int, -3 ≤ (asF s v1 v2 u).1 := fun u => by rw [as_v hM]; (repeat' split) <;> omega
  have T := lt_v h v1
  have O := of_v hM
  have P := op_v hM
  have C := cl_v hM v1
  have R := er_v (s := s) v1
  unfold caF
  refine ge_ite (fun _ => A 0) (fun _ => ge_ite (fun _ => A 1) (fun _ => ge_ite (fun _ => ?_) (fun _ => ge_ite (fun _ => ?_) (fun _ => ge_ite (fun _ => ?_) (fun _ => ge_ite (fun _ => ?_) (fun _ => ge_ite (fun _ => ?_) (fun _ => ?_)))))))
  · by_cases c1 : 1 ≤ v1 ∧ v1 ≤ 200
    · by_cases c2 : s 1 = 1
      · rw [T.2.1 c1 c2]; decide
      · by_cases c3 : 9000 < s 0 + v1
        · rw [T.2.2.1 c1 c2 c3]; decide
        · have := (T.2.2.2 c1 c2 (by omega)).1.1; omega
    · rw [T.1 c1]; decide
  · by_cases c2 : s 1 = 1
    · rw [O.1 c2]; decide
    · have := (O.2 c2).1.1; omega
  · by_cases c2 : s 1 = 1
    · have := (P.1 c2).1.1; omega
    · rw [P.2 c2]; decide
  · rw [ch_v]; split <;> omega
  · by_cases c1 : 0 ≤ v1 ∧ v1 ≤ 1
    · by_cases c2 : s 1 = 1 ∨ v1 = s 2
      · rw [C.2.2.1 c1 c2]; decide
      · rcases C.2.2.2 c1 c2 with g | g
        · rw [g]; decide
        · have := g.1.1; omega
    · rw [C.2.1 c1]; decide
  · by_cases c1 : 0 ≤ v1 ∧ v1 ≤ 1
    · by_cases c2 : (s 1 = 1 ∨ v1 = s 2) ∨ ¬ ctA s v1 24 = 0
      · rw [R.2.1 c1 c2]; decide
      · have c3 : ctA s v1 24 = 0 := Classical.byContradiction fun g => c2 (Or.inr g)
        rw [R.2.2 c1 (fun g => c2 (Or.inl g)) c3]
        rcases (show v1 = 0 ∨ v1 = 1 by omega) with rfl | rfl
        · show -3 ≤ s 6 + 1; omega
        · show -3 ≤ s 7 + 1; omega
    · rw [R.1 c1]; decide
/-- how a text ends -/
theorem doA_r {G : Int → Int} {len : Int} : ∀ (k : Nat) (s : Int → Int) (a d t m n : Int), OKS s n → n + k ≤ 100000 → 0 ≤ a → a ≤ len → 0 ≤ d → 2 * d ≤ a → len + 1 ≤ a + k →
    ((doA G len k s a d t m).1 = -1 ∧ 0 ≤ (doA G len k s a d t m).2.2.2.1 ∧ 2 * (doA G len k s a d t m).2.2.2.1 ≤ len) ∨
    ((0 ≤ (doA G len k s a d t m).1 ∧ (doA G len k s a d t m).1 < len) ∧ ((doA G len k s a d t m).2.2.2.2.2 = 0 ∨ (¬ (doA G len k s a d t m).2.2.2.2.2 = 0 ∧ (doA G len k s a d t m).2.2.2.2.1 < 0 ∧ -4 < (doA G len k s a d t m).2.2.2.2.1))) := by
  intro k
  induction k with
  | zero => intro s a d t m n _ _ a0 a1 _ _ h; omega
  | succ k ih =>
    intro s a d t m n hO hn a0 a1 d0 d1 h
    have ho := hO.ca (by omega) (hrF G len a) (c1F G len a).2.1 (c2F G len a).2.1
    have h3 := ca_3 hO (hrF G len a) (c1F G len a).2.1 (c2F G len a).2.1
    rw [doA_s]
    generalize caF s (hrF G len a) (c1F G len a).2.1 (c2F G len a).2.1 = q at ho h3 ⊢
    by_cases c1 : len ≤ a
    · rw [if_pos c1]; exact Or.inl ⟨rfl, d0, by dsimp only; omega⟩
    · rw [if_neg c1]
      by_cases c2 : cmd G len a = 0
      · rw [if_pos c2]; exact Or.inr ⟨⟨a0, by dsimp only; omega⟩, Or.inl rfl⟩
      · rw [if_neg c2]
        by_cases c3 : q.1 < 0
        · rw [if_pos c3]; exact Or.inr ⟨⟨a0, by dsimp only; omega⟩, Or.inr ⟨(by show ¬ (1 : Int) = 0; decide), c3, by dsimp only; omega⟩⟩
        · rw [if_neg c3]
          have cm := cma_2 (G := G) a0 ((cmd_b G len a).resolve_left c2)
          exact ih q.2 (cma G len a) (d + 1) q.1 1 (n + 1) ho (by omega) (by omega) (by omega) (by omega) (by omega) (by omega)
/-- the three things that are told of a fault, and play -/
theorem fa_r {G : Int → Int} {len n : Int} {s : Int → Int} (hO : OKS s n) (hn : n + 61 ≤ 100000) (l0 : 0 ≤ len) (l1 : len ≤ 60) :
    (faF G len s 0 0 0 = -4 ∧ faF G len s 1 0 0 = -4 ∧ faF G len s 2 0 0 = -4 ∧ 0 ≤ (pyF G len s 0 0).1 ∧ 2 * (pyF G len s 0 0).1 ≤ len) ∨
    ((0 ≤ faF G len s 0 0 0 ∧ faF G len s 0 0 0 < len) ∧ (pyF G len s 0 0).1 = -2 ∧ ((faF G len s 1 0 0 = 1 ∧ faF G len s 2 0 0 = -4) ∨ (faF G len s 1 0 0 = 2 ∧ faF G len s 2 0 0 < 0 ∧ -4 < faF G len s 2 0 0))) := by
  have g := doA_r (G := G) (len := len) 61 s 0 0 0 0 n hO (by omega) (by decide) l0 (by decide) (by decide) (by omega)
  have e : doA G len 61 s 0 0 0 0 = dorF G len s 0 0 := rfl
  rw [e] at g
  unfold faF pyF
  generalize dorF G len s 0 0 = r at g ⊢
  rcases g with ⟨g1, g2, g3⟩ | ⟨⟨g1, g2⟩, g3⟩
  · left
    refine ⟨?_, ?_, ?_, ?_, ?_⟩
    · rw [if_neg (by decide), if_pos (fun z => by omega)]
    · rw [if_neg (by decide), if_pos (fun z => by omega)]
    · rw [if_neg (by decide), if_pos (fun z => by omega)]
    · dsimp only; rw [if_pos (by omega)]; exact g2
    · dsimp only; rw [if_pos (by omega)]; exact g3
  · right
    have f0 : (if ¬ ((0 : Int) ≤ 0 ∧ (0 : Int) ≤ 2) then (-1 : Int) else if ¬ (0 ≤ r.1 ∧ ((0 : Int) < 2 ∨ ¬ r.2.2.2.2.2 = 0)) then -4 else if (0 : Int) = 0 then r.1 else if (0 : Int) = 1 then (if r.2.2.2.2.2 = 0 then 1 else 2) else r.2.2.2.2.1) = r.1 := by
      rw [if_neg (by decide), if_neg (fun z => z ⟨g1, Or.inl (by decide)⟩), if_pos rfl]
    rw [f0]
    refine ⟨⟨g1, g2⟩, by dsimp only; rw [if_neg (by omega)], ?_⟩
    rcases g3 with g3 | ⟨g3, g4, g5⟩
    · left
      refine ⟨?_, ?_⟩
      · rw [if_neg (by decide), if_neg (fun z => z ⟨g1, Or.inl (by decide)⟩), if_neg (by decide), if_pos rfl, if_pos g3]
      · rw [if_neg (by decide), if_pos (fun z => by rcases z.2 with y | y; exact absurd y (by decide); exact y g3)]
    · right
      have f2 : (if ¬ ((0 : Int) ≤ 2 ∧ (2 : Int) ≤ 2) then (-1 : Int) else if ¬ (0 ≤ r.1 ∧ ((2 : Int) < 2 ∨ ¬ r.2.2.2.2.2 = 0)) then -4 else if (2 : Int) = 0 then r.1 else if (2 : Int) = 1 then (if r.2.2.2.2.2 = 0 then 1 else 2) else r.2.2.2.2.1) = r.2.2.2.2.1 := by
        rw [if_neg (by decide), if_neg (fun z => z ⟨g1, Or.inr g3⟩), if_neg (by decide), if_neg (by decide)]
      rw [f2]
      refine ⟨?_, g4, g5⟩
      rw [if_neg (by decide), if_neg (fun z => z ⟨g1, Or.inl (by decide)⟩), if_neg (by decide), if_pos rfl, if_neg g3]
theorem NV.post2 {h h2 : HI} {hr r2 : HR} {m : Int} {s : Int → Int} {P : Nat → Int → Int} {n n2 v : Int} {res : Int × (Int → Int)} (w : NV h hr m s P n) (p : POST h m s P res v h2 r2) (ho : OX res.2 n2) (hn : n ≤ n2) :
    v = res.1 ∧ h2 122 1 = h 122 1 ∧ ∃ (m2 : Int) (s2 : Int → Int) (P2 : Nat → Int → Int), NV h2 r2 m2 s2 P2 n2 ∧ STEP m s P m2 s2 P2 := by
  have p3 := p.2.2.1
  by_cases c : v < 0
  · have w0 := w
    obtain ⟨-, o, q, t⟩ := w
    obtain ⟨p1, p2, p3, q2, m2, s2, P2, c2, d⟩ := p
    refine ⟨p1, p3, m2, s2, P2, ?_⟩
    rcases d with ⟨d1, rfl, rfl, rfl⟩ | ⟨d1, -⟩
    · exact ⟨⟨⟨q2, c2⟩, o.le hn, fun i hi => (q i hi).le hn, t.of p3 (p2 123 (Or.inl rfl))⟩, Or.inl ⟨rfl, rfl, rfl⟩⟩
    · omega
  · obtain ⟨e, m2, P2, a, b⟩ := w.post p (fun g => by have := p.1; omega) ho hn
    exact ⟨e, p3, m2, _, P2, a, b⟩
theorem KEEPC.tr {a b c : HI} (h : KEEPC a b) (g : KEEPC b c) : KEEPC a c := ⟨fun x x1 x2 x3 k => (g.1 x x1 x2 x3 k).trans (h.1 x x1 x2 x3 k), g.2.trans h.2⟩
theorem NV.keep {h h2 : HI} {hr : HR} {m : Int} {s : Int → Int} {P : Nat → Int → Int} {n : Int} (w : NV h hr m s P n) (g : KEEPC h h2) : NV h2 hr m s P n := by
  obtain ⟨⟨q, c⟩, o, p, t⟩ := w
  exact ⟨⟨q, c.keepc g⟩, o, p, t.of g.2 (g.1 123 (Or.inr (by decide)) (by decide) (by decide))⟩
section READS
variable {E : ET} {hi h0 : HI} {hr : HR} {m : Int} {s : Int → Int} {P : Nat → Int → Int} {n : Int}
theorem t_count (w : NV hi hr m s P n) {k v : Int} (ik : InR k) (e : cnF s m (hi 122 1) k = v) : AMet E M_X8_count [aR 0, aI k] hi hr 125 (EX (some (aI v)) hi hr 125) := by
  obtain ⟨⟨q, c⟩, o, -, -⟩ := w
  rw [← e]
  exact c_X8_count c o.2.1 ik
theorem hG_of (hi h : HI) (g : KEEPC hi h) {len : Int} : ∀ j : Nat, (j : Int) < len → h 123 j = tgv hi (j : Int) := fun j _ => by
  show h 123 j = hi 123 (j : Int).toNat
  rw [Int.toNat_natCast]
  exact g.1 123 (Or.inr (by decide)) (by decide) (by decide) j
theorem t_fault {h : HI} (hEN : EN E) (w : NV hi hr m s P n) (hn : n + 61 ≤ 100000) (g : KEEPC hi h) {k : Int} (ik : InR k) : AMet E M_X8_fault [aR 0, aI k] h hr 125 (PI (fun v h2 r2 n2 => r2 = hr ∧ n2 = 125 ∧ v = faF (tgv hi) (hi 122 1) s k 0 0 ∧ KEEPC hi h2)) := by
  obtain ⟨⟨q, c⟩, o, -, t⟩ := w.keep g
  have t0 : TX (tgv hi) (hi 122 1) := w.2.2.2
  refine am_mono (c_X8_fault c hEN o.1 hn (len := hi 122 1) (t0 := 0) (m0 := 0) (hG_of hi h g) t0 g.2 ik) ?_
  rintro r h2 r2 n2 ⟨v, rfl, rfl, rfl, e, g2⟩
  exact ⟨v, rfl, rfl, rfl, e, g.tr g2⟩
theorem OX.py {G : Int → Int} {len : Int} (h : OX s n) (hn : n + 61 ≤ 100000) (t m : Int) : OX (pyF G len s t m).2 (n + 61) := OX.doA 61 s 0 0 t m n h (by omega)
theorem t_play {h : HI} (hEN : EN E) (w : NV hi hr m s P n) (hn : n + 61 ≤ 100000) (g : KEEPC hi h) : AMet E M_X8_play [aR 0] h hr 125 (PI (fun v h2 r2 n2 => n2 = 125 ∧ v = (pyF (tgv hi) (hi 122 1) s 0 0).1 ∧ h2 122 1 = hi 122 1 ∧ ∃ (m2 : Int) (s2 : Int → Int) (P2 : Nat → Int → Int), NV h2 r2 m2 s2 P2 (n + 61) ∧ STEP m s P m2 s2 P2)) := by
  have w2 := w.keep g
  obtain ⟨⟨q, c⟩, o, -, t⟩ := w2
  have t0 : TX (tgv hi) (hi 122 1) := w.2.2.2
  refine am_mono (c_X8_play c hEN o.1 hn (len := hi 122 1) (t0 := 0) (m0 := 0) (hG_of hi h g) t0 g.2) ?_
  rintro r h2 r2 n2 ⟨v, rfl, rfl, p⟩
  obtain ⟨e1, e2, e3⟩ := (w.keep g).post2 p (o.py hn 0 0) (by omega)
  exact ⟨v, rfl, rfl, e1, e2.trans g.2, e3⟩
set_option maxRecDepth 100000 in
set_option maxHeartbeats 4000000 in
theorem c_L_reads (hEN : EN E) (w : NV hi hr m s P n) (hn : n + 61 ≤ 100000) : AMet E M_L_reads [aR 0] hi hr 125 (PI (fun v h2 r2 n2 => n2 = 125 ∧ v = 1 ∧ ∃ (m2 : Int) (s2 : Int → Int) (P2 : Nat → Int → Int), NV h2 r2 m2 s2 P2 (n + 61) ∧ STEP m s P m2 s2 P2)) := by
  refine am_of (by decide +kernel) (Nat.le_of_ble_eq_true rfl) ?_
  have t0 : TX (tgv hi) (hi 122 1) := w.2.2.2
  have l0 := t0.1
  have l1 := t0.2.1
  have F := fa_r (G := tgv hi) (len := hi 122 1) w.2.1.1 hn l0 l1
  have k32 : ∀ (v0 v1 v2 v3 : Int) (h2 : HI) (r2 : HR) (m2 : Int) (s2 : Int → Int) (P2 : Nat → Int → Int), v0 = faF (tgv hi) (hi 122 1) s 0 0 0 → v1 = faF (tgv hi) (hi 122 1) s 1 0 0 → v2 = faF (tgv hi) (hi 122 1) s 2 0 0 → v3 = (pyF (tgv hi) (hi 122 1) s 0 0).1 → h2 122 1 = hi 122 1 → NV h2 r2 m2 s2 P2 (n + 61) → STEP m s P m2 s2 P2 →
      AW E M_L_reads 0 0 32 [some (aR 0), some (aI v0), some (aI v1), some (aI v2), some (aI (hi 122 1)), some (aI v3), none, none] [] h2 r2 125 (PI (fun v h2 r2 n2 => n2 = 125 ∧ v = 1 ∧ ∃ (m2 : Int) (s2 : Int → Int) (P2 : Nat → Int → Int), NV h2 r2 m2 s2 P2 (n + 61) ∧ STEP m s P m2 s2 P2)) := by
    intro v0 v1 v2 v3 h2 r2 m2 s2 P2 e0 e1 e2 e3 el2 w2 st
    rw [← e0, ← e1, ← e2, ← e3] at F
    generalize hi 122 1 = len at l0 l1 F el2 ⊢
    rcases F with ⟨a1, a2, a3, a4, a5⟩ | ⟨⟨a1, a2⟩, a3, ⟨a4, a5⟩ | ⟨a4, a5, a6⟩⟩
    · refine aw_iload_n dL_reads_32 rfl ?_
      refine aw_bipush dL_reads_33 (by decide) ?_
      refine aw_ic_ne (tgt := 68) dL_reads_35 (by decide) ⟨by omega, by omega⟩ ⟨by decide, by decide⟩ (fun h35 => ?_) (fun h35 => ?_)
      · exact absurd h35 (by omega)
      · refine aw_iload_n dL_reads_38 rfl ?_
        refine aw_bipush dL_reads_39 (by decide) ?_
        refine aw_ic_ne (tgt := 68) dL_reads_41 (by decide) ⟨by omega, by omega⟩ ⟨by decide, by decide⟩ (fun h41 => ?_) (fun h41 => ?_)
        · exact absurd h41 (by omega)
        · refine aw_iload_n dL_reads_44 rfl ?_
          refine aw_bipush dL_reads_45 (by decide) ?_
          refine aw_ic_ne (tgt := 68) dL_reads_47 (by decide) ⟨by omega, by omega⟩ ⟨by decide, by decide⟩ (fun h47 => ?_) (fun h47 => ?_)
          · exact absurd h47 (by omega)
          · refine aw_iload dL_reads_50 rfl ?_
            refine aw_if_lt (tgt := 68) dL_reads_52 (by decide) ⟨by omega, by omega⟩ (fun h52 => ?_) (fun h52 => ?_)
            · exact absurd h52 (by omega)
            · refine aw_iconst dL_reads_55 ?_
              refine aw_iload dL_reads_56 rfl ?_
              refine aw_imul dL_reads_58 ?_
              refine aw_iload dL_reads_59 rfl ?_
              refine aw_ic_gt (tgt := 68) dL_reads_61 (by decide) ⟨by omega, by omega⟩ ⟨by omega, by omega⟩ (fun h61 => ?_) (fun h61 => ?_)
              · exact absurd h61 (by omega)
              · refine aw_iconst dL_reads_64 ?_
                refine aw_goto (tgt := 69) dL_reads_65 (by decide) ?_
                refine aw_istore (ls2 := [_, _, _, _, _, _, _, _]) dL_reads_69 (by decide) rfl ?_
                refine aw_iload_n dL_reads_71 rfl ?_
                refine aw_if_lt (tgt := 118) dL_reads_72 (by decide) ⟨by omega, by omega⟩ (fun h72 => ?_) (fun h72 => ?_)
                · refine aw_iconst dL_reads_118 ?_
                  refine aw_istore (ls2 := [_, _, _, _, _, _, _, _]) dL_reads_119 (by decide) rfl ?_
                  refine aw_iload dL_reads_121 rfl ?_
                  refine aw_if_ne (tgt := 131) dL_reads_123 (by decide) ⟨by decide, by decide⟩ (fun h123 => ?_) (fun h123 => ?_)
                  · refine aw_aload_n dL_reads_131 rfl ?_
                    refine aw_bipush dL_reads_132 (by decide) ?_
                    refine aw_V1x dL_reads_134 clL_13 ⟨by decide, by decide⟩ (c := 8) (N := 5) (by decide) (by decide +kernel) rfl (t_count w2 (v := len) ⟨by decide, by decide⟩ (by rw [el2]; simp [cnF, ctF])) (by decide) (by decide) rfl rfl (by simp only [List.length_cons, List.length_nil]; omega) ?_
                    refine aw_iload dL_reads_137 rfl ?_
                    refine aw_ic_ne (tgt := 146) dL_reads_139 (by decide) ⟨by omega, by omega⟩ ⟨by omega, by omega⟩ (fun h139 => ?_) (fun h139 => ?_)
                    · exact absurd rfl h139
                    · refine aw_iconst dL_reads_142 ?_
                      refine aw_goto (tgt := 147) dL_reads_143 (by decide) ?_
                      refine aw_zret dL_reads_147 rfl (Or.inr rfl) (by decide) (by decide) ?_
                      exact ⟨_, rfl, rfl, rfl, m2, s2, P2, w2, st⟩
                  · exact absurd h123 (by decide)
                · exact absurd h72 (by omega)
    · refine aw_iload_n dL_reads_32 rfl ?_
      refine aw_bipush dL_reads_33 (by decide) ?_
      refine aw_ic_ne (tgt := 68) dL_reads_35 (by decide) ⟨by omega, by omega⟩ ⟨by decide, by decide⟩ (fun h35 => ?_) (fun h35 => ?_)
      · refine aw_iconst dL_reads_68 ?_
        refine aw_istore (ls2 := [_, _, _, _, _, _, _, _]) dL_reads_69 (by decide) rfl ?_
        refine aw_iload_n dL_reads_71 rfl ?_
        refine aw_if_lt (tgt := 118) dL_reads_72 (by decide) ⟨by omega, by omega⟩ (fun h72 => ?_) (fun h72 => ?_)
        · exact absurd h72 (by omega)
        · refine aw_iload_n dL_reads_75 rfl ?_
          refine aw_iload dL_reads_76 rfl ?_
          refine aw_ic_ge (tgt := 118) dL_reads_78 (by decide) ⟨by omega, by omega⟩ ⟨by omega, by omega⟩ (fun h78 => ?_) (fun h78 => ?_)
          · exact absurd h78 (by omega)
          · refine aw_iload dL_reads_81 rfl ?_
            refine aw_bipush dL_reads_83 (by decide) ?_
            refine aw_ic_ne (tgt := 118) dL_reads_85 (by decide) ⟨by omega, by omega⟩ ⟨by decide, by decide⟩ (fun h85 => ?_) (fun h85 => ?_)
            · exact absurd h85 (by omega)
            · refine aw_iload_n dL_reads_88 rfl ?_
              refine aw_iconst dL_reads_89 ?_
              refine aw_ic_ne (tgt := 99) dL_reads_90 (by decide) ⟨by omega, by omega⟩ ⟨by decide, by decide⟩ (fun h90 => ?_) (fun h90 => ?_)
              · exact absurd h90 (by omega)
              · refine aw_iload_n dL_reads_93 rfl ?_
                refine aw_bipush dL_reads_94 (by decide) ?_
                refine aw_ic_eq (tgt := 114) dL_reads_96 (by decide) ⟨by omega, by omega⟩ ⟨by decide, by decide⟩ (fun h96 => ?_) (fun h96 => ?_)
                · refine aw_iconst dL_reads_114 ?_
                  refine aw_goto (tgt := 119) dL_reads_115 (by decide) ?_
                  refine aw_istore (ls2 := [_, _, _, _, _, _, _, _]) dL_reads_119 (by decide) rfl ?_
                  refine aw_iload dL_reads_121 rfl ?_
                  refine aw_if_ne (tgt := 131) dL_reads_123 (by decide) ⟨by decide, by decide⟩ (fun h123 => ?_) (fun h123 => ?_)
                  · exact absurd h123 (by decide)
                  · refine aw_iload dL_reads_126 rfl ?_
                    refine aw_if_eq (tgt := 146) dL_reads_128 (by decide) ⟨by decide, by decide⟩ (fun h128 => ?_) (fun h128 => ?_)
                    · exact absurd h128 (by decide)
                    · refine aw_aload_n dL_reads_131 rfl ?_
                      refine aw_bipush dL_reads_132 (by decide) ?_
                      refine aw_V1x dL_reads_134 clL_13 ⟨by decide, by decide⟩ (c := 8) (N := 5) (by decide) (by decide +kernel) rfl (t_count w2 (v := len) ⟨by decide, by decide⟩ (by rw [el2]; simp [cnF, ctF])) (by decide) (by decide) rfl rfl (by simp only [List.length_cons, List.length_nil]; omega) ?_
                      refine aw_iload dL_reads_137 rfl ?_
                      refine aw_ic_ne (tgt := 146) dL_reads_139 (by decide) ⟨by omega, by omega⟩ ⟨by omega, by omega⟩ (fun h139 => ?_) (fun h139 => ?_)
                      · exact absurd rfl h139
                      · refine aw_iconst dL_reads_142 ?_
                        refine aw_goto (tgt := 147) dL_reads_143 (by decide) ?_
                        refine aw_zret dL_reads_147 rfl (Or.inr rfl) (by decide) (by decide) ?_
                        exact ⟨_, rfl, rfl, rfl, m2, s2, P2, w2, st⟩
                · exact absurd h96 (by omega)
      · exact absurd h35 (by omega)
    · refine aw_iload_n dL_reads_32 rfl ?_
      refine aw_bipush dL_reads_33 (by decide) ?_
      refine aw_ic_ne (tgt := 68) dL_reads_35 (by decide) ⟨by omega, by omega⟩ ⟨by decide, by decide⟩ (fun h35 => ?_) (fun h35 => ?_)
      · refine aw_iconst dL_reads_68 ?_
        refine aw_istore (ls2 := [_, _, _, _, _, _, _, _]) dL_reads_69 (by decide) rfl ?_
        refine aw_iload_n dL_reads_71 rfl ?_
        refine aw_if_lt (tgt := 118) dL_reads_72 (by decide) ⟨by omega, by omega⟩ (fun h72 => ?_) (fun h72 => ?_)
        · exact absurd h72 (by omega)
        · refine aw_iload_n dL_reads_75 rfl ?_
          refine aw_iload dL_reads_76 rfl ?_
          refine aw_ic_ge (tgt := 118) dL_reads_78 (by decide) ⟨by omega, by omega⟩ ⟨by omega, by omega⟩ (fun h78 => ?_) (fun h78 => ?_)
          · exact absurd h78 (by omega)
          · refine aw_iload dL_reads_81 rfl ?_
            refine aw_bipush dL_reads_83 (by decide) ?_
            refine aw_ic_ne (tgt := 118) dL_reads_85 (by decide) ⟨by omega, by omega⟩ ⟨by decide, by decide⟩ (fun h85 => ?_) (fun h85 => ?_)
            · exact absurd h85 (by omega)
            · refine aw_iload_n dL_reads_88 rfl ?_
              refine aw_iconst dL_reads_89 ?_
              refine aw_ic_ne (tgt := 99) dL_reads_90 (by decide) ⟨by omega, by omega⟩ ⟨by decide, by decide⟩ (fun h90 => ?_) (fun h90 => ?_)
              · refine aw_iload_n dL_reads_99 rfl ?_
                refine aw_iconst dL_reads_100 ?_
                refine aw_ic_ne (tgt := 118) dL_reads_101 (by decide) ⟨by omega, by omega⟩ ⟨by decide, by decide⟩ (fun h101 => ?_) (fun h101 => ?_)
                · exact absurd h101 (by omega)
                · refine aw_iload_n dL_reads_104 rfl ?_
                  refine aw_if_ge (tgt := 118) dL_reads_105 (by decide) ⟨by omega, by omega⟩ (fun h105 => ?_) (fun h105 => ?_)
                  · exact absurd h105 (by omega)
                  · refine aw_iload_n dL_reads_108 rfl ?_
                    refine aw_bipush dL_reads_109 (by decide) ?_
                    refine aw_ic_le (tgt := 118) dL_reads_111 (by decide) ⟨by omega, by omega⟩ ⟨by decide, by decide⟩ (fun h111 => ?_) (fun h111 => ?_)
                    · exact absurd h111 (by omega)
                    · refine aw_iconst dL_reads_114 ?_
                      refine aw_goto (tgt := 119) dL_reads_115 (by decide) ?_
                      refine aw_istore (ls2 := [_, _, _, _, _, _, _, _]) dL_reads_119 (by decide) rfl ?_
                      refine aw_iload dL_reads_121 rfl ?_
                      refine aw_if_ne (tgt := 131) dL_reads_123 (by decide) ⟨by decide, by decide⟩ (fun h123 => ?_) (fun h123 => ?_)
                      · exact absurd h123 (by decide)
                      · refine aw_iload dL_reads_126 rfl ?_
                        refine aw_if_eq (tgt := 146) dL_reads_128 (by decide) ⟨by decide, by decide⟩ (fun h128 => ?_) (fun h128 => ?_)
                        · exact absurd h128 (by decide)
                        · refine aw_aload_n dL_reads_131 rfl ?_
                          refine aw_bipush dL_reads_132 (by decide) ?_
                          refine aw_V1x dL_reads_134 clL_13 ⟨by decide, by decide⟩ (c := 8) (N := 5) (by decide) (by decide +kernel) rfl (t_count w2 (v := len) ⟨by decide, by decide⟩ (by rw [el2]; simp [cnF, ctF])) (by decide) (by decide) rfl rfl (by simp only [List.length_cons, List.length_nil]; omega) ?_
                          refine aw_iload dL_reads_137 rfl ?_
                          refine aw_ic_ne (tgt := 146) dL_reads_139 (by decide) ⟨by omega, by omega⟩ ⟨by omega, by omega⟩ (fun h139 => ?_) (fun h139 => ?_)
                          · exact absurd rfl h139
                          · refine aw_iconst dL_reads_142 ?_
                            refine aw_goto (tgt := 147) dL_reads_143 (by decide) ?_
                            refine aw_zret dL_reads_147 rfl (Or.inr rfl) (by decide) (by decide) ?_
                            exact ⟨_, rfl, rfl, rfl, m2, s2, P2, w2, st⟩
              · exact absurd h90 (by omega)
      · exact absurd h35 (by omega)
  refine aw_aload_n dL_reads_0 rfl ?_
  refine aw_iconst dL_reads_1 ?_
  refine aw_V1i dL_reads_2 clL_49 ⟨by decide, by decide⟩ (c := 8) (N := 5) (by decide) (by decide +kernel) rfl (t_fault hEN w hn (keepc_rf hi) ⟨by decide, by decide⟩) (by decide) (by decide) rfl rfl (by simp only [List.length_cons, List.length_nil]; omega) (fun v_2 h_2 r_2 n_2 q_2 => ?_)
  obtain ⟨rfl, rfl, e2, g2⟩ := q_2
  refine aw_istore_n (ls2 := [_, _, _, _, _, _, _, _]) dL_reads_5 (by decide) rfl ?_
  refine aw_aload_n dL_reads_6 rfl ?_
  refine aw_iconst dL_reads_7 ?_
  refine aw_V1i dL_reads_8 clL_49 ⟨by decide, by decide⟩ (c := 8) (N := 5) (by decide) (by decide +kernel) rfl (t_fault hEN w hn g2 ⟨by decide, by decide⟩) (by decide) (by decide) rfl rfl (by simp only [List.length_cons, List.length_nil]; omega) (fun v_8 h_8 r_8 n_8 q_8 => ?_)
  obtain ⟨rfl, rfl, e8, g8⟩ := q_8
  refine aw_istore_n (ls2 := [_, _, _, _, _, _, _, _]) dL_reads_11 (by decide) rfl ?_
  refine aw_aload_n dL_reads_12 rfl ?_
  refine aw_iconst dL_reads_13 ?_
  refine aw_V1i dL_reads_14 clL_49 ⟨by decide, by decide⟩ (c := 8) (N := 5) (by decide) (by decide +kernel) rfl (t_fault hEN w hn g8 ⟨by decide, by decide⟩) (by decide) (by decide) rfl rfl (by simp only [List.length_cons, List.length_nil]; omega) (fun v_14 h_14 r_14 n_14 q_14 => ?_)
  obtain ⟨rfl, rfl, e14, g14⟩ := q_14
  refine aw_istore_n (ls2 := [_, _, _, _, _, _, _, _]) dL_reads_17 (by decide) rfl ?_
  refine aw_aload_n dL_reads_18 rfl ?_
  refine aw_bipush dL_reads_19 (by decide) ?_
  refine aw_V1x dL_reads_21 clL_13 ⟨by decide, by decide⟩ (c := 8) (N := 5) (by decide) (by decide +kernel) rfl (t_count (w.keep g14) (v := hi 122 1) ⟨by decide, by decide⟩ (by rw [g14.2]; simp [cnF, ctF])) (by decide) (by decide) rfl rfl (by simp only [List.length_cons, List.length_nil]; omega) ?_
  refine aw_istore (ls2 := [_, _, _, _, _, _, _, _]) dL_reads_24 (by decide) rfl ?_
  refine aw_aload_n dL_reads_26 rfl ?_
  refine aw_V0i dL_reads_27 clL_52 ⟨by decide, by decide⟩ (c := 8) (N := 5) (by decide) (by decide +kernel) rfl (t_play hEN w hn g14) (by decide) (by decide) rfl rfl (by simp only [List.length_cons, List.length_nil]; omega) (fun v_27 h_27 r_27 n_27 q_27 => ?_)
  obtain ⟨rfl, e27, l27, m2, s2, P2, w2, st⟩ := q_27
  refine aw_istore (ls2 := [_, _, _, _, _, _, _, _]) dL_reads_30 (by decide) rfl ?_
  exact k32 _ _ _ _ _ _ _ _ _ e2 e8 e14 e27 l27 w2 st
end READS
