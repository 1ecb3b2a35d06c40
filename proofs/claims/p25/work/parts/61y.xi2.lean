/-! .. and each act keeps it -/
theorem ti2_q {s : Int → Int} (hM : MI s) {x : Int} (h0 : 216 ≤ x) (h1 : x < 248) : ti2 s x = s x := by
  have hb := hM.2.1
  have p1 := hM.2.2.2.1
  have p0 := hM.z 248 (by unfold xc; omega)
  have hl := lin_b p0 (by omega)
  have z4 := hM.z 254 (by unfold xc; omega)
  unfold ti2
  by_cases c3 : 0 < s 253
  · rw [if_pos c3]
    dsimp only
    have x2 : up1 s 253 (s 253 - 1) 2 = s 2 := up1_n _ _ (by decide)
    have x8 : up1 s 253 (s 253 - 1) 248 = s 248 := up1_n _ _ (by decide)
    rw [x2, x8]
    split
    · rw [up1_n _ _ (by omega), up1_n _ _ (by omega), up1_n _ _ (by omega)]
    · rw [up1_n _ _ (by omega)]
  · rw [if_neg c3]
    by_cases c4 : 0 < s 254
    · rw [if_pos c4]
      try dsimp only
      have mu : MI (up1 (up1 s 254 (s 254 - 1)) 255 1) := (hM.far (k := 254) (by omega) (by omega) (by omega) (by have := hM.b 254 (by unfold xc; omega); omega)).far (by omega) (by omega) (by omega) (by unfold BIG; omega)
      split
      · rw [enF_x mu h0 h1, up1_n _ _ (by omega), up1_n _ _ (by omega)]
      · rw [up1_n _ _ (by omega), up1_n _ _ (by omega)]
    · rw [if_neg c4]
theorem XI.tick {s : Int → Int} (h : XI s) (hM : MI s) (hL : ML s) (hb : s 0 + 1 ≤ BIG) (h1 : s 1 = 0) : XI (tiF s) := by
  obtain ⟨hc, hs, -⟩ := h
  have m := hM.time hb
  have h10 := hM.2.2.2.2.2.2.1
  have h8 := hM.2.2.1
  have o : ∀ x : Int, ¬ x = 0 → up1 s 0 (s 0 + 1) x = s x := fun x hx => up1_n _ _ hx
  have c1 : XC (up1 s 0 (s 0 + 1)) := hc.same hM (fun x x0 x1 => o x (by omega)) (o 10 (by decide)) (o 2 (by decide)) (fun x x0 x1 => o x (by omega))
  have s1 : SO (up1 s 0 (s 0 + 1)) := hs.same h8 (fun x x0 x1 => o x (by omega)) (o 11 (by decide))
  have M1 := (ti1_M hM hb).1
  have g : XC (ti1 s) ∧ SO (ti1 s) := by
    unfold ti1
    dsimp only
    split
    · exact XI.takes (nxt_b _).1 9 _ m c1 s1 (Or.inl (by rw [o 10 (by decide), up1_s]; omega))
    · exact ⟨c1, s1⟩
  have e1 : tiF s 1 = s 1 := tiF_x hM hb (by decide) (by decide) (by decide) (by decide) (by decide) (by decide)
  refine ⟨g.1.two M1, g.2.same M1.2.2.1 (fun x x0 x1 => ti2_q M1 x0 x1) ?_, fun q => by omega⟩
  have z : ML (ti1 s) := by
    unfold ti1
    dsimp only
    split
    · exact (tkA_L (nxt_b _).1 9 _ m ⟨by rw [o 253 (by decide)]; exact hL.1, by rw [o 254 (by decide)]; exact hL.2⟩ (Or.inl (by rw [o 10 (by decide), up1_s]; omega))).1
    · exact ⟨by rw [o 253 (by decide)]; exact hL.1, by rw [o 254 (by decide)]; exact hL.2⟩
  exact (ti2_L M1 z).2.1
theorem XI.goes {s : Int → Int} (h : XI s) (hM : MI s) (hL : ML s) (h1 : s 1 = 0) : ∀ k : Nat, s 0 + k ≤ BIG → XI (goA s k) := by
  intro k
  induction k with
  | zero => intro _; exact h
  | succ k ih =>
    intro hk
    have g := goA_M hM k (by omega)
    have l := goA_L hM hL k (by omega)
    exact (ih (by omega)).tick g.1 l.1 (by rw [g.2]; omega) (by rw [l.2 1 (by decide) (by decide) (by decide) (by decide) (by decide) (by decide)]; exact h1)
theorem adJ_sp {s : Int → Int} (u : Int) : ∀ k : Nat, (∀ i : Int, (adJ s u k : Int) ≤ i → i < k → u < s (216 + 4 * i + 2)) ∧ (0 < adJ s u k → s (216 + 4 * ((adJ s u k : Int) - 1) + 2) ≤ u) := by
  intro k
  induction k with
  | zero => exact ⟨fun i h0 h1 => by omega, fun h => absurd h (by show ¬ 0 < 0; decide)⟩
  | succ k ih =>
    unfold adJ
    by_cases c : u < s (216 + 4 * (k : Int) + 2)
    · rw [if_pos c]
      refine ⟨fun i h0 h1 => ?_, ih.2⟩
      by_cases e : i = (k : Int)
      · rw [e]; exact c
      · exact ih.1 i h0 (by omega)
    · rw [if_neg c]
      refine ⟨fun i h0 h1 => by omega, fun _ => ?_⟩
      rw [show ((k + 1 : Nat) : Int) - 1 = (k : Int) by omega]
      omega
theorem SO.cm {s : Int → Int} (h : SO s) (hM : MI s) (h7 : s 11 ≤ 7) {key : Int} (hk : key ≤ 11) (val u stp : Int) : SO (cmF s key val u stp) := by
  refine ⟨fun i i0 i1 => ?_, fun i i0 i1 => ?_⟩
  rotate_left
  · have z := hM.z 11 (by unfold xc; omega)
    have e := cmF_at hM h7 key val u stp i0 (by rw [cmF_11 hM h7] at i1; omega) (show (0 : Int) ≤ 0 by decide) (by decide)
    simp only [Int.add_zero] at e
    rw [cmF_11 hM h7] at i1
    have hJ := adJ_le s u (s 11).toNat
    rw [e]
    generalize adJ s u (s 11).toNat = J at hJ ⊢
    by_cases a : i = (J : Int)
    · rw [if_pos a, if_pos trivial]; exact hk
    · rw [if_neg a]
      by_cases c : (J : Int) < i
      · rw [if_pos ⟨c, by omega⟩]; exact h.2 (i - 1) (by omega) (by omega)
      · rw [if_neg (by omega)]; exact h.2 i i0 (by omega)
  have z := hM.z 11 (by unfold xc; omega)
  have hJ := adJ_le s u (s 11).toNat
  obtain ⟨j1, j2⟩ := adJ_sp (s := s) u (s 11).toNat
  rw [cmF_11 hM h7] at i1
  rw [cmF_at hM h7 _ _ _ _ i0 (by omega) (by decide) (by decide), cmF_at hM h7 _ _ _ _ (show 0 ≤ i + 1 by omega) (by omega) (by decide) (by decide)]
  generalize adJ s u (s 11).toNat = J at hJ j1 j2 ⊢
  by_cases a : i = (J : Int)
  · rw [if_pos a, if_neg (by decide), if_neg (by decide), if_pos rfl, if_neg (by omega), if_pos (by omega)]
    have := j1 i (by omega) (by omega)
    rw [show i + 1 - 1 = i by omega]
    omega
  · rw [if_neg a]
    by_cases b : i + 1 = (J : Int)
    · rw [if_pos b, if_neg (by omega), if_neg (by decide), if_neg (by decide), if_pos rfl]
      have := j2 (by omega)
      rw [show (J : Int) - 1 = i by omega] at this
      exact this
    · rw [if_neg b]
      by_cases c : (J : Int) < i
      · rw [if_pos ⟨c, by omega⟩, if_pos (by omega)]
        have := h.1 (i - 1) (by omega) (by omega)
        rw [show i + 1 - 1 = i by omega]
        rw [show i - 1 + 1 = i by omega] at this
        exact this
      · rw [if_neg (by omega), if_neg (by omega)]
        exact h.1 i i0 (by omega)
theorem XC.cm {s : Int → Int} (h : XC s) (hM : MI s) (h7 : s 11 ≤ 7) (key val u stp : Int) : XC (cmF s key val u stp) :=
  h.same hM (fun x x0 x1 => cmF_x hM h7 _ _ _ _ (by omega) (by omega)) (cmF_x hM h7 _ _ _ _ (by omega) (by omega)) (cmF_x hM h7 _ _ _ _ (by omega) (by omega)) (fun x x0 x1 => cmF_x hM h7 _ _ _ _ (by omega) (by omega))
theorem XI.as {s : Int → Int} (h : XI s) (hM : MI s) (k v u : Int) : XI (asF s k v u).2 := by
  have h8 := hM.2.2.1
  have h1 := hM.2.2.2.2.2.1
  unfold asF
  split
  · exact h
  · next c0 =>
    split
    · exact h
    · split
      · exact h
      · refine ⟨h.1.cm hM (by omega) _ _ _ _, h.2.1.cm hM (by omega) (by omega) _ _ _, fun g => ?_⟩
        dsimp only at g
        rw [cmF_x hM (by omega) _ _ _ _ (by omega) (by omega)] at g
        omega
theorem XI.lt {s : Int → Int} (h : XI s) (hM : MI s) (hL : ML s) (m : Int) : XI (ltF s m).2 := by
  have z0 := hM.z 0 (by unfold xc; omega)
  have h1 := hM.2.2.2.2.2.1
  unfold ltF
  split
  · exact h
  · split
    · exact h
    · split
      · exact h
      · exact h.goes hM hL (by omega) m.toNat (by unfold BIG; omega)
theorem XI.ch {s : Int → Int} (h : XI s) (hM : MI s) : XI (chF s).2 := by
  have h8 := hM.2.2.1
  obtain ⟨⟨hp, hk, hw⟩, hs, ho⟩ := h
  unfold chF
  split
  · exact ⟨⟨hp, hk, hw⟩, hs, ho⟩
  · next c =>
    have iw : iwF s = 0 := (iw_b s).resolve_right (fun g => c (Or.inr (Or.inl g)))
    have o : ∀ x : Int, ¬ x = 2 → up1 s 2 (1 - s 2) x = s x := fun x hx => up1_n _ _ hx
    have ew : iwF (up1 s 2 (1 - s 2)) = iwF s := iw_cong (o 253 (by decide)) (o 254 (by decide))
    refine ⟨⟨fun c c0 c1 c2 g => ?_, hk.cells (fun x x0 x1 => o x (by omega)) (o 10 (by decide)) (o 249 (by decide)) (o 252 (by decide)) (fun g => by rw [← ew]; exact g), fun g => ?_⟩, hs.same h8 (fun x x0 x1 => o x (by omega)) (o 11 (by decide)), fun g => ?_⟩
    · have b := atI_b c0 c1
      dsimp only at g
      rw [o _ (by omega)] at g
      have := (hp c c0 c1 c2 g).1
      omega
    · dsimp only at g
      rw [o 253 (by decide)] at g
      unfold iwF at iw
      rw [if_pos (Or.inr g)] at iw
      exact absurd iw (by decide)
    · dsimp only at g ⊢
      rw [o 1 (by decide)] at g
      rw [ew, o 11 (by decide)]
      exact ho g
theorem XI.op {s : Int → Int} (h : XI s) (hM : MI s) : XI (opF s).2 := by
  have h8 := hM.2.2.1
  have o : ∀ x : Int, ¬ x = 1 → up1 s 1 0 x = s x := fun x hx => up1_n _ _ hx
  have c1 : XC (up1 s 1 0) := h.1.same hM (fun x x0 x1 => o x (by omega)) (o 10 (by decide)) (o 2 (by decide)) (fun x x0 x1 => o x (by omega))
  have s1 : SO (up1 s 1 0) := h.2.1.same h8 (fun x x0 x1 => o x (by omega)) (o 11 (by decide))
  have loop : ∀ k : Nat, k ≤ 48 → XC (opA (up1 s 1 0) k) ∧ SO (opA (up1 s 1 0) k) := by
    intro k
    induction k with
    | zero => intro _; exact ⟨c1, s1⟩
    | succ k ih =>
      intro hk
      have g := ih (by omega)
      have m := opA_M hM.on k (by omega)
      rw [opA_s]
      split
      · next c => exact ⟨g.1.cm m (by omega) _ _ _ _, g.2.cm m (by omega) (g.1.2.1.key (by omega) (by omega) (ip_2 c.2.2).1) _ _ _⟩
      · exact g
  have L := loop 48 (by decide)
  have e1 : opA (up1 s 1 0) 48 1 = 0 := by rw [opA_x hM.on (by omega) (by omega) 48 (by omega), up1_s]
  unfold opF
  split
  · generalize opA (up1 s 1 0) 48 = q at L e1 ⊢
    exact ⟨L.1, L.2, fun g => by dsimp only at g; omega⟩
  · exact h
theorem XI.cl {s : Int → Int} (h : XI s) (hM : MI s) (b : Int) : XI (clF s b).2 := by
  have h1 := hM.2.2.2.2.2.1
  unfold clF
  split
  · exact h
  · split
    · exact h
    · next cb c1 =>
      split
      · exact h
      · next c2 =>
        have hb : b = 0 ∨ b = 1 := by omega
        have loop : ∀ k : Nat, k ≤ 24 → XC (clA s b k) ∧ SO (clA s b k) := by
          intro k
          induction k with
          | zero => intro _; exact ⟨h.1, h.2.1⟩
          | succ k ih =>
            intro hk
            have g := ih (by omega)
            obtain ⟨g1, g2, g3⟩ := clA_M hM hb (by omega) k (by omega)
            obtain ⟨-, f2, -⟩ := clA_M hM hb (by omega) (k + 1) hk
            have hc := ctA_le s b (k := k + 1) (n := 24) hk
            unfold clA at f2 ⊢
            by_cases c : ipF (clA s b k) (24 * b + (k : Int)) = 1
            · rw [if_pos c] at f2 ⊢
              have c2k := (ip_2 c).1
              have h7 : clA s b k 11 ≤ 7 := by
                have e : ipF (clA s b k) (24 * b + (k : Int)) = ipF s (24 * b + (k : Int)) := ipF_cong (fun x h1 h2 => g3 x (by omega) (by omega)) (by omega) (by omega)
                rw [e] at c
                have hc2 : ctA s b (k + 1) = ctA s b k + ipF s (24 * b + (k : Int)) := rfl
                omega
              exact ⟨g.1.cm g1 h7 _ _ _ _, g.2.cm g1 h7 (g.1.2.1.key (by omega) (by omega) c2k) _ _ _⟩
            · rw [if_neg c]; exact g
        have L := loop 24 (by decide)
        obtain ⟨-, -, g3⟩ := clA_M hM hb (by omega) 24 (by omega)
        have e1 := g3 1 (by decide) (by decide)
        generalize clA s b 24 = q at L e1 ⊢
        exact ⟨L.1, L.2, fun g => by dsimp only at g; omega⟩
theorem XI.er {s : Int → Int} (h : XI s) (hM : MI s) (b : Int) : XI (erF s b).2 := by
  obtain ⟨⟨hp, hk, hw⟩, hs, ho⟩ := h
  have h8 := hM.2.2.1
  have bb := bkc_b hM
  by_cases hb : 0 ≤ b ∧ b ≤ 1
  · have hb2 : b = 0 ∨ b = 1 := by omega
    have my := (my_eq (s := s) (b := b) (m0 := if s 1 = 1 ∨ b = s 2 then (0 : Int) else 1) (by split <;> simp) 24)
    unfold erF
    rw [if_neg (fun g => g hb)]
    by_cases c : myA s b (if s 1 = 1 ∨ b = s 2 then (0 : Int) else 1) 24 = 0
    · rw [if_pos c]; exact ⟨⟨hp, hk, hw⟩, hs, ho⟩
    · rw [if_neg c]
      have m1 := (my.2.mp (my.1.resolve_left c)).1
      have n1 : ¬ (s 1 = 1 ∨ b = s 2) := fun g => by rw [if_pos g] at m1; exact absurd m1 (by decide)
      generalize er1 s b (6 + b) + 1 = v
      have o : ∀ x : Int, (x < 24 ∨ 216 ≤ x) → ¬ x = 6 → ¬ x = 7 → up1 (er1 s b) (6 + b) v x = s x := fun x hx h6 h7 => by rw [up1_n _ _ (by omega)]; exact er1_x s hb2 hx
      have C : ∀ c q : Int, 0 ≤ c → c < 48 → 0 ≤ q → q < 4 → up1 (er1 s b) (6 + b) v (atI c + q) = if 24 * b ≤ c ∧ c < 24 * b + 24 then 0 else s (atI c + q) := fun c q c0 c1 q0 q1 => by
        have := atI_b c0 c1
        rw [up1_n _ _ (by omega)]; exact er1_c s hb2 c0 c1 q0 q1
      dsimp only
      generalize up1 (er1 s b) (6 + b) v = t at o C ⊢
      have ew : iwF t = iwF s := iw_cong (o 253 (by decide) (by decide) (by decide)) (o 254 (by decide) (by decide) (by decide))
      have C0 : ∀ c : Int, 0 ≤ c → c < 48 → t (atI c) = if 24 * b ≤ c ∧ c < 24 * b + 24 then 0 else s (atI c) := fun c c0 c1 => by
        have := C c 0 c0 c1 (by decide) (by decide)
        simpa only [Int.add_zero] using this
      refine ⟨⟨fun c c0 c1 c2 g => ?_, hk.of (by rw [o 10 (by decide) (by decide) (by decide)]; exact Int.le_refl _) (fun x y g => Or.inl ?_), fun g => ?_⟩, hs.same h8 (fun x x0 x1 => o x (by omega) (by omega) (by omega)) (o 11 (by decide) (by decide) (by decide)), fun g => ?_⟩
      · rw [C0 c c0 c1] at g
        rw [ew, o 2 (by decide) (by decide) (by decide), o 248 (by decide) (by decide) (by decide)]
        by_cases d : 24 * b ≤ c ∧ c < 24 * b + 24
        · rw [if_pos d] at g; exact absurd g (by decide)
        · rw [if_neg d] at g; exact hp c c0 c1 c2 g
      · rcases g with ⟨c, ⟨c0, c1⟩, l, ga, gb⟩ | ⟨g1, g2, g3⟩
        · have z0 := C0 c c0 c1
          rw [C c 3 c0 c1 (by decide) (by decide)] at ga
          rw [C c 1 c0 c1 (by decide) (by decide)] at gb
          by_cases d : 24 * b ≤ c ∧ c < 24 * b + 24
          · rw [if_pos d] at z0
            unfold LV at l
            rw [z0] at l
            rcases l with l | l
            · exact absurd l (by decide)
            · exact absurd rfl l.2
          · rw [if_neg d] at ga gb z0
            refine Or.inl ⟨c, ⟨c0, c1⟩, ?_, ga, gb⟩
            unfold LV at l ⊢
            rw [z0] at l
            exact l
        · rw [o 252 (by decide) (by decide) (by decide)] at g2
          rw [o 249 (by decide) (by decide) (by decide)] at g3
          exact Or.inr ⟨by rw [← ew]; exact g1, g2, g3⟩
      · rw [o 253 (by decide) (by decide) (by decide)] at g
        rw [o 254 (by decide) (by decide) (by decide), o 2 (by decide) (by decide) (by decide), o 248 (by decide) (by decide) (by decide), C0 _ bb.1 bb.2, if_neg (by
          have p1 := hM.2.2.2.1
          have p0 := hM.z 248 (by unfold xc; omega)
          have hl := lin_b p0 (by omega)
          have := hM.2.1
          omega)]
        exact hw g
      · rw [o 1 (by decide) (by decide) (by decide)] at g
        exact absurd (Or.inl g) n1
  · have e : erF s b = (-1, s) := by unfold erF; rw [if_pos hb]
    rw [e]; exact ⟨⟨hp, hk, hw⟩, hs, ho⟩
theorem XI.lo {s : Int → Int} (h : XI s) (hM : MI s) {x v : Int} (h0 : 12 ≤ x) (h1 : x < 24) : XI (up1 s x v) := by
  have h8 := hM.2.2.1
  have o : ∀ y : Int, ¬ y = x → up1 s x v y = s y := fun y hy => up1_n _ _ hy
  refine ⟨h.1.same hM (fun x x0 x1 => o x (by omega)) (o 10 (by omega)) (o 2 (by omega)) (fun x x0 x1 => o x (by omega)), h.2.1.same h8 (fun x x0 x1 => o x (by omega)) (o 11 (by omega)), fun g => ?_⟩
  rw [o 1 (by omega)] at g
  rw [iw_cong (o 253 (by omega)) (o 254 (by omega)), o 11 (by omega)]
  exact h.2.2 g
theorem XI.sl {s : Int → Int} (h : XI s) (hM : MI s) (w t : Int) : XI (slF s w t).2 := by
  unfold slF
  split
  · next c => exact h.lo hM (by omega) (by omega)
  · exact h
theorem XI.se {s : Int → Int} (h : XI s) (hM : MI s) (w v : Int) : XI (seF s w v).2 := by
  by_cases c : 0 ≤ w ∧ w ≤ 3 ∧ (if w = 2 then 0 else 1) ≤ v ∧ v ≤ moF w
  · have e : seF s w v = (s (20 + w), up1 s (20 + w) v) := by unfold seF; rw [if_pos c]
    rw [e]; exact h.lo hM (by omega) (by omega)
  · have e : seF s w v = (-1, s) := by unfold seF; rw [if_neg c]
    rw [e]; exact h
theorem XI.of2 {s : Int → Int} (h : XI s) (hM : MI s) : XI (ofF s).2 := by
  obtain ⟨⟨hp, hk, hw⟩, hs, ho⟩ := h
  unfold ofF
  split
  · exact ⟨⟨hp, hk, hw⟩, hs, ho⟩
  · dsimp only
    generalize brS s 5 + onA (lsF s) 12 = v
    have hb := hM.2.1
    have p1 := hM.2.2.2.1
    have p0 := hM.z 248 (by unfold xc; omega)
    have hl := lin_b p0 (by omega)
    have he := ear_b hl.1 hl.2
    have w0 : iwF (up1 (brS s) 5 v) = 0 := by unfold iwF; rw [up1_n _ _ (by decide), up1_n _ _ (by decide), brS_n hM (by omega), brS_n hM (by omega)]; rfl
    have e10 : up1 (brS s) 5 v 10 = s 10 := by rw [up1_n _ _ (by decide)]; exact brS_x hM (by decide) (by decide) (by decide) (by decide) (by decide)
    have e11 : up1 (brS s) 5 v 11 = 0 := by rw [up1_n _ _ (by decide)]; exact brS_11 hM
    have K : ∀ c : Int, 0 ≤ c → c < 48 → (up1 (brS s) 5 v (atI c) = 0) ∨ (c % 24 < 16 ∧ up1 (brS s) 5 v (atI c) = 3) ∨ (¬ (iwF s = 1 ∧ c = 24 * s 2 + s 248) ∧ ∀ q : Int, 0 ≤ q → q < 4 → up1 (brS s) 5 v (atI c + q) = s (atI c + q)) := by
      intro c c0 c1
      have b := atI_b c0 c1
      rcases iw_b s with q | q
      · refine Or.inr (Or.inr ⟨fun g => by omega, fun x x0 x1 => ?_⟩)
        rw [up1_n _ _ (by omega)]
        exact brS_o hM q (by omega) (by omega)
      · have e := fun x (x0 : 0 ≤ x) (x1 : x < 4) => brS_c hM q c0 c1 (q := x) x0 x1
        have z0 := e 0 (by decide) (by decide)
        simp only [Int.add_zero] at z0
        rw [up1_n _ _ (by omega)]
        by_cases d1 : (lat (s 248) = 1 ∧ s 255 = 1) ∧ c = 24 * s 2 + ear (lin (s 248))
        · rw [if_pos d1, if_pos trivial] at z0
          exact Or.inr (Or.inl ⟨by omega, z0⟩)
        · rw [if_neg d1] at z0
          by_cases d2 : 0 < s 253 ∧ c = 24 * s 2 + (16 + lin (s 248))
          · rw [if_pos d2] at z0; exact Or.inl z0
          · rw [if_neg d2] at z0
            by_cases d3 : c = 24 * s 2 + s 248
            · rw [if_pos d3, if_pos trivial] at z0; exact Or.inr (Or.inl ⟨by omega, z0⟩)
            · refine Or.inr (Or.inr ⟨fun g => d3 g.2, fun x x0 x1 => ?_⟩)
              rw [up1_n _ _ (by omega), e x x0 x1, if_neg d1, if_neg d2, if_neg d3]
    generalize up1 (brS s) 5 v = t at w0 e10 e11 K ⊢
    refine ⟨⟨fun c c0 c1 c2 g => ?_, hk.of (by omega) (fun x y g => Or.inl ?_), fun g => ?_⟩, ⟨fun i i0 i1 => by omega, fun i i0 i1 => by omega⟩, fun _ => ⟨w0, e11⟩⟩
    · rcases K c c0 c1 with k | ⟨-, k⟩ | ⟨k, k2⟩
      · omega
      · omega
      · have k3 := k2 0 (by decide) (by decide)
        simp only [Int.add_zero] at k3
        rw [k3] at g
        exact absurd (hp c c0 c1 c2 g) k
    · rcases g with ⟨c, ⟨c0, c1⟩, l, ga, gb⟩ | ⟨g1, g2, g3⟩
      · unfold LV at l
        rcases K c c0 c1 with k | ⟨k0, k⟩ | ⟨k, k2⟩
        · exfalso
          rw [k] at l
          rcases l with l | l
          · exact absurd l (by decide)
          · exact absurd rfl l.2
        · exfalso
          rw [k] at l
          rcases l with l | l
          · exact absurd l (by decide)
          · omega
        · have k3 := k2 0 (by decide) (by decide)
          simp only [Int.add_zero] at k3
          rw [k3] at l
          rw [k2 3 (by decide) (by decide)] at ga
          rw [k2 1 (by decide) (by decide)] at gb
          exact Or.inl ⟨c, ⟨c0, c1⟩, l, ga, gb⟩
      · omega
    · unfold iwF at w0
      rw [if_pos (Or.inr g)] at w0
      exact absurd w0 (by decide)
theorem XI.ca {s : Int → Int} (h : XI s) (hM : MI s) (hL : ML s) (x v1 v2 : Int) : XI (caF s x v1 v2).2 := by
  unfold caF
  split
  · exact h.as hM _ _ _
  · split
    · exact h.as hM _ _ _
    · split
      · exact h.lt hM hL _
      · split
        · exact h.of2 hM
        · split
          · exact h.op hM
          · split
            · exact h.ch hM
            · split
              · exact h.cl hM _
              · exact h.er hM _
