/-! what stays true of the twin's row from call to call -/
def OKS (s : Int → Int) (n : Int) : Prop := MI s ∧ s 0 ≤ 9000 ∧ s 6 ≤ n ∧ s 7 ≤ n ∧ ML s
theorem OKS.keep {s t : Int → Int} {n : Int} (h : OKS s n) (m : MI t) (e : ∀ x, x = 0 ∨ x = 6 ∨ x = 7 ∨ x = 253 ∨ x = 254 → t x = s x) : OKS t n :=
  ⟨m, by rw [e 0 (by omega)]; exact h.2.1, by rw [e 6 (by omega)]; exact h.2.2.1, by rw [e 7 (by omega)]; exact h.2.2.2.1, by rw [e 253 (by omega)]; exact h.2.2.2.2.1, by rw [e 254 (by omega)]; exact h.2.2.2.2.2⟩
theorem OKS.le {s : Int → Int} {n m : Int} (h : OKS s n) (hn : n ≤ m) : OKS s m := ⟨h.1, h.2.1, by have := h.2.2.1; omega, by have := h.2.2.2.1; omega, h.2.2.2.2⟩
theorem MI.cong {s t : Int → Int} (h : MI s) (e : ∀ x, 0 ≤ x → x < 256 → t x = s x) : MI t := by
  obtain ⟨a1, a2, a3, a4, a5, a6, a7, a8, a9, a10, a11, a12⟩ := h
  have e0 := e 0 (by omega) (by omega)
  have e1 := e 1 (by omega) (by omega)
  have e2 := e 2 (by omega) (by omega)
  have e6 := e 6 (by omega) (by omega)
  have e7 := e 7 (by omega) (by omega)
  have e10 := e 10 (by omega) (by omega)
  have e11 := e 11 (by omega) (by omega)
  have e20 := e 20 (by omega) (by omega)
  have e21 := e 21 (by omega) (by omega)
  have e23 := e 23 (by omega) (by omega)
  have e248 := e 248 (by omega) (by omega)
  refine ⟨fun x hx => ?_, by omega, by omega, by omega, by omega, by omega, by omega, by omega, by omega, fun x h1 h2 => ?_, by omega, by omega⟩
  · rw [e x (by unfold xc at hx; omega) (by unfold xc at hx; omega)]; exact a1 x hx
  · rw [e x (by omega) (by omega)]; exact a10 x h1 h2
theorem OKS.cong {s t : Int → Int} {n : Int} (h : OKS s n) (e : ∀ x, 0 ≤ x → x < 256 → t x = s x) : OKS t n := h.keep (h.1.cong e) (fun x hx => e x (by omega) (by omega))
theorem OKS.as {s : Int → Int} {n : Int} (h : OKS s n) (k v u : Int) : OKS (asF s k v u).2 n := by
  unfold asF
  split
  · exact h
  · next c =>
    split
    · exact h
    · split
      · exact h
      · next c3 =>
        have h8 := h.1.2.2.1
        have h7 : s 11 ≤ 7 := by omega
        have hk : 0 ≤ k ∧ k ≤ BIG := by unfold BIG; omega
        have hv : 0 ≤ v ∧ v ≤ BIG := by unfold BIG; omega
        have hu : 0 ≤ 2 - u ∧ 2 - u ≤ BIG := by unfold BIG; omega
        exact h.keep (cmF_M h.1 h7 hk hv hu ⟨by omega, by unfold BIG; omega⟩) (fun x hx => cmF_x h.1 h7 _ _ _ _ (by omega) (by omega))
theorem bgF_x {s : Int → Int} (h : MI s) {p : Int} (h2 : 0 ≤ p) (h3 : p ≤ 15) (h4 : 0 < s 11) {x : Int} (h10 : x ≠ 10) (h11 : x ≠ 11) (hx : x < 24) : bgF s p x = s x := by
  have hb := h.2.1
  have hl8 := lin_b h2 (by omega)
  have he := ear_b hl8.1 hl8.2
  have h8 := h.2.2.1
  rw [bgF_at h h2 h3 h4, if_neg h11, if_neg (by omega), if_neg (by omega), bgB_at h h2 h3]
  repeat' (first | rw [if_neg (by omega)])
theorem tkA_x {p : Int} (hp : 0 ≤ p) {x : Int} (h10 : x ≠ 10) (h11 : x ≠ 11) (hx : x < 24) : ∀ (d : Nat) (s : Int → Int), MI s → (s 10 + 1 ≤ s 0 ∨ iwF s = 1) → tkA p d s x = s x := by
  intro d
  induction d with
  | zero => intro s _ _; rfl
  | succ d ih =>
    intro s h h1
    unfold tkA
    split
    · next c =>
      have h1 : s 10 + 1 ≤ s 0 := by
        rcases h1 with g | g
        · exact g
        · rw [c.2.2] at g; exact absurd g (by decide)
      by_cases hp1 : psF s = 1
      · rw [if_pos hp1, ih (gfF s) (gfF_M h c.2.1) (Or.inl (by rw [gfF_x c.2.1 (by omega) (by omega), gfF_x c.2.1 (by omega) (by omega)]; exact h1)), gfF_x c.2.1 h11 (by omega)]
      · rw [if_neg hp1, ih (bgF s p) (bgF_M h h1 hp (by omega) c.2.1) (Or.inr (iw_1 (bgF_254 h hp (by omega) c.2.1))), bgF_x h hp (by omega) c.2.1 h10 h11 hx]
    · rfl
theorem ti2_x {s : Int → Int} (h : MI s) {x : Int} (h3 : x ≠ 3) (h9 : x ≠ 9) (hx : x < 24) : ti2 s x = s x := by
  have hb := h.2.1
  have hp := h.2.2.2.1
  have h0 := h.z 248 (by unfold xc; omega)
  have hl8 := lin_b h0 (by omega)
  unfold ti2
  dsimp only
  split
  · split
    · have e2 : up1 s 253 (s 253 - 1) 2 = s 2 := up1_n _ _ (by omega)
      have e3 : up1 s 253 (s 253 - 1) 248 = s 248 := up1_n _ _ (by omega)
      rw [e2, e3, up1_n _ _ h9, up1_n _ _ (by omega), up1_n _ _ (by omega)]
    · rw [up1_n _ _ (by omega)]
  · split
    · split
      · have m2 : MI (up1 (up1 s 254 (s 254 - 1)) 255 1) := (h.far (k := 254) (by omega) (by omega) (by omega) (by have := h.b 254 (by unfold xc; omega); omega)).far (by omega) (by omega) (by omega) (by unfold BIG; omega)
        have a4 : up1 (up1 s 254 (s 254 - 1)) 255 1 2 = s 2 := by rw [up1_n _ _ (by omega), up1_n _ _ (by omega)]
        have a5 : up1 (up1 s 254 (s 254 - 1)) 255 1 248 = s 248 := by rw [up1_n _ _ (by omega), up1_n _ _ (by omega)]
        simp only [enF, clN]
        rw [zA_at, if_neg (by omega), up1_n _ _ h3]
        unfold en2
        rw [a4, a5]
        split
        · unfold clB; rw [zA_at, if_neg (by omega), en1_x m2 (by omega), up1_n _ _ (by omega), up1_n _ _ (by omega)]
        · rw [en1_x m2 (by omega), up1_n _ _ (by omega), up1_n _ _ (by omega)]
      · rw [up1_n _ _ (by omega), up1_n _ _ (by omega)]
    · rfl
theorem tiF_x {s : Int → Int} (h : MI s) (hb : s 0 + 1 ≤ BIG) {x : Int} (h0 : x ≠ 0) (h3 : x ≠ 3) (h9 : x ≠ 9) (h10 : x ≠ 10) (h11 : x ≠ 11) (hx : x < 24) : tiF s x = s x := by
  have m := h.time hb
  have h10' := h.2.2.2.2.2.2.1
  unfold tiF
  rw [ti2_x (ti1_M h hb).1 h3 h9 hx]
  unfold ti1
  try dsimp only
  split
  · unfold tkF
    rw [tkA_x (nxt_b _).1 h10 h11 hx 9 _ m (Or.inl (by rw [up1_n _ _ (by omega), up1_s]; omega)), up1_n _ _ h0]
  · rw [up1_n _ _ h0]
theorem tiF_L {s : Int → Int} (h : MI s) (hl : ML s) (hb : s 0 + 1 ≤ BIG) : ML (tiF s) := by
  have m := h.time hb
  have h10 := h.2.2.2.2.2.2.1
  have hl2 : ML (up1 s 0 (s 0 + 1)) := ⟨by rw [up1_n _ _ (by omega)]; exact hl.1, by rw [up1_n _ _ (by omega)]; exact hl.2⟩
  have M1 := (ti1_M h hb).1
  refine (ti2_L M1 ?_).1
  unfold ti1
  try dsimp only
  split
  · exact (tkA_L (nxt_b _).1 9 _ m hl2 (Or.inl (by rw [up1_n _ _ (by omega), up1_s]; omega))).1
  · exact hl2
theorem goA_L {s : Int → Int} (h : MI s) (hl : ML s) : ∀ k : Nat, s 0 + k ≤ BIG → ML (goA s k) ∧ ∀ x, x ≠ 0 → x ≠ 3 → x ≠ 9 → x ≠ 10 → x ≠ 11 → x < 24 → goA s k x = s x := by
  intro k
  induction k with
  | zero => intro _; exact ⟨hl, fun _ _ _ _ _ _ _ => rfl⟩
  | succ k ih =>
    intro hk
    have g := ih (by omega)
    have gm := goA_M h k (by omega)
    exact ⟨tiF_L gm.1 g.1 (by rw [gm.2]; omega), fun x h0 h3 h9 h10 h11 hx => by
      show tiF (goA s k) x = _
      rw [tiF_x gm.1 (by rw [gm.2]; omega) h0 h3 h9 h10 h11 hx, g.2 x h0 h3 h9 h10 h11 hx]⟩
theorem OKS.lt {s : Int → Int} {n : Int} (h : OKS s n) (m : Int) : OKS (ltF s m).2 n := by
  have z0 := h.1.z 0 (by unfold xc; omega)
  unfold ltF
  split
  · exact h
  · split
    · exact h
    · split
      · exact h
      · have hb : s 0 + (m.toNat : Int) ≤ BIG := by unfold BIG; omega
        have g := goA_M h.1 m.toNat hb
        have g2 := goA_L h.1 h.2.2.2.2 m.toNat hb
        refine ⟨g.1, ?_, ?_, ?_, g2.1⟩
        · show goA s m.toNat 0 ≤ 9000
          rw [g.2]; omega
        · show goA s m.toNat 6 ≤ n
          rw [g2.2 6 (by omega) (by omega) (by omega) (by omega) (by omega) (by omega)]; exact h.2.2.1
        · show goA s m.toNat 7 ≤ n
          rw [g2.2 7 (by omega) (by omega) (by omega) (by omega) (by omega) (by omega)]; exact h.2.2.2.1
theorem rcA_x {x : Int} (h11 : x ≠ 11) (hx : x < 216 ∨ 248 ≤ x) : ∀ (d : Nat) (s : Int → Int), MI s → rcA d s x = s x := by
  intro d
  induction d with
  | zero => intro s _; rfl
  | succ d ih =>
    intro s h
    unfold rcA
    split
    · next c =>
      rw [ih _ (gfF_M h c)]
      rcases hx with hx | hx
      · exact gfF_x c h11 hx
      · exact gfF_x2 c h.2.2.1 hx
    · rfl
theorem brS_x {s : Int → Int} (h : MI s) {x : Int} (h1 : x ≠ 1) (h4 : x ≠ 4) (h8 : x ≠ 8) (h11 : x ≠ 11) (hx : x < 24) : brS s x = s x := by
  unfold brS br5
  try dsimp only
  rw [up1_n _ _ h8, up1_n _ _ h1, rcA_x h11 (by omega) 9 _ (clN_M (br2_M (br1_M h)))]
  unfold clN
  rw [zA_at, if_neg (by omega), br2_x (br1_M h) (by omega), br1_x _ h4]
theorem brS_n {s : Int → Int} (h : MI s) {x : Int} (hx : 248 ≤ x ∧ x < 256) : brS s x = 0 := by
  unfold brS br5
  try dsimp only
  rw [up1_n _ _ (by omega), up1_n _ _ (by omega), rcA_x (by omega) (by omega) 9 _ (clN_M (br2_M (br1_M h)))]
  unfold clN
  rw [zA_at, if_pos (by omega)]
theorem OKS.of {s : Int → Int} {n : Int} (h : OKS s n) : OKS (ofF s).2 n := by
  unfold ofF
  split
  · exact h
  · have m := brS_M h.1
    refine ⟨m.cnt (by unfold xc; omega), ?_, ?_, ?_, ?_, ?_⟩
    · dsimp only
      rw [up1_n _ _ (by omega), brS_x h.1 (by omega) (by omega) (by omega) (by omega) (by omega)]; exact h.2.1
    · dsimp only
      rw [up1_n _ _ (by omega), brS_x h.1 (by omega) (by omega) (by omega) (by omega) (by omega)]; exact h.2.2.1
    · dsimp only
      rw [up1_n _ _ (by omega), brS_x h.1 (by omega) (by omega) (by omega) (by omega) (by omega)]; exact h.2.2.2.1
    · dsimp only
      rw [up1_n _ _ (by omega), brS_n h.1 (by omega)]; omega
    · dsimp only
      rw [up1_n _ _ (by omega), brS_n h.1 (by omega)]; omega
theorem opA_x {s : Int → Int} (h : MI s) {x : Int} (h11 : x ≠ 11) (hx : x < 216 ∨ 248 ≤ x) : ∀ k : Nat, k ≤ 48 → opA s k x = s x := by
  intro k
  induction k with
  | zero => intro _; rfl
  | succ k ih =>
    intro hk
    unfold opA
    split
    · next c =>
      unfold cpF
      rw [cmF_x (opA_M h k (by omega)) (by omega) _ _ _ _ hx h11, ih (by omega)]
    · exact ih (by omega)
theorem OKS.op {s : Int → Int} {n : Int} (h : OKS s n) : OKS (opF s).2 n := by
  unfold opF
  split
  · have m := h.1.on
    have g1 := opA_M m 48 (by omega)
    have g2 : ∀ x, x = 0 ∨ x = 6 ∨ x = 7 ∨ x = 253 ∨ x = 254 → opA (up1 s 1 0) 48 x = s x := fun x hx => by
      rw [opA_x m (by omega) (by omega) 48 (by omega), up1_n _ _ (by omega)]
    generalize opA (up1 s 1 0) 48 = q at g1 g2 ⊢
    exact h.keep g1 g2
  · exact h
theorem OKS.ch {s : Int → Int} {n : Int} (h : OKS s n) : OKS (chF s).2 n := by
  have hb := h.1.2.1
  unfold chF
  split
  · exact h
  · have m : MI (up1 s 2 (1 - s 2)) := h.1.up ⟨fun _ => ⟨by omega, by unfold BIG; omega⟩, fun _ => by omega, fun e => by omega, fun e => by omega, fun e => by omega, fun e => by omega, fun e => by omega, fun e => by omega, fun e => by omega, fun e => by omega, fun e1 e2 => by omega, fun e => by omega, fun e => by omega⟩
    exact h.keep m (fun x hx => up1_n _ _ (by omega))
theorem OKS.cl {s : Int → Int} {n : Int} (h : OKS s n) (b : Int) : OKS (clF s b).2 n := by
  unfold clF
  split
  · exact h
  · split
    · exact h
    · split
      · exact h
      · next c =>
        obtain ⟨g1, -, g3⟩ := clA_M h.1 (b := b) (by omega) (by omega) 24 (by omega)
        exact h.keep g1 (fun x hx => g3 x (by omega) (by omega))
theorem OKS.er {s : Int → Int} {n : Int} (h : OKS s n) (hn : n < 100000) (b : Int) : OKS (erF s b).2 (n + 1) := by
  unfold erF
  generalize (if s 1 = 1 ∨ b = s 2 then (0 : Int) else 1) = m0
  split
  · exact h.le (by omega)
  · split
    · exact h.le (by omega)
    · have hb : b = 0 ∨ b = 1 := by omega
      have h6 := h.2.2.1
      have h7 := h.2.2.2.1
      have m := er1_M h.1 hb
      have z6 := h.1.z 6 (by unfold xc; omega)
      have z7 := h.1.z 7 (by unfold xc; omega)
      have e6 : er1 s b (6 + b) = s (6 + b) := er1_x s hb (by omega)
      have e : s (6 + b) ≤ n ∧ 0 ≤ s (6 + b) := by rcases hb with rfl | rfl <;> exact ⟨by assumption, by assumption⟩
      have m2 : MI (up1 (er1 s b) (6 + b) (er1 s b (6 + b) + 1)) := m.up ⟨fun _ => ⟨by omega, by unfold BIG; omega⟩, fun e => by omega, fun e => by omega, fun e => by omega, fun e => by omega, fun e => by omega, fun e => by omega, fun e => by omega, fun e => by omega, fun e => by omega, fun e1 e2 => by omega, fun e => by omega, fun e => by omega⟩
      refine ⟨m2, ?_, ?_, ?_, ?_, ?_⟩
      · dsimp only
        rw [up1_n _ _ (by omega), er1_x s hb (by omega)]; exact h.2.1
      · dsimp only
        unfold up1
        split
        · omega
        · rw [er1_x s hb (by omega)]; omega
      · dsimp only
        unfold up1
        split
        · omega
        · rw [er1_x s hb (by omega)]; omega
      · dsimp only
        rw [up1_n _ _ (by omega), er1_x s hb (by omega)]; exact h.2.2.2.2.1
      · dsimp only
        rw [up1_n _ _ (by omega), er1_x s hb (by omega)]; exact h.2.2.2.2.2
theorem OKS.sl {s : Int → Int} {n : Int} (h : OKS s n) (w t : Int) : OKS (slF s w t).2 n := by
  unfold slF
  split
  · next c =>
    refine h.keep (h.1.up ⟨fun _ => ⟨by omega, by unfold BIG; omega⟩, fun e => by omega, fun e => by omega, fun e => by omega, fun e => by omega, fun e => by omega, fun e => by omega, fun e => by omega, fun e => by omega, fun e => by omega, fun e1 e2 => by omega, fun e => by omega, fun e => by omega⟩) (fun x hx => up1_n _ _ (by omega))
  · exact h
theorem OKS.se {s : Int → Int} {n : Int} (h : OKS s n) (w v : Int) : OKS (seF s w v).2 n := by
  by_cases c : 0 ≤ w ∧ w ≤ 3 ∧ (if w = 2 then 0 else 1) ≤ v ∧ v ≤ moF w
  · have e : seF s w v = (s (20 + w), up1 s (20 + w) v) := by unfold seF; rw [if_pos c]
    rw [e]
    obtain ⟨c1, c2, c3, c4⟩ := c
    have hm : moF w ≤ 99 := by unfold moF; (repeat' split) <;> omega
    have h0 : 0 ≤ v := by split at c3 <;> omega
    have h1 : w ≠ 2 → 1 ≤ v := fun q => by rw [if_neg q] at c3; exact c3
    refine h.keep (h.1.up ⟨fun _ => ⟨h0, by unfold BIG; omega⟩, fun e => by omega, fun e => by omega, fun e => by omega, fun e => h1 (by omega), fun e => by omega, fun e => by omega, fun e => by omega, fun e => by omega, fun e => by omega, fun e1 e2 => by omega, fun e => h1 (by omega), fun e => h1 (by omega)⟩) (fun x hx => up1_n _ _ (by omega))
  · have e : seF s w v = (-1, s) := by unfold seF; rw [if_neg c]
    rw [e]; exact h
/-- the acknowledged ones grow by one a tick at most -/
theorem tkA_3 (p : Int) (hp : 0 ≤ p) (d : Nat) (s : Int → Int) (h : MI s) (h1 : s 10 + 1 ≤ s 0 ∨ iwF s = 1) : tkA p d s 3 = s 3 := tkA_x hp (by omega) (by omega) (by omega) d s h h1
theorem ti2_3 {s : Int → Int} (h : MI s) : s 3 ≤ ti2 s 3 ∧ ti2 s 3 ≤ s 3 + 1 := by
  have hb := h.2.1
  have hp := h.2.2.2.1
  have h0 := h.z 248 (by unfold xc; omega)
  have hl8 := lin_b h0 (by omega)
  unfold ti2
  dsimp only
  split
  · split
    · have e2 : up1 s 253 (s 253 - 1) 2 = s 2 := up1_n _ _ (by omega)
      have e3 : up1 s 253 (s 253 - 1) 248 = s 248 := up1_n _ _ (by omega)
      rw [e2, e3, up1_n _ _ (by omega), up1_n _ _ (by omega), up1_n _ _ (by omega)]; omega
    · rw [up1_n _ _ (by omega)]; omega
  · split
    · split
      · have m2 : MI (up1 (up1 s 254 (s 254 - 1)) 255 1) := (h.far (k := 254) (by omega) (by omega) (by omega) (by have := h.b 254 (by unfold xc; omega); omega)).far (by omega) (by omega) (by omega) (by unfold BIG; omega)
        have a4 : up1 (up1 s 254 (s 254 - 1)) 255 1 2 = s 2 := by rw [up1_n _ _ (by omega), up1_n _ _ (by omega)]
        have a5 : up1 (up1 s 254 (s 254 - 1)) 255 1 248 = s 248 := by rw [up1_n _ _ (by omega), up1_n _ _ (by omega)]
        have e3 : en2 (en1 (up1 (up1 s 254 (s 254 - 1)) 255 1)) (up1 (up1 s 254 (s 254 - 1)) 255 1 2) (up1 (up1 s 254 (s 254 - 1)) 255 1 248) 3 = s 3 := by
          unfold en2
          rw [a4, a5]
          split
          · unfold clB; rw [zA_at, if_neg (by omega), en1_x m2 (by omega), up1_n _ _ (by omega), up1_n _ _ (by omega)]
          · rw [en1_x m2 (by omega), up1_n _ _ (by omega), up1_n _ _ (by omega)]
        simp only [enF, clN]
        rw [zA_at, if_neg (by omega), up1_s, e3]
        split <;> omega
      · rw [up1_n _ _ (by omega), up1_n _ _ (by omega)]; omega
    · omega
theorem goA_3 {s : Int → Int} (h : MI s) : ∀ k : Nat, s 0 + k ≤ BIG → s 3 ≤ goA s k 3 ∧ goA s k 3 ≤ s 3 + k := by
  intro k
  induction k with
  | zero => intro _; exact ⟨Int.le_refl _, by show s 3 ≤ s 3 + ((0 : Nat) : Int); omega⟩
  | succ k ih =>
    intro hk
    have g := ih (by omega)
    have gm := goA_M h k (by omega)
    have hb : goA s k 0 + 1 ≤ BIG := by rw [gm.2]; omega
    have m := gm.1.time hb
    have h10 := gm.1.2.2.2.2.2.2.1
    have e : ti1 (goA s k) 3 = goA s k 3 := by
      unfold ti1
      try dsimp only
      split
      · unfold tkF
        rw [tkA_3 _ (nxt_b _).1 9 _ m (Or.inl (by rw [up1_n _ _ (by omega), up1_s]; omega)), up1_n _ _ (by omega)]
      · rw [up1_n _ _ (by omega)]
    have g2 := ti2_3 (ti1_M gm.1 hb).1
    rw [e] at g2
    show s 3 ≤ ti2 (ti1 (goA s k)) 3 ∧ ti2 (ti1 (goA s k)) 3 ≤ _
    omega
theorem r_lt {s : Int → Int} {n : Int} (h : OKS s n) (m : Int) : InR (ltF s m).1 := by
  have z0 := h.1.z 0 (by unfold xc; omega)
  unfold ltF
  refine r_ite (fun _ => (⟨by decide, by decide⟩ : InR (-1))) (fun h1 => r_ite (fun _ => (⟨by decide, by decide⟩ : InR (-2))) (fun _ => r_ite (fun _ => (⟨by decide, by decide⟩ : InR (-3))) (fun h3 => ?_)))
  have g := goA_3 h.1 m.toNat (by unfold BIG; omega)
  exact (⟨by omega, by omega⟩ : InR (goA s m.toNat 3 - s 3))
