/-! .. what they keep, and what each entry is behind begin1 and ends -/
theorem ediv_b {a d : Int} (h0 : 0 ≤ a) (h1 : 1 ≤ d) : 0 ≤ a / d ∧ a / d ≤ a := ⟨Int.ediv_nonneg h0 (by omega), Int.ediv_le_self d h0⟩
theorem bg1_M {s : Int → Int} (h : MI s) {p mk : Int} (h1 : s 10 + 1 ≤ s 0) (h2 : 0 ≤ p) (h3 : p ≤ 15) : MI (bg1 s p mk) := by
  have hb := h.b 0 (by unfold xc; omega)
  have hz := h.z 10 (by unfold xc; omega)
  have m1 : MI (up1 s 10 (s 10 + 1)) := h.up ⟨fun _ => ⟨by omega, by omega⟩, fun e => by omega, fun e => by omega, fun e => by omega, fun e => by omega, fun e => by omega, fun e => by omega, fun e => by omega, fun e => by omega, fun e => by omega, fun e1 e2 => by omega, fun e => by omega, fun e => by omega⟩
  have m2 : MI (up1 (up1 s 10 (s 10 + 1)) 248 p) := m1.up ⟨fun _ => ⟨by omega, by unfold BIG; omega⟩, fun e => by omega, fun e => by omega, fun e => by omega, fun e => by omega, fun e => by omega, fun e => by omega, fun e => by omega, fun e => by omega, fun e => by omega, fun e1 e2 => by omega, fun e => by omega, fun e => by omega⟩
  have m3 := m2.far (k := 249) (by omega) (by omega) (m2.z 216 (by unfold xc; omega)) (m2.b 216 (by unfold xc; omega))
  have m4 := m3.far (k := 250) (by omega) (by omega) (m3.z 217 (by unfold xc; omega)) (m3.b 217 (by unfold xc; omega))
  have m5 := m4.far (k := 251) (by omega) (by omega) (m4.z 218 (by unfold xc; omega)) (m4.b 218 (by unfold xc; omega))
  have m6 := m5.far (k := 252) (by omega) (by omega) (m5.z 10 (by unfold xc; omega)) (m5.b 10 (by unfold xc; omega))
  exact m6.far (k := 253) (by omega) (by omega) (by split <;> omega) (by unfold BIG; split <;> omega)
theorem bg2_M {t : Int → Int} (h : MI t) {b p lt : Int} (hb : b = 0 ∨ b = 1) (h2 : 0 ≤ p) (h3 : p ≤ 15) (hl : lt = 0 ∨ lt = 1) : MI (bg2 t b p lt) := by
  have hl8 := lin_b h2 (by omega)
  have e1 := h.z (20 + lt) (by unfold xc; omega)
  have e2 := h.2.2.2.2.2.2.2.2.2.1 (20 + lt) (by omega) (by omega)
  have e3 := h.z (12 + lin p) (by unfold xc; omega)
  have e4 := h.2.2.2.2.2.2.2.2.2.1 (12 + lin p) (by omega) (by omega)
  have e5 := h.z (6 + b) (by unfold xc; omega)
  have e6 : t (6 + b) ≤ 100000 := by
    rcases hb with rfl | rfl
    · exact h.2.2.2.2.2.2.2.1
    · exact h.2.2.2.2.2.2.2.2.1
  have e7 := ediv_b e5 h.2.2.2.2.1
  have m1 := h.far (k := 254) (v := t (20 + lt) + t (12 + lin p) + t (6 + b) / t 23) (by omega) (by omega) (by omega) (by unfold BIG; omega)
  have m2 := m1.far (k := 255) (v := 0) (by omega) (by omega) (by omega) (by unfold BIG; omega)
  exact m2.far (by omega) (by omega) (by omega) (by unfold BIG; omega)
theorem cp3_M {s : Int → Int} (h : MI s) {a e : Int} (n : Nat) (hn : n ≤ 3) (ha : 24 ≤ a) (ha2 : a ≤ 240) (he : 24 ≤ e) (he2 : e ≤ 240) : MI (cp3 s a e n) := by
  induction n with
  | zero => exact h
  | succ n ih =>
    have g := ih (by omega)
    exact g.far (by omega) (by omega) (g.z _ (by unfold xc; omega)) (g.b _ (by unfold xc; omega))
theorem bg3_M {t : Int → Int} (h : MI t) {b p mk : Int} (hb : b = 0 ∨ b = 1) (h2 : 0 ≤ p) (h3 : p ≤ 15) : MI (bg3 t b p mk) := by
  have hl8 := lin_b h2 (by omega)
  have he := ear_b hl8.1 hl8.2
  unfold bg3
  split
  · exact cp3_M (h.far (by omega) (by omega) (by omega) (by unfold BIG; omega)) 3 (by omega) (by omega) (by omega) (by omega) (by omega)
  · exact h
theorem cp3_at (s : Int → Int) (a e : Int) (hd : e + 3 < a ∨ a + 3 < e) : ∀ i : Nat, i ≤ 3 → ∀ x, cp3 s a e i x = if a < x ∧ x ≤ a + i then s (x - a + e) else s x := by
  intro i
  induction i with
  | zero => intro _ x; rw [if_neg (by omega)]; rfl
  | succ i ih =>
    intro hi x
    unfold cp3 up1
    by_cases h : x = a + ((i : Int) + 1)
    · rw [if_pos h, if_pos (by omega), ih (by omega), if_neg (by omega)]
      congr 1; omega
    · rw [if_neg h, ih (by omega)]
      by_cases e2 : a < x ∧ x ≤ a + i
      · rw [if_pos e2, if_pos (by omega)]
      · rw [if_neg e2, if_neg (by omega)]
def bgB (s : Int → Int) (p : Int) : Int → Int := bg3 (bg2 (bg1 s p (mkF s p)) (s 2) p (lat p)) (s 2) p (mkF s p)
theorem bg1_at (s : Int → Int) (p mk x : Int) : bg1 s p mk x = if x = 253 then (if mk = 1 then 2 else 0) else if x = 252 then s 10 + 1 else if x = 251 then s 218 else if x = 250 then s 217 else if x = 249 then s 216 else if x = 248 then p else if x = 10 then s 10 + 1 else s x := by
  simp [bg1, up1]
theorem bg2_at (t : Int → Int) (b p lt x : Int) (hp : 0 ≤ 16 * b + p) (hp2 : 16 * b + p < 32) : bg2 t b p lt x = if x = 24 + 4 * (16 * b + p) then 1 else if x = 255 then 0 else if x = 254 then t (20 + lt) + t (12 + lin p) + t (6 + b) / t 23 else t x := by
  simp only [bg2, up1]
theorem bgB_at {s : Int → Int} (h : MI s) {p : Int} (h2 : 0 ≤ p) (h3 : p ≤ 15) (x : Int) : bgB s p x =
    if mkF s p = 1 ∧ 152 + 4 * (8 * s 2 + lin p) ≤ x ∧ x < 152 + 4 * (8 * s 2 + lin p) + 4 then (if x = 152 + 4 * (8 * s 2 + lin p) then 1 else s (x - (152 + 4 * (8 * s 2 + lin p)) + (24 + 4 * (16 * s 2 + ear (lin p)))))
    else if x = 24 + 4 * (16 * s 2 + p) then 1 else if x = 255 then 0 else if x = 254 then s (20 + lat p) + s (12 + lin p) + s (6 + s 2) / s 23
    else if x = 253 then (if mkF s p = 1 then 2 else 0) else if x = 252 then s 10 + 1 else if x = 251 then s 218 else if x = 250 then s 217 else if x = 249 then s 216 else if x = 248 then p else if x = 10 then s 10 + 1 else s x := by
  have hb := h.2.1
  have hl8 := lin_b h2 (by omega)
  have he := ear_b hl8.1 hl8.2
  have hlt := lat_b p
  have r1 : ∀ x, 11 ≤ x → x < 248 → bg1 s p (mkF s p) x = s x := fun x a b => by
    rw [bg1_at]
    rw [if_neg (by omega), if_neg (by omega), if_neg (by omega), if_neg (by omega), if_neg (by omega), if_neg (by omega), if_neg (by omega)]
  have r2 : bg1 s p (mkF s p) (6 + s 2) = s (6 + s 2) := by
    rw [bg1_at]
    rw [if_neg (by omega), if_neg (by omega), if_neg (by omega), if_neg (by omega), if_neg (by omega), if_neg (by omega), if_neg (by omega)]
  unfold bgB bg3
  by_cases hm : mkF s p = 1
  · rw [if_pos hm, cp3_at _ _ _ (by omega) 3 (by omega)]
    by_cases c1 : 152 + 4 * (8 * s 2 + lin p) < x ∧ x ≤ 152 + 4 * (8 * s 2 + lin p) + ((3 : Nat) : Int)
    · rw [if_pos c1, if_pos ⟨hm, by omega, by omega⟩, if_neg (by omega)]
      unfold up1
      rw [if_neg (by omega), bg2_at _ _ _ _ _ (by omega) (by omega), if_neg (by omega), if_neg (by omega), if_neg (by omega), r1 _ (by omega) (by omega)]
    · rw [if_neg c1]
      unfold up1
      by_cases c2 : x = 152 + 4 * (8 * s 2 + lin p)
      · rw [if_pos c2, if_pos ⟨hm, by omega, by omega⟩, if_pos c2]
      · rw [if_neg c2, if_neg (by omega), bg2_at _ _ _ _ _ (by omega) (by omega), r1 _ (by omega) (by omega), r1 (12 + lin p) (by omega) (by omega), r1 23 (by omega) (by omega), r2, bg1_at]
  · rw [if_neg hm, if_neg (by omega), bg2_at _ _ _ _ _ (by omega) (by omega), r1 _ (by omega) (by omega), r1 (12 + lin p) (by omega) (by omega), r1 23 (by omega) (by omega), r2, bg1_at]
theorem bgB_M {s : Int → Int} (h : MI s) {p : Int} (h1 : s 10 + 1 ≤ s 0) (h2 : 0 ≤ p) (h3 : p ≤ 15) : MI (bgB s p) :=
  bg3_M (bg2_M (bg1_M h h1 h2 h3) h.2.1 h2 h3 (lat_b p)) h.2.1 h2 h3
theorem bgF_e (s : Int → Int) (p : Int) : bgF s p = gfF (bgB s p) := rfl
theorem bgB_11 {s : Int → Int} (h : MI s) {p : Int} (h2 : 0 ≤ p) (h3 : p ≤ 15) : bgB s p 11 = s 11 := by
  have hb := h.2.1
  have hl8 := lin_b h2 (by omega)
  rw [bgB_at h h2 h3]
  simp only [if_neg (show ¬ (mkF s p = 1 ∧ 152 + 4 * (8 * s 2 + lin p) ≤ 11 ∧ (11 : Int) < 152 + 4 * (8 * s 2 + lin p) + 4) by omega), if_neg (show ¬ (11 : Int) = 24 + 4 * (16 * s 2 + p) by omega)]
  simp
theorem bgF_M {s : Int → Int} (h : MI s) {p : Int} (h1 : s 10 + 1 ≤ s 0) (h2 : 0 ≤ p) (h3 : p ≤ 15) (h4 : 0 < s 11) : MI (bgF s p) := by
  rw [bgF_e]
  exact gfF_M (bgB_M h h1 h2 h3) (by rw [bgB_11 h h2 h3]; exact h4)
theorem bgF_at {s : Int → Int} (h : MI s) {p : Int} (h2 : 0 ≤ p) (h3 : p ≤ 15) (h4 : 0 < s 11) (x : Int) : bgF s p x = if x = 11 then s 11 - 1 else if 216 ≤ x ∧ x < 216 + 4 * (s 11 - 1) then s (x + 4) else if 216 + 4 * (s 11 - 1) ≤ x ∧ x < 216 + 4 * (s 11 - 1) + 4 then 0 else bgB s p x := by
  have e11 := bgB_11 h h2 h3
  have hb := h.2.1
  have hl8 := lin_b h2 (by omega)
  have h8 := h.2.2.1
  rw [bgF_e, gfF_at _ (by rw [e11]; exact h4), e11]
  by_cases c1 : x = 11
  · rw [if_pos c1, if_pos c1]
  · rw [if_neg c1, if_neg c1]
    by_cases c2 : 216 ≤ x ∧ x < 216 + 4 * (s 11 - 1)
    · rw [if_pos c2, if_pos c2, bgB_at h h2 h3]
      rw [if_neg (by omega), if_neg (by omega), if_neg (by omega), if_neg (by omega), if_neg (by omega), if_neg (by omega), if_neg (by omega), if_neg (by omega), if_neg (by omega), if_neg (by omega), if_neg (by omega)]
    · rw [if_neg c2, if_neg c2]
theorem bgF_0 {s : Int → Int} (h : MI s) {p : Int} (h2 : 0 ≤ p) (h3 : p ≤ 15) (h4 : 0 < s 11) : bgF s p 0 = s 0 := by
  have hb := h.2.1
  have hl8 := lin_b h2 (by omega)
  rw [bgF_at h h2 h3 h4, if_neg (by omega), if_neg (by omega), if_neg (by omega), bgB_at h h2 h3]
  rw [if_neg (by omega), if_neg (by omega), if_neg (by omega), if_neg (by omega), if_neg (by omega), if_neg (by omega), if_neg (by omega), if_neg (by omega), if_neg (by omega), if_neg (by omega), if_neg (by omega)]
theorem bgF_254 {s : Int → Int} (h : MI s) {p : Int} (h2 : 0 ≤ p) (h3 : p ≤ 15) (h4 : 0 < s 11) : 0 < bgF s p 254 := by
  have hb := h.2.1
  have hl8 := lin_b h2 (by omega)
  have h8 := h.2.2.1
  rw [bgF_at h h2 h3 h4, if_neg (by omega), if_neg (by omega), if_neg (by omega), bgB_at h h2 h3]
  rw [if_neg (by omega), if_neg (by omega), if_neg (by omega), if_pos rfl]
  have e0 : 1 ≤ s (20 + lat p) := by rcases lat_b p with q | q <;> rw [q]; exact h.2.2.2.2.2.2.2.2.2.2.1; exact h.2.2.2.2.2.2.2.2.2.2.2
  have e3 := h.z (12 + lin p) (by unfold xc; omega)
  have e5 := h.z (6 + s 2) (by unfold xc; omega)
  have e7 := ediv_b e5 h.2.2.2.2.1
  omega
theorem gfF_x {s : Int → Int} (h4 : 0 < s 11) {x : Int} (h1 : x ≠ 11) (h2 : x < 216) : gfF s x = s x := by
  rw [gfF_at s h4, if_neg h1, if_neg (by omega), if_neg (by omega)]
theorem gfF_x2 {s : Int → Int} (h4 : 0 < s 11) (h8 : s 11 ≤ 8) {x : Int} (h2 : 248 ≤ x) : gfF s x = s x := by
  rw [gfF_at s h4, if_neg (by omega), if_neg (by omega), if_neg (by omega)]
theorem iw_b (s : Int → Int) : iwF s = 0 ∨ iwF s = 1 := by unfold iwF; split <;> simp
theorem ps_b (s : Int → Int) : psF s = 0 ∨ psF s = 1 := by unfold psF; split <;> simp
theorem iw_1 {s : Int → Int} (h : 0 < s 254) : iwF s = 1 := by unfold iwF; rw [if_pos (Or.inl h)]
theorem tkA_M {p : Int} (hp : 0 ≤ p) : ∀ (d : Nat) (s : Int → Int), MI s → (s 10 + 1 ≤ s 0 ∨ iwF s = 1) → MI (tkA p d s) ∧ tkA p d s 0 = s 0 := by
  intro d
  induction d with
  | zero => intro s h _; exact ⟨h, rfl⟩
  | succ d ih =>
    intro s h h1
    unfold tkA
    split
    · next c =>
      have h1 : s 10 + 1 ≤ s 0 := by
        rcases h1 with g | g
        · exact g
        · rw [c.2.2] at g; exact absurd g (by decide)
      by_cases hp1 : psF s = 1
      · rw [if_pos hp1]
        have g := ih (gfF s) (gfF_M h c.2.1) (Or.inl (by rw [gfF_x c.2.1 (by omega) (by omega), gfF_x c.2.1 (by omega) (by omega)]; exact h1))
        rw [gfF_x c.2.1 (by omega) (by omega)] at g
        exact g
      · rw [if_neg hp1]
        have g := ih (bgF s p) (bgF_M h h1 hp (by omega) c.2.1) (Or.inr (iw_1 (bgF_254 h hp (by omega) c.2.1)))
        rw [bgF_0 h hp (by omega) c.2.1] at g
        exact g
    · exact ⟨h, rfl⟩
theorem MI.time {s : Int → Int} (h : MI s) (hb : s 0 + 1 ≤ BIG) : MI (up1 s 0 (s 0 + 1)) := by
  have h0 := h.z 0 (by unfold xc; omega)
  have h10 := h.2.2.2.2.2.2.1
  exact h.up ⟨fun _ => ⟨by omega, by omega⟩, fun e => by omega, fun e => by omega, fun e => by omega, fun e => by omega, fun e => by omega, fun e => by omega, fun _ => by omega, fun e => by omega, fun e => by omega, fun e1 e2 => by omega, fun e => by omega, fun e => by omega⟩
theorem ti1_M {s : Int → Int} (h : MI s) (hb : s 0 + 1 ≤ BIG) : MI (ti1 s) ∧ ti1 s 0 = s 0 + 1 := by
  have h10 := h.2.2.2.2.2.2.1
  have m := h.time hb
  have e0 : up1 s 0 (s 0 + 1) 0 = s 0 + 1 := up1_s _ _ _
  have e10 : up1 s 0 (s 0 + 1) 10 = s 10 := up1_n _ _ (by omega)
  unfold ti1
  dsimp only
  split
  · have g := tkA_M (nxt_b (up1 s 0 (s 0 + 1))).1 9 _ m (Or.inl (by rw [e0, e10]; omega))
    exact ⟨g.1, g.2.trans e0⟩
  · exact ⟨m, e0⟩
theorem clB_M {s : Int → Int} (h : MI s) {b l : Int} (hb : b = 0 ∨ b = 1) (hl : 0 ≤ l ∧ l < 8) : MI (clB s b l) := h.zz 4 (by omega)
theorem clN_M {s : Int → Int} (h : MI s) : MI (clN s) := h.zz 8 (by omega)
theorem en1_M {s : Int → Int} (h : MI s) : MI (en1 s) := by
  have hb := h.2.1
  have hp := h.2.2.2.1
  have h0 := h.z 248 (by unfold xc; omega)
  have m1 := h.far (k := 24 + 4 * (16 * s 2 + s 248)) (v := 2) (by omega) (by omega) (by omega) (by unfold BIG; omega)
  have m2 := m1.far (k := 24 + 4 * (16 * s 2 + s 248) + 1) (by omega) (by omega) (m1.z 249 (by unfold xc; omega)) (m1.b 249 (by unfold xc; omega))
  have m3 := m2.far (k := 24 + 4 * (16 * s 2 + s 248) + 2) (by omega) (by omega) (m2.z 250 (by unfold xc; omega)) (m2.b 250 (by unfold xc; omega))
  exact m3.far (k := 24 + 4 * (16 * s 2 + s 248) + 3) (by omega) (by omega) (m3.z 252 (by unfold xc; omega)) (m3.b 252 (by unfold xc; omega))
theorem en1_x {s : Int → Int} (h : MI s) {x : Int} (hx : x < 24 ∨ 152 ≤ x) : en1 s x = s x := by
  have hb := h.2.1
  have hp := h.2.2.2.1
  have h0 := h.z 248 (by unfold xc; omega)
  simp only [en1, up1]
  rw [if_neg (by omega), if_neg (by omega), if_neg (by omega), if_neg (by omega)]
theorem enF_M {s : Int → Int} (h : MI s) : MI (enF s) ∧ enF s 0 = s 0 := by
  have hp := h.2.2.2.1
  have h0 := h.z 248 (by unfold xc; omega)
  have hb := h.2.1
  have hl8 := lin_b h0 (by omega)
  have m := en1_M h
  have m2 : MI (en2 (en1 s) (s 2) (s 248)) := by
    unfold en2; split
    · exact clB_M m hb hl8
    · exact m
  refine ⟨clN_M (m2.cnt (by unfold xc; omega)), ?_⟩
  simp only [enF, clN]
  rw [zA_at, if_neg (by omega), up1_n _ _ (by omega)]
  unfold en2
  split
  · unfold clB; rw [zA_at, if_neg (by omega), en1_x h (by omega)]
  · rw [en1_x h (by omega)]
theorem ti2_M {s : Int → Int} (h : MI s) : MI (ti2 s) ∧ ti2 s 0 = s 0 := by
  have hb := h.2.1
  have hp := h.2.2.2.1
  have h0 := h.z 248 (by unfold xc; omega)
  have hl8 := lin_b h0 (by omega)
  unfold ti2
  dsimp only
  split
  · next c =>
    have m1 := h.far (k := 253) (v := s 253 - 1) (by omega) (by omega) (by omega) (by have := h.b 253 (by unfold xc; omega); omega)
    split
    · have e2 : up1 s 253 (s 253 - 1) 2 = s 2 := up1_n _ _ (by omega)
      have e3 : up1 s 253 (s 253 - 1) 248 = s 248 := up1_n _ _ (by omega)
      rw [e2, e3]
      have m2 := m1.far (k := 152 + 4 * (8 * s 2 + lin (s 248))) (v := 2) (by omega) (by omega) (by omega) (by unfold BIG; omega)
      exact ⟨m2.cnt (by unfold xc; omega), by rw [up1_n _ _ (by omega), up1_n _ _ (by omega), up1_n _ _ (by omega)]⟩
    · exact ⟨m1, up1_n _ _ (by omega)⟩
  · split
    · next c =>
      have m1 := h.far (k := 254) (v := s 254 - 1) (by omega) (by omega) (by omega) (by have := h.b 254 (by unfold xc; omega); omega)
      have m2 := m1.far (k := 255) (v := 1) (by omega) (by omega) (by omega) (by unfold BIG; omega)
      have e0 : up1 (up1 s 254 (s 254 - 1)) 255 1 0 = s 0 := by rw [up1_n _ _ (by omega), up1_n _ _ (by omega)]
      split
      · have g := enF_M m2
        exact ⟨g.1, g.2.trans e0⟩
      · exact ⟨m2, e0⟩
    · exact ⟨h, rfl⟩
theorem tiF_M {s : Int → Int} (h : MI s) (hb : s 0 + 1 ≤ BIG) : MI (tiF s) ∧ tiF s 0 = s 0 + 1 := by
  have g := ti1_M h hb
  have g2 := ti2_M g.1
  exact ⟨g2.1, g2.2.trans g.2⟩
theorem goA_M {s : Int → Int} (h : MI s) : ∀ k : Nat, s 0 + k ≤ BIG → MI (goA s k) ∧ goA s k 0 = s 0 + k := by
  intro k
  induction k with
  | zero => intro _; exact ⟨h, by show s 0 = s 0 + ((0 : Nat) : Int); omega⟩
  | succ k ih =>
    intro hk
    have g := ih (by omega)
    have g2 := tiF_M g.1 (by rw [g.2]; omega)
    exact ⟨g2.1, by show tiF (goA s k) 0 = _; rw [g2.2, g.2]; omega⟩
