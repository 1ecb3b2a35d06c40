/-! the twin's other acts: power, blocks, requests -/
def taF (s : Int → Int) (b p : Int) : Int → Int :=
  let a := 24 + 4 * (16 * b + p)
  up1 (up1 (up1 (up1 s a 3) (a + 1) 0) (a + 2) 0) (a + 3) 0
def br1 (s : Int → Int) : Int → Int := up1 s 4 (s 4 + (s 11 + iwF s))
def br2a (s : Int → Int) : Int → Int := if 0 < taF s (s 2) (s 248) 253 then clB (taF s (s 2) (s 248)) (s 2) (lin (s 248)) else taF s (s 2) (s 248)
def br2b (t : Int → Int) (b e : Int) : Int → Int := if lat (t 248) = 1 ∧ t 255 = 1 then taF t b e else t
def br2 (s : Int → Int) : Int → Int := if iwF s = 1 then br2b (br2a s) (s 2) (ear (lin (s 248))) else s
def rcA : Nat → (Int → Int) → Int → Int
  | 0, s => s
  | d + 1, s => if 0 < s 11 then rcA d (gfF s) else s
def br5 (s : Int → Int) : Int → Int := let t := up1 s 1 1; up1 t 8 (t 8 + 1)
def brS (s : Int → Int) : Int → Int := br5 (rcA 9 (clN (br2 (br1 s))))
def lsA (st t : Int → Int) : Nat → Nat
  | 0 => 0
  | k + 1 => lsA st t k ||| (if 0 < st (k : Int) ∧ ¬ stF t (k : Int) = st (k : Int) then 1 <<< k else 0)
def lsF (s : Int → Int) : Nat := lsA (stF s) (brS s) 12
def onA (a : Nat) : Nat → Int
  | 0 => 0
  | k + 1 => onA a k + (((a / 2 ^ k) &&& 1 : Nat) : Int)
def ofF (s : Int → Int) : Int × (Int → Int) := if s 1 = 1 then (-2, s) else (onA (lsF s) 12, up1 (brS s) 5 (brS s 5 + onA (lsF s) 12))
def ipF (s : Int → Int) (c : Int) : Int := if s (atI c) = 2 ∧ plc s (s (atI c + 1)) = c then 1 else 0
def cpF (s : Int → Int) (c u : Int) : Int → Int := cmF s (s (atI c + 1)) (s (atI c + 2)) u (s (atI c + 3))
def opA (s : Int → Int) : Nat → Int → Int
  | 0 => s
  | k + 1 => if 16 ≤ (k : Int) % 24 ∧ opA s k 11 < 8 ∧ ipF (opA s k) (k : Int) = 1 then cpF (opA s k) (k : Int) 0 else opA s k
def opF (s : Int → Int) : Int × (Int → Int) := if s 1 = 1 then (opA (up1 s 1 0) 48 11, opA (up1 s 1 0) 48) else (-2, s)
def asF (s : Int → Int) (key val urg : Int) : Int × (Int → Int) :=
  if ¬ (0 ≤ key ∧ key ≤ 11) ∨ ¬ (0 ≤ val ∧ val ≤ 999) ∨ ¬ (0 ≤ urg ∧ urg ≤ 1) then (-1, s)
  else if s 1 = 1 then (-2, s) else if s 11 = 8 then (-3, s) else (cmF s key val (2 - urg) 0 11, cmF s key val (2 - urg) 0)
def ltF (s : Int → Int) (many : Int) : Int × (Int → Int) :=
  if ¬ (1 ≤ many ∧ many ≤ 200) then (-1, s) else if s 1 = 1 then (-2, s) else if 9000 < s 0 + many then (-3, s) else (goA s many.toNat 3 - s 3, goA s many.toNat)
def chF (s : Int → Int) : Int × (Int → Int) :=
  if s 1 = 1 ∨ iwF s = 1 ∨ blA s (1 - s 2) 16 = 0 then (-2, s) else (1 - s 2, up1 s 2 (1 - s 2))
def ctA (s : Int → Int) (b : Int) : Nat → Int
  | 0 => 0
  | k + 1 => ctA s b k + ipF s (24 * b + (k : Int))
def clA (s : Int → Int) (b : Int) : Nat → Int → Int
  | 0 => s
  | k + 1 => if ipF (clA s b k) (24 * b + (k : Int)) = 1 then cpF (clA s b k) (24 * b + (k : Int)) 3 else clA s b k
def clF (s : Int → Int) (b : Int) : Int × (Int → Int) :=
  if ¬ (0 ≤ b ∧ b ≤ 1) then (-1, s) else if s 1 = 1 ∨ b = s 2 then (-2, s) else if 8 < s 11 + ctA s b 24 then (-3, s) else (ctA s b 24, clA s b 24)
def myA (s : Int → Int) (b m0 : Int) : Nat → Int
  | 0 => m0
  | k + 1 => if myA s b m0 k = 1 ∧ ipF s (24 * b + (k : Int)) = 0 then 1 else 0
def cbA (s : Int → Int) (b : Int) : Nat → Int → Int
  | 0 => s
  | k + 1 => clB (cbA s b k) b (k : Int)
def er1 (s : Int → Int) (b : Int) : Int → Int := cbA (zA s (24 + 4 * (16 * b + 0)) 64) b 8
def erF (s : Int → Int) (b : Int) : Int × (Int → Int) :=
  if ¬ (0 ≤ b ∧ b ≤ 1) then (-1, s) else if myA s b (if s 1 = 1 ∨ b = s 2 then 0 else 1) 24 = 0 then (-2, s)
  else (er1 s b (6 + b) + 1, up1 (er1 s b) (6 + b) (er1 s b (6 + b) + 1))
def slF (s : Int → Int) (w t : Int) : Int × (Int → Int) := if 0 ≤ w ∧ w ≤ 7 ∧ 0 ≤ t ∧ t ≤ 5 then (s (12 + w), up1 s (12 + w) t) else (-1, s)
def moF (w : Int) : Int := if w = 0 then 9 else if w = 1 then 20 else if w = 2 then 1 else 99
def seF (s : Int → Int) (w v : Int) : Int × (Int → Int) := if 0 ≤ w ∧ w ≤ 3 ∧ (if w = 2 then 0 else 1) ≤ v ∧ v ≤ moF w then (s (20 + w), up1 s (20 + w) v) else (-1, s)
theorem taF_M {s : Int → Int} (h : MI s) {b p : Int} (hb : b = 0 ∨ b = 1) (h0 : 0 ≤ p) (h1 : p ≤ 15) : MI (taF s b p) := by
  have m1 := h.far (k := 24 + 4 * (16 * b + p)) (v := 3) (by omega) (by omega) (by omega) (by unfold BIG; omega)
  have m2 := m1.far (k := 24 + 4 * (16 * b + p) + 1) (v := 0) (by omega) (by omega) (by omega) (by unfold BIG; omega)
  have m3 := m2.far (k := 24 + 4 * (16 * b + p) + 2) (v := 0) (by omega) (by omega) (by omega) (by unfold BIG; omega)
  exact m3.far (k := 24 + 4 * (16 * b + p) + 3) (v := 0) (by omega) (by omega) (by omega) (by unfold BIG; omega)
theorem taF_x (s : Int → Int) {b p x : Int} (hb : b = 0 ∨ b = 1) (h0 : 0 ≤ p) (h1 : p ≤ 15) (hx : x < 24 ∨ 152 ≤ x) : taF s b p x = s x := by
  simp only [taF, up1]
  rw [if_neg (by omega), if_neg (by omega), if_neg (by omega), if_neg (by omega)]
theorem br1_M {s : Int → Int} (h : MI s) : MI (br1 s) := h.cnt (by unfold xc; omega)
theorem br1_x (s : Int → Int) {x : Int} (hx : x ≠ 4) : br1 s x = s x := up1_n _ _ hx
theorem br2_M {s : Int → Int} (h : MI s) : MI (br2 s) := by
  have hb := h.2.1
  have h0 := h.z 248 (by unfold xc; omega)
  have h1 := h.2.2.2.1
  have hl := lin_b h0 (by omega)
  have he := ear_b hl.1 hl.2
  unfold br2
  split
  · have m1 := taF_M h hb h0 h1
    have m2 : MI (br2a s) := by
      unfold br2a
      split
      · exact clB_M m1 hb hl
      · exact m1
    unfold br2b
    split
    · exact taF_M m2 hb he.1 (by omega)
    · exact m2
  · exact h
theorem br2_x {s : Int → Int} (h : MI s) {x : Int} (hx : x < 24 ∨ 216 ≤ x) : br2 s x = s x := by
  have hb := h.2.1
  have h0 := h.z 248 (by unfold xc; omega)
  have h1 := h.2.2.2.1
  have hl := lin_b h0 (by omega)
  have he := ear_b hl.1 hl.2
  have e1 : ∀ y, y < 24 ∨ 216 ≤ y → taF s (s 2) (s 248) y = s y := fun y hy => taF_x s hb h0 h1 (by omega)
  have e2 : ∀ y, y < 24 ∨ 216 ≤ y → br2a s y = s y := fun y hy => by
    unfold br2a
    split
    · unfold clB; rw [zA_at, if_neg (by omega), e1 y hy]
    · exact e1 y hy
  unfold br2
  split
  · unfold br2b
    split
    · rw [taF_x _ hb he.1 (by omega) (by omega), e2 x hx]
    · exact e2 x hx
  · rfl
theorem rcA_M : ∀ (d : Nat) (s : Int → Int), MI s → MI (rcA d s) := by
  intro d
  induction d with
  | zero => intro s h; exact h
  | succ d ih =>
    intro s h
    unfold rcA
    split
    · next c => exact ih _ (gfF_M h c)
    · exact h
theorem br5_M {s : Int → Int} (h : MI s) : MI (br5 s) := by
  have m1 : MI (up1 s 1 1) := h.up ⟨fun _ => ⟨by omega, by unfold BIG; omega⟩, fun e => by omega, fun e => by omega, fun e => by omega, fun e => by omega, fun _ => Or.inr rfl, fun e => by omega, fun e => by omega, fun e => by omega, fun e => by omega, fun e1 e2 => by omega, fun e => by omega, fun e => by omega⟩
  exact m1.cnt (by unfold xc; omega)
theorem brS_M {s : Int → Int} (h : MI s) : MI (brS s) := br5_M (rcA_M 9 _ (clN_M (br2_M (br1_M h))))
theorem cpF_M {s : Int → Int} (h : MI s) (h7 : s 11 ≤ 7) {c u : Int} (h0 : 0 ≤ c) (h1 : c < 48) (hu : 0 ≤ u ∧ u ≤ 3) : MI (cpF s c u) := by
  have hb := atI_b h0 h1
  exact cmF_M h h7 ⟨h.z _ (by unfold xc; omega), h.b _ (by unfold xc; omega)⟩ ⟨h.z _ (by unfold xc; omega), h.b _ (by unfold xc; omega)⟩ ⟨hu.1, by unfold BIG; omega⟩ ⟨h.z _ (by unfold xc; omega), h.b _ (by unfold xc; omega)⟩
theorem cmF_x {s : Int → Int} (h : MI s) (h7 : s 11 ≤ 7) (key val u stp : Int) {x : Int} (hx : x < 216 ∨ 248 ≤ x) (h11 : x ≠ 11) : cmF s key val u stp x = s x := by
  have h0 := h.z 11 (by unfold xc; omega)
  obtain ⟨g1, g2, g3, g4⟩ := cmA_b u 9 (s 11) s h0 h7 h
  simp only [cmF, cmE]
  rw [up1_n _ _ h11, up1_n _ _ (by omega), up1_n _ _ (by omega), up1_n _ _ (by omega), up1_n _ _ (by omega), g4 x hx]
theorem cmF_11 {s : Int → Int} (h : MI s) (h7 : s 11 ≤ 7) (key val u stp : Int) : cmF s key val u stp 11 = s 11 + 1 := by
  have h0 := h.z 11 (by unfold xc; omega)
  obtain ⟨g1, g2, g3, g4⟩ := cmA_b u 9 (s 11) s h0 h7 h
  simp only [cmF, cmE]
  rw [up1_s, up1_n _ _ (by omega), up1_n _ _ (by omega), up1_n _ _ (by omega), up1_n _ _ (by omega), g4 11 (by omega)]
theorem opA_M {s : Int → Int} (h : MI s) : ∀ k : Nat, k ≤ 48 → MI (opA s k) := by
  intro k
  induction k with
  | zero => intro _; exact h
  | succ k ih =>
    intro hk
    unfold opA
    split
    · next c => exact cpF_M (ih (by omega)) (by omega) (by omega) (by omega) (by omega)
    · exact ih (by omega)
/-- what the places say rests on the pages and backups alone -/
theorem plA_cong {s t : Int → Int} (h : ∀ x, 24 ≤ x → x < 216 → s x = t x) (key : Int) : ∀ k : Nat, k ≤ 48 → plA s key k = plA t key k := by
  intro k
  induction k with
  | zero => intro _; rfl
  | succ k ih =>
    intro hk
    have hb := atI_b (c := (k : Int)) (by omega) (by omega)
    unfold plA
    rw [ih (by omega), h _ (by omega) (by omega), h (atI k + 1) (by omega) (by omega), h (atI k + 3) (by omega) (by omega)]
theorem plc_cong {s t : Int → Int} (h : ∀ x, 24 ≤ x → x < 216 → s x = t x) (key : Int) : plc s key = plc t key := by unfold plc; rw [plA_cong h key 48 (by omega)]
theorem stF_cong {s t : Int → Int} (h : ∀ x, 24 ≤ x → x < 216 → s x = t x) (key : Int) : stF s key = stF t key := by
  unfold stF
  rw [plc_cong h key]
  split
  · rfl
  · rcases plc_b t key with g | g
    · omega
    · have hb := atI_b g.1 g.2
      exact h _ (by omega) (by omega)
theorem ipF_cong {s t : Int → Int} (h : ∀ x, 24 ≤ x → x < 216 → s x = t x) {c : Int} (h0 : 0 ≤ c) (h1 : c < 48) : ipF s c = ipF t c := by
  have hb := atI_b h0 h1
  unfold ipF
  rw [h _ (by omega) (by omega), h (atI c + 1) (by omega) (by omega), plc_cong h]
theorem ip_b (s : Int → Int) (c : Int) : ipF s c = 0 ∨ ipF s c = 1 := by unfold ipF; split <;> simp
theorem ctA_b (s : Int → Int) (b : Int) : ∀ k : Nat, 0 ≤ ctA s b k ∧ ctA s b k ≤ k := by
  intro k
  induction k with
  | zero => exact ⟨Int.le_refl _, Int.le_refl _⟩
  | succ k ih =>
    unfold ctA
    rcases ip_b s (24 * b + (k : Int)) with g | g <;> rw [g] <;> omega
theorem ctA_le (s : Int → Int) (b : Int) {k n : Nat} (h : k ≤ n) : ctA s b k ≤ ctA s b n := by
  induction n with
  | zero => have : k = 0 := by omega
            subst this; exact Int.le_refl _
  | succ n ih =>
    by_cases e : k = n + 1
    · subst e; exact Int.le_refl _
    · have := ih (by omega)
      show ctA s b k ≤ ctA s b n + ipF s (24 * b + (n : Int))
      rcases ip_b s (24 * b + (n : Int)) with g | g <;> omega
theorem clA_M {s : Int → Int} (h : MI s) {b : Int} (hb : b = 0 ∨ b = 1) (h8 : s 11 + ctA s b 24 ≤ 8) : ∀ k : Nat, k ≤ 24 → MI (clA s b k) ∧ clA s b k 11 = s 11 + ctA s b k ∧ ∀ x, x < 216 ∨ 248 ≤ x → x ≠ 11 → clA s b k x = s x := by
  intro k
  induction k with
  | zero => intro _; exact ⟨h, by show s 11 = s 11 + 0; omega, fun _ _ _ => rfl⟩
  | succ k ih =>
    intro hk
    obtain ⟨g1, g2, g3⟩ := ih (by omega)
    have e : ipF (clA s b k) (24 * b + (k : Int)) = ipF s (24 * b + (k : Int)) := ipF_cong (fun x h1 h2 => g3 x (by omega) (by omega)) (by omega) (by omega)
    have hc := ctA_le s b (k := k + 1) (n := 24) hk
    have hc2 : ctA s b (k + 1) = ctA s b k + ipF s (24 * b + (k : Int)) := rfl
    unfold clA
    split
    · next c =>
      rw [e] at c
      have h7 : clA s b k 11 ≤ 7 := by omega
      refine ⟨cpF_M g1 h7 (by omega) (by omega) (by omega), ?_, fun x h1 h2 => ?_⟩
      · unfold cpF; rw [cmF_11 g1 h7, g2, hc2, c]; omega
      · unfold cpF; rw [cmF_x g1 h7 _ _ _ _ h1 h2, g3 x h1 h2]
    · next c =>
      rw [e] at c
      refine ⟨g1, ?_, g3⟩
      rw [g2, hc2]
      rcases ip_b s (24 * b + (k : Int)) with q | q
      · omega
      · exact absurd q c
theorem cbA_M {s : Int → Int} (h : MI s) {b : Int} (hb : b = 0 ∨ b = 1) : ∀ k : Nat, k ≤ 8 → MI (cbA s b k) := by
  intro k
  induction k with
  | zero => intro _; exact h
  | succ k ih => intro hk; exact clB_M (ih (by omega)) hb ⟨by omega, by omega⟩
theorem er1_M {s : Int → Int} (h : MI s) {b : Int} (hb : b = 0 ∨ b = 1) : MI (er1 s b) := cbA_M (h.zz 64 (by omega)) hb 8 (by omega)
theorem cbA_x (s : Int → Int) {b : Int} (hb : b = 0 ∨ b = 1) {x : Int} (hx : x < 152 ∨ 216 ≤ x) : ∀ k : Nat, k ≤ 8 → cbA s b k x = s x := by
  intro k
  induction k with
  | zero => intro _; rfl
  | succ k ih => intro hk; unfold cbA clB; rw [zA_at, if_neg (by omega), ih (by omega)]
theorem er1_x (s : Int → Int) {b : Int} (hb : b = 0 ∨ b = 1) {x : Int} (hx : x < 24 ∨ 216 ≤ x) : er1 s b x = s x := by
  unfold er1
  rw [cbA_x _ hb (by omega) 8 (by omega), zA_at, if_neg (by omega)]
