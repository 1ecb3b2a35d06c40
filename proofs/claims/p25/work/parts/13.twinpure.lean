/-! the twin's acts as functions of its row, and what they keep -/
def okU (s : Int → Int) (k v : Int) : Prop := (¬ xc k → 0 ≤ v ∧ v ≤ BIG) ∧ (k = 2 → v = 0 ∨ v = 1) ∧ (k = 11 → v ≤ 8) ∧ (k = 248 → v ≤ 15) ∧ (k = 23 → 1 ≤ v) ∧ (k = 1 → v = 0 ∨ v = 1) ∧ (k = 10 → v ≤ s 0) ∧ (k = 0 → s 10 ≤ v) ∧ (k = 6 → v ≤ 100000) ∧ (k = 7 → v ≤ 100000) ∧ (12 ≤ k → k < 24 → v ≤ 99) ∧ (k = 20 → 1 ≤ v) ∧ (k = 21 → 1 ≤ v)
theorem MI.up {s : Int → Int} (h : MI s) {k v : Int} (ho : okU s k v) : MI (up1 s k v) := by
  obtain ⟨a1, a2, a3, a4, a5, a6, a7, a8, a9, a10, a11, a12⟩ := h
  obtain ⟨o1, o2, o3, o4, o5, o6, o7, o8, o9, o10, o11, o12, o13⟩ := ho
  refine ⟨fun x hx => ?_, ?_, ?_, ?_, ?_, ?_, ?_, ?_, ?_, fun x h1 h2 => ?_, ?_, ?_⟩
  · unfold up1; split
    · next e => subst e; exact o1 hx
    · exact a1 x hx
  · unfold up1; split
    · next e => exact o2 e.symm
    · exact a2
  · unfold up1; split
    · next e => exact o3 e.symm
    · exact a3
  · unfold up1; split
    · next e => exact o4 e.symm
    · exact a4
  · unfold up1; split
    · next e => exact o5 e.symm
    · exact a5
  · unfold up1; split
    · next e => exact o6 e.symm
    · exact a6
  · unfold up1; split <;> split
    · omega
    · next e _ => exact o7 e.symm
    · next _ e => exact o8 e.symm
    · exact a7
  · unfold up1; split
    · next e => exact o9 e.symm
    · exact a8
  · unfold up1; split
    · next e => exact o10 e.symm
    · exact a9
  · unfold up1; split
    · next e => subst e; exact o11 h1 h2
    · exact a10 x h1 h2
  · unfold up1; split
    · next e => exact o12 e.symm
    · exact a11
  · unfold up1; split
    · next e => exact o13 e.symm
    · exact a12
/-- far entries: the range alone -/
theorem MI.far {s : Int → Int} (h : MI s) {k v : Int} (hk : 24 ≤ k) (hk2 : k ≠ 248) (h0 : 0 ≤ v) (h1 : v ≤ BIG) : MI (up1 s k v) :=
  h.up ⟨fun _ => ⟨h0, h1⟩, fun e => by omega, fun e => by omega, fun e => absurd e hk2, fun e => by omega, fun e => by omega, fun e => by omega, fun e => by omega, fun e => by omega, fun e => by omega, fun e1 e2 => by omega, fun e => by omega, fun e => by omega⟩
theorem MI.cnt {s : Int → Int} (h : MI s) {k v : Int} (hk : xc k) : MI (up1 s k v) := by
  unfold xc at hk
  exact h.up ⟨fun e => absurd hk (by unfold xc at e; exact e), fun e => by omega, fun e => by omega, fun e => by omega, fun e => by omega, fun e => by omega, fun e => by omega, fun e => by omega, fun e => by omega, fun e => by omega, fun e1 e2 => by omega, fun e => by omega, fun e => by omega⟩
theorem MI.b {s : Int → Int} (h : MI s) (x : Int) (hx : ¬ xc x) : s x ≤ BIG := (h.1 x hx).2
/-- n entries copied, upward -/
def cpA (s : Int → Int) (a b : Int) : Nat → Int → Int
  | 0 => s
  | i + 1 => up1 (cpA s a b i) (a + (i : Int)) (cpA s a b i (b + (i : Int)))
theorem cpA_at (s : Int → Int) (a b : Int) (n : Nat) (hd : b < a → b + n ≤ a) : ∀ i : Nat, i ≤ n → ∀ x, cpA s a b i x = if a ≤ x ∧ x < a + i then s (x - a + b) else s x := by
  intro i
  induction i with
  | zero => intro _ x; rw [if_neg (by omega)]; rfl
  | succ i ih =>
    intro hi x
    unfold cpA up1
    by_cases e : x = a + (i : Int)
    · rw [if_pos e, if_pos (by omega), ih (by omega), if_neg (by omega)]
      congr 1; omega
    · rw [if_neg e, ih (by omega)]
      by_cases e2 : a ≤ x ∧ x < a + i
      · rw [if_pos e2, if_pos (by omega)]
      · rw [if_neg e2, if_neg (by omega)]
theorem MI.cp {s : Int → Int} (h : MI s) {a b : Int} (n : Nat) (ha : 24 ≤ a) (hb : 24 ≤ b) (h8 : a + n ≤ 248 ∨ 248 < a) (hb2 : b + n ≤ 256) : MI (cpA s a b n) := by
  induction n with
  | zero => exact h
  | succ n ih =>
    have g := ih (by omega) (by omega)
    exact g.far (by omega) (by omega) (g.z _ (by unfold xc; omega)) (g.b _ (by unfold xc; omega))
/-- n entries cleared -/
def zA (s : Int → Int) (a : Int) : Nat → Int → Int
  | 0 => s
  | i + 1 => up1 (zA s a i) (a + (i : Int)) 0
theorem zA_at (s : Int → Int) (a : Int) : ∀ (i : Nat) (x : Int), zA s a i x = if a ≤ x ∧ x < a + i then 0 else s x := by
  intro i
  induction i with
  | zero => intro x; rw [if_neg (by omega)]; rfl
  | succ i ih =>
    intro x
    unfold zA up1
    by_cases e : x = a + (i : Int)
    · rw [if_pos e, if_pos (by omega)]
    · rw [if_neg e, ih]
      by_cases e2 : a ≤ x ∧ x < a + i
      · rw [if_pos e2, if_pos (by omega)]
      · rw [if_neg e2, if_neg (by omega)]
theorem MI.zz {s : Int → Int} (h : MI s) {a : Int} (n : Nat) (ha : 24 ≤ a) : MI (zA s a n) := by
  induction n with
  | zero => exact h
  | succ n ih =>
    unfold zA
    exact ih.up ⟨fun _ => ⟨by omega, by unfold BIG; omega⟩, fun e => by omega, fun e => by omega, fun e => by omega, fun e => by omega, fun e => by omega, fun e => by omega, fun e => by omega, fun e => by omega, fun e => by omega, fun e1 e2 => by omega, fun e => by omega, fun e => by omega⟩
/-- comes -/
def cmA (u : Int) : Nat → Int → (Int → Int) → (Int → Int) × Int
  | 0, k, s => (s, k)
  | d + 1, k, s => if 0 < k ∧ u < s (216 + 4 * (k - 1) + 2) then cmA u d (k + -1) (cpA s (216 + 4 * k) (216 + 4 * (k - 1)) 4) else (s, k)
def cmE (s : Int → Int) (k key val u stp : Int) : Int → Int :=
  up1 (up1 (up1 (up1 s (216 + 4 * k) key) (216 + 4 * k + 1) val) (216 + 4 * k + 2) u) (216 + 4 * k + 3) stp
def cmF (s : Int → Int) (key val u stp : Int) : Int → Int :=
  let q := cmA u 9 (s 11) s
  let t := cmE q.1 q.2 key val u stp
  up1 t 11 (t 11 + 1)
theorem cmA_b (u : Int) : ∀ (d : Nat) (k : Int) (s : Int → Int), 0 ≤ k → k ≤ 7 → MI s → MI (cmA u d k s).1 ∧ 0 ≤ (cmA u d k s).2 ∧ (cmA u d k s).2 ≤ k ∧ ∀ x, x < 216 ∨ 248 ≤ x → (cmA u d k s).1 x = s x := by
  intro d
  induction d with
  | zero => intro k s h0 h7 hM; exact ⟨hM, h0, Int.le_refl _, fun _ _ => rfl⟩
  | succ d ih =>
    intro k s h0 h7 hM
    unfold cmA
    split
    · next h =>
      have g := ih (k + -1) (cpA s (216 + 4 * k) (216 + 4 * (k - 1)) 4) (by omega) (by omega) (hM.cp 4 (by omega) (by omega) (by omega) (by omega))
      refine ⟨g.1, g.2.1, by omega, fun x hx => ?_⟩
      rw [g.2.2.2 x hx, cpA_at s _ _ 4 (by omega) 4 (by omega), if_neg (by omega)]
    · exact ⟨hM, h0, Int.le_refl _, fun _ _ => rfl⟩
theorem cmF_M {s : Int → Int} {key val u stp : Int} (h : MI s) (h7 : s 11 ≤ 7) (hk : 0 ≤ key ∧ key ≤ BIG) (hv : 0 ≤ val ∧ val ≤ BIG) (hu : 0 ≤ u ∧ u ≤ BIG) (hs : 0 ≤ stp ∧ stp ≤ BIG) : MI (cmF s key val u stp) := by
  have h0 := h.z 11 (by unfold xc; omega)
  obtain ⟨g1, g2, g3, g4⟩ := cmA_b u 9 (s 11) s h0 h7 h
  have e11 := g4 11 (by omega)
  have m4 : MI (cmE (cmA u 9 (s 11) s).1 (cmA u 9 (s 11) s).2 key val u stp) := by
    unfold cmE
    exact (((g1.far (by omega) (by omega) hk.1 hk.2).far (by omega) (by omega) hv.1 hv.2).far (by omega) (by omega) hu.1 hu.2).far (by omega) (by omega) hs.1 hs.2
  have e : cmE (cmA u 9 (s 11) s).1 (cmA u 9 (s 11) s).2 key val u stp 11 = s 11 := by
    unfold cmE up1
    rw [if_neg (by omega), if_neg (by omega), if_neg (by omega), if_neg (by omega), e11]
  unfold cmF
  refine m4.up ⟨fun _ => ?_, fun e => by omega, fun _ => ?_, fun e => by omega, fun e => by omega, fun e => by omega, fun e => by omega, fun e => by omega, fun e => by omega, fun e => by omega, fun e1 e2 => by omega, fun e => by omega, fun e => by omega⟩
  · rw [e]; unfold BIG; omega
  · rw [e]; omega
/-- goesFirst -/
def gfA (s : Int → Int) : Nat → Int → Int
  | 0 => s
  | j + 1 => up1 (gfA s j) (216 + (j : Int)) (gfA s j (216 + (j : Int) + 4))
theorem gfA_at (s : Int → Int) : ∀ (n : Nat) (x : Int), gfA s n x = if 216 ≤ x ∧ x < 216 + n then s (x + 4) else s x := by
  intro n
  induction n with
  | zero => intro x; rw [if_neg (by omega)]; rfl
  | succ n ih =>
    intro x
    unfold gfA up1
    by_cases e : x = 216 + (n : Int)
    · rw [if_pos e, if_pos (by omega), ih, if_neg (by omega), e]
    · rw [if_neg e, ih]
      by_cases e2 : 216 ≤ x ∧ x < 216 + (n : Int)
      · rw [if_pos e2, if_pos (by omega)]
      · rw [if_neg e2, if_neg (by omega)]
def gfF (s : Int → Int) : Int → Int :=
  zA (gfA (up1 s 11 (s 11 - 1)) (4 * (s 11 - 1)).toNat) (216 + 4 * (s 11 - 1)) 4
theorem gfF_at (s : Int → Int) (h : 0 < s 11) (x : Int) : gfF s x = if x = 11 then s 11 - 1 else if 216 ≤ x ∧ x < 216 + 4 * (s 11 - 1) then s (x + 4) else if 216 + 4 * (s 11 - 1) ≤ x ∧ x < 216 + 4 * (s 11 - 1) + 4 then 0 else s x := by
  unfold gfF
  rw [zA_at, gfA_at]
  have e : ((4 * (s 11 - 1)).toNat : Int) = 4 * (s 11 - 1) := by omega
  rw [e]
  unfold up1
  by_cases h1 : x = 11
  · rw [if_neg (by omega), if_neg (by omega), if_pos h1, if_pos h1]
  · rw [if_neg h1, if_neg h1]
    by_cases h2 : 216 ≤ x ∧ x < 216 + 4 * (s 11 - 1)
    · rw [if_pos h2, if_neg (by omega), if_pos h2, if_neg (by omega)]
    · rw [if_neg h2, if_neg h2]
      rfl
theorem gfA_M {s : Int → Int} (h : MI s) (n : Nat) (hn : n ≤ 28) : MI (gfA s n) := by
  induction n with
  | zero => exact h
  | succ n ih =>
    have g := ih (by omega)
    exact g.far (by omega) (by omega) (g.z _ (by unfold xc; omega)) (g.b _ (by unfold xc; omega))
theorem MI.w {s : Int → Int} (h : MI s) {v : Int} (h0 : 0 ≤ v) (h8 : v ≤ 8) : MI (up1 s 11 v) :=
  h.up ⟨fun _ => ⟨h0, by unfold BIG; omega⟩, fun e => by omega, fun _ => h8, fun e => by omega, fun e => by omega, fun e => by omega, fun e => by omega, fun e => by omega, fun e => by omega, fun e => by omega, fun e1 e2 => by omega, fun e => by omega, fun e => by omega⟩
theorem gfF_M {s : Int → Int} (h : MI s) (h0 : 0 < s 11) : MI (gfF s) := by
  have h8 := h.2.2.1
  unfold gfF
  exact (gfA_M (h.w (by omega) (by omega)) _ (by omega)).zz 4 (by omega)
def psF (s : Int → Int) : Int := if s 218 % 3 = 0 ∧ ¬ stF s (s 216) = s 219 then 1 else 0
def iwF (s : Int → Int) : Int := if 0 < s 254 ∨ 0 < s 253 then 1 else 0
/-- begin1 -/
def mkF (s : Int → Int) (p : Int) : Int := if lat p = 1 ∧ s 22 = 1 ∧ s (24 + 4 * (16 * s 2 + ear (lin p))) = 2 then 1 else 0
def bg1 (s : Int → Int) (p mk : Int) : Int → Int :=
  let s1 := up1 s 10 (s 10 + 1)
  let s2 := up1 s1 248 p
  let s3 := up1 s2 249 (s2 216)
  let s4 := up1 s3 250 (s3 217)
  let s5 := up1 s4 251 (s4 218)
  let s6 := up1 s5 252 (s5 10)
  up1 s6 253 (if mk = 1 then 2 else 0)
def bg2 (t : Int → Int) (b p lt : Int) : Int → Int :=
  let s8 := up1 t 254 (t (20 + lt) + t (12 + lin p) + t (6 + b) / t 23)
  let s9 := up1 s8 255 0
  up1 s9 (24 + 4 * (16 * b + p)) 1
def cp3 (s : Int → Int) (a e : Int) : Nat → Int → Int
  | 0 => s
  | i + 1 => up1 (cp3 s a e i) (a + ((i : Int) + 1)) (cp3 s a e i (e + ((i : Int) + 1)))
def bg3 (t : Int → Int) (b p mk : Int) : Int → Int :=
  if mk = 1 then cp3 (up1 t (152 + 4 * (8 * b + lin p)) 1) (152 + 4 * (8 * b + lin p)) (24 + 4 * (16 * b + ear (lin p))) 3 else t
def bgF (s : Int → Int) (p : Int) : Int → Int := gfF (bg3 (bg2 (bg1 s p (mkF s p)) (s 2) p (lat p)) (s 2) p (mkF s p))
def tkA (p : Int) : Nat → (Int → Int) → Int → Int
  | 0, s => s
  | d + 1, s => if p < 16 ∧ 0 < s 11 ∧ iwF s = 0 then tkA p d (if psF s = 1 then gfF s else bgF s p) else s
def tkF (s : Int → Int) : Int → Int := tkA (nxt s) 9 s
def clN (s : Int → Int) : Int → Int := zA s 248 8
def clB (s : Int → Int) (b l : Int) : Int → Int := zA s (152 + 4 * (8 * b + l)) 4
def en1 (s : Int → Int) : Int → Int :=
  let a := 24 + 4 * (16 * s 2 + s 248)
  let s1 := up1 s a 2
  let s2 := up1 s1 (a + 1) (s1 249)
  let s3 := up1 s2 (a + 2) (s2 250)
  up1 s3 (a + 3) (s3 252)
def en2 (t : Int → Int) (b p : Int) : Int → Int := if lat p = 1 then clB t b (lin p) else t
def enF (s : Int → Int) : Int → Int :=
  let t := en2 (en1 s) (s 2) (s 248)
  clN (up1 t 3 (t 3 + if t 251 % 3 = 0 then 0 else 1))
def ti1 (s : Int → Int) : Int → Int := let t := up1 s 0 (s 0 + 1); if iwF t = 0 then tkF t else t
def ti2 (s : Int → Int) : Int → Int :=
  if 0 < s 253 then
    let t := up1 s 253 (s 253 - 1)
    if t 253 = 0 then let u := up1 t (152 + 4 * (8 * t 2 + lin (t 248))) 2; up1 u 9 (u 9 + 1) else t
  else if 0 < s 254 then
    let t := up1 (up1 s 254 (s 254 - 1)) 255 1
    if t 254 = 0 then enF t else t
  else s
def tiF (s : Int → Int) : Int → Int := ti2 (ti1 s)
def goA (s : Int → Int) : Nat → Int → Int
  | 0 => s
  | k + 1 => tiF (goA s k)
theorem lin_b {p : Int} (h0 : 0 ≤ p) (h1 : p < 16) : 0 ≤ lin p ∧ lin p < 8 := by
  unfold lin
  split
  · omega
  · split <;> omega
theorem ear_b {l : Int} (h0 : 0 ≤ l) (h1 : l < 8) : 0 ≤ ear l ∧ ear l < 16 := by
  unfold ear
  split <;> omega
theorem lat_b (p : Int) : lat p = 0 ∨ lat p = 1 := by unfold lat; split <;> simp
theorem nxA_b (s : Int → Int) : ∀ (d : Nat) (p : Int), 0 ≤ p → p + d ≤ 16 → p ≤ nxA s d p ∧ nxA s d p ≤ 16 := by
  intro d
  induction d with
  | zero => intro p h0 h1; exact ⟨Int.le_refl _, by show p ≤ 16; omega⟩
  | succ d ih =>
    intro p h0 h1
    unfold nxA
    split
    · have := ih (p + 1) (by omega) (by omega); omega
    · omega
theorem nxt_b (s : Int → Int) : 0 ≤ nxt s ∧ nxt s ≤ 16 := nxA_b s 16 0 (by omega) (by omega)
