/-! the twin's answers -/
def rdF (s : Int → Int) (key : Int) : Int := if ¬ (0 ≤ key ∧ key ≤ 11) then -1 else if plc s key < 0 then -4 else s (atI (plc s key) + 2)
def poF (s : Int → Int) (key w : Int) : Int := if ¬ (0 ≤ key ∧ key ≤ 11) ∨ ¬ (0 ≤ w ∧ w ≤ 2) then -1 else if plc s key < 0 then -4 else if w = 0 then plc s key / 24 else if w = 1 then plc s key % 24 else s (atI (plc s key) + 3)
def pgF (s : Int → Int) (b p w : Int) : Int := if ¬ (0 ≤ b ∧ b ≤ 1) ∨ ¬ (0 ≤ p ∧ p ≤ 15) ∨ ¬ (0 ≤ w ∧ w ≤ 5) then -1 else if w = 0 then s (24 + 4 * (16 * b + p)) else if w = 4 then lin p else if w = 5 then lat p else if s (24 + 4 * (16 * b + p)) = 2 then s (24 + 4 * (16 * b + p) + w) else -4
def bpF (s : Int → Int) (b l w : Int) : Int := if ¬ (0 ≤ b ∧ b ≤ 1) ∨ ¬ (0 ≤ l ∧ l ≤ 7) ∨ ¬ (0 ≤ w ∧ w ≤ 3) then -1 else if s (152 + 4 * (8 * b + l)) = 0 then -4 else if 0 < w then s (152 + 4 * (8 * b + l) + w) else if s (152 + 4 * (8 * b + l)) = 2 then 1 else 0
def wtF (s : Int → Int) (i w : Int) : Int := if i < 0 ∨ ¬ (0 ≤ w ∧ w ≤ 2) then -1 else if i < s 11 then s (216 + 4 * i + w) else -4
def trA (s : Int → Int) : Nat → Int
  | 0 => 0
  | k + 1 => trA s k + if s (24 + 4 * (k : Int)) = 3 then 1 else 0
def kyA (s : Int → Int) : Nat → Int
  | 0 => 0
  | k + 1 => kyA s k + if plc s (k : Int) < 0 then 0 else 1
def ctF (s : Int → Int) (n len w : Int) : Int :=
  if w = 0 ∨ w = 2 then s w else if w = 1 then 1 - s 1 else if w = 3 then nxt s else if w = 4 then s 11 else if w = 5 then iwF s
  else if w = 6 then (if iwF s = 1 then s 253 + s 254 else -4) else if 7 ≤ w ∧ w ≤ 9 then s (3 + w - 7) else if w = 10 then trA s 32 else if w = 11 then kyA s 12
  else if w = 12 ∨ w = 13 then s (6 + w - 12) else if w = 14 ∨ w = 15 then s (8 + w - 14) else if w = 16 then n else len
def cnF (s : Int → Int) (n len w : Int) : Int := if 0 ≤ w ∧ w ≤ 17 then ctF s n len w else if 20 ≤ w ∧ w ≤ 23 then s (20 + w - 20) else if 30 ≤ w ∧ w ≤ 37 then s (12 + w - 30) else -1
/-- what a question leaves -/
def KEEP (hi h : HI) : Prop := (∀ a : Nat, a < 125 → ∀ k : Nat, h a k = hi a k) ∧ (∀ k : Nat, h 129 k = hi 129 k) ∧ h 125 3 = hi 125 3 ∧ h 125 5 = hi 125 5 ∧ (∀ k : Int, 0 ≤ k → k < 256 → sg h k = sg hi k) ∧ ∀ k : Nat, h 128 k = hi 128 k
theorem KEEP.rf (hi : HI) : KEEP hi hi := ⟨fun _ _ _ => rfl, fun _ => rfl, rfl, rfl, fun _ _ _ => rfl, fun _ => rfl⟩
theorem keep_of {hi X : HI} {f : Int → Int} {s2 : Int → Int} (hX : ∀ a : Nat, a < 125 ∨ a = 129 → ∀ k : Nat, X a k = hi a k) (hf3 : f 3 = hi 125 3) (hf5 : f 5 = hi 125 5) :
    KEEP hi (mh X f (pst hi) (bgnA (sg hi) (bn hi) 256) (bgnA (bgnA (sg hi) (bn hi) 256) s2 256)) := by
  refine ⟨fun a ha k => ?_, fun k => ?_, ?_, ?_, fun k h1 h2 => ?_, fun k => ?_⟩
  · rw [mh_x _ _ _ _ _ _ (by omega), hX a (by omega) k]
  · rw [mh_x _ _ _ _ _ _ (by omega), hX 129 (by omega) k]
  · rw [mh_f _ _ _ _ _ 3 3 rfl, hf3]
  · rw [mh_f _ _ _ _ _ 5 5 rfl, hf5]
  · rw [sg_mh _ _ _ _ _ h1, bgnA_at, if_pos ⟨h1, by omega⟩, bgnA_at, if_pos ⟨h1, by omega⟩]
  · unfold mh
    rw [pa_gn _ _ _ (by decide), pa_gn _ _ _ (by decide), pa_g]
    show hi 128 (k : Int).toNat = _
    rw [Int.toNat_natCast]
def wlF (s : Int → Int) (t : Int) : Int := if ¬ (0 ≤ t ∧ t ≤ 200) then -1 else if s 1 = 1 then -2 else (lsF (goA s t.toNat) : Int)
def diA : Nat → (Int → Int) → Int → (Int → Int) × Int
  | 0, s, n => (s, n)
  | d + 1, s, n => if iwF s = 1 ∨ (0 < s 11 ∧ nxt s < 16) then diA d (tiF s) (n + 1) else (s, n)
def diF (s : Int → Int) : Int := if s 1 = 1 then -2 else let q := diA 1000000 s 0; if 0 < q.1 11 then -4 else q.2
/-- what is left to do, as a number that falls -/
def mu (s : Int → Int) : Int := s 11 * 100210 + s 253 + s 254
def ML (s : Int → Int) : Prop := s 253 ≤ 2 ∧ s 254 ≤ 100200
theorem bgF_11 {s : Int → Int} (h : MI s) {p : Int} (h2 : 0 ≤ p) (h3 : p ≤ 15) (h4 : 0 < s 11) : bgF s p 11 = s 11 - 1 := by rw [bgF_at h h2 h3 h4, if_pos rfl]
theorem bgF_L {s : Int → Int} (h : MI s) {p : Int} (h2 : 0 ≤ p) (h3 : p ≤ 15) (h4 : 0 < s 11) : ML (bgF s p) := by
  have hb := h.2.1
  have hl8 := lin_b h2 (by omega)
  have h8 := h.2.2.1
  have e1 := h.2.2.2.2.2.2.2.2.2.1 (20 + lat p) (by rcases lat_b p with q | q <;> omega) (by rcases lat_b p with q | q <;> omega)
  have e2 := h.2.2.2.2.2.2.2.2.2.1 (12 + lin p) (by omega) (by omega)
  have e5 := h.z (6 + s 2) (by unfold xc; omega)
  have e6 : s (6 + s 2) ≤ 100000 := by
    rcases hb with q | q <;> rw [q]
    · exact h.2.2.2.2.2.2.2.1
    · exact h.2.2.2.2.2.2.2.2.1
  have e7 := ediv_b e5 h.2.2.2.2.1
  constructor
  · rw [bgF_at h h2 h3 h4, if_neg (by omega), if_neg (by omega), if_neg (by omega), bgB_at h h2 h3]
    rw [if_neg (by omega), if_neg (by omega), if_neg (by omega), if_neg (by omega), if_pos rfl]
    split <;> omega
  · rw [bgF_at h h2 h3 h4, if_neg (by omega), if_neg (by omega), if_neg (by omega), bgB_at h h2 h3]
    rw [if_neg (by omega), if_neg (by omega), if_neg (by omega), if_pos rfl]
    omega
theorem tkA_L {p : Int} (hp : 0 ≤ p) : ∀ (d : Nat) (s : Int → Int), MI s → ML s → (s 10 + 1 ≤ s 0 ∨ iwF s = 1) → ML (tkA p d s) ∧ tkA p d s 11 ≤ s 11 ∧ (d ≠ 0 → p < 16 → 0 < s 11 → iwF s = 0 → tkA p d s 11 + 1 ≤ s 11) := by
  intro d
  induction d with
  | zero => intro s h hl _; exact ⟨hl, Int.le_refl _, fun h => absurd rfl h⟩
  | succ d ih =>
    intro s h hl h1
    unfold tkA
    split
    · next c =>
      have h1 : s 10 + 1 ≤ s 0 := by
        rcases h1 with g | g
        · exact g
        · rw [c.2.2] at g; exact absurd g (by decide)
      by_cases hp1 : psF s = 1
      · rw [if_pos hp1]
        have e11 : gfF s 11 = s 11 - 1 := by rw [gfF_at s c.2.1, if_pos rfl]
        have g := ih (gfF s) (gfF_M h c.2.1) ⟨by rw [gfF_x2 c.2.1 h.2.2.1 (by omega)]; exact hl.1, by rw [gfF_x2 c.2.1 h.2.2.1 (by omega)]; exact hl.2⟩ (Or.inl (by rw [gfF_x c.2.1 (by omega) (by omega), gfF_x c.2.1 (by omega) (by omega)]; exact h1))
        exact ⟨g.1, by omega, fun _ _ _ _ => by omega⟩
      · rw [if_neg hp1]
        have e11 := bgF_11 h hp (p := p) (by omega) c.2.1
        have g := ih (bgF s p) (bgF_M h h1 hp (by omega) c.2.1) (bgF_L h hp (by omega) c.2.1) (Or.inr (iw_1 (bgF_254 h hp (by omega) c.2.1)))
        exact ⟨g.1, by omega, fun _ _ _ _ => by omega⟩
    · next c => exact ⟨hl, Int.le_refl _, fun _ q1 q2 q3 => absurd ⟨q1, q2, q3⟩ c⟩
theorem enF_x {s : Int → Int} (h : MI s) {x : Int} (hx : 216 ≤ x) (hx2 : x < 248) : enF s x = s x := by
  have h0 := h.z 248 (by unfold xc; omega)
  have h1 := h.2.2.2.1
  have hb := h.2.1
  have hl8 := lin_b h0 (by omega)
  simp only [enF, clN]
  rw [zA_at, if_neg (by omega), up1_n _ _ (by omega)]
  unfold en2
  split
  · unfold clB; rw [zA_at, if_neg (by omega), en1_x h (by omega)]
  · rw [en1_x h (by omega)]
theorem enF_11 {s : Int → Int} (h : MI s) : enF s 11 = s 11 := by
  have h0 := h.z 248 (by unfold xc; omega)
  have h1 := h.2.2.2.1
  have hb := h.2.1
  have hl8 := lin_b h0 (by omega)
  simp only [enF, clN]
  rw [zA_at, if_neg (by omega), up1_n _ _ (by omega)]
  unfold en2
  split
  · unfold clB; rw [zA_at, if_neg (by omega), en1_x h (by omega)]
  · rw [en1_x h (by omega)]
theorem enF_n {s : Int → Int} {x : Int} (hx : 248 ≤ x ∧ x < 256) : enF s x = 0 := by
  simp only [enF, clN]
  rw [zA_at, if_pos (by omega)]
theorem ti2_L {s : Int → Int} (h : MI s) (hl : ML s) : ML (ti2 s) ∧ ti2 s 11 = s 11 ∧ (iwF s = 1 → ti2 s 253 + ti2 s 254 + 1 ≤ s 253 + s 254) ∧ ti2 s 253 + ti2 s 254 ≤ s 253 + s 254 := by
  have z3 := h.z 253 (by unfold xc; omega)
  have z4 := h.z 254 (by unfold xc; omega)
  have h0 := h.z 248 (by unfold xc; omega)
  have h1 := h.2.2.2.1
  have hb := h.2.1
  have hl8 := lin_b h0 (by omega)
  obtain ⟨l1, l2⟩ := hl
  unfold ti2
  dsimp only
  split
  · next c =>
    have a1 : up1 s 253 (s 253 - 1) 253 = s 253 - 1 := up1_s _ _ _
    have a2 : up1 s 253 (s 253 - 1) 254 = s 254 := up1_n _ _ (by omega)
    have a3 : up1 s 253 (s 253 - 1) 11 = s 11 := up1_n _ _ (by omega)
    have a4 : up1 s 253 (s 253 - 1) 2 = s 2 := up1_n _ _ (by omega)
    have a5 : up1 s 253 (s 253 - 1) 248 = s 248 := up1_n _ _ (by omega)
    split
    · rw [a4, a5]
      refine ⟨⟨?_, ?_⟩, ?_, fun _ => ?_, ?_⟩
      all_goals (try rw [up1_n (k := 9) _ _ (by omega), up1_n (k := 152 + 4 * (8 * s 2 + lin (s 248))) _ _ (by omega)])
      · omega
      · omega
      · exact a3
      · rw [up1_n (k := 9) _ _ (by omega), up1_n (k := 152 + 4 * (8 * s 2 + lin (s 248))) _ _ (by omega)]; omega
      · rw [up1_n (k := 9) _ _ (by omega), up1_n (k := 152 + 4 * (8 * s 2 + lin (s 248))) _ _ (by omega)]; omega
    · exact ⟨⟨by omega, by omega⟩, a3, fun _ => by omega, by omega⟩
  · next c =>
    split
    · next c2 =>
      have m2 : MI (up1 (up1 s 254 (s 254 - 1)) 255 1) := (h.far (k := 254) (by omega) (by omega) (by omega) (by have := h.b 254 (by unfold xc; omega); omega)).far (by omega) (by omega) (by omega) (by unfold BIG; omega)
      have a1 : up1 (up1 s 254 (s 254 - 1)) 255 1 254 = s 254 - 1 := by rw [up1_n _ _ (by omega), up1_s]
      have a2 : up1 (up1 s 254 (s 254 - 1)) 255 1 253 = s 253 := by rw [up1_n _ _ (by omega), up1_n _ _ (by omega)]
      have a3 : up1 (up1 s 254 (s 254 - 1)) 255 1 11 = s 11 := by rw [up1_n _ _ (by omega), up1_n _ _ (by omega)]
      split
      · rw [enF_11 m2, enF_n (x := 253) (by omega), enF_n (x := 254) (by omega)]
        exact ⟨⟨by rw [enF_n (x := 253) (by omega)]; omega, by rw [enF_n (x := 254) (by omega)]; omega⟩, a3, fun _ => by omega, by omega⟩
      · exact ⟨⟨by omega, by omega⟩, a3, fun _ => by omega, by omega⟩
    · next c2 => exact ⟨⟨l1, l2⟩, rfl, fun q => by unfold iwF at q; rw [if_neg (by omega)] at q; exact absurd q (by decide), Int.le_refl _⟩
theorem iw_time (s : Int → Int) (v : Int) : iwF (up1 s 0 v) = iwF s := by
  unfold iwF; rw [up1_n _ _ (by omega), up1_n _ _ (by omega)]
theorem nxA_cong {s t : Int → Int} (h2 : s 2 = t 2) (hb : s 2 = 0 ∨ s 2 = 1) (h : ∀ x, 24 ≤ x → x < 152 → s x = t x) : ∀ (d : Nat) (p : Int), 0 ≤ p → p + d ≤ 16 → nxA s d p = nxA t d p := by
  intro d
  induction d with
  | zero => intro p _ _; rfl
  | succ d ih =>
    intro p h0 h1
    unfold nxA
    rw [← h2, h _ (by omega) (by omega), ih (p + 1) (by omega) (by omega)]
theorem nxt_cong {s t : Int → Int} (h2 : s 2 = t 2) (hb : s 2 = 0 ∨ s 2 = 1) (h : ∀ x, 24 ≤ x → x < 152 → s x = t x) : nxt s = nxt t := nxA_cong h2 hb h 16 0 (by omega) (by omega)
theorem tiF_mu {s : Int → Int} (h : MI s) (hl : ML s) (hb : s 0 + 1 ≤ BIG) (hc : iwF s = 1 ∨ (0 < s 11 ∧ nxt s < 16)) : mu (tiF s) + 1 ≤ mu s ∧ ML (tiF s) := by
  have m := h.time hb
  have e0 : up1 s 0 (s 0 + 1) 0 = s 0 + 1 := up1_s _ _ _
  have e10 : up1 s 0 (s 0 + 1) 10 = s 10 := up1_n _ _ (by omega)
  have e11 : up1 s 0 (s 0 + 1) 11 = s 11 := up1_n _ _ (by omega)
  have e53 : up1 s 0 (s 0 + 1) 253 = s 253 := up1_n _ _ (by omega)
  have e54 : up1 s 0 (s 0 + 1) 254 = s 254 := up1_n _ _ (by omega)
  have h10 := h.2.2.2.2.2.2.1
  have z3 := h.z 253 (by unfold xc; omega)
  have z4 := h.z 254 (by unfold xc; omega)
  have hl2 : ML (up1 s 0 (s 0 + 1)) := ⟨by rw [e53]; exact hl.1, by rw [e54]; exact hl.2⟩
  have M1 := (ti1_M h hb).1
  have en : nxt (up1 s 0 (s 0 + 1)) = nxt s := nxt_cong (up1_n _ _ (by omega)) (by rw [up1_n _ _ (by omega)]; exact h.2.1) (fun x h1 h2 => up1_n _ _ (by omega))
  by_cases hw : iwF s = 0
  · have hc2 : 0 < s 11 ∧ nxt s < 16 := by
      rcases hc with q | q
      · rw [hw] at q; exact absurd q (by decide)
      · exact q
    have e1 : ti1 s = tkF (up1 s 0 (s 0 + 1)) := by unfold ti1; dsimp only; rw [if_pos (by rw [iw_time]; exact hw)]
    have g := tkA_L (nxt_b (up1 s 0 (s 0 + 1))).1 9 _ m hl2 (Or.inl (by rw [e0, e10]; omega))
    have g3 := g.2.2 (by decide) (by rw [en]; exact hc2.2) (by rw [e11]; exact hc2.1) (by rw [iw_time]; exact hw)
    have g4 : ML (ti1 s) := by rw [e1]; exact g.1
    have g5 : ti1 s 11 + 1 ≤ s 11 := by rw [e1]; rw [e11] at g3; exact g3
    have t := ti2_L M1 g4
    have z11 := M1.z 11 (by unfold xc; omega)
    refine ⟨?_, t.1⟩
    unfold mu tiF
    rw [t.2.1]
    obtain ⟨q1, q2⟩ := g4
    have := t.2.2.2
    omega
  · have hw1 : iwF s = 1 := by rcases iw_b s with q | q; exact absurd q hw; exact q
    have e1 : ti1 s = up1 s 0 (s 0 + 1) := by unfold ti1; dsimp only; rw [if_neg (by rw [iw_time]; exact hw)]
    have t := ti2_L m hl2
    refine ⟨?_, by unfold tiF; rw [e1]; exact t.1⟩
    unfold mu tiF
    rw [e1, t.2.1, e11]
    have := t.2.2.1 (by rw [iw_time]; exact hw1)
    rw [e53, e54] at this
    omega
