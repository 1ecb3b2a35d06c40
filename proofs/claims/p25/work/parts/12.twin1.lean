/-! the twin's first methods -/
theorem exI {x y : Int} {h1 : HI} {r1 : HR} {n1 : Nat} (h : x = y) : EX (some (aI y)) h1 r1 n1 (some (aI x)) h1 r1 n1 := ⟨by rw [h], rfl, rfl, rfl⟩
theorem exH {x y : Int} {h1 h2 : HI} {r1 : HR} {n1 : Nat} (h : x = y) (hh : h1 = h2) : EX (some (aI y)) h2 r1 n1 (some (aI x)) h1 r1 n1 := ⟨by rw [h], hh, rfl, rfl⟩
theorem exV {h1 h2 : HI} {r1 : HR} {n1 : Nat} (hh : h1 = h2) : EX none h2 r1 n1 none h1 r1 n1 := ⟨rfl, hh, rfl, rfl⟩
def BIG : Int := 1000000
def xc (x : Int) : Prop := x < 0 ∨ 255 < x ∨ x = 3 ∨ x = 4 ∨ x = 5 ∨ x = 8 ∨ x = 9
/-- the twin's state: ranges (but what is counted without a bound) -/
def MI (s : Int → Int) : Prop := (∀ x, ¬ xc x → 0 ≤ s x ∧ s x ≤ BIG) ∧ (s 2 = 0 ∨ s 2 = 1) ∧ s 11 ≤ 8 ∧ s 248 ≤ 15 ∧ 1 ≤ s 23 ∧ (s 1 = 0 ∨ s 1 = 1) ∧ s 10 ≤ s 0 ∧ s 6 ≤ 100000 ∧ s 7 ≤ 100000 ∧ (∀ x, 12 ≤ x → x < 24 → s x ≤ 99) ∧ 1 ≤ s 20 ∧ 1 ≤ s 21
theorem MI.r {s : Int → Int} (h : MI s) (x : Int) (hx : ¬ xc x) : InR (s x) := by
  have := h.1 x hx
  unfold BIG at this
  exact ⟨by omega, by omega⟩
theorem MI.z {s : Int → Int} (h : MI s) (x : Int) (hx : ¬ xc x) : 0 ≤ s x := (h.1 x hx).1
def lat (p : Int) : Int := if p = 15 ∨ (0 < p ∧ p % 2 = 0) then 1 else 0
def lin (p : Int) : Int := if p = 15 then 7 else if 0 < p ∧ p % 2 = 0 then p / 2 - 1 else (p + 1) / 2
def ear (l : Int) : Int := if l = 0 then 0 else 2 * l - 1
def atI (c : Int) : Int := if c % 24 < 16 then 24 + 4 * (16 * (c / 24) + c % 24) else 152 + 4 * (8 * (c / 24) + (c % 24 - 16))
theorem atI_b {c : Int} (h0 : 0 ≤ c) (h1 : c < 48) : 24 ≤ atI c ∧ atI c + 3 < 216 := by
  unfold atI
  split <;> omega
def nxA (s : Int → Int) : Nat → Int → Int
  | 0, p => p
  | d + 1, p => if p < 16 ∧ ¬ s (24 + 4 * (16 * s 2 + p)) = 0 then nxA s d (p + 1) else p
def nxt (s : Int → Int) : Int := nxA s 16 0
def blA (s : Int → Int) (b : Int) : Nat → Int
  | 0 => 1
  | k + 1 => if blA s b k = 1 ∧ s (24 + 4 * (16 * b + (k : Int))) = 0 then 1 else 0
def plA (s : Int → Int) (key : Int) : Nat → Int × Int
  | 0 => (-1, 0)
  | k + 1 => if s (atI k) = 2 ∧ s (atI k + 1) = key ∧ (plA s key k).2 < s (atI k + 3) then ((k : Int), s (atI k + 3)) else plA s key k
def plc (s : Int → Int) (key : Int) : Int := (plA s key 48).1
def stF (s : Int → Int) (key : Int) : Int := if plc s key < 0 then 0 else s (atI (plc s key) + 3)
theorem plA_b (s : Int → Int) (key : Int) : ∀ k : Nat, k ≤ 48 → (plA s key k).1 = -1 ∧ (plA s key k).2 = 0 ∨ 0 ≤ (plA s key k).1 ∧ (plA s key k).1 < k ∧ (plA s key k).2 = s (atI (plA s key k).1 + 3) ∧ s (atI (plA s key k).1) = 2 ∧ s (atI (plA s key k).1 + 1) = key ∧ 0 < (plA s key k).2 := by
  intro k
  induction k with
  | zero => intro _; left; exact ⟨rfl, rfl⟩
  | succ k ih =>
    intro hk
    unfold plA
    split
    · next h =>
      right
      refine ⟨by simp, by simp; omega, rfl, h.1, h.2.1, ?_⟩
      rcases ih (by omega) with g | g
      · have := h.2.2; show 0 < s _; omega
      · have := h.2.2; show 0 < s _; omega
    · rcases ih (by omega) with g | g
      · exact Or.inl g
      · exact Or.inr ⟨g.1, by omega, g.2.2⟩
theorem plc_b (s : Int → Int) (key : Int) : plc s key = -1 ∨ 0 ≤ plc s key ∧ plc s key < 48 := by
  rcases plA_b s key 48 (by omega) with g | g
  · exact Or.inl g.1
  · exact Or.inr ⟨g.1, g.2.1⟩
section TWIN1
variable {E : ET} {hi : HI} {hr : HR} {s : Int → Int}
end TWIN1
