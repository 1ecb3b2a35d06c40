/-! the relation between a State of the class and a row of the twin -/
def RC (t : TS) (s : Int → Int) : Prop := ∀ c : Int, 0 ≤ c → c < 48 → t 2 c = s (atI c) ∧ ((t 2 c = 2 ∨ (16 ≤ c % 24 ∧ ¬ t 2 c = 0)) → t 3 c = s (atI c + 1) ∧ t 4 c = s (atI c + 2) ∧ t 5 c = s (atI c + 3))
def RQ (t : TS) (s : Int → Int) : Prop := t 6 4 = s 11 ∧ ∀ i : Int, 0 ≤ i → i < s 11 → t 7 i = s (216 + 4 * i) ∧ t 8 i = s (216 + 4 * i + 1) ∧ t 9 i = s (216 + 4 * i + 2) ∧ t 10 i = s (216 + 4 * i + 3) ∧ (t 9 i = 0 ∨ t 9 i = 3 → 0 < t 10 i)
def RNx (t : TS) (s : Int → Int) : Prop := (0 ≤ t 0 10 ∧ t 0 10 ≤ 16) ∧ t 0 9 = s 2 ∧ ∀ p : Int, 0 ≤ p → p < 16 → (t 2 (24 * s 2 + p) = 0 ↔ t 0 10 ≤ p)
def RWb (t : TS) (s : Int → Int) : Prop := t 11 1 = lat (s 248) ∧ t 11 2 = s 251 ∧ t 11 3 = 24 * s 2 + s 248 ∧ t 11 4 = 24 * s 2 + ear (lin (s 248)) ∧ t 11 5 = 24 * s 2 + (16 + lin (s 248)) ∧ t 11 7 = s 253 + s 254 ∧
  s 254 ≤ t 11 6 ∧ (0 < s 253 → s 254 = t 11 6) ∧ 1 ≤ s 254 ∧ s 255 = (if s 254 < t 11 6 then 1 else 0) ∧ s 248 = t 0 10 - 1 ∧ t 2 (24 * s 2 + s 248) = 1 ∧ t 3 (24 * s 2 + s 248) = s 249 ∧ t 4 (24 * s 2 + s 248) = s 250 ∧ t 5 (24 * s 2 + s 248) = s 252 ∧
  (0 < s 253 → t 2 (24 * s 2 + (16 + lin (s 248))) = 1)
def RWr (t : TS) (s : Int → Int) : Prop := t 11 0 = iwF s ∧ (iwF s = 1 → RWb t s) ∧ ∀ c : Int, 0 ≤ c → c < 48 → 16 ≤ c % 24 → t 2 c = 1 → iwF s = 1 ∧ 0 < s 253 ∧ c = 24 * s 2 + (16 + lin (s 248))
def RTl (t : TS) (s : Int → Int) : Prop := (t 12 1 = s 10 ∧ t 12 2 = s 3 ∧ t 12 3 = s 4 ∧ t 12 4 = s 5 ∧ t 12 5 = s 8 ∧ t 12 6 = s 9) ∧ t 0 8 = 1 - s 1 ∧ (∀ i : Int, 0 ≤ i → i < 4 → t 13 i = s (20 + i)) ∧ (∀ i : Int, 0 ≤ i → i < 8 → t 14 i = s (12 + i)) ∧ ∀ i : Int, 0 ≤ i → i < 2 → t 15 i = s (6 + i)
def Rl (t : TS) (s : Int → Int) : Prop := (MI s ∧ ML s) ∧ (CR t ∧ QR t ∧ WR t) ∧ RC t s ∧ RQ t s ∧ RNx t s ∧ RWr t s ∧ RTl t s
theorem plA_kind {s : Int → Int} (key : Int) : ∀ k : Nat, (plA s key k).1 = -1 ∧ (plA s key k).2 = 0 ∨ (0 ≤ (plA s key k).1 ∧ (plA s key k).1 < k ∧ s (atI (plA s key k).1) = 2 ∧ s (atI (plA s key k).1 + 1) = key ∧ s (atI (plA s key k).1 + 3) = (plA s key k).2 ∧ 0 < (plA s key k).2) := by
  intro k
  induction k with
  | zero => left; exact ⟨rfl, rfl⟩
  | succ k ih =>
    unfold plA
    split
    · next c =>
      right
      refine ⟨by dsimp only; omega, by dsimp only; omega, c.1, c.2.1, rfl, ?_⟩
      dsimp only
      rcases ih with ih | ih <;> omega
    · rcases ih with ih | ih
      · exact Or.inl ih
      · exact Or.inr ⟨ih.1, by omega, ih.2.2⟩
theorem plA_eq {t : TS} {s : Int → Int} (h : RC t s) (key : Int) : ∀ k : Nat, k ≤ 48 → pcA t key k = plA s key k := by
  intro k
  induction k with
  | zero => intro _; rfl
  | succ k ih =>
    intro hk
    have e := h (k : Int) (by omega) (by omega)
    unfold pcA plA
    rw [ih (by omega), e.1]
    by_cases c : s (atI (k : Int)) = 2
    · have e2 := e.2 (Or.inl (by rw [e.1]; exact c))
      rw [e2.1, e2.2.2]
    · rw [if_neg (fun g => c g.1), if_neg (fun g => c g.1)]
theorem plc_eq {t : TS} {s : Int → Int} (h : RC t s) (key : Int) : pcF t key = plc s key := by
  unfold pcF plc; rw [plA_eq h key 48 (by omega)]
theorem plc_k {s : Int → Int} (key : Int) : plc s key = -1 ∨ (0 ≤ plc s key ∧ plc s key < 48 ∧ s (atI (plc s key)) = 2 ∧ s (atI (plc s key) + 1) = key ∧ 0 < s (atI (plc s key) + 3)) := by
  rcases plA_kind (s := s) key 48 with g | g
  · exact Or.inl g.1
  · obtain ⟨g1, g2, g3, g4, g5, g6⟩ := g
    rw [← g5] at g6
    exact Or.inr ⟨g1, g2, g3, g4, g6⟩
theorem ip_eq {t : TS} {s : Int → Int} (h : RC t s) {c : Int} (h0 : 0 ≤ c) (h1 : c < 48) : ipC t c = ipF s c := by
  have e := h c h0 h1
  have k1 : kdF t c = t 2 c := by unfold kdF; rw [if_pos ⟨h0, h1⟩]
  have k2 : kyF t c = t 3 c := by unfold kyF; rw [if_pos ⟨h0, h1⟩]
  unfold ipC ipF
  rw [k1, k2, e.1]
  by_cases k : s (atI c) = 2
  · have e2 := e.2 (Or.inl (by rw [e.1]; exact k))
    rw [e2.1, plc_eq h]
  · rw [if_neg (fun g => k g.1), if_neg (fun g => k g.1)]
theorem st_eq {t : TS} {s : Int → Int} (h : RC t s) (key : Int) : psC t key = stF s key := by
  unfold psC stF
  rw [plc_eq h]
  rcases plc_k (s := s) key with g | ⟨g1, g2, g3, g4, g5⟩
  · rw [if_pos g, if_pos (by omega)]
  · rw [if_neg (by omega), if_neg (by omega)]
    unfold spF
    rw [if_pos ⟨g1, g2⟩]
    have e := h _ g1 g2
    exact (e.2 (Or.inl (by rw [e.1]; exact g3))).2.2
theorem ct_eq {t : TS} {s : Int → Int} (h : RC t s) {b : Int} (hb : b = 0 ∨ b = 1) : ∀ k : Nat, k ≤ 24 → ctC t b k = ctA s b k := by
  intro k
  induction k with
  | zero => intro _; rfl
  | succ k ih =>
    intro hk
    unfold ctC ctA
    rw [ih (by omega), ip_eq h (by omega) (by omega), show b * 24 + (k : Int) = 24 * b + (k : Int) by omega]
theorem od_eq {t : TS} {s : Int → Int} (hC : RC t s) (hQ : RQ t s) (hQR : QR t) (h : 0 < s 11) : odC t = psF s := by
  obtain ⟨e1, e2, e3, e4, e5⟩ := hQ.2 0 (by omega) h
  have hu := hQR.2 0 (by decide) (by decide)
  have h3 := hu.2.2.1
  have a1 : ruF t 0 = s 218 := by unfold ruF; rw [if_pos (by decide), e3]; rfl
  have a2 : rkF t 0 = s 216 := by unfold rkF; rw [if_pos (by decide), e1]; rfl
  have a3 : rsF t 0 = s 219 := by unfold rsF; rw [if_pos (by decide), e4]; rfl
  have b3 : t 9 0 = s 218 := e3
  have b4 : t 10 0 = s 219 := e4
  unfold odC psF
  rw [a1, a2, a3, plc_eq hC]
  by_cases c : s 218 = 0 ∨ s 218 = 3
  · rw [if_neg (by omega)]
    have hm : s 218 % 3 = 0 := by rcases c with c | c <;> rw [c] <;> rfl
    have hst : 0 < s 219 := by rw [← b4]; exact e5 (by rw [b3]; exact c)
    unfold stF
    rcases plc_k (s := s) (s 216) with g | ⟨g1, g2, g3, g4, g5⟩
    · rw [if_pos (Or.inl g), if_pos (show plc s (s 216) < 0 by omega), if_pos ⟨hm, by omega⟩]
    · have e := hC _ g1 g2
      have e6 : spF t (plc s (s 216)) = s (atI (plc s (s 216)) + 3) := by
        unfold spF; rw [if_pos ⟨g1, g2⟩]; exact (e.2 (Or.inl (by rw [e.1]; exact g3))).2.2
      rw [e6, if_neg (show ¬ plc s (s 216) < 0 by omega)]
      by_cases d : s (atI (plc s (s 216)) + 3) = s 219
      · rw [if_neg (by omega), if_neg (fun g => g.2 d)]
      · rw [if_pos (Or.inr d), if_pos ⟨hm, d⟩]
  · rw [if_pos (by omega), if_neg (by omega)]
/-- the relation looks at what is named only -/
theorem MI.of_gf {s : Int → Int} (h : MI s) (h0 : 0 < s 11) : MI (gfF s) := gfF_M h h0
theorem atI_lo {c : Int} (h0 : 0 ≤ c) (h1 : c < 48) : 24 ≤ atI c ∧ atI c + 3 < 216 := atI_b h0 h1
theorem atI_pg {b p : Int} (hb : b = 0 ∨ b = 1) (h0 : 0 ≤ p) (h1 : p < 16) : atI (24 * b + p) = 24 + 4 * (16 * b + p) := by
  unfold atI
  have e1 : (24 * b + p) % 24 = p := by omega
  have e2 : (24 * b + p) / 24 = b := by omega
  rw [e1, e2, if_pos h1]
theorem atI_bk {b l : Int} (hb : b = 0 ∨ b = 1) (h0 : 0 ≤ l) (h1 : l < 8) : atI (24 * b + (16 + l)) = 152 + 4 * (8 * b + l) := by
  unfold atI
  have e1 : (24 * b + (16 + l)) % 24 = 16 + l := by omega
  have e2 : (24 * b + (16 + l)) / 24 = b := by omega
  rw [e1, e2, if_neg (by omega), show 16 + l - 16 = l by omega]
theorem atI_inj {c d : Int} (h0 : 0 ≤ c) (h1 : c < 48) (g0 : 0 ≤ d) (g1 : d < 48) (hn : ¬ c = d) : atI c + 4 ≤ atI d ∨ atI d + 4 ≤ atI c := by
  unfold atI
  split <;> split <;> omega
