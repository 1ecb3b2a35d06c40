/-! the class's cells as functions of a State's rows -/
def kdF (t : TS) (c : Int) : Int := if 0 ≤ c ∧ c < 48 then t 2 c else 0
def kyF (t : TS) (c : Int) : Int := if 0 ≤ c ∧ c < 48 then t 3 c else -1
def vlF (t : TS) (c : Int) : Int := if 0 ≤ c ∧ c < 48 then t 4 c else 0
def spF (t : TS) (c : Int) : Int := if 0 ≤ c ∧ c < 48 then t 5 c else 0
def faC (t : TS) (c w : Int) : Int := if w = 1 then kyF t c else if w = 2 then vlF t c else spF t c
def bgC (t : TS) (c k v s : Int) : TS := if 0 ≤ c ∧ c < 48 then ut (ut (ut (ut t 2 c 1) 3 c k) 4 c v) 5 c s else t
def bbC (t : TS) (e b : Int) : TS := if (0 ≤ e ∧ e < 48) ∧ 0 ≤ b ∧ b < 48 then
  ut (ut (ut (ut t 2 b 1) 3 b (ut t 2 b 1 3 e)) 4 b (ut (ut t 2 b 1) 3 b (ut t 2 b 1 3 e) 4 e)) 5 b (ut (ut (ut t 2 b 1) 3 b (ut t 2 b 1 3 e)) 4 b (ut (ut t 2 b 1) 3 b (ut t 2 b 1 3 e) 4 e) 5 e) else t
def mkC (t : TS) (c k : Int) : TS := if 0 ≤ c ∧ c < 48 then ut t 2 c k else t
def bkC (t : TS) (b : Int) : Nat → TS
  | 0 => t
  | k + 1 => mkC (bkC t b k) (b * 24 + (k : Int)) 0
def ibC (t : TS) (b : Int) : Nat → Int
  | 0 => 1
  | k + 1 => if ibC t b k = 1 ∧ kdF t (b * 24 + (k : Int)) = 0 then 1 else 0
theorem ibC_b (t : TS) (b : Int) (k : Nat) : ibC t b k = 0 ∨ ibC t b k = 1 := by
  cases k with
  | zero => exact Or.inr rfl
  | succ k => unfold ibC; split <;> simp
theorem ibC_0 (t : TS) (b : Int) {k : Nat} (h : ibC t b k = 0) : ∀ d : Nat, ibC t b (k + d) = 0 := by
  intro d
  induction d with
  | zero => exact h
  | succ d ih =>
    show ibC t b ((k + d) + 1) = 0
    unfold ibC
    rw [if_neg (fun g => by have g1 := g.1; omega)]
def pcA (t : TS) (key : Int) : Nat → Int × Int
  | 0 => (-1, 0)
  | k + 1 => if t 2 (k : Int) = 2 ∧ t 3 (k : Int) = key ∧ (pcA t key k).2 < t 5 (k : Int) then ((k : Int), t 5 (k : Int)) else pcA t key k
def pcF (t : TS) (key : Int) : Int := (pcA t key 48).1
def ipC (t : TS) (c : Int) : Int := if kdF t c = 2 ∧ pcF t (kyF t c) = c then 1 else 0
def psC (t : TS) (key : Int) : Int := if pcF t key = -1 then 0 else spF t (pcF t key)
def ctC (t : TS) (b : Int) : Nat → Int
  | 0 => 0
  | k + 1 => ctC t b k + ipC t (b * 24 + (k : Int))
def toC (t : TS) : Nat → Int
  | 0 => 0
  | k + 1 => toC t k + if t 2 (k : Int) = 3 then 1 else 0
def kwC (t : TS) : Nat → Int
  | 0 => 0
  | k + 1 => kwC t k + if pcF t (k : Int) = -1 then 0 else 1
/-- a State's rows are in their ranges -/
def CR (t : TS) : Prop := ∀ c : Int, 0 ≤ c → c < 48 → (0 ≤ t 2 c ∧ t 2 c ≤ 3) ∧ InR (t 3 c) ∧ InR (t 4 c) ∧ 0 ≤ t 5 c ∧ t 5 c ≤ BIG
theorem CR.kd {t : TS} (h : CR t) (c : Int) : 0 ≤ kdF t c ∧ kdF t c ≤ 3 := by
  unfold kdF; split
  · next q => exact (h c q.1 q.2).1
  · exact ⟨by decide, by decide⟩
theorem CR.ky {t : TS} (h : CR t) (c : Int) : InR (kyF t c) := by
  unfold kyF; split
  · next q => exact (h c q.1 q.2).2.1
  · exact ⟨by decide, by decide⟩
theorem CR.vl {t : TS} (h : CR t) (c : Int) : InR (vlF t c) := by
  unfold vlF; split
  · next q => exact (h c q.1 q.2).2.2.1
  · exact ⟨by decide, by decide⟩
theorem CR.sp {t : TS} (h : CR t) (c : Int) : 0 ≤ spF t c ∧ spF t c ≤ BIG := by
  unfold spF; split
  · next q => exact (h c q.1 q.2).2.2.2
  · exact ⟨by decide, by decide⟩
theorem pcA_b {t : TS} (h : CR t) (key : Int) : ∀ k : Nat, k ≤ 48 → -1 ≤ (pcA t key k).1 ∧ (pcA t key k).1 < k ∧ 0 ≤ (pcA t key k).2 ∧ (pcA t key k).2 ≤ BIG := by
  intro k
  induction k with
  | zero => intro _; unfold pcA; exact ⟨by dsimp only; omega, by dsimp only; omega, by dsimp only; omega, by dsimp only; unfold BIG; omega⟩
  | succ k ih =>
    intro hk
    have g := ih (by omega)
    have c := (h (k : Int) (by omega) (by omega)).2.2.2
    unfold pcA
    split
    · exact ⟨by dsimp only; omega, by dsimp only; omega, c.1, c.2⟩
    · exact ⟨g.1, by omega, g.2.2⟩
theorem pcF_b {t : TS} (h : CR t) (key : Int) : -1 ≤ pcF t key ∧ pcF t key < 48 := by
  have := pcA_b h key 48 (by omega)
  unfold pcF
  exact ⟨this.1, this.2.1⟩
theorem ipC_b (t : TS) (c : Int) : ipC t c = 0 ∨ ipC t c = 1 := by unfold ipC; split <;> simp
theorem ctC_b (t : TS) (b : Int) : ∀ k : Nat, 0 ≤ ctC t b k ∧ ctC t b k ≤ k := by
  intro k
  induction k with
  | zero => unfold ctC; exact ⟨by omega, by omega⟩
  | succ k ih =>
    unfold ctC
    rcases ipC_b t (b * 24 + (k : Int)) with q | q <;> rw [q] <;> omega
theorem mkC_CR {t : TS} (h : CR t) (c : Int) {k : Int} (hk : 0 ≤ k ∧ k ≤ 3) : CR (mkC t c k) := by
  intro x h0 h1
  unfold mkC
  split
  · have g := h x h0 h1
    refine ⟨?_, ?_, ?_, ?_⟩
    · unfold ut; split
      · exact hk
      · exact g.1
    · rw [ut_n _ _ (by simp)]; exact g.2.1
    · rw [ut_n _ _ (by simp)]; exact g.2.2.1
    · rw [ut_n _ _ (by simp)]; exact g.2.2.2
  · exact h x h0 h1
theorem bkC_CR {t : TS} (h : CR t) (b : Int) : ∀ k : Nat, CR (bkC t b k) := by
  intro k
  induction k with
  | zero => exact h
  | succ k ih => exact mkC_CR ih _ ⟨by decide, by decide⟩
