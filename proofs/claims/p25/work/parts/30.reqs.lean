/-! the class's requests as functions of a State's rows -/
def rkF (t : TS) (c : Int) : Int := if 0 ≤ c ∧ c < 8 then t 7 c else 0
def rvF (t : TS) (c : Int) : Int := if 0 ≤ c ∧ c < 8 then t 8 c else 0
def ruF (t : TS) (c : Int) : Int := if 0 ≤ c ∧ c < 8 then t 9 c else 0
def rsF (t : TS) (c : Int) : Int := if 0 ≤ c ∧ c < 8 then t 10 c else 0
def cp1 (t : TS) (j : Nat) (d f : Int) : TS := ut t j d (t j f)
def mvC (t : TS) (f d : Int) : TS := if (0 ≤ f ∧ f < 8) ∧ 0 ≤ d ∧ d < 8 then cp1 (cp1 (cp1 (cp1 t 7 d f) 8 d f) 9 d f) 10 d f else t
def ptC (t : TS) (i k v u s : Int) : TS := if 0 ≤ i ∧ i < 8 then ut (ut (ut (ut t 7 i k) 8 i v) 9 i u) 10 i s else t
def adI (t : TS) (u : Int) : Nat → Nat
  | 0 => 0
  | k + 1 => if u < ruF t (k : Int) then adI t u k else k + 1
def shR (t : TS) (n : Int) : Nat → TS
  | 0 => t
  | d + 1 => mvC (shR t n d) (n - (d : Int) - 1) (n - (d : Int))
def adM (t : TS) (u : Int) : TS := shR t (t 6 4) (t 6 4 - (adI t u (t 6 4).toNat : Int)).toNat
def adC (t : TS) (k v u s : Int) : TS :=
  if 8 ≤ t 6 4 then t else ptC (ut (adM t u) 6 4 (adM t u 6 4 + 1)) (adI t u (t 6 4).toNat : Int) k v u s
def dfA (t : TS) : Nat → TS
  | 0 => t
  | k + 1 => mvC (dfA t k) ((k : Int) + 1) (k : Int)
def dfC (t : TS) : TS := ut (dfA t (t 6 4 - 1).toNat) 6 4 (max 0 (dfA t (t 6 4 - 1).toNat 6 4 - 1))
theorem cp1_n (t : TS) {j x : Nat} (d f : Int) {y : Int} (h : x ≠ j) : cp1 t j d f x y = t x y := ut_n _ _ (fun g => h g.1)
theorem cp1_at (t : TS) (j : Nat) (d f y : Int) : cp1 t j d f j y = if y = d then t j f else t j y := by unfold cp1 ut; simp
theorem mvC_n (t : TS) (f d : Int) {x : Nat} (y : Int) (h : x < 7 ∨ 10 < x) : mvC t f d x y = t x y := by
  unfold mvC
  split
  · rw [cp1_n _ _ _ (by omega), cp1_n _ _ _ (by omega), cp1_n _ _ _ (by omega), cp1_n _ _ _ (by omega)]
  · rfl
theorem mvC_at (t : TS) {f d : Int} (hf : 0 ≤ f ∧ f < 8) (hd : 0 ≤ d ∧ d < 8) {x : Nat} (y : Int) (h : 7 ≤ x ∧ x ≤ 10) : mvC t f d x y = if y = d then t x f else t x y := by
  unfold mvC
  rw [if_pos ⟨hf, hd⟩]
  rcases (show x = 7 ∨ x = 8 ∨ x = 9 ∨ x = 10 by omega) with rfl | rfl | rfl | rfl
  · rw [cp1_n _ _ _ (by decide), cp1_n _ _ _ (by decide), cp1_n _ _ _ (by decide), cp1_at]
  · rw [cp1_n _ _ _ (by decide), cp1_n _ _ _ (by decide), cp1_at, cp1_n _ _ _ (by decide), cp1_n _ _ _ (by decide)]
  · rw [cp1_n _ _ _ (by decide), cp1_at, cp1_n _ _ _ (by decide), cp1_n _ _ _ (by decide), cp1_n _ _ _ (by decide), cp1_n _ _ _ (by decide)]
  · rw [cp1_at, cp1_n _ _ _ (by decide), cp1_n _ _ _ (by decide), cp1_n _ _ _ (by decide), cp1_n _ _ _ (by decide), cp1_n _ _ _ (by decide), cp1_n _ _ _ (by decide)]
theorem shR_n (t : TS) (n : Int) {x : Nat} (y : Int) (h : x < 7 ∨ 10 < x) : ∀ d : Nat, shR t n d x y = t x y := by
  intro d
  induction d with
  | zero => rfl
  | succ d ih => unfold shR; rw [mvC_n _ _ _ _ h, ih]
theorem shR_at (t : TS) {n : Int} (hn : n ≤ 7) {x : Nat} (h : 7 ≤ x ∧ x ≤ 10) : ∀ (d : Nat) (y : Int), (d : Int) ≤ n → shR t n d x y = if n - d < y ∧ y ≤ n then t x (y - 1) else t x y := by
  intro d
  induction d with
  | zero => intro y _; rw [if_neg (by omega)]; rfl
  | succ d ih =>
    intro y hd
    unfold shR
    rw [mvC_at _ (by omega) (by omega) _ h]
    by_cases e : y = n - (d : Int)
    · rw [if_pos e, ih _ (by omega), if_neg (by omega), if_pos (by omega), e]
    · rw [if_neg e, ih _ (by omega)]
      by_cases e2 : n - d < y ∧ y ≤ n
      · rw [if_pos e2, if_pos (by omega)]
      · rw [if_neg e2, if_neg (by omega)]
theorem adI_le (t : TS) (u : Int) : ∀ k : Nat, adI t u k ≤ k := by
  intro k
  induction k with
  | zero => exact Nat.le_refl _
  | succ k ih => unfold adI; split <;> omega
theorem adM_n (t : TS) (u : Int) {x : Nat} (y : Int) (h : x < 7 ∨ 10 < x) : adM t u x y = t x y := shR_n _ _ _ h _
theorem ptC_n (t : TS) (i k v u s : Int) {x : Nat} (y : Int) (h : x < 7 ∨ 10 < x) : ptC t i k v u s x y = t x y := by
  unfold ptC
  split
  · rw [ut_n _ _ (by omega), ut_n _ _ (by omega), ut_n _ _ (by omega), ut_n _ _ (by omega)]
  · rfl
/-- a request that comes: its place, and the rows -/
theorem adC_n (t : TS) (k v u s : Int) {x : Nat} (y : Int) (h : x < 6 ∨ 10 < x) : adC t k v u s x y = t x y := by
  unfold adC
  split
  · rfl
  · rw [ptC_n _ _ _ _ _ _ _ (by omega), ut_n _ _ (by omega), adM_n _ _ _ (by omega)]
theorem adC_6 (t : TS) (k v u s : Int) (h8 : t 6 4 < 8) : adC t k v u s 6 4 = t 6 4 + 1 := by
  unfold adC
  rw [if_neg (by omega), ptC_n _ _ _ _ _ _ _ (by omega), ut_s, adM_n _ _ _ (by omega)]
theorem adC_at (t : TS) (k v u s : Int) (h0 : 0 ≤ t 6 4) (h8 : t 6 4 < 8) {x : Nat} (hx : 7 ≤ x ∧ x ≤ 10) (y : Int) :
    adC t k v u s x y = if y = (adI t u (t 6 4).toNat : Int) then (if x = 7 then k else if x = 8 then v else if x = 9 then u else s)
      else if (adI t u (t 6 4).toNat : Int) < y ∧ y ≤ t 6 4 then t x (y - 1) else t x y := by
  have hi := adI_le t u (t 6 4).toNat
  unfold adC
  rw [if_neg (by omega)]
  unfold ptC
  rw [if_pos ⟨by omega, by omega⟩]
  have hm : ∀ y, ut (adM t u) 6 4 (adM t u 6 4 + 1) x y = if (adI t u (t 6 4).toNat : Int) < y ∧ y ≤ t 6 4 then t x (y - 1) else t x y := by
    intro y
    rw [ut_n _ _ (by omega)]
    unfold adM
    rw [shR_at t (by omega) hx _ _ (by omega)]
    by_cases e : (adI t u (t 6 4).toNat : Int) < y ∧ y ≤ t 6 4
    · rw [if_pos e, if_pos (by omega)]
    · rw [if_neg e, if_neg (by omega)]
  by_cases e : y = (adI t u (t 6 4).toNat : Int)
  · rw [if_pos e]
    rcases (show x = 7 ∨ x = 8 ∨ x = 9 ∨ x = 10 by omega) with rfl | rfl | rfl | rfl
    · rw [ut_n _ _ (by omega), ut_n _ _ (by omega), ut_n _ _ (by omega), e, ut_s, if_pos rfl]
    · rw [ut_n _ _ (by omega), ut_n _ _ (by omega), e, ut_s, if_neg (by decide), if_pos rfl]
    · rw [ut_n _ _ (by omega), e, ut_s, if_neg (by decide), if_neg (by decide), if_pos rfl]
    · rw [e, ut_s, if_neg (by decide), if_neg (by decide), if_neg (by decide)]
  · rw [if_neg e, ut_n _ _ (fun g => e g.2), ut_n _ _ (fun g => e g.2), ut_n _ _ (fun g => e g.2), ut_n _ _ (fun g => e g.2), hm]
theorem dfA_n (t : TS) {x : Nat} (y : Int) (h : x < 7 ∨ 10 < x) : ∀ d : Nat, dfA t d x y = t x y := by
  intro d
  induction d with
  | zero => rfl
  | succ d ih => unfold dfA; rw [mvC_n _ _ _ _ h, ih]
theorem dfA_at (t : TS) {x : Nat} (h : 7 ≤ x ∧ x ≤ 10) : ∀ (d : Nat) (y : Int), d ≤ 7 → dfA t d x y = if 0 ≤ y ∧ y < d then t x (y + 1) else t x y := by
  intro d
  induction d with
  | zero => intro y _; rw [if_neg (by omega)]; rfl
  | succ d ih =>
    intro y hd
    unfold dfA
    rw [mvC_at _ (by omega) (by omega) _ h]
    by_cases e : y = (d : Int)
    · rw [if_pos e, ih _ (by omega), if_neg (by omega), if_pos (by omega), e]
    · rw [if_neg e, ih _ (by omega)]
      by_cases e2 : 0 ≤ y ∧ y < (d : Int)
      · rw [if_pos e2, if_pos (by omega)]
      · rw [if_neg e2, if_neg (by omega)]
theorem dfC_n (t : TS) {x : Nat} (y : Int) (h : x < 6 ∨ 10 < x) : dfC t x y = t x y := by
  unfold dfC
  rw [ut_n _ _ (by omega), dfA_n _ _ (by omega)]
theorem dfC_6 (t : TS) (h : 0 < t 6 4) : dfC t 6 4 = t 6 4 - 1 := by
  unfold dfC
  rw [ut_s, dfA_n _ _ (by omega)]
  omega
theorem dfC_at (t : TS) (h : 0 < t 6 4) (h8 : t 6 4 ≤ 8) {x : Nat} (hx : 7 ≤ x ∧ x ≤ 10) (y : Int) : dfC t x y = if 0 ≤ y ∧ y < t 6 4 - 1 then t x (y + 1) else t x y := by
  unfold dfC
  rw [ut_n _ _ (by omega), dfA_at t hx _ _ (by omega)]
  by_cases e : 0 ≤ y ∧ y < t 6 4 - 1
  · rw [if_pos e, if_pos (by omega)]
  · rw [if_neg e, if_neg (by omega)]
def QR (t : TS) : Prop := (0 ≤ t 6 4 ∧ t 6 4 ≤ 8) ∧ ∀ i : Int, 0 ≤ i → i < 8 → InR (t 7 i) ∧ InR (t 8 i) ∧ (0 ≤ t 9 i ∧ t 9 i ≤ 3) ∧ InR (t 10 i)
theorem QR.u {t : TS} (h : QR t) (c : Int) : 0 ≤ ruF t c ∧ ruF t c ≤ 3 := by
  unfold ruF; split
  · next q => exact (h.2 c q.1 q.2).2.2.1
  · exact ⟨by decide, by decide⟩
theorem QR.k {t : TS} (h : QR t) (c : Int) : InR (rkF t c) := by
  unfold rkF; split
  · next q => exact (h.2 c q.1 q.2).1
  · exact ⟨by decide, by decide⟩
theorem QR.s {t : TS} (h : QR t) (c : Int) : InR (rsF t c) := by
  unfold rsF; split
  · next q => exact (h.2 c q.1 q.2).2.2.2
  · exact ⟨by decide, by decide⟩
theorem QR.v {t : TS} (h : QR t) (c : Int) : InR (rvF t c) := by
  unfold rvF; split
  · next q => exact (h.2 c q.1 q.2).2.1
  · exact ⟨by decide, by decide⟩
