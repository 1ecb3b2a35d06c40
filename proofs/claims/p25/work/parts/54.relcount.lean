/-! the relation: what is counted -/
theorem kw_eq {t : TS} {s : Int → Int} (hC : RC t s) : ∀ k : Nat, kwC t k = kyA s k := by
  intro k
  induction k with
  | zero => rfl
  | succ k ih =>
    have pk := plc_k (s := s) (k : Int)
    unfold kwC kyA
    rw [ih, plc_eq hC]
    by_cases c : plc s (k : Int) < 0
    · rw [if_pos c, if_pos (by omega)]
    · rw [if_neg c, if_neg (by omega)]
theorem to_eq {t : TS} {s : Int → Int} (hC : RC t s) (hB : ∀ c : Int, 0 ≤ c → c < 48 → 16 ≤ c % 24 → ¬ t 2 c = 3) : ∀ k : Nat, k ≤ 48 → toC t k = trA s (16 * (k / 24) + (if k % 24 < 16 then k % 24 else 16)) := by
  intro k
  induction k with
  | zero => intro _; rfl
  | succ k ih =>
    intro hk
    have e := (hC (k : Int) (by omega) (by omega)).1
    unfold toC
    rw [ih (by omega)]
    by_cases c : k % 24 < 16
    · have en : 16 * ((k + 1) / 24) + (if (k + 1) % 24 < 16 then (k + 1) % 24 else 16) = (16 * (k / 24) + k % 24) + 1 := by split <;> omega
      have ea : atI (k : Int) = 24 + 4 * ((16 * (k / 24) + k % 24 : Nat) : Int) := by unfold atI; rw [if_pos (by omega)]; omega
      rw [if_pos c, en, e, ea]
      rfl
    · have en : 16 * ((k + 1) / 24) + (if (k + 1) % 24 < 16 then (k + 1) % 24 else 16) = 16 * (k / 24) + 16 := by split <;> omega
      rw [if_neg c, en, if_neg (hB _ (by omega) (by omega) (by omega)), Int.add_zero]
theorem to_all {t : TS} {s : Int → Int} (hC : RC t s) (hB : ∀ c : Int, 0 ≤ c → c < 48 → 16 ≤ c % 24 → ¬ t 2 c = 3) : toC t 48 = trA s 32 := to_eq hC hB 48 (by decide)
