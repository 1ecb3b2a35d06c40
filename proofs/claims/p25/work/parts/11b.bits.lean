/-! bits -/
section BITS
variable {E : ET} {M : MT} {cu su pc : Nat} {ls : List (Option AV)} {st : List AV} {hi : HI} {hr : HR} {n : Nat} {Q : QT} {idx : Nat}
theorem oi_ti (r : Int32) : Int32.ofInt r.toInt = r := Int32.ofInt_toInt r
theorem sh1_k : ∀ k : Nat, k < 12 → Int32.ofInt 1 <<< (Int32.ofInt (k : Int) &&& 31) = Int32.ofInt ((1 <<< k : Nat) : Int) := by decide +kernel
theorem shm_k : ∀ k : Nat, k < 12 → ((Int32.ofInt (k : Int) &&& 31).toBitVec.smod 32).toNat = k := by decide +kernel
theorem aw_shl1 {k : Nat} (hd : decode (mC M) pc = .ok (.ishl, 1)) (hk : k < 12) (kk : AW E M cu su (pc + 1) ls (aI ((1 <<< k : Nat) : Int) :: st) hi hr n Q) : AW E M cu su pc ls (aI (k : Int) :: aI 1 :: st) hi hr n Q := by
  intro p e s m args below meth c H locs lsA C hC hL hR
  refine lv_ishl C.1 C.2.1 hd ?_
  rw [sh1_k k hk]
  exact kk p e s m args below meth c H locs lsA C hC hL hR
theorem aw_shrN {a k : Nat} (hd : decode (mC M) pc = .ok (.ishr, 1)) (ha : a < 4096) (hk : k < 12) (kk : AW E M cu su (pc + 1) ls (aI ((a / 2 ^ k : Nat) : Int) :: st) hi hr n Q) : AW E M cu su pc ls (aI (k : Int) :: aI (a : Int) :: st) hi hr n Q := by
  intro p e s m args below meth c H locs lsA C hC hL hR
  refine lv_ishr C.1 C.2.1 hd ?_
  rw [oi_nI a, pk_shrN (by omega) _ k (shm_k k hk), ← oi_nI]
  exact kk p e s m args below meth c H locs lsA C hC hL hR
theorem aw_iushr {x y : Int} (hd : decode (mC M) pc = .ok (.iushr, 1)) (kk : AW E M cu su (pc + 1) ls (aI (((Int32.ofInt x).toUInt32 >>> ((Int32.ofInt y).toUInt32 &&& Int32.toUInt32 31)).toInt32.toInt) :: st) hi hr n Q) : AW E M cu su pc ls (aI y :: aI x :: st) hi hr n Q := by
  intro p e s m args below meth c H locs lsA C hC hL hR
  refine lv_iushr C.1 C.2.1 hd rfl ?_
  have g := kk p e s m args below meth c H locs lsA C hC hL hR
  rw [List.map_cons, cv_i, oi_ti] at g
  exact g
theorem aw_iandG {x y : Int} (hd : decode (mC M) pc = .ok (.iand, 1)) (kk : AW E M cu su (pc + 1) ls (aI ((Int32.ofInt x &&& Int32.ofInt y).toInt) :: st) hi hr n Q) : AW E M cu su pc ls (aI y :: aI x :: st) hi hr n Q := by
  intro p e s m args below meth c H locs lsA C hC hL hR
  refine lv_iand C.1 C.2.1 hd ?_
  have g := kk p e s m args below meth c H locs lsA C hC hL hR
  rw [List.map_cons, cv_i, oi_ti] at g
  exact g
theorem aw_ldcw {v : Int32} (hd : decode (mC M) pc = .ok (.ldc_w idx, 3)) (hc : Cond.constant (mY M).cls idx v ∈ lw_tbl) (kk : AW E M cu su (pc + 3) ls (aI v.toInt :: st) hi hr n Q) : AW E M cu su pc ls st hi hr n Q := by
  intro p e s m args below meth c H locs lsA C hC hL hR
  have g := kk p e s m args below meth c H locs lsA C hC hL hR
  rw [List.map_cons, cv_i, oi_ti] at g
  exact lv_ldcw C.1 C.2.1 C.2.2.2.2.2.1 (C.2.2.2.2.2.2.2.1 _ hc rfl _) hd g
end BITS
