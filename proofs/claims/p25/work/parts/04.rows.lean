def InR (x : Int) : Prop := -2147483648 ≤ x ∧ x < 2147483648
theorem oi_toInt {x : Int} (h : InR x) : (Int32.ofInt x).toInt = x := by
  exact Int32.toInt_ofInt_of_le (by have := h.1; omega) (by have := h.2; omega)
theorem oi_eq {x y : Int} (hx : InR x) (hy : InR y) : Int32.ofInt x = Int32.ofInt y ↔ x = y :=
  ⟨fun h => by have := congrArg Int32.toInt h; rwa [oi_toInt hx, oi_toInt hy] at this, fun h => by rw [h]⟩
theorem oi_lt {x y : Int} (hx : InR x) (hy : InR y) : Int32.ofInt x < Int32.ofInt y ↔ x < y := by
  rw [Int32.lt_iff_toInt_lt, oi_toInt hx, oi_toInt hy]
theorem oi_le {x y : Int} (hx : InR x) (hy : InR y) : Int32.ofInt x ≤ Int32.ofInt y ↔ x ≤ y := by
  rw [Int32.le_iff_toInt_le, oi_toInt hx, oi_toInt hy]
theorem InR_0 : InR 0 := ⟨by decide, by decide⟩
theorem oi_add (x y : Int) : Int32.ofInt x + Int32.ofInt y = Int32.ofInt (x + y) := (Int32.ofInt_add x y).symm
theorem oi_sub (x y : Int) : Int32.ofInt x - Int32.ofInt y = Int32.ofInt (x - y) := (Int32.ofInt_sub x y).symm
theorem oi_mul (x y : Int) : Int32.ofInt x * Int32.ofInt y = Int32.ofInt (x * y) := (Int32.ofInt_mul x y).symm
theorem oi_nI (n : Nat) : Int32.ofInt (n : Int) = nI n := by
  unfold nI
  first | rfl | exact Int32.ofInt_natCast n | simp
theorem oi_div {x y : Int} (h0 : 0 ≤ x) (hx : InR x) (h1 : 0 < y) (hy : InR y) : Int32.ofInt x / Int32.ofInt y = Int32.ofInt (x / y) := by
  obtain ⟨a, rfl⟩ := Int.eq_ofNat_of_zero_le h0
  obtain ⟨b, rfl⟩ := Int.eq_ofNat_of_zero_le (Int.le_of_lt h1)
  have e : ((a : Int) / (b : Int)) = ((a / b : Nat) : Int) := rfl
  rw [e, oi_nI, oi_nI, oi_nI]
  exact pk_div (by have := hx.2; omega) (by omega) (by have := hy.2; omega)
theorem oi_rem {x y : Int} (h0 : 0 ≤ x) (hx : InR x) (h1 : 0 < y) (hy : InR y) : Int32.ofInt x - Int32.ofInt x / Int32.ofInt y * Int32.ofInt y = Int32.ofInt (x % y) := by
  obtain ⟨a, rfl⟩ := Int.eq_ofNat_of_zero_le h0
  obtain ⟨b, rfl⟩ := Int.eq_ofNat_of_zero_le (Int.le_of_lt h1)
  have e : ((a : Int) % (b : Int)) = ((a % b : Nat) : Int) := rfl
  rw [e, oi_nI, oi_nI, oi_nI]
  exact pk_rem (by have := hx.2; omega) (by omega) (by have := hy.2; omega)
theorem oi_ne0 {y : Int} (h1 : 0 < y) (hy : InR y) : ¬ Int32.ofInt y = 0 := by
  rw [show (0 : Int32) = Int32.ofInt 0 from rfl, oi_eq hy InR_0]; omega
theorem nI_bv (a : Nat) : (nI a).toBitVec = BitVec.ofNat 32 a := by
  unfold nI
  first | rfl | simp
theorem nI_land (a b : Nat) : nI a &&& nI b = nI (a &&& b) := by
  apply Int32.toBitVec_inj.mp
  rw [Int32.toBitVec_and, nI_bv, nI_bv, nI_bv]
  apply BitVec.eq_of_toNat_eq
  simp [BitVec.toNat_and, Nat.and_mod_two_pow]
theorem nI_lor (a b : Nat) : nI a ||| nI b = nI (a ||| b) := by
  apply Int32.toBitVec_inj.mp
  rw [Int32.toBitVec_or, nI_bv, nI_bv, nI_bv]
  apply BitVec.eq_of_toNat_eq
  simp [BitVec.toNat_or, Nat.or_mod_two_pow]
/-- the locals as a list of pairs -/
def prs (E : ET) (ls : List (Option AV)) : List (Nat × Value) := (List.range ls.length).filterMap (fun i => match ls[i]? with | some (some v) => some (i, cv E v) | _ => none)
theorem prs_mem {E : ET} {ls : List (Option AV)} {q : Nat × Value} : q ∈ prs E ls ↔ ∃ v, ls[q.1]? = some (some v) ∧ q.2 = cv E v := by
  unfold prs
  rw [List.mem_filterMap]
  constructor
  · rintro ⟨i, hi, h⟩
    cases hl : ls[i]? with
    | none => rw [hl] at h; cases h
    | some w =>
      cases w with
      | none => rw [hl] at h; cases h
      | some v =>
        rw [hl] at h
        cases h
        exact ⟨v, hl, rfl⟩
  · rintro ⟨v, hv, h⟩
    refine ⟨q.1, List.mem_range.mpr (List.getElem?_eq_some_iff.mp hv).1, ?_⟩
    rw [hv]
    simp [← h]
theorem lr_has {E : ET} {nL : Nat} {ls : List (Option AV)} {lsA : Array Slot} (h : LR E nL ls lsA) : lv_has lsA nL (prs E ls) := by
  refine ⟨h.1, h.2.2.1, fun q hq => ?_⟩
  obtain ⟨v, h1, h2⟩ := prs_mem.mp hq
  rw [h2]
  exact h.2.2.2 _ _ h1
/-- no long's second word at i -/
def oneW (ls : List (Option AV)) (i : Nat) : Bool := match i with
  | 0 => true
  | j + 1 => match ls[j]? with
    | some (some v) => isW v
    | _ => true
theorem lr_set {E : ET} {nL i : Nat} {ls : List (Option AV)} {lsA ls2 : Array Slot} {v : AV} (hz : oneW ls i = true) (h : LR E nL ls lsA) (hi : i < nL) (h2 : lv_has ls2 nL ((i, cv E v) :: (prs E ls).filter (fun q => !(q.1 == i) && !(q.1 + 1 == i && q.2.category == 2)))) : LR E nL (ls.set i (some v)) ls2 := by
  refine ⟨h2.1, by rw [List.length_set]; exact h.2.1, h2.2.1, fun j w hj => ?_⟩
  by_cases e : j = i
  · subst e
    rw [List.getElem?_set_self (by rw [h.2.1]; exact hi)] at hj
    cases hj
    exact h2.2.2 (j, cv E v) List.mem_cons_self
  · rw [List.getElem?_set_ne (fun q => e q.symm)] at hj
    refine h2.2.2 (j, cv E w) (List.mem_cons_of_mem _ (List.mem_filter.mpr ⟨prs_mem.mpr ⟨w, hj, rfl⟩, ?_⟩))
    by_cases e2 : j + 1 = i
    · subst e2
      have : isW w = true := by
        have hz : (match ls[j]? with | some (some v) => isW v | _ => true) = true := hz
        rw [hj] at hz
        exact hz
      simp [cv_cat E w this]
    · simp [e, e2]
/-- a long takes two words -/
theorem lr_set2 {E : ET} {nL i : Nat} {ls : List (Option AV)} {lsA ls2 : Array Slot} {x : Int64} (hz : oneW ls i = true) (h : LR E nL ls lsA) (hi : i + 1 < nL) (h2 : lv_has ls2 nL ((i, Value.long x) :: (prs E ls).filter (fun q => !(q.1 == i) && (!(q.1 == i + 1) && !(q.1 + 1 == i && q.2.category == 2))))) : LR E nL ((ls.set i (some (aL x))).set (i + 1) none) ls2 := by
  refine ⟨h2.1, by rw [List.length_set, List.length_set]; exact h.2.1, h2.2.1, fun j w hj => ?_⟩
  by_cases e1 : j = i + 1
  · subst e1
    rw [List.getElem?_set_self (by rw [List.length_set, h.2.1]; exact hi)] at hj
    cases hj
  · rw [List.getElem?_set_ne (fun q => e1 q.symm)] at hj
    by_cases e : j = i
    · subst e
      rw [List.getElem?_set_self (by rw [h.2.1]; omega)] at hj
      cases hj
      exact h2.2.2 (j, Value.long x) List.mem_cons_self
    · rw [List.getElem?_set_ne (fun q => e q.symm)] at hj
      refine h2.2.2 (j, cv E w) (List.mem_cons_of_mem _ (List.mem_filter.mpr ⟨prs_mem.mpr ⟨w, hj, rfl⟩, ?_⟩))
      by_cases e2 : j + 1 = i
      · subst e2
        have : isW w = true := by
          have hz : (match ls[j]? with | some (some v) => isW v | _ => true) = true := hz
          rw [hj] at hz
          exact hz
        simp [cv_cat E w this]
        omega
      · simp [e, e1, e2]
/-- fewer locals -/
theorem lr_fewer {E : ET} {nL : Nat} {ls ls' : List (Option AV)} {lsA : Array Slot} (h : LR E nL ls lsA) (hl : ls'.length = ls.length) (hs : ∀ (i : Nat) (v : AV), ls'[i]? = some (some v) → ls[i]? = some (some v)) : LR E nL ls' lsA :=
  ⟨h.1, hl.trans h.2.1, h.2.2.1, fun i v hi => h.2.2.2 i v (hs i v hi)⟩
section AROWS
variable {E : ET} {M : MT} {cu su pc : Nat} {ls : List (Option AV)} {st : List AV} {hi : HI} {hr : HR} {n : Nat} {Q : QT}
theorem aw_iconst {v : Int} (hd : decode (mC M) pc = .ok (.iconst v, 1)) (k : AW E M cu su (pc + 1) ls (aI v :: st) hi hr n Q) : AW E M cu su pc ls (st) hi hr n Q := by
  intro p e s m args below meth c H locs lsA C hC hL hR
  exact lv_iconst C.1 C.2.1 hd rfl (k p e s m args below meth c H locs lsA C hC hL hR)
theorem aw_bipush {v : Int} (hd : decode (mC M) pc = .ok (.bipush v, 2)) (hv : (Int8.ofInt v).toInt32 = Int32.ofInt v) (k : AW E M cu su (pc + 2) ls (aI v :: st) hi hr n Q) : AW E M cu su pc ls (st) hi hr n Q := by
  intro p e s m args below meth c H locs lsA C hC hL hR
  exact lv_bipush C.1 C.2.1 hd hv (k p e s m args below meth c H locs lsA C hC hL hR)
theorem aw_sipush {v : Int} (hd : decode (mC M) pc = .ok (.sipush v, 3)) (hv : (Int16.ofInt v).toInt32 = Int32.ofInt v) (k : AW E M cu su (pc + 3) ls (aI v :: st) hi hr n Q) : AW E M cu su pc ls (st) hi hr n Q := by
  intro p e s m args below meth c H locs lsA C hC hL hR
  exact lv_sipush C.1 C.2.1 hd hv (k p e s m args below meth c H locs lsA C hC hL hR)
theorem aw_null (hd : decode (mC M) pc = .ok (.aconst_null, 1)) (k : AW E M cu su (pc + 1) ls (aN :: st) hi hr n Q) : AW E M cu su pc ls (st) hi hr n Q := by
  intro p e s m args below meth c H locs lsA C hC hL hR
  exact lv_null C.1 C.2.1 hd (k p e s m args below meth c H locs lsA C hC hL hR)
theorem aw_iload_n {i : Fin 4} {x : Int} (hd : decode (mC M) pc = .ok (.iload_n i, 1)) (hl : ls[(i : Nat)]? = some (some (aI x))) (k : AW E M cu su (pc + 1) ls (aI x :: st) hi hr n Q) : AW E M cu su pc ls (st) hi hr n Q := by
  intro p e s m args below meth c H locs lsA C hC hL hR
  exact lv_iload_n C.1 C.2.1 hd rfl (hR.2.2.2 _ _ hl) (k p e s m args below meth c H locs lsA C hC hL hR)
theorem aw_iload {i : Nat} {x : Int} (hd : decode (mC M) pc = .ok (.iload i, 2)) (hl : ls[i]? = some (some (aI x))) (k : AW E M cu su (pc + 2) ls (aI x :: st) hi hr n Q) : AW E M cu su pc ls (st) hi hr n Q := by
  intro p e s m args below meth c H locs lsA C hC hL hR
  exact lv_iload C.1 C.2.1 hd (hR.2.2.2 _ _ hl) (k p e s m args below meth c H locs lsA C hC hL hR)
theorem aw_istore_n {i : Fin 4} {x : Int} {ls2 : List (Option AV)} (hd : decode (mC M) pc = .ok (.istore_n i, 1)) (hi2 : (i : Nat) < mL M) (hs : ls.set (i : Nat) (some (aI x)) = ls2) (k : AW E M cu su (pc + 1) ls2 (st) hi hr n Q) (hz : oneW ls (i : Nat) = true := by rfl) : AW E M cu su pc ls (aI x :: st) hi hr n Q := by
  intro p e s m args below meth c H locs lsA C hC hL hR
  exact lv_istore_n C.1 C.2.1 hd rfl (lr_has hR) hi2 rfl (fun ls2 h2 => k p e s m args below meth c H locs ls2 C hC hL (hs ▸ lr_set hz hR hi2 h2))
theorem aw_istore {i : Nat} {x : Int} {ls2 : List (Option AV)} (hd : decode (mC M) pc = .ok (.istore i, 2)) (hi2 : i < mL M) (hs : ls.set i (some (aI x)) = ls2) (k : AW E M cu su (pc + 2) ls2 (st) hi hr n Q) (hz : oneW ls i = true := by rfl) : AW E M cu su pc ls (aI x :: st) hi hr n Q := by
  intro p e s m args below meth c H locs lsA C hC hL hR
  exact lv_istore C.1 C.2.1 hd (lr_has hR) hi2 rfl (fun ls2 h2 => k p e s m args below meth c H locs ls2 C hC hL (hs ▸ lr_set hz hR hi2 h2))
theorem aw_aload_n {i : Fin 4} {x : Nat} (hd : decode (mC M) pc = .ok (.aload_n i, 1)) (hl : ls[(i : Nat)]? = some (some (aR x))) (k : AW E M cu su (pc + 1) ls (aR x :: st) hi hr n Q) : AW E M cu su pc ls (st) hi hr n Q := by
  intro p e s m args below meth c H locs lsA C hC hL hR
  exact lv_aload_n C.1 C.2.1 hd rfl (hR.2.2.2 _ _ hl) (k p e s m args below meth c H locs lsA C hC hL hR)
theorem aw_aload {i : Nat} {x : Nat} (hd : decode (mC M) pc = .ok (.aload i, 2)) (hl : ls[i]? = some (some (aR x))) (k : AW E M cu su (pc + 2) ls (aR x :: st) hi hr n Q) : AW E M cu su pc ls (st) hi hr n Q := by
  intro p e s m args below meth c H locs lsA C hC hL hR
  exact lv_aload C.1 C.2.1 hd (hR.2.2.2 _ _ hl) (k p e s m args below meth c H locs lsA C hC hL hR)
theorem aw_astore_n {i : Fin 4} {x : Nat} {ls2 : List (Option AV)} (hd : decode (mC M) pc = .ok (.astore_n i, 1)) (hi2 : (i : Nat) < mL M) (hs : ls.set (i : Nat) (some (aR x)) = ls2) (k : AW E M cu su (pc + 1) ls2 (st) hi hr n Q) (hz : oneW ls (i : Nat) = true := by rfl) : AW E M cu su pc ls (aR x :: st) hi hr n Q := by
  intro p e s m args below meth c H locs lsA C hC hL hR
  exact lv_astore_n C.1 C.2.1 hd rfl (lr_has hR) hi2 rfl (fun ls2 h2 => k p e s m args below meth c H locs ls2 C hC hL (hs ▸ lr_set hz hR hi2 h2))
theorem aw_astore {i : Nat} {x : Nat} {ls2 : List (Option AV)} (hd : decode (mC M) pc = .ok (.astore i, 2)) (hi2 : i < mL M) (hs : ls.set i (some (aR x)) = ls2) (k : AW E M cu su (pc + 2) ls2 (st) hi hr n Q) (hz : oneW ls i = true := by rfl) : AW E M cu su pc ls (aR x :: st) hi hr n Q := by
  intro p e s m args below meth c H locs lsA C hC hL hR
  exact lv_astore C.1 C.2.1 hd (lr_has hR) hi2 rfl (fun ls2 h2 => k p e s m args below meth c H locs ls2 C hC hL (hs ▸ lr_set hz hR hi2 h2))
theorem aw_iinc {i : Nat} {v x : Int} {ls2 : List (Option AV)} (hd : decode (mC M) pc = .ok (.iinc i v, 3)) (hl : ls[i]? = some (some (aI x))) (hi2 : i < mL M) (hs : ls.set i (some (aI (x + v))) = ls2) (k : AW E M cu su (pc + 3) ls2 (st) hi hr n Q) (hz : oneW ls i = true := by rfl) : AW E M cu su pc ls (st) hi hr n Q := by
  intro p e s m args below meth c H locs lsA C hC hL hR
  obtain ⟨kx, hk⟩ := List.getElem?_of_mem (prs_mem.mpr ⟨_, hl, rfl⟩ : (i, cv E (aI x)) ∈ prs E ls)
  exact lv_iinc C.1 C.2.1 hd (lr_has hR) hk (oi_add x v) hi2 rfl (fun ls2 h2 => k p e s m args below meth c H locs ls2 C hC hL (hs ▸ lr_set hz hR hi2 h2))
theorem aw_iadd {x y : Int} (hd : decode (mC M) pc = .ok (.iadd, 1)) (k : AW E M cu su (pc + 1) ls (aI (x + y) :: st) hi hr n Q) : AW E M cu su pc ls (aI y :: aI x :: st) hi hr n Q := by
  intro p e s m args below meth c H locs lsA C hC hL hR
  refine lv_iadd C.1 C.2.1 hd ?_
  rw [oi_add]
  exact k p e s m args below meth c H locs lsA C hC hL hR
theorem aw_isub {x y : Int} (hd : decode (mC M) pc = .ok (.isub, 1)) (k : AW E M cu su (pc + 1) ls (aI (x - y) :: st) hi hr n Q) : AW E M cu su pc ls (aI y :: aI x :: st) hi hr n Q := by
  intro p e s m args below meth c H locs lsA C hC hL hR
  refine lv_isub C.1 C.2.1 hd ?_
  rw [oi_sub]
  exact k p e s m args below meth c H locs lsA C hC hL hR
theorem aw_imul {x y : Int} (hd : decode (mC M) pc = .ok (.imul, 1)) (k : AW E M cu su (pc + 1) ls (aI (x * y) :: st) hi hr n Q) : AW E M cu su pc ls (aI y :: aI x :: st) hi hr n Q := by
  intro p e s m args below meth c H locs lsA C hC hL hR
  refine lv_imul C.1 C.2.1 hd ?_
  rw [oi_mul]
  exact k p e s m args below meth c H locs lsA C hC hL hR
theorem aw_idiv {x y : Int} (hd : decode (mC M) pc = .ok (.idiv, 1)) (h0 : 0 ≤ x) (hx : InR x) (h1 : 0 < y) (hy : InR y) (k : AW E M cu su (pc + 1) ls (aI (x / y) :: st) hi hr n Q) : AW E M cu su pc ls (aI y :: aI x :: st) hi hr n Q := by
  intro p e s m args below meth c H locs lsA C hC hL hR
  refine lv_idiv C.1 C.2.1 hd (oi_ne0 h1 hy) ?_
  rw [oi_div h0 hx h1 hy]
  exact k p e s m args below meth c H locs lsA C hC hL hR
theorem aw_irem {x y : Int} (hd : decode (mC M) pc = .ok (.irem, 1)) (h0 : 0 ≤ x) (hx : InR x) (h1 : 0 < y) (hy : InR y) (k : AW E M cu su (pc + 1) ls (aI (x % y) :: st) hi hr n Q) : AW E M cu su pc ls (aI y :: aI x :: st) hi hr n Q := by
  intro p e s m args below meth c H locs lsA C hC hL hR
  refine lv_irem C.1 C.2.1 hd (oi_ne0 h1 hy) ?_
  rw [oi_rem h0 hx h1 hy]
  exact k p e s m args below meth c H locs lsA C hC hL hR
theorem aw_iand {a b : Nat} {x y : Int} (hd : decode (mC M) pc = .ok (.iand, 1)) (hx : x = (a : Int)) (hy : y = (b : Int)) (k : AW E M cu su (pc + 1) ls (aI ((a &&& b : Nat) : Int) :: st) hi hr n Q) : AW E M cu su pc ls (aI y :: aI x :: st) hi hr n Q := by
  intro p e s m args below meth c H locs lsA C hC hL hR
  subst hx; subst hy
  refine lv_iand C.1 C.2.1 hd ?_
  rw [oi_nI, oi_nI, nI_land, ← oi_nI]
  exact k p e s m args below meth c H locs lsA C hC hL hR
theorem aw_ior {a b : Nat} {x y : Int} (hd : decode (mC M) pc = .ok (.ior, 1)) (hx : x = (a : Int)) (hy : y = (b : Int)) (k : AW E M cu su (pc + 1) ls (aI ((a ||| b : Nat) : Int) :: st) hi hr n Q) : AW E M cu su pc ls (aI y :: aI x :: st) hi hr n Q := by
  intro p e s m args below meth c H locs lsA C hC hL hR
  subst hx; subst hy
  refine lv_ior C.1 C.2.1 hd ?_
  rw [oi_nI, oi_nI, nI_lor, ← oi_nI]
  exact k p e s m args below meth c H locs lsA C hC hL hR
theorem aw_and31 {x : Int} (hd : decode (mC M) pc = .ok (.iand, 1)) (k : ∀ j : Nat, j < 32 → AW E M cu su (pc + 1) ls (aI (j : Int) :: st) hi hr n Q) : AW E M cu su pc ls (aI 31 :: aI x :: st) hi hr n Q := by
  intro p e s m args below meth c H locs lsA C hC hL hR
  refine lv_iand C.1 C.2.1 hd ?_
  obtain ⟨j, hj, ej⟩ := pk_andE (Int32.ofInt x) (m := Int32.ofInt 31) 5 (by decide)
  rw [ej, ← oi_nI]
  exact k j hj p e s m args below meth c H locs lsA C hC hL hR
theorem aw_if_eq {off : Int} {tgt : Nat} {x : Int} (hd : decode (mC M) pc = .ok (.ifCond .eq off, 3)) (ht : (pc : Int) + off = (tgt : Int)) (hx : InR x) (kt : x = 0 → AW E M cu su tgt ls st hi hr n Q) (kf : ¬ x = 0 → AW E M cu su (pc + 3) ls st hi hr n Q) : AW E M cu su pc ls (aI x :: st) hi hr n Q := by
  intro p e s m args below meth c H locs lsA C hC hL hR
  have Y := InR_0
  exact lv_if_eq C.1 C.2.1 hd ht (fun q => kt (by first | exact (oi_eq hx Y).mp q | exact fun z => q ((oi_eq hx Y).mpr z)) p e s m args below meth c H locs lsA C hC hL hR) (fun q => kf (by first | exact (oi_eq hx Y).mp q | exact fun z => q ((oi_eq hx Y).mpr z)) p e s m args below meth c H locs lsA C hC hL hR)
theorem aw_ic_eq {off : Int} {tgt : Nat} {x y : Int} (hd : decode (mC M) pc = .ok (.if_icmp .eq off, 3)) (ht : (pc : Int) + off = (tgt : Int)) (hx : InR x) (Y : InR y) (kt : x = y → AW E M cu su tgt ls st hi hr n Q) (kf : ¬ x = y → AW E M cu su (pc + 3) ls st hi hr n Q) : AW E M cu su pc ls (aI y :: aI x :: st) hi hr n Q := by
  intro p e s m args below meth c H locs lsA C hC hL hR
  exact lv_icmp_eq C.1 C.2.1 hd ht (fun q => kt (by first | exact (oi_eq hx Y).mp q | exact fun z => q ((oi_eq hx Y).mpr z)) p e s m args below meth c H locs lsA C hC hL hR) (fun q => kf (by first | exact (oi_eq hx Y).mp q | exact fun z => q ((oi_eq hx Y).mpr z)) p e s m args below meth c H locs lsA C hC hL hR)
theorem aw_if_ne {off : Int} {tgt : Nat} {x : Int} (hd : decode (mC M) pc = .ok (.ifCond .ne off, 3)) (ht : (pc : Int) + off = (tgt : Int)) (hx : InR x) (kt : ¬ x = 0 → AW E M cu su tgt ls st hi hr n Q) (kf : x = 0 → AW E M cu su (pc + 3) ls st hi hr n Q) : AW E M cu su pc ls (aI x :: st) hi hr n Q := by
  intro p e s m args below meth c H locs lsA C hC hL hR
  have Y := InR_0
  exact lv_if_ne C.1 C.2.1 hd ht (fun q => kt (by first | exact (oi_eq hx Y).mp q | exact fun z => q ((oi_eq hx Y).mpr z)) p e s m args below meth c H locs lsA C hC hL hR) (fun q => kf (by first | exact (oi_eq hx Y).mp q | exact fun z => q ((oi_eq hx Y).mpr z)) p e s m args below meth c H locs lsA C hC hL hR)
theorem aw_ic_ne {off : Int} {tgt : Nat} {x y : Int} (hd : decode (mC M) pc = .ok (.if_icmp .ne off, 3)) (ht : (pc : Int) + off = (tgt : Int)) (hx : InR x) (Y : InR y) (kt : ¬ x = y → AW E M cu su tgt ls st hi hr n Q) (kf : x = y → AW E M cu su (pc + 3) ls st hi hr n Q) : AW E M cu su pc ls (aI y :: aI x :: st) hi hr n Q := by
  intro p e s m args below meth c H locs lsA C hC hL hR
  exact lv_icmp_ne C.1 C.2.1 hd ht (fun q => kt (by first | exact (oi_eq hx Y).mp q | exact fun z => q ((oi_eq hx Y).mpr z)) p e s m args below meth c H locs lsA C hC hL hR) (fun q => kf (by first | exact (oi_eq hx Y).mp q | exact fun z => q ((oi_eq hx Y).mpr z)) p e s m args below meth c H locs lsA C hC hL hR)
theorem aw_if_lt {off : Int} {tgt : Nat} {x : Int} (hd : decode (mC M) pc = .ok (.ifCond .lt off, 3)) (ht : (pc : Int) + off = (tgt : Int)) (hx : InR x) (kt : x < 0 → AW E M cu su tgt ls st hi hr n Q) (kf : ¬ x < 0 → AW E M cu su (pc + 3) ls st hi hr n Q) : AW E M cu su pc ls (aI x :: st) hi hr n Q := by
  intro p e s m args below meth c H locs lsA C hC hL hR
  have Y := InR_0
  exact lv_if_lt C.1 C.2.1 hd ht (fun q => kt (by first | exact (oi_lt hx Y).mp q | exact fun z => q ((oi_lt hx Y).mpr z)) p e s m args below meth c H locs lsA C hC hL hR) (fun q => kf (by first | exact (oi_lt hx Y).mp q | exact fun z => q ((oi_lt hx Y).mpr z)) p e s m args below meth c H locs lsA C hC hL hR)
theorem aw_ic_lt {off : Int} {tgt : Nat} {x y : Int} (hd : decode (mC M) pc = .ok (.if_icmp .lt off, 3)) (ht : (pc : Int) + off = (tgt : Int)) (hx : InR x) (Y : InR y) (kt : x < y → AW E M cu su tgt ls st hi hr n Q) (kf : ¬ x < y → AW E M cu su (pc + 3) ls st hi hr n Q) : AW E M cu su pc ls (aI y :: aI x :: st) hi hr n Q := by
  intro p e s m args below meth c H locs lsA C hC hL hR
  exact lv_icmp_lt C.1 C.2.1 hd ht (fun q => kt (by first | exact (oi_lt hx Y).mp q | exact fun z => q ((oi_lt hx Y).mpr z)) p e s m args below meth c H locs lsA C hC hL hR) (fun q => kf (by first | exact (oi_lt hx Y).mp q | exact fun z => q ((oi_lt hx Y).mpr z)) p e s m args below meth c H locs lsA C hC hL hR)
theorem aw_if_ge {off : Int} {tgt : Nat} {x : Int} (hd : decode (mC M) pc = .ok (.ifCond .ge off, 3)) (ht : (pc : Int) + off = (tgt : Int)) (hx : InR x) (kt : 0 ≤ x → AW E M cu su tgt ls st hi hr n Q) (kf : ¬ 0 ≤ x → AW E M cu su (pc + 3) ls st hi hr n Q) : AW E M cu su pc ls (aI x :: st) hi hr n Q := by
  intro p e s m args below meth c H locs lsA C hC hL hR
  have Y := InR_0
  exact lv_if_ge C.1 C.2.1 hd ht (fun q => kt (by first | exact (oi_le Y hx).mp q | exact fun z => q ((oi_le Y hx).mpr z)) p e s m args below meth c H locs lsA C hC hL hR) (fun q => kf (by first | exact (oi_le Y hx).mp q | exact fun z => q ((oi_le Y hx).mpr z)) p e s m args below meth c H locs lsA C hC hL hR)
theorem aw_ic_ge {off : Int} {tgt : Nat} {x y : Int} (hd : decode (mC M) pc = .ok (.if_icmp .ge off, 3)) (ht : (pc : Int) + off = (tgt : Int)) (hx : InR x) (Y : InR y) (kt : y ≤ x → AW E M cu su tgt ls st hi hr n Q) (kf : ¬ y ≤ x → AW E M cu su (pc + 3) ls st hi hr n Q) : AW E M cu su pc ls (aI y :: aI x :: st) hi hr n Q := by
  intro p e s m args below meth c H locs lsA C hC hL hR
  exact lv_icmp_ge C.1 C.2.1 hd ht (fun q => kt (by first | exact (oi_le Y hx).mp q | exact fun z => q ((oi_le Y hx).mpr z)) p e s m args below meth c H locs lsA C hC hL hR) (fun q => kf (by first | exact (oi_le Y hx).mp q | exact fun z => q ((oi_le Y hx).mpr z)) p e s m args below meth c H locs lsA C hC hL hR)
theorem aw_if_gt {off : Int} {tgt : Nat} {x : Int} (hd : decode (mC M) pc = .ok (.ifCond .gt off, 3)) (ht : (pc : Int) + off = (tgt : Int)) (hx : InR x) (kt : 0 < x → AW E M cu su tgt ls st hi hr n Q) (kf : ¬ 0 < x → AW E M cu su (pc + 3) ls st hi hr n Q) : AW E M cu su pc ls (aI x :: st) hi hr n Q := by
  intro p e s m args below meth c H locs lsA C hC hL hR
  have Y := InR_0
  exact lv_if_gt C.1 C.2.1 hd ht (fun q => kt (by first | exact (oi_lt Y hx).mp q | exact fun z => q ((oi_lt Y hx).mpr z)) p e s m args below meth c H locs lsA C hC hL hR) (fun q => kf (by first | exact (oi_lt Y hx).mp q | exact fun z => q ((oi_lt Y hx).mpr z)) p e s m args below meth c H locs lsA C hC hL hR)
theorem aw_ic_gt {off : Int} {tgt : Nat} {x y : Int} (hd : decode (mC M) pc = .ok (.if_icmp .gt off, 3)) (ht : (pc : Int) + off = (tgt : Int)) (hx : InR x) (Y : InR y) (kt : y < x → AW E M cu su tgt ls st hi hr n Q) (kf : ¬ y < x → AW E M cu su (pc + 3) ls st hi hr n Q) : AW E M cu su pc ls (aI y :: aI x :: st) hi hr n Q := by
  intro p e s m args below meth c H locs lsA C hC hL hR
  exact lv_icmp_gt C.1 C.2.1 hd ht (fun q => kt (by first | exact (oi_lt Y hx).mp q | exact fun z => q ((oi_lt Y hx).mpr z)) p e s m args below meth c H locs lsA C hC hL hR) (fun q => kf (by first | exact (oi_lt Y hx).mp q | exact fun z => q ((oi_lt Y hx).mpr z)) p e s m args below meth c H locs lsA C hC hL hR)
theorem aw_if_le {off : Int} {tgt : Nat} {x : Int} (hd : decode (mC M) pc = .ok (.ifCond .le off, 3)) (ht : (pc : Int) + off = (tgt : Int)) (hx : InR x) (kt : x ≤ 0 → AW E M cu su tgt ls st hi hr n Q) (kf : ¬ x ≤ 0 → AW E M cu su (pc + 3) ls st hi hr n Q) : AW E M cu su pc ls (aI x :: st) hi hr n Q := by
  intro p e s m args below meth c H locs lsA C hC hL hR
  have Y := InR_0
  exact lv_if_le C.1 C.2.1 hd ht (fun q => kt (by first | exact (oi_le hx Y).mp q | exact fun z => q ((oi_le hx Y).mpr z)) p e s m args below meth c H locs lsA C hC hL hR) (fun q => kf (by first | exact (oi_le hx Y).mp q | exact fun z => q ((oi_le hx Y).mpr z)) p e s m args below meth c H locs lsA C hC hL hR)
theorem aw_ic_le {off : Int} {tgt : Nat} {x y : Int} (hd : decode (mC M) pc = .ok (.if_icmp .le off, 3)) (ht : (pc : Int) + off = (tgt : Int)) (hx : InR x) (Y : InR y) (kt : x ≤ y → AW E M cu su tgt ls st hi hr n Q) (kf : ¬ x ≤ y → AW E M cu su (pc + 3) ls st hi hr n Q) : AW E M cu su pc ls (aI y :: aI x :: st) hi hr n Q := by
  intro p e s m args below meth c H locs lsA C hC hL hR
  exact lv_icmp_le C.1 C.2.1 hd ht (fun q => kt (by first | exact (oi_le hx Y).mp q | exact fun z => q ((oi_le hx Y).mpr z)) p e s m args below meth c H locs lsA C hC hL hR) (fun q => kf (by first | exact (oi_le hx Y).mp q | exact fun z => q ((oi_le hx Y).mpr z)) p e s m args below meth c H locs lsA C hC hL hR)
theorem aw_ic_eqT {off : Int} {tgt : Nat} {x y : Int} (hd : decode (mC M) pc = .ok (.if_icmp .eq off, 3)) (ht : (pc : Int) + off = (tgt : Int)) (hxy : x = y) (k : AW E M cu su tgt ls (st) hi hr n Q) : AW E M cu su pc ls (aI y :: aI x :: st) hi hr n Q := by
  intro p e s m args below meth c H locs lsA C hC hL hR
  subst hxy
  exact lv_icmp_eq C.1 C.2.1 hd ht (fun _ => k p e s m args below meth c H locs lsA C hC hL hR) (fun q => absurd rfl q)
theorem aw_goto {off : Int} {tgt : Nat} (hd : decode (mC M) pc = .ok (.goto off, 3)) (ht : (pc : Int) + off = (tgt : Int)) (k : AW E M cu su tgt ls (st) hi hr n Q) : AW E M cu su pc ls (st) hi hr n Q := by
  intro p e s m args below meth c H locs lsA C hC hL hR
  exact lv_goto C.1 C.2.1 hd ht (k p e s m args below meth c H locs lsA C hC hL hR)
theorem aw_ifnonnull {off : Int} {tgt x : Nat} (hd : decode (mC M) pc = .ok (.ifnonnull off, 3)) (ht : (pc : Int) + off = (tgt : Int)) (k : AW E M cu su tgt ls (st) hi hr n Q) : AW E M cu su pc ls (aR x :: st) hi hr n Q := by
  intro p e s m args below meth c H locs lsA C hC hL hR
  exact lv_ifnonnull C.1 C.2.1 hd ht (k p e s m args below meth c H locs lsA C hC hL hR)
theorem aw_ifnull {off : Int} {x : Nat} (hd : decode (mC M) pc = .ok (.ifnull off, 3)) (k : AW E M cu su (pc + 3) ls (st) hi hr n Q) : AW E M cu su pc ls (aR x :: st) hi hr n Q := by
  intro p e s m args below meth c H locs lsA C hC hL hR
  exact lv_ifnull C.1 C.2.1 hd (k p e s m args below meth c H locs lsA C hC hL hR)
theorem aw_dup {v : AV} (hd : decode (mC M) pc = .ok (.dup, 1)) (k : AW E M cu su (pc + 1) ls (v :: v :: st) hi hr n Q) (hv : isW v = true := by rfl) : AW E M cu su pc ls (v :: st) hi hr n Q := by
  intro p e s m args below meth c H locs lsA C hC hL hR
  exact lv_dup C.1 C.2.1 hd (cv_cat E v hv) (k p e s m args below meth c H locs lsA C hC hL hR)
theorem aw_dup2 {v w : AV} (hd : decode (mC M) pc = .ok (.dup2, 1)) (k : AW E M cu su (pc + 1) ls (v :: w :: v :: w :: st) hi hr n Q) (hv : isW v = true := by rfl) (hw : isW w = true := by rfl) : AW E M cu su pc ls (v :: w :: st) hi hr n Q := by
  intro p e s m args below meth c H locs lsA C hC hL hR
  exact lv_dup2_11 C.1 C.2.1 hd (cv_cat E v hv) (cv_cat E w hw) (k p e s m args below meth c H locs lsA C hC hL hR)
theorem aw_tab {dflt lo hi2 : Int} {offs : Array Int} {len : Nat} {x off : Int} {tgt : Nat} (hd : decode (mC M) pc = .ok (.tableswitch dflt lo hi2 offs, len)) (hx : InR x) (h1 : lo ≤ x) (h2 : x ≤ hi2) (ho : offs[(x - lo).toNat]? = some off) (ht : (pc : Int) + off = (tgt : Int)) (k : AW E M cu su tgt ls (st) hi hr n Q) : AW E M cu su pc ls (aI x :: st) hi hr n Q := by
  intro p e s m args below meth c H locs lsA C hC hL hR
  exact lv_tableIn C.1 C.2.1 hd (by rw [oi_toInt hx]; omega) (by rw [oi_toInt hx]; omega) (by rw [oi_toInt hx]; exact ho) ht (k p e s m args below meth c H locs lsA C hC hL hR)
theorem aw_tabD {dflt lo hi2 : Int} {offs : Array Int} {len : Nat} {x : Int} {tgt : Nat} (hd : decode (mC M) pc = .ok (.tableswitch dflt lo hi2 offs, len)) (hx : InR x) (h1 : x < lo ∨ hi2 < x) (ht : (pc : Int) + dflt = (tgt : Int)) (k : AW E M cu su tgt ls (st) hi hr n Q) : AW E M cu su pc ls (aI x :: st) hi hr n Q := by
  intro p e s m args below meth c H locs lsA C hC hL hR
  exact lv_tableOut C.1 C.2.1 hd (by rw [oi_toInt hx]; omega) ht (k p e s m args below meth c H locs lsA C hC hL hR)
theorem aw_look {dflt : Int} {ps : Array (Int × Int)} {len : Nat} {x off : Int} {tgt : Nat} (hd : decode (mC M) pc = .ok (.lookupswitch dflt ps, len)) (hx : InR x) (hp : (ps.toList.zip (ps.toList.drop 1)).all (fun (a, next) => a.1 < next.1) = true) (ho : Op.lookupswitch.offset ps.toList dflt x = off) (ht : (pc : Int) + off = (tgt : Int)) (k : AW E M cu su tgt ls (st) hi hr n Q) : AW E M cu su pc ls (aI x :: st) hi hr n Q := by
  intro p e s m args below meth c H locs lsA C hC hL hR
  exact lv_lookup C.1 C.2.1 hd hp (by rw [oi_toInt hx]; exact ho) ht (k p e s m args below meth c H locs lsA C hC hL hR)
theorem aw_less {ls2 : List (Option AV)} (hl : ls2.length = ls.length) (hs : ∀ (i : Nat) (v : AV), ls2[i]? = some (some v) → ls[i]? = some (some v)) (k : AW E M cu su pc ls2 (st) hi hr n Q) : AW E M cu su pc ls (st) hi hr n Q := by
  intro p e s m args below meth c H locs lsA C hC hL hR
  exact k p e s m args below meth c H locs lsA C hC hL (lr_fewer hR hl hs)
theorem aw_iret {v : Int} (hd : decode (mC M) pc = .ok (.ireturn, 1)) (hr1 : mT M = some .int) (hw1 : cu ≤ mMc M) (hw2 : su ≤ mMs M) (hq : Q (some (aI v)) hi hr n) : AW E M cu su pc ls [aI v] hi hr n Q := by
  intro p e s m args below meth c H locs lsA C hC hL hR
  refine W.widen hw1 hw2 ?_
  exact W.iret C.1 C.2.1 (C.2.2.2.1.trans hr1) (fun t ht _ => ⟨_, hi, hr, n, rfl, hq, by rw [ht]; exact hC⟩) hL hd C.2.2.2.2.1
theorem aw_zret {v : Int} (hd : decode (mC M) pc = .ok (.ireturn, 1)) (hr1 : mT M = some .boolean) (hz : v = 0 ∨ v = 1) (hw1 : cu ≤ mMc M) (hw2 : su ≤ mMs M) (hq : Q (some (aI v)) hi hr n) : AW E M cu su pc ls [aI v] hi hr n Q := by
  intro p e s m args below meth c H locs lsA C hC hL hR
  refine W.widen hw1 hw2 ?_
  exact W.zret C.1 C.2.1 (C.2.2.2.1.trans hr1) (by rcases hz with rfl | rfl <;> rfl) (fun t ht _ => ⟨_, hi, hr, n, rfl, hq, by rw [ht]; exact hC⟩) hL hd C.2.2.2.2.1
theorem aw_vret (hd : decode (mC M) pc = .ok (.return_, 1)) (hr1 : mT M = none) (hw1 : cu ≤ mMc M) (hw2 : su ≤ mMs M) (hq : Q none hi hr n) : AW E M cu su pc ls [] hi hr n Q := by
  intro p e s m args below meth c H locs lsA C hC hL hR
  refine W.widen hw1 hw2 ?_
  exact W.vret C.1 C.2.1 (C.2.2.2.1.trans hr1) (fun t ht _ => ⟨_, hi, hr, n, rfl, hq, by rw [ht]; exact hC⟩) hL hd C.2.2.2.2.1
theorem aw_aret {a : Nat} {rt : FieldType} (hd : decode (mC M) pc = .ok (.areturn, 1)) (hr1 : mT M = some rt) (hrt : ∃ z, rt = .object z) (hw1 : cu ≤ mMc M) (hw2 : su ≤ mMs M) (hq : Q (some (aR a)) hi hr n) : AW E M cu su pc ls [aR a] hi hr n Q := by
  intro p e s m args below meth c H locs lsA C hC hL hR
  refine W.widen hw1 hw2 ?_
  exact W.aret C.1 C.2.1 (C.2.2.2.1.trans hr1) (Or.inl hrt) (Or.inr ⟨_, rfl⟩) (fun t ht _ => ⟨_, hi, hr, n, rfl, hq, by rw [ht]; exact hC⟩) hL hd C.2.2.2.2.1
theorem aw_lload_n {i : Fin 4} {x : Int64} (hd : decode (mC M) pc = .ok (.lload_n i, 1)) (hl : ls[(i : Nat)]? = some (some (aL x))) (k : AW E M cu su (pc + 1) ls (aL x :: st) hi hr n Q) : AW E M cu su pc ls (st) hi hr n Q := by
  intro p e s m args below meth c H locs lsA C hC hL hR
  exact lv_lload_n C.1 C.2.1 hd rfl (hR.2.2.2 _ _ hl) (k p e s m args below meth c H locs lsA C hC hL hR)
theorem aw_lload {i : Nat} {x : Int64} (hd : decode (mC M) pc = .ok (.lload i, 2)) (hl : ls[i]? = some (some (aL x))) (k : AW E M cu su (pc + 2) ls (aL x :: st) hi hr n Q) : AW E M cu su pc ls (st) hi hr n Q := by
  intro p e s m args below meth c H locs lsA C hC hL hR
  exact lv_lload C.1 C.2.1 hd (hR.2.2.2 _ _ hl) (k p e s m args below meth c H locs lsA C hC hL hR)
theorem aw_lstore_n {i : Fin 4} {x : Int64} {ls2 : List (Option AV)} (hd : decode (mC M) pc = .ok (.lstore_n i, 1)) (hi2 : (i : Nat) + 1 < mL M) (hs : (ls.set (i : Nat) (some (aL x))).set ((i : Nat) + 1) none = ls2) (k : AW E M cu su (pc + 1) ls2 (st) hi hr n Q) (hz : oneW ls (i : Nat) = true := by rfl) : AW E M cu su pc ls (aL x :: st) hi hr n Q := by
  intro p e s m args below meth c H locs lsA C hC hL hR
  exact lv_lstore_n C.1 C.2.1 hd rfl (lr_has hR) hi2 rfl (fun ls2 h2 => k p e s m args below meth c H locs ls2 C hC hL (hs ▸ lr_set2 hz hR hi2 h2))
theorem aw_lstore {i : Nat} {x : Int64} {ls2 : List (Option AV)} (hd : decode (mC M) pc = .ok (.lstore i, 2)) (hi2 : i + 1 < mL M) (hs : (ls.set i (some (aL x))).set (i + 1) none = ls2) (k : AW E M cu su (pc + 2) ls2 (st) hi hr n Q) (hz : oneW ls i = true := by rfl) : AW E M cu su pc ls (aL x :: st) hi hr n Q := by
  intro p e s m args below meth c H locs lsA C hC hL hR
  exact lv_lstore C.1 C.2.1 hd (lr_has hR) hi2 rfl (fun ls2 h2 => k p e s m args below meth c H locs ls2 C hC hL (hs ▸ lr_set2 hz hR hi2 h2))
theorem aw_ldc2 {idx : Nat} {v : Int64} (hd : decode (mC M) pc = .ok (.ldc2_w idx, 3)) (hc : Cond.constantLong (mY M).cls idx v ∈ lw_tbl) (k : AW E M cu su (pc + 3) ls (aL v :: st) hi hr n Q) : AW E M cu su pc ls (st) hi hr n Q := by
  intro p e s m args below meth c H locs lsA C hC hL hR
  exact lv_ldc2 C.1 C.2.1 C.2.2.2.2.2.1 (C.2.2.2.2.2.2.2.1 _ hc rfl _) hd (k p e s m args below meth c H locs lsA C hC hL hR)
theorem aw_lmul {x y : Int64} (hd : decode (mC M) pc = .ok (.lmul, 1)) (k : AW E M cu su (pc + 1) ls (aL (x * y) :: st) hi hr n Q) : AW E M cu su pc ls (aL y :: aL x :: st) hi hr n Q := by
  intro p e s m args below meth c H locs lsA C hC hL hR
  exact lv_lmul C.1 C.2.1 hd (k p e s m args below meth c H locs lsA C hC hL hR)
theorem aw_ladd {x y : Int64} (hd : decode (mC M) pc = .ok (.ladd, 1)) (k : AW E M cu su (pc + 1) ls (aL (x + y) :: st) hi hr n Q) : AW E M cu su pc ls (aL y :: aL x :: st) hi hr n Q := by
  intro p e s m args below meth c H locs lsA C hC hL hR
  exact lv_ladd C.1 C.2.1 hd (k p e s m args below meth c H locs lsA C hC hL hR)
theorem aw_i2l {x : Int} (hd : decode (mC M) pc = .ok (.i2l, 1)) (k : AW E M cu su (pc + 1) ls (aL (Int32.ofInt x).toInt64 :: st) hi hr n Q) : AW E M cu su pc ls (aI x :: st) hi hr n Q := by
  intro p e s m args below meth c H locs lsA C hC hL hR
  exact lv_i2l C.1 C.2.1 hd rfl (k p e s m args below meth c H locs lsA C hC hL hR)
theorem aw_lcmp {x y : Int64} (hd : decode (mC M) pc = .ok (.lcmp, 1)) (k0 : x = y → AW E M cu su (pc + 1) ls (aI 0 :: st) hi hr n Q) (k1 : ∀ z : Int, InR z → ¬ z = 0 → ¬ x = y → AW E M cu su (pc + 1) ls (aI z :: st) hi hr n Q) : AW E M cu su pc ls (aL y :: aL x :: st) hi hr n Q := by
  intro p e s m args below meth c H locs lsA C hC hL hR
  refine W.lcmp C.1 C.2.1 hd ?_
  by_cases h : x = y
  · have eq : lg_cmp x y = Int32.ofInt 0 := by subst h; simp [lg_cmp, Int64.lt_irrefl]
    rw [eq]
    exact k0 h p e s m args below meth c H locs lsA C hC hL hR
  · have eq : lg_cmp x y = Int32.ofInt (lg_cmp x y).toInt := (Int32.ofInt_toInt _).symm
    rw [eq]
    refine k1 _ ⟨?_, ?_⟩ ?_ h p e s m args below meth c H locs lsA C hC hL hR
    · exact Int32.le_toInt _
    · exact Int32.toInt_lt _
    · unfold lg_cmp
      by_cases h1 : y < x
      · simp [h1]
      · simp [h1, h]
theorem aw_lret {x : Int64} (hd : decode (mC M) pc = .ok (.lreturn, 1)) (hr1 : mT M = some .long) (hw1 : cu ≤ mMc M) (hw2 : su ≤ mMs M) (hq : Q (some (aL x)) hi hr n) : AW E M cu su pc ls [aL x] hi hr n Q := by
  intro p e s m args below meth c H locs lsA C hC hL hR
  refine W.widen hw1 hw2 ?_
  exact W.lret C.1 C.2.1 (C.2.2.2.1.trans hr1) (fun t ht _ => ⟨_, hi, hr, n, rfl, hq, by rw [ht]; exact hC⟩) hL hd C.2.2.2.2.1
theorem aw_andM {x : Int} (hd : decode (mC M) pc = .ok (.iand, 1)) (k : ∀ j : Int, 0 ≤ j → j ≤ 2147483647 → AW E M cu su (pc + 1) ls (aI j :: st) hi hr n Q) : AW E M cu su pc ls (aI 2147483647 :: aI x :: st) hi hr n Q := by
  intro p e s m args below meth c H locs lsA C hC hL hR
  refine lv_iand C.1 C.2.1 hd ?_
  obtain ⟨j, hj, ej⟩ := pk_andE (Int32.ofInt x) (m := Int32.ofInt 2147483647) 31 (by decide)
  rw [ej, ← oi_nI]
  have hj : j < 2147483648 := hj
  exact k (j : Int) (by omega) (by omega) p e s m args below meth c H locs lsA C hC hL hR
theorem aw_andX {x y : Int} (hd : decode (mC M) pc = .ok (.iand, 1)) (k : ∀ j : Int, InR j → AW E M cu su (pc + 1) ls (aI j :: st) hi hr n Q) : AW E M cu su pc ls (aI y :: aI x :: st) hi hr n Q := by
  intro p e s m args below meth c H locs lsA C hC hL hR
  refine lv_iand C.1 C.2.1 hd  ?_
  have g : ∀ z : Int32, W p (eL E) e (mR M) s m args below meth c H locs cu su (MQ below (QA E Q) args s (mMc M) (mMs M) (fr E)) (F0 m (pc + 1) lsA (.int z :: st.map (cv E))) := fun z => by
    have q := k z.toInt ⟨Int32.le_toInt _, Int32.toInt_lt _⟩ p e s m args below meth c H locs lsA C hC hL hR
    rw [List.map_cons, cv_i, Int32.ofInt_toInt] at q
    exact q
  exact g _
theorem aw_shrX {x y : Int} (hd : decode (mC M) pc = .ok (.ishr, 1)) (k : ∀ j : Int, InR j → AW E M cu su (pc + 1) ls (aI j :: st) hi hr n Q) : AW E M cu su pc ls (aI y :: aI x :: st) hi hr n Q := by
  intro p e s m args below meth c H locs lsA C hC hL hR
  refine lv_ishr C.1 C.2.1 hd  ?_
  have g : ∀ z : Int32, W p (eL E) e (mR M) s m args below meth c H locs cu su (MQ below (QA E Q) args s (mMc M) (mMs M) (fr E)) (F0 m (pc + 1) lsA (.int z :: st.map (cv E))) := fun z => by
    have q := k z.toInt ⟨Int32.le_toInt _, Int32.toInt_lt _⟩ p e s m args below meth c H locs lsA C hC hL hR
    rw [List.map_cons, cv_i, Int32.ofInt_toInt] at q
    exact q
  exact g _
theorem aw_divX {x y : Int} (hd : decode (mC M) pc = .ok (.idiv, 1)) (h0 : ¬ Int32.ofInt y = 0) (k : ∀ j : Int, InR j → AW E M cu su (pc + 1) ls (aI j :: st) hi hr n Q) : AW E M cu su pc ls (aI y :: aI x :: st) hi hr n Q := by
  intro p e s m args below meth c H locs lsA C hC hL hR
  refine lv_idiv C.1 C.2.1 hd h0 ?_
  have g : ∀ z : Int32, W p (eL E) e (mR M) s m args below meth c H locs cu su (MQ below (QA E Q) args s (mMc M) (mMs M) (fr E)) (F0 m (pc + 1) lsA (.int z :: st.map (cv E))) := fun z => by
    have q := k z.toInt ⟨Int32.le_toInt _, Int32.toInt_lt _⟩ p e s m args below meth c H locs lsA C hC hL hR
    rw [List.map_cons, cv_i, Int32.ofInt_toInt] at q
    exact q
  exact g _
theorem aw_mulX {x y : Int} (hd : decode (mC M) pc = .ok (.imul, 1)) (k : ∀ j : Int, InR j → AW E M cu su (pc + 1) ls (aI j :: st) hi hr n Q) : AW E M cu su pc ls (aI y :: aI x :: st) hi hr n Q := by
  intro p e s m args below meth c H locs lsA C hC hL hR
  refine lv_imul C.1 C.2.1 hd  ?_
  have g : ∀ z : Int32, W p (eL E) e (mR M) s m args below meth c H locs cu su (MQ below (QA E Q) args s (mMc M) (mMs M) (fr E)) (F0 m (pc + 1) lsA (.int z :: st.map (cv E))) := fun z => by
    have q := k z.toInt ⟨Int32.le_toInt _, Int32.toInt_lt _⟩ p e s m args below meth c H locs lsA C hC hL hR
    rw [List.map_cons, cv_i, Int32.ofInt_toInt] at q
    exact q
  exact g _
end AROWS
