/-! the JDK's small ones -/
def bcU (x y : Int) : Int := ((Int32.ofInt x).toUInt32 >>> ((Int32.ofInt y).toUInt32 &&& Int32.toUInt32 31)).toInt32.toInt
def bcA (x y : Int) : Int := (Int32.ofInt x &&& Int32.ofInt y).toInt
def bc1 (x : Int) : Int := x - bcA (bcU x 1) (Int32.toInt 1431655765)
def bc2 (x : Int) : Int := bcA x (Int32.toInt 858993459) + bcA (bcU x 2) (Int32.toInt 858993459)
def bc3 (x : Int) : Int := bcA (x + bcU x 4) (Int32.toInt 252645135)
def bc4 (x : Int) : Int := x + bcU x 8
def bc5 (x : Int) : Int := x + bcU x 16
theorem bc_sq : ∀ q : Nat, q < 64 → ∀ r : Nat, r < 64 → bcA (bc5 (bc4 (bc3 (bc2 (bc1 ((64 * q + r : Nat) : Int)))))) 63 = onA (64 * q + r) 12 := by decide +kernel
theorem bc_all (a : Nat) (h : a < 4096) : bcA (bc5 (bc4 (bc3 (bc2 (bc1 (a : Int)))))) 63 = onA a 12 := by
  have g := bc_sq (a / 64) (by omega) (a % 64) (by omega)
  rwa [show 64 * (a / 64) + a % 64 = a by omega] at g
section JDK
variable {E : ET} {hi : HI} {hr : HR}
set_option maxRecDepth 100000 in
set_option maxHeartbeats 4000000 in
theorem c_bitCount {a : Nat} (ha : a < 4096) : AMet E M_J6_bitCount_0f7a4 [aI (a : Int)] hi hr 125 (EX (some (aI (onA a 12))) hi hr 125) := by
  refine am_of (by decide +kernel) (Nat.le_of_ble_eq_true rfl) ?_
  refine aw_iload_n dJ6_bitCount_0f7a4_0 rfl ?_
  refine aw_iload_n dJ6_bitCount_0f7a4_1 rfl ?_
  refine aw_iconst dJ6_bitCount_0f7a4_2 ?_
  refine aw_iushr dJ6_bitCount_0f7a4_3 ?_
  refine aw_ldcw dJ6_bitCount_0f7a4_4 w_k265 ?_
  refine aw_iandG dJ6_bitCount_0f7a4_7 ?_
  refine aw_isub dJ6_bitCount_0f7a4_8 ?_
  refine aw_istore_n (ls2 := [_]) dJ6_bitCount_0f7a4_9 (by decide) rfl ?_
  refine aw_iload_n dJ6_bitCount_0f7a4_10 rfl ?_
  refine aw_ldcw dJ6_bitCount_0f7a4_11 w_k266 ?_
  refine aw_iandG dJ6_bitCount_0f7a4_14 ?_
  refine aw_iload_n dJ6_bitCount_0f7a4_15 rfl ?_
  refine aw_iconst dJ6_bitCount_0f7a4_16 ?_
  refine aw_iushr dJ6_bitCount_0f7a4_17 ?_
  refine aw_ldcw dJ6_bitCount_0f7a4_18 w_k266 ?_
  refine aw_iandG dJ6_bitCount_0f7a4_21 ?_
  refine aw_iadd dJ6_bitCount_0f7a4_22 ?_
  refine aw_istore_n (ls2 := [_]) dJ6_bitCount_0f7a4_23 (by decide) rfl ?_
  refine aw_iload_n dJ6_bitCount_0f7a4_24 rfl ?_
  refine aw_iload_n dJ6_bitCount_0f7a4_25 rfl ?_
  refine aw_iconst dJ6_bitCount_0f7a4_26 ?_
  refine aw_iushr dJ6_bitCount_0f7a4_27 ?_
  refine aw_iadd dJ6_bitCount_0f7a4_28 ?_
  refine aw_ldcw dJ6_bitCount_0f7a4_29 w_k267 ?_
  refine aw_iandG dJ6_bitCount_0f7a4_32 ?_
  refine aw_istore_n (ls2 := [_]) dJ6_bitCount_0f7a4_33 (by decide) rfl ?_
  refine aw_iload_n dJ6_bitCount_0f7a4_34 rfl ?_
  refine aw_iload_n dJ6_bitCount_0f7a4_35 rfl ?_
  refine aw_bipush dJ6_bitCount_0f7a4_36 (by decide) ?_
  refine aw_iushr dJ6_bitCount_0f7a4_38 ?_
  refine aw_iadd dJ6_bitCount_0f7a4_39 ?_
  refine aw_istore_n (ls2 := [_]) dJ6_bitCount_0f7a4_40 (by decide) rfl ?_
  refine aw_iload_n dJ6_bitCount_0f7a4_41 rfl ?_
  refine aw_iload_n dJ6_bitCount_0f7a4_42 rfl ?_
  refine aw_bipush dJ6_bitCount_0f7a4_43 (by decide) ?_
  refine aw_iushr dJ6_bitCount_0f7a4_45 ?_
  refine aw_iadd dJ6_bitCount_0f7a4_46 ?_
  refine aw_istore_n (ls2 := [_]) dJ6_bitCount_0f7a4_47 (by decide) rfl ?_
  refine aw_iload_n dJ6_bitCount_0f7a4_48 rfl ?_
  refine aw_bipush dJ6_bitCount_0f7a4_49 (by decide) ?_
  refine aw_iandG dJ6_bitCount_0f7a4_51 ?_
  refine aw_iret dJ6_bitCount_0f7a4_52 rfl (by decide) (by decide) ?_
  exact exI (bc_all a ha)
theorem aw_max {M : MT} {cu su pc : Nat} {ls : List (Option AV)} {st : List AV} {n : Nat} {Q : QT} {idx : Nat} {x y : Int} (hd : decode (mC M) pc = .ok (.invokestatic idx, 3)) (hl : Cond.methodLink (mY M).cls idx Lib.Math.max.name ∈ lw_tbl) (h2 : Cond.static Lib.Math.max.name ∈ lw_tbl) (h3 : Cond.initialized "java/lang/Math" ∈ lw_tbl) (h4 : Cond.code Lib.Math.max.name Lib.Math.max.code 2 (some .int) ∈ lw_tbl)
    (hF : 1 ≤ mF M) (hO : 2 * st.length + 13 ≤ mO M) (hw1 : cu ≤ mMc M) (hw2 : su ≤ mMs M) (hx : InR x) (hy : InR y) (kk : AW E M cu su (pc + 3) ls (aI (max x y) :: st) hi hr n Q) : AW E M cu su pc ls (aI y :: aI x :: st) hi hr n Q := by
  intro p e s m args below meth c H locs lsA hX hC hL hR
  have hK := hX.2.2.2.2.2.2.2
  refine va_mmax hX.1 hX.2.1 (hX.2.2.1.trans hR.1.symm) hX.2.2.2.2.2.1 (hK.1 _ hl rfl _) (hK.1 _ h2 rfl _) (hK.1 _ h3 rfl _) (hK.1 _ h4 rfl _) hF (Nat.le_trans (Nat.add_le_add_right (st_cat E st) 13) hO) hw1 hw2 hd ?_
  have g := kk p e s m args below meth c H locs lsA hX hC hL hR
  rw [List.map_cons, cv_i] at g
  have e1 : (if Int32.ofInt x < Int32.ofInt y then Int32.ofInt y else Int32.ofInt x) = Int32.ofInt (max x y) := by
    by_cases h : x < y
    · rw [if_pos ((oi_lt hx hy).mpr h), show max x y = y by omega]
    · rw [if_neg (fun q => h ((oi_lt hx hy).mp q)), show max x y = x by omega]
  rw [e1]
  exact g
theorem aw_min {M : MT} {cu su pc : Nat} {ls : List (Option AV)} {st : List AV} {n : Nat} {Q : QT} {idx : Nat} {x y : Int} (hd : decode (mC M) pc = .ok (.invokestatic idx, 3)) (hl : Cond.methodLink (mY M).cls idx Lib.Math.min.name ∈ lw_tbl) (h2 : Cond.static Lib.Math.min.name ∈ lw_tbl) (h3 : Cond.initialized "java/lang/Math" ∈ lw_tbl) (h4 : Cond.code Lib.Math.min.name Lib.Math.min.code 2 (some .int) ∈ lw_tbl)
    (hF : 1 ≤ mF M) (hO : 2 * st.length + 13 ≤ mO M) (hw1 : cu ≤ mMc M) (hw2 : su ≤ mMs M) (hx : InR x) (hy : InR y) (kk : AW E M cu su (pc + 3) ls (aI (min x y) :: st) hi hr n Q) : AW E M cu su pc ls (aI y :: aI x :: st) hi hr n Q := by
  intro p e s m args below meth c H locs lsA hX hC hL hR
  have hK := hX.2.2.2.2.2.2.2
  refine va_mmin hX.1 hX.2.1 (hX.2.2.1.trans hR.1.symm) hX.2.2.2.2.2.1 (hK.1 _ hl rfl _) (hK.1 _ h2 rfl _) (hK.1 _ h3 rfl _) (hK.1 _ h4 rfl _) hF (Nat.le_trans (Nat.add_le_add_right (st_cat E st) 13) hO) hw1 hw2 hd ?_
  have g := kk p e s m args below meth c H locs lsA hX hC hL hR
  rw [List.map_cons, cv_i] at g
  have e1 : (if Int32.ofInt y < Int32.ofInt x then Int32.ofInt y else Int32.ofInt x) = Int32.ofInt (min x y) := by
    by_cases h : y < x
    · rw [if_pos ((oi_lt hy hx).mpr h), show min x y = y by omega]
    · rw [if_neg (fun q => h ((oi_lt hy hx).mp q)), show min x y = x by omega]
  rw [e1]
  exact g
theorem cmX2_44 : Cond.methodLink RX2 44 Lib.Math.max.name ∈ lw_tbl := (mem_tb (List.mem_of_getElem? (i := 527) (by decide +kernel)))
theorem cmX4_120 : Cond.methodLink RX4 120 Lib.Math.max.name ∈ lw_tbl := (mem_tb (List.mem_of_getElem? (i := 531) (by decide +kernel)))
theorem w_max2 : Cond.static Lib.Math.max.name ∈ lw_tbl := (mem_tb (List.mem_of_getElem? (i := 528) (by decide +kernel)))
theorem w_max4 : Cond.code Lib.Math.max.name Lib.Math.max.code 2 (some .int) ∈ lw_tbl := (mem_tb (List.mem_of_getElem? (i := 529) (by decide +kernel)))
theorem cmX8_149 : Cond.methodLink RX8 149 Lib.Math.min.name ∈ lw_tbl := (mem_tb (List.mem_of_getElem? (i := 148) (by decide +kernel)))
theorem cmX4_114 : Cond.methodLink RX4 114 Lib.Math.min.name ∈ lw_tbl := (mem_tb (List.mem_of_getElem? (i := 530) (by decide +kernel)))
theorem w_min2 : Cond.static Lib.Math.min.name ∈ lw_tbl := (mem_tb (List.mem_of_getElem? (i := 149) (by decide +kernel)))
theorem w_min4 : Cond.code Lib.Math.min.name Lib.Math.min.code 2 (some .int) ∈ lw_tbl := (mem_tb (List.mem_of_getElem? (i := 150) (by decide +kernel)))
theorem w_math : Cond.initialized "java/lang/Math" ∈ lw_tbl := (mem_tb (List.mem_of_getElem? (i := 7) (by decide +kernel)))
end JDK
