/-! the made heap, pictures of its parts, short rows -/
/-- what the reference fields hold when all is made; the rows of States apart -/
def offS : List Nat := [1, 6, 11, 12, 13, 14, 15, 16]
def offP : List Nat := [1, 18, 35, 122, 124]
def HR0 : HR := fun a k => match (sh a).1 with
  | 0 => some (a + 1 + k)
  | 2 => some (a + 1 + k)
  | 4 => some (a + offS.getD k 0)
  | 1 => some 36
  | 6 => some 123
  | 8 => some (offP.getD k 0)
  | _ => none
/-- the references are as they were made, but the row of the history's States -/
def HRk (hr : HR) : Prop := ∀ a k : Nat, a ≠ 36 → frf (sh a).1 k = true → hr a k = HR0 a k
def stIds : List Nat := [1, 18, 37, 54, 71, 88, 105]
def St (o : Nat) : Prop := o ∈ stIds
theorem st_lt {o : Nat} (h : St o) : 0 < o ∧ o + 17 ≤ 122 := (show ∀ o, o ∈ stIds → 0 < o ∧ o + 17 ≤ 122 by decide) o h
theorem st_sh {o : Nat} (h : St o) (j : Nat) (hj : j < 17 := by decide) : sh (o + j) = shSt.getD j (12, 0) := (show ∀ o, o ∈ stIds → ∀ j, j < 17 → sh (o + j) = shSt.getD j (12, 0) by decide +kernel) o h j hj
theorem st_sh0 {o : Nat} (h : St o) : sh o = (4, 11) := st_sh h 0
theorem st_r0 {o : Nat} {hr : HR} (h : St o) (hR : HRk hr) (k : Nat) (hk : k < 8 := by decide) : hr o k = some (o + offS.getD k 0) := by
  have h0 := st_lt h
  rw [hR o k (fun e => by subst e; revert h; unfold St; decide) (by rw [st_sh0 h]; revert k; decide)]
  unfold HR0
  rw [st_sh0 h]
  rfl
theorem st_r1 {o : Nat} {hr : HR} (h : St o) (hR : HRk hr) (k : Nat) (hk : k < 4 := by decide) : hr (o + 1) k = some (o + 2 + k) := by
  have e : sh (o + 1) = (0, 4) := st_sh h 1
  have h36 : o + 1 ≠ 36 := (show ∀ o, o ∈ stIds → o + 1 ≠ 36 by decide) o h
  rw [hR (o + 1) k h36 (by rw [e]; revert k; decide)]
  unfold HR0
  rw [e]
  rfl
theorem st_r6 {o : Nat} {hr : HR} (h : St o) (hR : HRk hr) (k : Nat) (hk : k < 4 := by decide) : hr (o + 6) k = some (o + 7 + k) := by
  have e : sh (o + 6) = (2, 5) := st_sh h 6
  have h36 : o + 6 ≠ 36 := (show ∀ o, o ∈ stIds → o + 6 ≠ 36 by decide) o h
  rw [hR (o + 6) k h36 (by rw [e]; revert k; decide)]
  unfold HR0
  rw [e]
  rfl
/-- one object or array of the heap, by a function -/
def pa (a : Nat) (hi : HI) (f : Int → Int) : HI := fun x k => if x = a then f (k : Int) else hi x k
def up1 (f : Int → Int) (k v : Int) : Int → Int := fun x => if x = k then v else f x
theorem up1_s (f : Int → Int) (k v : Int) : up1 f k v k = v := by simp [up1]
theorem up1_n (f : Int → Int) {k x : Int} (v : Int) (h : x ≠ k) : up1 f k v x = f x := by simp [up1, h]
theorem pa_g (a : Nat) (hi : HI) (f : Int → Int) (k : Nat) : pa a hi f a k = f (k : Int) := by simp [pa]
theorem pa_gn {a x : Nat} (hi : HI) (f : Int → Int) (k : Nat) (h : x ≠ a) : pa a hi f x k = hi x k := by simp [pa, h]
theorem pa_gi (a : Nat) (hi : HI) (f : Int → Int) {j : Int} (h : 0 ≤ j) : pa a hi f a j.toNat = f j := by
  rw [pa_g, Int.toNat_of_nonneg h]
theorem pa_u (a : Nat) (hi : HI) (f : Int → Int) (k : Nat) (v : Int) : up2 (pa a hi f) a k v = pa a hi (up1 f (k : Int) v) := by
  funext x y
  unfold up2 pa up1
  by_cases h : x = a
  · by_cases h2 : y = k
    · simp [h, h2]
    · simp only [h, h2, and_false, if_false, if_true]
      rw [if_neg (by omega)]
  · simp [h]
theorem pa_ui (a : Nat) (hi : HI) (f : Int → Int) {j : Int} (v : Int) (h : 0 ≤ j) : up2 (pa a hi f) a j.toNat v = pa a hi (up1 f j v) := by
  rw [pa_u, Int.toNat_of_nonneg h]
theorem pa_un {a x : Nat} (hi : HI) (f : Int → Int) (k : Nat) (v : Int) (h : x ≠ a) : up2 (pa a hi f) x k v = pa a (up2 hi x k v) f := by
  funext y z
  unfold up2 pa
  by_cases h1 : y = a
  · subst h1; simp [Ne.symm h]
  · simp [h1]
theorem pa_self (a : Nat) (hi : HI) : pa a hi (fun k => hi a k.toNat) = hi := by
  funext x y
  unfold pa
  by_cases h : x = a
  · subst h; simp
  · simp [h]
theorem pa_pa (a : Nat) (hi : HI) (f g : Int → Int) : pa a (pa a hi f) g = pa a hi g := by
  funext x y
  unfold pa
  by_cases h : x = a <;> simp [h]
theorem pa_comm {a b : Nat} (hi : HI) (f g : Int → Int) (h : a ≠ b) : pa a (pa b hi f) g = pa b (pa a hi g) f := by
  funext x y
  unfold pa
  by_cases h1 : x = a
  · subst h1; simp [h]
  · simp [h1]
/-- a State's cells by a function of their places -/
abbrev TS : Type := Nat → Int → Int
def putS (o : Nat) (hi : HI) (t : TS) : HI := fun x k => if o ≤ x ∧ x < o + 17 then t (x - o) (k : Int) else hi x k
def getS (o : Nat) (hi : HI) : TS := fun j k => hi (o + j) k.toNat
def ut (t : TS) (j : Nat) (k v : Int) : TS := fun x y => if x = j ∧ y = k then v else t x y
theorem ut_s (t : TS) (j : Nat) (k v : Int) : ut t j k v j k = v := by simp [ut]
theorem ut_n (t : TS) {j x : Nat} {k y : Int} (v : Int) (h : ¬ (x = j ∧ y = k)) : ut t j k v x y = t x y := by simp only [ut, if_neg h]
theorem putS_g (o : Nat) (hi : HI) (t : TS) (j : Nat) (k : Nat) (hj : j < 17 := by decide) : putS o hi t (o + j) k = t j (k : Int) := by
  unfold putS
  rw [if_pos (by omega), Nat.add_sub_cancel_left]
theorem putS_g0 (o : Nat) (hi : HI) (t : TS) (k : Nat) : putS o hi t o k = t 0 (k : Int) := putS_g o hi t 0 k
theorem putS_gi (o : Nat) (hi : HI) (t : TS) (j : Nat) {k : Int} (hk : 0 ≤ k) (hj : j < 17 := by decide) : putS o hi t (o + j) k.toNat = t j k := by
  rw [putS_g o hi t j _ hj, Int.toNat_of_nonneg hk]
theorem putS_u (o : Nat) (hi : HI) (t : TS) (j : Nat) (k : Nat) (v : Int) (hj : j < 17 := by decide) : up2 (putS o hi t) (o + j) k v = putS o hi (ut t j (k : Int) v) := by
  funext x y
  unfold up2 putS ut
  by_cases h : x = o + j ∧ y = k
  · obtain ⟨rfl, rfl⟩ := h
    rw [if_pos ⟨rfl, rfl⟩, if_pos (by omega), if_pos ⟨by omega, rfl⟩]
  · rw [if_neg h]
    by_cases h2 : o ≤ x ∧ x < o + 17
    · rw [if_pos h2, if_pos h2, if_neg]
      rintro ⟨e1, e2⟩
      exact h ⟨by omega, by omega⟩
    · rw [if_neg h2, if_neg h2]
theorem putS_u0 (o : Nat) (hi : HI) (t : TS) (k : Nat) (v : Int) : up2 (putS o hi t) o k v = putS o hi (ut t 0 (k : Int) v) := putS_u o hi t 0 k v
theorem putS_ui (o : Nat) (hi : HI) (t : TS) (j : Nat) {k : Int} (v : Int) (hk : 0 ≤ k) (hj : j < 17 := by decide) : up2 (putS o hi t) (o + j) k.toNat v = putS o hi (ut t j k v) := by
  rw [putS_u o hi t j _ v hj, Int.toNat_of_nonneg hk]
theorem putS_self (o : Nat) (hi : HI) : putS o hi (getS o hi) = hi := by
  funext x y
  unfold putS getS
  by_cases h : o ≤ x ∧ x < o + 17
  · rw [if_pos h, show o + (x - o) = x by omega, Int.toNat_natCast]
  · rw [if_neg h]
theorem putS_out {o x : Nat} (hi : HI) (t : TS) (k : Nat) (h : x < o ∨ o + 17 ≤ x) : putS o hi t x k = hi x k := by
  unfold putS
  rw [if_neg (by omega)]
theorem putS_putS (o : Nat) (hi : HI) (t u : TS) : putS o (putS o hi t) u = putS o hi u := by
  funext x y
  unfold putS
  by_cases h : o ≤ x ∧ x < o + 17 <;> simp [h]
section SHORT
variable {E : ET} {M M2 : MT} {cu su pc : Nat} {ls : List (Option AV)} {st : List AV} {hi h1 : HI} {hr : HR} {n : Nat} {Q : QT} {idx a N : Nat} {r1 : AV} {C : String} {T : u_T} {ty : Nat → FieldType} {c k : Nat}
/-- loads and stores that name what comes -/
theorem aw_getv {v : Int} (hd : decode (mC M) pc = .ok (.getfield idx, 3)) (hc : CI c C T N ty) (hk : k < N) (hl : FL (mY M).cls idx C T k) (ha : a < n) (hs : sh a = (c, N)) (hf : frf c k = false) (hv : hi a k = v)
    (kk : AW E M cu su (pc + 3) ls (aI v :: st) hi hr n Q) : AW E M cu su pc ls (aR a :: st) hi hr n Q := aw_geti hd hc hk hl ha hs hf (by rw [hv]; exact kk)
theorem aw_putv {v : Int} (hd : decode (mC M) pc = .ok (.putfield idx, 3)) (hc : CI c C T N ty) (hk : k < N) (hl : FL (mY M).cls idx C T k) (ha : a < n) (hs : sh a = (c, N)) (hf : frf c k = false) (hfin : (T k).2.2.2 = false) (hty : ty k = .int ∨ (ty k = .boolean ∧ (v = 0 ∨ v = 1))) (hh : up2 hi a k v = h1)
    (kk : AW E M cu su (pc + 3) ls st h1 hr n Q) : AW E M cu su pc ls (aI v :: aR a :: st) hi hr n Q := aw_puti hd hc hk hl ha hs hf hfin hty (by rw [hh]; exact kk)
theorem aw_iald {v j : Int} (hd : decode (mC M) pc = .ok (.iaload, 1)) (hA : AOK E n a N) (h0 : 0 ≤ j) (h1 : j < N) (hN : N ≤ 100000) (hv : hi a j.toNat = v) (kk : AW E M cu su (pc + 1) ls (aI v :: st) hi hr n Q) : AW E M cu su pc ls (aI j :: aR a :: st) hi hr n Q :=
  aw_iaload hd hA h0 h1 ⟨by omega, by omega⟩ (by rw [hv]; exact kk)
theorem aw_iast {j v : Int} {h2 : HI} (hd : decode (mC M) pc = .ok (.iastore, 1)) (ha : a < n) (hs : sh a = (10, N)) (h0 : 0 ≤ j) (h1 : j < N) (hN : N ≤ 100000) (hh : up2 hi a j.toNat v = h2) (kk : AW E M cu su (pc + 1) ls st h2 hr n Q) : AW E M cu su pc ls (aI v :: aI j :: aR a :: st) hi hr n Q :=
  aw_iastore hd ha hs h0 h1 ⟨by omega, by omega⟩ (by rw [hh]; exact kk)
end SHORT
