/-! THE ABSTRACT MACHINE: values are whole numbers or numbers of objects; a heap is two functions; AW is W over it -/
abbrev AV : Type := Int ⊕ (Option Nat ⊕ Int64)
abbrev aI (z : Int) : AV := .inl z
abbrev aR (a : Nat) : AV := .inr (.inl (some a))
abbrev aN : AV := .inr (.inl none)
abbrev aL (x : Int64) : AV := .inr (.inr x)
abbrev aO (x : Option Nat) : AV := .inr (.inl x)
/-- one word -/
def isW (v : AV) : Bool := match v with
  | .inl _ => true
  | .inr (.inl _) => true
  | .inr (.inr _) => false
abbrev HI : Type := Nat → Nat → Int
abbrev HR : Type := Nat → Nat → Option Nat
/-- H0, launch, addresses of the six arrays that were there before, what they hold, their lengths, class ids, slots, int[], State[] -/
abbrev ET : Type := Heap × Launch × (Nat → Nat) × (Nat → Nat → Int) × (Nat → Nat) × (Nat → ClassId) × (Nat → Nat → Nat) × ClassId × ClassId
abbrev eH (E : ET) : Heap := E.1
abbrev eL (E : ET) : Launch := E.2.1
abbrev eSa (E : ET) : Nat → Nat := E.2.2.1
abbrev eX (E : ET) : Nat → Nat → Int := E.2.2.2.1
abbrev eN (E : ET) : Nat → Nat := E.2.2.2.2.1
abbrev eC (E : ET) : Nat → ClassId := E.2.2.2.2.2.1
abbrev eI (E : ET) : Nat → Nat → Nat := E.2.2.2.2.2.2.1
abbrev eA (E : ET) : ClassId := E.2.2.2.2.2.2.2.1
abbrev eS (E : ET) : ClassId := E.2.2.2.2.2.2.2.2
abbrev eB (E : ET) : Nat := (eH E).size
/-- a method: name, code, locals, answer, frames, words of locals, new cells, new slots -/
abbrev MT : Type := MethodName × ByteArray × Nat × Option FieldType × Nat × Nat × Nat × Nat
abbrev mY (M : MT) : MethodName := M.1
abbrev mC (M : MT) : ByteArray := M.2.1
abbrev mL (M : MT) : Nat := M.2.2.1
abbrev mT (M : MT) : Option FieldType := M.2.2.2.1
abbrev mF (M : MT) : Nat := M.2.2.2.2.1
abbrev mO (M : MT) : Nat := M.2.2.2.2.2.1
abbrev mMc (M : MT) : Nat := M.2.2.2.2.2.2.1
abbrev mMs (M : MT) : Nat := M.2.2.2.2.2.2.2
abbrev mR (M : MT) : Room := { frames := mF M, cells := mMc M, slots := mMs M, locals := mO M }
def ad (E : ET) (a : Nat) : Nat := if a < 1000 then eB E + a else eSa E (a - 1000)
def cv (E : ET) (v : AV) : Value := match v with
  | .inl z => .int (Int32.ofInt z)
  | .inr (.inl none) => .null
  | .inr (.inl (some a)) => .ref (ad E a)
  | .inr (.inr x) => .long x
theorem cv_i (E : ET) (z : Int) : cv E (aI z) = .int (Int32.ofInt z) := rfl
theorem cv_r (E : ET) (a : Nat) : cv E (aR a) = .ref (ad E a) := rfl
/-- which fields hold references -/
def frf (c j : Nat) : Bool := (c == 0 && j < 4) || (c == 1 && j == 0) || (c == 2 && j < 4) || (c == 4 && j < 8) || (c == 6 && j == 0) || (c == 8 && j < 5)
def shSt : List (Nat × Nat) := [(4, 11), (0, 4), (10, 48), (10, 48), (10, 48), (10, 48), (2, 5), (10, 8), (10, 8), (10, 8), (10, 8), (7, 8), (5, 7), (10, 4), (10, 8), (10, 2), (10, 12)]
/-- the objects in the order of their making: kind (a class, 10 int[], 11 State[]), length -/
def shL : List (Nat × Nat) := (8, 5) :: (shSt ++ (shSt ++ ((1, 2) :: (11, 5) :: (shSt ++ (shSt ++ (shSt ++ (shSt ++ (shSt ++ [(6, 6), (10, 60), (3, 5)]))))))))
def sh (a : Nat) : Nat × Nat := shL.getD a (12, 0)
theorem shL_len : shL.length = 125 := by decide +kernel
def fv (E : ET) (c : Nat) (hi : HI) (hr : HR) (k j : Nat) : Value := if frf c j then cv E (aO (hr k j)) else cv E (.inl (hi k j))
def cellOK (E : ET) (hi : HI) (hr : HR) (k : Nat) (H : Heap) : Prop :=
  ((sh k).1 < 10 → t_OB (eB E + k) (eC E (sh k).1) (sh k).2 (eI E (sh k).1) H (fun j => fv E (sh k).1 hi hr k j)) ∧
  ((sh k).1 = 10 → H[eB E + k]? = some (arrV (eA E) (sh k).2 (fun j => cv E (.inl (hi k j))))) ∧
  ((sh k).1 = 11 → H[eB E + k]? = some (arrV (eS E) (sh k).2 (fun j => cv E (aO (hr k j)))))
def CC (E : ET) (hi : HI) (hr : HR) (n : Nat) (H : Heap) : Prop :=
  H.size = eB E + n ∧ n ≤ 125 ∧ (∀ q : Nat, q < eB E → H[q]? = (eH E)[q]?) ∧ (∀ k : Nat, k < n → cellOK E hi hr k H) ∧ (∀ i : Nat, i < 6 → ∀ j : Nat, hi (1000 + i) j = eX E i j) ∧ (∀ k : Nat, n ≤ k → k < 1000 → ∀ j : Nat, hi k j = 0 ∧ hr k j = none)
/-- the tables' words that a call carries on -/
def okW : Cond → Bool
  | .fieldLinkNest .. => true
  | .methodLinkNest .. => true
  | .arrayClass .. => true
  | w => w.onTables && w.keeps
def stn (i : Nat) : String := match i with
  | 0 => "SETTING_FIRST"
  | 1 => "WORDLINE"
  | 2 => "LATE"
  | 3 => "SETTING_LEAST"
  | _ => "SETTING_MOST"
def KE (E : ET) (U : State) : Prop :=
  (∀ w ∈ lw_tbl, okW w = true → ∀ a : Array Value, w.before a U = true) ∧ (∀ (c : Nat) (q : vw_C), vwCl[c]? = some q → u_Kn U q.1 q.2.1 q.2.2 (eC E c) (eI E c)) ∧
  (ArrOfT U (eA E) .int ∧ va_RA U (eA E) .int) ∧ (ArrOfT U (eS E) (.object "PagePairs$State") ∧ va_RA U (eS E) (.object "PagePairs$State")) ∧
  (∀ i : Nat, i < 6 → va_T .int (eSa E i) (eN E i) (fun j => .int (Int32.ofInt (eX E i j))) (fun q => eB E ≤ q) U (eH E) ∧ eSa E i < eB E) ∧
  (∀ i : Nat, i < 5 → va_Z "PagePairs" (stn i) "[I" (.ref (eSa E i)) (fun q => eB E ≤ q) U (eH E)) ∧ va_AO "PagePairs$State" U
theorem okW_warm {w : Cond} (h : okW w = true) {s U : State} (hW : s.WarmedH U.vm) (hs : ∀ a : Array Value, w.before a s = true) : ∀ a : Array Value, w.before a U = true := by
  intro a
  by_cases h1 : (w.onTables && w.keeps) = true
  · exact word_at hW (Or.inl h1) (hs a)
  · cases w <;> first
      | exact word_at hW (Or.inr ⟨_, rfl⟩) (hs a)
      | exact va_Nw.use rfl (va_Nw.warmF hW (hs #[]))
      | exact va_Nw.use rfl (va_Nw.warmM hW (hs #[]))
      | exact absurd h h1
theorem okW_same {w : Cond} (h : okW w = true) {s U : State} (hv : s.vm = U.vm) (hs : ∀ a : Array Value, w.before a s = true) : ∀ a : Array Value, w.before a U = true :=
  okW_warm h (by rw [← hv]; exact State.WarmedH.refl s) hs
theorem KE.warm {E : ET} {s U : State} (hW : s.WarmedH U.vm) (h : KE E s) : KE E U := by
  obtain ⟨h1, h2, h3, h4, h5, h6, h7⟩ := h
  refine ⟨fun w hw hk => okW_warm hk hW (h1 w hw hk), fun c q hq => u_Kn_moved hW.alike (h2 c q hq), ⟨arrOfT_moved hW.alike h3.1, h3.2.moved hW.alike⟩, ⟨arrOfT_moved hW.alike h4.1, h4.2.moved hW.alike⟩, fun i hi => ⟨(h5 i hi).1.moved hW.alike, (h5 i hi).2⟩, fun i hi => (h6 i hi).moved hW.alike, va_AO.moved hW.alike h7⟩
theorem KE.same {E : ET} {s U : State} (hv : s.vm = U.vm) (h : KE E s) : KE E U := h.warm (by rw [← hv]; exact State.WarmedH.refl s)
theorem KE.w {E : ET} {s : State} (h : KE E s) {w : Cond} (hw : w ∈ lw_tbl) (hk : okW w = true) (a : Array Value) : w.before a s = true := h.1 w hw hk a
theorem mem_tb {w : Cond} (h : w ∈ tables_1) : w ∈ lw_tbl := List.mem_append_right _ h
theorem mem_sel {w : Cond} (h : w ∈ k2_sels lw_privs) : w ∈ lw_tbl := List.mem_append_left _ h
/-- the locals: what is said of each -/
def LR (E : ET) (nL : Nat) (ls : List (Option AV)) (lsA : Array Slot) : Prop := lsA.size = nL ∧ ls.length = nL ∧ lv_wf lsA ∧ ∀ (i : Nat) (v : AV), ls[i]? = some (some v) → lsA[i]? = some (.val (cv E v))
def QA (E : ET) (Q : Option AV → HI → HR → Nat → Prop) : Array Value → State → Outcome → State → Prop := fun _ _ o t => ∃ (r : Option AV) (hi : HI) (hr : HR) (n : Nat), o = .returned (r.map (cv E)) ∧ Q r hi hr n ∧ CC E hi hr n t.heap
def fr (E : ET) : Nat → Prop := fun q => eB E ≤ q
def Cx (E : ET) (M : MT) (p : Program) (s : State) (m : MethodId) (meth : Method) (c : Code) : Prop :=
  p.tables.exec = Jvm.exec ∧ c.code = mC M ∧ c.maxLocals = mL M ∧ meth.sig.returnType = mT M ∧ meth.locks = false ∧ s.vm.findClass (mY M).cls = some m.cls ∧ meth.name = (mY M).name ∧ KE E s
abbrev QT : Type := Option AV → HI → HR → Nat → Prop
/-- THE JUDGEMENT: method M at pc, with these locals, this stack, this heap, comes to an end with Q -/
def AW (E : ET) (M : MT) (cu su pc : Nat) (ls : List (Option AV)) (st : List AV) (hi : HI) (hr : HR) (n : Nat) (Q : QT) : Prop :=
  ∀ (p : Program) (e : Env) (s : State) (m : MethodId) (args : Array Value) (below : List Frame) (meth : Method) (c : Code) (H : Heap) (locs : List Loc) (lsA : Array Slot),
    Cx E M p s m meth c → CC E hi hr n H → (∀ q ∈ locs, fr E q.base) → LR E (mL M) ls lsA →
    W p (eL E) e (mR M) s m args below meth c H locs cu su (MQ below (QA E Q) args s (mMc M) (mMs M) (fr E)) (F0 m pc lsA (st.map (cv E)))
/-- a method's contract -/
def AMet (E : ET) (M : MT) (as : List AV) (hi : HI) (hr : HR) (n : Nat) (Q : QT) : Prop :=
  Met (eL E) (mY M) [Cond.code (mY M) (mC M) (mL M) (mT M)] (mR M) (fun v U => v = (as.map (cv E)).toArray ∧ CC E hi hr n U.heap ∧ KE E U) (QA E Q) (mMc M) (mMs M) (fr E)
/-- the locals at the entry -/
def ent (as : List AV) (nL : Nat) : List (Option AV) := as.map some ++ List.replicate (nL - as.length) none
theorem lv_args_get (vs : List Value) (hc : ∀ v ∈ vs, v.category = 1) : ∀ (k i : Nat) (v : Value), vs[i]? = some v → (k + i, v) ∈ lv_args k vs := by
  induction vs with
  | nil => intro k i v h; simp at h
  | cons a t ih =>
    intro k i v h
    have ha : ¬ a.category = 2 := by have := hc a List.mem_cons_self; omega
    cases i with
    | zero => simp at h; subst h; simp [lv_args]
    | succ i =>
      have := ih (fun v hv => hc v (List.mem_cons_of_mem _ hv)) (k + 1) i v (by simpa using h)
      simp only [lv_args, ha, if_false]
      refine List.mem_cons_of_mem _ ?_
      rw [show k + (i + 1) = k + 1 + i by omega]
      exact this
theorem cv_cat (E : ET) (v : AV) (h : isW v = true) : (cv E v).category = 1 := by
  rcases v with z | (_ | a) | x <;> first | rfl | (cases h)
theorem cv_cat2 (E : ET) (v : AV) : (cv E v).category ≤ 2 := by
  rcases v with z | (_ | a) | x
  · exact (by decide : (1 : Nat) ≤ 2)
  · exact (by decide : (1 : Nat) ≤ 2)
  · exact (by decide : (1 : Nat) ≤ 2)
  · exact Nat.le_refl 2
theorem lg_sl_len (E : ET) (as : List AV) (h : as.all isW = true) : (lg_sl (as.map (cv E))).length = as.length := by
  induction as with
  | nil => rfl
  | cons a t ih =>
    rw [List.all_cons, Bool.and_eq_true] at h
    rw [List.map_cons, List.length_cons, ← ih h.2]
    rcases a with z | (_ | a) | x
    · simp [lg_sl, cv, Value.category]
    · simp [lg_sl, cv, Value.category]
    · simp [lg_sl, cv, Value.category]
    · cases h.1
theorem am_of {E : ET} {M : MT} {as : List AV} {hi : HI} {hr : HR} {n : Nat} {Q : QT} (hy : plainName (mY M).cls = true) (hlen : as.length ≤ mL M)
    (k : AW E M 0 0 0 (ent as (mL M)) [] hi hr n Q) (hw : as.all isW = true := by rfl) : AMet E M as hi hr n Q := by
  refine Met.ofW (cc := mC M) (maxL := mL M) (ret := mT M) hy rfl ?_
  intro p e s m args below meth c s₁ B hml hv
  obtain ⟨rfl, hC, hK⟩ := hv
  have hown : s.vm.findClass (mY M).cls = some m.cls := findClass_of_methodNamed B.named
  have hn := (name_of_methodNamed B.named B.method).1
  have hl := lv_entry (as.map (cv E)) (n := mL M) (by rw [lg_sl_len E as hw]; exact hlen)
  rw [lg_entry_eq]
  refine k p e s m _ below meth c s.heap [] _ ⟨B.exec, B.bytes, hml, B.returns, B.notSynchronized, hown, hn, hK⟩ hC (fun q h => by cases h) ⟨hl.1, by simp [ent]; omega, hl.2.1, fun i v h => ?_⟩
  have h0 : i < as.length := by
    by_cases hlt : i < as.length
    · exact hlt
    · exfalso
      unfold ent at h
      rw [List.getElem?_append_right (by simp; omega)] at h
      have := List.getElem?_eq_some_iff.mp h
      obtain ⟨h1, h2⟩ := this
      rw [List.getElem_replicate] at h2
      cases h2
  have h1 : as[i]? = some v := by
    unfold ent at h
    rw [List.getElem?_append_left (by simpa using h0), List.getElem?_map] at h
    cases hh : as[i]? with
    | none => rw [hh] at h; cases h
    | some w => rw [hh] at h; simpa using h
  have h2 : (as.map (cv E))[i]? = some (cv E v) := by rw [List.getElem?_map, h1]; rfl
  have h3 := lv_args_get (as.map (cv E)) (fun v hv => by obtain ⟨w, hm, rfl⟩ := List.mem_map.mp hv; exact cv_cat E w (List.all_eq_true.mp hw w hm)) 0 i _ h2
  have h4 := hl.2.2 _ h3
  simpa using h4
