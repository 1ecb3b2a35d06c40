/-! heap rows of the abstract machine -/
def up2 (f : HI) (a k : Nat) (v : Int) : HI := fun x y => if x = a ∧ y = k then v else f x y
def upr (f : HR) (a k : Nat) (v : Option Nat) : HR := fun x y => if x = a ∧ y = k then v else f x y
theorem up2_self (f : HI) (a k : Nat) (v : Int) : up2 f a k v a k = v := by simp [up2]
/-- what a program decides of a class -/
def CI (c : Nat) (C : String) (T : u_T) (N : Nat) (ty : Nat → FieldType) : Prop :=
  vwCl[c]? = some (C, T, N) ∧ (∀ w ∈ u_ws C T N, w ∈ lw_tbl ∧ okW w = true) ∧ (∀ k, k < N → parseFieldDescriptor (T k).2.2.1 = some (ty k)) ∧ (∀ a, a < N → ∀ b, b < N → a ≠ b → (T a).2.1 ≠ (T b).2.1) ∧
  (∀ k, k < N → (T k).1 = C) ∧ (∀ k, k < N → defaultValue (ty k) = if frf c k then .null else .int 0) ∧ (∀ k, k < N → frf c k = true → (ty k).isReference = true) ∧ c < 10
/-- a field's link, in its own class or in a nest mate -/
def FL (own : String) (idx : Nat) (C : String) (T : u_T) (k : Nat) : Prop :=
  (Cond.fieldLink own idx C (T k).2.1 (T k).2.2.1 ∈ lw_tbl) ∨ ∃ host : String, Cond.fieldLinkNest own idx C (T k).2.1 (T k).2.2.1 host ∈ lw_tbl
theorem ad_own (E : ET) {a : Nat} (h : a < 1000) : ad E a = eB E + a := by unfold ad; rw [if_pos h]
theorem CC.cell {E : ET} {hi : HI} {hr : HR} {n : Nat} {H : Heap} (h : CC E hi hr n H) {a : Nat} (ha : a < n) : cellOK E hi hr a H := h.2.2.2.1 a ha
theorem CC.adr {E : ET} {hi : HI} {hr : HR} {n : Nat} {H : Heap} (h : CC E hi hr n H) {a : Nat} (ha : a < n) : ad E a = eB E + a := ad_own E (by have := h.2.1; omega)
theorem cellOK.kept {E : ET} {hi hi' : HI} {hr hr' : HR} {k : Nat} {H H' : Heap} (h : cellOK E hi hr k H) (h1 : H'[eB E + k]? = H[eB E + k]?) (h2 : ∀ y : Nat, hi' k y = hi k y) (h3 : ∀ y : Nat, hr' k y = hr k y) : cellOK E hi' hr' k H' := by
  have e1 : (fun j => cv E (.inl (hi' k j))) = (fun j => cv E (.inl (hi k j))) := funext fun j => by rw [h2]
  have e2 : (fun j => cv E (aO (hr' k j))) = (fun j => cv E (aO (hr k j))) := funext fun j => by rw [h3]
  have e3 : (fun j => fv E (sh k).1 hi' hr' k j) = (fun j => fv E (sh k).1 hi hr k j) := funext fun j => by unfold fv; rw [h2, h3]
  obtain ⟨g1, g2, g3⟩ := h
  refine ⟨fun q => ?_, fun q => ?_, fun q => ?_⟩
  · rw [e3]; exact (g1 q).kept h1
  · rw [e1, h1]; exact g2 q
  · rw [e2, h1]; exact g3 q
theorem CC.upd {E : ET} {hi hi' : HI} {hr hr' : HR} {n a : Nat} {H H' : Heap} (h : CC E hi hr n H) (ha : a < n) (hsz : H'.size = H.size) (ho : ∀ q : Nat, q ≠ eB E + a → H'[q]? = H[q]?) (hc : cellOK E hi' hr' a H')
    (h2 : ∀ x : Nat, x ≠ a → ∀ y : Nat, hi' x y = hi x y) (h3 : ∀ x : Nat, x ≠ a → ∀ y : Nat, hr' x y = hr x y) : CC E hi' hr' n H' := by
  obtain ⟨g1, g2, g3, g4, g5, g6⟩ := h
  refine ⟨hsz.trans g1, g2, fun q hq => (ho q (by omega)).trans (g3 q hq), fun k hk => ?_, fun i hi6 j => ?_, fun k hk1 hk2 j => ?_⟩
  · by_cases e : k = a
    · subst e; exact hc
    · exact (g4 k hk).kept (ho _ (by omega)) (h2 k e) (h3 k e)
  · rw [h2 _ (by omega)]; exact g5 i hi6 j
  · rw [h2 _ (by omega), h3 _ (by omega)]; exact g6 k hk1 hk2 j
theorem up2_ne (f : HI) {a x : Nat} (k : Nat) (v : Int) (h : x ≠ a) (y : Nat) : up2 f a k v x y = f x y := by simp [up2, h]
theorem upr_ne (f : HR) {a x : Nat} (k : Nat) (v : Option Nat) (h : x ≠ a) (y : Nat) : upr f a k v x y = f x y := by simp [upr, h]
theorem KE.link {E : ET} {M : MT} {s : State} (h : KE E s) {w : Cond} (hw : w ∈ lw_tbl) (hk : okW w = true) (a : Array Value) : w.before a s = true := h.1 w hw hk a
section HROWS
variable {E : ET} {M : MT} {cu su pc : Nat} {ls : List (Option AV)} {st : List AV} {hi : HI} {hr : HR} {n : Nat} {Q : QT} {c k idx a : Nat} {C : String} {T : u_T} {N : Nat} {ty : Nat → FieldType}
/-- an object's field, as the machine has it -/
theorem fld {p : Program} {s : State} {m : MethodId} {meth : Method} {cd : Code} {H : Heap} (hX : Cx E M p s m meth cd) (hC : CC E hi hr n H) (hc : CI c C T N ty) (hk : k < N) (ha : a < n) (hs : sh a = (c, N)) :
    ∃ (cell : Cell) (cf : Nat) (kf : Class) (fi : Nat) (f : Field), H[eB E + a]? = some cell ∧ cell.cls = eC E c ∧ cell.vm = .none ∧ (∀ j, j < N → cell.slots[eI E c j]? = some (fv E c hi hr a j)) ∧ s.fieldFound? C (T k).2.1 (T k).2.2.1 = some (cf, kf, fi, f) ∧ f.slot = eI E c k ∧ f.isStatic = false ∧
      (∀ x y, x < N → y < N → x ≠ y → eI E c x ≠ eI E c y) ∧
      ((T k).2.2.2 = false → ∀ v, narrow (ty k) v = v → fits (ty k) v = true → k2_Sd s f (eC E c) v) ∧ ((T k).2.2.2 = true → (mY M).cls = C → m.cls = cf) ∧ (∀ v, narrow (ty k) v = v → fits (ty k) v = true → narrow f.type v = v ∧ s.fitsSlot (eC E c) .none f.slot v = true) := by
  obtain ⟨hc1, hc2, hc3, hc4, hc5, hc6, hc7, hc8⟩ := hc
  have hKE : KE E s := hX.2.2.2.2.2.2.2
  have hts : ∀ w ∈ u_ws C T N, w.before #[] s = true := fun w hw => hKE.1 w (hc2 w hw).1 (hc2 w hw).2 _
  have hin : ∀ w ∈ u_ws C T N, w ∈ u_ws C T N := fun _ h => h
  obtain ⟨hS, hfc, kC, hkC, hkind⟩ := hKE.2.1 c _ hc1
  dsimp only at hS hfc
  obtain ⟨cell, q1, q2, q3, q4⟩ := (hC.cell ha).1 (by rw [hs]; exact hc8)
  rw [hs] at q2 q4
  obtain ⟨cf, kf, fi, f, hif, hsl⟩ := hS k hk
  have hT1 : (T k).1 = C := hc5 k hk
  have hif' : s.fieldFound? C (T k).2.1 (T k).2.2.1 = some (cf, kf, fi, f) := by rw [← hT1]; exact hif
  have hlay := hts _ (hin _ (u_in_lay hk))
  refine ⟨cell, cf, kf, fi, f, q1, q2, q3, q4, hif', hsl, (u_facts hfc hkC (u_lays hts hin hk) hif).1, ?_, ?_, ?_, ?_⟩
  · intro x y hx hy hne
    obtain ⟨_, _, _, fa, hia, ea⟩ := hS x hx
    obtain ⟨_, _, _, fb, hib, eb⟩ := hS y hy
    rw [← ea, ← eb]
    refine u_apart (u_lays hts hin hx) (u_lays hts hin hy) hia hib ?_
    rw [(State.fieldFound?_type hia (hc3 x hx)).1, (State.fieldFound?_type hib (hc3 y hy)).1]
    exact hc4 x hx y hy hne
  · intro hfin v hn hv
    unfold u_lay at hlay
    rw [if_neg (by rw [hfin]; decide)] at hlay
    exact u_store hfc hkC hkind hlay hif (hc3 k hk) hn hv
  · intro hfin hown
    have h := State.fieldFound?_spec hif'
    have h2 : s.vm.findClass (mY M).cls = some m.cls := hX.2.2.2.2.2.1
    unfold u_lay at hlay
    rw [if_pos hfin] at hlay
    rw [hT1] at hlay
    exact laid_decl (hown ▸ h2) hlay hif'
  · intro v hn hv
    exact u_fits hfc hkC hkind (u_lays hts hin hk) hif (hc3 k hk) hn hv
theorem aw_geti (hd : decode (mC M) pc = .ok (.getfield idx, 3)) (hc : CI c C T N ty) (hk : k < N) (hl : FL (mY M).cls idx C T k) (ha : a < n) (hs : sh a = (c, N)) (hf : frf c k = false)
    (kk : AW E M cu su (pc + 3) ls (aI (hi a k) :: st) hi hr n Q) : AW E M cu su pc ls (aR a :: st) hi hr n Q := by
  intro p e s m args below meth cd H locs lsA hX hC hL hR
  obtain ⟨cell, cf, kf, fi, f, q1, q2, q3, q4, hif, hsl, hst, -⟩ := fld (k := k) hX hC hc hk ha hs
  have hv : cell.slots[f.slot]? = some (cv E (aI (hi a k))) := by rw [hsl, q4 k hk]; unfold fv; rw [hf]; rfl
  have g := kk p e s m args below meth cd H locs lsA hX hC hL hR
  rw [List.map_cons, cv_r, hC.adr ha]
  rcases hl with hl | ⟨host, hl⟩
  · exact W.getf hX.1 hX.2.1 hX.2.2.2.2.2.1 (hX.2.2.2.2.2.2.2.1 _ hl rfl _) hif hst q1 (by rw [q3]; exact fun h => by cases h) hv rfl rfl hd g
  · exact va_Wgetf hX.1 hX.2.1 hX.2.2.2.2.2.1 (hX.2.2.2.2.2.2.2.1 _ hl rfl _) hif hst q1 (by rw [q3]; exact fun h => by cases h) hv rfl rfl hd g
theorem aw_getr {x : Nat} (hd : decode (mC M) pc = .ok (.getfield idx, 3)) (hc : CI c C T N ty) (hk : k < N) (hl : FL (mY M).cls idx C T k) (ha : a < n) (hs : sh a = (c, N)) (hf : frf c k = true) (hx : hr a k = some x)
    (kk : AW E M cu su (pc + 3) ls (aR x :: st) hi hr n Q) : AW E M cu su pc ls (aR a :: st) hi hr n Q := by
  intro p e s m args below meth cd H locs lsA hX hC hL hR
  obtain ⟨cell, cf, kf, fi, f, q1, q2, q3, q4, hif, hsl, hst, -⟩ := fld (k := k) hX hC hc hk ha hs
  have hv : cell.slots[f.slot]? = some (cv E (aR x)) := by rw [hsl, q4 k hk]; unfold fv; rw [hf, hx]; rfl
  have g := kk p e s m args below meth cd H locs lsA hX hC hL hR
  rw [List.map_cons, cv_r, hC.adr ha]
  rcases hl with hl | ⟨host, hl⟩
  · exact W.getf hX.1 hX.2.1 hX.2.2.2.2.2.1 (hX.2.2.2.2.2.2.2.1 _ hl rfl _) hif hst q1 (by rw [q3]; exact fun h => by cases h) hv rfl rfl hd g
  · exact va_Wgetf hX.1 hX.2.1 hX.2.2.2.2.2.1 (hX.2.2.2.2.2.2.2.1 _ hl rfl _) hif hst q1 (by rw [q3]; exact fun h => by cases h) hv rfl rfl hd g
theorem cell_put {hi' : HI} {hr' : HR} {H H' : Heap} {cell : Cell} {v : Value} (hs : sh a = (c, N)) (hc8 : c < 10) (q2 : cell.cls = eC E c) (q3 : cell.vm = .none) (q4 : ∀ j, j < N → cell.slots[eI E c j]? = some (fv E c hi hr a j)) (hap : ∀ x y, x < N → y < N → x ≠ y → eI E c x ≠ eI E c y) (hk : k < N)
    (e1 : H'[eB E + a]? = some (cell.setSlot (eI E c k) v)) (hv : ∀ j, j < N → fv E c hi' hr' a j = if j = k then v else fv E c hi hr a j) : cellOK E hi' hr' a H' := by
  refine ⟨fun _ => ?_, fun q => ?_, fun q => ?_⟩
  · rw [hs]
    refine ⟨_, e1, q2, q3, fun j hj => ?_⟩
    rw [t_set q4 hap hk v j hj]
    show some (updV (fv E c hi hr a) k v j) = some (fv E c hi' hr' a j)
    rw [hv j hj]
    rfl
  · rw [hs] at q; dsimp only at q; omega
  · rw [hs] at q; dsimp only at q; omega
theorem aw_puti {v : Int} (hd : decode (mC M) pc = .ok (.putfield idx, 3)) (hc : CI c C T N ty) (hk : k < N) (hl : FL (mY M).cls idx C T k) (ha : a < n) (hs : sh a = (c, N)) (hf : frf c k = false) (hfin : (T k).2.2.2 = false) (hty : ty k = .int ∨ (ty k = .boolean ∧ (v = 0 ∨ v = 1)))
    (kk : AW E M cu su (pc + 3) ls st (up2 hi a k v) hr n Q) : AW E M cu su pc ls (aI v :: aR a :: st) hi hr n Q := by
  intro p e s m args below meth cd H locs lsA hX hC hL hR
  obtain ⟨cell, cf, kf, fi, f, q1, q2, q3, q4, hif, hsl, hst, hap, hsd, -⟩ := fld (k := k) hX hC hc hk ha hs
  have hS : k2_Sd s f cell.cls (.int (Int32.ofInt v)) := by
    rw [q2]
    refine hsd hfin _ ?_ ?_
    · rcases hty with h | ⟨h, rfl | rfl⟩ <;> rw [h] <;> rfl
    · rcases hty with h | ⟨h, rfl | rfl⟩ <;> rw [h] <;> rfl
  have g : ∀ H' : Heap, H'[eB E + a]? = some (cell.setSlot f.slot (.int (Int32.ofInt v))) → H'.size = H.size → (∀ q : Nat, q ≠ eB E + a → H'[q]? = H[q]?) → W p (eL E) e (mR M) s m args below meth cd H' (locs ++ [⟨eB E + a, f.slot⟩]) cu su (MQ below (QA E Q) args s (mMc M) (mMs M) (fr E)) (F0 m (pc + 3) lsA (st.map (cv E))) := by
    intro H' e1 e2 e3
    rw [hsl] at e1
    refine kk p e s m args below meth cd H' _ lsA hX (hC.upd ha e2 e3 (cell_put (hi := hi) (hr := hr) (H := H) hs hc.2.2.2.2.2.2.2 q2 q3 q4 hap hk e1 fun j hj => ?_) (fun x hx y => up2_ne hi k v hx y) (fun _ _ _ => rfl)) (fun q hq => ?_) hR
    · unfold fv up2
      by_cases e : j = k
      · subst e; simp [hf]; rfl
      · simp [e]
    · rcases List.mem_append.mp hq with h | h
      · exact hL q h
      · rw [List.mem_singleton] at h; subst h; exact Nat.le_add_right _ _
  rw [List.map_cons, List.map_cons, cv_r, cv_i, hC.adr ha]
  rcases hl with hl | ⟨host, hl⟩
  · exact W.putK hX.1 hX.2.1 ⟨hX.2.2.2.2.2.1, hX.2.2.2.2.2.2.2.1 _ hl rfl _, ⟨_, _, _, hif⟩, hst⟩ hS q1 q3 (by rw [hsl]; exact k2_hasslot (q4 k hk)) rfl rfl hd g
  · exact va_WputK hX.1 hX.2.1 hX.2.2.2.2.2.1 (hX.2.2.2.2.2.2.2.1 _ hl rfl _) hif hst hS q1 q3 (by rw [hsl]; exact k2_hasslot (q4 k hk)) rfl rfl hd g
/-- a final reference, in its class's constructor -/
theorem aw_putr {x : Nat} (hd : decode (mC M) pc = .ok (.putfield idx, 3)) (hc : CI c C T N ty) (hk : k < N) (hl : Cond.fieldLink (mY M).cls idx C (T k).2.1 (T k).2.2.1 ∈ lw_tbl) (ha : a < n) (hs : sh a = (c, N)) (hf : frf c k = true) (hfin : (T k).2.2.2 = true) (hy1 : (mY M).name = "<init>") (hy2 : (mY M).cls = C)
    (kk : AW E M cu su (pc + 3) ls st hi (upr hr a k (some x)) n Q) : AW E M cu su pc ls (aR x :: aR a :: st) hi hr n Q := by
  intro p e s m args below meth cd H locs lsA hX hC hL hR
  obtain ⟨cell, cf, kf, fi, f, q1, q2, q3, q4, hif, hsl, hst, hap, -, hdecl, hfit⟩ := fld (k := k) hX hC hc hk ha hs
  have hty : (ty k).isReference = true := hc.2.2.2.2.2.2.1 k hk hf
  have g : ∀ H' : Heap, H'[eB E + a]? = some (cell.setSlot f.slot (.ref (ad E x))) → H'.size = H.size → (∀ q : Nat, q ≠ eB E + a → H'[q]? = H[q]?) → W p (eL E) e (mR M) s m args below meth cd H' (locs ++ [⟨eB E + a, f.slot⟩]) cu su (MQ below (QA E Q) args s (mMc M) (mMs M) (fr E)) (F0 m (pc + 3) lsA (st.map (cv E))) := by
    intro H' e1 e2 e3
    rw [hsl] at e1
    refine kk p e s m args below meth cd H' _ lsA hX (hC.upd ha e2 e3 (cell_put (hi := hi) (hr := hr) (H := H) hs hc.2.2.2.2.2.2.2 q2 q3 q4 hap hk e1 fun j hj => ?_) (fun _ _ _ => rfl) (fun y hy z => upr_ne hr k (some x) hy z)) (fun q hq => ?_) hR
    · unfold fv upr
      by_cases e : j = k
      · subst e; simp [hf]; rfl
      · simp [e]
    · rcases List.mem_append.mp hq with h | h
      · exact hL q h
      · rw [List.mem_singleton] at h; subst h; exact Nat.le_add_right _ _
  rw [List.map_cons, List.map_cons, cv_r, cv_r, hC.adr ha]
  have hS : narrow f.type (.ref (ad E x)) = .ref (ad E x) ∧ s.fitsSlot cell.cls .none f.slot (.ref (ad E x)) = true := by
    rw [q2]
    refine hfit _ ?_ ?_
    · cases h : ty k <;> rw [h] at hty <;> first | rfl | simp [FieldType.isReference] at hty
    · cases h : ty k <;> rw [h] at hty <;> first | rfl | simp [FieldType.isReference] at hty
  exact W.putFinK hX.1 hX.2.1 hX.2.2.2.2.2.1 (hX.2.2.2.2.2.2.2.1 _ hl rfl _) hif hst (hdecl hfin hy2) (hX.2.2.2.2.2.2.1.trans hy1) hS q1 q3 (by rw [hsl]; exact k2_hasslot (q4 k hk)) rfl rfl hd g
end HROWS
