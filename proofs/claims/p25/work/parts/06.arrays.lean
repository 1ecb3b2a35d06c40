/-! arrays, new objects, statics, copies -/
/-- an int array that may be read: ours, or one of the six that were there before -/
def AOK (E : ET) (n a N : Nat) : Prop := (a < n ∧ sh a = (10, N)) ∨ (∃ i : Nat, i < 6 ∧ a = 1000 + i ∧ N = eN E i)
theorem oi_clamp {j : Int} (h0 : 0 ≤ j) (hj : InR j) : (Int32.ofInt j).toNatClampNeg = j.toNat := by
  show (Int32.ofInt j).toInt.toNat = _
  rw [oi_toInt hj]
theorem oi_in {j : Int} {N : Nat} (h0 : 0 ≤ j) (h1 : j < N) (hj : InR j) : ¬ (Int32.ofInt j < 0 ∨ N ≤ (Int32.ofInt j).toNatClampNeg) := by
  rw [oi_clamp h0 hj, show (0 : Int32) = Int32.ofInt 0 from rfl, oi_lt hj InR_0]
  omega
theorem CC.arr {E : ET} {hi : HI} {hr : HR} {n a N : Nat} {H : Heap} {s : State} (h : CC E hi hr n H) (hK : KE E s) (hA : AOK E n a N) :
    ∃ cell : Cell, H[ad E a]? = some cell ∧ s.isArrayOf cell .int ∧ cell.vm ≠ .unknown ∧ (N ≤ cell.slots.size ∧ cell.slots.size.toInt32 = Int32.ofNat N) ∧ ∀ j : Nat, j < N → cell.slots[j]? = some (cv E (aI (hi a j))) := by
  rcases hA with ⟨ha, hs⟩ | ⟨i, hi6, rfl, rfl⟩
  · have h2 := (h.cell ha).2.1 (by rw [hs])
    rw [hs] at h2
    refine ⟨_, by rw [h.adr ha]; exact h2, hK.2.2.1.1 _ _, (fun q => by cases q), ⟨by rw [arrV_size]; exact Nat.le_refl _, by rw [arrV_size]⟩, fun j hj => ?_⟩
    rw [arrV_read _ _ hj]
  · obtain ⟨⟨scr, h1, h2, h3, h4a, h4b, h5, -⟩, hlt⟩ := hK.2.2.2.2.1 i hi6
    have e : ad E (1000 + i) = eSa E i := by unfold ad; rw [if_neg (by omega)]; rw [show 1000 + i - 1000 = i by omega]
    refine ⟨scr, by rw [e, h.2.2.1 _ hlt]; exact h1, h2, h3, ⟨h4a, h4b⟩, fun j hj => ?_⟩
    rw [h5 j hj, h.2.2.2.2.1 i hi6 j]
    rfl
section ARR
variable {E : ET} {M : MT} {cu su pc : Nat} {ls : List (Option AV)} {st : List AV} {hi : HI} {hr : HR} {n : Nat} {Q : QT} {idx a b N : Nat}
theorem aw_iaload {j : Int} (hd : decode (mC M) pc = .ok (.iaload, 1)) (hA : AOK E n a N) (h0 : 0 ≤ j) (h1 : j < N) (hj : InR j) (kk : AW E M cu su (pc + 1) ls (aI (hi a j.toNat) :: st) hi hr n Q) : AW E M cu su pc ls (aI j :: aR a :: st) hi hr n Q := by
  intro p e s m args below meth cd H locs lsA hX hC hL hR
  obtain ⟨cell, q1, q2, q3, q4, q5⟩ := hC.arr hX.2.2.2.2.2.2.2 hA
  have g := kk p e s m args below meth cd H locs lsA hX hC hL hR
  refine W.iald hX.1 hX.2.1 q1 q2 q3 (fun q => oi_in h0 h1 hj (q.imp id (fun z => Nat.le_trans q4.1 z))) (v := cv E (aI (hi a j.toNat))) ?_ rfl rfl hd g
  rw [oi_clamp h0 hj]
  exact q5 _ (by omega)
theorem aw_alen (hd : decode (mC M) pc = .ok (.arraylength, 1)) (hA : AOK E n a N) (kk : AW E M cu su (pc + 1) ls (aI (N : Int) :: st) hi hr n Q) : AW E M cu su pc ls (aR a :: st) hi hr n Q := by
  intro p e s m args below meth cd H locs lsA hX hC hL hR
  obtain ⟨cell, q1, q2, q3, q4, q5⟩ := hC.arr hX.2.2.2.2.2.2.2 hA
  have g := kk p e s m args below meth cd H locs lsA hX hC hL hR
  refine W.alen hX.1 hX.2.1 q1 q2 (n := Int32.ofInt (N : Int)) ?_ rfl rfl hd g
  rw [q4.2, oi_nI]
  rfl
theorem aw_iastore {j v : Int} (hd : decode (mC M) pc = .ok (.iastore, 1)) (ha : a < n) (hs : sh a = (10, N)) (h0 : 0 ≤ j) (h1 : j < N) (hj : InR j) (kk : AW E M cu su (pc + 1) ls st (up2 hi a j.toNat v) hr n Q) : AW E M cu su pc ls (aI v :: aI j :: aR a :: st) hi hr n Q := by
  intro p e s m args below meth cd H locs lsA hX hC hL hR
  have h2 := (hC.cell ha).2.1 (by rw [hs])
  rw [hs] at h2
  rw [List.map_cons, List.map_cons, List.map_cons, cv_r, cv_i, cv_i, hC.adr ha]
  refine W.iast hX.1 hX.2.1 h2 (hX.2.2.2.2.2.2.2.2.2.1.1 _ _) (fun q => by cases q) (by rw [arrV_size]; exact oi_in h0 h1 hj) rfl rfl hd fun H' e1 e2 e3 => ?_
  rw [oi_clamp h0 hj, arrV_store] at e1
  refine kk p e s m args below meth cd H' _ lsA hX (hC.upd ha e2 e3 ⟨fun q => ?_, fun _ => ?_, fun q => ?_⟩ (fun x hx y => up2_ne hi _ v hx y) (fun _ _ _ => rfl)) (fun q hq => ?_) hR
  · rw [hs] at q; dsimp only at q; omega
  · rw [e1, hs]
    congr 2
    funext y
    unfold updV up2
    by_cases e : y = j.toNat
    · subst e; simp; rfl
    · simp [e]
  · rw [hs] at q; dsimp only at q; omega
  · rcases List.mem_append.mp hq with h | h
    · exact hL q h
    · rw [List.mem_singleton] at h; subst h; exact Nat.le_add_right _ _
theorem aw_aaload {j : Int} {x : Nat} (hd : decode (mC M) pc = .ok (.aaload, 1)) (ha : a < n) (hs : sh a = (11, N)) (h0 : 0 ≤ j) (h1 : j < N) (hj : InR j) (hx : hr a j.toNat = some x) (kk : AW E M cu su (pc + 1) ls (aR x :: st) hi hr n Q) : AW E M cu su pc ls (aI j :: aR a :: st) hi hr n Q := by
  intro p e s m args below meth cd H locs lsA hX hC hL hR
  have h2 := (hC.cell ha).2.2 (by rw [hs])
  rw [hs] at h2
  have g := kk p e s m args below meth cd H locs lsA hX hC hL hR
  rw [List.map_cons, List.map_cons, cv_r, cv_i, hC.adr ha]
  refine W.aald hX.1 hX.2.1 h2 (hX.2.2.2.2.2.2.2.2.2.2.1.1 _ _) rfl (fun q => by cases q) (by rw [arrV_size]; exact oi_in h0 h1 hj) (v := cv E (aR x)) ?_ rfl rfl hd g
  rw [oi_clamp h0 hj, arrV_read _ _ (show j.toNat < N by omega), hx]
theorem aw_aastore {j : Int} {x : Nat} (hd : decode (mC M) pc = .ok (.aastore, 1)) (ha : a < n) (hs : sh a = (11, N)) (hx : x < n) (hsx : sh x = (4, 11)) (h0 : 0 ≤ j) (h1 : j < N) (hj : InR j) (kk : AW E M cu su (pc + 1) ls st hi (upr hr a j.toNat (some x)) n Q) : AW E M cu su pc ls (aR x :: aI j :: aR a :: st) hi hr n Q := by
  intro p e s m args below meth cd H locs lsA hX hC hL hR
  have hKE : KE E s := hX.2.2.2.2.2.2.2
  have h2 := (hC.cell ha).2.2 (by rw [hs])
  rw [hs] at h2
  obtain ⟨cellV, g1, g2, g3, -⟩ := (hC.cell hx).1 (by rw [hsx]; decide)
  rw [hsx] at g2
  have hcls := (hKE.2.1 4 (RX4, TX4, 11) rfl).2
  obtain ⟨kA, comp, k1, k2, k3, -⟩ := hKE.2.2.2.1.2
  have hcomp : comp = eC E 4 := Option.some.inj (k3.symm.trans hcls.1)
  subst hcomp
  obtain ⟨kC, hkC, -⟩ := hcls.2
  rw [List.map_cons, List.map_cons, List.map_cons, cv_r, cv_r, cv_i, hC.adr ha, hC.adr hx]
  refine W.aast hX.1 hX.2.1 h2 (fun q h => by cases h) (fun h => by cases h) k1 k2 rfl hkC ⟨?_, ?_⟩ g1 (fun q h => by rw [g3] at h; cases h) (by rw [g2]; exact hkC) (by rw [g2]; exact va_assign hcls) rfl rfl hd fun H' e1 e2 e3 => ?_
  · exact fun q => oi_in h0 h1 hj (Or.inl q)
  · rw [arrV_size]; exact Nat.not_le.mp fun q => oi_in h0 h1 hj (Or.inr q)
  rw [oi_clamp h0 hj, arrV_store] at e1
  refine kk p e s m args below meth cd H' _ lsA hX (hC.upd ha e2 e3 ⟨fun q => ?_, fun q => ?_, fun _ => ?_⟩ (fun _ _ _ => rfl) (fun y hy z => upr_ne hr _ (some x) hy z)) (fun q hq => ?_) hR
  · rw [hs] at q; dsimp only at q; omega
  · rw [hs] at q; dsimp only at q; omega
  · rw [e1, hs]
    congr 2
    funext y
    unfold updV upr
    by_cases e : y = j.toNat
    · subst e; simp; rw [cv_r, hC.adr hx]
    · simp [e]
  · rcases List.mem_append.mp hq with h | h
    · exact hL q h
    · rw [List.mem_singleton] at h; subst h; exact Nat.le_add_right _ _
theorem aw_gets {i : Nat} (hd : decode (mC M) pc = .ok (.getstatic idx, 3)) (hi5 : i < 5) (hl : (Cond.fieldLink (mY M).cls idx "PagePairs" (stn i) "[I" ∈ lw_tbl) ∨ ∃ host : String, Cond.fieldLinkNest (mY M).cls idx "PagePairs" (stn i) "[I" host ∈ lw_tbl)
    (kk : AW E M cu su (pc + 3) ls (aR (1000 + i) :: st) hi hr n Q) : AW E M cu su pc ls st hi hr n Q := by
  intro p e s m args below meth cd H locs lsA hX hC hL hR
  have hKE : KE E s := hX.2.2.2.2.2.2.2
  obtain ⟨cf, kf, fi, f, a, cell, h1, h2, h3, h4, h5, h6, h7, h8⟩ := hKE.2.2.2.2.2.1 i hi5
  have g := kk p e s m args below meth cd H locs lsA hX hC hL hR
  have ea : ad E (1000 + i) = eSa E i := by unfold ad; rw [if_neg (by omega)]; rw [show 1000 + i - 1000 = i by omega]
  rw [List.map_cons, cv_r, ea] at g
  have hH : H[a]? = some cell := by rw [hC.2.2.1 a (Nat.not_le.mp h8)]; exact h5
  rcases hl with hl | ⟨host, hl⟩
  · exact W.gets hX.1 hX.2.1 hX.2.2.2.2.2.1 (hKE.1 _ hl rfl _) h1 h2 h3 h4 hH (fun e => by rw [e] at h6; cases h6) h7 rfl hd g
  · exact va_WgetsN hX.1 hX.2.1 hX.2.2.2.2.2.1 (hKE.1 _ hl rfl _) h1 h2 h3 h4 hH (fun e => by rw [e] at h6; cases h6) h7 rfl hd g
/-- a heap that has grown by one cell -/
theorem CC.push {H H' : Heap} (hC : CC E hi hr n H) (hn : n < 125) (h1 : H'.size = H.size + 1) (h2 : ∀ q : Nat, q < H.size → H'[q]? = H[q]?) (hc : cellOK E hi hr n H') : CC E hi hr (n + 1) H' := by
  obtain ⟨g1, g2, g3, g4, g5, g6⟩ := hC
  refine ⟨by omega, by omega, fun q hq => (h2 q (by omega)).trans (g3 q hq), fun k hk => ?_, g5, fun k hk => g6 k (by omega)⟩
  by_cases e : k = n
  · subst e; exact hc
  · exact (g4 k (by omega)).kept (h2 _ (by omega)) (fun _ => rfl) (fun _ => rfl)
theorem aw_new {c : Nat} {C : String} {T : u_T} {N : Nat} {ty : Nat → FieldType} (hd : decode (mC M) pc = .ok (.new idx, 3)) (hc : CI c C T N ty) (hn : n < 125) (hs : sh n = (c, N)) (hcl : Cond.classLink (mY M).cls idx C ∈ lw_tbl) (hin : Cond.instantiable C N ∈ lw_tbl) (hit : Cond.initialized C ∈ lw_tbl)
    (hw1 : cu + 1 ≤ mMc M) (hw2 : su + N ≤ mMs M) (kk : AW E M (cu + 1) (su + N) (pc + 3) ls (aR n :: st) hi hr (n + 1) Q) : AW E M cu su pc ls st hi hr n Q := by
  intro p e s m args below meth cd H locs lsA hX hC hL hR
  have hKE : KE E s := hX.2.2.2.2.2.2.2
  obtain ⟨hc1, hc2, hc3, hc4, hc5, hc6, hc7, hc8⟩ := hc
  have hts : ∀ w ∈ u_ws C T N, w.before #[] s = true := fun w hw => hKE.1 w (hc2 w hw).1 (hc2 w hw).2 _
  have hKn := hKE.2.1 c _ hc1
  have hfc := hKn.2.1
  dsimp only at hKn hfc
  refine W.newcK hX.1 hX.2.1 hX.2.2.2.2.2.1 (hKE.1 _ hcl rfl _) (hKE.1 _ hin rfl _) (hKE.1 _ hit rfl _) rfl hd hw1 hw2 hfc (h := eB E + n) hC.1 fun H' kC hkC e1 e2 e3 => ?_
  have g := kk p e s m args below meth cd H' locs lsA hX (hC.push hn (by rw [e2, hC.1]) (fun q hq => e3 q (by rw [← hC.1]; exact hq)) ⟨fun _ => ?_, fun q => ?_, fun q => ?_⟩) hL hR
  · rw [List.map_cons, cv_r, ad_own E (by omega)] at g
    exact g
  · rw [hs]
    refine (u_born ty hts (fun _ h => h) hKn hkC e1 hc3).to fun j hj => ?_
    rw [hc6 j hj]
    unfold fv
    obtain ⟨z1, z2⟩ := hC.2.2.2.2.2 n (Nat.le_refl n) (by omega) j
    rw [z1, z2]
    rfl
  · rw [hs] at q; dsimp only at q; omega
  · rw [hs] at q; dsimp only at q; omega
theorem aw_newarray {N : Nat} (hd : decode (mC M) pc = .ok (.newarray .int, 2)) (hn : n < 125) (hs : sh n = (10, N)) (hN : N < 2000) (hin : Cond.arrayClass .int ∈ lw_tbl) (hw1 : cu + 1 ≤ mMc M) (hw2 : su + N ≤ mMs M)
    (kk : AW E M (cu + 1) (su + N) (pc + 2) ls (aR n :: st) hi hr (n + 1) Q) : AW E M cu su pc ls (aI (N : Int) :: st) hi hr n Q := by
  intro p e s m args below meth cd H locs lsA hX hC hL hR
  have hKE : KE E s := hX.2.2.2.2.2.2.2
  have hj : InR (N : Int) := ⟨by omega, by omega⟩
  have hcl : (Int32.ofInt (N : Int)).toNatClampNeg = N := by rw [oi_clamp (by omega) hj]; rfl
  refine W.newa hX.1 hX.2.1 (atype := .int) (hKE.1 _ hin rfl _) rfl hd rfl (fun q => oi_in (j := (N : Int)) (N := N + 1) (by omega) (by omega) hj (Or.inl q)) (by rw [hcl]; show N * 4 ≤ _; omega) hw1 (by rw [hcl]; exact hw2) fun cA kA comp h1 h2 h3 => ?_
  have hcA : cA = eA E := Option.some.inj (h1.symm.trans hKE.2.2.1.2)
  subst hcA
  rw [hcl]
  have g := kk p e s m args below meth cd (H.push { cls := eA E, slots := Array.replicate N (defaultValue .int), vm := .none }) locs lsA hX (hC.push hn (by simp) (fun q hq => by rw [Array.getElem?_push, if_neg (Nat.ne_of_lt hq)]) ⟨fun q => ?_, fun _ => ?_, fun q => ?_⟩) hL hR
  · rw [List.map_cons, cv_r, ad_own E (by omega), ← hC.1] at g
    exact g
  · rw [hs] at q; dsimp only at q; omega
  · rw [← hC.1, hs]
    rw [show (H.push { cls := eA E, slots := Array.replicate N (defaultValue .int), vm := .none })[H.size]? = some { cls := eA E, slots := Array.replicate N (defaultValue .int), vm := .none } by simp]
    rw [arrV_new]
    congr 2
    funext j
    rw [(hC.2.2.2.2.2 n (Nat.le_refl n) (by omega) j).1]
    rfl
  · rw [hs] at q; dsimp only at q; omega
theorem aw_anew {N : Nat} (hd : decode (mC M) pc = .ok (.anewarray idx, 3)) (hn : n < 125) (hs : sh n = (11, N)) (hN : N < 2000) (hcl0 : Cond.classLink (mY M).cls idx "PagePairs$State" ∈ lw_tbl) (hw1 : cu + 1 ≤ mMc M) (hw2 : su + N ≤ mMs M)
    (kk : AW E M (cu + 1) (su + N) (pc + 3) ls (aR n :: st) hi hr (n + 1) Q) : AW E M cu su pc ls (aI (N : Int) :: st) hi hr n Q := by
  intro p e s m args below meth cd H locs lsA hX hC hL hR
  have hKE : KE E s := hX.2.2.2.2.2.2.2
  have hj : InR (N : Int) := ⟨by omega, by omega⟩
  have hcl : (Int32.ofInt (N : Int)).toNatClampNeg = N := by rw [oi_clamp (by omega) hj]; rfl
  refine W.anew hX.1 hX.2.1 hX.2.2.2.2.2.1 (hKE.1 _ hcl0 rfl _) (va_AO.use hKE.2.2.2.2.2.2) rfl hd rfl (fun q => oi_in (j := (N : Int)) (N := N + 1) (by omega) (by omega) hj (Or.inl q)) (by rw [hcl]; omega) hw1 (by rw [hcl]; exact hw2) fun cA kA comp h1 h2 h3 h4 => ?_
  obtain ⟨kA', comp', k1, k2, k3, k4⟩ := hKE.2.2.2.1.2
  have hcA : cA = eS E := Option.some.inj (h1.symm.trans k4)
  subst hcA
  rw [hcl]
  have g := kk p e s m args below meth cd (H.push { cls := eS E, slots := Array.replicate N .null, vm := .none }) locs lsA hX (hC.push hn (by simp) (fun q hq => by rw [Array.getElem?_push, if_neg (Nat.ne_of_lt hq)]) ⟨fun q => ?_, fun q => ?_, fun _ => ?_⟩) hL hR
  · rw [List.map_cons, cv_r, ad_own E (by omega), ← hC.1] at g
    exact g
  · rw [hs] at q; dsimp only at q; omega
  · rw [hs] at q; dsimp only at q; omega
  · rw [← hC.1, hs]
    rw [show (H.push { cls := eS E, slots := Array.replicate N .null, vm := .none })[H.size]? = some { cls := eS E, slots := Array.replicate N .null, vm := .none } by simp]
    rw [arrV_new]
    congr 2
    funext j
    rw [(hC.2.2.2.2.2 n (Nat.le_refl n) (by omega) j).2]
    rfl
theorem aw_objInit (hd : decode (mC M) pc = .ok (.invokespecial idx, 3)) (hl : Cond.methodLink (mY M).cls idx Lib.objectInit ∈ lw_tbl) (h2 : Cond.instanceMethod Lib.objectInit ∈ lw_tbl) (h3 : Cond.code Lib.objectInit ⟨#[0xb1]⟩ 1 none ∈ lw_tbl) (hF : 1 ≤ mF M) (hO : 2 * st.length + 12 ≤ mO M)
    (kk : AW E M cu su (pc + 3) ls st hi hr n Q) : AW E M cu su pc ls (aR a :: st) hi hr n Q := by
  intro p e s m args below meth cd H locs lsA hX hC hL hR
  have hKE : KE E s := hX.2.2.2.2.2.2.2
  have g := kk p e s m args below meth cd H locs lsA hX hC hL hR
  refine W.objInit hX.1 hX.2.1 hX.2.2.2.2.2.1 (hKE.1 _ hl rfl _) (hKE.1 _ h2 rfl _) (hKE.1 _ h3 rfl _) rfl (hR.1.trans hX.2.2.1.symm) rfl hd hF ?_ g
  have hcat : ((st.map (cv E)).map fun v => v.category).sum ≤ 2 * st.length := by
    clear hd kk g hO
    induction st with
    | nil => exact Nat.le_refl _
    | cons a t ih => simp only [List.map_cons, List.sum_cons, List.length_cons]; have := cv_cat2 E a; omega
  show 2 * 0 + _ + 12 ≤ mO M
  omega
def cpy (f : HI) (a b m : Nat) : HI := fun x y => if x = b ∧ y < m then f a y else f x y
theorem aw_copy0 {N1 m0 : Nat} (hd : decode (mC M) pc = .ok (.invokestatic idx, 3)) (hl : Cond.methodLink (mY M).cls idx arraycopyName ∈ lw_tbl) (h2 : Cond.native arraycopyName ∈ lw_tbl) (h3 : Cond.static arraycopyName ∈ lw_tbl) (h4 : Cond.initialized "java/lang/System" ∈ lw_tbl)
    (hA : AOK E n a N) (hb : b < n) (hs : sh b = (10, N1)) (hm : m0 ≤ N) (hm1 : m0 ≤ N1) (hm2 : m0 < 2000) (hF : 1 ≤ mF M) (hO : 2 * st.length + 20 ≤ mO M)
    (kk : AW E M cu su (pc + 3) ls st (cpy hi a b m0) hr n Q) : AW E M cu su pc ls (aI (m0 : Int) :: aI 0 :: aR b :: aI 0 :: aR a :: st) hi hr n Q := by
  intro p e s m args below meth cd H locs lsA hX hC hL hR
  have hKE : KE E s := hX.2.2.2.2.2.2.2
  obtain ⟨cs, q1, q2, q3, q4, q5⟩ := hC.arr hKE hA
  have hB := (hC.cell hb).2.1 (by rw [hs])
  rw [hs] at hB
  have hj : InR (m0 : Int) := ⟨by omega, by omega⟩
  have hcl : (Int32.ofInt (m0 : Int)).toNatClampNeg = m0 := by rw [oi_clamp (by omega) hj]; rfl
  have hci : (Int32.ofInt (m0 : Int)).toInt = (m0 : Int) := oi_toInt hj
  have h00 : (Int32.ofInt 0).toNatClampNeg = 0 := rfl
  obtain ⟨q2a, ks, hks, sc, hsk⟩ := q2
  obtain ⟨-, kd, hkd, dc, hdk⟩ := hKE.2.2.1.1 N1 (fun j => cv E (.inl (hi b j)))
  have hcat : ((st.map (cv E)).map fun v => v.category).sum ≤ 2 * st.length := by
    clear hd kk hO
    induction st with
    | nil => exact Nat.le_refl _
    | cons a t ih => simp only [List.map_cons, List.sum_cons, List.length_cons]; have := cv_cat2 E a; omega
  intro T hT X
  obtain ⟨vm', X', step⟩ := X.arraycopy hX.1 hX.2.2.2.2.2.1 (hKE.1 _ hl rfl _) (hKE.1 _ h2 rfl _) (hKE.1 _ h3 rfl _) (hKE.1 _ h4 rfl _) (src := ad E a) (dst := ad E b) (cs := cs) (cd := arrV (eA E) N1 (fun j => cv E (.inl (hi b j)))) (srcPos := Int32.ofInt 0) (destPos := Int32.ofInt 0) (n := Int32.ofInt (m0 : Int))
    (by rw [hT]; exact q1) (by rw [hT, hC.adr hb]; exact hB) q2a (fun _ h => by cases h) q3 (fun h => by cases h) hks hkd hsk hdk (by rfl) (by decide) (by decide) (fun q => oi_in (j := (m0 : Int)) (N := m0 + 1) (by omega) (by omega) hj (Or.inl q))
    (by rw [hci, show (Int32.ofInt 0).toInt = 0 from rfl]; have := q4.1; omega) (by rw [hci, arrV_size, show (Int32.ofInt 0).toInt = 0 from rfl]; omega)
    (fun vm₁ _ i hi2 => by
      rw [hcl] at hi2
      have e : cs.slots.getD ((Int32.ofInt 0).toNatClampNeg + i) .null = .int (Int32.ofInt (hi a i)) := by
        rw [h00, Array.getD_eq_getD_getElem?, Nat.zero_add, q5 i (by omega)]
        rfl
      rw [e]
      exact ⟨rfl, trivial⟩)
    (g := F0 m pc lsA ((aI (m0 : Int) :: aI 0 :: aR b :: aI 0 :: aR a :: st).map (cv E))) rfl (hR.1.trans hX.2.2.1.symm) (rest := st.map (cv E)) rfl (by rw [hX.2.1]; exact hd) hF (by show 2 * 0 + _ + (7 + 11) ≤ mO M; omega)
  have e1 : copied cs (arrV (eA E) N1 (fun j => cv E (.inl (hi b j)))) (Int32.ofInt 0) (Int32.ofInt 0) (Int32.ofInt (m0 : Int)) = arrV (eA E) N1 (fun j => cv E (.inl (va_cpy (hi a) (hi b) 0 0 m0 j))) := by
    have := va_copiedX (fun z => cv E (.inl z)) cs (eA E) (n0 := N) (n1 := N1) (sp := 0) (dp := 0) (n := m0) (hi a) (hi b) q5 (by omega)
    unfold copied
    rw [hcl, h00]
    exact this
  rw [e1] at X' step
  have hlt : eB E + b < H.size := (Array.getElem?_eq_some_iff.mp hB).1
  have hheap : ((T.setVm vm').setCell (ad E b) (arrV (eA E) N1 (fun j => cv E (.inl (va_cpy (hi a) (hi b) 0 0 m0 j))))).heap = H.setIfInBounds (eB E + b) (arrV (eA E) N1 (fun j => cv E (.inl (va_cpy (hi a) (hi b) 0 0 m0 j)))) := by rw [hC.adr hb, ← hT]; rfl
  have hCC : CC E (cpy hi a b m0) hr n (H.setIfInBounds (eB E + b) (arrV (eA E) N1 (fun j => cv E (.inl (va_cpy (hi a) (hi b) 0 0 m0 j))))) := by
    refine hC.upd hb (by simp) (fun q hq => by simp [Array.getElem?_setIfInBounds, Ne.symm hq]) ⟨fun q => ?_, fun _ => ?_, fun q => ?_⟩ (fun x hx y => by simp [cpy, hx]) (fun _ _ _ => rfl)
    · rw [hs] at q; dsimp only at q; omega
    · rw [hs]
      rw [show (H.setIfInBounds (eB E + b) (arrV (eA E) N1 (fun j => cv E (.inl (va_cpy (hi a) (hi b) 0 0 m0 j)))))[eB E + b]? = some (arrV (eA E) N1 (fun j => cv E (.inl (va_cpy (hi a) (hi b) 0 0 m0 j)))) by simp [Array.getElem?_setIfInBounds, hlt]]
      congr 2
      funext j
      unfold va_cpy cpy
      by_cases e : j < m0
      · simp [e]
      · simp [e]
    · rw [hs] at q; dsimp only at q; omega
  obtain ⟨t, a1, b1⟩ := kk p e s m args below meth cd _ _ lsA hX hCC (fun q hq => by
    rcases List.mem_append.mp hq with h | h
    · exact hL q h
    · obtain ⟨z, -, hz⟩ := List.mem_map.mp h
      rw [← hz, hC.adr hb]
      exact Nat.le_add_right _ _) hR _ hheap X'
  exact ⟨t, step t a1, b1⟩
end ARR
