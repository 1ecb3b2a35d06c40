/-! calls of the abstract machine -/
/-- what a program decides of a call from the class own by the entry idx -/
def CL (own : String) (idx : Nat) (M : MT) (k : Nat) : Prop :=
  ((Cond.methodLink own idx (mY M) ∈ lw_tbl) ∨ ∃ host : String, Cond.methodLinkNest own idx (mY M) host ∈ lw_tbl) ∧ Cond.code (mY M) (mC M) (mL M) (mT M) ∈ lw_tbl ∧ Cond.initialized (mY M).cls ∈ lw_tbl ∧
  ((mY M).cls ≠ "java/lang/invoke/MethodHandle" ∧ (mY M).cls ≠ "java/lang/invoke/VarHandle") ∧ (parseMethodDescriptor (mY M).desc).map (fun d => d.parameters.length) = some k
def CLV (own : String) (idx : Nat) (M : MT) (k : Nat) : Prop := CL own idx M k ∧ Cond.instanceMethod (mY M) ∈ lw_tbl ∧ Cond.selects (mY M).cls (mY M) (mY M) ∈ lw_tbl
def CLS (own : String) (idx : Nat) (M : MT) (k : Nat) : Prop := CL own idx M k ∧ Cond.static (mY M) ∈ lw_tbl
def CLI (own : String) (idx : Nat) (M : MT) (k : Nat) : Prop := CL own idx M k ∧ (mY M).name = "<init>" ∧ Cond.instanceMethod (mY M) ∈ lw_tbl ∧ mT M = none
/-- the callee's room in the caller's -/
def fitsIn (M M2 : MT) : Prop := mF M2 + 1 ≤ mF M ∧ 8 + (mL M2 + 11) + mO M2 ≤ mO M
/-- ends: exactly so; a number, and what holds; nothing, and what holds -/
def EX (r1 : Option AV) (h1 : HI) (r2 : HR) (n1 : Nat) : QT := fun r hi hr n => r = r1 ∧ hi = h1 ∧ hr = r2 ∧ n = n1
def PI (P : Int → HI → HR → Nat → Prop) : QT := fun r hi hr n => ∃ v : Int, r = some (aI v) ∧ P v hi hr n
def PV (P : HI → HR → Nat → Prop) : QT := fun r hi hr n => r = none ∧ P hi hr n
theorem EX.rf {r1 : Option AV} {h1 : HI} {r2 : HR} {n1 : Nat} : EX r1 h1 r2 n1 r1 h1 r2 n1 := ⟨rfl, rfl, rfl, rfl⟩
theorem st_cat (E : ET) (st : List AV) : ((st.map (cv E)).map fun v => v.category).sum ≤ 2 * st.length := by
  induction st with
  | nil => exact Nat.le_refl _
  | cons a t ih => simp only [List.map_cons, List.sum_cons, List.length_cons]; have := cv_cat2 E a; omega
section CALLS
variable {E : ET} {M M2 : MT} {cu su pc : Nat} {ls : List (Option AV)} {st : List AV} {hi : HI} {hr : HR} {n : Nat} {Q Q2 : QT} {idx : Nat}
theorem code_ws {s : State} (hK : KE E s) (h : Cond.code (mY M2) (mC M2) (mL M2) (mT M2) ∈ lw_tbl) : ∀ w ∈ [Cond.code (mY M2) (mC M2) (mL M2) (mT M2)], ∀ (a' : Array Value) (U : State), s.WarmedH U.vm → w.before a' U = true := by
  intro w hw a' U hW
  rw [List.mem_singleton] at hw
  subst hw
  exact (hK.warm hW).1 _ h rfl a'
theorem pc_blind (as : List AV) : FrameBlind (fun v U => v = (as.map (cv E)).toArray ∧ CC E hi hr n U.heap ∧ KE E U) := fun a U g mk q => ⟨q.1, q.2.1, KE.same (s := U) (U := U.calling g mk a) rfl q.2.2⟩
theorem aw_after {p : Program} {e : Env} {s : State} {m : MethodId} {args a2 : Array Value} {below : List Frame} {meth : Method} {c : Code} {H : Heap} {locs : List Loc} {lsA : Array Slot} {st0 : List Value}
    (hR : va_Run p (eL E) e (mR M) s m args below meth c H locs cu su (mMc M2) (mMs M2) (F0 m pc lsA st0) (st.map (cv E)) (QA E Q2 a2) (fr E)) (hX : Cx E M p s m meth c) (hL : ∀ q ∈ locs, fr E q.base) (hl : LR E (mL M) ls lsA)
    (kk : ∀ (r : Option AV) (hi1 : HI) (hr1 : HR) (n1 : Nat), Q2 r hi1 hr1 n1 → AW E M (cu + mMc M2) (su + mMs M2) (pc + 3) ls (r.toList ++ st) hi1 hr1 n1 Q) :
    W p (eL E) e (mR M) s m args below meth c H locs cu su (MQ below (QA E Q) args s (mMc M) (mMs M) (fr E)) (F0 m pc lsA st0) := by
  intro T hT X
  obtain ⟨v, st₀, t, T', L, h0, X', hL2, e1, e2, ⟨r, hi1, hr1, n1, hv, hq, hC⟩, stp⟩ := hR T hT X
  cases hv
  rw [← e1] at hC
  have g := kk r hi1 hr1 n1 hq p e s m args below meth c T'.heap (locs ++ L) lsA hX hC (fun q h => by
    rcases List.mem_append.mp h with h | h
    · exact hL q h
    · exact hL2 q h) hl
  obtain ⟨t2, a1, b1⟩ := g T' rfl X'
  refine ⟨t2, stp t2 ?_, b1⟩
  have e3 : (r.toList ++ st).map (cv E) = (r.map (cv E)).toList ++ st.map (cv E) := by cases r <;> simp
  rw [e3] at a1
  exact a1
theorem recv {s : State} {H : Heap} {b c N : Nat} {C : String} {T : u_T} (hK : KE E s) (hC : CC E hi hr n H) (hb : b < n) (hs : sh b = (c, N)) (hc : vwCl[c]? = some (C, T, N)) : ∃ cellB : Cell, H[ad E b]? = some cellB ∧ cellB.vm.isStatics = false ∧ s.vm.findClass C = some cellB.cls := by
  have hc10 : c < 10 := Nat.lt_of_lt_of_le (List.getElem?_eq_some_iff.mp hc).1 (by decide : vwCl.length ≤ 10)
  obtain ⟨cell, q1, q2, q3, -⟩ := (hC.cell hb).1 (by rw [hs]; exact hc10)
  rw [hs] at q2
  refine ⟨cell, by rw [hC.adr hb]; exact q1, by rw [q3]; rfl, ?_⟩
  rw [q2]
  exact (hK.2.1 c _ hc).2.1
theorem aw_S1 {v1 : AV} (hd : decode (mC M) pc = .ok (.invokestatic idx, 3)) (hc : CLS (mY M).cls idx M2 1) (hf : fitsIn M M2) (hM : AMet E M2 [v1] hi hr n Q2) (hw1 : cu + mMc M2 ≤ mMc M) (hw2 : su + mMs M2 ≤ mMs M) (hst : st.length ≤ 4)
    (kk : ∀ (r : Option AV) (hi1 : HI) (hr1 : HR) (n1 : Nat), Q2 r hi1 hr1 n1 → AW E M (cu + mMc M2) (su + mMs M2) (pc + 3) ls (r.toList ++ st) hi1 hr1 n1 Q) : AW E M cu su pc ls (v1 :: st) hi hr n Q := by
  intro p e s m args below meth c H locs lsA hX hC hL hR
  have hK : KE E s := hX.2.2.2.2.2.2.2
  obtain ⟨⟨h1, h2, h3, h4, h5⟩, h6⟩ := hc
  have hlen : ∀ sig, parseMethodDescriptor (mY M2).desc = some sig → 1 = sig.parameters.length := fun sig h => by rw [h] at h5; exact (Option.some.inj h5).symm
  have hp : PreS s H (fun v U => v = (([v1] : List AV).map (cv E)).toArray ∧ CC E hi hr n U.heap ∧ KE E U) (([v1] : List AV).map (cv E)) := ⟨pc_blind [v1], fun U hU hW => ⟨rfl, by rw [hU]; exact hC, hK.warm hW⟩⟩
  have S : CallFix p m c (mC M) (mL M) s args [] (mY M).cls := ⟨hX.1, hX.2.1, hX.2.2.1, hX.2.2.2.2.2.1, fun w h => by cases h⟩
  have hW : 2 * (F0 m pc lsA ((v1 :: st : List AV).map (cv E))).monitorRoom + ((st.map (cv E)).map fun v => v.category).sum ≤ 8 := by have := st_cat E st; show 2 * 0 + _ ≤ 8; omega
  rcases h1 with h1 | ⟨host, h1⟩
  · exact aw_after (va_runS (As := ([v1] : List AV).map (cv E)) (rest := st.map (cv E)) S hM ⟨⟨rfl, rfl, hf.1, hf.2, code_ws hK h2, List.mem_singleton.mpr rfl, hK.1 _ h2 rfl _, hK.1 _ h3 rfl _, h4, hlen, hK.1 _ h1 rfl _⟩, hK.1 _ h6 rfl _⟩ hp rfl rfl hR.1 rfl hW hd ⟨hw1, hw2⟩) hX hL hR kk
  · exact aw_after (va_runSN (As := ([v1] : List AV).map (cv E)) (rest := st.map (cv E)) S hM ⟨⟨⟨rfl, rfl, hf.1, hf.2, code_ws hK h2, List.mem_singleton.mpr rfl⟩, hK.1 _ h2 rfl _, hK.1 _ h3 rfl _, h4, hlen, hK.1 _ h1 rfl _⟩, hK.1 _ h6 rfl _, trivial⟩ hp rfl rfl hR.1 rfl hW hd ⟨hw1, hw2⟩) hX hL hR kk
theorem aw_S2 {v1 v2 : AV} (hd : decode (mC M) pc = .ok (.invokestatic idx, 3)) (hc : CLS (mY M).cls idx M2 2) (hf : fitsIn M M2) (hM : AMet E M2 [v1, v2] hi hr n Q2) (hw1 : cu + mMc M2 ≤ mMc M) (hw2 : su + mMs M2 ≤ mMs M) (hst : st.length ≤ 4)
    (kk : ∀ (r : Option AV) (hi1 : HI) (hr1 : HR) (n1 : Nat), Q2 r hi1 hr1 n1 → AW E M (cu + mMc M2) (su + mMs M2) (pc + 3) ls (r.toList ++ st) hi1 hr1 n1 Q) : AW E M cu su pc ls (v2 :: v1 :: st) hi hr n Q := by
  intro p e s m args below meth c H locs lsA hX hC hL hR
  have hK : KE E s := hX.2.2.2.2.2.2.2
  obtain ⟨⟨h1, h2, h3, h4, h5⟩, h6⟩ := hc
  have hlen : ∀ sig, parseMethodDescriptor (mY M2).desc = some sig → 2 = sig.parameters.length := fun sig h => by rw [h] at h5; exact (Option.some.inj h5).symm
  have hp : PreS s H (fun v U => v = (([v1, v2] : List AV).map (cv E)).toArray ∧ CC E hi hr n U.heap ∧ KE E U) (([v1, v2] : List AV).map (cv E)) := ⟨pc_blind [v1, v2], fun U hU hW => ⟨rfl, by rw [hU]; exact hC, hK.warm hW⟩⟩
  have S : CallFix p m c (mC M) (mL M) s args [] (mY M).cls := ⟨hX.1, hX.2.1, hX.2.2.1, hX.2.2.2.2.2.1, fun w h => by cases h⟩
  have hW : 2 * (F0 m pc lsA ((v2 :: v1 :: st : List AV).map (cv E))).monitorRoom + ((st.map (cv E)).map fun v => v.category).sum ≤ 8 := by have := st_cat E st; show 2 * 0 + _ ≤ 8; omega
  rcases h1 with h1 | ⟨host, h1⟩
  · exact aw_after (va_runS (As := ([v1, v2] : List AV).map (cv E)) (rest := st.map (cv E)) S hM ⟨⟨rfl, rfl, hf.1, hf.2, code_ws hK h2, List.mem_singleton.mpr rfl, hK.1 _ h2 rfl _, hK.1 _ h3 rfl _, h4, hlen, hK.1 _ h1 rfl _⟩, hK.1 _ h6 rfl _⟩ hp rfl rfl hR.1 rfl hW hd ⟨hw1, hw2⟩) hX hL hR kk
  · exact aw_after (va_runSN (As := ([v1, v2] : List AV).map (cv E)) (rest := st.map (cv E)) S hM ⟨⟨⟨rfl, rfl, hf.1, hf.2, code_ws hK h2, List.mem_singleton.mpr rfl⟩, hK.1 _ h2 rfl _, hK.1 _ h3 rfl _, h4, hlen, hK.1 _ h1 rfl _⟩, hK.1 _ h6 rfl _, trivial⟩ hp rfl rfl hR.1 rfl hW hd ⟨hw1, hw2⟩) hX hL hR kk
theorem aw_S3 {v1 v2 v3 : AV} (hd : decode (mC M) pc = .ok (.invokestatic idx, 3)) (hc : CLS (mY M).cls idx M2 3) (hf : fitsIn M M2) (hM : AMet E M2 [v1, v2, v3] hi hr n Q2) (hw1 : cu + mMc M2 ≤ mMc M) (hw2 : su + mMs M2 ≤ mMs M) (hst : st.length ≤ 4)
    (kk : ∀ (r : Option AV) (hi1 : HI) (hr1 : HR) (n1 : Nat), Q2 r hi1 hr1 n1 → AW E M (cu + mMc M2) (su + mMs M2) (pc + 3) ls (r.toList ++ st) hi1 hr1 n1 Q) : AW E M cu su pc ls (v3 :: v2 :: v1 :: st) hi hr n Q := by
  intro p e s m args below meth c H locs lsA hX hC hL hR
  have hK : KE E s := hX.2.2.2.2.2.2.2
  obtain ⟨⟨h1, h2, h3, h4, h5⟩, h6⟩ := hc
  have hlen : ∀ sig, parseMethodDescriptor (mY M2).desc = some sig → 3 = sig.parameters.length := fun sig h => by rw [h] at h5; exact (Option.some.inj h5).symm
  have hp : PreS s H (fun v U => v = (([v1, v2, v3] : List AV).map (cv E)).toArray ∧ CC E hi hr n U.heap ∧ KE E U) (([v1, v2, v3] : List AV).map (cv E)) := ⟨pc_blind [v1, v2, v3], fun U hU hW => ⟨rfl, by rw [hU]; exact hC, hK.warm hW⟩⟩
  have S : CallFix p m c (mC M) (mL M) s args [] (mY M).cls := ⟨hX.1, hX.2.1, hX.2.2.1, hX.2.2.2.2.2.1, fun w h => by cases h⟩
  have hW : 2 * (F0 m pc lsA ((v3 :: v2 :: v1 :: st : List AV).map (cv E))).monitorRoom + ((st.map (cv E)).map fun v => v.category).sum ≤ 8 := by have := st_cat E st; show 2 * 0 + _ ≤ 8; omega
  rcases h1 with h1 | ⟨host, h1⟩
  · exact aw_after (va_runS (As := ([v1, v2, v3] : List AV).map (cv E)) (rest := st.map (cv E)) S hM ⟨⟨rfl, rfl, hf.1, hf.2, code_ws hK h2, List.mem_singleton.mpr rfl, hK.1 _ h2 rfl _, hK.1 _ h3 rfl _, h4, hlen, hK.1 _ h1 rfl _⟩, hK.1 _ h6 rfl _⟩ hp rfl rfl hR.1 rfl hW hd ⟨hw1, hw2⟩) hX hL hR kk
  · exact aw_after (va_runSN (As := ([v1, v2, v3] : List AV).map (cv E)) (rest := st.map (cv E)) S hM ⟨⟨⟨rfl, rfl, hf.1, hf.2, code_ws hK h2, List.mem_singleton.mpr rfl⟩, hK.1 _ h2 rfl _, hK.1 _ h3 rfl _, h4, hlen, hK.1 _ h1 rfl _⟩, hK.1 _ h6 rfl _, trivial⟩ hp rfl rfl hR.1 rfl hW hd ⟨hw1, hw2⟩) hX hL hR kk
theorem aw_V0 {b : Nat} (hd : decode (mC M) pc = .ok (.invokevirtual idx, 3)) (hc : CLV (mY M).cls idx M2 0) (hf : fitsIn M M2) (hb : b < n) {c N : Nat} {T : u_T} (hs : sh b = (c, N)) (hcl : vwCl[c]? = some ((mY M2).cls, T, N)) (hM : AMet E M2 [aR b] hi hr n Q2) (hw1 : cu + mMc M2 ≤ mMc M) (hw2 : su + mMs M2 ≤ mMs M) (hst : st.length ≤ 4)
    (kk : ∀ (r : Option AV) (hi1 : HI) (hr1 : HR) (n1 : Nat), Q2 r hi1 hr1 n1 → AW E M (cu + mMc M2) (su + mMs M2) (pc + 3) ls (r.toList ++ st) hi1 hr1 n1 Q) : AW E M cu su pc ls (aR b :: st) hi hr n Q := by
  intro p e s m args below meth c0 H locs lsA hX hC hL hR
  have hK : KE E s := hX.2.2.2.2.2.2.2
  obtain ⟨⟨h1, h2, h3, h4, h5⟩, h6, h7⟩ := hc
  have hlen : ∀ sig, parseMethodDescriptor (mY M2).desc = some sig → 0 = sig.parameters.length := fun sig h => by rw [h] at h5; exact (Option.some.inj h5).symm
  have hp : PreV s H (mY M2).cls (ad E b) (fun v U => v = (([aR b] : List AV).map (cv E)).toArray ∧ CC E hi hr n U.heap ∧ KE E U) (([] : List AV).map (cv E)) := ⟨pc_blind [aR b], recv hK hC hb hs hcl, fun U hU hW => ⟨rfl, by rw [hU]; exact hC, hK.warm hW⟩⟩
  have S : CallFix p m c0 (mC M) (mL M) s args [] (mY M).cls := ⟨hX.1, hX.2.1, hX.2.2.1, hX.2.2.2.2.2.1, fun w h => by cases h⟩
  have hW : 2 * (F0 m pc lsA ((aR b :: st : List AV).map (cv E))).monitorRoom + ((st.map (cv E)).map fun v => v.category).sum ≤ 8 := by have := st_cat E st; show 2 * 0 + _ ≤ 8; omega
  rcases h1 with h1 | ⟨host, h1⟩
  · exact aw_after (va_runV (b := ad E b) (As := ([] : List AV).map (cv E)) (rest := st.map (cv E)) S hM ⟨⟨rfl, rfl, hf.1, hf.2, code_ws hK h2, List.mem_singleton.mpr rfl, hK.1 _ h2 rfl _, hK.1 _ h3 rfl _, h4, hlen, hK.1 _ h1 rfl _⟩, hK.1 _ h6 rfl _, hK.1 _ h7 rfl _⟩ hp rfl rfl hR.1 rfl hW hd ⟨hw1, hw2⟩) hX hL hR kk
  · exact aw_after (va_runVN (b := ad E b) (As := ([] : List AV).map (cv E)) (rest := st.map (cv E)) S hM ⟨⟨⟨rfl, rfl, hf.1, hf.2, code_ws hK h2, List.mem_singleton.mpr rfl⟩, hK.1 _ h2 rfl _, hK.1 _ h3 rfl _, h4, hlen, hK.1 _ h1 rfl _⟩, hK.1 _ h6 rfl _, hK.1 _ h7 rfl _⟩ hp rfl rfl hR.1 rfl hW hd ⟨hw1, hw2⟩) hX hL hR kk
theorem aw_V1 {b : Nat} {v1 : AV} (hd : decode (mC M) pc = .ok (.invokevirtual idx, 3)) (hc : CLV (mY M).cls idx M2 1) (hf : fitsIn M M2) (hb : b < n) {c N : Nat} {T : u_T} (hs : sh b = (c, N)) (hcl : vwCl[c]? = some ((mY M2).cls, T, N)) (hM : AMet E M2 [aR b, v1] hi hr n Q2) (hw1 : cu + mMc M2 ≤ mMc M) (hw2 : su + mMs M2 ≤ mMs M) (hst : st.length ≤ 4)
    (kk : ∀ (r : Option AV) (hi1 : HI) (hr1 : HR) (n1 : Nat), Q2 r hi1 hr1 n1 → AW E M (cu + mMc M2) (su + mMs M2) (pc + 3) ls (r.toList ++ st) hi1 hr1 n1 Q) : AW E M cu su pc ls (v1 :: aR b :: st) hi hr n Q := by
  intro p e s m args below meth c0 H locs lsA hX hC hL hR
  have hK : KE E s := hX.2.2.2.2.2.2.2
  obtain ⟨⟨h1, h2, h3, h4, h5⟩, h6, h7⟩ := hc
  have hlen : ∀ sig, parseMethodDescriptor (mY M2).desc = some sig → 1 = sig.parameters.length := fun sig h => by rw [h] at h5; exact (Option.some.inj h5).symm
  have hp : PreV s H (mY M2).cls (ad E b) (fun v U => v = (([aR b, v1] : List AV).map (cv E)).toArray ∧ CC E hi hr n U.heap ∧ KE E U) (([v1] : List AV).map (cv E)) := ⟨pc_blind [aR b, v1], recv hK hC hb hs hcl, fun U hU hW => ⟨rfl, by rw [hU]; exact hC, hK.warm hW⟩⟩
  have S : CallFix p m c0 (mC M) (mL M) s args [] (mY M).cls := ⟨hX.1, hX.2.1, hX.2.2.1, hX.2.2.2.2.2.1, fun w h => by cases h⟩
  have hW : 2 * (F0 m pc lsA ((v1 :: aR b :: st : List AV).map (cv E))).monitorRoom + ((st.map (cv E)).map fun v => v.category).sum ≤ 8 := by have := st_cat E st; show 2 * 0 + _ ≤ 8; omega
  rcases h1 with h1 | ⟨host, h1⟩
  · exact aw_after (va_runV (b := ad E b) (As := ([v1] : List AV).map (cv E)) (rest := st.map (cv E)) S hM ⟨⟨rfl, rfl, hf.1, hf.2, code_ws hK h2, List.mem_singleton.mpr rfl, hK.1 _ h2 rfl _, hK.1 _ h3 rfl _, h4, hlen, hK.1 _ h1 rfl _⟩, hK.1 _ h6 rfl _, hK.1 _ h7 rfl _⟩ hp rfl rfl hR.1 rfl hW hd ⟨hw1, hw2⟩) hX hL hR kk
  · exact aw_after (va_runVN (b := ad E b) (As := ([v1] : List AV).map (cv E)) (rest := st.map (cv E)) S hM ⟨⟨⟨rfl, rfl, hf.1, hf.2, code_ws hK h2, List.mem_singleton.mpr rfl⟩, hK.1 _ h2 rfl _, hK.1 _ h3 rfl _, h4, hlen, hK.1 _ h1 rfl _⟩, hK.1 _ h6 rfl _, hK.1 _ h7 rfl _⟩ hp rfl rfl hR.1 rfl hW hd ⟨hw1, hw2⟩) hX hL hR kk
theorem aw_V2 {b : Nat} {v1 v2 : AV} (hd : decode (mC M) pc = .ok (.invokevirtual idx, 3)) (hc : CLV (mY M).cls idx M2 2) (hf : fitsIn M M2) (hb : b < n) {c N : Nat} {T : u_T} (hs : sh b = (c, N)) (hcl : vwCl[c]? = some ((mY M2).cls, T, N)) (hM : AMet E M2 [aR b, v1, v2] hi hr n Q2) (hw1 : cu + mMc M2 ≤ mMc M) (hw2 : su + mMs M2 ≤ mMs M) (hst : st.length ≤ 4)
    (kk : ∀ (r : Option AV) (hi1 : HI) (hr1 : HR) (n1 : Nat), Q2 r hi1 hr1 n1 → AW E M (cu + mMc M2) (su + mMs M2) (pc + 3) ls (r.toList ++ st) hi1 hr1 n1 Q) : AW E M cu su pc ls (v2 :: v1 :: aR b :: st) hi hr n Q := by
  intro p e s m args below meth c0 H locs lsA hX hC hL hR
  have hK : KE E s := hX.2.2.2.2.2.2.2
  obtain ⟨⟨h1, h2, h3, h4, h5⟩, h6, h7⟩ := hc
  have hlen : ∀ sig, parseMethodDescriptor (mY M2).desc = some sig → 2 = sig.parameters.length := fun sig h => by rw [h] at h5; exact (Option.some.inj h5).symm
  have hp : PreV s H (mY M2).cls (ad E b) (fun v U => v = (([aR b, v1, v2] : List AV).map (cv E)).toArray ∧ CC E hi hr n U.heap ∧ KE E U) (([v1, v2] : List AV).map (cv E)) := ⟨pc_blind [aR b, v1, v2], recv hK hC hb hs hcl, fun U hU hW => ⟨rfl, by rw [hU]; exact hC, hK.warm hW⟩⟩
  have S : CallFix p m c0 (mC M) (mL M) s args [] (mY M).cls := ⟨hX.1, hX.2.1, hX.2.2.1, hX.2.2.2.2.2.1, fun w h => by cases h⟩
  have hW : 2 * (F0 m pc lsA ((v2 :: v1 :: aR b :: st : List AV).map (cv E))).monitorRoom + ((st.map (cv E)).map fun v => v.category).sum ≤ 8 := by have := st_cat E st; show 2 * 0 + _ ≤ 8; omega
  rcases h1 with h1 | ⟨host, h1⟩
  · exact aw_after (va_runV (b := ad E b) (As := ([v1, v2] : List AV).map (cv E)) (rest := st.map (cv E)) S hM ⟨⟨rfl, rfl, hf.1, hf.2, code_ws hK h2, List.mem_singleton.mpr rfl, hK.1 _ h2 rfl _, hK.1 _ h3 rfl _, h4, hlen, hK.1 _ h1 rfl _⟩, hK.1 _ h6 rfl _, hK.1 _ h7 rfl _⟩ hp rfl rfl hR.1 rfl hW hd ⟨hw1, hw2⟩) hX hL hR kk
  · exact aw_after (va_runVN (b := ad E b) (As := ([v1, v2] : List AV).map (cv E)) (rest := st.map (cv E)) S hM ⟨⟨⟨rfl, rfl, hf.1, hf.2, code_ws hK h2, List.mem_singleton.mpr rfl⟩, hK.1 _ h2 rfl _, hK.1 _ h3 rfl _, h4, hlen, hK.1 _ h1 rfl _⟩, hK.1 _ h6 rfl _, hK.1 _ h7 rfl _⟩ hp rfl rfl hR.1 rfl hW hd ⟨hw1, hw2⟩) hX hL hR kk
theorem aw_V3 {b : Nat} {v1 v2 v3 : AV} (hd : decode (mC M) pc = .ok (.invokevirtual idx, 3)) (hc : CLV (mY M).cls idx M2 3) (hf : fitsIn M M2) (hb : b < n) {c N : Nat} {T : u_T} (hs : sh b = (c, N)) (hcl : vwCl[c]? = some ((mY M2).cls, T, N)) (hM : AMet E M2 [aR b, v1, v2, v3] hi hr n Q2) (hw1 : cu + mMc M2 ≤ mMc M) (hw2 : su + mMs M2 ≤ mMs M) (hst : st.length ≤ 4)
    (kk : ∀ (r : Option AV) (hi1 : HI) (hr1 : HR) (n1 : Nat), Q2 r hi1 hr1 n1 → AW E M (cu + mMc M2) (su + mMs M2) (pc + 3) ls (r.toList ++ st) hi1 hr1 n1 Q) : AW E M cu su pc ls (v3 :: v2 :: v1 :: aR b :: st) hi hr n Q := by
  intro p e s m args below meth c0 H locs lsA hX hC hL hR
  have hK : KE E s := hX.2.2.2.2.2.2.2
  obtain ⟨⟨h1, h2, h3, h4, h5⟩, h6, h7⟩ := hc
  have hlen : ∀ sig, parseMethodDescriptor (mY M2).desc = some sig → 3 = sig.parameters.length := fun sig h => by rw [h] at h5; exact (Option.some.inj h5).symm
  have hp : PreV s H (mY M2).cls (ad E b) (fun v U => v = (([aR b, v1, v2, v3] : List AV).map (cv E)).toArray ∧ CC E hi hr n U.heap ∧ KE E U) (([v1, v2, v3] : List AV).map (cv E)) := ⟨pc_blind [aR b, v1, v2, v3], recv hK hC hb hs hcl, fun U hU hW => ⟨rfl, by rw [hU]; exact hC, hK.warm hW⟩⟩
  have S : CallFix p m c0 (mC M) (mL M) s args [] (mY M).cls := ⟨hX.1, hX.2.1, hX.2.2.1, hX.2.2.2.2.2.1, fun w h => by cases h⟩
  have hW : 2 * (F0 m pc lsA ((v3 :: v2 :: v1 :: aR b :: st : List AV).map (cv E))).monitorRoom + ((st.map (cv E)).map fun v => v.category).sum ≤ 8 := by have := st_cat E st; show 2 * 0 + _ ≤ 8; omega
  rcases h1 with h1 | ⟨host, h1⟩
  · exact aw_after (va_runV (b := ad E b) (As := ([v1, v2, v3] : List AV).map (cv E)) (rest := st.map (cv E)) S hM ⟨⟨rfl, rfl, hf.1, hf.2, code_ws hK h2, List.mem_singleton.mpr rfl, hK.1 _ h2 rfl _, hK.1 _ h3 rfl _, h4, hlen, hK.1 _ h1 rfl _⟩, hK.1 _ h6 rfl _, hK.1 _ h7 rfl _⟩ hp rfl rfl hR.1 rfl hW hd ⟨hw1, hw2⟩) hX hL hR kk
  · exact aw_after (va_runVN (b := ad E b) (As := ([v1, v2, v3] : List AV).map (cv E)) (rest := st.map (cv E)) S hM ⟨⟨⟨rfl, rfl, hf.1, hf.2, code_ws hK h2, List.mem_singleton.mpr rfl⟩, hK.1 _ h2 rfl _, hK.1 _ h3 rfl _, h4, hlen, hK.1 _ h1 rfl _⟩, hK.1 _ h6 rfl _, hK.1 _ h7 rfl _⟩ hp rfl rfl hR.1 rfl hW hd ⟨hw1, hw2⟩) hX hL hR kk
theorem aw_V4 {b : Nat} {v1 v2 v3 v4 : AV} (hd : decode (mC M) pc = .ok (.invokevirtual idx, 3)) (hc : CLV (mY M).cls idx M2 4) (hf : fitsIn M M2) (hb : b < n) {c N : Nat} {T : u_T} (hs : sh b = (c, N)) (hcl : vwCl[c]? = some ((mY M2).cls, T, N)) (hM : AMet E M2 [aR b, v1, v2, v3, v4] hi hr n Q2) (hw1 : cu + mMc M2 ≤ mMc M) (hw2 : su + mMs M2 ≤ mMs M) (hst : st.length ≤ 4)
    (kk : ∀ (r : Option AV) (hi1 : HI) (hr1 : HR) (n1 : Nat), Q2 r hi1 hr1 n1 → AW E M (cu + mMc M2) (su + mMs M2) (pc + 3) ls (r.toList ++ st) hi1 hr1 n1 Q) : AW E M cu su pc ls (v4 :: v3 :: v2 :: v1 :: aR b :: st) hi hr n Q := by
  intro p e s m args below meth c0 H locs lsA hX hC hL hR
  have hK : KE E s := hX.2.2.2.2.2.2.2
  obtain ⟨⟨h1, h2, h3, h4, h5⟩, h6, h7⟩ := hc
  have hlen : ∀ sig, parseMethodDescriptor (mY M2).desc = some sig → 4 = sig.parameters.length := fun sig h => by rw [h] at h5; exact (Option.some.inj h5).symm
  have hp : PreV s H (mY M2).cls (ad E b) (fun v U => v = (([aR b, v1, v2, v3, v4] : List AV).map (cv E)).toArray ∧ CC E hi hr n U.heap ∧ KE E U) (([v1, v2, v3, v4] : List AV).map (cv E)) := ⟨pc_blind [aR b, v1, v2, v3, v4], recv hK hC hb hs hcl, fun U hU hW => ⟨rfl, by rw [hU]; exact hC, hK.warm hW⟩⟩
  have S : CallFix p m c0 (mC M) (mL M) s args [] (mY M).cls := ⟨hX.1, hX.2.1, hX.2.2.1, hX.2.2.2.2.2.1, fun w h => by cases h⟩
  have hW : 2 * (F0 m pc lsA ((v4 :: v3 :: v2 :: v1 :: aR b :: st : List AV).map (cv E))).monitorRoom + ((st.map (cv E)).map fun v => v.category).sum ≤ 8 := by have := st_cat E st; show 2 * 0 + _ ≤ 8; omega
  rcases h1 with h1 | ⟨host, h1⟩
  · exact aw_after (va_runV (b := ad E b) (As := ([v1, v2, v3, v4] : List AV).map (cv E)) (rest := st.map (cv E)) S hM ⟨⟨rfl, rfl, hf.1, hf.2, code_ws hK h2, List.mem_singleton.mpr rfl, hK.1 _ h2 rfl _, hK.1 _ h3 rfl _, h4, hlen, hK.1 _ h1 rfl _⟩, hK.1 _ h6 rfl _, hK.1 _ h7 rfl _⟩ hp rfl rfl hR.1 rfl hW hd ⟨hw1, hw2⟩) hX hL hR kk
  · exact aw_after (va_runVN (b := ad E b) (As := ([v1, v2, v3, v4] : List AV).map (cv E)) (rest := st.map (cv E)) S hM ⟨⟨⟨rfl, rfl, hf.1, hf.2, code_ws hK h2, List.mem_singleton.mpr rfl⟩, hK.1 _ h2 rfl _, hK.1 _ h3 rfl _, h4, hlen, hK.1 _ h1 rfl _⟩, hK.1 _ h6 rfl _, hK.1 _ h7 rfl _⟩ hp rfl rfl hR.1 rfl hW hd ⟨hw1, hw2⟩) hX hL hR kk
theorem aw_V5 {b : Nat} {v1 v2 v3 v4 v5 : AV} (hd : decode (mC M) pc = .ok (.invokevirtual idx, 3)) (hc : CLV (mY M).cls idx M2 5) (hf : fitsIn M M2) (hb : b < n) {c N : Nat} {T : u_T} (hs : sh b = (c, N)) (hcl : vwCl[c]? = some ((mY M2).cls, T, N)) (hM : AMet E M2 [aR b, v1, v2, v3, v4, v5] hi hr n Q2) (hw1 : cu + mMc M2 ≤ mMc M) (hw2 : su + mMs M2 ≤ mMs M) (hst : st.length ≤ 4)
    (kk : ∀ (r : Option AV) (hi1 : HI) (hr1 : HR) (n1 : Nat), Q2 r hi1 hr1 n1 → AW E M (cu + mMc M2) (su + mMs M2) (pc + 3) ls (r.toList ++ st) hi1 hr1 n1 Q) : AW E M cu su pc ls (v5 :: v4 :: v3 :: v2 :: v1 :: aR b :: st) hi hr n Q := by
  intro p e s m args below meth c0 H locs lsA hX hC hL hR
  have hK : KE E s := hX.2.2.2.2.2.2.2
  obtain ⟨⟨h1, h2, h3, h4, h5⟩, h6, h7⟩ := hc
  have hlen : ∀ sig, parseMethodDescriptor (mY M2).desc = some sig → 5 = sig.parameters.length := fun sig h => by rw [h] at h5; exact (Option.some.inj h5).symm
  have hp : PreV s H (mY M2).cls (ad E b) (fun v U => v = (([aR b, v1, v2, v3, v4, v5] : List AV).map (cv E)).toArray ∧ CC E hi hr n U.heap ∧ KE E U) (([v1, v2, v3, v4, v5] : List AV).map (cv E)) := ⟨pc_blind [aR b, v1, v2, v3, v4, v5], recv hK hC hb hs hcl, fun U hU hW => ⟨rfl, by rw [hU]; exact hC, hK.warm hW⟩⟩
  have S : CallFix p m c0 (mC M) (mL M) s args [] (mY M).cls := ⟨hX.1, hX.2.1, hX.2.2.1, hX.2.2.2.2.2.1, fun w h => by cases h⟩
  have hW : 2 * (F0 m pc lsA ((v5 :: v4 :: v3 :: v2 :: v1 :: aR b :: st : List AV).map (cv E))).monitorRoom + ((st.map (cv E)).map fun v => v.category).sum ≤ 8 := by have := st_cat E st; show 2 * 0 + _ ≤ 8; omega
  rcases h1 with h1 | ⟨host, h1⟩
  · exact aw_after (va_runV (b := ad E b) (As := ([v1, v2, v3, v4, v5] : List AV).map (cv E)) (rest := st.map (cv E)) S hM ⟨⟨rfl, rfl, hf.1, hf.2, code_ws hK h2, List.mem_singleton.mpr rfl, hK.1 _ h2 rfl _, hK.1 _ h3 rfl _, h4, hlen, hK.1 _ h1 rfl _⟩, hK.1 _ h6 rfl _, hK.1 _ h7 rfl _⟩ hp rfl rfl hR.1 rfl hW hd ⟨hw1, hw2⟩) hX hL hR kk
  · exact aw_after (va_runVN (b := ad E b) (As := ([v1, v2, v3, v4, v5] : List AV).map (cv E)) (rest := st.map (cv E)) S hM ⟨⟨⟨rfl, rfl, hf.1, hf.2, code_ws hK h2, List.mem_singleton.mpr rfl⟩, hK.1 _ h2 rfl _, hK.1 _ h3 rfl _, h4, hlen, hK.1 _ h1 rfl _⟩, hK.1 _ h6 rfl _, hK.1 _ h7 rfl _⟩ hp rfl rfl hR.1 rfl hW hd ⟨hw1, hw2⟩) hX hL hR kk
theorem aw_I0 {b : Nat} (hd : decode (mC M) pc = .ok (.invokespecial idx, 3)) (hc : CLI (mY M).cls idx M2 0) (hf : fitsIn M M2) (hM : AMet E M2 [aR b] hi hr n Q2) (hw1 : cu + mMc M2 ≤ mMc M) (hw2 : su + mMs M2 ≤ mMs M) (hst : st.length ≤ 4)
    (kk : ∀ (r : Option AV) (hi1 : HI) (hr1 : HR) (n1 : Nat), Q2 r hi1 hr1 n1 → AW E M (cu + mMc M2) (su + mMs M2) (pc + 3) ls (r.toList ++ st) hi1 hr1 n1 Q) : AW E M cu su pc ls (aR b :: st) hi hr n Q := by
  intro p e s m args below meth c H locs lsA hX hC hL hR
  have hK : KE E s := hX.2.2.2.2.2.2.2
  obtain ⟨⟨h1, h2, h3, h4, h5⟩, h6, h7, h8⟩ := hc
  have hlen : ∀ sig, parseMethodDescriptor (mY M2).desc = some sig → 0 = sig.parameters.length := fun sig h => by rw [h] at h5; exact (Option.some.inj h5).symm
  have hp : PreS s H (fun v U => v = (([aR b] : List AV).map (cv E)).toArray ∧ CC E hi hr n U.heap ∧ KE E U) (.ref (ad E b) :: ([] : List AV).map (cv E)) := ⟨pc_blind [aR b], fun U hU hW => ⟨rfl, by rw [hU]; exact hC, hK.warm hW⟩⟩
  have hM : Met (eL E) (mY M2) [Cond.code (mY M2) (mC M2) (mL M2) (mT M2)] (mR M2) (fun v U => v = (([aR b] : List AV).map (cv E)).toArray ∧ CC E hi hr n U.heap ∧ KE E U) (QA E Q2) (mMc M2) (mMs M2) (fr E) := hM
  have hcw := code_ws hK h2
  have hcm := hK.1 _ h2 rfl
  rw [h8] at hM hcw hcm
  have S : CallFix p m c (mC M) (mL M) s args [] (mY M).cls := ⟨hX.1, hX.2.1, hX.2.2.1, hX.2.2.2.2.2.1, fun w h => by cases h⟩
  have hW : 2 * (F0 m pc lsA ((aR b :: st : List AV).map (cv E))).monitorRoom + ((st.map (cv E)).map fun v => v.category).sum ≤ 8 := by have := st_cat E st; show 2 * 0 + _ ≤ 8; omega
  rcases h1 with h1 | ⟨host, h1⟩
  · exact aw_after (va_runI (b := ad E b) (As := ([] : List AV).map (cv E)) (rest := st.map (cv E)) S hM ⟨⟨rfl, rfl, hf.1, hf.2, hcw, List.mem_singleton.mpr rfl, hcm _, hK.1 _ h3 rfl _, h4, hlen, hK.1 _ h1 rfl _⟩, h6, hK.1 _ h7 rfl _⟩ hp rfl rfl hR.1 rfl hW hd ⟨hw1, hw2⟩) hX hL hR kk
  · exact aw_after (va_runIN (b := ad E b) (As := ([] : List AV).map (cv E)) (rest := st.map (cv E)) S hM ⟨⟨⟨rfl, rfl, hf.1, hf.2, hcw, List.mem_singleton.mpr rfl⟩, hcm _, hK.1 _ h3 rfl _, h4, hlen, hK.1 _ h1 rfl _⟩, h6, hK.1 _ h7 rfl _⟩ hp rfl rfl hR.1 rfl hW hd ⟨hw1, hw2⟩) hX hL hR kk
end CALLS
