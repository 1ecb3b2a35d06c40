/-! what holds at the law's entry -/
theorem before_any {w : Cond} (h : okW w = true) {A : Array Value} {s : State} (hs : w.before A s = true) : ∀ a : Array Value, w.before a s = true := by
  intro a
  by_cases h1 : (w.onTables && w.keeps) = true
  · exact word_at (State.WarmedH.refl s) (Or.inl h1) hs
  · cases w <;> first
      | exact word_at (State.WarmedH.refl s) (Or.inr ⟨_, rfl⟩) hs
      | exact hs
      | exact absurd h h1
def stA (t0 t1 t2 t3 t4 b : Nat) : Nat → Nat := fun i => match i with
  | 0 => t0
  | 1 => t1
  | 2 => t2
  | 3 => t3
  | 4 => t4
  | _ => b
def stN (L : Nat) : Nat → Nat := fun i => match i with
  | 0 => 4
  | 1 => 16
  | 2 => 16
  | 3 => 4
  | 4 => 4
  | _ => L
def stX (xs : Nat → Int32) : Nat → Nat → Int := fun i j => match i with
  | 0 => fiF (j : Int)
  | 1 => lin (j : Int)
  | 2 => lat (j : Int)
  | 3 => leF (j : Int)
  | 4 => moF (j : Int)
  | _ => (xs j).toInt
theorem tb_of {s : State} {A : Array Value} (hts : ∀ w ∈ lw_tbl, w.before A s = true) {nm : String} {N : Nat} {f : Nat → Int} (hN : N < 2 ^ 31) (hl : Cond.laysStatic "PagePairs" nm "[I" ∈ lw_tbl) (harr : (Cond.arrayOf (.static "PagePairs" nm "[I") .int).before A s = true)
    (hlen : (Cond.eq (.length (.static "PagePairs" nm "[I")) (.int (Int32.ofNat N))).before A s = true) (hel : ∀ j : Nat, j < N → (Cond.eq (.elem (.static "PagePairs" nm "[I") (.int (Int32.ofNat j))) (.int (Int32.ofInt (f j)))).before A s = true) :
    ∃ t : Nat, t < s.heap.size ∧ va_T .int t N (fun j => .int (Int32.ofInt (f j))) (fun q => s.heap.size ≤ q) s s.heap ∧ va_Z "PagePairs" nm "[I" (.ref t) (fun q => s.heap.size ≤ q) s s.heap := by
  have hA : ∀ a : Nat, a < s.heap.size → ¬ (fun q : Nat => s.heap.size ≤ q) a := fun a ha => Nat.not_le.mpr ha
  obtain ⟨t, hv, hT⟩ := va_Tof (A := fun q : Nat => s.heap.size ≤ q) hN harr (va_eqt hlen) (fun j hj => va_eqt (hel j hj)) hA
  refine ⟨t, ?_, hT, va_Zref (hts _ hl) (hts _ itX8) hv hA⟩
  obtain ⟨cell, h1, -⟩ := hT
  exact (Array.getElem?_eq_some_iff.mp h1).1
section ENTRY
variable {s : State} {b L : Nat} {xs : Nat → Int32}
theorem tb_0 (hts : ∀ w ∈ lw_tbl, w.before #[Value.ref b] s = true) (hgv : (Jvm.Cond.and given_1 narrow_1).before #[Value.ref b] s = true) : ∃ t : Nat, t < s.heap.size ∧ va_T .int t 4 (fun j => .int (Int32.ofInt (fiF (j : Int)))) (fun q => s.heap.size ≤ q) s s.heap ∧ va_Z "PagePairs" "SETTING_FIRST" "[I" (.ref t) (fun q => s.heap.size ≤ q) s s.heap := by
  have hs := flat_of_before _ hgv
  refine tb_of (N := 4) (f := fun j => fiF (j : Int)) hts (by decide) w_ls0 (hs _ (by decide +kernel)) (hs _ (by decide +kernel)) (fun j hj => ?_)
  rcases (show j = 0 ∨ j = 1 ∨ j = 2 ∨ j = 3 by omega) with rfl | rfl | rfl | rfl
  · exact hs _ (by decide +kernel)
  · exact hs _ (by decide +kernel)
  · exact hs _ (by decide +kernel)
  · exact hs _ (by decide +kernel)
theorem tb_1 (hts : ∀ w ∈ lw_tbl, w.before #[Value.ref b] s = true) (hgv : (Jvm.Cond.and given_1 narrow_1).before #[Value.ref b] s = true) : ∃ t : Nat, t < s.heap.size ∧ va_T .int t 16 (fun j => .int (Int32.ofInt (lin (j : Int)))) (fun q => s.heap.size ≤ q) s s.heap ∧ va_Z "PagePairs" "WORDLINE" "[I" (.ref t) (fun q => s.heap.size ≤ q) s s.heap := by
  have hs := flat_of_before _ hgv
  refine tb_of (N := 16) (f := fun j => lin (j : Int)) hts (by decide) w_ls1 (hs _ (by decide +kernel)) (hs _ (by decide +kernel)) (fun j hj => ?_)
  rcases (show j = 0 ∨ j = 1 ∨ j = 2 ∨ j = 3 ∨ j = 4 ∨ j = 5 ∨ j = 6 ∨ j = 7 ∨ j = 8 ∨ j = 9 ∨ j = 10 ∨ j = 11 ∨ j = 12 ∨ j = 13 ∨ j = 14 ∨ j = 15 by omega) with rfl | rfl | rfl | rfl | rfl | rfl | rfl | rfl | rfl | rfl | rfl | rfl | rfl | rfl | rfl | rfl
  · exact hs _ (by decide +kernel)
  · exact hs _ (by decide +kernel)
  · exact hs _ (by decide +kernel)
  · exact hs _ (by decide +kernel)
  · exact hs _ (by decide +kernel)
  · exact hs _ (by decide +kernel)
  · exact hs _ (by decide +kernel)
  · exact hs _ (by decide +kernel)
  · exact hs _ (by decide +kernel)
  · exact hs _ (by decide +kernel)
  · exact hs _ (by decide +kernel)
  · exact hs _ (by decide +kernel)
  · exact hs _ (by decide +kernel)
  · exact hs _ (by decide +kernel)
  · exact hs _ (by decide +kernel)
  · exact hs _ (by decide +kernel)
theorem tb_2 (hts : ∀ w ∈ lw_tbl, w.before #[Value.ref b] s = true) (hgv : (Jvm.Cond.and given_1 narrow_1).before #[Value.ref b] s = true) : ∃ t : Nat, t < s.heap.size ∧ va_T .int t 16 (fun j => .int (Int32.ofInt (lat (j : Int)))) (fun q => s.heap.size ≤ q) s s.heap ∧ va_Z "PagePairs" "LATE" "[I" (.ref t) (fun q => s.heap.size ≤ q) s s.heap := by
  have hs := flat_of_before _ hgv
  refine tb_of (N := 16) (f := fun j => lat (j : Int)) hts (by decide) w_ls2 (hs _ (by decide +kernel)) (hs _ (by decide +kernel)) (fun j hj => ?_)
  rcases (show j = 0 ∨ j = 1 ∨ j = 2 ∨ j = 3 ∨ j = 4 ∨ j = 5 ∨ j = 6 ∨ j = 7 ∨ j = 8 ∨ j = 9 ∨ j = 10 ∨ j = 11 ∨ j = 12 ∨ j = 13 ∨ j = 14 ∨ j = 15 by omega) with rfl | rfl | rfl | rfl | rfl | rfl | rfl | rfl | rfl | rfl | rfl | rfl | rfl | rfl | rfl | rfl
  · exact hs _ (by decide +kernel)
  · exact hs _ (by decide +kernel)
  · exact hs _ (by decide +kernel)
  · exact hs _ (by decide +kernel)
  · exact hs _ (by decide +kernel)
  · exact hs _ (by decide +kernel)
  · exact hs _ (by decide +kernel)
  · exact hs _ (by decide +kernel)
  · exact hs _ (by decide +kernel)
  · exact hs _ (by decide +kernel)
  · exact hs _ (by decide +kernel)
  · exact hs _ (by decide +kernel)
  · exact hs _ (by decide +kernel)
  · exact hs _ (by decide +kernel)
  · exact hs _ (by decide +kernel)
  · exact hs _ (by decide +kernel)
theorem tb_3 (hts : ∀ w ∈ lw_tbl, w.before #[Value.ref b] s = true) (hgv : (Jvm.Cond.and given_1 narrow_1).before #[Value.ref b] s = true) : ∃ t : Nat, t < s.heap.size ∧ va_T .int t 4 (fun j => .int (Int32.ofInt (leF (j : Int)))) (fun q => s.heap.size ≤ q) s s.heap ∧ va_Z "PagePairs" "SETTING_LEAST" "[I" (.ref t) (fun q => s.heap.size ≤ q) s s.heap := by
  have hs := flat_of_before _ hgv
  refine tb_of (N := 4) (f := fun j => leF (j : Int)) hts (by decide) w_ls3 (hs _ (by decide +kernel)) (hs _ (by decide +kernel)) (fun j hj => ?_)
  rcases (show j = 0 ∨ j = 1 ∨ j = 2 ∨ j = 3 by omega) with rfl | rfl | rfl | rfl
  · exact hs _ (by decide +kernel)
  · exact hs _ (by decide +kernel)
  · exact hs _ (by decide +kernel)
  · exact hs _ (by decide +kernel)
theorem tb_4 (hts : ∀ w ∈ lw_tbl, w.before #[Value.ref b] s = true) (hgv : (Jvm.Cond.and given_1 narrow_1).before #[Value.ref b] s = true) : ∃ t : Nat, t < s.heap.size ∧ va_T .int t 4 (fun j => .int (Int32.ofInt (moF (j : Int)))) (fun q => s.heap.size ≤ q) s s.heap ∧ va_Z "PagePairs" "SETTING_MOST" "[I" (.ref t) (fun q => s.heap.size ≤ q) s s.heap := by
  have hs := flat_of_before _ hgv
  refine tb_of (N := 4) (f := fun j => moF (j : Int)) hts (by decide) w_ls4 (hs _ (by decide +kernel)) (hs _ (by decide +kernel)) (fun j hj => ?_)
  rcases (show j = 0 ∨ j = 1 ∨ j = 2 ∨ j = 3 by omega) with rfl | rfl | rfl | rfl
  · exact hs _ (by decide +kernel)
  · exact hs _ (by decide +kernel)
  · exact hs _ (by decide +kernel)
  · exact hs _ (by decide +kernel)
theorem kn_all (hts : ∀ w ∈ lw_tbl, w.before #[Value.ref b] s = true) : ∃ f : Nat → ClassId × (Nat → Nat), ∀ (c : Nat) (q : vw_C), vwCl[c]? = some q → u_Kn s q.1 q.2.1 q.2.2 (f c).1 (f c).2 := by
  have KN : ∀ c : Nat, ∃ p : ClassId × (Nat → Nat), ∀ q : vw_C, vwCl[c]? = some q → u_Kn s q.1 q.2.1 q.2.2 p.1 p.2 := by
    intro c
    by_cases hc : c < 9
    · rcases (show c = 0 ∨ c = 1 ∨ c = 2 ∨ c = 3 ∨ c = 4 ∨ c = 5 ∨ c = 6 ∨ c = 7 ∨ c = 8 by omega) with rfl | rfl | rfl | rfl | rfl | rfl | rfl | rfl | rfl
      · obtain ⟨cC, iS, h⟩ := u_known (C := RX0) (T := TX0) (N := 4) (n := 4) hts (fun w hw => (ci0.2.1 w hw).1) (hts _ nwX0)
        exact ⟨(cC, iS), fun q hq => by rw [ci0.1] at hq; cases hq; exact h⟩
      · obtain ⟨cC, iS, h⟩ := u_known (C := RX1) (T := TX1) (N := 2) (n := 2) hts (fun w hw => (ci1.2.1 w hw).1) (hts _ nwX1)
        exact ⟨(cC, iS), fun q hq => by rw [ci1.1] at hq; cases hq; exact h⟩
      · obtain ⟨cC, iS, h⟩ := u_known (C := RX2) (T := TX2) (N := 5) (n := 5) hts (fun w hw => (ci2.2.1 w hw).1) (hts _ nwX2)
        exact ⟨(cC, iS), fun q hq => by rw [ci2.1] at hq; cases hq; exact h⟩
      · obtain ⟨cC, iS, h⟩ := u_known (C := RX3) (T := TX3) (N := 5) (n := 5) hts (fun w hw => (ci3.2.1 w hw).1) (hts _ nwX3)
        exact ⟨(cC, iS), fun q hq => by rw [ci3.1] at hq; cases hq; exact h⟩
      · obtain ⟨cC, iS, h⟩ := u_known (C := RX4) (T := TX4) (N := 11) (n := 11) hts (fun w hw => (ci4.2.1 w hw).1) (hts _ nwX4)
        exact ⟨(cC, iS), fun q hq => by rw [ci4.1] at hq; cases hq; exact h⟩
      · obtain ⟨cC, iS, h⟩ := u_known (C := RX5) (T := TX5) (N := 7) (n := 7) hts (fun w hw => (ci5.2.1 w hw).1) (hts _ nwX5)
        exact ⟨(cC, iS), fun q hq => by rw [ci5.1] at hq; cases hq; exact h⟩
      · obtain ⟨cC, iS, h⟩ := u_known (C := RX6) (T := TX6) (N := 6) (n := 6) hts (fun w hw => (ci6.2.1 w hw).1) (hts _ nwX6)
        exact ⟨(cC, iS), fun q hq => by rw [ci6.1] at hq; cases hq; exact h⟩
      · obtain ⟨cC, iS, h⟩ := u_known (C := RX7) (T := TX7) (N := 8) (n := 8) hts (fun w hw => (ci7.2.1 w hw).1) (hts _ nwX7)
        exact ⟨(cC, iS), fun q hq => by rw [ci7.1] at hq; cases hq; exact h⟩
      · obtain ⟨cC, iS, h⟩ := u_known (C := RX8) (T := TX8) (N := 5) (n := 5) hts (fun w hw => (ci8.2.1 w hw).1) (hts _ nwX8)
        exact ⟨(cC, iS), fun q hq => by rw [ci8.1] at hq; cases hq; exact h⟩
    · obtain ⟨cC, iS, h⟩ := u_known (C := RX0) (T := TX0) (N := 4) (n := 4) hts (fun w hw => (ci0.2.1 w hw).1) (hts _ nwX0)
      refine ⟨(cC, iS), fun q hq => ?_⟩
      have hlt := (List.getElem?_eq_some_iff.mp hq).1
      have hlen : vwCl.length = 9 := rfl
      omega
  obtain ⟨f, hf⟩ := Classical.axiomOfChoice KN
  exact ⟨f, hf⟩
theorem ke_start (l : Launch) (hts : ∀ w ∈ lw_tbl, w.before #[Value.ref b] s = true) (hX : va_X b L xs s s.heap) (hbl : b < s.heap.size) (hgv : (Jvm.Cond.and given_1 narrow_1).before #[Value.ref b] s = true) :
    ∃ E : ET, (eH E = s.heap ∧ eL E = l ∧ ad E 1005 = b) ∧ KE E s ∧ EN E ∧ XH (fun a j => eX E (a - 1000) j) ∧ L = eN E 5 ∧ ∀ j : Nat, InR (eX E 5 j) := by
  obtain ⟨t0, l0, T0, Z0⟩ := tb_0 hts hgv
  obtain ⟨t1, l1, T1, Z1⟩ := tb_1 hts hgv
  obtain ⟨t2, l2, T2, Z2⟩ := tb_2 hts hgv
  obtain ⟨t3, l3, T3, Z3⟩ := tb_3 hts hgv
  obtain ⟨t4, l4, T4, Z4⟩ := tb_4 hts hgv
  obtain ⟨f, hf⟩ := kn_all hts
  obtain ⟨cA, kA, comp, a1, a2, a3⟩ := Cond.arrayClass_spec (hts _ w_arr)
  obtain ⟨compS, cS, kS, s1, -, s2, s3, s4⟩ := Cond.arrayOver_spec (hts _ w_stc)
  refine ⟨(s.heap, l, stA t0 t1 t2 t3 t4 b, stX xs, stN L, fun c => (f c).1, fun c => (f c).2, cA, cS), ⟨rfl, rfl, rfl⟩, ⟨fun w hw hk => before_any hk (hts w hw), hf, ⟨fun n z => ⟨fun k h => (by cases h), kA, a2, comp, a3⟩, a1⟩, ⟨fun n z => ⟨fun k h => (by cases h), kS, s2, compS, s3⟩, ⟨kS, compS, s2, s3, s1, s4⟩⟩, fun i hi => ?_, fun i hi => ?_, va_AO.of (hts _ w_stc)⟩, ⟨rfl, rfl, rfl, rfl, rfl⟩, ⟨fun j _ => rfl, fun j _ => rfl, fun j _ => rfl, fun j _ => rfl, fun j _ => rfl⟩, rfl, fun j => i32r _⟩
  · rcases (show i = 0 ∨ i = 1 ∨ i = 2 ∨ i = 3 ∨ i = 4 ∨ i = 5 by omega) with rfl | rfl | rfl | rfl | rfl | rfl
    · exact ⟨T0, l0⟩
    · exact ⟨T1, l1⟩
    · exact ⟨T2, l2⟩
    · exact ⟨T3, l3⟩
    · exact ⟨T4, l4⟩
    · obtain ⟨scr, h1, h2, h3, h4, h5⟩ := hX
      refine ⟨⟨scr, h1, h2, h3, ?_, ?_, fun j hj => ?_, Nat.not_le.mpr hbl⟩, hbl⟩
      · rw [h4]; exact Nat.le_refl _
      · rw [h4]; rfl
      · rw [h5 j hj]
        show some (Value.int (xs j)) = some (Value.int (Int32.ofInt (xs j).toInt))
        rw [Int32.ofInt_toInt]
  · rcases (show i = 0 ∨ i = 1 ∨ i = 2 ∨ i = 3 ∨ i = 4 by omega) with rfl | rfl | rfl | rfl | rfl
    · exact Z0
    · exact Z1
    · exact Z2
    · exact Z3
    · exact Z4
end ENTRY
