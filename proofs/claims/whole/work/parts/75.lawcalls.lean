/-! the law, call by call -/
section ST
variable {E : ET} {M : MT} {cu su pc : Nat} {ls : List (Option AV)} {st : List AV} {hi : HI} {hr : HR} {n : Nat} {Q : QT}
/-- what the heap says of what was there before -/
theorem aw_st (k : (∀ i : Nat, i < 6 → ∀ j : Nat, hi (1000 + i) j = eX E i j) → AW E M cu su pc ls st hi hr n Q) : AW E M cu su pc ls st hi hr n Q :=
  fun p e s m args below meth c H locs lsA C hC hL hR => k hC.2.2.2.2.1 p e s m args below meth c H locs lsA C hC hL hR
end ST
theorem xh_of {E : ET} {h : HI} (XE : XH (fun a j => eX E (a - 1000) j)) (hS : ∀ i : Nat, i < 6 → ∀ j : Nat, h (1000 + i) j = eX E i j) : XH h :=
  ⟨fun j hj => (hS 0 (by decide) j).trans (XE.1 j hj), fun j hj => (hS 1 (by decide) j).trans (XE.2.1 j hj), fun j hj => (hS 2 (by decide) j).trans (XE.2.2.1 j hj), fun j hj => (hS 3 (by decide) j).trans (XE.2.2.2.1 j hj), fun j hj => (hS 4 (by decide) j).trans (XE.2.2.2.2 j hj)⟩
theorem BK.doA {G : Int → Int} {len : Int} : ∀ (k : Nat) (s : Int → Int) (a d t m n : Int), OKS s n → n + k ≤ 100000 → BK s → BK (doA G len k s a d t m).2.1 := by
  intro k
  induction k with
  | zero => intro s a d t m n _ _ h; exact h
  | succ k ih =>
    intro s a d t m n hO hn h
    rw [doA_s]
    by_cases c1 : len ≤ a
    · rw [if_pos c1]; exact h
    · rw [if_neg c1]
      by_cases c2 : cmd G len a = 0
      · rw [if_pos c2]; exact h
      · rw [if_neg c2]
        have hc := h.ca hO.1 (hrF G len a) (c1F G len a).2.1 (c2F G len a).2.1
        by_cases c3 : (caF s (hrF G len a) (c1F G len a).2.1 (c2F G len a).2.1).1 < 0
        · rw [if_pos c3]; exact hc
        · rw [if_neg c3]; exact ih _ _ _ _ _ (n + 1) (hO.ca (by omega) _ _ _) (by omega) hc
theorem i32r (r : Int32) : InR r.toInt := by
  have h1 := Int32.le_toInt r
  have h2 := Int32.toInt_lt r
  exact ⟨by omega, by omega⟩
def QL : QT := fun r _ _ _ => r = some (aI 1)
section LAW
variable {E : ET} {hi : HI} {hr : HR} {L k : Nat}
set_option maxRecDepth 100000 in
set_option maxHeartbeats 4000000 in
theorem lc_write (hEN : EN E) (XE : XH (fun a j => eX E (a - 1000) j)) (hL : L = eN E 5) (hL2 : L ≤ 2048) (hI : ∀ j : Nat, InR (eX E 5 j)) (hk : 4 * (k : Int) + 4 ≤ L) (inv : INV hi hr (64 * (k : Int))) (J : ∀ (h2 : HI) (r2 : HR), INV h2 r2 (64 * ((k : Int) + 1)) → AW E M_L_law 131 3697 672 [some (aR 1005), some (aR 0), some (aR 125), some (aI (4 * (k : Int)))] [] h2 r2 131 QL) : AW E M_L_law 131 3697 136 [some (aR 1005), some (aR 0), some (aR 125), some (aI (4 * (k : Int)))] [] hi hr 131 QL := by
  refine aw_st (fun hS => ?_)
  have inv0 := inv
  obtain ⟨⟨q, m, c, e3, hp⟩, ⟨hO, hBK⟩, ht⟩ := inv
  have hM := hO.1
  obtain ⟨m35, m0, m4⟩ := c.2.2.1
  have hHR := c.1
  have hT0 := ht.2.1.1
  have hT1 := ht.2.1.2.1
  refine aw_aload_n dL_law_136 rfl ?_
  refine aw_aload_n dL_law_137 rfl ?_
  refine aw_iload_n dL_law_138 rfl ?_
  refine aw_iconst dL_law_139 ?_
  refine aw_iadd dL_law_140 ?_
  refine aw_iald (N := L) dL_law_141 (Or.inr ⟨5, by decide, rfl, hL⟩) (by omega) (by omega) (by omega) (hS 5 (by decide) _) ?_
  refine aw_aload_n dL_law_142 rfl ?_
  refine aw_iload_n dL_law_143 rfl ?_
  refine aw_iconst dL_law_144 ?_
  refine aw_iadd dL_law_145 ?_
  refine aw_iald (N := L) dL_law_146 (Or.inr ⟨5, by decide, rfl, hL⟩) (by omega) (by omega) (by omega) (hS 5 (by decide) _) ?_
  refine aw_aload_n dL_law_147 rfl ?_
  refine aw_iload_n dL_law_148 rfl ?_
  refine aw_iconst dL_law_149 ?_
  refine aw_iadd dL_law_150 ?_
  refine aw_iald (N := L) dL_law_151 (Or.inr ⟨5, by decide, rfl, hL⟩) (by omega) (by omega) (by omega) (hS 5 (by decide) _) ?_
  refine aw_V3i dL_law_152 clL_13 ⟨by decide, by decide⟩ (c := 8) (N := 5) (by decide) (by decide +kernel) rfl (c_X8_write c (hI _) (hI _) (hI _)) (by decide) (by decide) rfl rfl (by simp only [List.length_cons, List.length_nil]; omega) (fun v1 h1 r1 n1 z => ?_)
  obtain ⟨rfl, pq⟩ := z
  have far : ∀ a : Nat, 125 ≤ a → ∀ k : Nat, h1 a k = hi a k := fun a ha k => pq.2.1 a (Or.inr ha) k
  have hR1 : HRk r1 := by obtain ⟨-, -, -, q2, m2, s2, P2, c2, -⟩ := pq; exact c2.1
  have esg : sg h1 = sg hi := sg_eq (far 126 (by decide))
  have f3 : h1 125 3 = m := (far 125 (by decide) 3).trans e3
  refine aw_st (fun hS => ?_)
  refine aw_aload_n dL_law_155 rfl ?_
  refine aw_aload_n dL_law_156 rfl ?_
  refine aw_iload_n dL_law_157 rfl ?_
  refine aw_iconst dL_law_158 ?_
  refine aw_iadd dL_law_159 ?_
  refine aw_iald (N := L) dL_law_160 (Or.inr ⟨5, by decide, rfl, hL⟩) (by omega) (by omega) (by omega) (hS 5 (by decide) _) ?_
  refine aw_aload_n dL_law_161 rfl ?_
  refine aw_iload_n dL_law_162 rfl ?_
  refine aw_iconst dL_law_163 ?_
  refine aw_iadd dL_law_164 ?_
  refine aw_iald (N := L) dL_law_165 (Or.inr ⟨5, by decide, rfl, hL⟩) (by omega) (by omega) (by omega) (hS 5 (by decide) _) ?_
  refine aw_aload_n dL_law_166 rfl ?_
  refine aw_iload_n dL_law_167 rfl ?_
  refine aw_iconst dL_law_168 ?_
  refine aw_iadd dL_law_169 ?_
  refine aw_iald (N := L) dL_law_170 (Or.inr ⟨5, by decide, rfl, hL⟩) (by omega) (by omega) (by omega) (hS 5 (by decide) _) ?_
  refine aw_V3i dL_law_171 clL_17 ⟨by decide, by decide⟩ (c := 9) (N := 11) (by decide) (by decide +kernel) rfl (by have g := c_X9_write (E := E) (hi := h1) (hr := r1) hR1 (by rw [esg]; exact hM) (by rw [f3]; omega) (by rw [f3]; omega) (k := (eX E 5 (4 * (k : Int) + 1).toNat)) (w := (eX E 5 (4 * (k : Int) + 2).toNat)) (u := (eX E 5 (4 * (k : Int) + 3).toNat)) (hI _) (hI _) (hI _); rw [esg] at g; exact g) (by decide) (by decide) rfl rfl (by simp only [List.length_cons, List.length_nil]; omega) (fun v2 h2 r2 n2 z2 => ?_)
  obtain ⟨rfl, rfl, pu⟩ := z2
  refine aw_st (fun hS2 => ?_)
  obtain ⟨ev, inv2⟩ := inv_change (n2 := 64 * ((k : Int) + 1)) c e3 hp ⟨hO, hBK⟩ ht pq pu (xh_of XE hS2) ⟨(hO.as _ _ _).le (by omega), hBK.as hM _ _ _⟩ (by omega)
  refine aw_ic_eqT (tgt := 672) dL_law_174 (by decide) ev ?_
  exact J _ _ inv2
set_option maxRecDepth 100000 in
set_option maxHeartbeats 4000000 in
theorem lc_tick (hEN : EN E) (XE : XH (fun a j => eX E (a - 1000) j)) (hL : L = eN E 5) (hL2 : L ≤ 2048) (hI : ∀ j : Nat, InR (eX E 5 j)) (hk : 4 * (k : Int) + 4 ≤ L) (inv : INV hi hr (64 * (k : Int))) (J : ∀ (h2 : HI) (r2 : HR), INV h2 r2 (64 * ((k : Int) + 1)) → AW E M_L_law 131 3697 672 [some (aR 1005), some (aR 0), some (aR 125), some (aI (4 * (k : Int)))] [] h2 r2 131 QL) : AW E M_L_law 131 3697 179 [some (aR 1005), some (aR 0), some (aR 125), some (aI (4 * (k : Int)))] [] hi hr 131 QL := by
  refine aw_st (fun hS => ?_)
  have inv0 := inv
  obtain ⟨⟨q, m, c, e3, hp⟩, ⟨hO, hBK⟩, ht⟩ := inv
  have hM := hO.1
  obtain ⟨m35, m0, m4⟩ := c.2.2.1
  have hHR := c.1
  have hT0 := ht.2.1.1
  have hT1 := ht.2.1.2.1
  refine aw_aload_n dL_law_179 rfl ?_
  refine aw_aload_n dL_law_180 rfl ?_
  refine aw_iload_n dL_law_181 rfl ?_
  refine aw_iconst dL_law_182 ?_
  refine aw_iadd dL_law_183 ?_
  refine aw_iald (N := L) dL_law_184 (Or.inr ⟨5, by decide, rfl, hL⟩) (by omega) (by omega) (by omega) (hS 5 (by decide) _) ?_
  refine aw_V1i dL_law_185 clL_18 ⟨by decide, by decide⟩ (c := 8) (N := 5) (by decide) (by decide +kernel) rfl (c_X8_tick c hEN hO (hI _)) (by decide) (by decide) rfl rfl (by simp only [List.length_cons, List.length_nil]; omega) (fun v1 h1 r1 n1 z => ?_)
  obtain ⟨rfl, pq⟩ := z
  have far : ∀ a : Nat, 125 ≤ a → ∀ k : Nat, h1 a k = hi a k := fun a ha k => pq.2.1 a (Or.inr ha) k
  have hR1 : HRk r1 := by obtain ⟨-, -, -, q2, m2, s2, P2, c2, -⟩ := pq; exact c2.1
  have esg : sg h1 = sg hi := sg_eq (far 126 (by decide))
  have f3 : h1 125 3 = m := (far 125 (by decide) 3).trans e3
  refine aw_st (fun hS => ?_)
  refine aw_aload_n dL_law_188 rfl ?_
  refine aw_aload_n dL_law_189 rfl ?_
  refine aw_iload_n dL_law_190 rfl ?_
  refine aw_iconst dL_law_191 ?_
  refine aw_iadd dL_law_192 ?_
  refine aw_iald (N := L) dL_law_193 (Or.inr ⟨5, by decide, rfl, hL⟩) (by omega) (by omega) (by omega) (hS 5 (by decide) _) ?_
  refine aw_V1i dL_law_194 clL_22 ⟨by decide, by decide⟩ (c := 9) (N := 11) (by decide) (by decide +kernel) rfl (by have g := c_X9_tick (E := E) (hi := h1) (hr := r1) hR1 (by rw [esg]; exact hM) (by rw [f3]; omega) (by rw [f3]; omega) (k := (eX E 5 (4 * (k : Int) + 1).toNat)) (hI _) (by rw [esg]; exact r_lt hO _); rw [esg] at g; exact g) (by decide) (by decide) rfl rfl (by simp only [List.length_cons, List.length_nil]; omega) (fun v2 h2 r2 n2 z2 => ?_)
  obtain ⟨rfl, rfl, pu⟩ := z2
  refine aw_st (fun hS2 => ?_)
  obtain ⟨ev, inv2⟩ := inv_change (n2 := 64 * ((k : Int) + 1)) c e3 hp ⟨hO, hBK⟩ ht pq pu (xh_of XE hS2) ⟨(hO.lt _).le (by omega), hBK.lt hM _⟩ (by omega)
  refine aw_ic_eqT (tgt := 672) dL_law_197 (by decide) ev ?_
  exact J _ _ inv2
set_option maxRecDepth 100000 in
set_option maxHeartbeats 4000000 in
theorem lc_cut (hEN : EN E) (XE : XH (fun a j => eX E (a - 1000) j)) (hL : L = eN E 5) (hL2 : L ≤ 2048) (hI : ∀ j : Nat, InR (eX E 5 j)) (hk : 4 * (k : Int) + 4 ≤ L) (inv : INV hi hr (64 * (k : Int))) (J : ∀ (h2 : HI) (r2 : HR), INV h2 r2 (64 * ((k : Int) + 1)) → AW E M_L_law 131 3697 672 [some (aR 1005), some (aR 0), some (aR 125), some (aI (4 * (k : Int)))] [] h2 r2 131 QL) : AW E M_L_law 131 3697 202 [some (aR 1005), some (aR 0), some (aR 125), some (aI (4 * (k : Int)))] [] hi hr 131 QL := by
  refine aw_st (fun hS => ?_)
  have inv0 := inv
  obtain ⟨⟨q, m, c, e3, hp⟩, ⟨hO, hBK⟩, ht⟩ := inv
  have hM := hO.1
  obtain ⟨m35, m0, m4⟩ := c.2.2.1
  have hHR := c.1
  have hT0 := ht.2.1.1
  have hT1 := ht.2.1.2.1
  refine aw_aload_n dL_law_202 rfl ?_
  refine aw_V0i dL_law_203 clL_23 ⟨by decide, by decide⟩ (c := 8) (N := 5) (by decide) (by decide +kernel) rfl (c_X8_cut c ) (by decide) (by decide) rfl rfl (by simp only [List.length_cons, List.length_nil]; omega) (fun v1 h1 r1 n1 z => ?_)
  obtain ⟨rfl, pq⟩ := z
  have far : ∀ a : Nat, 125 ≤ a → ∀ k : Nat, h1 a k = hi a k := fun a ha k => pq.2.1 a (Or.inr ha) k
  have hR1 : HRk r1 := by obtain ⟨-, -, -, q2, m2, s2, P2, c2, -⟩ := pq; exact c2.1
  have esg : sg h1 = sg hi := sg_eq (far 126 (by decide))
  have f3 : h1 125 3 = m := (far 125 (by decide) 3).trans e3
  refine aw_st (fun hS => ?_)
  refine aw_aload_n dL_law_206 rfl ?_
  refine aw_V0i dL_law_207 clL_27 ⟨by decide, by decide⟩ (c := 9) (N := 11) (by decide) (by decide +kernel) rfl (by have g := c_X9_cut (E := E) (hi := h1) (hr := r1) hR1 (by rw [esg]; exact hM) (by rw [f3]; omega) (by rw [f3]; omega); rw [esg] at g; exact g) (by decide) (by decide) rfl rfl (by simp only [List.length_cons, List.length_nil]; omega) (fun v2 h2 r2 n2 z2 => ?_)
  obtain ⟨rfl, rfl, pu⟩ := z2
  refine aw_st (fun hS2 => ?_)
  obtain ⟨ev, inv2⟩ := inv_change (n2 := 64 * ((k : Int) + 1)) c e3 hp ⟨hO, hBK⟩ ht pq pu (xh_of XE hS2) ⟨(hO.of).le (by omega), hBK.of2 hM⟩ (by omega)
  refine aw_ic_eqT (tgt := 672) dL_law_210 (by decide) ev ?_
  exact J _ _ inv2
set_option maxRecDepth 100000 in
set_option maxHeartbeats 4000000 in
theorem lc_on (hEN : EN E) (XE : XH (fun a j => eX E (a - 1000) j)) (hL : L = eN E 5) (hL2 : L ≤ 2048) (hI : ∀ j : Nat, InR (eX E 5 j)) (hk : 4 * (k : Int) + 4 ≤ L) (inv : INV hi hr (64 * (k : Int))) (J : ∀ (h2 : HI) (r2 : HR), INV h2 r2 (64 * ((k : Int) + 1)) → AW E M_L_law 131 3697 672 [some (aR 1005), some (aR 0), some (aR 125), some (aI (4 * (k : Int)))] [] h2 r2 131 QL) : AW E M_L_law 131 3697 215 [some (aR 1005), some (aR 0), some (aR 125), some (aI (4 * (k : Int)))] [] hi hr 131 QL := by
  refine aw_st (fun hS => ?_)
  have inv0 := inv
  obtain ⟨⟨q, m, c, e3, hp⟩, ⟨hO, hBK⟩, ht⟩ := inv
  have hM := hO.1
  obtain ⟨m35, m0, m4⟩ := c.2.2.1
  have hHR := c.1
  have hT0 := ht.2.1.1
  have hT1 := ht.2.1.2.1
  refine aw_aload_n dL_law_215 rfl ?_
  refine aw_V0i dL_law_216 clL_28 ⟨by decide, by decide⟩ (c := 8) (N := 5) (by decide) (by decide +kernel) rfl (c_X8_on c ) (by decide) (by decide) rfl rfl (by simp only [List.length_cons, List.length_nil]; omega) (fun v1 h1 r1 n1 z => ?_)
  obtain ⟨rfl, pq⟩ := z
  have far : ∀ a : Nat, 125 ≤ a → ∀ k : Nat, h1 a k = hi a k := fun a ha k => pq.2.1 a (Or.inr ha) k
  have hR1 : HRk r1 := by obtain ⟨-, -, -, q2, m2, s2, P2, c2, -⟩ := pq; exact c2.1
  have esg : sg h1 = sg hi := sg_eq (far 126 (by decide))
  have f3 : h1 125 3 = m := (far 125 (by decide) 3).trans e3
  refine aw_st (fun hS => ?_)
  refine aw_aload_n dL_law_219 rfl ?_
  refine aw_V0i dL_law_220 clL_31 ⟨by decide, by decide⟩ (c := 9) (N := 11) (by decide) (by decide +kernel) rfl (by have g := c_X9_on (E := E) (hi := h1) (hr := r1) hR1 (by rw [esg]; exact hM) (by rw [f3]; omega) (by rw [f3]; omega); rw [esg] at g; exact g) (by decide) (by decide) rfl rfl (by simp only [List.length_cons, List.length_nil]; omega) (fun v2 h2 r2 n2 z2 => ?_)
  obtain ⟨rfl, rfl, pu⟩ := z2
  refine aw_st (fun hS2 => ?_)
  obtain ⟨ev, inv2⟩ := inv_change (n2 := 64 * ((k : Int) + 1)) c e3 hp ⟨hO, hBK⟩ ht pq pu (xh_of XE hS2) ⟨(hO.op).le (by omega), hBK.op hM⟩ (by omega)
  refine aw_ic_eqT (tgt := 672) dL_law_223 (by decide) ev ?_
  exact J _ _ inv2
set_option maxRecDepth 100000 in
set_option maxHeartbeats 4000000 in
theorem lc_turn (hEN : EN E) (XE : XH (fun a j => eX E (a - 1000) j)) (hL : L = eN E 5) (hL2 : L ≤ 2048) (hI : ∀ j : Nat, InR (eX E 5 j)) (hk : 4 * (k : Int) + 4 ≤ L) (inv : INV hi hr (64 * (k : Int))) (J : ∀ (h2 : HI) (r2 : HR), INV h2 r2 (64 * ((k : Int) + 1)) → AW E M_L_law 131 3697 672 [some (aR 1005), some (aR 0), some (aR 125), some (aI (4 * (k : Int)))] [] h2 r2 131 QL) : AW E M_L_law 131 3697 228 [some (aR 1005), some (aR 0), some (aR 125), some (aI (4 * (k : Int)))] [] hi hr 131 QL := by
  refine aw_st (fun hS => ?_)
  have inv0 := inv
  obtain ⟨⟨q, m, c, e3, hp⟩, ⟨hO, hBK⟩, ht⟩ := inv
  have hM := hO.1
  obtain ⟨m35, m0, m4⟩ := c.2.2.1
  have hHR := c.1
  have hT0 := ht.2.1.1
  have hT1 := ht.2.1.2.1
  refine aw_aload_n dL_law_228 rfl ?_
  refine aw_V0i dL_law_229 clL_32 ⟨by decide, by decide⟩ (c := 8) (N := 5) (by decide) (by decide +kernel) rfl (c_X8_turn c ) (by decide) (by decide) rfl rfl (by simp only [List.length_cons, List.length_nil]; omega) (fun v1 h1 r1 n1 z => ?_)
  obtain ⟨rfl, pq⟩ := z
  have far : ∀ a : Nat, 125 ≤ a → ∀ k : Nat, h1 a k = hi a k := fun a ha k => pq.2.1 a (Or.inr ha) k
  have hR1 : HRk r1 := by obtain ⟨-, -, -, q2, m2, s2, P2, c2, -⟩ := pq; exact c2.1
  have esg : sg h1 = sg hi := sg_eq (far 126 (by decide))
  have f3 : h1 125 3 = m := (far 125 (by decide) 3).trans e3
  refine aw_st (fun hS => ?_)
  refine aw_aload_n dL_law_232 rfl ?_
  refine aw_V0i dL_law_233 clL_35 ⟨by decide, by decide⟩ (c := 9) (N := 11) (by decide) (by decide +kernel) rfl (by have g := c_X9_turn (E := E) (hi := h1) (hr := r1) hR1 (by rw [esg]; exact hM) (by rw [f3]; omega) (by rw [f3]; omega); rw [esg] at g; exact g) (by decide) (by decide) rfl rfl (by simp only [List.length_cons, List.length_nil]; omega) (fun v2 h2 r2 n2 z2 => ?_)
  obtain ⟨rfl, rfl, pu⟩ := z2
  refine aw_st (fun hS2 => ?_)
  obtain ⟨ev, inv2⟩ := inv_change (n2 := 64 * ((k : Int) + 1)) c e3 hp ⟨hO, hBK⟩ ht pq pu (xh_of XE hS2) ⟨(hO.ch).le (by omega), hBK.ch⟩ (by omega)
  refine aw_ic_eqT (tgt := 672) dL_law_236 (by decide) ev ?_
  exact J _ _ inv2
set_option maxRecDepth 100000 in
set_option maxHeartbeats 4000000 in
theorem lc_clean (hEN : EN E) (XE : XH (fun a j => eX E (a - 1000) j)) (hL : L = eN E 5) (hL2 : L ≤ 2048) (hI : ∀ j : Nat, InR (eX E 5 j)) (hk : 4 * (k : Int) + 4 ≤ L) (inv : INV hi hr (64 * (k : Int))) (J : ∀ (h2 : HI) (r2 : HR), INV h2 r2 (64 * ((k : Int) + 1)) → AW E M_L_law 131 3697 672 [some (aR 1005), some (aR 0), some (aR 125), some (aI (4 * (k : Int)))] [] h2 r2 131 QL) : AW E M_L_law 131 3697 241 [some (aR 1005), some (aR 0), some (aR 125), some (aI (4 * (k : Int)))] [] hi hr 131 QL := by
  refine aw_st (fun hS => ?_)
  have inv0 := inv
  obtain ⟨⟨q, m, c, e3, hp⟩, ⟨hO, hBK⟩, ht⟩ := inv
  have hM := hO.1
  obtain ⟨m35, m0, m4⟩ := c.2.2.1
  have hHR := c.1
  have hT0 := ht.2.1.1
  have hT1 := ht.2.1.2.1
  refine aw_aload_n dL_law_241 rfl ?_
  refine aw_aload_n dL_law_242 rfl ?_
  refine aw_iload_n dL_law_243 rfl ?_
  refine aw_iconst dL_law_244 ?_
  refine aw_iadd dL_law_245 ?_
  refine aw_iald (N := L) dL_law_246 (Or.inr ⟨5, by decide, rfl, hL⟩) (by omega) (by omega) (by omega) (hS 5 (by decide) _) ?_
  refine aw_V1i dL_law_247 clL_36 ⟨by decide, by decide⟩ (c := 8) (N := 5) (by decide) (by decide +kernel) rfl (c_X8_clean c (hI _)) (by decide) (by decide) rfl rfl (by simp only [List.length_cons, List.length_nil]; omega) (fun v1 h1 r1 n1 z => ?_)
  obtain ⟨rfl, pq⟩ := z
  have far : ∀ a : Nat, 125 ≤ a → ∀ k : Nat, h1 a k = hi a k := fun a ha k => pq.2.1 a (Or.inr ha) k
  have hR1 : HRk r1 := by obtain ⟨-, -, -, q2, m2, s2, P2, c2, -⟩ := pq; exact c2.1
  have esg : sg h1 = sg hi := sg_eq (far 126 (by decide))
  have f3 : h1 125 3 = m := (far 125 (by decide) 3).trans e3
  refine aw_st (fun hS => ?_)
  refine aw_aload_n dL_law_250 rfl ?_
  refine aw_aload_n dL_law_251 rfl ?_
  refine aw_iload_n dL_law_252 rfl ?_
  refine aw_iconst dL_law_253 ?_
  refine aw_iadd dL_law_254 ?_
  refine aw_iald (N := L) dL_law_255 (Or.inr ⟨5, by decide, rfl, hL⟩) (by omega) (by omega) (by omega) (hS 5 (by decide) _) ?_
  refine aw_V1i dL_law_256 clL_39 ⟨by decide, by decide⟩ (c := 9) (N := 11) (by decide) (by decide +kernel) rfl (by have g := c_X9_clean (E := E) (hi := h1) (hr := r1) hR1 (by rw [esg]; exact hM) (by rw [f3]; omega) (by rw [f3]; omega) (k := (eX E 5 (4 * (k : Int) + 1).toNat)) (hI _); rw [esg] at g; exact g) (by decide) (by decide) rfl rfl (by simp only [List.length_cons, List.length_nil]; omega) (fun v2 h2 r2 n2 z2 => ?_)
  obtain ⟨rfl, rfl, pu⟩ := z2
  refine aw_st (fun hS2 => ?_)
  obtain ⟨ev, inv2⟩ := inv_change (n2 := 64 * ((k : Int) + 1)) c e3 hp ⟨hO, hBK⟩ ht pq pu (xh_of XE hS2) ⟨(hO.cl _).le (by omega), hBK.cl hM _⟩ (by omega)
  refine aw_ic_eqT (tgt := 672) dL_law_259 (by decide) ev ?_
  exact J _ _ inv2
set_option maxRecDepth 100000 in
set_option maxHeartbeats 4000000 in
theorem lc_erase (hEN : EN E) (XE : XH (fun a j => eX E (a - 1000) j)) (hL : L = eN E 5) (hL2 : L ≤ 2048) (hI : ∀ j : Nat, InR (eX E 5 j)) (hk : 4 * (k : Int) + 4 ≤ L) (inv : INV hi hr (64 * (k : Int))) (J : ∀ (h2 : HI) (r2 : HR), INV h2 r2 (64 * ((k : Int) + 1)) → AW E M_L_law 131 3697 672 [some (aR 1005), some (aR 0), some (aR 125), some (aI (4 * (k : Int)))] [] h2 r2 131 QL) : AW E M_L_law 131 3697 264 [some (aR 1005), some (aR 0), some (aR 125), some (aI (4 * (k : Int)))] [] hi hr 131 QL := by
  refine aw_st (fun hS => ?_)
  have inv0 := inv
  obtain ⟨⟨q, m, c, e3, hp⟩, ⟨hO, hBK⟩, ht⟩ := inv
  have hM := hO.1
  obtain ⟨m35, m0, m4⟩ := c.2.2.1
  have hHR := c.1
  have hT0 := ht.2.1.1
  have hT1 := ht.2.1.2.1
  refine aw_aload_n dL_law_264 rfl ?_
  refine aw_aload_n dL_law_265 rfl ?_
  refine aw_iload_n dL_law_266 rfl ?_
  refine aw_iconst dL_law_267 ?_
  refine aw_iadd dL_law_268 ?_
  refine aw_iald (N := L) dL_law_269 (Or.inr ⟨5, by decide, rfl, hL⟩) (by omega) (by omega) (by omega) (hS 5 (by decide) _) ?_
  refine aw_V1i dL_law_270 clL_40 ⟨by decide, by decide⟩ (c := 8) (N := 5) (by decide) (by decide +kernel) rfl (c_X8_erase c hO (by omega) (hI _)) (by decide) (by decide) rfl rfl (by simp only [List.length_cons, List.length_nil]; omega) (fun v1 h1 r1 n1 z => ?_)
  obtain ⟨rfl, pq⟩ := z
  have far : ∀ a : Nat, 125 ≤ a → ∀ k : Nat, h1 a k = hi a k := fun a ha k => pq.2.1 a (Or.inr ha) k
  have hR1 : HRk r1 := by obtain ⟨-, -, -, q2, m2, s2, P2, c2, -⟩ := pq; exact c2.1
  have esg : sg h1 = sg hi := sg_eq (far 126 (by decide))
  have f3 : h1 125 3 = m := (far 125 (by decide) 3).trans e3
  refine aw_st (fun hS => ?_)
  refine aw_aload_n dL_law_273 rfl ?_
  refine aw_aload_n dL_law_274 rfl ?_
  refine aw_iload_n dL_law_275 rfl ?_
  refine aw_iconst dL_law_276 ?_
  refine aw_iadd dL_law_277 ?_
  refine aw_iald (N := L) dL_law_278 (Or.inr ⟨5, by decide, rfl, hL⟩) (by omega) (by omega) (by omega) (hS 5 (by decide) _) ?_
  refine aw_V1i dL_law_279 clL_43 ⟨by decide, by decide⟩ (c := 9) (N := 11) (by decide) (by decide +kernel) rfl (by have g := c_X9_erase (E := E) (hi := h1) (hr := r1) hR1 (by rw [esg]; exact hM) (by rw [f3]; omega) (by rw [f3]; omega) (k := (eX E 5 (4 * (k : Int) + 1).toNat)) (hI _); rw [esg] at g; exact g) (by decide) (by decide) rfl rfl (by simp only [List.length_cons, List.length_nil]; omega) (fun v2 h2 r2 n2 z2 => ?_)
  obtain ⟨rfl, rfl, pu⟩ := z2
  refine aw_st (fun hS2 => ?_)
  obtain ⟨ev, inv2⟩ := inv_change (n2 := 64 * ((k : Int) + 1)) c e3 hp ⟨hO, hBK⟩ ht pq pu (xh_of XE hS2) ⟨(hO.er (by omega) _).le (by omega), hBK.er _⟩ (by omega)
  refine aw_ic_eqT (tgt := 672) dL_law_282 (by decide) ev ?_
  exact J _ _ inv2
set_option maxRecDepth 100000 in
set_option maxHeartbeats 4000000 in
theorem lc_slow (hEN : EN E) (XE : XH (fun a j => eX E (a - 1000) j)) (hL : L = eN E 5) (hL2 : L ≤ 2048) (hI : ∀ j : Nat, InR (eX E 5 j)) (hk : 4 * (k : Int) + 4 ≤ L) (inv : INV hi hr (64 * (k : Int))) (J : ∀ (h2 : HI) (r2 : HR), INV h2 r2 (64 * ((k : Int) + 1)) → AW E M_L_law 131 3697 672 [some (aR 1005), some (aR 0), some (aR 125), some (aI (4 * (k : Int)))] [] h2 r2 131 QL) : AW E M_L_law 131 3697 287 [some (aR 1005), some (aR 0), some (aR 125), some (aI (4 * (k : Int)))] [] hi hr 131 QL := by
  refine aw_st (fun hS => ?_)
  have inv0 := inv
  obtain ⟨⟨q, m, c, e3, hp⟩, ⟨hO, hBK⟩, ht⟩ := inv
  have hM := hO.1
  obtain ⟨m35, m0, m4⟩ := c.2.2.1
  have hHR := c.1
  have hT0 := ht.2.1.1
  have hT1 := ht.2.1.2.1
  refine aw_aload_n dL_law_287 rfl ?_
  refine aw_aload_n dL_law_288 rfl ?_
  refine aw_iload_n dL_law_289 rfl ?_
  refine aw_iconst dL_law_290 ?_
  refine aw_iadd dL_law_291 ?_
  refine aw_iald (N := L) dL_law_292 (Or.inr ⟨5, by decide, rfl, hL⟩) (by omega) (by omega) (by omega) (hS 5 (by decide) _) ?_
  refine aw_aload_n dL_law_293 rfl ?_
  refine aw_iload_n dL_law_294 rfl ?_
  refine aw_iconst dL_law_295 ?_
  refine aw_iadd dL_law_296 ?_
  refine aw_iald (N := L) dL_law_297 (Or.inr ⟨5, by decide, rfl, hL⟩) (by omega) (by omega) (by omega) (hS 5 (by decide) _) ?_
  refine aw_V2i dL_law_298 clL_44 ⟨by decide, by decide⟩ (c := 8) (N := 5) (by decide) (by decide +kernel) rfl (c_X8_slow c (hI _) (hI _)) (by decide) (by decide) rfl rfl (by simp only [List.length_cons, List.length_nil]; omega) (fun v1 h1 r1 n1 z => ?_)
  obtain ⟨rfl, pq⟩ := z
  have far : ∀ a : Nat, 125 ≤ a → ∀ k : Nat, h1 a k = hi a k := fun a ha k => pq.2.1 a (Or.inr ha) k
  have hR1 : HRk r1 := by obtain ⟨-, -, -, q2, m2, s2, P2, c2, -⟩ := pq; exact c2.1
  have esg : sg h1 = sg hi := sg_eq (far 126 (by decide))
  have f3 : h1 125 3 = m := (far 125 (by decide) 3).trans e3
  refine aw_st (fun hS => ?_)
  refine aw_aload_n dL_law_301 rfl ?_
  refine aw_aload_n dL_law_302 rfl ?_
  refine aw_iload_n dL_law_303 rfl ?_
  refine aw_iconst dL_law_304 ?_
  refine aw_iadd dL_law_305 ?_
  refine aw_iald (N := L) dL_law_306 (Or.inr ⟨5, by decide, rfl, hL⟩) (by omega) (by omega) (by omega) (hS 5 (by decide) _) ?_
  refine aw_aload_n dL_law_307 rfl ?_
  refine aw_iload_n dL_law_308 rfl ?_
  refine aw_iconst dL_law_309 ?_
  refine aw_iadd dL_law_310 ?_
  refine aw_iald (N := L) dL_law_311 (Or.inr ⟨5, by decide, rfl, hL⟩) (by omega) (by omega) (by omega) (hS 5 (by decide) _) ?_
  refine aw_V2i dL_law_312 clL_48 ⟨by decide, by decide⟩ (c := 9) (N := 11) (by decide) (by decide +kernel) rfl (by have g := c_X9_slow (E := E) (hi := h1) (hr := r1) hR1 (by rw [esg]; exact hM) (by rw [f3]; omega) (by rw [f3]; omega) (w := (eX E 5 (4 * (k : Int) + 1).toNat)) (t := (eX E 5 (4 * (k : Int) + 2).toNat)) (hI _) (hI _); rw [esg] at g; exact g) (by decide) (by decide) rfl rfl (by simp only [List.length_cons, List.length_nil]; omega) (fun v2 h2 r2 n2 z2 => ?_)
  obtain ⟨rfl, rfl, pu⟩ := z2
  refine aw_st (fun hS2 => ?_)
  obtain ⟨ev, inv2⟩ := inv_change (n2 := 64 * ((k : Int) + 1)) c e3 hp ⟨hO, hBK⟩ ht pq pu (xh_of XE hS2) ⟨(hO.sl _ _).le (by omega), hBK.sl _ _⟩ (by omega)
  refine aw_ic_eqT (tgt := 672) dL_law_315 (by decide) ev ?_
  exact J _ _ inv2
set_option maxRecDepth 100000 in
set_option maxHeartbeats 4000000 in
theorem lc_set (hEN : EN E) (XE : XH (fun a j => eX E (a - 1000) j)) (hL : L = eN E 5) (hL2 : L ≤ 2048) (hI : ∀ j : Nat, InR (eX E 5 j)) (hk : 4 * (k : Int) + 4 ≤ L) (inv : INV hi hr (64 * (k : Int))) (J : ∀ (h2 : HI) (r2 : HR), INV h2 r2 (64 * ((k : Int) + 1)) → AW E M_L_law 131 3697 672 [some (aR 1005), some (aR 0), some (aR 125), some (aI (4 * (k : Int)))] [] h2 r2 131 QL) : AW E M_L_law 131 3697 320 [some (aR 1005), some (aR 0), some (aR 125), some (aI (4 * (k : Int)))] [] hi hr 131 QL := by
  refine aw_st (fun hS => ?_)
  have inv0 := inv
  obtain ⟨⟨q, m, c, e3, hp⟩, ⟨hO, hBK⟩, ht⟩ := inv
  have hM := hO.1
  obtain ⟨m35, m0, m4⟩ := c.2.2.1
  have hHR := c.1
  have hT0 := ht.2.1.1
  have hT1 := ht.2.1.2.1
  refine aw_aload_n dL_law_320 rfl ?_
  refine aw_aload_n dL_law_321 rfl ?_
  refine aw_iload_n dL_law_322 rfl ?_
  refine aw_iconst dL_law_323 ?_
  refine aw_iadd dL_law_324 ?_
  refine aw_iald (N := L) dL_law_325 (Or.inr ⟨5, by decide, rfl, hL⟩) (by omega) (by omega) (by omega) (hS 5 (by decide) _) ?_
  refine aw_aload_n dL_law_326 rfl ?_
  refine aw_iload_n dL_law_327 rfl ?_
  refine aw_iconst dL_law_328 ?_
  refine aw_iadd dL_law_329 ?_
  refine aw_iald (N := L) dL_law_330 (Or.inr ⟨5, by decide, rfl, hL⟩) (by omega) (by omega) (by omega) (hS 5 (by decide) _) ?_
  refine aw_V2i dL_law_331 clL_49 ⟨by decide, by decide⟩ (c := 8) (N := 5) (by decide) (by decide +kernel) rfl (c_X8_set c hEN (hI _) (hI _)) (by decide) (by decide) rfl rfl (by simp only [List.length_cons, List.length_nil]; omega) (fun v1 h1 r1 n1 z => ?_)
  obtain ⟨rfl, pq⟩ := z
  have far : ∀ a : Nat, 125 ≤ a → ∀ k : Nat, h1 a k = hi a k := fun a ha k => pq.2.1 a (Or.inr ha) k
  have hR1 : HRk r1 := by obtain ⟨-, -, -, q2, m2, s2, P2, c2, -⟩ := pq; exact c2.1
  have esg : sg h1 = sg hi := sg_eq (far 126 (by decide))
  have f3 : h1 125 3 = m := (far 125 (by decide) 3).trans e3
  refine aw_st (fun hS => ?_)
  refine aw_aload_n dL_law_334 rfl ?_
  refine aw_aload_n dL_law_335 rfl ?_
  refine aw_iload_n dL_law_336 rfl ?_
  refine aw_iconst dL_law_337 ?_
  refine aw_iadd dL_law_338 ?_
  refine aw_iald (N := L) dL_law_339 (Or.inr ⟨5, by decide, rfl, hL⟩) (by omega) (by omega) (by omega) (hS 5 (by decide) _) ?_
  refine aw_aload_n dL_law_340 rfl ?_
  refine aw_iload_n dL_law_341 rfl ?_
  refine aw_iconst dL_law_342 ?_
  refine aw_iadd dL_law_343 ?_
  refine aw_iald (N := L) dL_law_344 (Or.inr ⟨5, by decide, rfl, hL⟩) (by omega) (by omega) (by omega) (hS 5 (by decide) _) ?_
  refine aw_V2i dL_law_345 clL_52 ⟨by decide, by decide⟩ (c := 9) (N := 11) (by decide) (by decide +kernel) rfl (by have g := c_X9_set (E := E) (hi := h1) (hr := r1) hR1 (by rw [esg]; exact hM) (by rw [f3]; omega) (by rw [f3]; omega) (w := (eX E 5 (4 * (k : Int) + 1).toNat)) (t := (eX E 5 (4 * (k : Int) + 2).toNat)) (hI _) (hI _); rw [esg] at g; exact g) (by decide) (by decide) rfl rfl (by simp only [List.length_cons, List.length_nil]; omega) (fun v2 h2 r2 n2 z2 => ?_)
  obtain ⟨rfl, rfl, pu⟩ := z2
  refine aw_st (fun hS2 => ?_)
  obtain ⟨ev, inv2⟩ := inv_change (n2 := 64 * ((k : Int) + 1)) c e3 hp ⟨hO, hBK⟩ ht pq pu (xh_of XE hS2) ⟨(hO.se _ _).le (by omega), hBK.se _ _⟩ (by omega)
  refine aw_ic_eqT (tgt := 672) dL_law_348 (by decide) ev ?_
  exact J _ _ inv2
set_option maxRecDepth 100000 in
set_option maxHeartbeats 4000000 in
theorem lc_read (hEN : EN E) (XE : XH (fun a j => eX E (a - 1000) j)) (hL : L = eN E 5) (hL2 : L ≤ 2048) (hI : ∀ j : Nat, InR (eX E 5 j)) (hk : 4 * (k : Int) + 4 ≤ L) (inv : INV hi hr (64 * (k : Int))) (J : ∀ (h2 : HI) (r2 : HR), INV h2 r2 (64 * ((k : Int) + 1)) → AW E M_L_law 131 3697 672 [some (aR 1005), some (aR 0), some (aR 125), some (aI (4 * (k : Int)))] [] h2 r2 131 QL) : AW E M_L_law 131 3697 353 [some (aR 1005), some (aR 0), some (aR 125), some (aI (4 * (k : Int)))] [] hi hr 131 QL := by
  refine aw_st (fun hS => ?_)
  have inv0 := inv
  obtain ⟨⟨q, m, c, e3, hp⟩, ⟨hO, hBK⟩, ht⟩ := inv
  have hM := hO.1
  obtain ⟨m35, m0, m4⟩ := c.2.2.1
  have hHR := c.1
  have hT0 := ht.2.1.1
  have hT1 := ht.2.1.2.1
  refine aw_aload_n dL_law_353 rfl ?_
  refine aw_aload_n dL_law_354 rfl ?_
  refine aw_iload_n dL_law_355 rfl ?_
  refine aw_iconst dL_law_356 ?_
  refine aw_iadd dL_law_357 ?_
  refine aw_iald (N := L) dL_law_358 (Or.inr ⟨5, by decide, rfl, hL⟩) (by omega) (by omega) (by omega) (hS 5 (by decide) _) ?_
  refine aw_V1x dL_law_359 clL_53 ⟨by decide, by decide⟩ (c := 8) (N := 5) (by decide) (by decide +kernel) rfl (c_X8_read c (hI _)) (by decide) (by decide) rfl rfl (by simp only [List.length_cons, List.length_nil]; omega) ?_
  refine aw_aload_n dL_law_362 rfl ?_
  refine aw_aload_n dL_law_363 rfl ?_
  refine aw_iload_n dL_law_364 rfl ?_
  refine aw_iconst dL_law_365 ?_
  refine aw_iadd dL_law_366 ?_
  refine aw_iald (N := L) dL_law_367 (Or.inr ⟨5, by decide, rfl, hL⟩) (by omega) (by omega) (by omega) (hS 5 (by decide) _) ?_
  refine aw_V1x dL_law_368 clL_56 ⟨by decide, by decide⟩ (c := 9) (N := 11) (by decide) (by decide +kernel) rfl (by have g := c_X9_read (E := E) (hi := hi) (hr := hr) (s := sg hi) hHR hM (key := (eX E 5 (4 * (k : Int) + 1).toNat)) (hI _); rw [pa_self] at g; exact g) (by decide) (by decide) rfl rfl (by simp only [List.length_cons, List.length_nil]; omega) ?_
  refine aw_ic_eqT (tgt := 672) dL_law_371 (by decide) rfl ?_
  exact J _ _ (inv0.le (by omega))
set_option maxRecDepth 100000 in
set_option maxHeartbeats 4000000 in
theorem lc_placeOf (hEN : EN E) (XE : XH (fun a j => eX E (a - 1000) j)) (hL : L = eN E 5) (hL2 : L ≤ 2048) (hI : ∀ j : Nat, InR (eX E 5 j)) (hk : 4 * (k : Int) + 4 ≤ L) (inv : INV hi hr (64 * (k : Int))) (J : ∀ (h2 : HI) (r2 : HR), INV h2 r2 (64 * ((k : Int) + 1)) → AW E M_L_law 131 3697 672 [some (aR 1005), some (aR 0), some (aR 125), some (aI (4 * (k : Int)))] [] h2 r2 131 QL) : AW E M_L_law 131 3697 376 [some (aR 1005), some (aR 0), some (aR 125), some (aI (4 * (k : Int)))] [] hi hr 131 QL := by
  refine aw_st (fun hS => ?_)
  have inv0 := inv
  obtain ⟨⟨q, m, c, e3, hp⟩, ⟨hO, hBK⟩, ht⟩ := inv
  have hM := hO.1
  obtain ⟨m35, m0, m4⟩ := c.2.2.1
  have hHR := c.1
  have hT0 := ht.2.1.1
  have hT1 := ht.2.1.2.1
  refine aw_aload_n dL_law_376 rfl ?_
  refine aw_aload_n dL_law_377 rfl ?_
  refine aw_iload_n dL_law_378 rfl ?_
  refine aw_iconst dL_law_379 ?_
  refine aw_iadd dL_law_380 ?_
  refine aw_iald (N := L) dL_law_381 (Or.inr ⟨5, by decide, rfl, hL⟩) (by omega) (by omega) (by omega) (hS 5 (by decide) _) ?_
  refine aw_aload_n dL_law_382 rfl ?_
  refine aw_iload_n dL_law_383 rfl ?_
  refine aw_iconst dL_law_384 ?_
  refine aw_iadd dL_law_385 ?_
  refine aw_iald (N := L) dL_law_386 (Or.inr ⟨5, by decide, rfl, hL⟩) (by omega) (by omega) (by omega) (hS 5 (by decide) _) ?_
  refine aw_V2x dL_law_387 clL_57 ⟨by decide, by decide⟩ (c := 8) (N := 5) (by decide) (by decide +kernel) rfl (c_X8_placeOf c (hI _) (hI _)) (by decide) (by decide) rfl rfl (by simp only [List.length_cons, List.length_nil]; omega) ?_
  refine aw_aload_n dL_law_390 rfl ?_
  refine aw_aload_n dL_law_391 rfl ?_
  refine aw_iload_n dL_law_392 rfl ?_
  refine aw_iconst dL_law_393 ?_
  refine aw_iadd dL_law_394 ?_
  refine aw_iald (N := L) dL_law_395 (Or.inr ⟨5, by decide, rfl, hL⟩) (by omega) (by omega) (by omega) (hS 5 (by decide) _) ?_
  refine aw_aload_n dL_law_396 rfl ?_
  refine aw_iload_n dL_law_397 rfl ?_
  refine aw_iconst dL_law_398 ?_
  refine aw_iadd dL_law_399 ?_
  refine aw_iald (N := L) dL_law_400 (Or.inr ⟨5, by decide, rfl, hL⟩) (by omega) (by omega) (by omega) (hS 5 (by decide) _) ?_
  refine aw_V2x dL_law_401 clL_60 ⟨by decide, by decide⟩ (c := 9) (N := 11) (by decide) (by decide +kernel) rfl (by have g := c_X9_placeOf (E := E) (hi := hi) (hr := hr) (s := sg hi) hHR hM (key := (eX E 5 (4 * (k : Int) + 1).toNat)) (w := (eX E 5 (4 * (k : Int) + 2).toNat)) (hI _) (hI _); rw [pa_self] at g; exact g) (by decide) (by decide) rfl rfl (by simp only [List.length_cons, List.length_nil]; omega) ?_
  refine aw_ic_eqT (tgt := 672) dL_law_404 (by decide) rfl ?_
  exact J _ _ (inv0.le (by omega))
set_option maxRecDepth 100000 in
set_option maxHeartbeats 4000000 in
theorem lc_pageOf (hEN : EN E) (XE : XH (fun a j => eX E (a - 1000) j)) (hL : L = eN E 5) (hL2 : L ≤ 2048) (hI : ∀ j : Nat, InR (eX E 5 j)) (hk : 4 * (k : Int) + 4 ≤ L) (inv : INV hi hr (64 * (k : Int))) (J : ∀ (h2 : HI) (r2 : HR), INV h2 r2 (64 * ((k : Int) + 1)) → AW E M_L_law 131 3697 672 [some (aR 1005), some (aR 0), some (aR 125), some (aI (4 * (k : Int)))] [] h2 r2 131 QL) : AW E M_L_law 131 3697 409 [some (aR 1005), some (aR 0), some (aR 125), some (aI (4 * (k : Int)))] [] hi hr 131 QL := by
  refine aw_st (fun hS => ?_)
  have inv0 := inv
  obtain ⟨⟨q, m, c, e3, hp⟩, ⟨hO, hBK⟩, ht⟩ := inv
  have hM := hO.1
  obtain ⟨m35, m0, m4⟩ := c.2.2.1
  have hHR := c.1
  have hT0 := ht.2.1.1
  have hT1 := ht.2.1.2.1
  refine aw_aload_n dL_law_409 rfl ?_
  refine aw_aload_n dL_law_410 rfl ?_
  refine aw_iload_n dL_law_411 rfl ?_
  refine aw_iconst dL_law_412 ?_
  refine aw_iadd dL_law_413 ?_
  refine aw_iald (N := L) dL_law_414 (Or.inr ⟨5, by decide, rfl, hL⟩) (by omega) (by omega) (by omega) (hS 5 (by decide) _) ?_
  refine aw_aload_n dL_law_415 rfl ?_
  refine aw_iload_n dL_law_416 rfl ?_
  refine aw_iconst dL_law_417 ?_
  refine aw_iadd dL_law_418 ?_
  refine aw_iald (N := L) dL_law_419 (Or.inr ⟨5, by decide, rfl, hL⟩) (by omega) (by omega) (by omega) (hS 5 (by decide) _) ?_
  refine aw_aload_n dL_law_420 rfl ?_
  refine aw_iload_n dL_law_421 rfl ?_
  refine aw_iconst dL_law_422 ?_
  refine aw_iadd dL_law_423 ?_
  refine aw_iald (N := L) dL_law_424 (Or.inr ⟨5, by decide, rfl, hL⟩) (by omega) (by omega) (by omega) (hS 5 (by decide) _) ?_
  refine aw_V3x dL_law_425 clL_61 ⟨by decide, by decide⟩ (c := 8) (N := 5) (by decide) (by decide +kernel) rfl (c_X8_pageOf c hEN (hI _) (hI _) (hI _)) (by decide) (by decide) rfl rfl (by simp only [List.length_cons, List.length_nil]; omega) ?_
  refine aw_aload_n dL_law_428 rfl ?_
  refine aw_aload_n dL_law_429 rfl ?_
  refine aw_iload_n dL_law_430 rfl ?_
  refine aw_iconst dL_law_431 ?_
  refine aw_iadd dL_law_432 ?_
  refine aw_iald (N := L) dL_law_433 (Or.inr ⟨5, by decide, rfl, hL⟩) (by omega) (by omega) (by omega) (hS 5 (by decide) _) ?_
  refine aw_aload_n dL_law_434 rfl ?_
  refine aw_iload_n dL_law_435 rfl ?_
  refine aw_iconst dL_law_436 ?_
  refine aw_iadd dL_law_437 ?_
  refine aw_iald (N := L) dL_law_438 (Or.inr ⟨5, by decide, rfl, hL⟩) (by omega) (by omega) (by omega) (hS 5 (by decide) _) ?_
  refine aw_aload_n dL_law_439 rfl ?_
  refine aw_iload_n dL_law_440 rfl ?_
  refine aw_iconst dL_law_441 ?_
  refine aw_iadd dL_law_442 ?_
  refine aw_iald (N := L) dL_law_443 (Or.inr ⟨5, by decide, rfl, hL⟩) (by omega) (by omega) (by omega) (hS 5 (by decide) _) ?_
  refine aw_V3x dL_law_444 clL_64 ⟨by decide, by decide⟩ (c := 9) (N := 11) (by decide) (by decide +kernel) rfl (by have g := c_X9_pageOf (E := E) (hi := hi) (hr := hr) (s := sg hi) hHR hM (b0 := (eX E 5 (4 * (k : Int) + 1).toNat)) (p0 := (eX E 5 (4 * (k : Int) + 2).toNat)) (w := (eX E 5 (4 * (k : Int) + 3).toNat)) (hI _) (hI _) (hI _); rw [pa_self] at g; exact g) (by decide) (by decide) rfl rfl (by simp only [List.length_cons, List.length_nil]; omega) ?_
  refine aw_ic_eqT (tgt := 672) dL_law_447 (by decide) rfl ?_
  exact J _ _ (inv0.le (by omega))
set_option maxRecDepth 100000 in
set_option maxHeartbeats 4000000 in
theorem lc_backupOf (hEN : EN E) (XE : XH (fun a j => eX E (a - 1000) j)) (hL : L = eN E 5) (hL2 : L ≤ 2048) (hI : ∀ j : Nat, InR (eX E 5 j)) (hk : 4 * (k : Int) + 4 ≤ L) (inv : INV hi hr (64 * (k : Int))) (J : ∀ (h2 : HI) (r2 : HR), INV h2 r2 (64 * ((k : Int) + 1)) → AW E M_L_law 131 3697 672 [some (aR 1005), some (aR 0), some (aR 125), some (aI (4 * (k : Int)))] [] h2 r2 131 QL) : AW E M_L_law 131 3697 452 [some (aR 1005), some (aR 0), some (aR 125), some (aI (4 * (k : Int)))] [] hi hr 131 QL := by
  refine aw_st (fun hS => ?_)
  have inv0 := inv
  obtain ⟨⟨q, m, c, e3, hp⟩, ⟨hO, hBK⟩, ht⟩ := inv
  have hM := hO.1
  obtain ⟨m35, m0, m4⟩ := c.2.2.1
  have hHR := c.1
  have hT0 := ht.2.1.1
  have hT1 := ht.2.1.2.1
  refine aw_aload_n dL_law_452 rfl ?_
  refine aw_aload_n dL_law_453 rfl ?_
  refine aw_iload_n dL_law_454 rfl ?_
  refine aw_iconst dL_law_455 ?_
  refine aw_iadd dL_law_456 ?_
  refine aw_iald (N := L) dL_law_457 (Or.inr ⟨5, by decide, rfl, hL⟩) (by omega) (by omega) (by omega) (hS 5 (by decide) _) ?_
  refine aw_aload_n dL_law_458 rfl ?_
  refine aw_iload_n dL_law_459 rfl ?_
  refine aw_iconst dL_law_460 ?_
  refine aw_iadd dL_law_461 ?_
  refine aw_iald (N := L) dL_law_462 (Or.inr ⟨5, by decide, rfl, hL⟩) (by omega) (by omega) (by omega) (hS 5 (by decide) _) ?_
  refine aw_aload_n dL_law_463 rfl ?_
  refine aw_iload_n dL_law_464 rfl ?_
  refine aw_iconst dL_law_465 ?_
  refine aw_iadd dL_law_466 ?_
  refine aw_iald (N := L) dL_law_467 (Or.inr ⟨5, by decide, rfl, hL⟩) (by omega) (by omega) (by omega) (hS 5 (by decide) _) ?_
  refine aw_V3x dL_law_468 clL_65 ⟨by decide, by decide⟩ (c := 8) (N := 5) (by decide) (by decide +kernel) rfl (c_X8_backupOf c (hI _) (hI _) (hI _)) (by decide) (by decide) rfl rfl (by simp only [List.length_cons, List.length_nil]; omega) ?_
  refine aw_aload_n dL_law_471 rfl ?_
  refine aw_aload_n dL_law_472 rfl ?_
  refine aw_iload_n dL_law_473 rfl ?_
  refine aw_iconst dL_law_474 ?_
  refine aw_iadd dL_law_475 ?_
  refine aw_iald (N := L) dL_law_476 (Or.inr ⟨5, by decide, rfl, hL⟩) (by omega) (by omega) (by omega) (hS 5 (by decide) _) ?_
  refine aw_aload_n dL_law_477 rfl ?_
  refine aw_iload_n dL_law_478 rfl ?_
  refine aw_iconst dL_law_479 ?_
  refine aw_iadd dL_law_480 ?_
  refine aw_iald (N := L) dL_law_481 (Or.inr ⟨5, by decide, rfl, hL⟩) (by omega) (by omega) (by omega) (hS 5 (by decide) _) ?_
  refine aw_aload_n dL_law_482 rfl ?_
  refine aw_iload_n dL_law_483 rfl ?_
  refine aw_iconst dL_law_484 ?_
  refine aw_iadd dL_law_485 ?_
  refine aw_iald (N := L) dL_law_486 (Or.inr ⟨5, by decide, rfl, hL⟩) (by omega) (by omega) (by omega) (hS 5 (by decide) _) ?_
  refine aw_V3x dL_law_487 clL_68 ⟨by decide, by decide⟩ (c := 9) (N := 11) (by decide) (by decide +kernel) rfl (by have g := c_X9_backupOf (E := E) (hi := hi) (hr := hr) (s := sg hi) hHR hM (b0 := (eX E 5 (4 * (k : Int) + 1).toNat)) (p0 := (eX E 5 (4 * (k : Int) + 2).toNat)) (w := (eX E 5 (4 * (k : Int) + 3).toNat)) (hI _) (hI _) (hI _); rw [pa_self] at g; exact g) (by decide) (by decide) rfl rfl (by simp only [List.length_cons, List.length_nil]; omega) ?_
  refine aw_ic_eqT (tgt := 672) dL_law_490 (by decide) rfl ?_
  exact J _ _ (inv0.le (by omega))
set_option maxRecDepth 100000 in
set_option maxHeartbeats 4000000 in
theorem lc_waits (hEN : EN E) (XE : XH (fun a j => eX E (a - 1000) j)) (hL : L = eN E 5) (hL2 : L ≤ 2048) (hI : ∀ j : Nat, InR (eX E 5 j)) (hk : 4 * (k : Int) + 4 ≤ L) (inv : INV hi hr (64 * (k : Int))) (J : ∀ (h2 : HI) (r2 : HR), INV h2 r2 (64 * ((k : Int) + 1)) → AW E M_L_law 131 3697 672 [some (aR 1005), some (aR 0), some (aR 125), some (aI (4 * (k : Int)))] [] h2 r2 131 QL) : AW E M_L_law 131 3697 495 [some (aR 1005), some (aR 0), some (aR 125), some (aI (4 * (k : Int)))] [] hi hr 131 QL := by
  refine aw_st (fun hS => ?_)
  have inv0 := inv
  obtain ⟨⟨q, m, c, e3, hp⟩, ⟨hO, hBK⟩, ht⟩ := inv
  have hM := hO.1
  obtain ⟨m35, m0, m4⟩ := c.2.2.1
  have hHR := c.1
  have hT0 := ht.2.1.1
  have hT1 := ht.2.1.2.1
  refine aw_aload_n dL_law_495 rfl ?_
  refine aw_aload_n dL_law_496 rfl ?_
  refine aw_iload_n dL_law_497 rfl ?_
  refine aw_iconst dL_law_498 ?_
  refine aw_iadd dL_law_499 ?_
  refine aw_iald (N := L) dL_law_500 (Or.inr ⟨5, by decide, rfl, hL⟩) (by omega) (by omega) (by omega) (hS 5 (by decide) _) ?_
  refine aw_aload_n dL_law_501 rfl ?_
  refine aw_iload_n dL_law_502 rfl ?_
  refine aw_iconst dL_law_503 ?_
  refine aw_iadd dL_law_504 ?_
  refine aw_iald (N := L) dL_law_505 (Or.inr ⟨5, by decide, rfl, hL⟩) (by omega) (by omega) (by omega) (hS 5 (by decide) _) ?_
  refine aw_V2x dL_law_506 clL_69 ⟨by decide, by decide⟩ (c := 8) (N := 5) (by decide) (by decide +kernel) rfl (c_X8_waits c (hI _) (hI _)) (by decide) (by decide) rfl rfl (by simp only [List.length_cons, List.length_nil]; omega) ?_
  refine aw_aload_n dL_law_509 rfl ?_
  refine aw_aload_n dL_law_510 rfl ?_
  refine aw_iload_n dL_law_511 rfl ?_
  refine aw_iconst dL_law_512 ?_
  refine aw_iadd dL_law_513 ?_
  refine aw_iald (N := L) dL_law_514 (Or.inr ⟨5, by decide, rfl, hL⟩) (by omega) (by omega) (by omega) (hS 5 (by decide) _) ?_
  refine aw_aload_n dL_law_515 rfl ?_
  refine aw_iload_n dL_law_516 rfl ?_
  refine aw_iconst dL_law_517 ?_
  refine aw_iadd dL_law_518 ?_
  refine aw_iald (N := L) dL_law_519 (Or.inr ⟨5, by decide, rfl, hL⟩) (by omega) (by omega) (by omega) (hS 5 (by decide) _) ?_
  refine aw_V2x dL_law_520 clL_72 ⟨by decide, by decide⟩ (c := 9) (N := 11) (by decide) (by decide +kernel) rfl (by have g := c_X9_waits (E := E) (hi := hi) (hr := hr) (s := sg hi) hHR hM (i := (eX E 5 (4 * (k : Int) + 1).toNat)) (w := (eX E 5 (4 * (k : Int) + 2).toNat)) (hI _) (hI _); rw [pa_self] at g; exact g) (by decide) (by decide) rfl rfl (by simp only [List.length_cons, List.length_nil]; omega) ?_
  refine aw_ic_eqT (tgt := 672) dL_law_523 (by decide) rfl ?_
  exact J _ _ (inv0.le (by omega))
set_option maxRecDepth 100000 in
set_option maxHeartbeats 4000000 in
theorem lc_count (hEN : EN E) (XE : XH (fun a j => eX E (a - 1000) j)) (hL : L = eN E 5) (hL2 : L ≤ 2048) (hI : ∀ j : Nat, InR (eX E 5 j)) (hk : 4 * (k : Int) + 4 ≤ L) (inv : INV hi hr (64 * (k : Int))) (J : ∀ (h2 : HI) (r2 : HR), INV h2 r2 (64 * ((k : Int) + 1)) → AW E M_L_law 131 3697 672 [some (aR 1005), some (aR 0), some (aR 125), some (aI (4 * (k : Int)))] [] h2 r2 131 QL) : AW E M_L_law 131 3697 528 [some (aR 1005), some (aR 0), some (aR 125), some (aI (4 * (k : Int)))] [] hi hr 131 QL := by
  refine aw_st (fun hS => ?_)
  have inv0 := inv
  obtain ⟨⟨q, m, c, e3, hp⟩, ⟨hO, hBK⟩, ht⟩ := inv
  have hM := hO.1
  obtain ⟨m35, m0, m4⟩ := c.2.2.1
  have hHR := c.1
  have hT0 := ht.2.1.1
  have hT1 := ht.2.1.2.1
  refine aw_aload_n dL_law_528 rfl ?_
  refine aw_aload_n dL_law_529 rfl ?_
  refine aw_iload_n dL_law_530 rfl ?_
  refine aw_iconst dL_law_531 ?_
  refine aw_iadd dL_law_532 ?_
  refine aw_iald (N := L) dL_law_533 (Or.inr ⟨5, by decide, rfl, hL⟩) (by omega) (by omega) (by omega) (hS 5 (by decide) _) ?_
  refine aw_V1x dL_law_534 clL_73 ⟨by decide, by decide⟩ (c := 8) (N := 5) (by decide) (by decide +kernel) rfl (by have g := c_X8_count (E := E) (w := (eX E 5 (4 * (k : Int) + 1).toNat)) c hBK (hI _); rw [ht.1, ← e3] at g; exact g) (by decide) (by decide) rfl rfl (by simp only [List.length_cons, List.length_nil]; omega) ?_
  refine aw_aload_n dL_law_537 rfl ?_
  refine aw_aload_n dL_law_538 rfl ?_
  refine aw_iload_n dL_law_539 rfl ?_
  refine aw_iconst dL_law_540 ?_
  refine aw_iadd dL_law_541 ?_
  refine aw_iald (N := L) dL_law_542 (Or.inr ⟨5, by decide, rfl, hL⟩) (by omega) (by omega) (by omega) (hS 5 (by decide) _) ?_
  refine aw_V1x dL_law_543 clL_76 ⟨by decide, by decide⟩ (c := 9) (N := 11) (by decide) (by decide +kernel) rfl (by have g := c_X9_count (E := E) (hi := hi) (hr := hr) (s := sg hi) hHR hM (w := (eX E 5 (4 * (k : Int) + 1).toNat)) (hI _); rw [pa_self] at g; exact g) (by decide) (by decide) rfl rfl (by simp only [List.length_cons, List.length_nil]; omega) ?_
  refine aw_ic_eqT (tgt := 672) dL_law_546 (by decide) rfl ?_
  exact J _ _ (inv0.le (by omega))
set_option maxRecDepth 100000 in
set_option maxHeartbeats 4000000 in
theorem lc_wouldLose (hEN : EN E) (XE : XH (fun a j => eX E (a - 1000) j)) (hL : L = eN E 5) (hL2 : L ≤ 2048) (hI : ∀ j : Nat, InR (eX E 5 j)) (hk : 4 * (k : Int) + 4 ≤ L) (inv : INV hi hr (64 * (k : Int))) (J : ∀ (h2 : HI) (r2 : HR), INV h2 r2 (64 * ((k : Int) + 1)) → AW E M_L_law 131 3697 672 [some (aR 1005), some (aR 0), some (aR 125), some (aI (4 * (k : Int)))] [] h2 r2 131 QL) : AW E M_L_law 131 3697 551 [some (aR 1005), some (aR 0), some (aR 125), some (aI (4 * (k : Int)))] [] hi hr 131 QL := by
  refine aw_st (fun hS => ?_)
  have inv0 := inv
  obtain ⟨⟨q, m, c, e3, hp⟩, ⟨hO, hBK⟩, ht⟩ := inv
  have hM := hO.1
  obtain ⟨m35, m0, m4⟩ := c.2.2.1
  have hHR := c.1
  have hT0 := ht.2.1.1
  have hT1 := ht.2.1.2.1
  have hB : BIG = 1000000 := rfl
  have h9 := hO.L
  have hmu : sg hi 0 + mu (sg hi) < BIG := by
    have a1 := hM.2.2.1
    have a2 := hO.2.2.2.2.1
    have a3 := hO.2.2.2.2.2
    unfold mu
    omega
  refine aw_aload_n dL_law_551 rfl ?_
  refine aw_aload_n dL_law_552 rfl ?_
  refine aw_iload_n dL_law_553 rfl ?_
  refine aw_iconst dL_law_554 ?_
  refine aw_iadd dL_law_555 ?_
  refine aw_iald (N := L) dL_law_556 (Or.inr ⟨5, by decide, rfl, hL⟩) (by omega) (by omega) (by omega) (hS 5 (by decide) _) ?_
  refine aw_V1i dL_law_557 clL_77 ⟨by decide, by decide⟩ (c := 8) (N := 5) (by decide) (by decide +kernel) rfl (c_X8_wouldLose c hEN hO (hI _)) (by decide) (by decide) rfl rfl (by simp only [List.length_cons, List.length_nil]; omega) (fun v1 h1 r1 n1 z => ?_)
  obtain ⟨rfl, rfl, rfl, pk⟩ := z
  have far : ∀ a : Nat, 125 ≤ a → ∀ k : Nat, h1 a k = hi a k := fun a ha k => pk.1 a (by omega) (by omega) (by omega) k
  have esg : sg h1 = sg hi := sg_eq (far 126 (by decide))
  have f3 : h1 125 3 = m := (far 125 (by decide) 3).trans e3
  refine aw_st (fun hS => ?_)
  refine aw_aload_n dL_law_560 rfl ?_
  refine aw_aload_n dL_law_561 rfl ?_
  refine aw_iload_n dL_law_562 rfl ?_
  refine aw_iconst dL_law_563 ?_
  refine aw_iadd dL_law_564 ?_
  refine aw_iald (N := L) dL_law_565 (Or.inr ⟨5, by decide, rfl, hL⟩) (by omega) (by omega) (by omega) (hS 5 (by decide) _) ?_
  refine aw_V1i dL_law_566 clL_80 ⟨by decide, by decide⟩ (c := 9) (N := 11) (by decide) (by decide +kernel) rfl (by have g := c_X9_wouldLose (E := E) (hi := h1) (t := (eX E 5 (4 * (k : Int) + 1).toNat)) hHR (by rw [esg]; exact hM) (by rw [esg]; omega) (hI _); rw [esg] at g; exact g) (by decide) (by decide) rfl rfl (by simp only [List.length_cons, List.length_nil]; omega) (fun v2 h2 r2 n2 z2 => ?_)
  obtain ⟨rfl, rfl, rfl, pu⟩ := z2
  refine aw_st (fun hS2 => ?_)
  have inv2 := inv_keep (n2 := 64 * ((k : Int) + 1)) inv0 pk pu (xh_of XE hS2) (by omega)
  refine aw_ic_eqT (tgt := 672) dL_law_569 (by decide) rfl ?_
  exact J _ _ inv2
set_option maxRecDepth 100000 in
set_option maxHeartbeats 4000000 in
theorem lc_doneIn (hEN : EN E) (XE : XH (fun a j => eX E (a - 1000) j)) (hL : L = eN E 5) (hL2 : L ≤ 2048) (hI : ∀ j : Nat, InR (eX E 5 j)) (hk : 4 * (k : Int) + 4 ≤ L) (inv : INV hi hr (64 * (k : Int))) (J : ∀ (h2 : HI) (r2 : HR), INV h2 r2 (64 * ((k : Int) + 1)) → AW E M_L_law 131 3697 672 [some (aR 1005), some (aR 0), some (aR 125), some (aI (4 * (k : Int)))] [] h2 r2 131 QL) : AW E M_L_law 131 3697 574 [some (aR 1005), some (aR 0), some (aR 125), some (aI (4 * (k : Int)))] [] hi hr 131 QL := by
  refine aw_st (fun hS => ?_)
  have inv0 := inv
  obtain ⟨⟨q, m, c, e3, hp⟩, ⟨hO, hBK⟩, ht⟩ := inv
  have hM := hO.1
  obtain ⟨m35, m0, m4⟩ := c.2.2.1
  have hHR := c.1
  have hT0 := ht.2.1.1
  have hT1 := ht.2.1.2.1
  have hB : BIG = 1000000 := rfl
  have h9 := hO.L
  have hmu : sg hi 0 + mu (sg hi) < BIG := by
    have a1 := hM.2.2.1
    have a2 := hO.2.2.2.2.1
    have a3 := hO.2.2.2.2.2
    unfold mu
    omega
  refine aw_aload_n dL_law_574 rfl ?_
  refine aw_V0i dL_law_575 clL_81 ⟨by decide, by decide⟩ (c := 8) (N := 5) (by decide) (by decide +kernel) rfl (c_X8_doneIn c hEN hO ) (by decide) (by decide) rfl rfl (by simp only [List.length_cons, List.length_nil]; omega) (fun v1 h1 r1 n1 z => ?_)
  obtain ⟨rfl, rfl, rfl, pk⟩ := z
  have far : ∀ a : Nat, 125 ≤ a → ∀ k : Nat, h1 a k = hi a k := fun a ha k => pk.1 a (by omega) (by omega) (by omega) k
  have esg : sg h1 = sg hi := sg_eq (far 126 (by decide))
  have f3 : h1 125 3 = m := (far 125 (by decide) 3).trans e3
  refine aw_st (fun hS => ?_)
  refine aw_aload_n dL_law_578 rfl ?_
  refine aw_V0i dL_law_579 clL_84 ⟨by decide, by decide⟩ (c := 9) (N := 11) (by decide) (by decide +kernel) rfl (by have g := c_X9_doneIn (E := E) (hi := h1) hHR (by rw [esg]; exact hM) (by rw [esg]; exact hO.2.2.2.2) (by rw [esg]; exact hmu); rw [esg] at g; exact g) (by decide) (by decide) rfl rfl (by simp only [List.length_cons, List.length_nil]; omega) (fun v2 h2 r2 n2 z2 => ?_)
  obtain ⟨rfl, rfl, rfl, pu⟩ := z2
  refine aw_st (fun hS2 => ?_)
  have inv2 := inv_keep (n2 := 64 * ((k : Int) + 1)) inv0 pk pu (xh_of XE hS2) (by omega)
  refine aw_ic_eqT (tgt := 672) dL_law_582 (by decide) rfl ?_
  exact J _ _ inv2
set_option maxRecDepth 100000 in
set_option maxHeartbeats 4000000 in
theorem lc_fault (hEN : EN E) (XE : XH (fun a j => eX E (a - 1000) j)) (hL : L = eN E 5) (hL2 : L ≤ 2048) (hI : ∀ j : Nat, InR (eX E 5 j)) (hk : 4 * (k : Int) + 4 ≤ L) (inv : INV hi hr (64 * (k : Int))) (J : ∀ (h2 : HI) (r2 : HR), INV h2 r2 (64 * ((k : Int) + 1)) → AW E M_L_law 131 3697 672 [some (aR 1005), some (aR 0), some (aR 125), some (aI (4 * (k : Int)))] [] h2 r2 131 QL) : AW E M_L_law 131 3697 636 [some (aR 1005), some (aR 0), some (aR 125), some (aI (4 * (k : Int)))] [] hi hr 131 QL := by
  refine aw_st (fun hS => ?_)
  have inv0 := inv
  obtain ⟨⟨q, m, c, e3, hp⟩, ⟨hO, hBK⟩, ht⟩ := inv
  have hM := hO.1
  obtain ⟨m35, m0, m4⟩ := c.2.2.1
  have hHR := c.1
  have hT0 := ht.2.1.1
  have hT1 := ht.2.1.2.1
  have hB : BIG = 1000000 := rfl
  have h9 := hO.L
  have hmu : sg hi 0 + mu (sg hi) < BIG := by
    have a1 := hM.2.2.1
    have a2 := hO.2.2.2.2.1
    have a3 := hO.2.2.2.2.2
    unfold mu
    omega
  refine aw_aload_n dL_law_636 rfl ?_
  refine aw_aload_n dL_law_637 rfl ?_
  refine aw_iload_n dL_law_638 rfl ?_
  refine aw_iconst dL_law_639 ?_
  refine aw_iadd dL_law_640 ?_
  refine aw_iald (N := L) dL_law_641 (Or.inr ⟨5, by decide, rfl, hL⟩) (by omega) (by omega) (by omega) (hS 5 (by decide) _) ?_
  refine aw_V1i dL_law_642 clL_97 ⟨by decide, by decide⟩ (c := 8) (N := 5) (by decide) (by decide +kernel) rfl (c_X8_fault c hEN hO (by omega) (len := hi 125 5) (G := tg hi) (t0 := hi 125 9) (m0 := hi 125 10) ht.2.2 ht.2.1 ht.1 (hI _)) (by decide) (by decide) rfl rfl (by simp only [List.length_cons, List.length_nil]; omega) (fun v1 h1 r1 n1 z => ?_)
  obtain ⟨rfl, rfl, rfl, pk⟩ := z
  have far : ∀ a : Nat, 125 ≤ a → ∀ k : Nat, h1 a k = hi a k := fun a ha k => pk.1 a (by omega) (by omega) (by omega) k
  have esg : sg h1 = sg hi := sg_eq (far 126 (by decide))
  have f3 : h1 125 3 = m := (far 125 (by decide) 3).trans e3
  refine aw_st (fun hS => ?_)
  refine aw_aload_n dL_law_645 rfl ?_
  refine aw_aload_n dL_law_646 rfl ?_
  refine aw_iload_n dL_law_647 rfl ?_
  refine aw_iconst dL_law_648 ?_
  refine aw_iadd dL_law_649 ?_
  refine aw_iald (N := L) dL_law_650 (Or.inr ⟨5, by decide, rfl, hL⟩) (by omega) (by omega) (by omega) (hS 5 (by decide) _) ?_
  refine aw_V1i dL_law_651 clL_100 ⟨by decide, by decide⟩ (c := 9) (N := 11) (by decide) (by decide +kernel) rfl (by have g := c_X9_fault (E := E) (hi := h1) (w := (eX E 5 (4 * (k : Int) + 1).toNat)) hHR (hI _) (by rw [tg_eq (fun k => far 129 (by decide) k), far 125 (by decide)]; exact ht.2.1) (by rw [esg]; exact hO) (by omega); rw [tg_eq (fun k => far 129 (by decide) k), esg, far 125 (by decide), far 125 (by decide), far 125 (by decide)] at g; exact g) (by decide) (by decide) rfl rfl (by simp only [List.length_cons, List.length_nil]; omega) (fun v2 h2 r2 n2 z2 => ?_)
  obtain ⟨rfl, rfl, rfl, pu⟩ := z2
  refine aw_st (fun hS2 => ?_)
  have inv2 := inv_keep (n2 := 64 * ((k : Int) + 1)) inv0 pk pu (xh_of XE hS2) (by omega)
  refine aw_ic_eqT (tgt := 672) dL_law_654 (by decide) rfl ?_
  exact J _ _ inv2
set_option maxRecDepth 100000 in
set_option maxHeartbeats 4000000 in
theorem lc_play (hEN : EN E) (XE : XH (fun a j => eX E (a - 1000) j)) (hL : L = eN E 5) (hL2 : L ≤ 2048) (hI : ∀ j : Nat, InR (eX E 5 j)) (hk : 4 * (k : Int) + 4 ≤ L) (inv : INV hi hr (64 * (k : Int))) (J : ∀ (h2 : HI) (r2 : HR), INV h2 r2 (64 * ((k : Int) + 1)) → AW E M_L_law 131 3697 672 [some (aR 1005), some (aR 0), some (aR 125), some (aI (4 * (k : Int)))] [] h2 r2 131 QL) : AW E M_L_law 131 3697 659 [some (aR 1005), some (aR 0), some (aR 125), some (aI (4 * (k : Int)))] [] hi hr 131 QL := by
  refine aw_st (fun hS => ?_)
  have inv0 := inv
  obtain ⟨⟨q, m, c, e3, hp⟩, ⟨hO, hBK⟩, ht⟩ := inv
  have hM := hO.1
  obtain ⟨m35, m0, m4⟩ := c.2.2.1
  have hHR := c.1
  have hT0 := ht.2.1.1
  have hT1 := ht.2.1.2.1
  have hB : BIG = 1000000 := rfl
  have h9 := hO.L
  have hmu : sg hi 0 + mu (sg hi) < BIG := by
    have a1 := hM.2.2.1
    have a2 := hO.2.2.2.2.1
    have a3 := hO.2.2.2.2.2
    unfold mu
    omega
  refine aw_aload_n dL_law_659 rfl ?_
  refine aw_V0i dL_law_660 clL_101 ⟨by decide, by decide⟩ (c := 8) (N := 5) (by decide) (by decide +kernel) rfl (c_X8_play c hEN hO (by omega) (len := hi 125 5) (G := tg hi) (t0 := hi 125 9) (m0 := hi 125 10) ht.2.2 ht.2.1 ht.1 ) (by decide) (by decide) rfl rfl (by simp only [List.length_cons, List.length_nil]; omega) (fun v1 h1 r1 n1 z => ?_)
  obtain ⟨rfl, pq⟩ := z
  have far : ∀ a : Nat, 125 ≤ a → ∀ k : Nat, h1 a k = hi a k := fun a ha k => pq.2.1 a (Or.inr ha) k
  have hR1 : HRk r1 := by obtain ⟨-, -, -, q2, m2, s2, P2, c2, -⟩ := pq; exact c2.1
  have esg : sg h1 = sg hi := sg_eq (far 126 (by decide))
  have f3 : h1 125 3 = m := (far 125 (by decide) 3).trans e3
  refine aw_st (fun hS => ?_)
  refine aw_aload_n dL_law_663 rfl ?_
  refine aw_V0i dL_law_664 clL_104 ⟨by decide, by decide⟩ (c := 9) (N := 11) (by decide) (by decide +kernel) rfl (by have g := c_X9_play (E := E) (hi := h1) (hr := r1) hR1 (by rw [f3]; omega) (by rw [f3]; omega) (by rw [tg_eq (fun k => far 129 (by decide) k), far 125 (by decide)]; exact ht.2.1) (by rw [esg]; exact hO) (by omega); rw [tg_eq (fun k => far 129 (by decide) k), far 125 (by decide) 5, far 125 (by decide) 9, far 125 (by decide) 10] at g; rw [esg] at g; exact g) (by decide) (by decide) rfl rfl (by simp only [List.length_cons, List.length_nil]; omega) (fun v2 h2 r2 n2 z2 => ?_)
  obtain ⟨rfl, rfl, pu⟩ := z2
  refine aw_st (fun hS2 => ?_)
  obtain ⟨ev, inv2⟩ := inv_change (n2 := 64 * ((k : Int) + 1)) c e3 hp ⟨hO, hBK⟩ ht pq pu (xh_of XE hS2) ⟨((doA_b (G := tg hi) (len := hi 125 5) 61 (sg hi) 0 0 (hi 125 9) (hi 125 10) _ hO (by omega) (by decide) (by decide) (Or.inr (Or.inr trivial))).1).le (by omega), BK.doA 61 (sg hi) 0 0 _ _ _ hO (by omega) hBK⟩ (by omega)
  refine aw_ic_eqT (tgt := 672) dL_law_667 (by decide) ev ?_
  exact J _ _ inv2
set_option maxRecDepth 100000 in
set_option maxHeartbeats 4000000 in
theorem lc_undo (hEN : EN E) (XE : XH (fun a j => eX E (a - 1000) j)) (hL : L = eN E 5) (hL2 : L ≤ 2048) (hI : ∀ j : Nat, InR (eX E 5 j)) (hk : 4 * (k : Int) + 4 ≤ L) (inv : INV hi hr (64 * (k : Int))) (J : ∀ (h2 : HI) (r2 : HR), INV h2 r2 (64 * ((k : Int) + 1)) → AW E M_L_law 131 3697 672 [some (aR 1005), some (aR 0), some (aR 125), some (aI (4 * (k : Int)))] [] h2 r2 131 QL) : AW E M_L_law 131 3697 587 [some (aR 1005), some (aR 0), some (aR 125), some (aI (4 * (k : Int)))] [] hi hr 131 QL := by
  refine aw_st (fun hS => ?_)
  have inv0 := inv
  obtain ⟨⟨q, m, c, e3, hp⟩, ⟨hO, hBK⟩, ht⟩ := inv
  have hM := hO.1
  obtain ⟨m35, m0, m4⟩ := c.2.2.1
  have hHR := c.1
  have hT0 := ht.2.1.1
  have hT1 := ht.2.1.2.1
  have hB : BIG = 1000000 := rfl
  have h9 := hO.L
  have hmu : sg hi 0 + mu (sg hi) < BIG := by
    have a1 := hM.2.2.1
    have a2 := hO.2.2.2.2.1
    have a3 := hO.2.2.2.2.2
    unfold mu
    omega
  refine aw_aload_n dL_law_587 rfl ?_
  refine aw_V0i dL_law_588 clL_85 ⟨by decide, by decide⟩ (c := 8) (N := 5) (by decide) (by decide +kernel) rfl (c_X8_undo c) (by decide) (by decide) rfl rfl (by simp only [List.length_cons, List.length_nil]; omega) (fun v1 h1 r1 n1 z => ?_)
  obtain ⟨rfl, rfl, z1, z2⟩ := z
  have far : ∀ a : Nat, 122 ≤ a → ∀ k : Nat, h1 a k = hi a k := fun a ha k => by
    by_cases g : m = 0
    · rw [(z1 g).2]
    · exact (z2 (by omega)).2.2 a ha k
  have f3 : h1 125 3 = m := (far 125 (by decide) 3).trans e3
  refine aw_st (fun hS => ?_)
  refine aw_aload_n dL_law_591 rfl ?_
  refine aw_V0i dL_law_592 clL_88 ⟨by decide, by decide⟩ (c := 9) (N := 11) (by decide) (by decide +kernel) rfl (c_X9_undo (E := E) (hi := h1) hHR (by rw [f3]; omega) (by rw [f3]; omega)) (by decide) (by decide) rfl rfl (by simp only [List.length_cons, List.length_nil]; omega) (fun v2 h2 r2 n2 w => ?_)
  obtain ⟨rfl, rfl, w1, w2⟩ := w
  refine aw_st (fun hS2 => ?_)
  rw [f3] at w1 w2
  have fin : v1 = v2 ∧ INV h2 r2 (64 * ((k : Int) + 1)) := by
    by_cases g : m = 0
    · obtain ⟨y1, rfl⟩ := z1 g
      obtain ⟨y2, rfl⟩ := w1 g
      exact ⟨y1.trans y2.symm, inv0.le (by omega)⟩
    · obtain ⟨y1, y2, y3⟩ := z2 (by omega)
      obtain ⟨x1, x2, x3, x4, x5, x6, x7⟩ := w2 (by omega)
      exact ⟨y1.trans x1.symm, (inv_undo y2 (by omega) hp ht far x2 x3 x4 x5 x6 x7 (xh_of XE hS2)).le (by omega)⟩
  refine aw_ic_eqT (tgt := 672) dL_law_595 (by decide) fin.1 ?_
  exact J _ _ fin.2
set_option maxRecDepth 100000 in
set_option maxHeartbeats 4000000 in
theorem lc_type (hEN : EN E) (XE : XH (fun a j => eX E (a - 1000) j)) (hL : L = eN E 5) (hL2 : L ≤ 2048) (hI : ∀ j : Nat, InR (eX E 5 j)) (hk : 4 * (k : Int) + 4 ≤ L) (inv : INV hi hr (64 * (k : Int))) (J : ∀ (h2 : HI) (r2 : HR), INV h2 r2 (64 * ((k : Int) + 1)) → AW E M_L_law 131 3697 672 [some (aR 1005), some (aR 0), some (aR 125), some (aI (4 * (k : Int)))] [] h2 r2 131 QL) : AW E M_L_law 131 3697 600 [some (aR 1005), some (aR 0), some (aR 125), some (aI (4 * (k : Int)))] [] hi hr 131 QL := by
  refine aw_st (fun hS => ?_)
  have inv0 := inv
  obtain ⟨⟨q, m, c, e3, hp⟩, ⟨hO, hBK⟩, ht⟩ := inv
  have hM := hO.1
  obtain ⟨m35, m0, m4⟩ := c.2.2.1
  have hHR := c.1
  have hT0 := ht.2.1.1
  have hT1 := ht.2.1.2.1
  have hB : BIG = 1000000 := rfl
  have h9 := hO.L
  have hmu : sg hi 0 + mu (sg hi) < BIG := by
    have a1 := hM.2.2.1
    have a2 := hO.2.2.2.2.1
    have a3 := hO.2.2.2.2.2
    unfold mu
    omega
  refine aw_aload_n dL_law_600 rfl ?_
  refine aw_aload_n dL_law_601 rfl ?_
  refine aw_iload_n dL_law_602 rfl ?_
  refine aw_iconst dL_law_603 ?_
  refine aw_iadd dL_law_604 ?_
  refine aw_iald (N := L) dL_law_605 (Or.inr ⟨5, by decide, rfl, hL⟩) (by omega) (by omega) (by omega) (hS 5 (by decide) _) ?_
  refine aw_V1i dL_law_606 clL_89 ⟨by decide, by decide⟩ (c := 8) (N := 5) (by decide) (by decide +kernel) rfl (c_X8_type hHR (hI _) (by rw [ht.1]; exact hT0) (by rw [ht.1]; exact hT1)) (by decide) (by decide) rfl rfl (by simp only [List.length_cons, List.length_nil]; omega) (fun v1 h1 r1 n1 z => ?_)
  obtain ⟨rfl, rfl, zv, z1, z2⟩ := z
  have far : ∀ a : Nat, 125 ≤ a → ∀ k : Nat, h1 a k = hi a k := fun a ha k => by
    by_cases g : v1 < 0
    · rw [z1 g]
    · rw [z2 (by omega), up2_ne _ _ _ (by omega), up2_ne _ _ _ (by omega)]
  refine aw_st (fun hS => ?_)
  refine aw_aload_n dL_law_609 rfl ?_
  refine aw_aload_n dL_law_610 rfl ?_
  refine aw_iload_n dL_law_611 rfl ?_
  refine aw_iconst dL_law_612 ?_
  refine aw_iadd dL_law_613 ?_
  refine aw_iald (N := L) dL_law_614 (Or.inr ⟨5, by decide, rfl, hL⟩) (by omega) (by omega) (by omega) (hS 5 (by decide) _) ?_
  refine aw_V1i dL_law_615 clL_92 ⟨by decide, by decide⟩ (c := 9) (N := 11) (by decide) (by decide +kernel) rfl (c_X9_type (E := E) (hi := h1) (c := (eX E 5 (4 * (k : Int) + 1).toNat)) hHR (hI _) (by rw [far 125 (by decide)]; exact hT0) (by rw [far 125 (by decide)]; exact hT1)) (by decide) (by decide) rfl rfl (by simp only [List.length_cons, List.length_nil]; omega) (fun v2 h2 r2 n2 w => ?_)
  obtain ⟨rfl, rfl, wv, w1, w2⟩ := w
  refine aw_st (fun hS2 => ?_)
  have ev : v1 = v2 := by rw [zv, wv, far 125 (by decide), ht.1]
  have fin : INV h2 r2 (64 * ((k : Int) + 1)) := by
    by_cases g : v1 < 0
    · rw [w1 (by omega), z1 g]; exact inv0.le (by omega)
    · have e2 := w2 (by omega)
      have e1 := z2 (by omega)
      rw [tg_eq (fun k => far 129 (by decide) k), far 125 (by decide), show fd h1 = fd hi from funext fun j => far 125 (by decide) _, e1] at e2
      exact (inv_type inv0 (by rw [← zv]; omega) e2 (xh_of XE hS2)).le (by omega)
  refine aw_ic_eqT (tgt := 672) dL_law_618 (by decide) ev ?_
  exact J _ _ fin
set_option maxRecDepth 100000 in
set_option maxHeartbeats 4000000 in
theorem lc_clearText (hEN : EN E) (XE : XH (fun a j => eX E (a - 1000) j)) (hL : L = eN E 5) (hL2 : L ≤ 2048) (hI : ∀ j : Nat, InR (eX E 5 j)) (hk : 4 * (k : Int) + 4 ≤ L) (inv : INV hi hr (64 * (k : Int))) (J : ∀ (h2 : HI) (r2 : HR), INV h2 r2 (64 * ((k : Int) + 1)) → AW E M_L_law 131 3697 672 [some (aR 1005), some (aR 0), some (aR 125), some (aI (4 * (k : Int)))] [] h2 r2 131 QL) : AW E M_L_law 131 3697 623 [some (aR 1005), some (aR 0), some (aR 125), some (aI (4 * (k : Int)))] [] hi hr 131 QL := by
  refine aw_st (fun hS => ?_)
  have inv0 := inv
  obtain ⟨⟨q, m, c, e3, hp⟩, ⟨hO, hBK⟩, ht⟩ := inv
  have hM := hO.1
  obtain ⟨m35, m0, m4⟩ := c.2.2.1
  have hHR := c.1
  have hT0 := ht.2.1.1
  have hT1 := ht.2.1.2.1
  have hB : BIG = 1000000 := rfl
  have h9 := hO.L
  have hmu : sg hi 0 + mu (sg hi) < BIG := by
    have a1 := hM.2.2.1
    have a2 := hO.2.2.2.2.1
    have a3 := hO.2.2.2.2.2
    unfold mu
    omega
  refine aw_aload_n dL_law_623 rfl ?_
  refine aw_V0x dL_law_624 clL_93 ⟨by decide, by decide⟩ (c := 8) (N := 5) (by decide) (by decide +kernel) rfl (c_X8_clearText hHR) (by decide) (by decide) rfl rfl (by simp only [List.length_cons, List.length_nil]; omega) ?_
  refine aw_aload_n dL_law_627 rfl ?_
  refine aw_V0i dL_law_628 clL_96 ⟨by decide, by decide⟩ (c := 9) (N := 11) (by decide) (by decide +kernel) rfl (c_X9_clearText (E := E) (hi := up2 hi 122 1 0) hHR) (by decide) (by decide) rfl rfl (by simp only [List.length_cons, List.length_nil]; omega) (fun v2 h2 r2 n2 w => ?_)
  obtain ⟨rfl, rfl, wv, w2⟩ := w
  refine aw_st (fun hS2 => ?_)
  rw [tg_eq (h1 := hi) (fun k => up2_ne _ _ _ (by decide) _), show fd (up2 hi 122 1 0) = fd hi from funext fun j => up2_ne _ _ _ (by decide) _] at w2
  have fin := (inv_clear inv0 w2 (xh_of XE hS2)).le (n2 := 64 * ((k : Int) + 1)) (by omega)
  have ev : hi 122 1 = v2 := by rw [wv, up2_ne _ _ _ (by decide)]; exact ht.1
  refine aw_ic_eqT (tgt := 672) dL_law_631 (by decide) ev ?_
  exact J _ _ fin
end LAW
