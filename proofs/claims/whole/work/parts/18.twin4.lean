/-! the twin's acts: power, blocks, requests -/
theorem pa2_gi {a b : Nat} (h : b ≠ a) (hi : HI) (f g : Int → Int) {j : Int} (h0 : 0 ≤ j) : pa a (pa b hi g) f b j.toNat = g j := by rw [pa_gn _ _ _ h, pa_gi _ _ _ h0]
theorem pa2_ui {a b : Nat} (h : b ≠ a) (hi : HI) (f g : Int → Int) {j : Int} (v : Int) (h0 : 0 ≤ j) : up2 (pa a (pa b hi g) f) b j.toNat v = pa a (pa b hi (up1 g j v)) f := by rw [pa_un _ _ _ _ h, pa_ui _ _ _ _ h0]
theorem in0 {p : Prop} [Decidable p] : ((if p then (1 : Int) else 0) = 0) ↔ ¬ p := by by_cases h : p <;> simp [h]
theorem in_r {p : Prop} [Decidable p] : InR (if p then (1 : Int) else 0) := by by_cases h : p <;> simp only [h, if_true, if_false] <;> exact ⟨by decide, by decide⟩
theorem lsA_lt (st t : Int → Int) : ∀ k : Nat, k ≤ 12 → lsA st t k < 2 ^ 12 := by
  intro k
  induction k with
  | zero => intro _; show 0 < 2 ^ 12; decide
  | succ k ih =>
    intro hk
    unfold lsA
    refine Nat.or_lt_two_pow (ih (by omega)) ?_
    split
    · rw [Nat.one_shiftLeft]; exact Nat.pow_lt_pow_right (by decide) (by omega)
    · decide
theorem lsF_lt (s : Int → Int) : lsF s < 4096 := lsA_lt _ _ 12 (by omega)
theorem onA_b (a : Nat) : ∀ k : Nat, 0 ≤ onA a k ∧ onA a k ≤ k := by
  intro k
  induction k with
  | zero => exact ⟨Int.le_refl _, Int.le_refl _⟩
  | succ k ih =>
    unfold onA
    have : (a / 2 ^ k) &&& 1 ≤ 1 := Nat.and_le_right
    omega
section TWIN4
variable {E : ET} {hi : HI} {hr : HR} {s z : Int → Int}
set_option maxRecDepth 100000 in
set_option maxHeartbeats 4000000 in
theorem c_X9_isOff (hHR : HRk hr) (hM : MI s) : AMet E M_X9_isOff [aR 125] (pa 126 hi s) hr 131 (EX (some (aI (s 1))) (pa 126 hi (s)) hr 131) := by
  refine am_of (by decide +kernel) (Nat.le_of_ble_eq_true rfl) ?_
  have h1 := hM.2.2.2.2.2.1
  refine aw_aload_n dX9_isOff_0 rfl ?_
  refine aw_getr (x := 126) dX9_isOff_1 ci9 (by decide) fX9_7 (by decide) (by decide +kernel) rfl ((hHR 125 0 (by decide) (by decide +kernel)).trans rfl) ?_
  refine aw_iconst dX9_isOff_4 ?_
  refine aw_iald (N := 256) dX9_isOff_5 (Or.inl ⟨(by decide), (by decide +kernel)⟩) (by decide) (by decide) (by decide) (pa_gi 126 _ _ (by decide)) ?_
  refine aw_iconst dX9_isOff_6 ?_
  refine aw_ic_ne (tgt := 14) dX9_isOff_7 (by decide) (hM.r _ (by unfold xc; omega)) ⟨by decide, by decide⟩ (fun h7 => ?_) (fun h7 => ?_)
  · refine aw_iconst dX9_isOff_14 ?_
    refine aw_zret dX9_isOff_15 rfl (Or.inl rfl) (by decide) (by decide) ?_
    exact exI (by omega)
  · refine aw_iconst dX9_isOff_10 ?_
    refine aw_goto (tgt := 15) dX9_isOff_11 (by decide) ?_
    refine aw_zret dX9_isOff_15 rfl (Or.inr rfl) (by decide) (by decide) ?_
    exact exI (by omega)
set_option maxRecDepth 100000 in
set_option maxHeartbeats 4000000 in
theorem c_X9_isBlock {b : Int} (hb : InR b) : AMet E M_X9_isBlock [aI b] hi hr 131 (EX (some (aI (if 0 ≤ b ∧ b ≤ 1 then 1 else 0))) hi hr 131) := by
  refine am_of (by decide +kernel) (Nat.le_of_ble_eq_true rfl) ?_
  refine aw_iload_n dX9_isBlock_0 rfl ?_
  refine aw_iconst dX9_isBlock_1 ?_
  refine aw_iconst dX9_isBlock_2 ?_
  refine aw_S3x dX9_isBlock_3 clX9_32 ⟨by decide, by decide⟩ (c_X9_in hb ⟨by decide, by decide⟩ ⟨by decide, by decide⟩) (by decide) (by decide) rfl rfl (by simp only [List.length_cons, List.length_nil]; omega) ?_
  refine aw_zret dX9_isBlock_6 rfl (by by_cases q : 0 ≤ b ∧ b ≤ 1 <;> simp [q]) (by decide) (by decide) ?_
  exact EX.rf
set_option maxRecDepth 100000 in
set_option maxHeartbeats 4000000 in
theorem c_X9_isPlace {c : Int} (hHR : HRk hr) (hM : MI s) (h0 : 0 ≤ c) (h1 : c < 48) : AMet E M_X9_isPlace [aR 125, aI c] (pa 126 hi s) hr 131 (EX (some (aI (ipF s c))) (pa 126 hi (s)) hr 131) := by
  refine am_of (by decide +kernel) (Nat.le_of_ble_eq_true rfl) ?_
  have hb := atI_b h0 h1
  have hpl := plc_b s (s (atI c + 1))
  refine aw_aload_n dX9_isPlace_0 rfl ?_
  refine aw_getr (x := 126) dX9_isPlace_1 ci9 (by decide) fX9_7 (by decide) (by decide +kernel) rfl ((hHR 125 0 (by decide) (by decide +kernel)).trans rfl) ?_
  refine aw_aload_n dX9_isPlace_4 rfl ?_
  refine aw_iload_n dX9_isPlace_5 rfl ?_
  refine aw_V1x dX9_isPlace_6 clX9_44 ⟨by decide, by decide⟩ (c := 9) (N := 11) (by decide) (by decide +kernel) rfl (c_X9_atPlace h0 h1) (by decide) (by decide) rfl rfl (by simp only [List.length_cons, List.length_nil]; omega) ?_
  refine aw_iald (N := 256) dX9_isPlace_9 (Or.inl ⟨(by decide), (by decide +kernel)⟩) (by omega) (by omega) (by decide) (pa_gi 126 _ _ (by omega)) ?_
  refine aw_iconst dX9_isPlace_10 ?_
  refine aw_ic_ne (tgt := 38) dX9_isPlace_11 (by decide) (hM.r _ (by unfold xc; omega)) ⟨by decide, by decide⟩ (fun h11 => ?_) (fun h11 => ?_)
  · refine aw_iconst dX9_isPlace_38 ?_
    refine aw_zret dX9_isPlace_39 rfl (Or.inl rfl) (by decide) (by decide) ?_
    exact exI (by unfold ipF; first | rw [if_pos ⟨by omega, by omega⟩] | rw [if_neg (by omega)])
  · refine aw_aload_n dX9_isPlace_14 rfl ?_
    refine aw_aload_n dX9_isPlace_15 rfl ?_
    refine aw_getr (x := 126) dX9_isPlace_16 ci9 (by decide) fX9_7 (by decide) (by decide +kernel) rfl ((hHR 125 0 (by decide) (by decide +kernel)).trans rfl) ?_
    refine aw_aload_n dX9_isPlace_19 rfl ?_
    refine aw_iload_n dX9_isPlace_20 rfl ?_
    refine aw_V1x dX9_isPlace_21 clX9_44 ⟨by decide, by decide⟩ (c := 9) (N := 11) (by decide) (by decide +kernel) rfl (c_X9_atPlace h0 h1) (by decide) (by decide) rfl rfl (by simp only [List.length_cons, List.length_nil]; omega) ?_
    refine aw_iconst dX9_isPlace_24 ?_
    refine aw_iadd dX9_isPlace_25 ?_
    refine aw_iald (N := 256) dX9_isPlace_26 (Or.inl ⟨(by decide), (by decide +kernel)⟩) (by omega) (by omega) (by decide) (pa_gi 126 _ _ (by omega)) ?_
    refine aw_V1x dX9_isPlace_27 clX9_51 ⟨by decide, by decide⟩ (c := 9) (N := 11) (by decide) (by decide +kernel) rfl (c_X9_placeOfKey hHR hM (hM.r _ (by unfold xc; omega))) (by decide) (by decide) rfl rfl (by simp only [List.length_cons, List.length_nil]; omega) ?_
    refine aw_iload_n dX9_isPlace_30 rfl ?_
    refine aw_ic_ne (tgt := 38) dX9_isPlace_31 (by decide) ⟨by omega, by omega⟩ ⟨by omega, by omega⟩ (fun h31 => ?_) (fun h31 => ?_)
    · refine aw_iconst dX9_isPlace_38 ?_
      refine aw_zret dX9_isPlace_39 rfl (Or.inl rfl) (by decide) (by decide) ?_
      exact exI (by unfold ipF; first | rw [if_pos ⟨by omega, by omega⟩] | rw [if_neg (by omega)])
    · refine aw_iconst dX9_isPlace_34 ?_
      refine aw_goto (tgt := 39) dX9_isPlace_35 (by decide) ?_
      refine aw_zret dX9_isPlace_39 rfl (Or.inr rfl) (by decide) (by decide) ?_
      exact exI (by unfold ipF; first | rw [if_pos ⟨by omega, by omega⟩] | rw [if_neg (by omega)])
set_option maxRecDepth 100000 in
set_option maxHeartbeats 4000000 in
theorem c_X9_breaks0 (hHR : HRk hr) (hM : MI s) : AMet E M_X9_breaks [aR 125] (pa 126 (pa 130 hi z) s) hr 131 (PI (fun v h r2 n2 => v = (lsF s : Int) ∧ r2 = hr ∧ n2 = 131 ∧ ∃ w : Int → Int, h = pa 126 (pa 130 hi w) (brS s))) := by
  refine am_of (by decide +kernel) (Nat.le_of_ble_eq_true rfl) ?_
  have hlt := lsF_lt s
  have mS := brS_M hM
  have loop2 : ∀ (z : Int → Int), (∀ j : Int, 0 ≤ j → j < 12 → z j = stF s j) → ∀ (d k : Nat), k + d = 12 → AW E M_X9_breaks 0 0 174 [some (aR 125), some (aI (lsA (stF s) (brS s) k : Int)), some (aI (k : Int))] [] (pa 126 (pa 130 hi z) (brS s)) hr 131 (PI (fun v h r2 n2 => v = (lsF s : Int) ∧ r2 = hr ∧ n2 = 131 ∧ ∃ w : Int → Int, h = pa 126 (pa 130 hi w) (brS s))) := by
    intro z hz d
    induction d with
    | zero =>
      intro k hk
      have hk' : k = 12 := by omega
      subst hk'
      refine aw_iload_n dX9_breaks_174 rfl ?_
      refine aw_bipush dX9_breaks_175 (by decide) ?_
      refine aw_ic_ge (tgt := 219) dX9_breaks_177 (by decide) ⟨by decide, by decide⟩ ⟨by decide, by decide⟩ (fun h177 => ?_) (fun h177 => ?_)
      · refine aw_iload_n dX9_breaks_219 rfl ?_
        refine aw_iret dX9_breaks_220 rfl (by decide) (by decide) ?_
        exact ⟨_, rfl, rfl, rfl, rfl, z, rfl⟩
      · exact absurd h177 (by decide)
    | succ d ih =>
      intro k hk
      have ez := hz (k : Int) (by omega) (by omega)
      have er := (stF_r hM (k : Int)).1
      refine aw_iload_n dX9_breaks_174 rfl ?_
      refine aw_bipush dX9_breaks_175 (by decide) ?_
      refine aw_ic_ge (tgt := 219) dX9_breaks_177 (by decide) ⟨by omega, by omega⟩ ⟨by decide, by decide⟩ (fun h177 => ?_) (fun h177 => ?_)
      · exact absurd h177 (by omega)
      · refine aw_iload_n dX9_breaks_180 rfl ?_
        refine aw_aload_n dX9_breaks_181 rfl ?_
        refine aw_getr (x := 130) dX9_breaks_182 ci9 (by decide) fX9_22 (by decide) (by decide +kernel) rfl ((hHR 125 6 (by decide) (by decide +kernel)).trans rfl) ?_
        refine aw_iload_n dX9_breaks_185 rfl ?_
        refine aw_iald (N := 12) dX9_breaks_186 (Or.inl ⟨(by decide), (by decide +kernel)⟩) (by omega) (by omega) (by decide) (pa2_gi (by decide) _ _ _ (by omega)) ?_
        refine aw_if_le (tgt := 210) dX9_breaks_187 (by decide) (by rw [ez]; exact er) (fun h187 => ?_) (fun h187 => ?_)
        · refine aw_iconst dX9_breaks_210 ?_
          have e : lsA (stF s) (brS s) (k + 1) = lsA (stF s) (brS s) k ||| 0 := by
            simp only [lsA]
            rw [if_neg (by omega)]
          refine aw_ior (a := lsA (stF s) (brS s) k) (b := 0) dX9_breaks_211 rfl rfl ?_
          rw [← e]
          refine aw_istore_n (ls2 := [_, _, _]) dX9_breaks_212 (by decide) rfl ?_
          refine aw_iinc (ls2 := [_, _, _]) dX9_breaks_213 rfl (by decide) rfl ?_
          refine aw_goto (tgt := 174) dX9_breaks_216 (by decide) ?_
          exact ih (k + 1) (by omega)
        · refine aw_aload_n dX9_breaks_190 rfl ?_
          refine aw_iload_n dX9_breaks_191 rfl ?_
          refine aw_V1x dX9_breaks_192 clX9_58 ⟨by decide, by decide⟩ (c := 9) (N := 11) (by decide) (by decide +kernel) rfl (c_X9_stampOf hHR mS ⟨by omega, by omega⟩) (by decide) (by decide) rfl rfl (by simp only [List.length_cons, List.length_nil]; omega) ?_
          refine aw_aload_n dX9_breaks_195 rfl ?_
          refine aw_getr (x := 130) dX9_breaks_196 ci9 (by decide) fX9_22 (by decide) (by decide +kernel) rfl ((hHR 125 6 (by decide) (by decide +kernel)).trans rfl) ?_
          refine aw_iload_n dX9_breaks_199 rfl ?_
          refine aw_iald (N := 12) dX9_breaks_200 (Or.inl ⟨(by decide), (by decide +kernel)⟩) (by omega) (by omega) (by decide) (pa2_gi (by decide) _ _ _ (by omega)) ?_
          refine aw_ic_eq (tgt := 210) dX9_breaks_201 (by decide) (stF_r mS _).1 (by rw [ez]; exact er) (fun h201 => ?_) (fun h201 => ?_)
          · refine aw_iconst dX9_breaks_210 ?_
            have e : lsA (stF s) (brS s) (k + 1) = lsA (stF s) (brS s) k ||| 0 := by
              simp only [lsA]
              rw [if_neg (by omega)]
            refine aw_ior (a := lsA (stF s) (brS s) k) (b := 0) dX9_breaks_211 rfl rfl ?_
            rw [← e]
            refine aw_istore_n (ls2 := [_, _, _]) dX9_breaks_212 (by decide) rfl ?_
            refine aw_iinc (ls2 := [_, _, _]) dX9_breaks_213 rfl (by decide) rfl ?_
            refine aw_goto (tgt := 174) dX9_breaks_216 (by decide) ?_
            exact ih (k + 1) (by omega)
          · refine aw_iconst dX9_breaks_204 ?_
            refine aw_iload_n dX9_breaks_205 rfl ?_
            refine aw_shl1 (k := k) dX9_breaks_206 (by omega) ?_
            refine aw_goto (tgt := 211) dX9_breaks_207 (by decide) ?_
            have e : lsA (stF s) (brS s) (k + 1) = lsA (stF s) (brS s) k ||| 1 <<< k := by
              simp only [lsA]
              rw [if_pos ⟨by omega, by omega⟩]
            refine aw_ior (a := lsA (stF s) (brS s) k) (b := 1 <<< k) dX9_breaks_211 rfl rfl ?_
            rw [← e]
            refine aw_istore_n (ls2 := [_, _, _]) dX9_breaks_212 (by decide) rfl ?_
            refine aw_iinc (ls2 := [_, _, _]) dX9_breaks_213 rfl (by decide) rfl ?_
            refine aw_goto (tgt := 174) dX9_breaks_216 (by decide) ?_
            exact ih (k + 1) (by omega)
  have J135 : ∀ (z : Int → Int) (v1 v2 : Option AV), (∀ j : Int, 0 ≤ j → j < 12 → z j = stF s j) → ∀ (d : Nat) (t : Int → Int), MI t → t 11 ≤ d → brS s = br5 (rcA d t) → AW E M_X9_breaks 0 0 135 [some (aR 125), v1, v2] [] (pa 126 (pa 130 hi z) (t)) hr 131 (PI (fun v h r2 n2 => v = (lsF s : Int) ∧ r2 = hr ∧ n2 = 131 ∧ ∃ w : Int → Int, h = pa 126 (pa 130 hi w) (brS s))) := by
    intro z v1 v2 hz d
    induction d with
    | zero =>
      intro t hM h11 he
      refine aw_aload_n dX9_breaks_135 rfl ?_
      refine aw_getr (x := 126) dX9_breaks_136 ci9 (by decide) fX9_7 (by decide) (by decide +kernel) rfl ((hHR 125 0 (by decide) (by decide +kernel)).trans rfl) ?_
      refine aw_bipush dX9_breaks_139 (by decide) ?_
      refine aw_iald (N := 256) dX9_breaks_141 (Or.inl ⟨(by decide), (by decide +kernel)⟩) (by decide) (by decide) (by decide) (pa_gi 126 _ _ (by decide)) ?_
      refine aw_if_le (tgt := 152) dX9_breaks_142 (by decide) (hM.r _ (by unfold xc; omega)) (fun h142 => ?_) (fun h142 => ?_)
      · refine aw_aload_n dX9_breaks_152 rfl ?_
        refine aw_getr (x := 126) dX9_breaks_153 ci9 (by decide) fX9_7 (by decide) (by decide +kernel) rfl ((hHR 125 0 (by decide) (by decide +kernel)).trans rfl) ?_
        refine aw_iconst dX9_breaks_156 ?_
        refine aw_iconst dX9_breaks_157 ?_
        refine aw_iast (N := 256) dX9_breaks_158 (by decide) (by decide +kernel) (by decide) (by decide) (by decide) (pa_ui 126 _ _ _ (by decide)) ?_
        refine aw_aload_n dX9_breaks_159 rfl ?_
        refine aw_getr (x := 126) dX9_breaks_160 ci9 (by decide) fX9_7 (by decide) (by decide +kernel) rfl ((hHR 125 0 (by decide) (by decide +kernel)).trans rfl) ?_
        refine aw_bipush dX9_breaks_163 (by decide) ?_
        refine aw_dup2 dX9_breaks_165 ?_
        refine aw_iald (N := 256) dX9_breaks_166 (Or.inl ⟨(by decide), (by decide +kernel)⟩) (by decide) (by decide) (by decide) (pa_gi 126 _ _ (by decide)) ?_
        refine aw_iconst dX9_breaks_167 ?_
        refine aw_iadd dX9_breaks_168 ?_
        refine aw_iast (N := 256) dX9_breaks_169 (by decide) (by decide +kernel) (by decide) (by decide) (by decide) (pa_ui 126 _ _ _ (by decide)) ?_
        refine aw_iconst dX9_breaks_170 ?_
        refine aw_istore_n (ls2 := [_, _, _]) dX9_breaks_171 (by decide) rfl ?_
        refine aw_iconst dX9_breaks_172 ?_
        refine aw_istore_n (ls2 := [_, _, _]) dX9_breaks_173 (by decide) rfl ?_
        have e2 : up1 (up1 t 1 1) 8 (up1 t 1 1 8 + 1) = brS s := he.symm
        rw [e2]
        exact loop2 z hz 12 0 (by omega)
      · exact absurd h142 (by omega)
    | succ d ih =>
      intro t hM h11 he
      refine aw_aload_n dX9_breaks_135 rfl ?_
      refine aw_getr (x := 126) dX9_breaks_136 ci9 (by decide) fX9_7 (by decide) (by decide +kernel) rfl ((hHR 125 0 (by decide) (by decide +kernel)).trans rfl) ?_
      refine aw_bipush dX9_breaks_139 (by decide) ?_
      refine aw_iald (N := 256) dX9_breaks_141 (Or.inl ⟨(by decide), (by decide +kernel)⟩) (by decide) (by decide) (by decide) (pa_gi 126 _ _ (by decide)) ?_
      refine aw_if_le (tgt := 152) dX9_breaks_142 (by decide) (hM.r _ (by unfold xc; omega)) (fun h142 => ?_) (fun h142 => ?_)
      · refine aw_aload_n dX9_breaks_152 rfl ?_
        refine aw_getr (x := 126) dX9_breaks_153 ci9 (by decide) fX9_7 (by decide) (by decide +kernel) rfl ((hHR 125 0 (by decide) (by decide +kernel)).trans rfl) ?_
        refine aw_iconst dX9_breaks_156 ?_
        refine aw_iconst dX9_breaks_157 ?_
        refine aw_iast (N := 256) dX9_breaks_158 (by decide) (by decide +kernel) (by decide) (by decide) (by decide) (pa_ui 126 _ _ _ (by decide)) ?_
        refine aw_aload_n dX9_breaks_159 rfl ?_
        refine aw_getr (x := 126) dX9_breaks_160 ci9 (by decide) fX9_7 (by decide) (by decide +kernel) rfl ((hHR 125 0 (by decide) (by decide +kernel)).trans rfl) ?_
        refine aw_bipush dX9_breaks_163 (by decide) ?_
        refine aw_dup2 dX9_breaks_165 ?_
        refine aw_iald (N := 256) dX9_breaks_166 (Or.inl ⟨(by decide), (by decide +kernel)⟩) (by decide) (by decide) (by decide) (pa_gi 126 _ _ (by decide)) ?_
        refine aw_iconst dX9_breaks_167 ?_
        refine aw_iadd dX9_breaks_168 ?_
        refine aw_iast (N := 256) dX9_breaks_169 (by decide) (by decide +kernel) (by decide) (by decide) (by decide) (pa_ui 126 _ _ _ (by decide)) ?_
        refine aw_iconst dX9_breaks_170 ?_
        refine aw_istore_n (ls2 := [_, _, _]) dX9_breaks_171 (by decide) rfl ?_
        refine aw_iconst dX9_breaks_172 ?_
        refine aw_istore_n (ls2 := [_, _, _]) dX9_breaks_173 (by decide) rfl ?_
        have e2 : up1 (up1 t 1 1) 8 (up1 t 1 1 8 + 1) = brS s := by rw [he]; unfold rcA; rw [if_neg (by omega)]; rfl
        rw [e2]
        exact loop2 z hz 12 0 (by omega)
      · refine aw_aload_n dX9_breaks_145 rfl ?_
        refine aw_V0v dX9_breaks_146 clX9_70 ⟨by decide, by decide⟩ (c := 9) (N := 11) (by decide) (by decide +kernel) rfl (c_X9_goesFirst hHR hM (by omega)) (by decide) (by decide) rfl rfl (by simp only [List.length_cons, List.length_nil]; omega) ?_
        refine aw_goto (tgt := 135) dX9_breaks_149 (by decide) ?_
        refine ih (gfF t) (gfF_M hM (by omega)) ?_ ?_
        · rw [gfF_at t (by omega), if_pos rfl]; omega
        · rw [he, rcA, if_pos (by omega)]
  have m1 := br1_M hM
  have J131 : ∀ (z : Int → Int) (v1 v2 : Option AV), (∀ j : Int, 0 ≤ j → j < 12 → z j = stF s j) → AW E M_X9_breaks 0 0 131 [some (aR 125), v1, v2] [] (pa 126 (pa 130 hi z) (br2 (br1 s))) hr 131 (PI (fun v h r2 n2 => v = (lsF s : Int) ∧ r2 = hr ∧ n2 = 131 ∧ ∃ w : Int → Int, h = pa 126 (pa 130 hi w) (brS s))) := by
    intro z v1 v2 hz
    refine aw_aload_n dX9_breaks_131 rfl ?_
    refine aw_V0v dX9_breaks_132 clX9_92 ⟨by decide, by decide⟩ (c := 9) (N := 11) (by decide) (by decide +kernel) rfl (c_X9_clearsNow hHR) (by decide) (by decide) rfl rfl (by simp only [List.length_cons, List.length_nil]; omega) ?_
    exact J135 z v1 v2 hz 9 _ (clN_M (br2_M m1)) (by have := (clN_M (br2_M m1)).2.2.1; omega) rfl
  have J54 : ∀ (z : Int → Int) (v1 v2 : Option AV), (∀ j : Int, 0 ≤ j → j < 12 → z j = stF s j) → AW E M_X9_breaks 0 0 54 [some (aR 125), v1, v2] [] (pa 126 (pa 130 hi z) (br1 s)) hr 131 (PI (fun v h r2 n2 => v = (lsF s : Int) ∧ r2 = hr ∧ n2 = 131 ∧ ∃ w : Int → Int, h = pa 126 (pa 130 hi w) (brS s))) := by
    intro z v1 v2 hz
    have J131 := J131 z
    generalize br1 s = t at m1 J131 ⊢
    have hb := m1.2.1
    have h0 := m1.z 248 (by unfold xc; omega)
    have h1 := m1.2.2.2.1
    have hl8 := lin_b h0 (by omega)
    have he := ear_b hl8.1 hl8.2
    have x1 : ∀ x, 216 ≤ x → taF t (t 2) (t 248) x = t x := fun x hx => taF_x t hb h0 h1 (by omega)
    have x2 : ∀ x, 216 ≤ x → clB (taF t (t 2) (t 248)) (t 2) (lin (t 248)) x = t x := fun x hx => by
      unfold clB; rw [zA_at, if_neg (by omega), x1 x hx]
    refine aw_aload_n dX9_breaks_54 rfl ?_
    refine aw_V0x dX9_breaks_55 clX9_77 ⟨by decide, by decide⟩ (c := 9) (N := 11) (by decide) (by decide +kernel) rfl (c_X9_isWriting hHR m1) (by decide) (by decide) rfl rfl (by simp only [List.length_cons, List.length_nil]; omega) ?_
    refine aw_if_eq (tgt := 131) dX9_breaks_58 (by decide) (by rcases iw_b t with q | q <;> rw [q] <;> exact ⟨by decide, by decide⟩) (fun h58 => ?_) (fun h58 => ?_)
    · have e : br2 t = t := ( by unfold br2; rw [if_neg (by omega)])
      rw [e] at J131
      exact J131 _ _ hz
    · refine aw_aload_n dX9_breaks_61 rfl ?_
      refine aw_getr (x := 126) dX9_breaks_62 ci9 (by decide) fX9_7 (by decide) (by decide +kernel) rfl ((hHR 125 0 (by decide) (by decide +kernel)).trans rfl) ?_
      refine aw_iconst dX9_breaks_65 ?_
      refine aw_iald (N := 256) dX9_breaks_66 (Or.inl ⟨(by decide), (by decide +kernel)⟩) (by decide) (by decide) (by decide) (pa_gi 126 _ _ (by decide)) ?_
      refine aw_istore_n (ls2 := [_, _, _]) dX9_breaks_67 (by decide) rfl ?_
      refine aw_aload_n dX9_breaks_68 rfl ?_
      refine aw_iconst dX9_breaks_69 ?_
      refine aw_V1x dX9_breaks_70 clX9_61 ⟨by decide, by decide⟩ (c := 9) (N := 11) (by decide) (by decide +kernel) rfl (c_X9_now (k := 0) (v := 248) hHR rfl (by decide) (by decide)) (by decide) (by decide) rfl rfl (by simp only [List.length_cons, List.length_nil]; omega) ?_
      refine aw_S1x dX9_breaks_73 clX9_64 ⟨by decide, by decide⟩ (c_X9_lineOf h0 (by omega)) (by decide) (by decide) rfl rfl (by simp only [List.length_cons, List.length_nil]; omega) ?_
      refine aw_istore_n (ls2 := [_, _, _]) dX9_breaks_76 (by decide) rfl ?_
      refine aw_aload_n dX9_breaks_77 rfl ?_
      refine aw_iload_n dX9_breaks_78 rfl ?_
      refine aw_aload_n dX9_breaks_79 rfl ?_
      refine aw_iconst dX9_breaks_80 ?_
      refine aw_V1x dX9_breaks_81 clX9_61 ⟨by decide, by decide⟩ (c := 9) (N := 11) (by decide) (by decide +kernel) rfl (c_X9_now (k := 0) (v := 248) hHR rfl (by decide) (by decide)) (by decide) (by decide) rfl rfl (by simp only [List.length_cons, List.length_nil]; omega) ?_
      refine aw_V2v dX9_breaks_84 clX9_104 ⟨by decide, by decide⟩ (c := 9) (N := 11) (by decide) (by decide +kernel) rfl (c_X9_tears hHR hb ⟨h0, by omega⟩) (by decide) (by decide) rfl rfl (by simp only [List.length_cons, List.length_nil]; omega) ?_
      refine aw_aload_n dX9_breaks_87 rfl ?_
      refine aw_iconst dX9_breaks_88 ?_
      refine aw_V1x dX9_breaks_89 clX9_61 ⟨by decide, by decide⟩ (c := 9) (N := 11) (by decide) (by decide +kernel) rfl (c_X9_now (k := 5) (v := 253) hHR rfl (by decide) (by decide)) (by decide) (by decide) rfl rfl (by simp only [List.length_cons, List.length_nil]; omega) ?_
      refine aw_if_le (tgt := 101) dX9_breaks_92 (by decide) (by rw [x1 253 (by omega)]; exact m1.r 253 (by unfold xc; omega)) (fun h92 => ?_) (fun h92 => ?_)
      · refine aw_aload_n dX9_breaks_101 rfl ?_
        refine aw_iconst dX9_breaks_102 ?_
        refine aw_V1x dX9_breaks_103 clX9_61 ⟨by decide, by decide⟩ (c := 9) (N := 11) (by decide) (by decide +kernel) rfl (c_X9_now (k := 0) (v := 248) hHR rfl (by decide) (by decide)) (by decide) (by decide) rfl rfl (by simp only [List.length_cons, List.length_nil]; omega) ?_
        refine aw_S1x dX9_breaks_106 clX9_36 ⟨by decide, by decide⟩ (c_X9_isLate (p := (taF t (t 2) (t 248)) 248) (by rw [x1 248 (by omega)]; exact ⟨by omega, by omega⟩)) (by decide) (by decide) rfl rfl (by simp only [List.length_cons, List.length_nil]; omega) ?_
        refine aw_if_eq (tgt := 131) dX9_breaks_109 (by decide) (by rcases lat_b ((taF t (t 2) (t 248)) 248) with g | g <;> rw [g] <;> exact ⟨by decide, by decide⟩) (fun h109 => ?_) (fun h109 => ?_)
        · have e : br2 t = taF t (t 2) (t 248) := by
            have e92 : br2a t = taF t (t 2) (t 248) := by unfold br2a; rw [if_neg (by omega)]
            unfold br2 br2b
            rw [if_pos (by rcases iw_b t with g | g <;> omega), e92, if_neg (fun g => by rw [g.1] at h109; exact absurd h109 (by decide))]
          rw [e] at J131
          exact J131 _ _ hz
        · refine aw_aload_n dX9_breaks_112 rfl ?_
          refine aw_bipush dX9_breaks_113 (by decide) ?_
          refine aw_V1x dX9_breaks_115 clX9_61 ⟨by decide, by decide⟩ (c := 9) (N := 11) (by decide) (by decide +kernel) rfl (c_X9_now (k := 7) (v := 255) hHR rfl (by decide) (by decide)) (by decide) (by decide) rfl rfl (by simp only [List.length_cons, List.length_nil]; omega) ?_
          refine aw_iconst dX9_breaks_118 ?_
          refine aw_ic_ne (tgt := 131) dX9_breaks_119 (by decide) (by rw [x1 255 (by omega)]; exact m1.r 255 (by unfold xc; omega)) ⟨by decide, by decide⟩ (fun h119 => ?_) (fun h119 => ?_)
          · have e : br2 t = taF t (t 2) (t 248) := by
              have e92 : br2a t = taF t (t 2) (t 248) := by unfold br2a; rw [if_neg (by omega)]
              unfold br2 br2b
              rw [if_pos (by rcases iw_b t with g | g <;> omega), e92, if_neg (fun g => h119 g.2)]
            rw [e] at J131
            exact J131 _ _ hz
          · refine aw_aload_n dX9_breaks_122 rfl ?_
            refine aw_iload_n dX9_breaks_123 rfl ?_
            refine aw_iload_n dX9_breaks_124 rfl ?_
            refine aw_S1x dX9_breaks_125 clX9_67 ⟨by decide, by decide⟩ (c_X9_earlyOf ⟨by omega, by omega⟩) (by decide) (by decide) rfl rfl (by simp only [List.length_cons, List.length_nil]; omega) ?_
            refine aw_V2v dX9_breaks_128 clX9_104 ⟨by decide, by decide⟩ (c := 9) (N := 11) (by decide) (by decide +kernel) rfl (c_X9_tears hHR hb ⟨by omega, by omega⟩) (by decide) (by decide) rfl rfl (by simp only [List.length_cons, List.length_nil]; omega) ?_
            have e : br2 t = taF (taF t (t 2) (t 248)) (t 2) (ear (lin (t 248))) := by
              have e92 : br2a t = taF t (t 2) (t 248) := by unfold br2a; rw [if_neg (by omega)]
              unfold br2 br2b
              rw [if_pos (by rcases iw_b t with g | g <;> omega), e92, if_pos ⟨by rcases lat_b ((taF t (t 2) (t 248)) 248) with g | g <;> omega, h119⟩]
            rw [e] at J131
            exact J131 _ _ hz
      · refine aw_aload_n dX9_breaks_95 rfl ?_
        refine aw_iload_n dX9_breaks_96 rfl ?_
        refine aw_iload_n dX9_breaks_97 rfl ?_
        refine aw_V2v dX9_breaks_98 clX9_88 ⟨by decide, by decide⟩ (c := 9) (N := 11) (by decide) (by decide +kernel) rfl (c_X9_clearsBackup hHR hb hl8) (by decide) (by decide) rfl rfl (by simp only [List.length_cons, List.length_nil]; omega) ?_
        refine aw_aload_n dX9_breaks_101 rfl ?_
        refine aw_iconst dX9_breaks_102 ?_
        refine aw_V1x dX9_breaks_103 clX9_61 ⟨by decide, by decide⟩ (c := 9) (N := 11) (by decide) (by decide +kernel) rfl (c_X9_now (k := 0) (v := 248) hHR rfl (by decide) (by decide)) (by decide) (by decide) rfl rfl (by simp only [List.length_cons, List.length_nil]; omega) ?_
        refine aw_S1x dX9_breaks_106 clX9_36 ⟨by decide, by decide⟩ (c_X9_isLate (p := (clB (taF t (t 2) (t 248)) (t 2) (lin (t 248))) 248) (by rw [x2 248 (by omega)]; exact ⟨by omega, by omega⟩)) (by decide) (by decide) rfl rfl (by simp only [List.length_cons, List.length_nil]; omega) ?_
        refine aw_if_eq (tgt := 131) dX9_breaks_109 (by decide) (by rcases lat_b ((clB (taF t (t 2) (t 248)) (t 2) (lin (t 248))) 248) with g | g <;> rw [g] <;> exact ⟨by decide, by decide⟩) (fun h109 => ?_) (fun h109 => ?_)
        · have e : br2 t = clB (taF t (t 2) (t 248)) (t 2) (lin (t 248)) := by
            have e92 : br2a t = clB (taF t (t 2) (t 248)) (t 2) (lin (t 248)) := by unfold br2a; rw [if_pos (by omega)]
            unfold br2 br2b
            rw [if_pos (by rcases iw_b t with g | g <;> omega), e92, if_neg (fun g => by rw [g.1] at h109; exact absurd h109 (by decide))]
          rw [e] at J131
          exact J131 _ _ hz
        · refine aw_aload_n dX9_breaks_112 rfl ?_
          refine aw_bipush dX9_breaks_113 (by decide) ?_
          refine aw_V1x dX9_breaks_115 clX9_61 ⟨by decide, by decide⟩ (c := 9) (N := 11) (by decide) (by decide +kernel) rfl (c_X9_now (k := 7) (v := 255) hHR rfl (by decide) (by decide)) (by decide) (by decide) rfl rfl (by simp only [List.length_cons, List.length_nil]; omega) ?_
          refine aw_iconst dX9_breaks_118 ?_
          refine aw_ic_ne (tgt := 131) dX9_breaks_119 (by decide) (by rw [x2 255 (by omega)]; exact m1.r 255 (by unfold xc; omega)) ⟨by decide, by decide⟩ (fun h119 => ?_) (fun h119 => ?_)
          · have e : br2 t = clB (taF t (t 2) (t 248)) (t 2) (lin (t 248)) := by
              have e92 : br2a t = clB (taF t (t 2) (t 248)) (t 2) (lin (t 248)) := by unfold br2a; rw [if_pos (by omega)]
              unfold br2 br2b
              rw [if_pos (by rcases iw_b t with g | g <;> omega), e92, if_neg (fun g => h119 g.2)]
            rw [e] at J131
            exact J131 _ _ hz
          · refine aw_aload_n dX9_breaks_122 rfl ?_
            refine aw_iload_n dX9_breaks_123 rfl ?_
            refine aw_iload_n dX9_breaks_124 rfl ?_
            refine aw_S1x dX9_breaks_125 clX9_67 ⟨by decide, by decide⟩ (c_X9_earlyOf ⟨by omega, by omega⟩) (by decide) (by decide) rfl rfl (by simp only [List.length_cons, List.length_nil]; omega) ?_
            refine aw_V2v dX9_breaks_128 clX9_104 ⟨by decide, by decide⟩ (c := 9) (N := 11) (by decide) (by decide +kernel) rfl (c_X9_tears hHR hb ⟨by omega, by omega⟩) (by decide) (by decide) rfl rfl (by simp only [List.length_cons, List.length_nil]; omega) ?_
            have e : br2 t = taF (clB (taF t (t 2) (t 248)) (t 2) (lin (t 248))) (t 2) (ear (lin (t 248))) := by
              have e92 : br2a t = clB (taF t (t 2) (t 248)) (t 2) (lin (t 248)) := by unfold br2a; rw [if_pos (by omega)]
              unfold br2 br2b
              rw [if_pos (by rcases iw_b t with g | g <;> omega), e92, if_pos ⟨by rcases lat_b ((clB (taF t (t 2) (t 248)) (t 2) (lin (t 248))) 248) with g | g <;> omega, h119⟩]
            rw [e] at J131
            exact J131 _ _ hz
  have loop1 : ∀ (d k : Nat) (z : Int → Int), k + d = 12 → (∀ j : Int, 0 ≤ j → j < k → z j = stF s j) → AW E M_X9_breaks 0 0 2 [some (aR 125), some (aI (k : Int)), none] [] (pa 126 (pa 130 hi z) (s)) hr 131 (PI (fun v h r2 n2 => v = (lsF s : Int) ∧ r2 = hr ∧ n2 = 131 ∧ ∃ w : Int → Int, h = pa 126 (pa 130 hi w) (brS s))) := by
    intro d
    induction d with
    | zero =>
      intro k z hk hz
      have hk' : k = 12 := by omega
      subst hk'
      refine aw_iload_n dX9_breaks_2 rfl ?_
      refine aw_bipush dX9_breaks_3 (by decide) ?_
      refine aw_ic_ge (tgt := 25) dX9_breaks_5 (by decide) ⟨by decide, by decide⟩ ⟨by decide, by decide⟩ (fun h5 => ?_) (fun h5 => ?_)
      · refine aw_aload_n dX9_breaks_25 rfl ?_
        refine aw_getr (x := 126) dX9_breaks_26 ci9 (by decide) fX9_7 (by decide) (by decide +kernel) rfl ((hHR 125 0 (by decide) (by decide +kernel)).trans rfl) ?_
        refine aw_iconst dX9_breaks_29 ?_
        refine aw_dup2 dX9_breaks_30 ?_
        refine aw_iald (N := 256) dX9_breaks_31 (Or.inl ⟨(by decide), (by decide +kernel)⟩) (by decide) (by decide) (by decide) (pa_gi 126 _ _ (by decide)) ?_
        refine aw_aload_n dX9_breaks_32 rfl ?_
        refine aw_getr (x := 126) dX9_breaks_33 ci9 (by decide) fX9_7 (by decide) (by decide +kernel) rfl ((hHR 125 0 (by decide) (by decide +kernel)).trans rfl) ?_
        refine aw_bipush dX9_breaks_36 (by decide) ?_
        refine aw_iald (N := 256) dX9_breaks_38 (Or.inl ⟨(by decide), (by decide +kernel)⟩) (by decide) (by decide) (by decide) (pa_gi 126 _ _ (by decide)) ?_
        refine aw_aload_n dX9_breaks_39 rfl ?_
        refine aw_V0x dX9_breaks_40 clX9_77 ⟨by decide, by decide⟩ (c := 9) (N := 11) (by decide) (by decide +kernel) rfl (c_X9_isWriting hHR hM) (by decide) (by decide) rfl rfl (by simp only [List.length_cons, List.length_nil]; omega) ?_
        refine aw_if_eq (tgt := 50) dX9_breaks_43 (by decide) (by rcases iw_b s with q | q <;> rw [q] <;> exact ⟨by decide, by decide⟩) (fun h43 => ?_) (fun h43 => ?_)
        · refine aw_iconst dX9_breaks_50 ?_
          refine aw_iadd dX9_breaks_51 ?_
          refine aw_iadd dX9_breaks_52 ?_
          refine aw_iast (N := 256) dX9_breaks_53 (by decide) (by decide +kernel) (by decide) (by decide) (by decide) (pa_ui 126 _ _ _ (by decide)) ?_
          have e1 : br1 s = up1 s 4 (s 4 + (s 11 + 0)) := by
            have q : iwF s = 0 := by rcases iw_b s with q | q <;> omega
            unfold br1; rw [q]
          have J54 := J54 z (some (aI ((12 : Nat) : Int))) none hz
          rw [e1] at J54
          exact J54
        · refine aw_iconst dX9_breaks_46 ?_
          refine aw_goto (tgt := 51) dX9_breaks_47 (by decide) ?_
          refine aw_iadd dX9_breaks_51 ?_
          refine aw_iadd dX9_breaks_52 ?_
          refine aw_iast (N := 256) dX9_breaks_53 (by decide) (by decide +kernel) (by decide) (by decide) (by decide) (pa_ui 126 _ _ _ (by decide)) ?_
          have e1 : br1 s = up1 s 4 (s 4 + (s 11 + 1)) := by
            have q : iwF s = 1 := by rcases iw_b s with q | q <;> omega
            unfold br1; rw [q]
          have J54 := J54 z (some (aI ((12 : Nat) : Int))) none hz
          rw [e1] at J54
          exact J54
      · exact absurd h5 (by decide)
    | succ d ih =>
      intro k z hk hz
      refine aw_iload_n dX9_breaks_2 rfl ?_
      refine aw_bipush dX9_breaks_3 (by decide) ?_
      refine aw_ic_ge (tgt := 25) dX9_breaks_5 (by decide) ⟨by omega, by omega⟩ ⟨by decide, by decide⟩ (fun h5 => ?_) (fun h5 => ?_)
      · exact absurd h5 (by omega)
      · refine aw_aload_n dX9_breaks_8 rfl ?_
        refine aw_getr (x := 130) dX9_breaks_9 ci9 (by decide) fX9_22 (by decide) (by decide +kernel) rfl ((hHR 125 6 (by decide) (by decide +kernel)).trans rfl) ?_
        refine aw_iload_n dX9_breaks_12 rfl ?_
        refine aw_aload_n dX9_breaks_13 rfl ?_
        refine aw_iload_n dX9_breaks_14 rfl ?_
        refine aw_V1x dX9_breaks_15 clX9_58 ⟨by decide, by decide⟩ (c := 9) (N := 11) (by decide) (by decide +kernel) rfl (c_X9_stampOf hHR hM ⟨by omega, by omega⟩) (by decide) (by decide) rfl rfl (by simp only [List.length_cons, List.length_nil]; omega) ?_
        refine aw_iast (N := 12) dX9_breaks_18 (by decide) (by decide +kernel) (by omega) (by omega) (by decide) (pa2_ui (by decide) _ _ _ _ (by omega)) ?_
        refine aw_iinc (ls2 := [_, _, _]) dX9_breaks_19 rfl (by decide) rfl ?_
        refine aw_goto (tgt := 2) dX9_breaks_22 (by decide) ?_
        refine ih (k + 1) _ (by omega) (fun j h0 h1 => ?_)
        unfold up1
        split
        · next e => rw [e]
        · exact hz j h0 (by omega)
  refine aw_iconst dX9_breaks_0 ?_
  refine aw_istore_n (ls2 := [_, _, _]) dX9_breaks_1 (by decide) rfl ?_
  exact loop1 12 0 z (by omega) (fun j h0 h1 => by omega)
theorem c_X9_breaks (hHR : HRk hr) (hM : MI s) : AMet E M_X9_breaks [aR 125] (pa 126 hi s) hr 131 (PI (fun v h r2 n2 => v = (lsF s : Int) ∧ r2 = hr ∧ n2 = 131 ∧ ∃ w : Int → Int, h = pa 126 (pa 130 hi w) (brS s))) := by
  have g := c_X9_breaks0 (E := E) (hi := hi) (z := fun k => hi 130 k.toNat) hHR hM
  rw [pa_self] at g
  exact g
set_option maxRecDepth 100000 in
set_option maxHeartbeats 4000000 in
theorem c_X9_ones {a : Nat} (ha : a < 4096) : AMet E M_X9_ones [aI (a : Int)] hi hr 131 (EX (some (aI (onA a 12))) hi hr 131) := by
  refine am_of (by decide +kernel) (Nat.le_of_ble_eq_true rfl) ?_
  have loop : ∀ (d k : Nat), k + d = 12 → AW E M_X9_ones 0 0 4 [some (aI (a : Int)), some (aI (onA a k)), some (aI (k : Int))] [] hi hr 131 (EX (some (aI (onA a 12))) hi hr 131) := by
    intro d
    induction d with
    | zero =>
      intro k hk
      have hk' : k = 12 := by omega
      subst hk'
      refine aw_iload_n dX9_ones_4 rfl ?_
      refine aw_bipush dX9_ones_5 (by decide) ?_
      refine aw_ic_ge (tgt := 24) dX9_ones_7 (by decide) ⟨by decide, by decide⟩ ⟨by decide, by decide⟩ (fun h7 => ?_) (fun h7 => ?_)
      · refine aw_iload_n dX9_ones_24 rfl ?_
        refine aw_iret dX9_ones_25 rfl (by decide) (by decide) ?_
        exact EX.rf
      · exact absurd h7 (by decide)
    | succ d ih =>
      intro k hk
      refine aw_iload_n dX9_ones_4 rfl ?_
      refine aw_bipush dX9_ones_5 (by decide) ?_
      refine aw_ic_ge (tgt := 24) dX9_ones_7 (by decide) ⟨by omega, by omega⟩ ⟨by decide, by decide⟩ (fun h7 => ?_) (fun h7 => ?_)
      · exact absurd h7 (by omega)
      · refine aw_iload_n dX9_ones_10 rfl ?_
        refine aw_iload_n dX9_ones_11 rfl ?_
        refine aw_iload_n dX9_ones_12 rfl ?_
        refine aw_shrN (a := a) (k := k) dX9_ones_13 ha (by omega) ?_
        refine aw_iconst dX9_ones_14 ?_
        refine aw_iand (a := a / 2 ^ k) (b := 1) dX9_ones_15 rfl rfl ?_
        refine aw_iadd dX9_ones_16 ?_
        refine aw_istore_n (ls2 := [_, _, _]) dX9_ones_17 (by decide) rfl ?_
        refine aw_iinc (ls2 := [_, _, _]) dX9_ones_18 rfl (by decide) rfl ?_
        refine aw_goto (tgt := 4) dX9_ones_21 (by decide) ?_
        exact ih (k + 1) (by omega)
  refine aw_iconst dX9_ones_0 ?_
  refine aw_istore_n (ls2 := [_, _, _]) dX9_ones_1 (by decide) rfl ?_
  refine aw_iconst dX9_ones_2 ?_
  refine aw_istore_n (ls2 := [_, _, _]) dX9_ones_3 (by decide) rfl ?_
  exact loop 12 0 (by omega)
set_option maxRecDepth 100000 in
set_option maxHeartbeats 4000000 in
theorem c_X9_turnsOff (hHR : HRk hr) (hM : MI s) : AMet E M_X9_turnsOff [aR 125] (pa 126 hi s) hr 131 (PI (fun v h r2 n2 => v = (ofF s).1 ∧ r2 = hr ∧ n2 = 131 ∧ ∃ w : Int → Int, h = pa 126 (pa 130 hi w) (ofF s).2)) := by
  refine am_of (by decide +kernel) (Nat.le_of_ble_eq_true rfl) ?_
  have h1 := hM.2.2.2.2.2.1
  have hlt := lsF_lt s
  refine aw_aload_n dX9_turnsOff_0 rfl ?_
  refine aw_V0x dX9_turnsOff_1 clX9_107 ⟨by decide, by decide⟩ (c := 9) (N := 11) (by decide) (by decide +kernel) rfl (c_X9_isOff hHR hM) (by decide) (by decide) rfl rfl (by simp only [List.length_cons, List.length_nil]; omega) ?_
  refine aw_if_eq (tgt := 10) dX9_turnsOff_4 (by decide) (hM.r _ (by unfold xc; omega)) (fun h4 => ?_) (fun h4 => ?_)
  · refine aw_aload_n dX9_turnsOff_10 rfl ?_
    refine aw_V0i dX9_turnsOff_11 clX9_110 ⟨by decide, by decide⟩ (c := 9) (N := 11) (by decide) (by decide +kernel) rfl (c_X9_breaks hHR hM) (by decide) (by decide) rfl rfl (by simp only [List.length_cons, List.length_nil]; omega) (fun v h2 r2 n2 q => ?_)
    obtain ⟨rfl, rfl, rfl, w, rfl⟩ := q
    refine aw_S1x dX9_turnsOff_14 clX9_113 ⟨by decide, by decide⟩ (c_X9_ones hlt) (by decide) (by decide) rfl rfl (by simp only [List.length_cons, List.length_nil]; omega) ?_
    refine aw_istore_n (ls2 := [_, _]) dX9_turnsOff_17 (by decide) rfl ?_
    refine aw_aload_n dX9_turnsOff_18 rfl ?_
    refine aw_getr (x := 126) dX9_turnsOff_19 ci9 (by decide) fX9_7 (by decide) (by decide +kernel) rfl ((hHR 125 0 (by decide) (by decide +kernel)).trans rfl) ?_
    refine aw_iconst dX9_turnsOff_22 ?_
    refine aw_dup2 dX9_turnsOff_23 ?_
    refine aw_iald (N := 256) dX9_turnsOff_24 (Or.inl ⟨(by decide), (by decide +kernel)⟩) (by decide) (by decide) (by decide) (pa_gi 126 _ _ (by decide)) ?_
    refine aw_iload_n dX9_turnsOff_25 rfl ?_
    refine aw_iadd dX9_turnsOff_26 ?_
    refine aw_iast (N := 256) dX9_turnsOff_27 (by decide) (by decide +kernel) (by decide) (by decide) (by decide) (pa_ui 126 _ _ _ (by decide)) ?_
    refine aw_iload_n dX9_turnsOff_28 rfl ?_
    refine aw_iret dX9_turnsOff_29 rfl (by decide) (by decide) ?_
    refine ⟨_, rfl, ?_, rfl, rfl, w, ?_⟩
    · unfold ofF; rw [if_neg (by omega)]
    · unfold ofF; rw [if_neg (by omega)]
  · refine aw_bipush dX9_turnsOff_7 (by decide) ?_
    refine aw_iret dX9_turnsOff_9 rfl (by decide) (by decide) ?_
    refine ⟨_, rfl, ?_, rfl, rfl, fun k => hi 130 k.toNat, ?_⟩
    · unfold ofF; rw [if_pos (by omega)]
    · unfold ofF; rw [if_pos (by omega), pa_self]
end TWIN4
