/-! the law: what must hold at all times -/
def beA (s : Int → Int) : Nat → Int
  | 0 => 0
  | k + 1 => beA s k + if s (24 + 4 * (k : Int)) = 1 then 1 else 0
theorem pg_ix {k : Int} (h0 : 0 ≤ k) (h1 : k < 32) : 24 + 4 * (16 * (k / 16) + k % 16) = 24 + 4 * k := by omega
theorem pg0 (s : Int → Int) {k : Int} (h0 : 0 ≤ k) (h1 : k < 32) : pgF s (k / 16) (k % 16) 0 = s (24 + 4 * k) := by
  unfold pgF
  rw [if_neg (by omega), if_pos rfl, pg_ix h0 h1]
theorem pg_at {k : Int} (h0 : 0 ≤ k) (h1 : k < 32) : atI (24 * (k / 16) + k % 16) = 24 + 4 * k := by
  unfold atI
  rw [show (24 * (k / 16) + k % 16) % 24 = k % 16 by omega, show (24 * (k / 16) + k % 16) / 24 = k / 16 by omega, if_pos (by omega), pg_ix h0 h1]
theorem PW.k {s : Int → Int} (h : PW s) {k : Int} (h0 : 0 ≤ k) (h1 : k < 32) (g : s (24 + 4 * k) = 1) : iwF s = 1 ∧ 24 * (k / 16) + k % 16 = 24 * s 2 + s 248 :=
  h (24 * (k / 16) + k % 16) (by omega) (by omega) (by omega) (by rw [pg_at h0 h1]; exact g)
theorem be_eq {s : Int → Int} (hM : MI s) (h : PW s) (hw : iwF s = 1 → s (24 + 4 * (16 * s 2 + s 248)) = 1) : ∀ k : Nat, k ≤ 32 → beA s k = if iwF s = 1 ∧ 16 * s 2 + s 248 < k then 1 else 0 := by
  have hb := hM.2.1
  have p1 := hM.2.2.2.1
  have p0 := hM.z 248 (by unfold xc; omega)
  intro k
  induction k with
  | zero => intro _; show (0 : Int) = _; rw [if_neg (by omega)]
  | succ k ih =>
    intro hk
    show beA s k + (if s (24 + 4 * (k : Int)) = 1 then 1 else 0) = _
    rw [ih (by omega)]
    by_cases c : s (24 + 4 * (k : Int)) = 1
    · have g := h.k (by omega) (by omega) c
      rw [if_pos c, if_neg (by omega), if_pos ⟨g.1, by omega⟩]
      rfl
    · rw [if_neg c]
      by_cases d : iwF s = 1 ∧ 16 * s 2 + s 248 < (k : Int)
      · rw [if_pos d, if_pos ⟨d.1, by omega⟩]; rfl
      · rw [if_neg d]
        by_cases d2 : iwF s = 1 ∧ 16 * s 2 + s 248 < ((k + 1 : Nat) : Int)
        · exfalso
          have e : 16 * s 2 + s 248 = (k : Int) := by have := d2.2; have z := fun x => d ⟨d2.1, x⟩; omega
          have := hw d2.1
          rw [e] at this
          exact c this
        · rw [if_neg d2]; rfl
theorem be_32 {s : Int → Int} (hM : MI s) (h : PW s) (hw : iwF s = 1 → s (24 + 4 * (16 * s 2 + s 248)) = 1) : beA s 32 = iwF s := by
  have hb := hM.2.1
  have p1 := hM.2.2.2.1
  have p0 := hM.z 248 (by unfold xc; omega)
  rw [be_eq hM h hw 32 (by decide)]
  rcases iw_b s with q | q
  · rw [if_neg (by omega), q]
  · rw [if_pos ⟨q, by omega⟩, q]
theorem Rl.bw {t : TS} {s : Int → Int} (h : Rl t s) (hw : iwF s = 1) : s (24 + 4 * (16 * s 2 + s 248)) = 1 := by
  have hM := h.1.1
  have hb := hM.2.1
  have p1 := hM.2.2.2.1
  have p0 := hM.z 248 (by unfold xc; omega)
  obtain ⟨-, -, -, -, -, -, -, -, -, -, -, a12, -⟩ := h.2.2.2.2.2.1.2.1 hw
  have e := (h.2.2.1 (24 * s 2 + s 248) (by omega) (by omega)).1
  rw [atI_pg hb p0 (by omega), a12] at e
  exact e.symm
/-- the place of a key, as it is told -/
theorem po_no {s : Int → Int} {key w : Int} (h : plc s key = -1) (k0 : 0 ≤ key) (k1 : key ≤ 11) (w0 : 0 ≤ w) (w1 : w ≤ 2) : poF s key w = -4 := by
  unfold poF
  rw [if_neg (by omega), if_pos (by omega)]
theorem po_is {s : Int → Int} {key : Int} (h : 0 ≤ plc s key) (k0 : 0 ≤ key) (k1 : key ≤ 11) : poF s key 0 = plc s key / 24 ∧ poF s key 1 = plc s key % 24 ∧ poF s key 2 = s (atI (plc s key) + 3) := by
  unfold poF
  refine ⟨?_, ?_, ?_⟩
  · rw [if_neg (by omega), if_neg (by omega), if_pos rfl]
  · rw [if_neg (by omega), if_neg (by omega), if_neg (by decide), if_pos rfl]
  · rw [if_neg (by omega), if_neg (by omega), if_neg (by decide), if_neg (by decide)]
theorem pl_pg {s : Int → Int} {c : Int} (c0 : 0 ≤ c) (c1 : c < 48) (c2 : c % 24 < 16) (hk : s (atI c) = 2) {w : Int} (w0 : 1 ≤ w) (w1 : w ≤ 3) : pgF s (c / 24) (c % 24) w = s (atI c + w) := by
  have e : atI c = 24 + 4 * (16 * (c / 24) + c % 24) := by unfold atI; rw [if_pos c2]
  unfold pgF
  rw [if_neg (by omega), if_neg (by omega), if_neg (by omega), if_neg (by omega), ← e, if_pos hk]
theorem pl_bk {s : Int → Int} {c : Int} (c0 : 0 ≤ c) (c1 : c < 48) (c2 : 16 ≤ c % 24) (hk : s (atI c) = 2) : bpF s (c / 24) (c % 24 - 16) 0 = 1 ∧ bpF s (c / 24) (c % 24 - 16) 1 = s (atI c + 1) := by
  have e : atI c = 152 + 4 * (8 * (c / 24) + (c % 24 - 16)) := by unfold atI; rw [if_neg (by omega)]
  unfold bpF
  constructor
  · rw [if_neg (by omega), ← e, if_neg (by omega), if_neg (by decide), if_pos hk]
  · rw [if_neg (by omega), ← e, if_neg (by omega), if_pos (by decide)]
/-- two keys are nowhere at one stamp -/
theorem SK.two {s : Int → Int} (h : SK s) {k j : Int} (hk : 0 ≤ plc s k) (j0 : 0 ≤ j) (j1 : j ≤ 11) (hn : ¬ j = k) (k0 : 0 ≤ k) (k1 : k ≤ 11) : ¬ poF s j 2 = poF s k 2 := by
  intro e
  obtain ⟨-, -, ek⟩ := po_is hk k0 k1
  rcases plc_k (s := s) k with g | ⟨g1, g2, g3, g4, g5⟩
  · omega
  · rcases plc_k (s := s) j with f | ⟨f1, f2, f3, f4, f5⟩
    · rw [po_no f j0 j1 (by decide) (by decide), ek] at e
      omega
    · obtain ⟨-, -, ej⟩ := po_is f1 j0 j1
      rw [ej, ek] at e
      have := h.1 (s (atI (plc s k) + 3)) k j (Or.inl ⟨plc s k, ⟨g1, g2⟩, Or.inl g3, rfl, g4.symm⟩) (Or.inl ⟨plc s j, ⟨f1, f2⟩, Or.inl f3, e.symm, f4.symm⟩)
      exact hn this.symm
theorem wt_in {s : Int → Int} {i : Int} (h0 : 0 ≤ i) (h1 : i < s 11) : wtF s i 2 = s (216 + 4 * i + 2) := by
  unfold wtF
  rw [if_neg (by omega), if_pos h1]
theorem wt_no {s : Int → Int} (h0 : 0 ≤ s 11) : wtF s (s 11) 0 = -4 := by
  unfold wtF
  rw [if_neg (by omega), if_neg (by omega)]
/-- fewer locals, one by one -/
def LSS (a b : List (Option AV)) : Prop := a.length = b.length ∧ ∀ (i : Nat) (v : AV), a[i]? = some (some v) → b[i]? = some (some v)
theorem lsn : LSS [] [] := ⟨rfl, fun _ _ h => h⟩
theorem lsk {a b : List (Option AV)} {x : Option AV} (h : LSS a b) : LSS (x :: a) (x :: b) := by
  refine ⟨by simp [h.1], fun i v g => ?_⟩
  cases i with
  | zero => exact g
  | succ i => exact h.2 i v g
theorem lsd {a b : List (Option AV)} {x : Option AV} (h : LSS a b) : LSS (none :: a) (x :: b) := by
  refine ⟨by simp [h.1], fun i v g => ?_⟩
  cases i with
  | zero => cases g
  | succ i => exact h.2 i v g
section HOLDS
variable {E : ET} {M : MT} {cu su pc : Nat} {ls ls2 : List (Option AV)} {st : List AV} {hi : HI} {hr : HR} {nn : Nat} {Q : QT} {q : Nat → Nat} {m : Int} {s : Int → Int} {P : Nat → Int → Int} {n : Int}
theorem aw_ls (h : LSS ls2 ls) (k : AW E M cu su pc ls2 st hi hr nn Q) : AW E M cu su pc ls st hi hr nn Q := aw_less h.1 h.2 k
theorem trA_b (s : Int → Int) : ∀ k : Nat, 0 ≤ trA s k ∧ trA s k ≤ k := by
  intro k
  induction k with
  | zero => exact ⟨Int.le_refl _, Int.le_refl _⟩
  | succ k ih =>
    unfold trA
    split <;> omega
theorem kyA_b (s : Int → Int) : ∀ k : Nat, 0 ≤ kyA s k ∧ kyA s k ≤ k := by
  intro k
  induction k with
  | zero => exact ⟨Int.le_refl _, Int.le_refl _⟩
  | succ k ih =>
    unfold kyA
    split <;> omega
theorem po_r {s : Int → Int} (hM : MI s) {key w : Int} (k0 : 0 ≤ key) (k1 : key ≤ 11) (w0 : 0 ≤ w) (w1 : w ≤ 2) : InR (poF s key w) := by
  rcases plc_k (s := s) key with g | ⟨g1, g2, g3, g4, g5⟩
  · unfold poF
    rw [if_neg (by omega), if_pos (by omega)]
    exact ⟨by decide, by decide⟩
  · have b := atI_b g1 g2
    have r := hM.r (atI (plc s key) + 3) (by unfold xc; omega)
    unfold poF
    rw [if_neg (by omega), if_neg (by omega)]
    split
    · exact ⟨by omega, by omega⟩
    · split
      · exact ⟨by omega, by omega⟩
      · exact r
set_option maxRecDepth 100000 in
set_option maxHeartbeats 4000000 in
theorem c_L_holds (c : CIv hr hi q m s P) (hEN : EN E) (hO : OX s n) : AMet E M_L_holds [aR 0] hi hr 125 (EX (some (aI 1)) hi hr 125) := by
  refine am_of (by decide +kernel) (Nat.le_of_ble_eq_true rfl) ?_
  have hM := hO.1.1
  have hBK := hO.2.1
  obtain ⟨⟨hPW, hSK, hWB⟩, hSO, hOF⟩ := hO.2.2
  have hb := hM.2.1
  have h8 := hM.2.2.1
  have h1 := hM.2.2.2.2.2.1
  have z11 := hM.z 11 (by unfold xc; omega)
  have b3 := hM.b 253 (by unfold xc; omega)
  have b4 := hM.b 254 (by unfold xc; omega)
  have z3 := hM.z 253 (by unfold xc; omega)
  have z4 := hM.z 254 (by unfold xc; omega)
  have hB : BIG = 1000000 := rfl
  have eB : beA s 32 = iwF s := be_32 hM hPW (fun hw => c.2.2.2.1.1.bw hw)
  have ib := iw_b s
  have r2 : InR (s 2) := ⟨by omega, by omega⟩
  have rB : InR (beA s 32) := ⟨by omega, by omega⟩
  have rT : InR (trA s 32) := by have := trA_b s 32; exact ⟨by omega, by omega⟩
  have rN : InR (kyA s 12) := by have := kyA_b s 12; exact ⟨by omega, by omega⟩
  have cnt : ∀ (w v : Int), InR w → cnF s m (hi 122 1) w = v → AMet E M_X8_count [aR 0, aI w] hi hr 125 (EX (some (aI v)) hi hr 125) := fun w v hw e => by rw [← e]; exact c_X8_count c hBK hw
  have k299 : AW E M_L_holds 0 0 299 [some (aR 0), some (aI (trA s 32)), some (aI (beA s 32)), some (aI (kyA s 12)), none, none, none, none] [] hi hr 125 (EX (some (aI 1)) hi hr 125) := by
    have gw : AMet E M_X8_waits [aR 0, aI (s 11), aI 0] hi hr 125 (EX (some (aI (-4))) hi hr 125) := by
      have g := c_X8_waits (E := E) c (i := s 11) (w := 0) ⟨by omega, by omega⟩ ⟨by decide, by decide⟩
      rw [wt_no z11] at g
      exact g
    rcases ib with iw | iw
    · have iw0 : beA s 32 = 0 := by omega
      obtain ⟨v6, e6, c6⟩ : ∃ v6 : Int, cnF s m (hi 122 1) 6 = v6 ∧ v6 = -4 := ⟨-4, by simp [cnF, ctF, iw], rfl⟩
      refine aw_aload_n dL_holds_299 rfl ?_
      refine aw_iconst dL_holds_300 ?_
      refine aw_V1x dL_holds_301 clL_13 ⟨by decide, by decide⟩ (c := 8) (N := 5) (by decide) (by decide +kernel) rfl (cnt 1 (1 - s 1) ⟨by decide, by decide⟩ (by simp [cnF, ctF])) (by decide) (by decide) rfl rfl (by simp only [List.length_cons, List.length_nil]; omega) ?_
      refine aw_if_ne (tgt := 311) dL_holds_304 (by decide) ⟨by omega, by omega⟩ (fun h304 => ?_) (fun h304 => ?_)
      · refine aw_iconst dL_holds_311 ?_
        refine aw_istore (ls2 := [_, _, _, _, _, _, _, _]) dL_holds_312 (by decide) rfl ?_
        refine aw_iload_n dL_holds_314 rfl ?_
        refine aw_aload_n dL_holds_315 rfl ?_
        refine aw_bipush dL_holds_316 (by decide) ?_
        refine aw_V1x dL_holds_318 clL_13 ⟨by decide, by decide⟩ (c := 8) (N := 5) (by decide) (by decide +kernel) rfl (cnt 10 (trA s 32) ⟨by decide, by decide⟩ (by simp [cnF, ctF])) (by decide) (by decide) rfl rfl (by simp only [List.length_cons, List.length_nil]; omega) ?_
        refine aw_ic_ne (tgt := 417) dL_holds_321 (by decide) rT rT (fun h321 => ?_) (fun h321 => ?_)
        · exact absurd rfl h321
        · refine aw_iload_n dL_holds_324 rfl ?_
          refine aw_aload_n dL_holds_325 rfl ?_
          refine aw_iconst dL_holds_326 ?_
          refine aw_V1x dL_holds_327 clL_13 ⟨by decide, by decide⟩ (c := 8) (N := 5) (by decide) (by decide +kernel) rfl (cnt 5 (beA s 32) ⟨by decide, by decide⟩ (by rw [eB]; simp [cnF, ctF])) (by decide) (by decide) rfl rfl (by simp only [List.length_cons, List.length_nil]; omega) ?_
          refine aw_ic_ne (tgt := 417) dL_holds_330 (by decide) rB rB (fun h330 => ?_) (fun h330 => ?_)
          · exact absurd rfl h330
          · refine aw_iload_n dL_holds_333 rfl ?_
            refine aw_aload_n dL_holds_334 rfl ?_
            refine aw_bipush dL_holds_335 (by decide) ?_
            refine aw_V1x dL_holds_337 clL_13 ⟨by decide, by decide⟩ (c := 8) (N := 5) (by decide) (by decide +kernel) rfl (cnt 11 (kyA s 12) ⟨by decide, by decide⟩ (by simp [cnF, ctF])) (by decide) (by decide) rfl rfl (by simp only [List.length_cons, List.length_nil]; omega) ?_
            refine aw_ic_ne (tgt := 417) dL_holds_340 (by decide) rN rN (fun h340 => ?_) (fun h340 => ?_)
            · exact absurd rfl h340
            · refine aw_aload_n dL_holds_343 rfl ?_
              refine aw_bipush dL_holds_344 (by decide) ?_
              refine aw_V1x dL_holds_346 clL_13 ⟨by decide, by decide⟩ (c := 8) (N := 5) (by decide) (by decide +kernel) rfl (cnt 6 v6 ⟨by decide, by decide⟩ e6) (by decide) (by decide) rfl rfl (by simp only [List.length_cons, List.length_nil]; omega) ?_
              refine aw_bipush dL_holds_349 (by decide) ?_
              refine aw_ic_ne (tgt := 358) dL_holds_351 (by decide) ⟨by omega, by omega⟩ ⟨by decide, by decide⟩ (fun h351 => ?_) (fun h351 => ?_)
              · exact absurd c6 h351
              · refine aw_iconst dL_holds_354 ?_
                refine aw_goto (tgt := 359) dL_holds_355 (by decide) ?_
                refine aw_iload_n dL_holds_359 rfl ?_
                refine aw_if_ne (tgt := 367) dL_holds_360 (by decide) rB (fun h360 => ?_) (fun h360 => ?_)
                · exact absurd h360 (by omega)
                · refine aw_iconst dL_holds_363 ?_
                  refine aw_goto (tgt := 368) dL_holds_364 (by decide) ?_
                  refine aw_ic_ne (tgt := 417) dL_holds_368 (by decide) ⟨by decide, by decide⟩ ⟨by decide, by decide⟩ (fun h368 => ?_) (fun h368 => ?_)
                  · exact absurd h368 (by decide)
                  · refine aw_aload_n dL_holds_371 rfl ?_
                    refine aw_iconst dL_holds_372 ?_
                    refine aw_V1x dL_holds_373 clL_13 ⟨by decide, by decide⟩ (c := 8) (N := 5) (by decide) (by decide +kernel) rfl (cnt 4 (s 11) ⟨by decide, by decide⟩ (by simp [cnF, ctF])) (by decide) (by decide) rfl rfl (by simp only [List.length_cons, List.length_nil]; omega) ?_
                    refine aw_bipush dL_holds_376 (by decide) ?_
                    refine aw_ic_gt (tgt := 417) dL_holds_378 (by decide) ⟨by omega, by omega⟩ ⟨by decide, by decide⟩ (fun h378 => ?_) (fun h378 => ?_)
                    · exact absurd h378 (by omega)
                    · refine aw_iload dL_holds_381 rfl ?_
                      refine aw_if_eq (tgt := 398) dL_holds_383 (by decide) ⟨by decide, by decide⟩ (fun h383 => ?_) (fun h383 => ?_)
                      · refine aw_aload_n dL_holds_398 rfl ?_
                        refine aw_aload_n dL_holds_399 rfl ?_
                        refine aw_iconst dL_holds_400 ?_
                        refine aw_V1x dL_holds_401 clL_13 ⟨by decide, by decide⟩ (c := 8) (N := 5) (by decide) (by decide +kernel) rfl (cnt 4 (s 11) ⟨by decide, by decide⟩ (by simp [cnF, ctF])) (by decide) (by decide) rfl rfl (by simp only [List.length_cons, List.length_nil]; omega) ?_
                        refine aw_iconst dL_holds_404 ?_
                        refine aw_V2x dL_holds_405 clL_26 ⟨by decide, by decide⟩ (c := 8) (N := 5) (by decide) (by decide +kernel) rfl gw (by decide) (by decide) rfl rfl (by simp only [List.length_cons, List.length_nil]; omega) ?_
                        refine aw_bipush dL_holds_408 (by decide) ?_
                        refine aw_ic_ne (tgt := 417) dL_holds_410 (by decide) ⟨by decide, by decide⟩ ⟨by decide, by decide⟩ (fun h410 => ?_) (fun h410 => ?_)
                        · exact absurd rfl h410
                        · refine aw_iconst dL_holds_413 ?_
                          refine aw_goto (tgt := 418) dL_holds_414 (by decide) ?_
                          refine aw_zret dL_holds_418 rfl (Or.inr rfl) (by decide) (by decide) ?_
                          exact EX.rf
                      · exact absurd h383 (by decide)
      · refine aw_iconst dL_holds_307 ?_
        refine aw_goto (tgt := 312) dL_holds_308 (by decide) ?_
        refine aw_istore (ls2 := [_, _, _, _, _, _, _, _]) dL_holds_312 (by decide) rfl ?_
        refine aw_iload_n dL_holds_314 rfl ?_
        refine aw_aload_n dL_holds_315 rfl ?_
        refine aw_bipush dL_holds_316 (by decide) ?_
        refine aw_V1x dL_holds_318 clL_13 ⟨by decide, by decide⟩ (c := 8) (N := 5) (by decide) (by decide +kernel) rfl (cnt 10 (trA s 32) ⟨by decide, by decide⟩ (by simp [cnF, ctF])) (by decide) (by decide) rfl rfl (by simp only [List.length_cons, List.length_nil]; omega) ?_
        refine aw_ic_ne (tgt := 417) dL_holds_321 (by decide) rT rT (fun h321 => ?_) (fun h321 => ?_)
        · exact absurd rfl h321
        · refine aw_iload_n dL_holds_324 rfl ?_
          refine aw_aload_n dL_holds_325 rfl ?_
          refine aw_iconst dL_holds_326 ?_
          refine aw_V1x dL_holds_327 clL_13 ⟨by decide, by decide⟩ (c := 8) (N := 5) (by decide) (by decide +kernel) rfl (cnt 5 (beA s 32) ⟨by decide, by decide⟩ (by rw [eB]; simp [cnF, ctF])) (by decide) (by decide) rfl rfl (by simp only [List.length_cons, List.length_nil]; omega) ?_
          refine aw_ic_ne (tgt := 417) dL_holds_330 (by decide) rB rB (fun h330 => ?_) (fun h330 => ?_)
          · exact absurd rfl h330
          · refine aw_iload_n dL_holds_333 rfl ?_
            refine aw_aload_n dL_holds_334 rfl ?_
            refine aw_bipush dL_holds_335 (by decide) ?_
            refine aw_V1x dL_holds_337 clL_13 ⟨by decide, by decide⟩ (c := 8) (N := 5) (by decide) (by decide +kernel) rfl (cnt 11 (kyA s 12) ⟨by decide, by decide⟩ (by simp [cnF, ctF])) (by decide) (by decide) rfl rfl (by simp only [List.length_cons, List.length_nil]; omega) ?_
            refine aw_ic_ne (tgt := 417) dL_holds_340 (by decide) rN rN (fun h340 => ?_) (fun h340 => ?_)
            · exact absurd rfl h340
            · refine aw_aload_n dL_holds_343 rfl ?_
              refine aw_bipush dL_holds_344 (by decide) ?_
              refine aw_V1x dL_holds_346 clL_13 ⟨by decide, by decide⟩ (c := 8) (N := 5) (by decide) (by decide +kernel) rfl (cnt 6 v6 ⟨by decide, by decide⟩ e6) (by decide) (by decide) rfl rfl (by simp only [List.length_cons, List.length_nil]; omega) ?_
              refine aw_bipush dL_holds_349 (by decide) ?_
              refine aw_ic_ne (tgt := 358) dL_holds_351 (by decide) ⟨by omega, by omega⟩ ⟨by decide, by decide⟩ (fun h351 => ?_) (fun h351 => ?_)
              · exact absurd c6 h351
              · refine aw_iconst dL_holds_354 ?_
                refine aw_goto (tgt := 359) dL_holds_355 (by decide) ?_
                refine aw_iload_n dL_holds_359 rfl ?_
                refine aw_if_ne (tgt := 367) dL_holds_360 (by decide) rB (fun h360 => ?_) (fun h360 => ?_)
                · exact absurd h360 (by omega)
                · refine aw_iconst dL_holds_363 ?_
                  refine aw_goto (tgt := 368) dL_holds_364 (by decide) ?_
                  refine aw_ic_ne (tgt := 417) dL_holds_368 (by decide) ⟨by decide, by decide⟩ ⟨by decide, by decide⟩ (fun h368 => ?_) (fun h368 => ?_)
                  · exact absurd h368 (by decide)
                  · refine aw_aload_n dL_holds_371 rfl ?_
                    refine aw_iconst dL_holds_372 ?_
                    refine aw_V1x dL_holds_373 clL_13 ⟨by decide, by decide⟩ (c := 8) (N := 5) (by decide) (by decide +kernel) rfl (cnt 4 (s 11) ⟨by decide, by decide⟩ (by simp [cnF, ctF])) (by decide) (by decide) rfl rfl (by simp only [List.length_cons, List.length_nil]; omega) ?_
                    refine aw_bipush dL_holds_376 (by decide) ?_
                    refine aw_ic_gt (tgt := 417) dL_holds_378 (by decide) ⟨by omega, by omega⟩ ⟨by decide, by decide⟩ (fun h378 => ?_) (fun h378 => ?_)
                    · exact absurd h378 (by omega)
                    · refine aw_iload dL_holds_381 rfl ?_
                      refine aw_if_eq (tgt := 398) dL_holds_383 (by decide) ⟨by decide, by decide⟩ (fun h383 => ?_) (fun h383 => ?_)
                      · exact absurd h383 (by decide)
                      · refine aw_iload_n dL_holds_386 rfl ?_
                        refine aw_if_ne (tgt := 417) dL_holds_387 (by decide) rB (fun h387 => ?_) (fun h387 => ?_)
                        · exact absurd h387 (by omega)
                        · refine aw_aload_n dL_holds_390 rfl ?_
                          refine aw_iconst dL_holds_391 ?_
                          refine aw_V1x dL_holds_392 clL_13 ⟨by decide, by decide⟩ (c := 8) (N := 5) (by decide) (by decide +kernel) rfl (cnt 4 (s 11) ⟨by decide, by decide⟩ (by simp [cnF, ctF])) (by decide) (by decide) rfl rfl (by simp only [List.length_cons, List.length_nil]; omega) ?_
                          refine aw_if_ne (tgt := 417) dL_holds_395 (by decide) ⟨by omega, by omega⟩ (fun h395 => ?_) (fun h395 => ?_)
                          · exact absurd h395 (by first | omega | (have := (hOF (by omega)).2; omega))
                          · refine aw_aload_n dL_holds_398 rfl ?_
                            refine aw_aload_n dL_holds_399 rfl ?_
                            refine aw_iconst dL_holds_400 ?_
                            refine aw_V1x dL_holds_401 clL_13 ⟨by decide, by decide⟩ (c := 8) (N := 5) (by decide) (by decide +kernel) rfl (cnt 4 (s 11) ⟨by decide, by decide⟩ (by simp [cnF, ctF])) (by decide) (by decide) rfl rfl (by simp only [List.length_cons, List.length_nil]; omega) ?_
                            refine aw_iconst dL_holds_404 ?_
                            refine aw_V2x dL_holds_405 clL_26 ⟨by decide, by decide⟩ (c := 8) (N := 5) (by decide) (by decide +kernel) rfl gw (by decide) (by decide) rfl rfl (by simp only [List.length_cons, List.length_nil]; omega) ?_
                            refine aw_bipush dL_holds_408 (by decide) ?_
                            refine aw_ic_ne (tgt := 417) dL_holds_410 (by decide) ⟨by decide, by decide⟩ ⟨by decide, by decide⟩ (fun h410 => ?_) (fun h410 => ?_)
                            · exact absurd rfl h410
                            · refine aw_iconst dL_holds_413 ?_
                              refine aw_goto (tgt := 418) dL_holds_414 (by decide) ?_
                              refine aw_zret dL_holds_418 rfl (Or.inr rfl) (by decide) (by decide) ?_
                              exact EX.rf
    · have iw0 : beA s 32 = 1 := by omega
      have of : ¬ s 1 = 1 := fun g => by have := (hOF g).1; omega
      obtain ⟨v6, e6, c6, c7⟩ : ∃ v6 : Int, cnF s m (hi 122 1) 6 = v6 ∧ 0 ≤ v6 ∧ v6 ≤ 2000000 := ⟨s 253 + s 254, by simp [cnF, ctF, iw], by omega, by omega⟩
      refine aw_aload_n dL_holds_299 rfl ?_
      refine aw_iconst dL_holds_300 ?_
      refine aw_V1x dL_holds_301 clL_13 ⟨by decide, by decide⟩ (c := 8) (N := 5) (by decide) (by decide +kernel) rfl (cnt 1 (1 - s 1) ⟨by decide, by decide⟩ (by simp [cnF, ctF])) (by decide) (by decide) rfl rfl (by simp only [List.length_cons, List.length_nil]; omega) ?_
      refine aw_if_ne (tgt := 311) dL_holds_304 (by decide) ⟨by omega, by omega⟩ (fun h304 => ?_) (fun h304 => ?_)
      · refine aw_iconst dL_holds_311 ?_
        refine aw_istore (ls2 := [_, _, _, _, _, _, _, _]) dL_holds_312 (by decide) rfl ?_
        refine aw_iload_n dL_holds_314 rfl ?_
        refine aw_aload_n dL_holds_315 rfl ?_
        refine aw_bipush dL_holds_316 (by decide) ?_
        refine aw_V1x dL_holds_318 clL_13 ⟨by decide, by decide⟩ (c := 8) (N := 5) (by decide) (by decide +kernel) rfl (cnt 10 (trA s 32) ⟨by decide, by decide⟩ (by simp [cnF, ctF])) (by decide) (by decide) rfl rfl (by simp only [List.length_cons, List.length_nil]; omega) ?_
        refine aw_ic_ne (tgt := 417) dL_holds_321 (by decide) rT rT (fun h321 => ?_) (fun h321 => ?_)
        · exact absurd rfl h321
        · refine aw_iload_n dL_holds_324 rfl ?_
          refine aw_aload_n dL_holds_325 rfl ?_
          refine aw_iconst dL_holds_326 ?_
          refine aw_V1x dL_holds_327 clL_13 ⟨by decide, by decide⟩ (c := 8) (N := 5) (by decide) (by decide +kernel) rfl (cnt 5 (beA s 32) ⟨by decide, by decide⟩ (by rw [eB]; simp [cnF, ctF])) (by decide) (by decide) rfl rfl (by simp only [List.length_cons, List.length_nil]; omega) ?_
          refine aw_ic_ne (tgt := 417) dL_holds_330 (by decide) rB rB (fun h330 => ?_) (fun h330 => ?_)
          · exact absurd rfl h330
          · refine aw_iload_n dL_holds_333 rfl ?_
            refine aw_aload_n dL_holds_334 rfl ?_
            refine aw_bipush dL_holds_335 (by decide) ?_
            refine aw_V1x dL_holds_337 clL_13 ⟨by decide, by decide⟩ (c := 8) (N := 5) (by decide) (by decide +kernel) rfl (cnt 11 (kyA s 12) ⟨by decide, by decide⟩ (by simp [cnF, ctF])) (by decide) (by decide) rfl rfl (by simp only [List.length_cons, List.length_nil]; omega) ?_
            refine aw_ic_ne (tgt := 417) dL_holds_340 (by decide) rN rN (fun h340 => ?_) (fun h340 => ?_)
            · exact absurd rfl h340
            · refine aw_aload_n dL_holds_343 rfl ?_
              refine aw_bipush dL_holds_344 (by decide) ?_
              refine aw_V1x dL_holds_346 clL_13 ⟨by decide, by decide⟩ (c := 8) (N := 5) (by decide) (by decide +kernel) rfl (cnt 6 v6 ⟨by decide, by decide⟩ e6) (by decide) (by decide) rfl rfl (by simp only [List.length_cons, List.length_nil]; omega) ?_
              refine aw_bipush dL_holds_349 (by decide) ?_
              refine aw_ic_ne (tgt := 358) dL_holds_351 (by decide) ⟨by omega, by omega⟩ ⟨by decide, by decide⟩ (fun h351 => ?_) (fun h351 => ?_)
              · refine aw_iconst dL_holds_358 ?_
                refine aw_iload_n dL_holds_359 rfl ?_
                refine aw_if_ne (tgt := 367) dL_holds_360 (by decide) rB (fun h360 => ?_) (fun h360 => ?_)
                · refine aw_iconst dL_holds_367 ?_
                  refine aw_ic_ne (tgt := 417) dL_holds_368 (by decide) ⟨by decide, by decide⟩ ⟨by decide, by decide⟩ (fun h368 => ?_) (fun h368 => ?_)
                  · exact absurd h368 (by decide)
                  · refine aw_aload_n dL_holds_371 rfl ?_
                    refine aw_iconst dL_holds_372 ?_
                    refine aw_V1x dL_holds_373 clL_13 ⟨by decide, by decide⟩ (c := 8) (N := 5) (by decide) (by decide +kernel) rfl (cnt 4 (s 11) ⟨by decide, by decide⟩ (by simp [cnF, ctF])) (by decide) (by decide) rfl rfl (by simp only [List.length_cons, List.length_nil]; omega) ?_
                    refine aw_bipush dL_holds_376 (by decide) ?_
                    refine aw_ic_gt (tgt := 417) dL_holds_378 (by decide) ⟨by omega, by omega⟩ ⟨by decide, by decide⟩ (fun h378 => ?_) (fun h378 => ?_)
                    · exact absurd h378 (by omega)
                    · refine aw_iload dL_holds_381 rfl ?_
                      refine aw_if_eq (tgt := 398) dL_holds_383 (by decide) ⟨by decide, by decide⟩ (fun h383 => ?_) (fun h383 => ?_)
                      · refine aw_aload_n dL_holds_398 rfl ?_
                        refine aw_aload_n dL_holds_399 rfl ?_
                        refine aw_iconst dL_holds_400 ?_
                        refine aw_V1x dL_holds_401 clL_13 ⟨by decide, by decide⟩ (c := 8) (N := 5) (by decide) (by decide +kernel) rfl (cnt 4 (s 11) ⟨by decide, by decide⟩ (by simp [cnF, ctF])) (by decide) (by decide) rfl rfl (by simp only [List.length_cons, List.length_nil]; omega) ?_
                        refine aw_iconst dL_holds_404 ?_
                        refine aw_V2x dL_holds_405 clL_26 ⟨by decide, by decide⟩ (c := 8) (N := 5) (by decide) (by decide +kernel) rfl gw (by decide) (by decide) rfl rfl (by simp only [List.length_cons, List.length_nil]; omega) ?_
                        refine aw_bipush dL_holds_408 (by decide) ?_
                        refine aw_ic_ne (tgt := 417) dL_holds_410 (by decide) ⟨by decide, by decide⟩ ⟨by decide, by decide⟩ (fun h410 => ?_) (fun h410 => ?_)
                        · exact absurd rfl h410
                        · refine aw_iconst dL_holds_413 ?_
                          refine aw_goto (tgt := 418) dL_holds_414 (by decide) ?_
                          refine aw_zret dL_holds_418 rfl (Or.inr rfl) (by decide) (by decide) ?_
                          exact EX.rf
                      · exact absurd h383 (by decide)
                · exact absurd h360 (by omega)
              · exact absurd h351 (by omega)
      · refine aw_iconst dL_holds_307 ?_
        refine aw_goto (tgt := 312) dL_holds_308 (by decide) ?_
        refine aw_istore (ls2 := [_, _, _, _, _, _, _, _]) dL_holds_312 (by decide) rfl ?_
        refine aw_iload_n dL_holds_314 rfl ?_
        refine aw_aload_n dL_holds_315 rfl ?_
        refine aw_bipush dL_holds_316 (by decide) ?_
        refine aw_V1x dL_holds_318 clL_13 ⟨by decide, by decide⟩ (c := 8) (N := 5) (by decide) (by decide +kernel) rfl (cnt 10 (trA s 32) ⟨by decide, by decide⟩ (by simp [cnF, ctF])) (by decide) (by decide) rfl rfl (by simp only [List.length_cons, List.length_nil]; omega) ?_
        refine aw_ic_ne (tgt := 417) dL_holds_321 (by decide) rT rT (fun h321 => ?_) (fun h321 => ?_)
        · exact absurd rfl h321
        · refine aw_iload_n dL_holds_324 rfl ?_
          refine aw_aload_n dL_holds_325 rfl ?_
          refine aw_iconst dL_holds_326 ?_
          refine aw_V1x dL_holds_327 clL_13 ⟨by decide, by decide⟩ (c := 8) (N := 5) (by decide) (by decide +kernel) rfl (cnt 5 (beA s 32) ⟨by decide, by decide⟩ (by rw [eB]; simp [cnF, ctF])) (by decide) (by decide) rfl rfl (by simp only [List.length_cons, List.length_nil]; omega) ?_
          refine aw_ic_ne (tgt := 417) dL_holds_330 (by decide) rB rB (fun h330 => ?_) (fun h330 => ?_)
          · exact absurd rfl h330
          · refine aw_iload_n dL_holds_333 rfl ?_
            refine aw_aload_n dL_holds_334 rfl ?_
            refine aw_bipush dL_holds_335 (by decide) ?_
            refine aw_V1x dL_holds_337 clL_13 ⟨by decide, by decide⟩ (c := 8) (N := 5) (by decide) (by decide +kernel) rfl (cnt 11 (kyA s 12) ⟨by decide, by decide⟩ (by simp [cnF, ctF])) (by decide) (by decide) rfl rfl (by simp only [List.length_cons, List.length_nil]; omega) ?_
            refine aw_ic_ne (tgt := 417) dL_holds_340 (by decide) rN rN (fun h340 => ?_) (fun h340 => ?_)
            · exact absurd rfl h340
            · refine aw_aload_n dL_holds_343 rfl ?_
              refine aw_bipush dL_holds_344 (by decide) ?_
              refine aw_V1x dL_holds_346 clL_13 ⟨by decide, by decide⟩ (c := 8) (N := 5) (by decide) (by decide +kernel) rfl (cnt 6 v6 ⟨by decide, by decide⟩ e6) (by decide) (by decide) rfl rfl (by simp only [List.length_cons, List.length_nil]; omega) ?_
              refine aw_bipush dL_holds_349 (by decide) ?_
              refine aw_ic_ne (tgt := 358) dL_holds_351 (by decide) ⟨by omega, by omega⟩ ⟨by decide, by decide⟩ (fun h351 => ?_) (fun h351 => ?_)
              · refine aw_iconst dL_holds_358 ?_
                refine aw_iload_n dL_holds_359 rfl ?_
                refine aw_if_ne (tgt := 367) dL_holds_360 (by decide) rB (fun h360 => ?_) (fun h360 => ?_)
                · refine aw_iconst dL_holds_367 ?_
                  refine aw_ic_ne (tgt := 417) dL_holds_368 (by decide) ⟨by decide, by decide⟩ ⟨by decide, by decide⟩ (fun h368 => ?_) (fun h368 => ?_)
                  · exact absurd h368 (by decide)
                  · refine aw_aload_n dL_holds_371 rfl ?_
                    refine aw_iconst dL_holds_372 ?_
                    refine aw_V1x dL_holds_373 clL_13 ⟨by decide, by decide⟩ (c := 8) (N := 5) (by decide) (by decide +kernel) rfl (cnt 4 (s 11) ⟨by decide, by decide⟩ (by simp [cnF, ctF])) (by decide) (by decide) rfl rfl (by simp only [List.length_cons, List.length_nil]; omega) ?_
                    refine aw_bipush dL_holds_376 (by decide) ?_
                    refine aw_ic_gt (tgt := 417) dL_holds_378 (by decide) ⟨by omega, by omega⟩ ⟨by decide, by decide⟩ (fun h378 => ?_) (fun h378 => ?_)
                    · exact absurd h378 (by omega)
                    · refine aw_iload dL_holds_381 rfl ?_
                      refine aw_if_eq (tgt := 398) dL_holds_383 (by decide) ⟨by decide, by decide⟩ (fun h383 => ?_) (fun h383 => ?_)
                      · exact absurd h383 (by decide)
                      · refine aw_iload_n dL_holds_386 rfl ?_
                        refine aw_if_ne (tgt := 417) dL_holds_387 (by decide) rB (fun h387 => ?_) (fun h387 => ?_)
                        · exact absurd h387 (by omega)
                        · refine aw_aload_n dL_holds_390 rfl ?_
                          refine aw_iconst dL_holds_391 ?_
                          refine aw_V1x dL_holds_392 clL_13 ⟨by decide, by decide⟩ (c := 8) (N := 5) (by decide) (by decide +kernel) rfl (cnt 4 (s 11) ⟨by decide, by decide⟩ (by simp [cnF, ctF])) (by decide) (by decide) rfl rfl (by simp only [List.length_cons, List.length_nil]; omega) ?_
                          refine aw_if_ne (tgt := 417) dL_holds_395 (by decide) ⟨by omega, by omega⟩ (fun h395 => ?_) (fun h395 => ?_)
                          · exact absurd h395 (by first | omega | (have := (hOF (by omega)).2; omega))
                          · refine aw_aload_n dL_holds_398 rfl ?_
                            refine aw_aload_n dL_holds_399 rfl ?_
                            refine aw_iconst dL_holds_400 ?_
                            refine aw_V1x dL_holds_401 clL_13 ⟨by decide, by decide⟩ (c := 8) (N := 5) (by decide) (by decide +kernel) rfl (cnt 4 (s 11) ⟨by decide, by decide⟩ (by simp [cnF, ctF])) (by decide) (by decide) rfl rfl (by simp only [List.length_cons, List.length_nil]; omega) ?_
                            refine aw_iconst dL_holds_404 ?_
                            refine aw_V2x dL_holds_405 clL_26 ⟨by decide, by decide⟩ (c := 8) (N := 5) (by decide) (by decide +kernel) rfl gw (by decide) (by decide) rfl rfl (by simp only [List.length_cons, List.length_nil]; omega) ?_
                            refine aw_bipush dL_holds_408 (by decide) ?_
                            refine aw_ic_ne (tgt := 417) dL_holds_410 (by decide) ⟨by decide, by decide⟩ ⟨by decide, by decide⟩ (fun h410 => ?_) (fun h410 => ?_)
                            · exact absurd rfl h410
                            · refine aw_iconst dL_holds_413 ?_
                              refine aw_goto (tgt := 418) dL_holds_414 (by decide) ?_
                              refine aw_zret dL_holds_418 rfl (Or.inr rfl) (by decide) (by decide) ?_
                              exact EX.rf
                · exact absurd h360 (by omega)
              · exact absurd h351 (by omega)
  have k259 : AW E M_L_holds 0 0 259 [some (aR 0), some (aI (trA s 32)), some (aI (beA s 32)), some (aI (kyA s 12)), none, none, none, none] [] hi hr 125 (EX (some (aI 1)) hi hr 125) := by
    have l262 : ∀ (d k : Nat), k + d = 9 → 1 ≤ k → AW E M_L_holds 0 0 262 [some (aR 0), some (aI (trA s 32)), some (aI (beA s 32)), some (aI (kyA s 12)), some (aI ((k : Int))), none, none, none] [] hi hr 125 (EX (some (aI 1)) hi hr 125) := by
      intro d
      induction d with
      | zero =>
        intro k hk k1
        refine aw_iload dL_holds_262 rfl ?_
        refine aw_aload_n dL_holds_264 rfl ?_
        refine aw_iconst dL_holds_265 ?_
        refine aw_V1x dL_holds_266 clL_13 ⟨by decide, by decide⟩ (c := 8) (N := 5) (by decide) (by decide +kernel) rfl (cnt 4 (s 11) ⟨by decide, by decide⟩ (by simp [cnF, ctF])) (by decide) (by decide) rfl rfl (by simp only [List.length_cons, List.length_nil]; omega) ?_
        refine aw_ic_ge (tgt := 299) dL_holds_269 (by decide) ⟨by omega, by omega⟩ ⟨by omega, by omega⟩ (fun h269 => ?_) (fun h269 => ?_)
        · refine aw_ls (ls2 := [some (aR 0), some (aI (trA s 32)), some (aI (beA s 32)), some (aI (kyA s 12)), none, none, none, none]) (lsk (lsk (lsk (lsk (lsd (lsd (lsd (lsd lsn)))))))) ?_
          exact k299
        · exact absurd h269 (by omega)
      | succ d ih =>
        intro k hk k1
        have g276 : ¬ s 11 ≤ (k : Int) → AMet E M_X8_waits [aR 0, aI (k : Int), aI 2] hi hr 125 (EX (some (aI (s (216 + 4 * (k : Int) + 2)))) hi hr 125) := fun h => by
          rw [← wt_in (s := s) (i := (k : Int)) (by omega) (by omega)]
          exact c_X8_waits c ⟨by omega, by omega⟩ ⟨by decide, by decide⟩
        have g285 : ¬ s 11 ≤ (k : Int) → AMet E M_X8_waits [aR 0, aI ((k : Int) - 1), aI 2] hi hr 125 (EX (some (aI (s (216 + 4 * ((k : Int) - 1) + 2)))) hi hr 125) := fun h => by
          rw [← wt_in (s := s) (i := (k : Int) - 1) (by omega) (by omega)]
          exact c_X8_waits c ⟨by omega, by omega⟩ ⟨by decide, by decide⟩
        have so : ¬ s 11 ≤ (k : Int) → s (216 + 4 * ((k : Int) - 1) + 2) ≤ s (216 + 4 * (k : Int) + 2) := fun h => by
          have g := hSO.1 ((k : Int) - 1) (by omega) (by omega)
          rw [show (k : Int) - 1 + 1 = (k : Int) by omega] at g
          exact g
        refine aw_iload dL_holds_262 rfl ?_
        refine aw_aload_n dL_holds_264 rfl ?_
        refine aw_iconst dL_holds_265 ?_
        refine aw_V1x dL_holds_266 clL_13 ⟨by decide, by decide⟩ (c := 8) (N := 5) (by decide) (by decide +kernel) rfl (cnt 4 (s 11) ⟨by decide, by decide⟩ (by simp [cnF, ctF])) (by decide) (by decide) rfl rfl (by simp only [List.length_cons, List.length_nil]; omega) ?_
        refine aw_ic_ge (tgt := 299) dL_holds_269 (by decide) ⟨by omega, by omega⟩ ⟨by omega, by omega⟩ (fun h269 => ?_) (fun h269 => ?_)
        · refine aw_ls (ls2 := [some (aR 0), some (aI (trA s 32)), some (aI (beA s 32)), some (aI (kyA s 12)), none, none, none, none]) (lsk (lsk (lsk (lsk (lsd (lsd (lsd (lsd lsn)))))))) ?_
          exact k299
        · refine aw_aload_n dL_holds_272 rfl ?_
          refine aw_iload dL_holds_273 rfl ?_
          refine aw_iconst dL_holds_275 ?_
          refine aw_V2x dL_holds_276 clL_26 ⟨by decide, by decide⟩ (c := 8) (N := 5) (by decide) (by decide +kernel) rfl (g276 h269) (by decide) (by decide) rfl rfl (by simp only [List.length_cons, List.length_nil]; omega) ?_
          refine aw_aload_n dL_holds_279 rfl ?_
          refine aw_iload dL_holds_280 rfl ?_
          refine aw_iconst dL_holds_282 ?_
          refine aw_isub dL_holds_283 ?_
          refine aw_iconst dL_holds_284 ?_
          refine aw_V2x dL_holds_285 clL_26 ⟨by decide, by decide⟩ (c := 8) (N := 5) (by decide) (by decide +kernel) rfl (g285 h269) (by decide) (by decide) rfl rfl (by simp only [List.length_cons, List.length_nil]; omega) ?_
          refine aw_ic_ge (tgt := 293) dL_holds_288 (by decide) (hM.r _ (by unfold xc; omega)) (hM.r _ (by unfold xc; omega)) (fun h288 => ?_) (fun h288 => ?_)
          · refine aw_iinc (ls2 := [_, _, _, _, _, _, _, _]) dL_holds_293 rfl (by decide) rfl ?_
            refine aw_goto (tgt := 262) dL_holds_296 (by decide) ?_
            have g := ih (k + 1) (by omega) (by omega)
            rw [show ((k + 1 : Nat) : Int) = (k : Int) + 1 by omega] at g
            exact g
          · exact absurd (so h269) h288
    refine aw_iconst dL_holds_259 ?_
    refine aw_istore (ls2 := [_, _, _, _, _, _, _, _]) dL_holds_260 (by decide) rfl ?_
    exact l262 8 1 (by decide) (by decide)
  have k87 : AW E M_L_holds 0 0 87 [some (aR 0), some (aI (trA s 32)), some (aI (beA s 32)), none, none, none, none, none] [] hi hr 125 (EX (some (aI 1)) hi hr 125) := by
    have l92 : ∀ (d k : Nat), k + d = 12 → AW E M_L_holds 0 0 92 [some (aR 0), some (aI (trA s 32)), some (aI (beA s 32)), some (aI (kyA s k)), some (aI ((k : Int))), none, none, none] [] hi hr 125 (EX (some (aI 1)) hi hr 125) := by
      intro d
      induction d with
      | zero =>
        intro k hk
        have ek : k = 12 := by omega
        subst ek
        refine aw_iload dL_holds_92 rfl ?_
        refine aw_bipush dL_holds_94 (by decide) ?_
        refine aw_ic_ge (tgt := 259) dL_holds_96 (by decide) ⟨by omega, by omega⟩ ⟨by decide, by decide⟩ (fun h96 => ?_) (fun h96 => ?_)
        · refine aw_ls (ls2 := [some (aR 0), some (aI (trA s 32)), some (aI (beA s 32)), some (aI (kyA s 12)), none, none, none, none]) (lsk (lsk (lsk (lsk (lsd (lsd (lsd (lsd lsn)))))))) ?_
          exact k259
        · exact absurd h96 (by omega)
      | succ d ih =>
        intro k hk
        have rp : ∀ j w : Int, 0 ≤ j ∧ j ≤ 11 → 0 ≤ w ∧ w ≤ 2 → InR (poF s j w) := fun j w hj hw => po_r hM hj.1 hj.2 hw.1 hw.2
        have rb := rp (k : Int) 0 (by omega) (by decide)
        have ra := rp (k : Int) 1 (by omega) (by decide)
        have pk := plc_k (s := s) (k : Int)
        have ky : kyA s (k + 1) = kyA s k + if plc s (k : Int) < 0 then 0 else 1 := rfl
        have ekN : poF s (k : Int) 0 < 0 → kyA s (k + 1) = kyA s k + 0 := fun h => by
          rcases pk with g | g
          · rw [ky, if_pos (by omega)]
          · have := (po_is g.1 (show (0 : Int) ≤ k by omega) (by omega)).1; omega
        have ekY : ¬ poF s (k : Int) 0 < 0 → kyA s (k + 1) = kyA s k + 1 := fun h => by
          rcases pk with g | g
          · have := po_no (w := 0) g (show (0 : Int) ≤ k by omega) (by omega) (by decide) (by decide); omega
          · rw [ky, if_neg (by omega)]
        have is : ¬ poF s (k : Int) 0 < 0 → (0 ≤ plc s (k : Int) ∧ plc s (k : Int) < 48 ∧ s (atI (plc s (k : Int))) = 2 ∧ s (atI (plc s (k : Int)) + 1) = (k : Int)) ∧ poF s (k : Int) 0 = plc s (k : Int) / 24 ∧ poF s (k : Int) 1 = plc s (k : Int) % 24 ∧ poF s (k : Int) 2 = s (atI (plc s (k : Int)) + 3) := fun h => by
          rcases pk with g | g
          · exact absurd (po_no (w := 0) g (show (0 : Int) ≤ k by omega) (by omega) (by decide) (by decide)) (by omega)
          · exact ⟨⟨g.1, g.2.1, g.2.2.1, g.2.2.2.1⟩, po_is g.1 (by omega) (by omega)⟩
        have tw : ∀ j : Int, 0 ≤ j → j < (k : Int) → ¬ poF s (k : Int) 0 < 0 → ¬ poF s j 2 = poF s (k : Int) 2 := fun j j0 j1 h => hSK.two (is h).1.1 j0 (by omega) (by omega) (by omega) (by omega)
        have k170 : AW E M_L_holds 0 0 170 [some (aR 0), some (aI (trA s 32)), some (aI (beA s 32)), some (aI (kyA s (k + 1))), some (aI ((k : Int))), some (aI (poF s (k : Int) 0)), some (aI (poF s (k : Int) 1)), none] [] hi hr 125 (EX (some (aI 1)) hi hr 125) := by
          have pgc : ∀ w : Int, 1 ≤ w ∧ w ≤ 3 → ¬ poF s (k : Int) 0 < 0 → ¬ 16 ≤ poF s (k : Int) 1 → AMet E M_X8_pageOf [aR 0, aI (poF s (k : Int) 0), aI (poF s (k : Int) 1), aI w] hi hr 125 (EX (some (aI (s (atI (plc s (k : Int)) + w)))) hi hr 125) := fun w hw h h2 => by
            obtain ⟨⟨i1, i2, i3, i4⟩, i5, i6, i7⟩ := is h
            have g := c_X8_pageOf c hEN (b := poF s (k : Int) 0) (k := poF s (k : Int) 1) (w := w) rb ra ⟨by omega, by omega⟩
            have e : pgF s (poF s (k : Int) 0) (poF s (k : Int) 1) w = s (atI (plc s (k : Int)) + w) := by rw [i5, i6]; exact pl_pg i1 i2 (by omega) i3 hw.1 hw.2
            rw [e] at g
            exact g
          have bkc : ∀ w v : Int, ¬ poF s (k : Int) 0 < 0 → 16 ≤ poF s (k : Int) 1 → InR w → bpF s (poF s (k : Int) 0) (poF s (k : Int) 1 - 16) w = v → AMet E M_X8_backupOf [aR 0, aI (poF s (k : Int) 0), aI (poF s (k : Int) 1 - 16), aI w] hi hr 125 (EX (some (aI v)) hi hr 125) := fun w v h h2 hw e => by
            obtain ⟨⟨i1, i2, i3, i4⟩, i5, i6, i7⟩ := is h
            rw [← e]
            exact c_X8_backupOf c rb ⟨by omega, by omega⟩ hw
          have g188 : ¬ poF s (k : Int) 0 < 0 → ¬ 16 ≤ poF s (k : Int) 1 → AMet E M_X8_pageOf [aR 0, aI (poF s (k : Int) 0), aI (poF s (k : Int) 1), aI 1] hi hr 125 (EX (some (aI (k : Int))) hi hr 125) := fun h h2 => by
            have g := pgc 1 (by decide) h h2
            rw [(is h).1.2.2.2] at g
            exact g
          have g202 : ¬ poF s (k : Int) 0 < 0 → ¬ 16 ≤ poF s (k : Int) 1 → AMet E M_X8_pageOf [aR 0, aI (poF s (k : Int) 0), aI (poF s (k : Int) 1), aI 3] hi hr 125 (EX (some (aI (poF s (k : Int) 2))) hi hr 125) := fun h h2 => by
            have g := pgc 3 (by decide) h h2
            rw [← (is h).2.2.2] at g
            exact g
          have bb : ¬ poF s (k : Int) 0 < 0 → 16 ≤ poF s (k : Int) 1 → bpF s (poF s (k : Int) 0) (poF s (k : Int) 1 - 16) 0 = 1 ∧ bpF s (poF s (k : Int) 0) (poF s (k : Int) 1 - 16) 1 = (k : Int) := fun h h2 => by
            obtain ⟨⟨i1, i2, i3, i4⟩, i5, i6, i7⟩ := is h
            have g := pl_bk i1 i2 (by omega) i3
            rw [i4] at g
            rw [i5, i6]
            exact g
          have g227 : ¬ poF s (k : Int) 0 < 0 → 16 ≤ poF s (k : Int) 1 → AMet E M_X8_backupOf [aR 0, aI (poF s (k : Int) 0), aI (poF s (k : Int) 1 - 16), aI 0] hi hr 125 (EX (some (aI 1)) hi hr 125) := fun h h2 => bkc 0 1 h h2 ⟨by decide, by decide⟩ (bb h h2).1
          have g243 : ¬ poF s (k : Int) 0 < 0 → 16 ≤ poF s (k : Int) 1 → AMet E M_X8_backupOf [aR 0, aI (poF s (k : Int) 0), aI (poF s (k : Int) 1 - 16), aI 1] hi hr 125 (EX (some (aI (k : Int))) hi hr 125) := fun h h2 => bkc 1 (k : Int) h h2 ⟨by decide, by decide⟩ (bb h h2).2
          have r2p := rp (k : Int) 2 (by omega) (by decide)
          refine aw_iload dL_holds_170 rfl ?_
          refine aw_if_lt (tgt := 253) dL_holds_172 (by decide) rb (fun h172 => ?_) (fun h172 => ?_)
          · refine aw_iinc (ls2 := [_, _, _, _, _, _, _, _]) dL_holds_253 rfl (by decide) rfl ?_
            refine aw_goto (tgt := 92) dL_holds_256 (by decide) ?_
            refine aw_ls (ls2 := [some (aR 0), some (aI (trA s 32)), some (aI (beA s 32)), some (aI (kyA s (k + 1))), some (aI ((k : Int) + 1)), none, none, none]) (lsk (lsk (lsk (lsk (lsk (lsd (lsd (lsd lsn)))))))) ?_
            have g := ih (k + 1) (by omega)
            rw [show ((k + 1 : Nat) : Int) = (k : Int) + 1 by omega] at g
            exact g
          · refine aw_iload dL_holds_175 rfl ?_
            refine aw_bipush dL_holds_177 (by decide) ?_
            refine aw_ic_ge (tgt := 218) dL_holds_179 (by decide) ra ⟨by decide, by decide⟩ (fun h179 => ?_) (fun h179 => ?_)
            · refine aw_aload_n dL_holds_218 rfl ?_
              refine aw_iload dL_holds_219 rfl ?_
              refine aw_iload dL_holds_221 rfl ?_
              refine aw_bipush dL_holds_223 (by decide) ?_
              refine aw_isub dL_holds_225 ?_
              refine aw_iconst dL_holds_226 ?_
              refine aw_V3x dL_holds_227 clL_23 ⟨by decide, by decide⟩ (c := 8) (N := 5) (by decide) (by decide +kernel) rfl (g227 h172 h179) (by decide) (by decide) rfl rfl (by simp only [List.length_cons, List.length_nil]; omega) ?_
              refine aw_iconst dL_holds_230 ?_
              refine aw_ic_ne (tgt := 251) dL_holds_231 (by decide) ⟨by decide, by decide⟩ ⟨by decide, by decide⟩ (fun h231 => ?_) (fun h231 => ?_)
              · exact absurd h231 (by decide)
              · refine aw_aload_n dL_holds_234 rfl ?_
                refine aw_iload dL_holds_235 rfl ?_
                refine aw_iload dL_holds_237 rfl ?_
                refine aw_bipush dL_holds_239 (by decide) ?_
                refine aw_isub dL_holds_241 ?_
                refine aw_iconst dL_holds_242 ?_
                refine aw_V3x dL_holds_243 clL_23 ⟨by decide, by decide⟩ (c := 8) (N := 5) (by decide) (by decide +kernel) rfl (g243 h172 h179) (by decide) (by decide) rfl rfl (by simp only [List.length_cons, List.length_nil]; omega) ?_
                refine aw_iload dL_holds_246 rfl ?_
                refine aw_ic_eq (tgt := 253) dL_holds_248 (by decide) ⟨by omega, by omega⟩ ⟨by omega, by omega⟩ (fun h248 => ?_) (fun h248 => ?_)
                · refine aw_iinc (ls2 := [_, _, _, _, _, _, _, _]) dL_holds_253 rfl (by decide) rfl ?_
                  refine aw_goto (tgt := 92) dL_holds_256 (by decide) ?_
                  refine aw_ls (ls2 := [some (aR 0), some (aI (trA s 32)), some (aI (beA s 32)), some (aI (kyA s (k + 1))), some (aI ((k : Int) + 1)), none, none, none]) (lsk (lsk (lsk (lsk (lsk (lsd (lsd (lsd lsn)))))))) ?_
                  have g := ih (k + 1) (by omega)
                  rw [show ((k + 1 : Nat) : Int) = (k : Int) + 1 by omega] at g
                  exact g
                · exact absurd rfl h248
            · refine aw_aload_n dL_holds_182 rfl ?_
              refine aw_iload dL_holds_183 rfl ?_
              refine aw_iload dL_holds_185 rfl ?_
              refine aw_iconst dL_holds_187 ?_
              refine aw_V3x dL_holds_188 clL_19 ⟨by decide, by decide⟩ (c := 8) (N := 5) (by decide) (by decide +kernel) rfl (g188 h172 h179) (by decide) (by decide) rfl rfl (by simp only [List.length_cons, List.length_nil]; omega) ?_
              refine aw_iload dL_holds_191 rfl ?_
              refine aw_ic_ne (tgt := 251) dL_holds_193 (by decide) ⟨by omega, by omega⟩ ⟨by omega, by omega⟩ (fun h193 => ?_) (fun h193 => ?_)
              · exact absurd rfl h193
              · refine aw_aload_n dL_holds_196 rfl ?_
                refine aw_iload dL_holds_197 rfl ?_
                refine aw_iload dL_holds_199 rfl ?_
                refine aw_iconst dL_holds_201 ?_
                refine aw_V3x dL_holds_202 clL_19 ⟨by decide, by decide⟩ (c := 8) (N := 5) (by decide) (by decide +kernel) rfl (g202 h172 h179) (by decide) (by decide) rfl rfl (by simp only [List.length_cons, List.length_nil]; omega) ?_
                refine aw_aload_n dL_holds_205 rfl ?_
                refine aw_iload dL_holds_206 rfl ?_
                refine aw_iconst dL_holds_208 ?_
                refine aw_V2x dL_holds_209 clL_30 ⟨by decide, by decide⟩ (c := 8) (N := 5) (by decide) (by decide +kernel) rfl (c_X8_placeOf c ⟨by omega, by omega⟩ ⟨by decide, by decide⟩) (by decide) (by decide) rfl rfl (by simp only [List.length_cons, List.length_nil]; omega) ?_
                refine aw_ic_eq (tgt := 253) dL_holds_212 (by decide) r2p r2p (fun h212 => ?_) (fun h212 => ?_)
                · refine aw_iinc (ls2 := [_, _, _, _, _, _, _, _]) dL_holds_253 rfl (by decide) rfl ?_
                  refine aw_goto (tgt := 92) dL_holds_256 (by decide) ?_
                  refine aw_ls (ls2 := [some (aR 0), some (aI (trA s 32)), some (aI (beA s 32)), some (aI (kyA s (k + 1))), some (aI ((k : Int) + 1)), none, none, none]) (lsk (lsk (lsk (lsk (lsk (lsd (lsd (lsd lsn)))))))) ?_
                  have g := ih (k + 1) (by omega)
                  rw [show ((k + 1 : Nat) : Int) = (k : Int) + 1 by omega] at g
                  exact g
                · exact absurd rfl h212
        have inner : ∀ (d j : Nat), j + d = k → AW E M_L_holds 0 0 133 [some (aR 0), some (aI (trA s 32)), some (aI (beA s 32)), some (aI (kyA s (k + 1))), some (aI ((k : Int))), some (aI (poF s (k : Int) 0)), some (aI (poF s (k : Int) 1)), some (aI ((j : Int)))] [] hi hr 125 (EX (some (aI 1)) hi hr 125) := by
          intro d2
          induction d2 with
          | zero =>
            intro j hj
            refine aw_iload dL_holds_133 rfl ?_
            refine aw_iload dL_holds_135 rfl ?_
            refine aw_ic_ge (tgt := 170) dL_holds_137 (by decide) ⟨by omega, by omega⟩ ⟨by omega, by omega⟩ (fun h137 => ?_) (fun h137 => ?_)
            · refine aw_ls (ls2 := [some (aR 0), some (aI (trA s 32)), some (aI (beA s 32)), some (aI (kyA s (k + 1))), some (aI ((k : Int))), some (aI (poF s (k : Int) 0)), some (aI (poF s (k : Int) 1)), none]) (lsk (lsk (lsk (lsk (lsk (lsk (lsk (lsd lsn)))))))) ?_
              exact k170
            · exact absurd h137 (by omega)
          | succ d2 ih2 =>
            intro j hj
            refine aw_iload dL_holds_133 rfl ?_
            refine aw_iload dL_holds_135 rfl ?_
            refine aw_ic_ge (tgt := 170) dL_holds_137 (by decide) ⟨by omega, by omega⟩ ⟨by omega, by omega⟩ (fun h137 => ?_) (fun h137 => ?_)
            · exact absurd h137 (by omega)
            · refine aw_iload dL_holds_140 rfl ?_
              refine aw_if_lt (tgt := 164) dL_holds_142 (by decide) rb (fun h142 => ?_) (fun h142 => ?_)
              · refine aw_iinc (ls2 := [_, _, _, _, _, _, _, _]) dL_holds_164 rfl (by decide) rfl ?_
                refine aw_goto (tgt := 133) dL_holds_167 (by decide) ?_
                have g := ih2 (j + 1) (by omega)
                rw [show ((j + 1 : Nat) : Int) = (j : Int) + 1 by omega] at g
                exact g
              · refine aw_aload_n dL_holds_145 rfl ?_
                refine aw_iload dL_holds_146 rfl ?_
                refine aw_iconst dL_holds_148 ?_
                refine aw_V2x dL_holds_149 clL_30 ⟨by decide, by decide⟩ (c := 8) (N := 5) (by decide) (by decide +kernel) rfl (c_X8_placeOf c ⟨by omega, by omega⟩ ⟨by decide, by decide⟩) (by decide) (by decide) rfl rfl (by simp only [List.length_cons, List.length_nil]; omega) ?_
                refine aw_aload_n dL_holds_152 rfl ?_
                refine aw_iload dL_holds_153 rfl ?_
                refine aw_iconst dL_holds_155 ?_
                refine aw_V2x dL_holds_156 clL_30 ⟨by decide, by decide⟩ (c := 8) (N := 5) (by decide) (by decide +kernel) rfl (c_X8_placeOf c ⟨by omega, by omega⟩ ⟨by decide, by decide⟩) (by decide) (by decide) rfl rfl (by simp only [List.length_cons, List.length_nil]; omega) ?_
                refine aw_ic_ne (tgt := 164) dL_holds_159 (by decide) (rp _ 2 (by omega) (by decide)) (rp _ 2 (by omega) (by decide)) (fun h159 => ?_) (fun h159 => ?_)
                · refine aw_iinc (ls2 := [_, _, _, _, _, _, _, _]) dL_holds_164 rfl (by decide) rfl ?_
                  refine aw_goto (tgt := 133) dL_holds_167 (by decide) ?_
                  have g := ih2 (j + 1) (by omega)
                  rw [show ((j + 1 : Nat) : Int) = (j : Int) + 1 by omega] at g
                  exact g
                · exact absurd h159 (tw (j : Int) (by omega) (by omega) h142)
        have k130 : AW E M_L_holds 0 0 130 [some (aR 0), some (aI (trA s 32)), some (aI (beA s 32)), some (aI (kyA s (k + 1))), some (aI ((k : Int))), some (aI (poF s (k : Int) 0)), some (aI (poF s (k : Int) 1)), none] [] hi hr 125 (EX (some (aI 1)) hi hr 125) := by
          refine aw_iconst dL_holds_130 ?_
          refine aw_istore (ls2 := [_, _, _, _, _, _, _, _]) dL_holds_131 (by decide) rfl ?_
          exact inner k 0 (Nat.zero_add _)
        have k117 : AW E M_L_holds 0 0 117 [some (aR 0), some (aI (trA s 32)), some (aI (beA s 32)), some (aI (kyA s k)), some (aI ((k : Int))), some (aI (poF s (k : Int) 0)), some (aI (poF s (k : Int) 1)), none] [] hi hr 125 (EX (some (aI 1)) hi hr 125) := by
          refine aw_iload_n dL_holds_117 rfl ?_
          refine aw_iload dL_holds_118 rfl ?_
          refine aw_if_lt (tgt := 127) dL_holds_120 (by decide) rb (fun h120 => ?_) (fun h120 => ?_)
          · refine aw_iconst dL_holds_127 ?_
            refine aw_iadd dL_holds_128 ?_
            refine aw_istore_n (ls2 := [_, _, _, _, _, _, _, _]) dL_holds_129 (by decide) rfl ?_
            rw [ekN h120] at k130
            exact k130
          · refine aw_iconst dL_holds_123 ?_
            refine aw_goto (tgt := 128) dL_holds_124 (by decide) ?_
            refine aw_iadd dL_holds_128 ?_
            refine aw_istore_n (ls2 := [_, _, _, _, _, _, _, _]) dL_holds_129 (by decide) rfl ?_
            rw [ekY h120] at k130
            exact k130
        refine aw_iload dL_holds_92 rfl ?_
        refine aw_bipush dL_holds_94 (by decide) ?_
        refine aw_ic_ge (tgt := 259) dL_holds_96 (by decide) ⟨by omega, by omega⟩ ⟨by decide, by decide⟩ (fun h96 => ?_) (fun h96 => ?_)
        · exact absurd h96 (by omega)
        · refine aw_aload_n dL_holds_99 rfl ?_
          refine aw_iload dL_holds_100 rfl ?_
          refine aw_iconst dL_holds_102 ?_
          refine aw_V2x dL_holds_103 clL_30 ⟨by decide, by decide⟩ (c := 8) (N := 5) (by decide) (by decide +kernel) rfl (c_X8_placeOf c ⟨by omega, by omega⟩ ⟨by decide, by decide⟩) (by decide) (by decide) rfl rfl (by simp only [List.length_cons, List.length_nil]; omega) ?_
          refine aw_istore (ls2 := [_, _, _, _, _, _, _, _]) dL_holds_106 (by decide) rfl ?_
          refine aw_aload_n dL_holds_108 rfl ?_
          refine aw_iload dL_holds_109 rfl ?_
          refine aw_iconst dL_holds_111 ?_
          refine aw_V2x dL_holds_112 clL_30 ⟨by decide, by decide⟩ (c := 8) (N := 5) (by decide) (by decide +kernel) rfl (c_X8_placeOf c ⟨by omega, by omega⟩ ⟨by decide, by decide⟩) (by decide) (by decide) rfl rfl (by simp only [List.length_cons, List.length_nil]; omega) ?_
          refine aw_istore (ls2 := [_, _, _, _, _, _, _, _]) dL_holds_115 (by decide) rfl ?_
          exact k117
    refine aw_iconst dL_holds_87 ?_
    refine aw_istore_n (ls2 := [_, _, _, _, _, _, _, _]) dL_holds_88 (by decide) rfl ?_
    refine aw_iconst dL_holds_89 ?_
    refine aw_istore (ls2 := [_, _, _, _, _, _, _, _]) dL_holds_90 (by decide) rfl ?_
    exact l92 12 0 (Nat.zero_add _)
  have l6 : ∀ (d k : Nat), k + d = 32 → AW E M_L_holds 0 0 6 [some (aR 0), some (aI (trA s k)), some (aI (beA s k)), some (aI ((k : Int))), none, none, none, none] [] hi hr 125 (EX (some (aI 1)) hi hr 125) := by
    intro d
    induction d with
    | zero =>
      intro k hk
      have ek : k = 32 := by omega
      subst ek
      refine aw_iload_n dL_holds_6 rfl ?_
      refine aw_bipush dL_holds_7 (by decide) ?_
      refine aw_ic_ge (tgt := 87) dL_holds_9 (by decide) ⟨by omega, by omega⟩ ⟨by decide, by decide⟩ (fun h9 => ?_) (fun h9 => ?_)
      · refine aw_ls (ls2 := [some (aR 0), some (aI (trA s 32)), some (aI (beA s 32)), none, none, none, none, none]) (lsk (lsk (lsk (lsd (lsd (lsd (lsd (lsd lsn)))))))) ?_
        exact k87
      · exact absurd h9 (by omega)
    | succ d ih =>
      intro k hk
      have rS : InR (s (24 + 4 * (k : Int))) := hM.r _ (by unfold xc; omega)
      have pw : s (24 + 4 * (k : Int)) = 1 → (k : Int) / 16 = s 2 := fun g => by
        have p1 := hM.2.2.2.1
        have p0 := hM.z 248 (by unfold xc; omega)
        have := (hPW.k (by omega) (by omega) g).2
        omega
      have page : AMet E M_X8_pageOf [aR 0, aI ((k : Int) / 16), aI ((k : Int) % 16), aI 0] hi hr 125 (EX (some (aI (s (24 + 4 * (k : Int))))) hi hr 125) := by
        rw [← pg0 s (k := (k : Int)) (by omega) (by omega)]
        exact c_X8_pageOf c hEN ⟨by omega, by omega⟩ ⟨by omega, by omega⟩ ⟨by decide, by decide⟩
      have k55 : AW E M_L_holds 0 0 55 [some (aR 0), some (aI (trA s (k + 1))), some (aI (beA s (k + 1))), some (aI ((k : Int))), some (aI (s (24 + 4 * (k : Int)))), none, none, none] [] hi hr 125 (EX (some (aI 1)) hi hr 125) := by
        refine aw_iload dL_holds_55 rfl ?_
        refine aw_iconst dL_holds_57 ?_
        refine aw_ic_ge (tgt := 81) dL_holds_58 (by decide) rS ⟨by decide, by decide⟩ (fun h58 => ?_) (fun h58 => ?_)
        · refine aw_iinc (ls2 := [_, _, _, _, _, _, _, _]) dL_holds_81 rfl (by decide) rfl ?_
          refine aw_goto (tgt := 6) dL_holds_84 (by decide) ?_
          refine aw_ls (ls2 := [some (aR 0), some (aI (trA s (k + 1))), some (aI (beA s (k + 1))), some (aI ((k : Int) + 1)), none, none, none, none]) (lsk (lsk (lsk (lsk (lsd (lsd (lsd (lsd lsn)))))))) ?_
          have g := ih (k + 1) (by omega)
          rw [show ((k + 1 : Nat) : Int) = (k : Int) + 1 by omega] at g
          exact g
        · refine aw_iload_n dL_holds_61 rfl ?_
          refine aw_bipush dL_holds_62 (by decide) ?_
          refine aw_idiv dL_holds_64 (by omega) ⟨by omega, by omega⟩ (by decide) ⟨by decide, by decide⟩ ?_
          refine aw_aload_n dL_holds_65 rfl ?_
          refine aw_iconst dL_holds_66 ?_
          refine aw_V1x dL_holds_67 clL_13 ⟨by decide, by decide⟩ (c := 8) (N := 5) (by decide) (by decide +kernel) rfl (cnt 2 (s 2) ⟨by decide, by decide⟩ (by simp [cnF, ctF])) (by decide) (by decide) rfl rfl (by simp only [List.length_cons, List.length_nil]; omega) ?_
          refine aw_ic_eq (tgt := 81) dL_holds_70 (by decide) ⟨by omega, by omega⟩ r2 (fun h70 => ?_) (fun h70 => ?_)
          · refine aw_iinc (ls2 := [_, _, _, _, _, _, _, _]) dL_holds_81 rfl (by decide) rfl ?_
            refine aw_goto (tgt := 6) dL_holds_84 (by decide) ?_
            refine aw_ls (ls2 := [some (aR 0), some (aI (trA s (k + 1))), some (aI (beA s (k + 1))), some (aI ((k : Int) + 1)), none, none, none, none]) (lsk (lsk (lsk (lsk (lsd (lsd (lsd (lsd lsn)))))))) ?_
            have g := ih (k + 1) (by omega)
            rw [show ((k + 1 : Nat) : Int) = (k : Int) + 1 by omega] at g
            exact g
          · refine aw_iload dL_holds_73 rfl ?_
            refine aw_iconst dL_holds_75 ?_
            refine aw_ic_ne (tgt := 81) dL_holds_76 (by decide) rS ⟨by decide, by decide⟩ (fun h76 => ?_) (fun h76 => ?_)
            · refine aw_iinc (ls2 := [_, _, _, _, _, _, _, _]) dL_holds_81 rfl (by decide) rfl ?_
              refine aw_goto (tgt := 6) dL_holds_84 (by decide) ?_
              refine aw_ls (ls2 := [some (aR 0), some (aI (trA s (k + 1))), some (aI (beA s (k + 1))), some (aI ((k : Int) + 1)), none, none, none, none]) (lsk (lsk (lsk (lsk (lsd (lsd (lsd (lsd lsn)))))))) ?_
              have g := ih (k + 1) (by omega)
              rw [show ((k + 1 : Nat) : Int) = (k : Int) + 1 by omega] at g
              exact g
            · exact absurd (pw h76) h70
      have k41 : AW E M_L_holds 0 0 41 [some (aR 0), some (aI (trA s (k + 1))), some (aI (beA s k)), some (aI ((k : Int))), some (aI (s (24 + 4 * (k : Int)))), none, none, none] [] hi hr 125 (EX (some (aI 1)) hi hr 125) := by
        refine aw_iload_n dL_holds_41 rfl ?_
        refine aw_iload dL_holds_42 rfl ?_
        refine aw_iconst dL_holds_44 ?_
        refine aw_ic_ne (tgt := 52) dL_holds_45 (by decide) rS ⟨by decide, by decide⟩ (fun h45 => ?_) (fun h45 => ?_)
        · refine aw_iconst dL_holds_52 ?_
          refine aw_iadd dL_holds_53 ?_
          refine aw_istore_n (ls2 := [_, _, _, _, _, _, _, _]) dL_holds_54 (by decide) rfl ?_
          rw [show beA s (k + 1) = beA s k + 0 by show beA s k + (if s (24 + 4 * (k : Int)) = 1 then 1 else 0) = _; rw [if_neg h45]] at k55
          exact k55
        · refine aw_iconst dL_holds_48 ?_
          refine aw_goto (tgt := 53) dL_holds_49 (by decide) ?_
          refine aw_iadd dL_holds_53 ?_
          refine aw_istore_n (ls2 := [_, _, _, _, _, _, _, _]) dL_holds_54 (by decide) rfl ?_
          rw [show beA s (k + 1) = beA s k + 1 by show beA s k + (if s (24 + 4 * (k : Int)) = 1 then 1 else 0) = _; rw [if_pos h45]] at k55
          exact k55
      have k27 : AW E M_L_holds 0 0 27 [some (aR 0), some (aI (trA s k)), some (aI (beA s k)), some (aI ((k : Int))), some (aI (s (24 + 4 * (k : Int)))), none, none, none] [] hi hr 125 (EX (some (aI 1)) hi hr 125) := by
        refine aw_iload_n dL_holds_27 rfl ?_
        refine aw_iload dL_holds_28 rfl ?_
        refine aw_iconst dL_holds_30 ?_
        refine aw_ic_ne (tgt := 38) dL_holds_31 (by decide) rS ⟨by decide, by decide⟩ (fun h31 => ?_) (fun h31 => ?_)
        · refine aw_iconst dL_holds_38 ?_
          refine aw_iadd dL_holds_39 ?_
          refine aw_istore_n (ls2 := [_, _, _, _, _, _, _, _]) dL_holds_40 (by decide) rfl ?_
          rw [show trA s (k + 1) = trA s k + 0 by show trA s k + (if s (24 + 4 * (k : Int)) = 3 then 1 else 0) = _; rw [if_neg h31]] at k41
          exact k41
        · refine aw_iconst dL_holds_34 ?_
          refine aw_goto (tgt := 39) dL_holds_35 (by decide) ?_
          refine aw_iadd dL_holds_39 ?_
          refine aw_istore_n (ls2 := [_, _, _, _, _, _, _, _]) dL_holds_40 (by decide) rfl ?_
          rw [show trA s (k + 1) = trA s k + 1 by show trA s k + (if s (24 + 4 * (k : Int)) = 3 then 1 else 0) = _; rw [if_pos h31]] at k41
          exact k41
      refine aw_iload_n dL_holds_6 rfl ?_
      refine aw_bipush dL_holds_7 (by decide) ?_
      refine aw_ic_ge (tgt := 87) dL_holds_9 (by decide) ⟨by omega, by omega⟩ ⟨by decide, by decide⟩ (fun h9 => ?_) (fun h9 => ?_)
      · exact absurd h9 (by omega)
      · refine aw_aload_n dL_holds_12 rfl ?_
        refine aw_iload_n dL_holds_13 rfl ?_
        refine aw_bipush dL_holds_14 (by decide) ?_
        refine aw_idiv dL_holds_16 (by omega) ⟨by omega, by omega⟩ (by decide) ⟨by decide, by decide⟩ ?_
        refine aw_iload_n dL_holds_17 rfl ?_
        refine aw_bipush dL_holds_18 (by decide) ?_
        refine aw_irem dL_holds_20 (by omega) ⟨by omega, by omega⟩ (by decide) ⟨by decide, by decide⟩ ?_
        refine aw_iconst dL_holds_21 ?_
        refine aw_V3x dL_holds_22 clL_19 ⟨by decide, by decide⟩ (c := 8) (N := 5) (by decide) (by decide +kernel) rfl page (by decide) (by decide) rfl rfl (by simp only [List.length_cons, List.length_nil]; omega) ?_
        refine aw_istore (ls2 := [_, _, _, _, _, _, _, _]) dL_holds_25 (by decide) rfl ?_
        exact k27
  refine aw_iconst dL_holds_0 ?_
  refine aw_istore_n (ls2 := [_, _, _, _, _, _, _, _]) dL_holds_1 (by decide) rfl ?_
  refine aw_iconst dL_holds_2 ?_
  refine aw_istore_n (ls2 := [_, _, _, _, _, _, _, _]) dL_holds_3 (by decide) rfl ?_
  refine aw_iconst dL_holds_4 ?_
  refine aw_istore_n (ls2 := [_, _, _, _, _, _, _, _]) dL_holds_5 (by decide) rfl ?_
  exact l6 32 0 (Nat.zero_add _)
end HOLDS
