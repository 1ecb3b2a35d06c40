/-! the twin's first methods -/
theorem exI {x y : Int} {h1 : HI} {r1 : HR} {n1 : Nat} (h : x = y) : EX (some (aI y)) h1 r1 n1 (some (aI x)) h1 r1 n1 := ⟨by rw [h], rfl, rfl, rfl⟩
theorem exH {x y : Int} {h1 h2 : HI} {r1 : HR} {n1 : Nat} (h : x = y) (hh : h1 = h2) : EX (some (aI y)) h2 r1 n1 (some (aI x)) h1 r1 n1 := ⟨by rw [h], hh, rfl, rfl⟩
theorem exV {h1 h2 : HI} {r1 : HR} {n1 : Nat} (hh : h1 = h2) : EX none h2 r1 n1 none h1 r1 n1 := ⟨rfl, hh, rfl, rfl⟩
def BIG : Int := 1000000
def xc (x : Int) : Prop := x < 0 ∨ 255 < x ∨ x = 3 ∨ x = 4 ∨ x = 5 ∨ x = 8 ∨ x = 9
/-- the twin's state: ranges (but what is counted without a bound) -/
def MI (s : Int → Int) : Prop := (∀ x, ¬ xc x → 0 ≤ s x ∧ s x ≤ BIG) ∧ (s 2 = 0 ∨ s 2 = 1) ∧ s 11 ≤ 8 ∧ s 248 ≤ 15 ∧ 1 ≤ s 23 ∧ (s 1 = 0 ∨ s 1 = 1) ∧ s 10 ≤ s 0 ∧ s 6 ≤ 100000 ∧ s 7 ≤ 100000 ∧ (∀ x, 12 ≤ x → x < 24 → s x ≤ 99) ∧ 1 ≤ s 20 ∧ 1 ≤ s 21
theorem MI.r {s : Int → Int} (h : MI s) (x : Int) (hx : ¬ xc x) : InR (s x) := by
  have := h.1 x hx
  unfold BIG at this
  exact ⟨by omega, by omega⟩
theorem MI.z {s : Int → Int} (h : MI s) (x : Int) (hx : ¬ xc x) : 0 ≤ s x := (h.1 x hx).1
def lat (p : Int) : Int := if p = 15 ∨ (0 < p ∧ p % 2 = 0) then 1 else 0
def lin (p : Int) : Int := if p = 15 then 7 else if 0 < p ∧ p % 2 = 0 then p / 2 - 1 else (p + 1) / 2
def ear (l : Int) : Int := if l = 0 then 0 else 2 * l - 1
def atI (c : Int) : Int := if c % 24 < 16 then 24 + 4 * (16 * (c / 24) + c % 24) else 152 + 4 * (8 * (c / 24) + (c % 24 - 16))
theorem atI_b {c : Int} (h0 : 0 ≤ c) (h1 : c < 48) : 24 ≤ atI c ∧ atI c + 3 < 216 := by
  unfold atI
  split <;> omega
def nxA (s : Int → Int) : Nat → Int → Int
  | 0, p => p
  | d + 1, p => if p < 16 ∧ ¬ s (24 + 4 * (16 * s 2 + p)) = 0 then nxA s d (p + 1) else p
def nxt (s : Int → Int) : Int := nxA s 16 0
def blA (s : Int → Int) (b : Int) : Nat → Int
  | 0 => 1
  | k + 1 => if blA s b k = 1 ∧ s (24 + 4 * (16 * b + (k : Int))) = 0 then 1 else 0
def plA (s : Int → Int) (key : Int) : Nat → Int × Int
  | 0 => (-1, 0)
  | k + 1 => if s (atI k) = 2 ∧ s (atI k + 1) = key ∧ (plA s key k).2 < s (atI k + 3) then ((k : Int), s (atI k + 3)) else plA s key k
def plc (s : Int → Int) (key : Int) : Int := (plA s key 48).1
def stF (s : Int → Int) (key : Int) : Int := if plc s key < 0 then 0 else s (atI (plc s key) + 3)
theorem plA_b (s : Int → Int) (key : Int) : ∀ k : Nat, k ≤ 48 → (plA s key k).1 = -1 ∧ (plA s key k).2 = 0 ∨ 0 ≤ (plA s key k).1 ∧ (plA s key k).1 < k ∧ (plA s key k).2 = s (atI (plA s key k).1 + 3) ∧ s (atI (plA s key k).1) = 2 ∧ s (atI (plA s key k).1 + 1) = key ∧ 0 < (plA s key k).2 := by
  intro k
  induction k with
  | zero => intro _; left; exact ⟨rfl, rfl⟩
  | succ k ih =>
    intro hk
    unfold plA
    split
    · next h =>
      right
      refine ⟨by simp, by simp; omega, rfl, h.1, h.2.1, ?_⟩
      rcases ih (by omega) with g | g
      · have := h.2.2; show 0 < s _; omega
      · have := h.2.2; show 0 < s _; omega
    · rcases ih (by omega) with g | g
      · exact Or.inl g
      · exact Or.inr ⟨g.1, by omega, g.2.2⟩
theorem plc_b (s : Int → Int) (key : Int) : plc s key = -1 ∨ 0 ≤ plc s key ∧ plc s key < 48 := by
  rcases plA_b s key 48 (by omega) with g | g
  · exact Or.inl g.1
  · exact Or.inr ⟨g.1, g.2.1⟩
section TWIN1
variable {E : ET} {hi : HI} {hr : HR} {s : Int → Int}
set_option maxRecDepth 100000 in
set_option maxHeartbeats 4000000 in
theorem c_X9_isLate {p : Int} (hp : InR p) : AMet E M_X9_isLate [aI p] hi hr 131 (EX (some (aI (lat p))) hi hr 131) := by
  refine am_of (by decide +kernel) (Nat.le_of_ble_eq_true rfl) ?_
  refine aw_iload_n dX9_isLate_0 rfl ?_
  refine aw_bipush dX9_isLate_1 (by decide) ?_
  refine aw_ic_eq (tgt := 16) dX9_isLate_3 (by decide) hp ⟨by decide, by decide⟩ (fun h3 => ?_) (fun h3 => ?_)
  · refine aw_iconst dX9_isLate_16 ?_
    refine aw_goto (tgt := 21) dX9_isLate_17 (by decide) ?_
    refine aw_zret dX9_isLate_21 rfl (Or.inr rfl) (by decide) (by decide) ?_
    exact exI (by simp only [lat]; (repeat' split) <;> first | rfl | omega)
  · refine aw_iload_n dX9_isLate_6 rfl ?_
    refine aw_if_le (tgt := 20) dX9_isLate_7 (by decide) hp (fun h7 => ?_) (fun h7 => ?_)
    · refine aw_iconst dX9_isLate_20 ?_
      refine aw_zret dX9_isLate_21 rfl (Or.inl rfl) (by decide) (by decide) ?_
      exact exI (by simp only [lat]; (repeat' split) <;> first | rfl | omega)
    · refine aw_iload_n dX9_isLate_10 rfl ?_
      refine aw_iconst dX9_isLate_11 ?_
      refine aw_irem dX9_isLate_12 (by omega) hp (by decide) ⟨by decide, by decide⟩ ?_
      refine aw_if_ne (tgt := 20) dX9_isLate_13 (by decide) ⟨by omega, by omega⟩ (fun h13 => ?_) (fun h13 => ?_)
      · refine aw_iconst dX9_isLate_20 ?_
        refine aw_zret dX9_isLate_21 rfl (Or.inl rfl) (by decide) (by decide) ?_
        exact exI (by simp only [lat]; (repeat' split) <;> first | rfl | omega)
      · refine aw_iconst dX9_isLate_16 ?_
        refine aw_goto (tgt := 21) dX9_isLate_17 (by decide) ?_
        refine aw_zret dX9_isLate_21 rfl (Or.inr rfl) (by decide) (by decide) ?_
        exact exI (by simp only [lat]; (repeat' split) <;> first | rfl | omega)
set_option maxRecDepth 100000 in
set_option maxHeartbeats 4000000 in
theorem c_X9_lineOf {p : Int} (h0 : 0 ≤ p) (h1 : p < 16) : AMet E M_X9_lineOf [aI p] hi hr 131 (EX (some (aI (lin p))) hi hr 131) := by
  refine am_of (by decide +kernel) (Nat.le_of_ble_eq_true rfl) ?_
  refine aw_iload_n dX9_lineOf_0 rfl ?_
  refine aw_bipush dX9_lineOf_1 (by decide) ?_
  refine aw_ic_ne (tgt := 11) dX9_lineOf_3 (by decide) ⟨by omega, by omega⟩ ⟨by decide, by decide⟩ (fun h3 => ?_) (fun h3 => ?_)
  · refine aw_iload_n dX9_lineOf_11 rfl ?_
    refine aw_S1x dX9_lineOf_12 clX9_36 ⟨by decide, by decide⟩ (c_X9_isLate (p := p) ⟨by omega, by omega⟩) (by decide) (by decide) rfl rfl (by simp only [List.length_cons, List.length_nil]; omega) ?_
    refine aw_if_eq (tgt := 26) dX9_lineOf_15 (by decide) (by unfold lat; split <;> exact ⟨by decide, by decide⟩) (fun h15 => ?_) (fun h15 => ?_)
    · refine aw_iload_n dX9_lineOf_26 rfl ?_
      refine aw_iconst dX9_lineOf_27 ?_
      refine aw_iadd dX9_lineOf_28 ?_
      refine aw_iconst dX9_lineOf_29 ?_
      refine aw_idiv dX9_lineOf_30 (by omega) ⟨by omega, by omega⟩ (by decide) ⟨by decide, by decide⟩ ?_
      refine aw_iret dX9_lineOf_31 rfl (by decide) (by decide) ?_
      exact exI (by (try unfold lat at *); unfold lin; (repeat' split) <;> first | rfl | omega)
    · refine aw_iload_n dX9_lineOf_18 rfl ?_
      refine aw_iconst dX9_lineOf_19 ?_
      refine aw_idiv dX9_lineOf_20 (by omega) ⟨by omega, by omega⟩ (by decide) ⟨by decide, by decide⟩ ?_
      refine aw_iconst dX9_lineOf_21 ?_
      refine aw_isub dX9_lineOf_22 ?_
      refine aw_goto (tgt := 31) dX9_lineOf_23 (by decide) ?_
      refine aw_iret dX9_lineOf_31 rfl (by decide) (by decide) ?_
      exact exI (by (try unfold lat at *); unfold lin; (repeat' split) <;> first | rfl | omega)
  · refine aw_bipush dX9_lineOf_6 (by decide) ?_
    refine aw_goto (tgt := 31) dX9_lineOf_8 (by decide) ?_
    refine aw_iret dX9_lineOf_31 rfl (by decide) (by decide) ?_
    exact exI (by (try unfold lat at *); unfold lin; (repeat' split) <;> first | rfl | omega)
set_option maxRecDepth 100000 in
set_option maxHeartbeats 4000000 in
theorem c_X9_earlyOf {l : Int} (h0 : InR l) : AMet E M_X9_earlyOf [aI l] hi hr 131 (EX (some (aI (ear l))) hi hr 131) := by
  refine am_of (by decide +kernel) (Nat.le_of_ble_eq_true rfl) ?_
  refine aw_iload_n dX9_earlyOf_0 rfl ?_
  refine aw_if_ne (tgt := 8) dX9_earlyOf_1 (by decide) h0 (fun h1 => ?_) (fun h1 => ?_)
  · refine aw_iconst dX9_earlyOf_8 ?_
    refine aw_iload_n dX9_earlyOf_9 rfl ?_
    refine aw_imul dX9_earlyOf_10 ?_
    refine aw_iconst dX9_earlyOf_11 ?_
    refine aw_isub dX9_earlyOf_12 ?_
    refine aw_iret dX9_earlyOf_13 rfl (by decide) (by decide) ?_
    exact exI (by simp only [ear]; (repeat' split) <;> first | rfl | omega)
  · refine aw_iconst dX9_earlyOf_4 ?_
    refine aw_goto (tgt := 13) dX9_earlyOf_5 (by decide) ?_
    refine aw_iret dX9_earlyOf_13 rfl (by decide) (by decide) ?_
    exact exI (by simp only [ear]; (repeat' split) <;> first | rfl | omega)
set_option maxRecDepth 100000 in
set_option maxHeartbeats 4000000 in
theorem c_X9_pageAt {b p : Int} : AMet E M_X9_pageAt [aR 125, aI b, aI p] hi hr 131 (EX (some (aI (24 + 4 * (16 * b + p)))) hi hr 131) := by
  refine am_of (by decide +kernel) (Nat.le_of_ble_eq_true rfl) ?_
  refine aw_bipush dX9_pageAt_0 (by decide) ?_
  refine aw_iconst dX9_pageAt_2 ?_
  refine aw_bipush dX9_pageAt_3 (by decide) ?_
  refine aw_iload_n dX9_pageAt_5 rfl ?_
  refine aw_imul dX9_pageAt_6 ?_
  refine aw_iload_n dX9_pageAt_7 rfl ?_
  refine aw_iadd dX9_pageAt_8 ?_
  refine aw_imul dX9_pageAt_9 ?_
  refine aw_iadd dX9_pageAt_10 ?_
  refine aw_iret dX9_pageAt_11 rfl (by decide) (by decide) ?_
  exact EX.rf
set_option maxRecDepth 100000 in
set_option maxHeartbeats 4000000 in
theorem c_X9_backupAt {b p : Int} : AMet E M_X9_backupAt [aR 125, aI b, aI p] hi hr 131 (EX (some (aI (152 + 4 * (8 * b + p)))) hi hr 131) := by
  refine am_of (by decide +kernel) (Nat.le_of_ble_eq_true rfl) ?_
  refine aw_sipush dX9_backupAt_0 (by decide) ?_
  refine aw_iconst dX9_backupAt_3 ?_
  refine aw_bipush dX9_backupAt_4 (by decide) ?_
  refine aw_iload_n dX9_backupAt_6 rfl ?_
  refine aw_imul dX9_backupAt_7 ?_
  refine aw_iload_n dX9_backupAt_8 rfl ?_
  refine aw_iadd dX9_backupAt_9 ?_
  refine aw_imul dX9_backupAt_10 ?_
  refine aw_iadd dX9_backupAt_11 ?_
  refine aw_iret dX9_backupAt_12 rfl (by decide) (by decide) ?_
  exact EX.rf
set_option maxRecDepth 100000 in
set_option maxHeartbeats 4000000 in
theorem c_X9_next (hHR : HRk hr) (hM : MI s) : AMet E M_X9_next [aR 125] (pa 126 hi s) hr 131 (EX (some (aI (nxt s))) (pa 126 hi s) hr 131) := by
  refine am_of (by decide +kernel) (Nat.le_of_ble_eq_true rfl) ?_
  have h2 := hM.2.1
  have loop : ∀ (d : Nat) (p : Int), 0 ≤ p → p + d = 16 → AW E M_X9_next 0 0 2 [some (aR 125), some (aI p)] [] (pa 126 hi s) hr 131 (EX (some (aI (nxA s d p))) (pa 126 hi s) hr 131) := by
    intro d
    induction d with
    | zero =>
      intro p h0 hp
      refine aw_iload_n dX9_next_2 rfl ?_
      refine aw_bipush dX9_next_3 (by decide) ?_
      refine aw_ic_ge (tgt := 33) dX9_next_5 (by decide) ⟨by omega, by omega⟩ ⟨by decide, by decide⟩ (fun h5 => ?_) (fun h5 => ?_)
      · refine aw_iload_n dX9_next_33 rfl ?_
        refine aw_iret dX9_next_34 rfl (by decide) (by decide) ?_
        exact EX.rf
      · exact absurd h5 (by omega)
    | succ d ih =>
      intro p h0 hp
      refine aw_iload_n dX9_next_2 rfl ?_
      refine aw_bipush dX9_next_3 (by decide) ?_
      refine aw_ic_ge (tgt := 33) dX9_next_5 (by decide) ⟨by omega, by omega⟩ ⟨by decide, by decide⟩ (fun h5 => ?_) (fun h5 => ?_)
      · exact absurd h5 (by omega)
      · refine aw_aload_n dX9_next_8 rfl ?_
        refine aw_getr (x := 126) dX9_next_9 ci9 (by decide) fX9_7 (by decide) (by decide +kernel) rfl ((hHR 125 0 (by decide) (by decide +kernel)).trans rfl) ?_
        refine aw_aload_n dX9_next_12 rfl ?_
        refine aw_aload_n dX9_next_13 rfl ?_
        refine aw_getr (x := 126) dX9_next_14 ci9 (by decide) fX9_7 (by decide) (by decide +kernel) rfl ((hHR 125 0 (by decide) (by decide +kernel)).trans rfl) ?_
        refine aw_iconst dX9_next_17 ?_
        refine aw_iald (N := 256) dX9_next_18 (Or.inl ⟨(by decide), (by decide +kernel)⟩) (by decide) (by decide) (by decide) (pa_gi 126 _ _ (by decide)) ?_
        refine aw_iload_n dX9_next_19 rfl ?_
        refine aw_V2x dX9_next_20 clX9_40 ⟨by decide, by decide⟩ (c := 9) (N := 11) (by decide) (by decide +kernel) rfl c_X9_pageAt (by decide) (by decide) rfl rfl (by simp only [List.length_cons, List.length_nil]; omega) ?_
        refine aw_iald (N := 256) dX9_next_23 (Or.inl ⟨(by decide), (by decide +kernel)⟩) (by omega) (by omega) (by decide) (pa_gi 126 _ _ (by omega)) ?_
        refine aw_if_eq (tgt := 33) dX9_next_24 (by decide) (hM.r _ (by unfold xc; omega)) (fun h24 => ?_) (fun h24 => ?_)
        · refine aw_iload_n dX9_next_33 rfl ?_
          refine aw_iret dX9_next_34 rfl (by decide) (by decide) ?_
          exact exI (by simp only [nxA]; rw [if_neg (by omega)])
        · refine aw_iinc (ls2 := [_, _]) dX9_next_27 rfl (by decide) rfl ?_
          refine aw_goto (tgt := 2) dX9_next_30 (by decide) ?_
          rw [show nxA s (d + 1) p = nxA s d (p + 1) from by simp only [nxA]; rw [if_pos ⟨by omega, h24⟩]]
          exact ih (p + 1) (by omega) (by omega)
  refine aw_iconst dX9_next_0 ?_
  refine aw_istore_n (ls2 := [_, _]) dX9_next_1 (by decide) rfl ?_
  exact loop 16 0 (by omega) (by omega)
set_option maxRecDepth 100000 in
set_option maxHeartbeats 4000000 in
theorem c_X9_isBlank {b : Int} (hHR : HRk hr) (hM : MI s) (hb : b = 0 ∨ b = 1) : AMet E M_X9_isBlank [aR 125, aI b] (pa 126 hi s) hr 131 (EX (some (aI (blA s b 16))) (pa 126 hi s) hr 131) := by
  refine am_of (by decide +kernel) (Nat.le_of_ble_eq_true rfl) ?_
  have hb1 : ∀ k, blA s b k = 0 ∨ blA s b k = 1 := by
    intro k
    cases k with
    | zero => right; rfl
    | succ k => simp only [blA]; split <;> simp
  have loop : ∀ (d k : Nat), k + d = 16 → AW E M_X9_isBlank 0 0 4 [some (aR 125), some (aI b), some (aI (blA s b k)), some (aI (k : Int))] [] (pa 126 hi s) hr 131 (EX (some (aI (blA s b 16))) (pa 126 hi s) hr 131) := by
    intro d
    induction d with
    | zero =>
      intro k hk
      have hk' : k = 16 := by omega
      subst hk'
      refine aw_iload_n dX9_isBlank_4 rfl ?_
      refine aw_bipush dX9_isBlank_5 (by decide) ?_
      refine aw_ic_ge (tgt := 40) dX9_isBlank_7 (by decide) ⟨by decide, by decide⟩ ⟨by decide, by decide⟩ (fun h7 => ?_) (fun h7 => ?_)
      · refine aw_iload_n dX9_isBlank_40 rfl ?_
        refine aw_zret dX9_isBlank_41 rfl (by rcases hb1 16 with q | q <;> rw [q] <;> simp) (by decide) (by decide) ?_
        exact EX.rf
      · exact absurd h7 (by decide)
    | succ d ih =>
      intro k hk
      refine aw_iload_n dX9_isBlank_4 rfl ?_
      refine aw_bipush dX9_isBlank_5 (by decide) ?_
      refine aw_ic_ge (tgt := 40) dX9_isBlank_7 (by decide) ⟨by omega, by omega⟩ ⟨by decide, by decide⟩ (fun h7 => ?_) (fun h7 => ?_)
      · exact absurd h7 (by omega)
      · refine aw_iload_n dX9_isBlank_10 rfl ?_
        refine aw_if_eq (tgt := 32) dX9_isBlank_11 (by decide) (by rcases hb1 k with q | q <;> rw [q] <;> exact ⟨by decide, by decide⟩) (fun h11 => ?_) (fun h11 => ?_)
        · refine aw_iconst dX9_isBlank_32 ?_
          refine aw_istore_n (ls2 := [_, _, _, _]) dX9_isBlank_33 (by decide) rfl ?_
          refine aw_iinc (ls2 := [_, _, _, _]) dX9_isBlank_34 rfl (by decide) rfl ?_
          refine aw_goto (tgt := 4) dX9_isBlank_37 (by decide) ?_
          have e : blA s b (k + 1) = 0 := by
            simp only [blA]
            rcases hb1 k with q | q <;> simp_all
          have g := ih (k + 1) (by omega)
          rw [e] at g
          exact g
        · refine aw_aload_n dX9_isBlank_14 rfl ?_
          refine aw_getr (x := 126) dX9_isBlank_15 ci9 (by decide) fX9_7 (by decide) (by decide +kernel) rfl ((hHR 125 0 (by decide) (by decide +kernel)).trans rfl) ?_
          refine aw_aload_n dX9_isBlank_18 rfl ?_
          refine aw_iload_n dX9_isBlank_19 rfl ?_
          refine aw_iload_n dX9_isBlank_20 rfl ?_
          refine aw_V2x dX9_isBlank_21 clX9_40 ⟨by decide, by decide⟩ (c := 9) (N := 11) (by decide) (by decide +kernel) rfl c_X9_pageAt (by decide) (by decide) rfl rfl (by simp only [List.length_cons, List.length_nil]; omega) ?_
          refine aw_iald (N := 256) dX9_isBlank_24 (Or.inl ⟨(by decide), (by decide +kernel)⟩) (by omega) (by omega) (by decide) (pa_gi 126 _ _ (by omega)) ?_
          refine aw_if_ne (tgt := 32) dX9_isBlank_25 (by decide) (hM.r _ (by unfold xc; omega)) (fun h25 => ?_) (fun h25 => ?_)
          · refine aw_iconst dX9_isBlank_32 ?_
            refine aw_istore_n (ls2 := [_, _, _, _]) dX9_isBlank_33 (by decide) rfl ?_
            refine aw_iinc (ls2 := [_, _, _, _]) dX9_isBlank_34 rfl (by decide) rfl ?_
            refine aw_goto (tgt := 4) dX9_isBlank_37 (by decide) ?_
            have e : blA s b (k + 1) = 0 := by
              simp only [blA]
              rcases hb1 k with q | q <;> simp_all
            have g := ih (k + 1) (by omega)
            rw [e] at g
            exact g
          · refine aw_iconst dX9_isBlank_28 ?_
            refine aw_goto (tgt := 33) dX9_isBlank_29 (by decide) ?_
            refine aw_istore_n (ls2 := [_, _, _, _]) dX9_isBlank_33 (by decide) rfl ?_
            refine aw_iinc (ls2 := [_, _, _, _]) dX9_isBlank_34 rfl (by decide) rfl ?_
            refine aw_goto (tgt := 4) dX9_isBlank_37 (by decide) ?_
            have e : blA s b (k + 1) = 1 := by
              simp only [blA]
              rcases hb1 k with q | q <;> simp_all
            have g := ih (k + 1) (by omega)
            rw [e] at g
            exact g
  refine aw_iconst dX9_isBlank_0 ?_
  refine aw_istore_n (ls2 := [_, _, _, _]) dX9_isBlank_1 (by decide) rfl ?_
  refine aw_iconst dX9_isBlank_2 ?_
  refine aw_istore_n (ls2 := [_, _, _, _]) dX9_isBlank_3 (by decide) rfl ?_
  exact loop 16 0 (by omega)
set_option maxRecDepth 100000 in
set_option maxHeartbeats 4000000 in
theorem c_X9_atPlace {c : Int} (h0 : 0 ≤ c) (h1 : c < 48) : AMet E M_X9_atPlace [aR 125, aI c] hi hr 131 (EX (some (aI (atI c))) hi hr 131) := by
  refine am_of (by decide +kernel) (Nat.le_of_ble_eq_true rfl) ?_
  refine aw_iload_n dX9_atPlace_0 rfl ?_
  refine aw_bipush dX9_atPlace_1 (by decide) ?_
  refine aw_idiv dX9_atPlace_3 (by omega) ⟨by omega, by omega⟩ (by decide) ⟨by decide, by decide⟩ ?_
  refine aw_istore_n (ls2 := [_, _, _]) dX9_atPlace_4 (by decide) rfl ?_
  refine aw_iload_n dX9_atPlace_5 rfl ?_
  refine aw_bipush dX9_atPlace_6 (by decide) ?_
  refine aw_irem dX9_atPlace_8 (by omega) ⟨by omega, by omega⟩ (by decide) ⟨by decide, by decide⟩ ?_
  refine aw_bipush dX9_atPlace_9 (by decide) ?_
  refine aw_ic_ge (tgt := 26) dX9_atPlace_11 (by decide) ⟨by omega, by omega⟩ ⟨by decide, by decide⟩ (fun h11 => ?_) (fun h11 => ?_)
  · refine aw_aload_n dX9_atPlace_26 rfl ?_
    refine aw_iload_n dX9_atPlace_27 rfl ?_
    refine aw_iload_n dX9_atPlace_28 rfl ?_
    refine aw_bipush dX9_atPlace_29 (by decide) ?_
    refine aw_irem dX9_atPlace_31 (by omega) ⟨by omega, by omega⟩ (by decide) ⟨by decide, by decide⟩ ?_
    refine aw_bipush dX9_atPlace_32 (by decide) ?_
    refine aw_isub dX9_atPlace_34 ?_
    refine aw_V2x dX9_atPlace_35 clX9_48 ⟨by decide, by decide⟩ (c := 9) (N := 11) (by decide) (by decide +kernel) rfl c_X9_backupAt (by decide) (by decide) rfl rfl (by simp only [List.length_cons, List.length_nil]; omega) ?_
    refine aw_iret dX9_atPlace_38 rfl (by decide) (by decide) ?_
    exact exI (by simp only [atI]; (repeat' split) <;> first | rfl | omega)
  · refine aw_aload_n dX9_atPlace_14 rfl ?_
    refine aw_iload_n dX9_atPlace_15 rfl ?_
    refine aw_iload_n dX9_atPlace_16 rfl ?_
    refine aw_bipush dX9_atPlace_17 (by decide) ?_
    refine aw_irem dX9_atPlace_19 (by omega) ⟨by omega, by omega⟩ (by decide) ⟨by decide, by decide⟩ ?_
    refine aw_V2x dX9_atPlace_20 clX9_40 ⟨by decide, by decide⟩ (c := 9) (N := 11) (by decide) (by decide +kernel) rfl c_X9_pageAt (by decide) (by decide) rfl rfl (by simp only [List.length_cons, List.length_nil]; omega) ?_
    refine aw_goto (tgt := 38) dX9_atPlace_23 (by decide) ?_
    refine aw_iret dX9_atPlace_38 rfl (by decide) (by decide) ?_
    exact exI (by simp only [atI]; (repeat' split) <;> first | rfl | omega)
set_option maxRecDepth 100000 in
set_option maxHeartbeats 4000000 in
theorem c_X9_placeOfKey {key : Int} (hHR : HRk hr) (hM : MI s) (hkey : InR key) : AMet E M_X9_placeOfKey [aR 125, aI key] (pa 126 hi s) hr 131 (EX (some (aI (plc s key))) (pa 126 hi s) hr 131) := by
  refine am_of (by decide +kernel) (Nat.le_of_ble_eq_true rfl) ?_
  have loop : ∀ (d k : Nat) (v5 v6 : Option AV), k + d = 48 → AW E M_X9_placeOfKey 0 0 7 [some (aR 125), some (aI key), some (aI (plA s key k).1), some (aI (plA s key k).2), some (aI (k : Int)), v5, v6] [] (pa 126 hi s) hr 131 (EX (some (aI (plc s key))) (pa 126 hi s) hr 131) := by
    intro d
    induction d with
    | zero =>
      intro k v5 v6 hk
      have hk' : k = 48 := by omega
      subst hk'
      refine aw_iload dX9_placeOfKey_7 rfl ?_
      refine aw_bipush dX9_placeOfKey_9 (by decide) ?_
      refine aw_ic_ge (tgt := 103) dX9_placeOfKey_11 (by decide) ⟨by decide, by decide⟩ ⟨by decide, by decide⟩ (fun h11 => ?_) (fun h11 => ?_)
      · refine aw_iload_n dX9_placeOfKey_103 rfl ?_
        refine aw_iret dX9_placeOfKey_104 rfl (by decide) (by decide) ?_
        exact EX.rf
      · exact absurd h11 (by decide)
    | succ d ih =>
      intro k v5 v6 hk
      have hb := atI_b (c := (k : Int)) (by omega) (by omega)
      have hst : InR (plA s key k).2 := by
        rcases plA_b s key k (by omega) with g | g
        · rw [g.2]; exact ⟨by decide, by decide⟩
        · have hb2 := atI_b g.1 (by omega)
          rw [g.2.2.1]; exact hM.r _ (by unfold xc; omega)
      refine aw_iload dX9_placeOfKey_7 rfl ?_
      refine aw_bipush dX9_placeOfKey_9 (by decide) ?_
      refine aw_ic_ge (tgt := 103) dX9_placeOfKey_11 (by decide) ⟨by omega, by omega⟩ ⟨by decide, by decide⟩ (fun h11 => ?_) (fun h11 => ?_)
      · exact absurd h11 (by omega)
      · refine aw_aload_n dX9_placeOfKey_14 rfl ?_
        refine aw_iload dX9_placeOfKey_15 rfl ?_
        refine aw_V1x dX9_placeOfKey_17 clX9_44 ⟨by decide, by decide⟩ (c := 9) (N := 11) (by decide) (by decide +kernel) rfl (c_X9_atPlace (by omega) (by omega)) (by decide) (by decide) rfl rfl (by simp only [List.length_cons, List.length_nil]; omega) ?_
        refine aw_istore (ls2 := [_, _, _, _, _, _, _]) dX9_placeOfKey_20 (by decide) rfl ?_
        refine aw_aload_n dX9_placeOfKey_22 rfl ?_
        refine aw_getr (x := 126) dX9_placeOfKey_23 ci9 (by decide) fX9_7 (by decide) (by decide +kernel) rfl ((hHR 125 0 (by decide) (by decide +kernel)).trans rfl) ?_
        refine aw_iload dX9_placeOfKey_26 rfl ?_
        refine aw_iald (N := 256) dX9_placeOfKey_28 (Or.inl ⟨(by decide), (by decide +kernel)⟩) (by omega) (by omega) (by decide) (pa_gi 126 _ _ (by omega)) ?_
        refine aw_iconst dX9_placeOfKey_29 ?_
        refine aw_ic_ne (tgt := 63) dX9_placeOfKey_30 (by decide) (hM.r _ (by unfold xc; omega)) ⟨by decide, by decide⟩ (fun h30 => ?_) (fun h30 => ?_)
        · refine aw_iconst dX9_placeOfKey_63 ?_
          refine aw_istore (ls2 := [_, _, _, _, _, _, _]) dX9_placeOfKey_64 (by decide) rfl ?_
          refine aw_iload dX9_placeOfKey_66 rfl ?_
          refine aw_if_eq (tgt := 76) dX9_placeOfKey_68 (by decide) ⟨by decide, by decide⟩ (fun h68 => ?_) (fun h68 => ?_)
          · refine aw_iload_n dX9_placeOfKey_76 rfl ?_
            refine aw_istore_n (ls2 := [_, _, _, _, _, _, _]) dX9_placeOfKey_77 (by decide) rfl ?_
            refine aw_iload dX9_placeOfKey_78 rfl ?_
            refine aw_if_eq (tgt := 95) dX9_placeOfKey_80 (by decide) ⟨by decide, by decide⟩ (fun h80 => ?_) (fun h80 => ?_)
            · refine aw_iload_n dX9_placeOfKey_95 rfl ?_
              refine aw_istore_n (ls2 := [_, _, _, _, _, _, _]) dX9_placeOfKey_96 (by decide) rfl ?_
              refine aw_iinc (ls2 := [_, _, _, _, _, _, _]) dX9_placeOfKey_97 rfl (by decide) rfl ?_
              refine aw_goto (tgt := 7) dX9_placeOfKey_100 (by decide) ?_
              have e : plA s key (k + 1) = plA s key k := by
                simp only [plA]
                rw [if_neg (by omega)]
              have g := fun v5 v6 => ih (k + 1) v5 v6 (by omega)
              simp only [e] at g
              exact g _ _
            · exact absurd h80 (by decide)
          · exact absurd h68 (by decide)
        · refine aw_aload_n dX9_placeOfKey_33 rfl ?_
          refine aw_getr (x := 126) dX9_placeOfKey_34 ci9 (by decide) fX9_7 (by decide) (by decide +kernel) rfl ((hHR 125 0 (by decide) (by decide +kernel)).trans rfl) ?_
          refine aw_iload dX9_placeOfKey_37 rfl ?_
          refine aw_iconst dX9_placeOfKey_39 ?_
          refine aw_iadd dX9_placeOfKey_40 ?_
          refine aw_iald (N := 256) dX9_placeOfKey_41 (Or.inl ⟨(by decide), (by decide +kernel)⟩) (by omega) (by omega) (by decide) (pa_gi 126 _ _ (by omega)) ?_
          refine aw_iload_n dX9_placeOfKey_42 rfl ?_
          refine aw_ic_ne (tgt := 63) dX9_placeOfKey_43 (by decide) (hM.r _ (by unfold xc; omega)) hkey (fun h43 => ?_) (fun h43 => ?_)
          · refine aw_iconst dX9_placeOfKey_63 ?_
            refine aw_istore (ls2 := [_, _, _, _, _, _, _]) dX9_placeOfKey_64 (by decide) rfl ?_
            refine aw_iload dX9_placeOfKey_66 rfl ?_
            refine aw_if_eq (tgt := 76) dX9_placeOfKey_68 (by decide) ⟨by decide, by decide⟩ (fun h68 => ?_) (fun h68 => ?_)
            · refine aw_iload_n dX9_placeOfKey_76 rfl ?_
              refine aw_istore_n (ls2 := [_, _, _, _, _, _, _]) dX9_placeOfKey_77 (by decide) rfl ?_
              refine aw_iload dX9_placeOfKey_78 rfl ?_
              refine aw_if_eq (tgt := 95) dX9_placeOfKey_80 (by decide) ⟨by decide, by decide⟩ (fun h80 => ?_) (fun h80 => ?_)
              · refine aw_iload_n dX9_placeOfKey_95 rfl ?_
                refine aw_istore_n (ls2 := [_, _, _, _, _, _, _]) dX9_placeOfKey_96 (by decide) rfl ?_
                refine aw_iinc (ls2 := [_, _, _, _, _, _, _]) dX9_placeOfKey_97 rfl (by decide) rfl ?_
                refine aw_goto (tgt := 7) dX9_placeOfKey_100 (by decide) ?_
                have e : plA s key (k + 1) = plA s key k := by
                  simp only [plA]
                  rw [if_neg (by omega)]
                have g := fun v5 v6 => ih (k + 1) v5 v6 (by omega)
                simp only [e] at g
                exact g _ _
              · exact absurd h80 (by decide)
            · exact absurd h68 (by decide)
          · refine aw_aload_n dX9_placeOfKey_46 rfl ?_
            refine aw_getr (x := 126) dX9_placeOfKey_47 ci9 (by decide) fX9_7 (by decide) (by decide +kernel) rfl ((hHR 125 0 (by decide) (by decide +kernel)).trans rfl) ?_
            refine aw_iload dX9_placeOfKey_50 rfl ?_
            refine aw_iconst dX9_placeOfKey_52 ?_
            refine aw_iadd dX9_placeOfKey_53 ?_
            refine aw_iald (N := 256) dX9_placeOfKey_54 (Or.inl ⟨(by decide), (by decide +kernel)⟩) (by omega) (by omega) (by decide) (pa_gi 126 _ _ (by omega)) ?_
            refine aw_iload_n dX9_placeOfKey_55 rfl ?_
            refine aw_ic_le (tgt := 63) dX9_placeOfKey_56 (by decide) (hM.r _ (by unfold xc; omega)) hst (fun h56 => ?_) (fun h56 => ?_)
            · refine aw_iconst dX9_placeOfKey_63 ?_
              refine aw_istore (ls2 := [_, _, _, _, _, _, _]) dX9_placeOfKey_64 (by decide) rfl ?_
              refine aw_iload dX9_placeOfKey_66 rfl ?_
              refine aw_if_eq (tgt := 76) dX9_placeOfKey_68 (by decide) ⟨by decide, by decide⟩ (fun h68 => ?_) (fun h68 => ?_)
              · refine aw_iload_n dX9_placeOfKey_76 rfl ?_
                refine aw_istore_n (ls2 := [_, _, _, _, _, _, _]) dX9_placeOfKey_77 (by decide) rfl ?_
                refine aw_iload dX9_placeOfKey_78 rfl ?_
                refine aw_if_eq (tgt := 95) dX9_placeOfKey_80 (by decide) ⟨by decide, by decide⟩ (fun h80 => ?_) (fun h80 => ?_)
                · refine aw_iload_n dX9_placeOfKey_95 rfl ?_
                  refine aw_istore_n (ls2 := [_, _, _, _, _, _, _]) dX9_placeOfKey_96 (by decide) rfl ?_
                  refine aw_iinc (ls2 := [_, _, _, _, _, _, _]) dX9_placeOfKey_97 rfl (by decide) rfl ?_
                  refine aw_goto (tgt := 7) dX9_placeOfKey_100 (by decide) ?_
                  have e : plA s key (k + 1) = plA s key k := by
                    simp only [plA]
                    rw [if_neg (by omega)]
                  have g := fun v5 v6 => ih (k + 1) v5 v6 (by omega)
                  simp only [e] at g
                  exact g _ _
                · exact absurd h80 (by decide)
              · exact absurd h68 (by decide)
            · refine aw_iconst dX9_placeOfKey_59 ?_
              refine aw_goto (tgt := 64) dX9_placeOfKey_60 (by decide) ?_
              refine aw_istore (ls2 := [_, _, _, _, _, _, _]) dX9_placeOfKey_64 (by decide) rfl ?_
              refine aw_iload dX9_placeOfKey_66 rfl ?_
              refine aw_if_eq (tgt := 76) dX9_placeOfKey_68 (by decide) ⟨by decide, by decide⟩ (fun h68 => ?_) (fun h68 => ?_)
              · exact absurd h68 (by decide)
              · refine aw_iload dX9_placeOfKey_71 rfl ?_
                refine aw_goto (tgt := 77) dX9_placeOfKey_73 (by decide) ?_
                refine aw_istore_n (ls2 := [_, _, _, _, _, _, _]) dX9_placeOfKey_77 (by decide) rfl ?_
                refine aw_iload dX9_placeOfKey_78 rfl ?_
                refine aw_if_eq (tgt := 95) dX9_placeOfKey_80 (by decide) ⟨by decide, by decide⟩ (fun h80 => ?_) (fun h80 => ?_)
                · exact absurd h80 (by decide)
                · refine aw_aload_n dX9_placeOfKey_83 rfl ?_
                  refine aw_getr (x := 126) dX9_placeOfKey_84 ci9 (by decide) fX9_7 (by decide) (by decide +kernel) rfl ((hHR 125 0 (by decide) (by decide +kernel)).trans rfl) ?_
                  refine aw_iload dX9_placeOfKey_87 rfl ?_
                  refine aw_iconst dX9_placeOfKey_89 ?_
                  refine aw_iadd dX9_placeOfKey_90 ?_
                  refine aw_iald (N := 256) dX9_placeOfKey_91 (Or.inl ⟨(by decide), (by decide +kernel)⟩) (by omega) (by omega) (by decide) (pa_gi 126 _ _ (by omega)) ?_
                  refine aw_goto (tgt := 96) dX9_placeOfKey_92 (by decide) ?_
                  refine aw_istore_n (ls2 := [_, _, _, _, _, _, _]) dX9_placeOfKey_96 (by decide) rfl ?_
                  refine aw_iinc (ls2 := [_, _, _, _, _, _, _]) dX9_placeOfKey_97 rfl (by decide) rfl ?_
                  refine aw_goto (tgt := 7) dX9_placeOfKey_100 (by decide) ?_
                  have e : plA s key (k + 1) = ((k : Int), s (atI k + 3)) := by
                    simp only [plA]
                    rw [if_pos ⟨h30, h43, by omega⟩]
                  have g := fun v5 v6 => ih (k + 1) v5 v6 (by omega)
                  simp only [e] at g
                  exact g _ _
  refine aw_iconst dX9_placeOfKey_0 ?_
  refine aw_istore_n (ls2 := [_, _, _, _, _, _, _]) dX9_placeOfKey_1 (by decide) rfl ?_
  refine aw_iconst dX9_placeOfKey_2 ?_
  refine aw_istore_n (ls2 := [_, _, _, _, _, _, _]) dX9_placeOfKey_3 (by decide) rfl ?_
  refine aw_iconst dX9_placeOfKey_4 ?_
  refine aw_istore (ls2 := [_, _, _, _, _, _, _]) dX9_placeOfKey_5 (by decide) rfl ?_
  exact loop 48 0 _ _ (by omega)
set_option maxRecDepth 100000 in
set_option maxHeartbeats 4000000 in
theorem c_X9_stampOf {key : Int} (hHR : HRk hr) (hM : MI s) (hkey : InR key) : AMet E M_X9_stampOf [aR 125, aI key] (pa 126 hi s) hr 131 (EX (some (aI (stF s key))) (pa 126 hi s) hr 131) := by
  refine am_of (by decide +kernel) (Nat.le_of_ble_eq_true rfl) ?_
  have hpl := plc_b s key
  refine aw_aload_n dX9_stampOf_0 rfl ?_
  refine aw_iload_n dX9_stampOf_1 rfl ?_
  refine aw_V1x dX9_stampOf_2 clX9_51 ⟨by decide, by decide⟩ (c := 9) (N := 11) (by decide) (by decide +kernel) rfl (c_X9_placeOfKey hHR hM hkey) (by decide) (by decide) rfl rfl (by simp only [List.length_cons, List.length_nil]; omega) ?_
  refine aw_istore_n (ls2 := [_, _, _]) dX9_stampOf_5 (by decide) rfl ?_
  refine aw_iload_n dX9_stampOf_6 rfl ?_
  refine aw_if_ge (tgt := 14) dX9_stampOf_7 (by decide) ⟨by omega, by omega⟩ (fun h7 => ?_) (fun h7 => ?_)
  · refine aw_aload_n dX9_stampOf_14 rfl ?_
    refine aw_getr (x := 126) dX9_stampOf_15 ci9 (by decide) fX9_7 (by decide) (by decide +kernel) rfl ((hHR 125 0 (by decide) (by decide +kernel)).trans rfl) ?_
    refine aw_aload_n dX9_stampOf_18 rfl ?_
    refine aw_iload_n dX9_stampOf_19 rfl ?_
    refine aw_V1x dX9_stampOf_20 clX9_44 ⟨by decide, by decide⟩ (c := 9) (N := 11) (by decide) (by decide +kernel) rfl (c_X9_atPlace (c := plc s key) (by omega) (by omega)) (by decide) (by decide) rfl rfl (by simp only [List.length_cons, List.length_nil]; omega) ?_
    refine aw_iconst dX9_stampOf_23 ?_
    refine aw_iadd dX9_stampOf_24 ?_
    refine aw_iald (N := 256) dX9_stampOf_25 (Or.inl ⟨(by decide), (by decide +kernel)⟩) (by have := atI_b (c := plc s key) (by omega) (by omega); omega) (by have := atI_b (c := plc s key) (by omega) (by omega); omega) (by decide) (pa_gi 126 _ _ (by have := atI_b (c := plc s key) (by omega) (by omega); omega)) ?_
    refine aw_iret dX9_stampOf_26 rfl (by decide) (by decide) ?_
    exact exI (by simp only [stF]; (repeat' split) <;> first | rfl | omega)
  · refine aw_iconst dX9_stampOf_10 ?_
    refine aw_goto (tgt := 26) dX9_stampOf_11 (by decide) ?_
    refine aw_iret dX9_stampOf_26 rfl (by decide) (by decide) ?_
    exact exI (by simp only [stF]; (repeat' split) <;> first | rfl | omega)
end TWIN1
