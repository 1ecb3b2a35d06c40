/-! calls by their ends -/
theorem putS_gk (o : Nat) (hi : HI) (t : TS) (j k : Nat) (kk : Int) (h : ((k : Nat) : Int) = kk) (hj : j < 17 := by decide) : putS o hi t (o + j) k = t j kk := by rw [putS_g o hi t j k hj, h]
theorem putS_gk0 (o : Nat) (hi : HI) (t : TS) (k : Nat) (kk : Int) (h : ((k : Nat) : Int) = kk) : putS o hi t o k = t 0 kk := by rw [putS_g0, h]
theorem putS_uk (o : Nat) (hi : HI) (t : TS) (j k : Nat) (kk v : Int) (h : ((k : Nat) : Int) = kk) (hj : j < 17 := by decide) : up2 (putS o hi t) (o + j) k v = putS o hi (ut t j kk v) := by rw [putS_u o hi t j k v hj, h]
theorem putS_uk0 (o : Nat) (hi : HI) (t : TS) (k : Nat) (kk v : Int) (h : ((k : Nat) : Int) = kk) : up2 (putS o hi t) o k v = putS o hi (ut t 0 kk v) := by rw [putS_u0, h]
theorem pa_gk (a : Nat) (hi : HI) (f : Int → Int) (k : Nat) (kk : Int) (h : ((k : Nat) : Int) = kk) : pa a hi f a k = f kk := by rw [pa_g, h]
theorem pa_uk (a : Nat) (hi : HI) (f : Int → Int) (k : Nat) (kk v : Int) (h : ((k : Nat) : Int) = kk) : up2 (pa a hi f) a k v = pa a hi (up1 f kk v) := by rw [pa_u, h]
section CALLS2
variable {E : ET} {M M2 : MT} {cu su pc : Nat} {ls : List (Option AV)} {st : List AV} {hi h1 : HI} {hr hr1 : HR} {n n1 : Nat} {Q : QT} {idx b c N : Nat} {T : u_T} {v : AV} {P : Int → HI → HR → Nat → Prop} {PW : HI → HR → Nat → Prop}
theorem aw_S1x {v1 : AV} (hd : decode (mC M) pc = .ok (.invokestatic idx, 3)) (hc : CLS (mY M).cls idx M2 1) (hf : fitsIn M M2) (hM : AMet E M2 [v1] hi hr n (EX (some v) h1 hr1 n1)) (hw1 : cu ≤ mMc M) (hw2 : su ≤ mMs M) (z1 : mMc M2 = 0) (z2 : mMs M2 = 0) (hst : st.length ≤ 4) (kk : AW E M cu su (pc + 3) ls (v :: st) h1 hr1 n1 Q) : AW E M cu su pc ls (v1 :: st) hi hr n Q := by
  refine aw_S1 hd hc hf hM (by rw [z1]; exact hw1) (by rw [z2]; exact hw2) hst fun r h2 r2 n2 hq => ?_
  rw [z1, z2, Nat.add_zero, Nat.add_zero]
  obtain ⟨rfl, rfl, rfl, rfl⟩ := hq
  exact kk
theorem aw_S1v {v1 : AV} (hd : decode (mC M) pc = .ok (.invokestatic idx, 3)) (hc : CLS (mY M).cls idx M2 1) (hf : fitsIn M M2) (hM : AMet E M2 [v1] hi hr n (EX none h1 hr1 n1)) (hw1 : cu ≤ mMc M) (hw2 : su ≤ mMs M) (z1 : mMc M2 = 0) (z2 : mMs M2 = 0) (hst : st.length ≤ 4) (kk : AW E M cu su (pc + 3) ls st h1 hr1 n1 Q) : AW E M cu su pc ls (v1 :: st) hi hr n Q := by
  refine aw_S1 hd hc hf hM (by rw [z1]; exact hw1) (by rw [z2]; exact hw2) hst fun r h2 r2 n2 hq => ?_
  rw [z1, z2, Nat.add_zero, Nat.add_zero]
  obtain ⟨rfl, rfl, rfl, rfl⟩ := hq
  exact kk
theorem aw_S1i {v1 : AV} (hd : decode (mC M) pc = .ok (.invokestatic idx, 3)) (hc : CLS (mY M).cls idx M2 1) (hf : fitsIn M M2) (hM : AMet E M2 [v1] hi hr n (PI P)) (hw1 : cu ≤ mMc M) (hw2 : su ≤ mMs M) (z1 : mMc M2 = 0) (z2 : mMs M2 = 0) (hst : st.length ≤ 4) (kk : ∀ (v : Int) (h1 : HI) (hr1 : HR) (n1 : Nat), P v h1 hr1 n1 → AW E M cu su (pc + 3) ls (aI v :: st) h1 hr1 n1 Q) : AW E M cu su pc ls (v1 :: st) hi hr n Q := by
  refine aw_S1 hd hc hf hM (by rw [z1]; exact hw1) (by rw [z2]; exact hw2) hst fun r h2 r2 n2 hq => ?_
  rw [z1, z2, Nat.add_zero, Nat.add_zero]
  obtain ⟨v, rfl, hq⟩ := hq
  exact kk v h2 r2 n2 hq
theorem aw_S1w {v1 : AV} (hd : decode (mC M) pc = .ok (.invokestatic idx, 3)) (hc : CLS (mY M).cls idx M2 1) (hf : fitsIn M M2) (hM : AMet E M2 [v1] hi hr n (PV PW)) (hw1 : cu ≤ mMc M) (hw2 : su ≤ mMs M) (z1 : mMc M2 = 0) (z2 : mMs M2 = 0) (hst : st.length ≤ 4) (kk : ∀ (h1 : HI) (hr1 : HR) (n1 : Nat), PW h1 hr1 n1 → AW E M cu su (pc + 3) ls st h1 hr1 n1 Q) : AW E M cu su pc ls (v1 :: st) hi hr n Q := by
  refine aw_S1 hd hc hf hM (by rw [z1]; exact hw1) (by rw [z2]; exact hw2) hst fun r h2 r2 n2 hq => ?_
  rw [z1, z2, Nat.add_zero, Nat.add_zero]
  obtain ⟨rfl, hq⟩ := hq
  exact kk h2 r2 n2 hq
theorem aw_S2x {v1 v2 : AV} (hd : decode (mC M) pc = .ok (.invokestatic idx, 3)) (hc : CLS (mY M).cls idx M2 2) (hf : fitsIn M M2) (hM : AMet E M2 [v1, v2] hi hr n (EX (some v) h1 hr1 n1)) (hw1 : cu ≤ mMc M) (hw2 : su ≤ mMs M) (z1 : mMc M2 = 0) (z2 : mMs M2 = 0) (hst : st.length ≤ 4) (kk : AW E M cu su (pc + 3) ls (v :: st) h1 hr1 n1 Q) : AW E M cu su pc ls (v2 :: v1 :: st) hi hr n Q := by
  refine aw_S2 hd hc hf hM (by rw [z1]; exact hw1) (by rw [z2]; exact hw2) hst fun r h2 r2 n2 hq => ?_
  rw [z1, z2, Nat.add_zero, Nat.add_zero]
  obtain ⟨rfl, rfl, rfl, rfl⟩ := hq
  exact kk
theorem aw_S2v {v1 v2 : AV} (hd : decode (mC M) pc = .ok (.invokestatic idx, 3)) (hc : CLS (mY M).cls idx M2 2) (hf : fitsIn M M2) (hM : AMet E M2 [v1, v2] hi hr n (EX none h1 hr1 n1)) (hw1 : cu ≤ mMc M) (hw2 : su ≤ mMs M) (z1 : mMc M2 = 0) (z2 : mMs M2 = 0) (hst : st.length ≤ 4) (kk : AW E M cu su (pc + 3) ls st h1 hr1 n1 Q) : AW E M cu su pc ls (v2 :: v1 :: st) hi hr n Q := by
  refine aw_S2 hd hc hf hM (by rw [z1]; exact hw1) (by rw [z2]; exact hw2) hst fun r h2 r2 n2 hq => ?_
  rw [z1, z2, Nat.add_zero, Nat.add_zero]
  obtain ⟨rfl, rfl, rfl, rfl⟩ := hq
  exact kk
theorem aw_S2i {v1 v2 : AV} (hd : decode (mC M) pc = .ok (.invokestatic idx, 3)) (hc : CLS (mY M).cls idx M2 2) (hf : fitsIn M M2) (hM : AMet E M2 [v1, v2] hi hr n (PI P)) (hw1 : cu ≤ mMc M) (hw2 : su ≤ mMs M) (z1 : mMc M2 = 0) (z2 : mMs M2 = 0) (hst : st.length ≤ 4) (kk : ∀ (v : Int) (h1 : HI) (hr1 : HR) (n1 : Nat), P v h1 hr1 n1 → AW E M cu su (pc + 3) ls (aI v :: st) h1 hr1 n1 Q) : AW E M cu su pc ls (v2 :: v1 :: st) hi hr n Q := by
  refine aw_S2 hd hc hf hM (by rw [z1]; exact hw1) (by rw [z2]; exact hw2) hst fun r h2 r2 n2 hq => ?_
  rw [z1, z2, Nat.add_zero, Nat.add_zero]
  obtain ⟨v, rfl, hq⟩ := hq
  exact kk v h2 r2 n2 hq
theorem aw_S2w {v1 v2 : AV} (hd : decode (mC M) pc = .ok (.invokestatic idx, 3)) (hc : CLS (mY M).cls idx M2 2) (hf : fitsIn M M2) (hM : AMet E M2 [v1, v2] hi hr n (PV PW)) (hw1 : cu ≤ mMc M) (hw2 : su ≤ mMs M) (z1 : mMc M2 = 0) (z2 : mMs M2 = 0) (hst : st.length ≤ 4) (kk : ∀ (h1 : HI) (hr1 : HR) (n1 : Nat), PW h1 hr1 n1 → AW E M cu su (pc + 3) ls st h1 hr1 n1 Q) : AW E M cu su pc ls (v2 :: v1 :: st) hi hr n Q := by
  refine aw_S2 hd hc hf hM (by rw [z1]; exact hw1) (by rw [z2]; exact hw2) hst fun r h2 r2 n2 hq => ?_
  rw [z1, z2, Nat.add_zero, Nat.add_zero]
  obtain ⟨rfl, hq⟩ := hq
  exact kk h2 r2 n2 hq
theorem aw_S3x {v1 v2 v3 : AV} (hd : decode (mC M) pc = .ok (.invokestatic idx, 3)) (hc : CLS (mY M).cls idx M2 3) (hf : fitsIn M M2) (hM : AMet E M2 [v1, v2, v3] hi hr n (EX (some v) h1 hr1 n1)) (hw1 : cu ≤ mMc M) (hw2 : su ≤ mMs M) (z1 : mMc M2 = 0) (z2 : mMs M2 = 0) (hst : st.length ≤ 4) (kk : AW E M cu su (pc + 3) ls (v :: st) h1 hr1 n1 Q) : AW E M cu su pc ls (v3 :: v2 :: v1 :: st) hi hr n Q := by
  refine aw_S3 hd hc hf hM (by rw [z1]; exact hw1) (by rw [z2]; exact hw2) hst fun r h2 r2 n2 hq => ?_
  rw [z1, z2, Nat.add_zero, Nat.add_zero]
  obtain ⟨rfl, rfl, rfl, rfl⟩ := hq
  exact kk
theorem aw_S3v {v1 v2 v3 : AV} (hd : decode (mC M) pc = .ok (.invokestatic idx, 3)) (hc : CLS (mY M).cls idx M2 3) (hf : fitsIn M M2) (hM : AMet E M2 [v1, v2, v3] hi hr n (EX none h1 hr1 n1)) (hw1 : cu ≤ mMc M) (hw2 : su ≤ mMs M) (z1 : mMc M2 = 0) (z2 : mMs M2 = 0) (hst : st.length ≤ 4) (kk : AW E M cu su (pc + 3) ls st h1 hr1 n1 Q) : AW E M cu su pc ls (v3 :: v2 :: v1 :: st) hi hr n Q := by
  refine aw_S3 hd hc hf hM (by rw [z1]; exact hw1) (by rw [z2]; exact hw2) hst fun r h2 r2 n2 hq => ?_
  rw [z1, z2, Nat.add_zero, Nat.add_zero]
  obtain ⟨rfl, rfl, rfl, rfl⟩ := hq
  exact kk
theorem aw_S3i {v1 v2 v3 : AV} (hd : decode (mC M) pc = .ok (.invokestatic idx, 3)) (hc : CLS (mY M).cls idx M2 3) (hf : fitsIn M M2) (hM : AMet E M2 [v1, v2, v3] hi hr n (PI P)) (hw1 : cu ≤ mMc M) (hw2 : su ≤ mMs M) (z1 : mMc M2 = 0) (z2 : mMs M2 = 0) (hst : st.length ≤ 4) (kk : ∀ (v : Int) (h1 : HI) (hr1 : HR) (n1 : Nat), P v h1 hr1 n1 → AW E M cu su (pc + 3) ls (aI v :: st) h1 hr1 n1 Q) : AW E M cu su pc ls (v3 :: v2 :: v1 :: st) hi hr n Q := by
  refine aw_S3 hd hc hf hM (by rw [z1]; exact hw1) (by rw [z2]; exact hw2) hst fun r h2 r2 n2 hq => ?_
  rw [z1, z2, Nat.add_zero, Nat.add_zero]
  obtain ⟨v, rfl, hq⟩ := hq
  exact kk v h2 r2 n2 hq
theorem aw_S3w {v1 v2 v3 : AV} (hd : decode (mC M) pc = .ok (.invokestatic idx, 3)) (hc : CLS (mY M).cls idx M2 3) (hf : fitsIn M M2) (hM : AMet E M2 [v1, v2, v3] hi hr n (PV PW)) (hw1 : cu ≤ mMc M) (hw2 : su ≤ mMs M) (z1 : mMc M2 = 0) (z2 : mMs M2 = 0) (hst : st.length ≤ 4) (kk : ∀ (h1 : HI) (hr1 : HR) (n1 : Nat), PW h1 hr1 n1 → AW E M cu su (pc + 3) ls st h1 hr1 n1 Q) : AW E M cu su pc ls (v3 :: v2 :: v1 :: st) hi hr n Q := by
  refine aw_S3 hd hc hf hM (by rw [z1]; exact hw1) (by rw [z2]; exact hw2) hst fun r h2 r2 n2 hq => ?_
  rw [z1, z2, Nat.add_zero, Nat.add_zero]
  obtain ⟨rfl, hq⟩ := hq
  exact kk h2 r2 n2 hq
theorem aw_V0x (hd : decode (mC M) pc = .ok (.invokevirtual idx, 3)) (hc : CLV (mY M).cls idx M2 0) (hf : fitsIn M M2) (hb : b < n) (hs : sh b = (c, N)) (hcl : vwCl[c]? = some ((mY M2).cls, T, N)) (hM : AMet E M2 [aR b] hi hr n (EX (some v) h1 hr1 n1)) (hw1 : cu ≤ mMc M) (hw2 : su ≤ mMs M) (z1 : mMc M2 = 0) (z2 : mMs M2 = 0) (hst : st.length ≤ 4) (kk : AW E M cu su (pc + 3) ls (v :: st) h1 hr1 n1 Q) : AW E M cu su pc ls (aR b :: st) hi hr n Q := by
  refine aw_V0 hd hc hf hb hs hcl hM (by rw [z1]; exact hw1) (by rw [z2]; exact hw2) hst fun r h2 r2 n2 hq => ?_
  rw [z1, z2, Nat.add_zero, Nat.add_zero]
  obtain ⟨rfl, rfl, rfl, rfl⟩ := hq
  exact kk
theorem aw_V0v (hd : decode (mC M) pc = .ok (.invokevirtual idx, 3)) (hc : CLV (mY M).cls idx M2 0) (hf : fitsIn M M2) (hb : b < n) (hs : sh b = (c, N)) (hcl : vwCl[c]? = some ((mY M2).cls, T, N)) (hM : AMet E M2 [aR b] hi hr n (EX none h1 hr1 n1)) (hw1 : cu ≤ mMc M) (hw2 : su ≤ mMs M) (z1 : mMc M2 = 0) (z2 : mMs M2 = 0) (hst : st.length ≤ 4) (kk : AW E M cu su (pc + 3) ls st h1 hr1 n1 Q) : AW E M cu su pc ls (aR b :: st) hi hr n Q := by
  refine aw_V0 hd hc hf hb hs hcl hM (by rw [z1]; exact hw1) (by rw [z2]; exact hw2) hst fun r h2 r2 n2 hq => ?_
  rw [z1, z2, Nat.add_zero, Nat.add_zero]
  obtain ⟨rfl, rfl, rfl, rfl⟩ := hq
  exact kk
theorem aw_V0i (hd : decode (mC M) pc = .ok (.invokevirtual idx, 3)) (hc : CLV (mY M).cls idx M2 0) (hf : fitsIn M M2) (hb : b < n) (hs : sh b = (c, N)) (hcl : vwCl[c]? = some ((mY M2).cls, T, N)) (hM : AMet E M2 [aR b] hi hr n (PI P)) (hw1 : cu ≤ mMc M) (hw2 : su ≤ mMs M) (z1 : mMc M2 = 0) (z2 : mMs M2 = 0) (hst : st.length ≤ 4) (kk : ∀ (v : Int) (h1 : HI) (hr1 : HR) (n1 : Nat), P v h1 hr1 n1 → AW E M cu su (pc + 3) ls (aI v :: st) h1 hr1 n1 Q) : AW E M cu su pc ls (aR b :: st) hi hr n Q := by
  refine aw_V0 hd hc hf hb hs hcl hM (by rw [z1]; exact hw1) (by rw [z2]; exact hw2) hst fun r h2 r2 n2 hq => ?_
  rw [z1, z2, Nat.add_zero, Nat.add_zero]
  obtain ⟨v, rfl, hq⟩ := hq
  exact kk v h2 r2 n2 hq
theorem aw_V0w (hd : decode (mC M) pc = .ok (.invokevirtual idx, 3)) (hc : CLV (mY M).cls idx M2 0) (hf : fitsIn M M2) (hb : b < n) (hs : sh b = (c, N)) (hcl : vwCl[c]? = some ((mY M2).cls, T, N)) (hM : AMet E M2 [aR b] hi hr n (PV PW)) (hw1 : cu ≤ mMc M) (hw2 : su ≤ mMs M) (z1 : mMc M2 = 0) (z2 : mMs M2 = 0) (hst : st.length ≤ 4) (kk : ∀ (h1 : HI) (hr1 : HR) (n1 : Nat), PW h1 hr1 n1 → AW E M cu su (pc + 3) ls st h1 hr1 n1 Q) : AW E M cu su pc ls (aR b :: st) hi hr n Q := by
  refine aw_V0 hd hc hf hb hs hcl hM (by rw [z1]; exact hw1) (by rw [z2]; exact hw2) hst fun r h2 r2 n2 hq => ?_
  rw [z1, z2, Nat.add_zero, Nat.add_zero]
  obtain ⟨rfl, hq⟩ := hq
  exact kk h2 r2 n2 hq
theorem aw_V1x {v1 : AV} (hd : decode (mC M) pc = .ok (.invokevirtual idx, 3)) (hc : CLV (mY M).cls idx M2 1) (hf : fitsIn M M2) (hb : b < n) (hs : sh b = (c, N)) (hcl : vwCl[c]? = some ((mY M2).cls, T, N)) (hM : AMet E M2 [aR b, v1] hi hr n (EX (some v) h1 hr1 n1)) (hw1 : cu ≤ mMc M) (hw2 : su ≤ mMs M) (z1 : mMc M2 = 0) (z2 : mMs M2 = 0) (hst : st.length ≤ 4) (kk : AW E M cu su (pc + 3) ls (v :: st) h1 hr1 n1 Q) : AW E M cu su pc ls (v1 :: aR b :: st) hi hr n Q := by
  refine aw_V1 hd hc hf hb hs hcl hM (by rw [z1]; exact hw1) (by rw [z2]; exact hw2) hst fun r h2 r2 n2 hq => ?_
  rw [z1, z2, Nat.add_zero, Nat.add_zero]
  obtain ⟨rfl, rfl, rfl, rfl⟩ := hq
  exact kk
theorem aw_V1v {v1 : AV} (hd : decode (mC M) pc = .ok (.invokevirtual idx, 3)) (hc : CLV (mY M).cls idx M2 1) (hf : fitsIn M M2) (hb : b < n) (hs : sh b = (c, N)) (hcl : vwCl[c]? = some ((mY M2).cls, T, N)) (hM : AMet E M2 [aR b, v1] hi hr n (EX none h1 hr1 n1)) (hw1 : cu ≤ mMc M) (hw2 : su ≤ mMs M) (z1 : mMc M2 = 0) (z2 : mMs M2 = 0) (hst : st.length ≤ 4) (kk : AW E M cu su (pc + 3) ls st h1 hr1 n1 Q) : AW E M cu su pc ls (v1 :: aR b :: st) hi hr n Q := by
  refine aw_V1 hd hc hf hb hs hcl hM (by rw [z1]; exact hw1) (by rw [z2]; exact hw2) hst fun r h2 r2 n2 hq => ?_
  rw [z1, z2, Nat.add_zero, Nat.add_zero]
  obtain ⟨rfl, rfl, rfl, rfl⟩ := hq
  exact kk
theorem aw_V1i {v1 : AV} (hd : decode (mC M) pc = .ok (.invokevirtual idx, 3)) (hc : CLV (mY M).cls idx M2 1) (hf : fitsIn M M2) (hb : b < n) (hs : sh b = (c, N)) (hcl : vwCl[c]? = some ((mY M2).cls, T, N)) (hM : AMet E M2 [aR b, v1] hi hr n (PI P)) (hw1 : cu ≤ mMc M) (hw2 : su ≤ mMs M) (z1 : mMc M2 = 0) (z2 : mMs M2 = 0) (hst : st.length ≤ 4) (kk : ∀ (v : Int) (h1 : HI) (hr1 : HR) (n1 : Nat), P v h1 hr1 n1 → AW E M cu su (pc + 3) ls (aI v :: st) h1 hr1 n1 Q) : AW E M cu su pc ls (v1 :: aR b :: st) hi hr n Q := by
  refine aw_V1 hd hc hf hb hs hcl hM (by rw [z1]; exact hw1) (by rw [z2]; exact hw2) hst fun r h2 r2 n2 hq => ?_
  rw [z1, z2, Nat.add_zero, Nat.add_zero]
  obtain ⟨v, rfl, hq⟩ := hq
  exact kk v h2 r2 n2 hq
theorem aw_V1w {v1 : AV} (hd : decode (mC M) pc = .ok (.invokevirtual idx, 3)) (hc : CLV (mY M).cls idx M2 1) (hf : fitsIn M M2) (hb : b < n) (hs : sh b = (c, N)) (hcl : vwCl[c]? = some ((mY M2).cls, T, N)) (hM : AMet E M2 [aR b, v1] hi hr n (PV PW)) (hw1 : cu ≤ mMc M) (hw2 : su ≤ mMs M) (z1 : mMc M2 = 0) (z2 : mMs M2 = 0) (hst : st.length ≤ 4) (kk : ∀ (h1 : HI) (hr1 : HR) (n1 : Nat), PW h1 hr1 n1 → AW E M cu su (pc + 3) ls st h1 hr1 n1 Q) : AW E M cu su pc ls (v1 :: aR b :: st) hi hr n Q := by
  refine aw_V1 hd hc hf hb hs hcl hM (by rw [z1]; exact hw1) (by rw [z2]; exact hw2) hst fun r h2 r2 n2 hq => ?_
  rw [z1, z2, Nat.add_zero, Nat.add_zero]
  obtain ⟨rfl, hq⟩ := hq
  exact kk h2 r2 n2 hq
theorem aw_V2x {v1 v2 : AV} (hd : decode (mC M) pc = .ok (.invokevirtual idx, 3)) (hc : CLV (mY M).cls idx M2 2) (hf : fitsIn M M2) (hb : b < n) (hs : sh b = (c, N)) (hcl : vwCl[c]? = some ((mY M2).cls, T, N)) (hM : AMet E M2 [aR b, v1, v2] hi hr n (EX (some v) h1 hr1 n1)) (hw1 : cu ≤ mMc M) (hw2 : su ≤ mMs M) (z1 : mMc M2 = 0) (z2 : mMs M2 = 0) (hst : st.length ≤ 4) (kk : AW E M cu su (pc + 3) ls (v :: st) h1 hr1 n1 Q) : AW E M cu su pc ls (v2 :: v1 :: aR b :: st) hi hr n Q := by
  refine aw_V2 hd hc hf hb hs hcl hM (by rw [z1]; exact hw1) (by rw [z2]; exact hw2) hst fun r h2 r2 n2 hq => ?_
  rw [z1, z2, Nat.add_zero, Nat.add_zero]
  obtain ⟨rfl, rfl, rfl, rfl⟩ := hq
  exact kk
theorem aw_V2v {v1 v2 : AV} (hd : decode (mC M) pc = .ok (.invokevirtual idx, 3)) (hc : CLV (mY M).cls idx M2 2) (hf : fitsIn M M2) (hb : b < n) (hs : sh b = (c, N)) (hcl : vwCl[c]? = some ((mY M2).cls, T, N)) (hM : AMet E M2 [aR b, v1, v2] hi hr n (EX none h1 hr1 n1)) (hw1 : cu ≤ mMc M) (hw2 : su ≤ mMs M) (z1 : mMc M2 = 0) (z2 : mMs M2 = 0) (hst : st.length ≤ 4) (kk : AW E M cu su (pc + 3) ls st h1 hr1 n1 Q) : AW E M cu su pc ls (v2 :: v1 :: aR b :: st) hi hr n Q := by
  refine aw_V2 hd hc hf hb hs hcl hM (by rw [z1]; exact hw1) (by rw [z2]; exact hw2) hst fun r h2 r2 n2 hq => ?_
  rw [z1, z2, Nat.add_zero, Nat.add_zero]
  obtain ⟨rfl, rfl, rfl, rfl⟩ := hq
  exact kk
theorem aw_V2i {v1 v2 : AV} (hd : decode (mC M) pc = .ok (.invokevirtual idx, 3)) (hc : CLV (mY M).cls idx M2 2) (hf : fitsIn M M2) (hb : b < n) (hs : sh b = (c, N)) (hcl : vwCl[c]? = some ((mY M2).cls, T, N)) (hM : AMet E M2 [aR b, v1, v2] hi hr n (PI P)) (hw1 : cu ≤ mMc M) (hw2 : su ≤ mMs M) (z1 : mMc M2 = 0) (z2 : mMs M2 = 0) (hst : st.length ≤ 4) (kk : ∀ (v : Int) (h1 : HI) (hr1 : HR) (n1 : Nat), P v h1 hr1 n1 → AW E M cu su (pc + 3) ls (aI v :: st) h1 hr1 n1 Q) : AW E M cu su pc ls (v2 :: v1 :: aR b :: st) hi hr n Q := by
  refine aw_V2 hd hc hf hb hs hcl hM (by rw [z1]; exact hw1) (by rw [z2]; exact hw2) hst fun r h2 r2 n2 hq => ?_
  rw [z1, z2, Nat.add_zero, Nat.add_zero]
  obtain ⟨v, rfl, hq⟩ := hq
  exact kk v h2 r2 n2 hq
theorem aw_V2w {v1 v2 : AV} (hd : decode (mC M) pc = .ok (.invokevirtual idx, 3)) (hc : CLV (mY M).cls idx M2 2) (hf : fitsIn M M2) (hb : b < n) (hs : sh b = (c, N)) (hcl : vwCl[c]? = some ((mY M2).cls, T, N)) (hM : AMet E M2 [aR b, v1, v2] hi hr n (PV PW)) (hw1 : cu ≤ mMc M) (hw2 : su ≤ mMs M) (z1 : mMc M2 = 0) (z2 : mMs M2 = 0) (hst : st.length ≤ 4) (kk : ∀ (h1 : HI) (hr1 : HR) (n1 : Nat), PW h1 hr1 n1 → AW E M cu su (pc + 3) ls st h1 hr1 n1 Q) : AW E M cu su pc ls (v2 :: v1 :: aR b :: st) hi hr n Q := by
  refine aw_V2 hd hc hf hb hs hcl hM (by rw [z1]; exact hw1) (by rw [z2]; exact hw2) hst fun r h2 r2 n2 hq => ?_
  rw [z1, z2, Nat.add_zero, Nat.add_zero]
  obtain ⟨rfl, hq⟩ := hq
  exact kk h2 r2 n2 hq
theorem aw_V3x {v1 v2 v3 : AV} (hd : decode (mC M) pc = .ok (.invokevirtual idx, 3)) (hc : CLV (mY M).cls idx M2 3) (hf : fitsIn M M2) (hb : b < n) (hs : sh b = (c, N)) (hcl : vwCl[c]? = some ((mY M2).cls, T, N)) (hM : AMet E M2 [aR b, v1, v2, v3] hi hr n (EX (some v) h1 hr1 n1)) (hw1 : cu ≤ mMc M) (hw2 : su ≤ mMs M) (z1 : mMc M2 = 0) (z2 : mMs M2 = 0) (hst : st.length ≤ 4) (kk : AW E M cu su (pc + 3) ls (v :: st) h1 hr1 n1 Q) : AW E M cu su pc ls (v3 :: v2 :: v1 :: aR b :: st) hi hr n Q := by
  refine aw_V3 hd hc hf hb hs hcl hM (by rw [z1]; exact hw1) (by rw [z2]; exact hw2) hst fun r h2 r2 n2 hq => ?_
  rw [z1, z2, Nat.add_zero, Nat.add_zero]
  obtain ⟨rfl, rfl, rfl, rfl⟩ := hq
  exact kk
theorem aw_V3v {v1 v2 v3 : AV} (hd : decode (mC M) pc = .ok (.invokevirtual idx, 3)) (hc : CLV (mY M).cls idx M2 3) (hf : fitsIn M M2) (hb : b < n) (hs : sh b = (c, N)) (hcl : vwCl[c]? = some ((mY M2).cls, T, N)) (hM : AMet E M2 [aR b, v1, v2, v3] hi hr n (EX none h1 hr1 n1)) (hw1 : cu ≤ mMc M) (hw2 : su ≤ mMs M) (z1 : mMc M2 = 0) (z2 : mMs M2 = 0) (hst : st.length ≤ 4) (kk : AW E M cu su (pc + 3) ls st h1 hr1 n1 Q) : AW E M cu su pc ls (v3 :: v2 :: v1 :: aR b :: st) hi hr n Q := by
  refine aw_V3 hd hc hf hb hs hcl hM (by rw [z1]; exact hw1) (by rw [z2]; exact hw2) hst fun r h2 r2 n2 hq => ?_
  rw [z1, z2, Nat.add_zero, Nat.add_zero]
  obtain ⟨rfl, rfl, rfl, rfl⟩ := hq
  exact kk
theorem aw_V3i {v1 v2 v3 : AV} (hd : decode (mC M) pc = .ok (.invokevirtual idx, 3)) (hc : CLV (mY M).cls idx M2 3) (hf : fitsIn M M2) (hb : b < n) (hs : sh b = (c, N)) (hcl : vwCl[c]? = some ((mY M2).cls, T, N)) (hM : AMet E M2 [aR b, v1, v2, v3] hi hr n (PI P)) (hw1 : cu ≤ mMc M) (hw2 : su ≤ mMs M) (z1 : mMc M2 = 0) (z2 : mMs M2 = 0) (hst : st.length ≤ 4) (kk : ∀ (v : Int) (h1 : HI) (hr1 : HR) (n1 : Nat), P v h1 hr1 n1 → AW E M cu su (pc + 3) ls (aI v :: st) h1 hr1 n1 Q) : AW E M cu su pc ls (v3 :: v2 :: v1 :: aR b :: st) hi hr n Q := by
  refine aw_V3 hd hc hf hb hs hcl hM (by rw [z1]; exact hw1) (by rw [z2]; exact hw2) hst fun r h2 r2 n2 hq => ?_
  rw [z1, z2, Nat.add_zero, Nat.add_zero]
  obtain ⟨v, rfl, hq⟩ := hq
  exact kk v h2 r2 n2 hq
theorem aw_V3w {v1 v2 v3 : AV} (hd : decode (mC M) pc = .ok (.invokevirtual idx, 3)) (hc : CLV (mY M).cls idx M2 3) (hf : fitsIn M M2) (hb : b < n) (hs : sh b = (c, N)) (hcl : vwCl[c]? = some ((mY M2).cls, T, N)) (hM : AMet E M2 [aR b, v1, v2, v3] hi hr n (PV PW)) (hw1 : cu ≤ mMc M) (hw2 : su ≤ mMs M) (z1 : mMc M2 = 0) (z2 : mMs M2 = 0) (hst : st.length ≤ 4) (kk : ∀ (h1 : HI) (hr1 : HR) (n1 : Nat), PW h1 hr1 n1 → AW E M cu su (pc + 3) ls st h1 hr1 n1 Q) : AW E M cu su pc ls (v3 :: v2 :: v1 :: aR b :: st) hi hr n Q := by
  refine aw_V3 hd hc hf hb hs hcl hM (by rw [z1]; exact hw1) (by rw [z2]; exact hw2) hst fun r h2 r2 n2 hq => ?_
  rw [z1, z2, Nat.add_zero, Nat.add_zero]
  obtain ⟨rfl, hq⟩ := hq
  exact kk h2 r2 n2 hq
theorem aw_V4x {v1 v2 v3 v4 : AV} (hd : decode (mC M) pc = .ok (.invokevirtual idx, 3)) (hc : CLV (mY M).cls idx M2 4) (hf : fitsIn M M2) (hb : b < n) (hs : sh b = (c, N)) (hcl : vwCl[c]? = some ((mY M2).cls, T, N)) (hM : AMet E M2 [aR b, v1, v2, v3, v4] hi hr n (EX (some v) h1 hr1 n1)) (hw1 : cu ≤ mMc M) (hw2 : su ≤ mMs M) (z1 : mMc M2 = 0) (z2 : mMs M2 = 0) (hst : st.length ≤ 4) (kk : AW E M cu su (pc + 3) ls (v :: st) h1 hr1 n1 Q) : AW E M cu su pc ls (v4 :: v3 :: v2 :: v1 :: aR b :: st) hi hr n Q := by
  refine aw_V4 hd hc hf hb hs hcl hM (by rw [z1]; exact hw1) (by rw [z2]; exact hw2) hst fun r h2 r2 n2 hq => ?_
  rw [z1, z2, Nat.add_zero, Nat.add_zero]
  obtain ⟨rfl, rfl, rfl, rfl⟩ := hq
  exact kk
theorem aw_V4v {v1 v2 v3 v4 : AV} (hd : decode (mC M) pc = .ok (.invokevirtual idx, 3)) (hc : CLV (mY M).cls idx M2 4) (hf : fitsIn M M2) (hb : b < n) (hs : sh b = (c, N)) (hcl : vwCl[c]? = some ((mY M2).cls, T, N)) (hM : AMet E M2 [aR b, v1, v2, v3, v4] hi hr n (EX none h1 hr1 n1)) (hw1 : cu ≤ mMc M) (hw2 : su ≤ mMs M) (z1 : mMc M2 = 0) (z2 : mMs M2 = 0) (hst : st.length ≤ 4) (kk : AW E M cu su (pc + 3) ls st h1 hr1 n1 Q) : AW E M cu su pc ls (v4 :: v3 :: v2 :: v1 :: aR b :: st) hi hr n Q := by
  refine aw_V4 hd hc hf hb hs hcl hM (by rw [z1]; exact hw1) (by rw [z2]; exact hw2) hst fun r h2 r2 n2 hq => ?_
  rw [z1, z2, Nat.add_zero, Nat.add_zero]
  obtain ⟨rfl, rfl, rfl, rfl⟩ := hq
  exact kk
theorem aw_V4i {v1 v2 v3 v4 : AV} (hd : decode (mC M) pc = .ok (.invokevirtual idx, 3)) (hc : CLV (mY M).cls idx M2 4) (hf : fitsIn M M2) (hb : b < n) (hs : sh b = (c, N)) (hcl : vwCl[c]? = some ((mY M2).cls, T, N)) (hM : AMet E M2 [aR b, v1, v2, v3, v4] hi hr n (PI P)) (hw1 : cu ≤ mMc M) (hw2 : su ≤ mMs M) (z1 : mMc M2 = 0) (z2 : mMs M2 = 0) (hst : st.length ≤ 4) (kk : ∀ (v : Int) (h1 : HI) (hr1 : HR) (n1 : Nat), P v h1 hr1 n1 → AW E M cu su (pc + 3) ls (aI v :: st) h1 hr1 n1 Q) : AW E M cu su pc ls (v4 :: v3 :: v2 :: v1 :: aR b :: st) hi hr n Q := by
  refine aw_V4 hd hc hf hb hs hcl hM (by rw [z1]; exact hw1) (by rw [z2]; exact hw2) hst fun r h2 r2 n2 hq => ?_
  rw [z1, z2, Nat.add_zero, Nat.add_zero]
  obtain ⟨v, rfl, hq⟩ := hq
  exact kk v h2 r2 n2 hq
theorem aw_V4w {v1 v2 v3 v4 : AV} (hd : decode (mC M) pc = .ok (.invokevirtual idx, 3)) (hc : CLV (mY M).cls idx M2 4) (hf : fitsIn M M2) (hb : b < n) (hs : sh b = (c, N)) (hcl : vwCl[c]? = some ((mY M2).cls, T, N)) (hM : AMet E M2 [aR b, v1, v2, v3, v4] hi hr n (PV PW)) (hw1 : cu ≤ mMc M) (hw2 : su ≤ mMs M) (z1 : mMc M2 = 0) (z2 : mMs M2 = 0) (hst : st.length ≤ 4) (kk : ∀ (h1 : HI) (hr1 : HR) (n1 : Nat), PW h1 hr1 n1 → AW E M cu su (pc + 3) ls st h1 hr1 n1 Q) : AW E M cu su pc ls (v4 :: v3 :: v2 :: v1 :: aR b :: st) hi hr n Q := by
  refine aw_V4 hd hc hf hb hs hcl hM (by rw [z1]; exact hw1) (by rw [z2]; exact hw2) hst fun r h2 r2 n2 hq => ?_
  rw [z1, z2, Nat.add_zero, Nat.add_zero]
  obtain ⟨rfl, hq⟩ := hq
  exact kk h2 r2 n2 hq
theorem aw_V5x {v1 v2 v3 v4 v5 : AV} (hd : decode (mC M) pc = .ok (.invokevirtual idx, 3)) (hc : CLV (mY M).cls idx M2 5) (hf : fitsIn M M2) (hb : b < n) (hs : sh b = (c, N)) (hcl : vwCl[c]? = some ((mY M2).cls, T, N)) (hM : AMet E M2 [aR b, v1, v2, v3, v4, v5] hi hr n (EX (some v) h1 hr1 n1)) (hw1 : cu ≤ mMc M) (hw2 : su ≤ mMs M) (z1 : mMc M2 = 0) (z2 : mMs M2 = 0) (hst : st.length ≤ 4) (kk : AW E M cu su (pc + 3) ls (v :: st) h1 hr1 n1 Q) : AW E M cu su pc ls (v5 :: v4 :: v3 :: v2 :: v1 :: aR b :: st) hi hr n Q := by
  refine aw_V5 hd hc hf hb hs hcl hM (by rw [z1]; exact hw1) (by rw [z2]; exact hw2) hst fun r h2 r2 n2 hq => ?_
  rw [z1, z2, Nat.add_zero, Nat.add_zero]
  obtain ⟨rfl, rfl, rfl, rfl⟩ := hq
  exact kk
theorem aw_V5v {v1 v2 v3 v4 v5 : AV} (hd : decode (mC M) pc = .ok (.invokevirtual idx, 3)) (hc : CLV (mY M).cls idx M2 5) (hf : fitsIn M M2) (hb : b < n) (hs : sh b = (c, N)) (hcl : vwCl[c]? = some ((mY M2).cls, T, N)) (hM : AMet E M2 [aR b, v1, v2, v3, v4, v5] hi hr n (EX none h1 hr1 n1)) (hw1 : cu ≤ mMc M) (hw2 : su ≤ mMs M) (z1 : mMc M2 = 0) (z2 : mMs M2 = 0) (hst : st.length ≤ 4) (kk : AW E M cu su (pc + 3) ls st h1 hr1 n1 Q) : AW E M cu su pc ls (v5 :: v4 :: v3 :: v2 :: v1 :: aR b :: st) hi hr n Q := by
  refine aw_V5 hd hc hf hb hs hcl hM (by rw [z1]; exact hw1) (by rw [z2]; exact hw2) hst fun r h2 r2 n2 hq => ?_
  rw [z1, z2, Nat.add_zero, Nat.add_zero]
  obtain ⟨rfl, rfl, rfl, rfl⟩ := hq
  exact kk
theorem aw_V5i {v1 v2 v3 v4 v5 : AV} (hd : decode (mC M) pc = .ok (.invokevirtual idx, 3)) (hc : CLV (mY M).cls idx M2 5) (hf : fitsIn M M2) (hb : b < n) (hs : sh b = (c, N)) (hcl : vwCl[c]? = some ((mY M2).cls, T, N)) (hM : AMet E M2 [aR b, v1, v2, v3, v4, v5] hi hr n (PI P)) (hw1 : cu ≤ mMc M) (hw2 : su ≤ mMs M) (z1 : mMc M2 = 0) (z2 : mMs M2 = 0) (hst : st.length ≤ 4) (kk : ∀ (v : Int) (h1 : HI) (hr1 : HR) (n1 : Nat), P v h1 hr1 n1 → AW E M cu su (pc + 3) ls (aI v :: st) h1 hr1 n1 Q) : AW E M cu su pc ls (v5 :: v4 :: v3 :: v2 :: v1 :: aR b :: st) hi hr n Q := by
  refine aw_V5 hd hc hf hb hs hcl hM (by rw [z1]; exact hw1) (by rw [z2]; exact hw2) hst fun r h2 r2 n2 hq => ?_
  rw [z1, z2, Nat.add_zero, Nat.add_zero]
  obtain ⟨v, rfl, hq⟩ := hq
  exact kk v h2 r2 n2 hq
theorem aw_V5w {v1 v2 v3 v4 v5 : AV} (hd : decode (mC M) pc = .ok (.invokevirtual idx, 3)) (hc : CLV (mY M).cls idx M2 5) (hf : fitsIn M M2) (hb : b < n) (hs : sh b = (c, N)) (hcl : vwCl[c]? = some ((mY M2).cls, T, N)) (hM : AMet E M2 [aR b, v1, v2, v3, v4, v5] hi hr n (PV PW)) (hw1 : cu ≤ mMc M) (hw2 : su ≤ mMs M) (z1 : mMc M2 = 0) (z2 : mMs M2 = 0) (hst : st.length ≤ 4) (kk : ∀ (h1 : HI) (hr1 : HR) (n1 : Nat), PW h1 hr1 n1 → AW E M cu su (pc + 3) ls st h1 hr1 n1 Q) : AW E M cu su pc ls (v5 :: v4 :: v3 :: v2 :: v1 :: aR b :: st) hi hr n Q := by
  refine aw_V5 hd hc hf hb hs hcl hM (by rw [z1]; exact hw1) (by rw [z2]; exact hw2) hst fun r h2 r2 n2 hq => ?_
  rw [z1, z2, Nat.add_zero, Nat.add_zero]
  obtain ⟨rfl, hq⟩ := hq
  exact kk h2 r2 n2 hq
theorem aw_I0x (hd : decode (mC M) pc = .ok (.invokespecial idx, 3)) (hc : CLI (mY M).cls idx M2 0) (hf : fitsIn M M2) (hM : AMet E M2 [aR b] hi hr n (EX (some v) h1 hr1 n1)) (hw1 : cu ≤ mMc M) (hw2 : su ≤ mMs M) (z1 : mMc M2 = 0) (z2 : mMs M2 = 0) (hst : st.length ≤ 4) (kk : AW E M cu su (pc + 3) ls (v :: st) h1 hr1 n1 Q) : AW E M cu su pc ls (aR b :: st) hi hr n Q := by
  refine aw_I0 hd hc hf hM (by rw [z1]; exact hw1) (by rw [z2]; exact hw2) hst fun r h2 r2 n2 hq => ?_
  rw [z1, z2, Nat.add_zero, Nat.add_zero]
  obtain ⟨rfl, rfl, rfl, rfl⟩ := hq
  exact kk
theorem aw_I0v (hd : decode (mC M) pc = .ok (.invokespecial idx, 3)) (hc : CLI (mY M).cls idx M2 0) (hf : fitsIn M M2) (hM : AMet E M2 [aR b] hi hr n (EX none h1 hr1 n1)) (hw1 : cu ≤ mMc M) (hw2 : su ≤ mMs M) (z1 : mMc M2 = 0) (z2 : mMs M2 = 0) (hst : st.length ≤ 4) (kk : AW E M cu su (pc + 3) ls st h1 hr1 n1 Q) : AW E M cu su pc ls (aR b :: st) hi hr n Q := by
  refine aw_I0 hd hc hf hM (by rw [z1]; exact hw1) (by rw [z2]; exact hw2) hst fun r h2 r2 n2 hq => ?_
  rw [z1, z2, Nat.add_zero, Nat.add_zero]
  obtain ⟨rfl, rfl, rfl, rfl⟩ := hq
  exact kk
theorem aw_I0i (hd : decode (mC M) pc = .ok (.invokespecial idx, 3)) (hc : CLI (mY M).cls idx M2 0) (hf : fitsIn M M2) (hM : AMet E M2 [aR b] hi hr n (PI P)) (hw1 : cu ≤ mMc M) (hw2 : su ≤ mMs M) (z1 : mMc M2 = 0) (z2 : mMs M2 = 0) (hst : st.length ≤ 4) (kk : ∀ (v : Int) (h1 : HI) (hr1 : HR) (n1 : Nat), P v h1 hr1 n1 → AW E M cu su (pc + 3) ls (aI v :: st) h1 hr1 n1 Q) : AW E M cu su pc ls (aR b :: st) hi hr n Q := by
  refine aw_I0 hd hc hf hM (by rw [z1]; exact hw1) (by rw [z2]; exact hw2) hst fun r h2 r2 n2 hq => ?_
  rw [z1, z2, Nat.add_zero, Nat.add_zero]
  obtain ⟨v, rfl, hq⟩ := hq
  exact kk v h2 r2 n2 hq
theorem aw_I0w (hd : decode (mC M) pc = .ok (.invokespecial idx, 3)) (hc : CLI (mY M).cls idx M2 0) (hf : fitsIn M M2) (hM : AMet E M2 [aR b] hi hr n (PV PW)) (hw1 : cu ≤ mMc M) (hw2 : su ≤ mMs M) (z1 : mMc M2 = 0) (z2 : mMs M2 = 0) (hst : st.length ≤ 4) (kk : ∀ (h1 : HI) (hr1 : HR) (n1 : Nat), PW h1 hr1 n1 → AW E M cu su (pc + 3) ls st h1 hr1 n1 Q) : AW E M cu su pc ls (aR b :: st) hi hr n Q := by
  refine aw_I0 hd hc hf hM (by rw [z1]; exact hw1) (by rw [z2]; exact hw2) hst fun r h2 r2 n2 hq => ?_
  rw [z1, z2, Nat.add_zero, Nat.add_zero]
  obtain ⟨rfl, hq⟩ := hq
  exact kk h2 r2 n2 hq
end CALLS2
