/-! Sim and the others: how far a cloth is off, its runs, knots, cells, spools -/
section MTHX
def offR (pa f k : AF) (back : Int32) (y : Nat) (a : Int32) : Nat → Int32
  | 0 => a
  | i + 1 => offR pa f k back y a i + sAbs (pa (k (12 * y + rX back i)).toNatClampNeg - f (12 * y + rX back i))
def offX (pa f k : AF) (y : Nat) (a : Int32) : Nat → Int32
  | 0 => a
  | x + 1 => offX pa f k y a x + sAbs (pa (k (12 * y + x)).toNatClampNeg - f (12 * y + x))
def offS (pa f k : AF) : Nat → Int32
  | 0 => 0
  | y + 1 => offX pa f k y (offS pa f k y) 12
theorem offR_upd (pa f k : AF) (back : Int32) (y : Nat) (a : Int32) {n : Nat} (hn : n < 12) (v : Int32) : ∀ i, i ≤ n → offR pa f (upd k (12 * y + rX back n) v) back y a i = offR pa f k back y a i
  | 0, _ => rfl
  | i + 1, hi => by
    have hne : rX back i ≠ rX back n := fun e => by have := rX_inj (by omega) hn e; omega
    rw [offR, offR, offR_upd pa f k back y a hn v i (by omega), pk_un (by omega)]
theorem offR_12 (pa f k : AF) (back : Int32) (y : Nat) (a : Int32) : offR pa f k back y a 12 = offX pa f k y a 12 := by
  by_cases hb : back = 0
  · subst hb
    simp only [offR, offX, rX, if_true]
  · simp only [offR, offX, rX, if_neg hb, Nat.reduceSub]
    generalize sAbs (pa (k (12 * y + 0)).toNatClampNeg - f (12 * y + 0)) = g0
    generalize sAbs (pa (k (12 * y + 1)).toNatClampNeg - f (12 * y + 1)) = g1
    generalize sAbs (pa (k (12 * y + 2)).toNatClampNeg - f (12 * y + 2)) = g2
    generalize sAbs (pa (k (12 * y + 3)).toNatClampNeg - f (12 * y + 3)) = g3
    generalize sAbs (pa (k (12 * y + 4)).toNatClampNeg - f (12 * y + 4)) = g4
    generalize sAbs (pa (k (12 * y + 5)).toNatClampNeg - f (12 * y + 5)) = g5
    generalize sAbs (pa (k (12 * y + 6)).toNatClampNeg - f (12 * y + 6)) = g6
    generalize sAbs (pa (k (12 * y + 7)).toNatClampNeg - f (12 * y + 7)) = g7
    generalize sAbs (pa (k (12 * y + 8)).toNatClampNeg - f (12 * y + 8)) = g8
    generalize sAbs (pa (k (12 * y + 9)).toNatClampNeg - f (12 * y + 9)) = g9
    generalize sAbs (pa (k (12 * y + 10)).toNatClampNeg - f (12 * y + 10)) = g10
    generalize sAbs (pa (k (12 * y + 11)).toNatClampNeg - f (12 * y + 11)) = g11
    ac_rfl
theorem offX_congr {pa f k k' : AF} {y : Nat} (a : Int32) : ∀ n, (∀ x, x < n → k (12 * y + x) = k' (12 * y + x)) → offX pa f k y a n = offX pa f k' y a n
  | 0, _ => rfl
  | n + 1, h => by rw [offX, offX, offX_congr a n (fun x hx => h x (by omega)), h n (by omega)]
theorem offS_congr {pa f k k' : AF} : ∀ n, (∀ j, j < 12 * n → k j = k' j) → offS pa f k n = offS pa f k' n
  | 0, _ => rfl
  | n + 1, h => by rw [offS, offS, offS_congr n (fun j hj => h j (by omega)), offX_congr _ 12 (fun x hx => h _ (by omega))]
theorem mRow_off {pa f : AF} {q : Nat} (hq1 : 1 ≤ q) (hq : q ≤ 6) (car back : Int32) (y : Nat) (s : MS) : ∀ i, i ≤ 12 → (mRow pa q f car back y s i).2.1 = offR pa f (mRow pa q f car back y s i).1 back y s.2.1 i ∧ (∀ i', i' < i → ∃ k, k < q ∧ (mRow pa q f car back y s i).1 (12 * y + rX back i') = nI k) ∧ ∀ j, (j < 12 * y ∨ 12 * (y + 1) ≤ j) → (mRow pa q f car back y s i).1 j = s.1 j
  | 0, _ => ⟨rfl, fun i' h => absurd h (Nat.not_lt_zero i'), fun j _ => rfl⟩
  | i + 1, hi => by
    obtain ⟨h1, h2, h3⟩ := mRow_off hq1 hq car back y s i (by omega)
    have hX := rX_lt back (i := i) (by omega)
    rw [mRow]
    unfold mCell1
    have hK := mNear_le pa (f (12 * y + rX back i) + (mRow pa q f car back y s i).2.2.1 (rX back i)) (q - 1)
    generalize mNear pa (f (12 * y + rX back i) + (mRow pa q f car back y s i).2.2.1 (rX back i)) (q - 1) = K at hK ⊢
    refine ⟨?_, fun i' hi' => ?_, fun j hj => ?_⟩
    · show (mRow pa q f car back y s i).2.1 + sAbs (pa K - f (12 * y + rX back i)) = offR pa f (upd (mRow pa q f car back y s i).1 (12 * y + rX back i) (nI K)) back y s.2.1 (i + 1)
      rw [offR, offR_upd pa f _ back y _ (by omega) _ i (Nat.le_refl i), pk_us, cl_nI (by omega), h1]
    · show ∃ k, k < q ∧ upd (mRow pa q f car back y s i).1 (12 * y + rX back i) (nI K) (12 * y + rX back i') = nI k
      by_cases e : i' = i
      · subst e
        exact ⟨K, by omega, pk_us⟩
      · have hne : rX back i' ≠ rX back i := fun z => e (rX_inj (by omega) (by omega) z)
        rw [pk_un (by omega)]
        exact h2 i' (by omega)
    · show upd (mRow pa q f car back y s i).1 (12 * y + rX back i) (nI K) j = _
      rw [pk_un (by omega)]
      exact h3 j hj
theorem mWv_off {pa f : AF} {q : Nat} (hq1 : 1 ≤ q) (hq : q ≤ 6) (car tur : Int32) (s : MS) (hs : s.2.1 = 0) : ∀ y, (mWv pa q f car tur s y).2.1 = offS pa f (mWv pa q f car tur s y).1 y ∧ ∀ j, j < 12 * y → ∃ k, k < q ∧ (mWv pa q f car tur s y).1 j = nI k
  | 0 => ⟨hs, fun j h => absurd h (Nat.not_lt_zero j)⟩
  | y + 1 => by
    obtain ⟨h1, h2⟩ := mWv_off hq1 hq car tur s hs y
    obtain ⟨r1, r2, r3⟩ := mRow_off (pa := pa) (f := f) hq1 hq car (mBk tur y) y (mNew (mWv pa q f car tur s y)) 12 (Nat.le_refl _)
    have e1 : (mNew (mWv pa q f car tur s y)).2.1 = (mWv pa q f car tur s y).2.1 := rfl
    have e2 : (mNew (mWv pa q f car tur s y)).1 = (mWv pa q f car tur s y).1 := rfl
    rw [mWv]
    refine ⟨?_, fun j hj => ?_⟩
    · rw [r1, offR_12, e1, h1, offS]
      rw [offS_congr (pa := pa) (f := f) (k := (mRow pa q f car (mBk tur y) y (mNew (mWv pa q f car tur s y)) 12).1) (k' := (mWv pa q f car tur s y).1) y (fun j hj => r3 j (Or.inl hj))]
    · by_cases e : j < 12 * y
      · rw [r3 j (Or.inl e)]
        exact h2 j e
      · have e2 : ∃ i', i' < 12 ∧ 12 * y + rX (mBk tur y) i' = j := by
          by_cases hbk : mBk tur y = 0
          · refine ⟨j - 12 * y, by omega, ?_⟩
            unfold rX; rw [if_pos hbk]; omega
          · refine ⟨11 - (j - 12 * y), by omega, ?_⟩
            unfold rX; rw [if_neg hbk]; omega
        obtain ⟨i', hi', rfl⟩ := e2
        exact r2 i' hi'
theorem CL_w {f : AF} {m : Nat} (h1 : 1 ≤ m) (h6 : m ≤ 6) (car tur : Int32) (w : WS) : (∀ j, j < 96 → ∃ k, k < (mFit f w.1 m).2 ∧ wsCl (mOn f m car tur w) j = nI k) ∧ wsOff (mOn f m car tur w) = offS (mPal f w.1 w.2.2.1 m) f (wsCl (mOn f m car tur w)) 8 := by
  have h := mWv_off (pa := mPal f w.1 w.2.2.1 m) (f := f) (mFit_1 f w.1 m) (by have := mFit_m f w.1 (m := m) h1; omega) car tur (w.2.2.2.1, 0, w.2.2.2.2.2.1, mZer w.2.2.2.2.2.2 12) rfl 8
  simp only [wsCl, wsOff, mOn, mWeave]
  exact ⟨fun j hj => h.2 j hj, h.1⟩
theorem CL_in {f : AF} {m : Nat} (h1 : 1 ≤ m) (h6 : m ≤ 6) (car tur : Int32) : ∀ j, j < 96 → ∃ k, k < PQ f m ∧ CL f m car tur j = nI k := (CL_w h1 h6 car tur w0).1
theorem OF_S {f : AF} {m : Nat} (h1 : 1 ≤ m) (h6 : m ≤ 6) (car tur : Int32) : OF f m car tur = offS (PP f m) f (CL f m car tur) 8 := (CL_w h1 h6 car tur w0).2
theorem zOffX_tie {c d : Nat → AF} {pal pa f k : AF} {y q : Nat} (hy : y < 8) (hc : RW c f) (hd : RW d k) (hk : ∀ j, j < 96 → ∃ v, v < q ∧ k j = nI v) (hq : q ≤ 6) (hp : ∀ v, v < q → pal v = pa v) (a : Int32) : ∀ x, x ≤ 12 → zOffX c d pal y a x = offX pa f k y a x
  | 0, _ => rfl
  | x + 1, hx => by
    obtain ⟨v, hv, e⟩ := hk (12 * y + x) (by omega)
    rw [zOffX, offX, zOffX_tie hy hc hd hk hq hp a x (by omega), hc y hy x (by omega), hd y hy x (by omega), e, cl_nI (by omega), hp v hv]
theorem zOff_tie {c d : Nat → AF} {pal pa f k : AF} {q : Nat} (hc : RW c f) (hd : RW d k) (hk : ∀ j, j < 96 → ∃ v, v < q ∧ k j = nI v) (hq : q ≤ 6) (hp : ∀ v, v < q → pal v = pa v) : ∀ y, y ≤ 8 → zOff c d pal y = offS pa f k y
  | 0, _ => rfl
  | y + 1, hy => by rw [zOff, offS, zOff_tie hc hd hk hq hp y (by omega), zOffX_tie (by omega) hc hd hk hq hp _ 12 (Nat.le_refl _)]
/-! runs -/
theorem mSt_same (k : AF) (y : Nat) {p i : Nat} (h1 : mSt k y p ≤ i) (h2 : i < mSt k y (p + 1)) (hi : i < 12) : k (12 * y + i) = k (12 * y + mSt k y p) := by
  by_cases e : i = mSt k y p
  · rw [e]
  · have hr := mEnd_run k y (mSt k y p) 12 (mSt k y p + 1) (by omega) (fun e1 a b => by omega)
    exact (hr.1 i (by omega) h2).2
theorem nr_new (k : AF) (y : Nat) {i : Nat} (hi : i + 1 < 12) (h : (nr k y (i + 1)).1 = (nr k y i).1 + 1) : mSt k y ((nr k y i).1 + 1) = i + 1 := by
  have h1 := (nr_st k y i (by omega)).2.1
  have h2 := (nr_st k y (i + 1) hi).1
  rw [h] at h2
  omega
theorem zRun_nr {g k : AF} {y : Nat} (hg : ∀ x, x < 12 → g x = k (12 * y + x)) : ∀ i, i < 12 → (zRun g (i + 1)).2 = 2 * (nr k y i).1 + 2 ∧ (zRun g (i + 1)).1 (2 * (nr k y i).1) = k (12 * y + i) ∧ (zRun g (i + 1)).1 (2 * (nr k y i).1 + 1) = nI (nr k y i).2 ∧ ∀ p, p < (nr k y i).1 → (zRun g (i + 1)).1 (2 * p) = k (12 * y + mSt k y p) ∧ (zRun g (i + 1)).1 (2 * p + 1) = nI (mSt k y (p + 1) - mSt k y p)
  | 0, _ => by
    have e : zRun g 1 = (upd (upd (fun _ => 0) 0 (g 0)) 1 1, 2) := by
      rw [zRun_no (g := g) (x := 0) (fun h => absurd (show 0 < 0 from h.1) (Nat.lt_irrefl 0))]
      rfl
    rw [e]
    refine ⟨rfl, ?_, rfl, fun p h => absurd h (Nat.not_lt_zero p)⟩
    show upd (upd (fun _ => 0) 0 (g 0)) 1 1 0 = _
    rw [pk_un (by omega), pk_us, hg 0 (by omega)]
  | i + 1, hi => by
    obtain ⟨h1, h2, h3, h4⟩ := zRun_nr hg i (by omega)
    obtain ⟨b1, b2⟩ := nr_bd k y i
    have e1 : 2 * (nr k y i).1 + 2 - 2 = 2 * (nr k y i).1 := by omega
    have e2 : 2 * (nr k y i).1 + 2 - 1 = 2 * (nr k y i).1 + 1 := by omega
    by_cases c : k (12 * y + (i + 1)) = k (12 * y + i) ∧ (nr k y i).2 < 9
    · have hz : zRun g (i + 1 + 1) = (upd (zRun g (i + 1)).1 (2 * (nr k y i).1 + 1) (nI (nr k y i).2 + 1), (zRun g (i + 1)).2) := by
        rw [zRun_y (by omega) (by rw [h1, e1, h2, hg (i + 1) hi, c.1]) (by rw [h1, e2, h3]; exact nI_lt (b := 9) c.2 (by omega)), h1, e2, h3]
      have hn : nr k y (i + 1) = ((nr k y i).1, (nr k y i).2 + 1) := by rw [nr, if_pos c]
      rw [hz, hn]
      refine ⟨h1, ?_, ?_, fun p hp => ?_⟩
      · show upd _ _ _ (2 * (nr k y i).1) = _
        rw [pk_un (by omega), h2, c.1]
      · show upd _ _ _ (2 * (nr k y i).1 + 1) = _
        rw [pk_us, nI_1]
      · have hp : p < (nr k y i).1 := hp
        show upd _ _ _ (2 * p) = _ ∧ upd _ _ _ (2 * p + 1) = _
        rw [pk_un (by omega), pk_un (by omega)]
        exact h4 p hp
    · have hn : nr k y (i + 1) = ((nr k y i).1 + 1, 1) := by rw [nr, if_neg c]
      have hz : zRun g (i + 1 + 1) = (upd (upd (zRun g (i + 1)).1 (2 * (nr k y i).1 + 2) (g (i + 1))) (2 * (nr k y i).1 + 2 + 1) 1, 2 * (nr k y i).1 + 2 + 2) := by
        rw [zRun_no (fun h => c ?_), h1]
        obtain ⟨-, q2, q3⟩ := h
        rw [h1, e1, h2, hg (i + 1) hi] at q2
        rw [h1, e2, h3] at q3
        exact ⟨q2.symm, (nI_ltI (b := 9) (by omega) (by omega)).mp q3⟩
      have hs := nr_new k y hi (by rw [hn])
      obtain ⟨s1, s2, s3⟩ := nr_st k y i (by omega)
      rw [hz, hn]
      refine ⟨by show 2 * (nr k y i).1 + 2 + 2 = 2 * ((nr k y i).1 + 1) + 2; omega, ?_, ?_, fun p hp => ?_⟩
      · show upd (upd _ _ _) _ _ (2 * ((nr k y i).1 + 1)) = _
        rw [pk_un (by omega), show 2 * ((nr k y i).1 + 1) = 2 * (nr k y i).1 + 2 by omega, pk_us, hg (i + 1) hi]
      · show upd (upd _ _ _) _ _ (2 * ((nr k y i).1 + 1) + 1) = _
        rw [show 2 * ((nr k y i).1 + 1) + 1 = 2 * (nr k y i).1 + 2 + 1 by omega, pk_us]
        rfl
      · have hp : p < (nr k y i).1 + 1 := hp
        show upd (upd _ _ _) _ _ (2 * p) = _ ∧ upd (upd _ _ _) _ _ (2 * p + 1) = _
        rw [pk_un (by omega), pk_un (by omega), pk_un (by omega), pk_un (by omega)]
        by_cases e : p = (nr k y i).1
        · subst e
          rw [h2, h3]
          refine ⟨mSt_same k y s1 s2 (by omega), ?_⟩
          rw [s3]
          congr 1
          omega
        · exact h4 p (by omega)
/-- what Sim tells of a row's runs -/
theorem zRun_tie {g k : AF} {y : Nat} (hg : ∀ x, x < 12 → g x = k (12 * y + x)) : (zRun g 12).2 = 2 * mRn k y ∧ ∀ p, p < mRn k y → (zRun g 12).1 (2 * p) = mTold k y p 0 ∧ (zRun g 12).1 (2 * p + 1) = mTold k y p 1 := by
  have H := zRun_nr hg 11 (by omega)
  rw [show (11 : Nat) + 1 = 12 from rfl] at H
  generalize zRun g 12 = R at H ⊢
  obtain ⟨h1, h2, h3, h4⟩ := H
  have hn := mRn_nr k y
  obtain ⟨s1, s2, s3⟩ := nr_st k y 11 (by omega)
  have e0 : ∀ p, mTold k y p 0 = k (12 * y + mSt k y p) := fun p => by unfold mTold; rw [if_neg (fun h => h rfl)]
  have e1 : ∀ p, p < mRn k y → mTold k y p 1 = nI (mSt k y (p + 1) - mSt k y p) := fun p hp => by
    have := mSt_step k y p
    have hE : mSt k y (p + 1) = mEndOf k y (mSt k y p) := rfl
    unfold mTold
    rw [if_pos (by decide), ← hE, pk_sub (by omega)]
  refine ⟨by rw [h1]; omega, fun p hp => ?_⟩
  rw [e0 p, e1 p hp]
  by_cases e : p = (nr k y 11).1
  · subst e
    have hb := (mEndOf_bd k y (mSt_lt k y hp)).2
    have hE : mSt k y ((nr k y 11).1 + 1) = mEndOf k y (mSt k y (nr k y 11).1) := rfl
    refine ⟨h2.trans (mSt_same k y s1 s2 (by omega)), h3.trans ?_⟩
    rw [s3]
    congr 1
    omega
  · exact h4 p (by omega)
theorem zKn_tie {d : Nat → AF} {k : AF} (h : RW d k) (pre : Int32) {y : Nat} (hy : y < 8) : zKn d pre y = mKn k pre y := by
  have hr := (zRun_tie (g := d y) (k := k) (y := y) (fun x hx => h y hy x hx)).1
  unfold zKn mKn mLike
  generalize (zRun (d y) 12).2 = Z at hr ⊢
  generalize mRn k y = M at hr ⊢
  have hn : nI (Z / 2) = nI M := congrArg nI (by omega)
  rw [hn]
  by_cases c1 : pre = 0
  · rw [if_pos c1, if_pos c1]
  · rw [if_neg c1, if_neg c1]
    by_cases c2 : y = 0
    · rw [if_pos c2, if_pos c2, if_pos rfl]
    · rw [if_neg c2, if_neg c2]
      have hi : (∀ x, x < 12 → d y x = d (y - 1) x) ↔ ∀ x, x < 12 → k (12 * y + x) = k (12 * (y - 1) + x) := by
        constructor
        · intro q x hx
          rw [← h y hy x hx, ← h (y - 1) (by omega) x hx]
          exact q x hx
        · intro q x hx
          rw [h y hy x hx, h (y - 1) (by omega) x hx]
          exact q x hx
      by_cases c3 : ∀ x, x < 12 → d y x = d (y - 1) x
      · rw [if_pos c3, pIf_pos (hi.mp c3), if_neg (by decide)]
      · rw [if_neg c3, pIf_neg (fun z => c3 (hi.mpr z)), if_pos rfl]
theorem zAK_tie {d : Nat → AF} {k : AF} (h : RW d k) (pre : Int32) : ∀ y, y ≤ 8 → zAK d pre y = mAK k pre y
  | 0, _ => rfl
  | y + 1, hy => by rw [zAK, mAK, zAK_tie h pre y (by omega), zKn_tie h pre (by omega)]
theorem zCelX_tie {d : Nat → AF} {k : AF} (h : RW d k) (v : Int32) {y : Nat} (hy : y < 8) (a : Int32) (ha : a = mCo k v (12 * y)) : ∀ x, x ≤ 12 → zCelX d v y a x = mCo k v (12 * y + x)
  | 0, _ => ha
  | x + 1, hx => by
    rw [zCelX, zCelX_tie h v hy a ha x (by omega), h y hy x (by omega)]
    show _ = mCo k v (12 * y + x) + if ¬ k (12 * y + x) = v then 0 else 1
    by_cases e : k (12 * y + x) = v
    · rw [if_pos e, if_neg (fun z => z e)]
    · rw [if_neg e, if_pos e]
theorem zCel_tie {d : Nat → AF} {k : AF} (h : RW d k) (v : Int32) : ∀ y, y ≤ 8 → zCel d v y = mCo k v (12 * y)
  | 0, _ => rfl
  | y + 1, hy => by
    rw [zCel, zCelX_tie h v (by omega) _ (zCel_tie h v y (by omega)) 12 (Nat.le_refl _)]
    rfl
theorem zTk_tie {d : Nat → AF} {k th : AF} (h : RW d k) : ∀ n, n ≤ 6 → zTk th d n = mTk k th n
  | 0, _ => rfl
  | n + 1, hn => by rw [zTk, mTk, zTk_tie h n (by omega), zCel_tie h (nI n) 8 (Nat.le_refl _)]
end MTHX
