/-! both sides agree: a cloth made, what would be, what is advised, threads, counts, digests, the sum -/
section MTHD
theorem make_tie {f : AF} (hf : okF f) {m : Nat} (h2 : 2 ≤ m) (h6 : m ≤ 6) {car : Int32} (hw : car = 0 ∨ car = 1 ∨ car = 2) (tur : Int32) (s : CS) (w : WS) :
    KT (csFw (sMakeS f m car tur s)) (csFr (sMakeS f m car tur s)) (wsCl (mOn f m car tur w)) ∧ csOff (sMakeS f m car tur s) = wsOff (mOn f m car tur w) ∧ (∀ c, c < 6 → csFu (sMakeS f m car tur s) c = nI (cntP (isS (wsCl (mOn f m car tur w)) c) 96)) ∧ csBx (sMakeS f m car tur s) = nI (mFit f w.1 m).2 ∧ (∀ j, j < (mFit f w.1 m).2 → (sMakeS f m car tur s).2.2.2.1 j = (mOn f m car tur w).2.2.1 j) := by
  obtain ⟨e1, hT⟩ := fitF_tie hf s.2.1 w.1 s.2.2.1 (m := m) (by omega) h6
  have hpal := pal_tie hf s.2.1 w.1 s.2.2.1 s.2.2.2.1 w.2.2.1 (m := m) (by omega) h6
  have hq1 := mFit_1 f w.1 m
  have hqm := mFit_m f w.1 (m := m) (by omega)
  have hI := mk_tie (sh := sMnsF f s.2.1 s.2.2.1 s.2.2.2.1 m) (pa := mPal f w.1 w.2.2.1 m) (f := f) hq1 (by omega) hpal hw tur s.2.2.2.2.2.1 s.2.2.2.2.2.2.1 s.2.2.2.2.2.2.2.2.1 s.2.2.2.2.2.2.2.1 w.2.2.2.1 w.2.2.2.2.2.1 w.2.2.2.2.2.2 8 (Nat.le_refl _)
  have hR := mk_runs (sMnsF f s.2.1 s.2.2.1 s.2.2.2.1 m) f (mFit f w.1 m).2 car tur s.2.2.2.2.2.1 s.2.2.2.2.2.2.1 s.2.2.2.2.2.2.2.2.1 s.2.2.2.2.2.2.2.1 8 (Nat.le_refl _)
  have eM : sMake f m car tur s.2.1 s.2.2.1 s.2.2.2.1 s.2.2.2.2.2.1 s.2.2.2.2.2.2.1 s.2.2.2.2.2.2.2.2.1 s.2.2.2.2.2.2.2.1 = sMk (sMnsF f s.2.1 s.2.2.1 s.2.2.2.1 m) (mFit f w.1 m).2 f car tur s.2.2.2.2.2.1 s.2.2.2.2.2.2.1 s.2.2.2.2.2.2.2.2.1 s.2.2.2.2.2.2.2.1 8 := by
    rw [← e1]
    rfl
  obtain ⟨i1, i2, i3, -⟩ := hI
  simp only [csFw, csFr, csOff, csFu, csBx, wsCl, wsOff, sMakeS, mOn, mWeave, eM]
  refine ⟨⟨fun j hj => (i1 j hj).1, fun y hy x hx => ?_⟩, i2, i3, by rw [e1], hpal⟩
  rw [hR y hy x hx, nr_congr x (fun z hz => (i1 (12 * y + z) (by omega)).1)]
theorem would_tie {f : AF} (hf : okF f) {m : Nat} (h2 : 2 ≤ m) (h6 : m ≤ 6) {car : Int32} (hw : car = 0 ∨ car = 1 ∨ car = 2) (tur pre : Int32) (s : CS) (w : WS) (v : Int32) : sWould (sMakeS f m car tur s) pre v = mWould (mFit f w.1 m).2 (wsOff (mOn f m car tur w)) (wsCl (mOn f m car tur w)) pre v := by
  obtain ⟨h1, h3, -, h5, -⟩ := make_tie hf h2 h6 hw tur s w
  unfold sWould mWould
  rw [ak_tie h1 pre 8 (Nat.le_refl _), h3, h5]
theorem adv_tie {f : AF} (hf : okF f) {car : Int32} (hw : car = 0 ∨ car = 1 ∨ car = 2) (tur pre kn : Int32) (s : CS) (w : WS) : ∀ i, i ≤ 5 → (sAdv f car tur pre kn s i).1 = (mAdv f car tur pre kn w i).1 ∧ (sAdv f car tur pre kn s i).2.1 = (mAdv f car tur pre kn w i).2.1 ∧ ((mAdv f car tur pre kn w i).1 = (-1) ∨ ∃ k, k < 10 ∧ (mAdv f car tur pre kn w i).1 = nI k)
  | 0, _ => ⟨rfl, rfl, Or.inl rfl⟩
  | i + 1, hi => by
    obtain ⟨a1, a2, a3⟩ := adv_tie hf hw tur pre kn s w i (by omega)
    obtain ⟨h1, h3, -, -, -⟩ := make_tie hf (m := i + 2) (by omega) (by omega) hw tur (sAdv f car tur pre kn s i).2.2 (mAdv f car tur pre kn w i).2.2
    have hak := ak_tie h1 pre 8 (Nat.le_refl _)
    rw [sAdv, mAdv]
    unfold sAdS mAdS
    rw [hak, a1, a2, h3]
    generalize hN : mOn f (i + 2) car tur (mAdv f car tur pre kn w i).2.2 = N
    by_cases c1 : kn < mAK (wsCl N) pre 8
    · rw [if_pos (by rw [if_pos c1]), if_pos c1]
      exact ⟨rfl, rfl, a3⟩
    · rw [if_neg (by rw [if_neg c1]; decide), if_neg c1]
      have hlt : (mAdv f car tur pre kn w i).1 < 0 ↔ (mAdv f car tur pre kn w i).1 = (-1) := by
        rcases a3 with e | ⟨k, hk, e⟩
        · rw [e]; decide
        · rw [e]
          have g1 : ¬ nI k < 0 := nI_pos (by omega)
          have g2 : ¬ nI k = (-1) := by
            intro z
            rw [z] at g1
            exact g1 (by decide)
          exact ⟨fun z => absurd z g1, fun z => absurd z g2⟩
      by_cases c2 : (mAdv f car tur pre kn w i).1 = (-1)
      · rw [if_pos (hlt.mpr c2), if_pos c2]
        exact ⟨rfl, rfl, Or.inr ⟨i + 2, by omega, rfl⟩⟩
      · rw [if_neg (fun z => c2 (hlt.mp z)), if_neg c2]
        by_cases c3 : wsOff N < (mAdv f car tur pre kn w i).2.1
        · rw [if_neg (Int32.not_le.mpr c3), if_pos c3]
          exact ⟨rfl, rfl, Or.inr ⟨i + 2, by omega, rfl⟩⟩
        · rw [if_pos (Int32.not_lt.mp c3), if_neg c3]
          exact ⟨rfl, rfl, a3⟩
/-! threads -/
theorem mCo_c (k : AF) (c : Nat) : ∀ n, mCo k (nI c) n = nI (cntP (isS k c) n)
  | 0 => rfl
  | n + 1 => by
    rw [mCo, mCo_c k c n, cntP_1]
    by_cases h : k n = nI c
    · rw [if_neg (fun z => z h), if_pos (isS_iff.mpr h), nI_1]
    · rw [if_pos h, if_neg (fun z => h (isS_iff.mp z))]
      show nI _ + nI 0 = _
      rw [nI_add]
theorem hold_tie (th : AF) : ∀ n, n ≤ 6 → sHold th n = mHold th n
  | 0, _ => rfl
  | n + 1, h => by rw [sHold, mHold, hold_tie th n (by omega), sAt_nI (by omega) (by omega)]
theorem suf_tie {fu th cl : AF} (h : ∀ c, c < 6 → fu c = nI (cntP (isS cl c) 96)) : sSuf fu th = pIf (∀ c, c < 6 → mCo cl (nI c) 96 ≤ th c) := by
  unfold sSuf
  refine pIf_iff ⟨fun g c hc => ?_, fun g c hc => ?_⟩
  · have := g c hc
    rw [sAt_nI hc (by omega), sAt_nI hc (by omega), h c hc, ← mCo_c] at this
    exact this
  · rw [sAt_nI hc (by omega), sAt_nI hc (by omega), h c hc, ← mCo_c]
    exact g c hc
theorem take_tie {fu th cl : AF} (h : ∀ c, c < 6 → fu c = nI (cntP (isS cl c) 96)) : ∀ n, n ≤ 6 → sTake fu th n = mTk cl th n
  | 0, _ => rfl
  | n + 1, hn => by
    rw [sTake, mTk, take_tie h n (by omega), sPut_nI (by omega) (by omega), sAt_nI (by omega) (by omega), sAt_nI (by omega) (by omega), h n (by omega), ← mCo_c]
/-! digests and the sum -/
theorem dig_tie {n : Nat} (hn : n < 2147483648) {f g : AF} (h : ∀ j, j < n → f j = g j) (d : Int64) : ∀ i, i ≤ n → sDig n f d i = mDgF g d i
  | 0, _ => rfl
  | i + 1, hi => by rw [sDig, mDgF, dig_tie hn h d i (by omega), sAt_nI (by omega) hn, h i (by omega)]
/-- a prefix of a row of six -/
theorem dig_tie6 {f g : AF} {kb : Nat} (hb : kb ≤ 6) (h : ∀ j, j < kb → f j = g j) (d : Int64) : ∀ i, i ≤ kb → sDig 6 f d i = mDgF g d i
  | 0, _ => rfl
  | i + 1, hi => by rw [sDig, mDgF, dig_tie6 hb h d i (by omega), sAt_nI (by omega) (by omega), h i (by omega)]
theorem dg8_tie {c c' : Nat → Int32} (h : ∀ j, j < 8 → c j = c' j) : ∀ i, i ≤ 8 → sDg8 c i = mDg8 c' i
  | 0, _ => rfl
  | i + 1, hi => by rw [sDg8, mDg8, dg8_tie h i (by omega), h i (by omega)]
theorem sumR_tie (f : AF) {y : Nat} (hy : y < 8) (a : Int32) (ha : a = mSumF f (12 * y)) : ∀ i, i ≤ 12 → sSumR f (nI y) a i = mSumF f (12 * y + i)
  | 0, _ => ha
  | i + 1, hi => by
    rw [sSumR, sumR_tie f hy a ha i (by omega), sGAt_nI (by omega) hy]
    rfl
theorem sumA_tie (f : AF) : ∀ y, y ≤ 8 → sSumA f y = mSumF f (12 * y)
  | 0, _ => rfl
  | y + 1, hy => by
    rw [sSumA, sumR_tie f (by omega) _ (sumA_tie f y (by omega)) 12 (Nat.le_refl _)]
    rfl
/-! the pattern's calls -/
theorem rowF_tie (f : AF) {y : Nat} (hy : y < 8) (a b : Int32) : ∀ i, i ≤ 12 → sRowF f (nI y) a b i = mRowF f y a b i
  | 0, _ => rfl
  | i + 1, hi => by
    rw [sRowF, mRowF, rowF_tie f hy a b i (by omega), sGPut_nI (by omega) hy]
    rfl
theorem like_tieF (f : AF) {y o : Nat} (hy : y < 8) (ho : o < 8) : ∀ i, i ≤ 12 → sLike f (nI y) (nI o) i = mLk f y o i
  | 0, _ => rfl
  | i + 1, hi => by
    rw [sLike, mLk, like_tieF f hy ho i (by omega), sGPut_nI (by omega) hy, sGAt_nI (by omega) hy, sGAt_nI (by omega) ho]
    refine Prod.ext rfl ?_
    show (if _ then _ else _) = _
    by_cases e : (mLk f y o i).1 (12 * y + i) = (mLk f y o i).1 (12 * o + i)
    · rw [if_pos e, if_neg (fun z => z e)]
      show _ = (mLk f y o i).2 + nI 0
      exact (Int32.add_zero _).symm
    · rw [if_neg e, if_pos e]
end MTHD
