/-! both sides agree: cells by number, the sorted row, the pieces, the palette, the nearest -/
section MTHA
theorem gCell_nI {x y : Nat} (hx : x < 12) (hy : y < 8) : sCell (nI x) (nI y) = 1 := by
  have h1 : ¬ nI x < 0 := nI_pos (by omega)
  have h2 : ¬ (12 : Int32) ≤ nI x := nle_nI (n := 12) hx (by omega)
  have h3 : ¬ nI y < 0 := nI_pos (by omega)
  have h4 : ¬ (8 : Int32) ≤ nI y := nle_nI (n := 8) hy (by omega)
  unfold sCell
  rw [if_neg h1, if_neg h2, if_neg h3, if_neg h4]
theorem gIx {x y : Nat} : nI y * 12 + nI x = nI (12 * y + x) := by
  show nI y * nI 12 + nI x = _
  rw [pk_mul, nI_add, Nat.mul_comm]
theorem sGAt_nI {f : AF} {x y : Nat} (hx : x < 12) (hy : y < 8) : sGAt f (nI x) (nI y) = f (12 * y + x) := by
  unfold sGAt
  rw [gCell_nI hx hy, if_neg (by decide), gIx, sAt_nI (by omega) (by omega)]
theorem sGPut_nI {f : AF} {x y : Nat} {v : Int32} (hx : x < 12) (hy : y < 8) : sGPut f (nI x) (nI y) v = upd f (12 * y + x) v := by
  unfold sGPut
  rw [gCell_nI hx hy, if_neg (by decide), gIx, sPut_nI (by omega) (by omega)]
theorem sCell_1 {x y : Int32} (h : ¬ sCell x y = 0) : ∃ a b, a < 12 ∧ b < 8 ∧ x = nI a ∧ y = nI b := by
  rcases pk_ix x (n := 12) (by omega) with h1 | h1 | ⟨a, ha, rfl⟩
  · exact absurd (by unfold sCell; rw [if_pos h1]) h
  · refine absurd ?_ h
    unfold sCell
    split
    · rfl
    · rw [if_pos (show (12 : Int32) ≤ x from h1)]
  · rcases pk_ix y (n := 8) (by omega) with h2 | h2 | ⟨b, hb, rfl⟩
    · refine absurd ?_ h
      unfold sCell
      rw [if_pos h2]
      split
      · rfl
      · split <;> rfl
    · refine absurd ?_ h
      unfold sCell
      rw [if_pos (show (8 : Int32) ≤ y from h2)]
      split
      · rfl
      · split
        · rfl
        · split <;> rfl
    · exact ⟨a, b, ha, hb, rfl, rfl⟩
/-! counts -/
theorem cntP_1 (p : Nat → Bool) (n : Nat) : cntP p (n + 1) = cntP p n + if p n = true then 1 else 0 := rfl
theorem isS_iff {f : AF} {s j : Nat} : isS f s j = true ↔ f j = nI s := by simp [isS]
theorem sCnX_c (f : AF) (s : Nat) {y : Nat} (hy : y < 8) : ∀ x, x ≤ 12 → cntP (isS f s) (12 * y) + sCnX f s y x = cntP (isS f s) (12 * y + x)
  | 0, _ => rfl
  | x + 1, hx => by
    have ih := sCnX_c f s hy x (by omega)
    rw [sCnX, sGAt_nI (by omega) hy, ← Nat.add_assoc, ih, ← Nat.add_assoc, cntP_1]
    by_cases h : f (12 * y + x) = nI s
    · rw [if_pos h, if_pos (isS_iff.mpr h)]
    · rw [if_neg h, if_neg (fun z => h (isS_iff.mp z))]
theorem sCnY_c (f : AF) (s : Nat) : ∀ y, y ≤ 8 → sCnY f s y = cntP (isS f s) (12 * y)
  | 0, _ => rfl
  | y + 1, hy => by
    rw [sCnY, sCnY_c f s y (by omega), sCnX_c f s (by omega) 12 (Nat.le_refl _)]
    rfl
theorem sCn_c (f : AF) (s : Nat) : sCn f s = cntP (isS f s) 96 := sCnY_c f s 8 (Nat.le_refl _)
theorem cntP_all {p : Nat → Bool} : ∀ n, (∀ j, j < n → p j = true) → cntP p n = n
  | 0, _ => rfl
  | n + 1, h => by rw [cntP_1, cntP_all n (fun j hj => h j (by omega)), if_pos (h n (by omega))]
theorem inS_yes {f : AF} {v j : Nat} (h : f j = nI v) : ∀ t, v < t → inS f t j = true
  | 0, ht => absurd ht (Nat.not_lt_zero _)
  | t + 1, ht => by
    show (inS f t j || isS f t j) = true
    by_cases e : v = t
    · subst e
      rw [isS_iff.mpr h, Bool.or_true]
    · rw [inS_yes h t (by omega), Bool.true_or]
/-! the sorted row -/
theorem mSoX_at (f : AF) (s : Nat) (a : AF × Nat) : ∀ i j, (mSoX f s a i).1 j = if a.2 ≤ j ∧ j < a.2 + cntP (isS f s) i then nI s else a.1 j
  | 0, j => by
    rw [if_neg (by show ¬ (a.2 ≤ j ∧ j < a.2 + 0); omega)]
    rfl
  | i + 1, j => by
    have ih := mSoX_at f s a i j
    have h2 := mSoX_2 f s a i
    rw [mSoX, cntP_1]
    by_cases h : f i = nI s
    · rw [if_pos h, if_pos (isS_iff.mpr h)]
      show upd (mSoX f s a i).1 (mSoX f s a i).2 (nI s) j = _
      by_cases e : j = (mSoX f s a i).2
      · rw [e, pk_us, if_pos (by omega)]
      · rw [pk_un e, ih]
        by_cases e2 : a.2 ≤ j ∧ j < a.2 + cntP (isS f s) i
        · rw [if_pos e2, if_pos (by omega)]
        · rw [if_neg e2, if_neg (by omega)]
    · rw [if_neg h, if_neg (fun z => h (isS_iff.mp z)), ih]
      rfl
theorem sSoN_at (s : Nat) (a : AF × Nat) : ∀ k, a.2 + k ≤ 96 → (sSoN s a k).2 = a.2 + k ∧ ∀ j, (sSoN s a k).1 j = if a.2 ≤ j ∧ j < a.2 + k then nI s else a.1 j
  | 0, _ => ⟨rfl, fun j => by rw [if_neg (by omega)]; rfl⟩
  | k + 1, hk => by
    obtain ⟨h1, h2⟩ := sSoN_at s a k (by omega)
    refine ⟨by rw [sSoN, h1]; omega, fun j => ?_⟩
    rw [sSoN, h1, sPut_nI (by omega) (by omega)]
    show upd (sSoN s a k).1 (a.2 + k) (nI s) j = _
    by_cases e : j = a.2 + k
    · rw [e, pk_us, if_pos (by omega)]
    · rw [pk_un e, h2 j]
      by_cases e2 : a.2 ≤ j ∧ j < a.2 + k
      · rw [if_pos e2, if_pos (by omega)]
      · rw [if_neg e2, if_neg (by omega)]
theorem so_tie (f so so' : AF) : ∀ s, s ≤ 256 → (sSoS (sCn f) so s).2 = (mSoS f so' s).2 ∧ ∀ j, j < (mSoS f so' s).2 → (sSoS (sCn f) so s).1 j = (mSoS f so' s).1 j
  | 0, _ => ⟨rfl, fun j hj => absurd hj (Nat.not_lt_zero _)⟩
  | s + 1, hs => by
    obtain ⟨h1, h2⟩ := so_tie f so so' s (by omega)
    have h3 := mSoX_2 f s (mSoS f so' s) 96
    have h4 := mSoS_2 f so' (s + 1) (by omega)
    have h5 := cntP_le (inS f (s + 1)) 96
    have h6 : (mSoS f so' (s + 1)).2 = (mSoS f so' s).2 + cntP (isS f s) 96 := h3
    obtain ⟨h7, h8⟩ := sSoN_at s (sSoS (sCn f) so s) (sCn f s) (by rw [h1, sCn_c]; omega)
    refine ⟨?_, fun j hj => ?_⟩
    · rw [h6, ← h1, ← sCn_c]
      exact h7
    · have e1 : (sSoS (sCn f) so (s + 1)).1 j = _ := h8 j
      have e2 : (mSoS f so' (s + 1)).1 j = _ := mSoX_at f s (mSoS f so' s) 96 j
      rw [e1, e2, h1, sCn_c]
      rw [h6] at hj
      by_cases e : (mSoS f so' s).2 ≤ j ∧ j < (mSoS f so' s).2 + cntP (isS f s) 96
      · rw [if_pos e, if_pos e]
      · rw [if_neg e, if_neg e]
        exact h2 j (by omega)
/-- the pattern: 96 numbers from 0 to 255 -/
def okF (f : AF) : Prop := ∀ j, j < 96 → ∃ v, v < 256 ∧ f j = nI v
theorem srt_tie {f : AF} (hf : okF f) (so so' : AF) : ∀ j, j < 96 → sSorted f so j = mSrt f so' j := by
  intro j hj
  have h1 := (so_tie f so so' 256 (Nat.le_refl _)).2 j
  rw [mSoS_2 f so' 256 (by omega), cntP_all 96 (fun i hi => by obtain ⟨v, hv, e⟩ := hf i hi; exact inS_yes e 256 hv)] at h1
  exact h1 hj
/-! the pieces -/
def tE (st : AF) (q : Nat) (e : Nat → Nat) : Prop := PT st q ∧ ∀ j, j ≤ q → sE st q j = e j
theorem spr_tie {so so' st : AF} {q : Nat} {e : Nat → Nat} (hso : ∀ j, j < 96 → so j = so' j) (h : tE st q e) {k : Nat} (hk : k < q) : sSpr so st (nI q) (nI k) = aSpr so' e k := by
  obtain ⟨hp, he⟩ := h
  have h1 := hp.mono (a := k) (b := k + 1) (by omega) (by omega)
  have h2 := hp.le (a := k + 1) (by omega)
  unfold sSpr aSpr
  rw [hp.en hk, hp.st hk]
  have e1 : nI (sE st q (k + 1)) - 1 = nI (sE st q (k + 1) - 1) := by
    have := nI_pred (sE st q (k + 1) - 1)
    rw [show sE st q (k + 1) - 1 + 1 = sE st q (k + 1) by omega] at this
    exact this
  rw [e1, sAt_nI (by omega) (by omega), sAt_nI (by omega) (by omega), hso _ (by omega), hso _ (by omega), he k (by omega), he (k + 1) (by omega)]
theorem wid_tie {so so' st : AF} {q : Nat} {e : Nat → Nat} (hso : ∀ j, j < 96 → so j = so' j) (h : tE st q e) : ∀ i, i < q → sWid so st (nI q) i = aWid so' e i
  | 0, _ => rfl
  | i + 1, hi => by
    have ih := wid_tie hso h i (by omega)
    have h1 := aWid_le so' e i
    rw [sWid, aWid, ih, spr_tie hso h hi, spr_tie hso h (by omega)]
theorem fit_tie {so so' : AF} (hso : ∀ j, j < 96 → so j = so' j) : ∀ (n q : Nat) (st : AF) (e : Nat → Nat), q + n ≤ 6 → tE st q e → (sFit so n q st).2 = (aFit so' n q e).2 ∧ tE (sFit so n q st).1 (sFit so n q st).2 (aFit so' n q e).1
  | 0, q, st, e, _, h => ⟨rfl, h⟩
  | n + 1, q, st, e, hq, h => by
    have hq1 := h.1.1
    have hw := wid_tie hso h (q - 1) (by omega)
    have hl := aWid_le so' e (q - 1)
    have hs := spr_tie hso h (k := aWid so' e (q - 1)) (by omega)
    rw [sFit, aFit, hw, hs]
    by_cases hz : aSpr so' e (aWid so' e (q - 1)) = 0
    · rw [if_neg (fun z => z hz), if_neg (fun z => z hz)]
      exact ⟨rfl, h⟩
    · rw [if_pos hz, if_pos hz]
      refine fit_tie hso n (q + 1) _ _ (by omega) ⟨PT_split h.1 (by omega) (by omega) (PT_two (so := so) h.1 (by omega) (by rw [hs]; exact hz)), fun j hj => ?_⟩
      rw [sE_split h.1 (by omega) (by omega) j hj]
      unfold aSpl
      by_cases e1 : j ≤ aWid so' e (q - 1)
      · rw [if_pos e1, if_pos e1]
        exact h.2 j (by omega)
      · rw [if_neg e1, if_neg e1]
        by_cases e2 : j = aWid so' e (q - 1) + 1
        · rw [if_pos e2, if_pos e2, h.2 _ (by omega), h.2 _ (by omega)]
        · rw [if_neg e2, if_neg e2]
          exact h.2 _ (by omega)
theorem tE_0 (st : AF) : tE (sPut 6 st 0 0) 1 aE0 := by
  refine ⟨PT_one st, fun j hj => ?_⟩
  by_cases e : j = 0
  · subst e
    exact (PT_one st).2.2.1
  · have : j = 1 := by omega
    subst this
    exact PT.top
theorem fitF_tie {f : AF} (hf : okF f) (so so' st : AF) {m : Nat} (h1 : 1 ≤ m) (h6 : m ≤ 6) : (sFitF f so st m).2 = (mFit f so' m).2 ∧ tE (sFitF f so st m).1 (sFitF f so st m).2 (mFit f so' m).1 :=
  fit_tie (srt_tie hf so so') (m - 1) 1 _ aE0 (by omega) (tE_0 st)
/-! the palette -/
theorem sum_tie {so so' : AF} (hso : ∀ j, j < 96 → so j = so' j) (s : Nat) : ∀ i, s + i ≤ 96 → sSum so s i = aSum so' s i
  | 0, _ => rfl
  | i + 1, h => by rw [sSum, aSum, sum_tie hso s i (by omega), sAt_nI (by omega) (by omega), hso _ (by omega)]
theorem mns_tie {so so' st : AF} {q : Nat} {e : Nat → Nat} (hso : ∀ j, j < 96 → so j = so' j) (h : tE st q e) (sh pa : AF) : ∀ k, k ≤ q → ∀ j, j < k → sMns so st q sh k j = aPal so' e pa k j
  | 0, _, j, hj => absurd hj (Nat.not_lt_zero _)
  | k + 1, hk, j, hj => by
    have ih := mns_tie hso h sh pa k (by omega) j
    have h1 := h.1.mono (a := k) (b := k + 1) (by omega) (by omega)
    have h2 := h.1.le (a := k + 1) (by omega)
    have h6 := h.1.2.1
    rw [sMns, aPal, sPut_nI (by omega) (by omega)]
    by_cases e1 : j = k
    · rw [e1, pk_us, pk_us]
      unfold aMean
      rw [sum_tie hso _ _ (by omega), h.2 k (by omega), h.2 (k + 1) (by omega)]
    · rw [pk_un e1, pk_un e1]
      exact ih (by omega)
theorem pal_tie {f : AF} (hf : okF f) (so so' st sh pa : AF) {m : Nat} (h1 : 1 ≤ m) (h6 : m ≤ 6) : ∀ j, j < (mFit f so' m).2 → sMnsF f so st sh m j = mPal f so' pa m j := by
  obtain ⟨e, h⟩ := fitF_tie hf so so' st h1 h6
  intro j hj
  unfold sMnsF mPal
  have h2 := mns_tie (srt_tie hf so so') h sh pa (sFitF f so st m).2 (Nat.le_refl _) j (by rw [e]; exact hj)
  rw [h2, e]
/-! the nearest -/
theorem shade_nI {sh : AF} {b k : Nat} (hk : k < b) (hb : b ≤ 6) : sShade sh (nI b) (nI k) = sh k := by
  unfold sShade
  rw [if_neg (nI_pos (by omega)), if_neg (nle_nI hk (by omega)), sAt_nI (by omega) (by omega)]
theorem near_tie {sh pa : AF} {b : Nat} (hb : b ≤ 6) (hp : ∀ k, k < b → sh k = pa k) (w : Int32) : ∀ i, i < b → (sNear sh (nI b) w i).1 = nI (mNear pa w i) ∧ (sNear sh (nI b) w i).2 = sAbs (w - pa (mNear pa w i))
  | 0, h => ⟨rfl, by
    show sAbs (w - sShade sh (nI b) (nI 0)) = _
    rw [shade_nI h hb, hp 0 h]
    rfl⟩
  | i + 1, h => by
    obtain ⟨h1, h2⟩ := near_tie hb hp w i (by omega)
    rw [sNear, mNear]
    unfold sDist
    rw [shade_nI h hb, hp _ h, h2]
    by_cases e : sAbs (w - pa (mNear pa w i)) ≤ sAbs (w - pa (i + 1))
    · rw [if_pos e, if_pos e]
      exact ⟨h1, h2⟩
    · rw [if_neg e, if_neg e]
      exact ⟨rfl, rfl⟩
end MTHA
