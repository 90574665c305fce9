/-! both sides agree: runs and knots -/
section MTHC
/-- number and length at column i -/
def nr (k : AF) (y : Nat) : Nat → Nat × Nat
  | 0 => (0, 1)
  | i + 1 => if k (12 * y + (i + 1)) = k (12 * y + i) ∧ (nr k y i).2 < 9 then ((nr k y i).1, (nr k y i).2 + 1) else ((nr k y i).1 + 1, 1)
theorem nr_bd (k : AF) (y : Nat) : ∀ i, (nr k y i).1 ≤ i ∧ (nr k y i).2 ≤ i + 1
  | 0 => ⟨Nat.le_refl _, Nat.le_refl _⟩
  | i + 1 => by
    obtain ⟨h1, h2⟩ := nr_bd k y i
    rw [nr]
    split
    · exact ⟨by show (nr k y i).1 ≤ _; omega, by show (nr k y i).2 + 1 ≤ _; omega⟩
    · exact ⟨by show (nr k y i).1 + 1 ≤ _; omega, by show 1 ≤ _; omega⟩
theorem nr_congr {k k' : AF} {y : Nat} : ∀ i, (∀ x, x ≤ i → k (12 * y + x) = k' (12 * y + x)) → nr k y i = nr k' y i
  | 0, _ => rfl
  | i + 1, h => by
    rw [nr, nr, nr_congr i (fun x hx => h x (by omega)), h (i + 1) (by omega), h i (by omega)]
theorem nr_tie {fw : AF} {y : Nat} (hy : y < 8) (fr : AF) : ∀ i, i < 12 → (sNR fw (nI y) fr i).1 = nI (nr fw y i).1 ∧ (sNR fw (nI y) fr i).2.1 = nI (nr fw y i).2 ∧ (∀ j, j ≤ i → (sNR fw (nI y) fr i).2.2 (12 * y + j) = nI (nr fw y j).1) ∧ ∀ j, (j < 12 * y ∨ 12 * (y + 1) ≤ j) → (sNR fw (nI y) fr i).2.2 j = fr j
  | 0, _ => by
    have e : (sNR fw (nI y) fr 0).2.2 = upd fr (12 * y + 0) 0 := sGPut_nI (x := 0) (by omega) hy
    refine ⟨rfl, rfl, fun j hj => ?_, fun j hj => ?_⟩
    · have : j = 0 := by omega
      subst this
      rw [e, pk_us]; rfl
    · rw [e, pk_un (by omega)]
  | i + 1, hi => by
    obtain ⟨h1, h2, h3, h4⟩ := nr_tie hy fr i (by omega)
    obtain ⟨b1, b2⟩ := nr_bd fw y i
    have eg : sGo fw (nI y) (sNR fw (nI y) fr i).2.1 (nI (i + 1)) = if fw (12 * y + (i + 1)) = fw (12 * y + i) ∧ (nr fw y i).2 < 9 then 1 else 0 := by
      unfold sGo
      rw [nI_pred, sGAt_nI (by omega) hy, sGAt_nI (by omega) hy, h2]
      by_cases e1 : fw (12 * y + (i + 1)) = fw (12 * y + i)
      · rw [if_neg (fun z => z e1)]
        by_cases e2 : (nr fw y i).2 < 9
        · rw [if_neg (show ¬ (9 : Int32) ≤ nI (nr fw y i).2 from nle_nI (n := 9) e2 (by omega)), if_pos ⟨e1, e2⟩]
        · rw [if_pos (show (9 : Int32) ≤ nI (nr fw y i).2 from le_nI (n := 9) (by omega) (by omega)), if_neg (fun z => e2 z.2)]
      · rw [if_pos e1, if_neg (fun z => e1 z.1)]
    have en : sNum (sGo fw (nI y) (sNR fw (nI y) fr i).2.1 (nI (i + 1))) (sNR fw (nI y) fr i).1 = nI (nr fw y (i + 1)).1 := by
      rw [eg, nr]
      unfold sNum
      by_cases e : fw (12 * y + (i + 1)) = fw (12 * y + i) ∧ (nr fw y i).2 < 9
      · rw [if_pos e, if_pos e, if_neg (by decide)]; exact h1
      · rw [if_neg e, if_neg e, if_pos rfl, h1, nI_1]
    have el : sLen (sGo fw (nI y) (sNR fw (nI y) fr i).2.1 (nI (i + 1))) (sNR fw (nI y) fr i).2.1 = nI (nr fw y (i + 1)).2 := by
      rw [eg, nr]
      unfold sLen
      by_cases e : fw (12 * y + (i + 1)) = fw (12 * y + i) ∧ (nr fw y i).2 < 9
      · rw [if_pos e, if_pos e, if_neg (by decide), h2, nI_1]
      · rw [if_neg e, if_neg e, if_pos rfl]; rfl
    have ef : (sNR fw (nI y) fr (i + 1)).2.2 = upd (sNR fw (nI y) fr i).2.2 (12 * y + (i + 1)) (nI (nr fw y (i + 1)).1) := by
      rw [← en]
      exact sGPut_nI (by omega) hy
    refine ⟨en, el, fun j hj => ?_, fun j hj => ?_⟩
    · rw [ef]
      by_cases e : j = i + 1
      · rw [e, pk_us]
      · rw [pk_un (by omega)]; exact h3 j (by omega)
    · rw [ef, pk_un (by omega)]; exact h4 j hj
theorem sRow_out {sh f : AF} {b y : Nat} (hy : y < 8) {way back : Int32} (s : RS) : ∀ i, i ≤ 12 → ∀ j, (j < 12 * y ∨ 12 * (y + 1) ≤ j) → (sRow sh b f way back (nI y) s i).1 j = s.1 j
  | 0, _, j, _ => rfl
  | i + 1, hi, j, hj => by
    have hX := rX_lt back (i := i) (by omega)
    rw [sRow, sRX_nI (by omega)]
    show sGPut _ _ _ _ j = _
    rw [sGPut_nI hX hy, pk_un (by omega)]
    exact sRow_out hy s i (by omega) j hj
theorem mk_runs (sh f : AF) (b : Nat) (way tur : Int32) (fw fc fu fr : AF) : ∀ y, y ≤ 8 → ∀ y', y' < y → ∀ x, x < 12 → (sMk sh b f way tur fw fc fu fr y).2 (12 * y' + x) = nI (nr (sMk sh b f way tur fw fc fu fr y).1.1 y' x).1
  | 0, _, y', h, _, _ => absurd h (Nat.not_lt_zero _)
  | y + 1, hy, y', h, x, hx => by
    have hN := nr_tie (fw := (sRow sh b f way (sBk tur y) (nI y) (sMk sh b f way tur fw fc fu fr y).1 12).1) (y := y) (by omega) (sMk sh b f way tur fw fc fu fr y).2 11 (by omega)
    show (sNR (sRow sh b f way (sBk tur y) (nI y) (sMk sh b f way tur fw fc fu fr y).1 12).1 (nI y) (sMk sh b f way tur fw fc fu fr y).2 11).2.2 (12 * y' + x) = nI (nr (sRow sh b f way (sBk tur y) (nI y) (sMk sh b f way tur fw fc fu fr y).1 12).1 y' x).1
    by_cases e : y' = y
    · subst e
      exact hN.2.2.1 x (by omega)
    · rw [hN.2.2.2 (12 * y' + x) (by omega), mk_runs sh f b way tur fw fc fu fr y (by omega) y' (by omega) x hx]
      rw [nr_congr (k := (sRow sh b f way (sBk tur y) (nI y) (sMk sh b f way tur fw fc fu fr y).1 12).1) x (fun z hz => sRow_out (by omega) _ 12 (Nat.le_refl _) _ (by omega))]
/-! the reference's runs by the numbers -/
theorem mEnd_ge (k : AF) (y x : Nat) : ∀ n e, e ≤ mEnd k y x n e
  | 0, e => Nat.le_refl _
  | n + 1, e => by
    rw [mEnd]
    split
    · split
      · split
        · exact Nat.le_trans (Nat.le_succ e) (mEnd_ge k y x n (e + 1))
        · exact Nat.le_refl _
      · exact Nat.le_refl _
    · exact Nat.le_refl _
theorem mEnd_run (k : AF) (y x : Nat) : ∀ n e, 12 ≤ e + n → (∀ e1, x < e1 → e1 < e → e1 - x < 9 ∧ k (12 * y + e1) = k (12 * y + x)) → (∀ e1, x < e1 → e1 < mEnd k y x n e → e1 - x < 9 ∧ k (12 * y + e1) = k (12 * y + x)) ∧ (12 ≤ mEnd k y x n e ∨ 9 ≤ mEnd k y x n e - x ∨ ¬ k (12 * y + mEnd k y x n e) = k (12 * y + x))
  | 0, e, hn, h => ⟨h, Or.inl (by rw [mEnd]; omega)⟩
  | n + 1, e, hn, h => by
    rw [mEnd]
    by_cases e1 : e < 12
    · rw [if_pos e1]
      by_cases e2 : e - x < 9
      · rw [if_pos e2]
        by_cases e3 : k (12 * y + e) = k (12 * y + x)
        · rw [if_pos e3]
          refine mEnd_run k y x n (e + 1) (by omega) (fun z hz hz2 => ?_)
          by_cases e4 : z = e
          · subst e4; exact ⟨e2, e3⟩
          · exact h z hz (by omega)
        · rw [if_neg e3]
          exact ⟨h, Or.inr (Or.inr e3)⟩
      · rw [if_neg e2]
        exact ⟨h, Or.inr (Or.inl (by omega))⟩
    · rw [if_neg e1]
      exact ⟨h, Or.inl (by omega)⟩
theorem mSt_step (k : AF) (y j : Nat) : mSt k y j < mSt k y (j + 1) := mEnd_ge k y (mSt k y j) 12 (mSt k y j + 1)
theorem mSt_mono (k : AF) (y : Nat) {a b : Nat} (h : a < b) : mSt k y a < mSt k y b := by
  induction b with
  | zero => omega
  | succ b ih =>
    by_cases e : a = b
    · subst e; exact mSt_step k y a
    · exact Nat.lt_trans (ih (by omega)) (mSt_step k y b)
theorem mSt_inj (k : AF) (y : Nat) {a b : Nat} (h1 : mSt k y a ≤ mSt k y b) : a ≤ b := by
  rcases Nat.lt_or_ge b a with h | h
  · have := mSt_mono k y h; omega
  · exact h
theorem nr_st (k : AF) (y : Nat) : ∀ i, i < 12 → mSt k y (nr k y i).1 ≤ i ∧ i < mSt k y ((nr k y i).1 + 1) ∧ (nr k y i).2 = i - mSt k y (nr k y i).1 + 1
  | 0, _ => ⟨Nat.le_refl _, Nat.lt_of_lt_of_le Nat.zero_lt_one (mEnd_ge k y 0 12 1), rfl⟩
  | i + 1, hi => by
    obtain ⟨h1, h2, h3⟩ := nr_st k y i (by omega)
    have hr := mEnd_run k y (mSt k y (nr k y i).1) 12 (mSt k y (nr k y i).1 + 1) (by omega) (fun e1 a b => by omega)
    have hE : mEnd k y (mSt k y (nr k y i).1) 12 (mSt k y (nr k y i).1 + 1) = mSt k y ((nr k y i).1 + 1) := rfl
    rw [hE] at hr
    have hki : k (12 * y + i) = k (12 * y + mSt k y (nr k y i).1) := by
      by_cases e : i = mSt k y (nr k y i).1
      · rw [← e]
      · exact (hr.1 i (by omega) h2).2
    by_cases e : i + 1 < mSt k y ((nr k y i).1 + 1)
    · have h4 := hr.1 (i + 1) (by omega) e
      have hgo : k (12 * y + (i + 1)) = k (12 * y + i) ∧ (nr k y i).2 < 9 := ⟨by rw [h4.2, hki], by omega⟩
      rw [nr, if_pos hgo]
      exact ⟨by show mSt k y (nr k y i).1 ≤ i + 1; omega, e, by show (nr k y i).2 + 1 = i + 1 - mSt k y (nr k y i).1 + 1; omega⟩
    · have e2 : mSt k y ((nr k y i).1 + 1) = i + 1 := by omega
      have hno : ¬ (k (12 * y + (i + 1)) = k (12 * y + i) ∧ (nr k y i).2 < 9) := by
        rintro ⟨g1, g2⟩
        rcases hr.2 with g | g | g
        · omega
        · omega
        · rw [e2] at g
          exact g (by rw [g1, hki])
      rw [nr, if_neg hno]
      refine ⟨by show mSt k y ((nr k y i).1 + 1) ≤ i + 1; omega, ?_, by show 1 = i + 1 - mSt k y ((nr k y i).1 + 1) + 1; omega⟩
      have := mSt_step k y ((nr k y i).1 + 1)
      show i + 1 < mSt k y ((nr k y i).1 + 1 + 1)
      omega
theorem nr_iff (k : AF) (y : Nat) {i p : Nat} (hi : i < 12) : (nr k y i).1 = p ↔ mSt k y p ≤ i ∧ i < mSt k y (p + 1) := by
  obtain ⟨h1, h2, -⟩ := nr_st k y i hi
  constructor
  · rintro rfl
    exact ⟨h1, h2⟩
  · rintro ⟨g1, g2⟩
    have a1 : (nr k y i).1 ≤ p := by
      rcases Nat.lt_or_ge p (nr k y i).1 with h | h
      · have : mSt k y (p + 1) ≤ mSt k y (nr k y i).1 := by
          rcases Nat.lt_or_ge (p + 1) (nr k y i).1 with h5 | h5
          · exact Nat.le_of_lt (mSt_mono k y h5)
          · have : p + 1 = (nr k y i).1 := by omega
            rw [this]; exact Nat.le_refl _
        omega
      · exact h
    have a2 : p ≤ (nr k y i).1 := by
      rcases Nat.lt_or_ge (nr k y i).1 p with h | h
      · have : mSt k y ((nr k y i).1 + 1) ≤ mSt k y p := by
          rcases Nat.lt_or_ge ((nr k y i).1 + 1) p with h5 | h5
          · exact Nat.le_of_lt (mSt_mono k y h5)
          · have : (nr k y i).1 + 1 = p := by omega
            rw [this]; exact Nat.le_refl _
        omega
      · exact h
    omega
theorem mRuns_st (k : AF) (y J : Nat) (hJ : 12 ≤ mSt k y J) (hj : ∀ j, j < J → mSt k y j < 12) : ∀ n j, j ≤ J → J - j ≤ n → mRuns k y n (mSt k y j) j = J
  | 0, j, h1, h2 => by rw [mRuns]; omega
  | n + 1, j, h1, h2 => by
    rw [mRuns]
    by_cases e : j = J
    · subst e
      rw [if_neg (by omega)]
    · rw [if_pos (hj j (by omega))]
      exact mRuns_st k y J hJ hj n (j + 1) (by omega) (by omega)
theorem mRn_nr (k : AF) (y : Nat) : mRn k y = (nr k y 11).1 + 1 := by
  obtain ⟨h1, h2, -⟩ := nr_st k y 11 (by omega)
  have h3 := (nr_bd k y 11).1
  refine mRuns_st k y ((nr k y 11).1 + 1) (by omega) (fun j hj => ?_) 12 0 (by omega) (by omega)
  rcases Nat.lt_or_ge j (nr k y 11).1 with h | h
  · have := mSt_mono k y h; omega
  · have : j = (nr k y 11).1 := by omega
    subst this; omega
/-- a cloth of the class and one of the reference: the same colours; the runs' numbers -/
def KT (fw fr cl : AF) : Prop := (∀ j, j < 96 → fw j = cl j) ∧ ∀ y, y < 8 → ∀ x, x < 12 → fr (12 * y + x) = nI (nr cl y x).1
theorem rn_tie {fw fr cl : AF} (h : KT fw fr cl) {y : Nat} (hy : y < 8) : sRn fr (nI y) = nI (mRn cl y) := by
  unfold sRn
  show sGAt fr (nI 11) (nI y) + 1 = _
  rw [sGAt_nI (by omega) hy, h.2 y hy 11 (by omega), nI_1, mRn_nr]
theorem like_tie {fw fr cl : AF} (h : KT fw fr cl) {y : Nat} (hy : y < 8) : sAsAb fw (nI y) = mLike cl y := by
  unfold sAsAb mLike
  by_cases e : y = 0
  · subst e
    rw [if_neg (by decide), if_pos rfl]
  · have h0 : (0 : Int32) < nI y := nI_lt (a := 0) (by omega) (by omega)
    rw [if_pos h0, if_neg e]
    refine pIf_iff ⟨fun g x hx => ?_, fun g x hx => ?_⟩
    · have := g x hx
      rw [show nI y - 1 = nI (y - 1) from by have := nI_pred (y - 1); rw [show y - 1 + 1 = y by omega] at this; exact this, sGAt_nI hx hy, sGAt_nI hx (by omega), h.1 _ (by omega), h.1 _ (by omega)] at this
      exact this
    · rw [show nI y - 1 = nI (y - 1) from by have := nI_pred (y - 1); rw [show y - 1 + 1 = y by omega] at this; exact this, sGAt_nI hx hy, sGAt_nI hx (by omega), h.1 _ (by omega), h.1 _ (by omega)]
      exact g x hx
theorem kn_tie {fw fr cl : AF} (h : KT fw fr cl) (pre : Int32) {y : Nat} (hy : y < 8) : sKn fw fr (nI y) pre = mKn cl pre y := by
  unfold sKn mKn
  rw [rn_tie h hy, like_tie h hy]
theorem ak_tie {fw fr cl : AF} (h : KT fw fr cl) (pre : Int32) : ∀ y, y ≤ 8 → sAK fw fr pre y = mAK cl pre y
  | 0, _ => rfl
  | y + 1, hy => by rw [sAK, mAK, ak_tie h pre y (by omega), kn_tie h pre (by omega)]
theorem coR_tie {fw fr cl : AF} (h : KT fw fr cl) {y p : Nat} (hy : y < 8) (hp : p < mRn cl y) : ∀ n i, i + n = 12 → i ≤ mSt cl y p → sCoR fr fw (nI y) (nI p) n i = cl (12 * y + mSt cl y p)
  | 0, i, h1, h2 => by have := mSt_lt cl y hp; omega
  | n + 1, i, h1, h2 => by
    have hp12 := mRn_12 cl y
    have hb := (nr_bd cl y i).1
    have hlt := mSt_lt cl y hp
    rw [sCoR, sGAt_nI (by omega) hy, h.2 y hy i (by omega)]
    by_cases e : i = mSt cl y p
    · have e1 : (nr cl y i).1 = p := (nr_iff cl y (by omega)).mpr ⟨by omega, by rw [e]; exact mSt_step cl y p⟩
      rw [if_neg (fun z => z (by rw [e1])), sGAt_nI (by omega) hy, h.1 _ (by omega), e]
    · have e1 : ¬ (nr cl y i).1 = p := fun z => by have := (nr_iff cl y (by omega)).mp z; omega
      rw [if_pos (fun z => e1 ((nI_eq (by omega) (by omega)).mp z))]
      exact coR_tie h hy hp n (i + 1) (by omega) (by omega)
theorem loR_tie {fw fr cl : AF} (h : KT fw fr cl) {y p : Nat} (hy : y < 8) (hp : p < mRn cl y) : ∀ n, n ≤ 12 → sLoR fr (nI y) (nI p) n = nI (min n (mSt cl y (p + 1)) - min n (mSt cl y p))
  | 0, _ => by
    rw [sLoR, Nat.zero_min, Nat.zero_min]
    rfl
  | n + 1, hn => by
    have hp12 := mRn_12 cl y
    have hb := (nr_bd cl y n).1
    have hst := mSt_step cl y p
    rw [sLoR, sGAt_nI (by omega) hy, h.2 y hy n (by omega), loR_tie h hy hp n (by omega)]
    have hi := nr_iff cl y (i := n) (p := p) (by omega)
    by_cases e : (nr cl y n).1 = p
    · obtain ⟨g1, g2⟩ := hi.mp e
      rw [if_neg (fun z => z (by rw [e])), nI_1]
      congr 1
      omega
    · rw [if_pos (fun z => e ((nI_eq (by omega) (by omega)).mp z))]
      have g : ¬ (mSt cl y p ≤ n ∧ n < mSt cl y (p + 1)) := fun z => e (hi.mpr z)
      congr 1
      omega
theorem run_tie {fw fr cl : AF} (h : KT fw fr cl) {y p : Nat} (hy : y < 8) (hp : p < mRn cl y) (w : Int32) : sRun fr fw (nI y) (nI p) w = mTold cl y p w := by
  have hlt := mSt_lt cl y hp
  have hb := (mEndOf_bd cl y hlt).2
  have hst := mSt_step cl y p
  have hE : mSt cl y (p + 1) = mEndOf cl y (mSt cl y p) := rfl
  unfold sRun mTold
  by_cases e : w = 0
  · rw [if_neg (fun z => z e), if_neg (fun z => z e)]
    exact coR_tie h hy hp 12 0 rfl (by omega)
  · rw [if_pos e, if_pos e, loR_tie h hy hp 12 (Nat.le_refl _), pk_sub (by omega)]
    congr 1
    omega
end MTHC
