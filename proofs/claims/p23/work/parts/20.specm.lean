/-! what the reference's methods answer -/
section SPECM
def mIn (v lo hi : Int32) : Int32 := if v < lo then 0 else if hi < v then 0 else 1
theorem mIn_1 {v lo hi : Int32} (h1 : ¬ v < lo) (h2 : ¬ hi < v) : mIn v lo hi = 1 := by simp [mIn, h1, h2]
theorem mIn_nI {k n : Nat} (h : k ≤ n) (hn : n < 2147483648) : mIn (nI k) 0 (nI n) = 1 := mIn_1 (nI_pos (show k < 2 ^ 31 by omega)) (nI_nlt h hn)
theorem mIn_vp {v : Int32} {n : Nat} (h : ¬ mIn v 0 (nI n) = 0) (hn : n + 1 < 2147483648) : vp_in v (n + 1) := by
  have h1 : ¬ v < 0 := fun q => h (by simp [mIn, q])
  have h2 : ¬ nI n < v := fun q => h (by simp [mIn, h1, q])
  obtain ⟨j, hj, rfl⟩ := nI_of h1
  have h3 : j ≤ n := by
    rcases Nat.lt_or_ge n j with z | z
    · exact absurd ((nI_ltI (show n < 2 ^ 31 by omega) hj).mpr z) h2
    · exact z
  exact vp_in_nI (by omega) (show n + 1 < 2 ^ 31 by omega)
def mSoX (f : AF) (s : Nat) (a : AF × Nat) : Nat → AF × Nat
  | 0 => a
  | i + 1 => if f i = nI s then (upd (mSoX f s a i).1 (mSoX f s a i).2 (nI s), (mSoX f s a i).2 + 1) else mSoX f s a i
def mSoS (f so : AF) : Nat → AF × Nat
  | 0 => (so, 0)
  | s + 1 => mSoX f s (mSoS f so s) 96
/-- how many of the first n hold p -/
def cntP (p : Nat → Bool) : Nat → Nat
  | 0 => 0
  | i + 1 => cntP p i + if p i = true then 1 else 0
theorem cntP_le (p : Nat → Bool) : ∀ n, cntP p n ≤ n
  | 0 => Nat.le_refl 0
  | n + 1 => by
    have := cntP_le p n
    rw [cntP]; split <;> omega
theorem cntP_lt {p : Nat → Bool} {i : Nat} (hp : p i = false) : ∀ n, i < n → cntP p n < n
  | 0, h => absurd h (Nat.not_lt_zero _)
  | n + 1, h => by
    rw [cntP]
    by_cases e : i = n
    · subst e
      have := cntP_le p i
      rw [hp]; simp; omega
    · have := cntP_lt hp n (by omega)
      split <;> omega
theorem cntP_or {p q : Nat → Bool} (h : ∀ j, ¬ (p j = true ∧ q j = true)) : ∀ n, cntP (fun j => p j || q j) n = cntP p n + cntP q n
  | 0 => rfl
  | n + 1 => by
    rw [cntP, cntP, cntP, cntP_or h n]
    have := h n
    cases hp : p n <;> cases hq : q n <;> simp_all <;> omega
theorem cntP_congr {p q : Nat → Bool} : ∀ n, (∀ j, j < n → p j = q j) → cntP p n = cntP q n
  | 0, _ => rfl
  | n + 1, h => by rw [cntP, cntP, cntP_congr n (fun j hj => h j (by omega)), h n (by omega)]
def isS (f : AF) (s : Nat) : Nat → Bool := fun j => decide (f j = nI s)
theorem mSoX_2 (f : AF) (s : Nat) (a : AF × Nat) : ∀ i, (mSoX f s a i).2 = a.2 + cntP (isS f s) i
  | 0 => rfl
  | i + 1 => by
    have ih := mSoX_2 f s a i
    rw [mSoX, cntP]
    by_cases h : f i = nI s
    · rw [if_pos h, if_pos (by simp [isS, h])]
      show (mSoX f s a i).2 + 1 = _
      rw [ih]; omega
    · rw [if_neg h, if_neg (by simp [isS, h]), ih]; omega
/-- those that hold one of the first s shades -/
def inS (f : AF) : Nat → Nat → Bool
  | 0 => fun _ => false
  | s + 1 => fun j => inS f s j || isS f s j
theorem inS_not (f : AF) {s j : Nat} (hs : s < 2147483648) (hj : f j = nI s) : ∀ t, t ≤ s → inS f t j = false
  | 0, _ => rfl
  | t + 1, h => by
    have h1 := inS_not f hs hj t (by omega)
    have h2 : isS f t j = false := by
      simp only [isS, hj, decide_eq_false_iff_not]
      intro e
      have := (nI_eq (show s < 2 ^ 31 by omega) (show t < 2 ^ 31 by omega)).mp e
      omega
    simp [inS, h1, h2]
theorem mSoS_2 (f so : AF) : ∀ s, s < 2147483648 → (mSoS f so s).2 = cntP (inS f s) 96
  | 0, _ => by
    show 0 = _
    have : ∀ n, cntP (inS f 0) n = 0 := fun n => by
      induction n with
      | zero => rfl
      | succ n ih => rw [cntP, ih]; rfl
    rw [this]
  | s + 1, h => by
    rw [mSoS, mSoX_2, mSoS_2 f so s (by omega)]
    show _ = cntP (fun j => inS f s j || isS f s j) 96
    rw [cntP_or]
    rintro j ⟨h1, h2⟩
    have h3 : f j = nI s := by simpa [isS] using h2
    rw [inS_not f (by omega) h3 s (Nat.le_refl s)] at h1
    cases h1
theorem mSo_lt (f so : AF) {s i : Nat} (hs : s < 256) (hi : i < 96) (h : f i = nI s) : (mSoX f s (mSoS f so s) i).2 < 96 := by
  rw [mSoX_2, mSoS_2 f so s (by omega)]
  have e : cntP (isS f s) i = cntP (fun j => decide (j < i) && isS f s j) i := cntP_congr i (fun j hj => by simp [hj])
  have mono : ∀ n m, n ≤ m → cntP (fun j => decide (j < i) && isS f s j) n ≤ cntP (fun j => decide (j < i) && isS f s j) m := by
    intro n m hnm
    induction m with
    | zero => rw [show n = 0 by omega]; exact Nat.le_refl _
    | succ m ih =>
      by_cases z : n = m + 1
      · subst z; exact Nat.le_refl _
      · rw [cntP]; have := ih (by omega); omega
  have h1 := mono i 96 (by omega)
  have h2 : cntP (fun j => inS f s j || (decide (j < i) && isS f s j)) 96 < 96 := cntP_lt (i := i) (by simp [inS_not f (by omega) h s (Nat.le_refl s)]) 96 hi
  rw [cntP_or] at h2
  · omega
  · rintro j ⟨h3, h4⟩
    have h5 : f j = nI s := by
      have : isS f s j = true := by simp at h4; exact h4.2
      simpa [isS] using this
    rw [inS_not f (by omega) h5 s (Nat.le_refl s)] at h3
    cases h3
def aSpr (so : AF) (e : Nat → Nat) (k : Nat) : Int32 := so (e (k + 1) - 1) - so (e k)
def aWid (so : AF) (e : Nat → Nat) : Nat → Nat
  | 0 => 0
  | i + 1 => if aSpr so e (i + 1) ≤ aSpr so e (aWid so e i) then aWid so e i else i + 1
theorem aWid_le (so : AF) (e : Nat → Nat) : ∀ i, aWid so e i ≤ i
  | 0 => Nat.le_refl 0
  | i + 1 => by
    have h := aWid_le so e i
    rw [aWid]
    split
    · omega
    · omega
def aSpl (e : Nat → Nat) (k : Nat) : Nat → Nat := fun j => if j ≤ k then e j else if j = k + 1 then e k + (e (k + 1) - e k) / 2 else e (j - 1)
def aFit (so : AF) : Nat → Nat → (Nat → Nat) → (Nat → Nat) × Nat
  | 0, q, e => (e, q)
  | n + 1, q, e => if ¬ aSpr so e (aWid so e (q - 1)) = 0 then aFit so n (q + 1) (aSpl e (aWid so e (q - 1))) else (e, q)
def aE0 : Nat → Nat := fun j => if j = 0 then 0 else 96
def PA (e : Nat → Nat) (q : Nat) : Prop := 1 ≤ q ∧ e 0 = 0 ∧ e q = 96 ∧ ∀ k, k < q → e k < e (k + 1)
theorem PA_0 : PA aE0 1 := by
  refine ⟨by omega, rfl, rfl, fun k hk => ?_⟩
  have hz : k = 0 := by omega
  rw [hz]
  decide
theorem PA.mono {e : Nat → Nat} {q : Nat} (h : PA e q) {a b : Nat} (hab : a < b) (hb : b ≤ q) : e a < e b := by
  induction b with
  | zero => omega
  | succ b ih =>
    by_cases z : a = b
    · subst z; exact h.2.2.2 a (by omega)
    · exact Nat.lt_trans (ih (by omega) (by omega)) (h.2.2.2 b (by omega))
theorem PA.le {e : Nat → Nat} {q : Nat} (h : PA e q) {a : Nat} (ha : a ≤ q) : e a ≤ 96 := by
  by_cases z : a = q
  · subst z; exact Nat.le_of_eq h.2.2.1
  · have := h.mono (a := a) (b := q) (by omega) (Nat.le_refl _)
    rw [h.2.2.1] at this
    omega
theorem PA_two {so : AF} {e : Nat → Nat} {q k : Nat} (h : PA e q) (hk : k < q) (hs : ¬ aSpr so e k = 0) : 2 ≤ e (k + 1) - e k := by
  have h1 := h.2.2.2 k hk
  rcases Nat.lt_or_ge (e (k + 1) - e k) 2 with hc | hc
  · exfalso
    apply hs
    unfold aSpr
    rw [show e (k + 1) - 1 = e k by omega]
    simp
  · exact hc
theorem PA_spl {e : Nat → Nat} {q k : Nat} (h : PA e q) (hk : k < q) (h2 : 2 ≤ e (k + 1) - e k) : PA (aSpl e k) (q + 1) := by
  refine ⟨by omega, ?_, ?_, fun j hj => ?_⟩
  · simp only [aSpl, Nat.zero_le, if_true]; exact h.2.1
  · simp only [aSpl]
    rw [if_neg (by omega)]
    by_cases z : q = k
    · omega
    · rw [if_neg (by omega)]; exact h.2.2.1
  · simp only [aSpl]
    by_cases e1 : j + 1 ≤ k
    · rw [if_pos (by omega), if_pos e1]; exact h.2.2.2 j (by omega)
    · by_cases e2 : j = k
      · subst e2
        rw [if_pos (by omega), if_neg e1, if_pos rfl]; omega
      · rw [if_neg (by omega), if_neg e1]
        by_cases e3 : j = k + 1
        · subst e3
          rw [if_pos rfl, if_neg (by omega)]
          show _ < e (k + 1)
          omega
        · rw [if_neg e3, if_neg (by omega)]
          have := h.2.2.2 (j - 1) (by omega)
          rw [show j - 1 + 1 = j + 1 - 1 by omega] at this
          exact this
def aSum (so : AF) (s : Nat) : Nat → Int32
  | 0 => 0
  | i + 1 => aSum so s i + so (s + i)
def aMean (so : AF) (e : Nat → Nat) (k : Nat) : Int32 := aSum so (e k) (e (k + 1) - e k) / nI (e (k + 1) - e k)
def aPal (so : AF) (e : Nat → Nat) (pa : AF) : Nat → AF
  | 0 => pa
  | k + 1 => upd (aPal so e pa k) k (aMean so e k)
def mSrt (f so : AF) : AF := (mSoS f so 256).1
def mFit (f so : AF) (m : Nat) : (Nat → Nat) × Nat := aFit (mSrt f so) (m - 1) 1 aE0
def mPal (f so pa : AF) (m : Nat) : AF := aPal (mSrt f so) (mFit f so m).1 pa (mFit f so m).2
theorem aFit_q (so : AF) : ∀ (n q : Nat) (e : Nat → Nat), q ≤ (aFit so n q e).2 ∧ (aFit so n q e).2 ≤ q + n
  | 0, q, e => ⟨Nat.le_refl _, Nat.le_refl _⟩
  | n + 1, q, e => by
    rw [aFit]
    split
    · have := aFit_q so n (q + 1) (aSpl e (aWid so e (q - 1)))
      omega
    · exact ⟨Nat.le_refl _, by omega⟩
theorem mFit_1 (f so : AF) (m : Nat) : 1 ≤ (mFit f so m).2 := (aFit_q _ _ _ _).1
theorem mFit_m (f so : AF) {m : Nat} (h : 1 ≤ m) : (mFit f so m).2 ≤ m := by
  have := (aFit_q (mSrt f so) (m - 1) 1 aE0).2
  unfold mFit
  omega
def mNear (pa : AF) (w : Int32) : Nat → Nat
  | 0 => 0
  | i + 1 => if sAbs (w - pa (mNear pa w i)) ≤ sAbs (w - pa (i + 1)) then mNear pa w i else i + 1
theorem mNear_le (pa : AF) (w : Int32) : ∀ i, mNear pa w i ≤ i
  | 0 => Nat.le_refl 0
  | i + 1 => by
    have h := mNear_le pa w i
    rw [mNear]
    split
    · omega
    · omega
def mAdd (r : AF) (x er : Int32) : AF := if mIn x 0 11 = 0 then r else upd r x.toNatClampNeg (r x.toNatClampNeg + er)
def mCar (he be : AF) (x b er car : Int32) : AF × AF :=
  if ¬ car = 0 then
    (if ¬ car = 1 then (mAdd he (x + b) (er * 7 / 16), mAdd (mAdd (mAdd be (x - b) (er * 3 / 16)) x (er * 5 / 16)) (x + b) (er - er * 7 / 16 - er * 3 / 16 - er * 5 / 16))
     else (mAdd he (x + b) er, be))
  else (he, be)
def rX (back : Int32) (i : Nat) : Nat := if back = 0 then i else 11 - i
theorem rX_lt (back : Int32) {i : Nat} (h : i < 12) : rX back i < 12 := by
  unfold rX; split <;> omega
def mBk (tur : Int32) (y : Nat) : Int32 := if tur = 0 then 0 else if ¬ nI (y % 2) = 1 then 0 else 1
def mAh (back : Int32) : Int32 := if back = 0 then 1 else (-1)
/-- cloth, off, here, below -/
abbrev MS : Type := AF × Int32 × AF × AF
def mCell1 (pa : AF) (q : Nat) (f : AF) (car back : Int32) (y : Nat) (s : MS) (x : Nat) : MS :=
  (upd s.1 (12 * y + x) (nI (mNear pa (f (12 * y + x) + s.2.2.1 x) (q - 1))),
   s.2.1 + sAbs (pa (mNear pa (f (12 * y + x) + s.2.2.1 x) (q - 1)) - f (12 * y + x)),
   (mCar s.2.2.1 s.2.2.2 (nI x) (mAh back) (f (12 * y + x) + s.2.2.1 x - pa (mNear pa (f (12 * y + x) + s.2.2.1 x) (q - 1))) car).1,
   (mCar s.2.2.1 s.2.2.2 (nI x) (mAh back) (f (12 * y + x) + s.2.2.1 x - pa (mNear pa (f (12 * y + x) + s.2.2.1 x) (q - 1))) car).2)
def mRow (pa : AF) (q : Nat) (f : AF) (car back : Int32) (y : Nat) (s : MS) : Nat → MS
  | 0 => s
  | i + 1 => mCell1 pa q f car back y (mRow pa q f car back y s i) (rX back i)
def mZer (be : AF) : Nat → AF
  | 0 => be
  | i + 1 => upd (mZer be i) i 0
def mHB (a : AF × AF) : Nat → AF × AF
  | 0 => a
  | x + 1 => (upd (mHB a x).1 x ((mHB a x).2 x), upd (mHB a x).2 x 0)
def mNew (s : MS) : MS := (s.1, s.2.1, (mHB (s.2.2.1, s.2.2.2) 12).1, (mHB (s.2.2.1, s.2.2.2) 12).2)
def mWv (pa : AF) (q : Nat) (f : AF) (car tur : Int32) (s : MS) : Nat → MS
  | 0 => s
  | y + 1 => mRow pa q f car (mBk tur y) y (mNew (mWv pa q f car tur s y)) 12
def mWeave (f : AF) (m : Nat) (car tur : Int32) (so pa cl he be : AF) : MS := mWv (mPal f so pa m) (mFit f so m).2 f car tur (cl, 0, he, mZer be 12) 8
noncomputable def mLike (k : AF) (y : Nat) : Int32 := if y = 0 then 0 else pIf (∀ x, x < 12 → k (12 * y + x) = k (12 * (y - 1) + x))
/-- the end of the run at x: n steps at most -/
def mEnd (k : AF) (y x : Nat) : Nat → Nat → Nat
  | 0, e => e
  | n + 1, e => if e < 12 then (if e - x < 9 then (if k (12 * y + e) = k (12 * y + x) then mEnd k y x n (e + 1) else e) else e) else e
def mEndOf (k : AF) (y x : Nat) : Nat := mEnd k y x 12 (x + 1)
theorem mEnd_bd (k : AF) (y x : Nat) : ∀ n e, e ≤ 12 → e ≤ mEnd k y x n e ∧ mEnd k y x n e ≤ 12
  | 0, e, h => ⟨Nat.le_refl _, h⟩
  | n + 1, e, h => by
    have ih := mEnd_bd k y x n (e + 1)
    rw [mEnd]
    split
    · split
      · split
        · have := ih (by omega); omega
        · omega
      · omega
    · omega
theorem mEndOf_bd (k : AF) (y : Nat) {x : Nat} (h : x < 12) : x + 1 ≤ mEndOf k y x ∧ mEndOf k y x ≤ 12 := mEnd_bd k y x 12 (x + 1) (by omega)
def mRuns (k : AF) (y : Nat) : Nat → Nat → Nat → Nat
  | 0, _, c => c
  | n + 1, x, c => if x < 12 then mRuns k y n (mEndOf k y x) (c + 1) else c
def mRn (k : AF) (y : Nat) : Nat := mRuns k y 12 0 0
noncomputable def mKn (k : AF) (pre : Int32) (y : Nat) : Int32 := if pre = 0 then nI (mRn k y) else if mLike k y = 0 then nI (mRn k y) else 1
noncomputable def mAK (k : AF) (pre : Int32) : Nat → Int32
  | 0 => 0
  | y + 1 => mAK k pre y + mKn k pre y
def mCo (k : AF) (c : Int32) : Nat → Int32
  | 0 => 0
  | i + 1 => mCo k c i + if ¬ k i = c then 0 else 1
end SPECM
