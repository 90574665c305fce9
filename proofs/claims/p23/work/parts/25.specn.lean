/-! what the reference's public methods answer -/
section SPECN
def mRowF (f : AF) (y : Nat) (a b : Int32) : Nat → AF
  | 0 => f
  | x + 1 => upd (mRowF f y a b x) (12 * y + x) (sMax 0 (sMin 255 (a + b * nI x)))
def mLk (f : AF) (y o : Nat) : Nat → AF × Int32
  | 0 => (f, 0)
  | x + 1 => (upd (mLk f y o x).1 (12 * y + x) ((mLk f y o x).1 (12 * o + x)), (mLk f y o x).2 + if ¬ (mLk f y o x).1 (12 * y + x) = (mLk f y o x).1 (12 * o + x) then 1 else 0)
def mTk (k th : AF) : Nat → AF
  | 0 => th
  | c + 1 => upd (mTk k th c) c (mTk k th c c - mCo k (nI c) 96)
def mSt (k : AF) (y : Nat) : Nat → Nat
  | 0 => 0
  | j + 1 => mEndOf k y (mSt k y j)
theorem mSt_lt0 (k : AF) (y : Nat) : ∀ n j0, ∀ r, mRuns k y n (mSt k y j0) j0 = r → ∀ j, j0 ≤ j → j < r → mSt k y j < 12
  | 0, j0, r, h, j, h1, h2 => by rw [mRuns] at h; omega
  | n + 1, j0, r, h, j, h1, h2 => by
    rw [mRuns] at h
    by_cases e : mSt k y j0 < 12
    · rw [if_pos e] at h
      by_cases e2 : j = j0
      · subst e2; exact e
      · exact mSt_lt0 k y n (j0 + 1) r h j (by omega) h2
    · rw [if_neg e] at h; omega
theorem mSt_lt (k : AF) (y : Nat) {j : Nat} (h : j < mRn k y) : mSt k y j < 12 := mSt_lt0 k y 12 0 _ rfl j (Nat.zero_le _) h
theorem mRn_1 (k : AF) (y : Nat) : 1 ≤ mRn k y := by
  have : ∀ n x c, c ≤ mRuns k y n x c := by
    intro n
    induction n with
    | zero => intro x c; exact Nat.le_refl _
    | succ n ih =>
      intro x c
      rw [mRuns]
      split
      · exact Nat.le_trans (Nat.le_succ c) (ih _ _)
      · exact Nat.le_refl _
  show 1 ≤ mRuns k y (11 + 1) 0 0
  rw [mRuns, if_pos (by omega)]
  exact this 11 _ 1
theorem mRn_12 (k : AF) (y : Nat) : mRn k y ≤ 12 := by
  have : ∀ n x c, mRuns k y n x c ≤ c + n := by
    intro n
    induction n with
    | zero => intro x c; exact Nat.le_refl _
    | succ n ih =>
      intro x c
      rw [mRuns]
      split
      · have := ih (mEndOf k y x) (c + 1); omega
      · omega
  have := this 12 0 0
  unfold mRn
  omega
def mTold (k : AF) (y p : Nat) (w : Int32) : Int32 := if ¬ w = 0 then nI (mEndOf k y (mSt k y p)) - nI (mSt k y p) else k (12 * y + mSt k y p)
def mThr (th kk kp : AF) (km wov : Int32) (c : Nat) (w : Int32) : Int32 := if ¬ w = 0 then (if ¬ w = 1 then (if km ≤ nI c then (-1) else kp c) else (if wov ≤ 0 then 0 else mCo kk (nI c) 96)) else th c
def mHold (th : AF) : Nat → Int32
  | 0 => 0
  | i + 1 => mHold th i + th i
noncomputable def mCnt (col car tur pre wov ko : Int32) (th kk : AF) : Nat → Int32
  | 0 => col
  | 1 => car
  | 2 => if tur = 0 then 0 else 1
  | 3 => if pre = 0 then 0 else 1
  | 4 => wov
  | 5 => mHold th 6
  | 6 => ko
  | _ => if wov ≤ 0 then 0 else mAK kk pre 8
noncomputable def mWould (q : Nat) (off : Int32) (cl : AF) (pre w : Int32) : Int32 := if ¬ w = 0 then (if ¬ w = 1 then mAK cl pre 8 else off) else nI q
/-- so, many, pa, cl, off, here, below -/
abbrev WS : Type := AF × Int32 × AF × AF × Int32 × AF × AF
def mOn (f : AF) (m : Nat) (car tur : Int32) (s : WS) : WS :=
  (mSrt f s.1, nI (mFit f s.1 m).2, mPal f s.1 s.2.2.1 m, (mWeave f m car tur s.1 s.2.2.1 s.2.2.2.1 s.2.2.2.2.2.1 s.2.2.2.2.2.2).1, (mWeave f m car tur s.1 s.2.2.1 s.2.2.2.1 s.2.2.2.2.2.1 s.2.2.2.2.2.2).2.1, (mWeave f m car tur s.1 s.2.2.1 s.2.2.2.1 s.2.2.2.2.2.1 s.2.2.2.2.2.2).2.2.1, (mWeave f m car tur s.1 s.2.2.1 s.2.2.2.1 s.2.2.2.2.2.1 s.2.2.2.2.2.2).2.2.2)
abbrev wsCl (s : WS) : AF := s.2.2.2.1
abbrev wsOff (s : WS) : Int32 := s.2.2.2.2.1
noncomputable def mAdS (f : AF) (car tur pre kn : Int32) (i : Nat) (a : Int32 × Int32 × WS) : Int32 × Int32 × WS :=
  if kn < mAK (wsCl (mOn f (i + 2) car tur a.2.2)) pre 8 then (a.1, a.2.1, mOn f (i + 2) car tur a.2.2)
  else if a.1 = (-1) then (nI (i + 2), wsOff (mOn f (i + 2) car tur a.2.2), mOn f (i + 2) car tur a.2.2)
  else if wsOff (mOn f (i + 2) car tur a.2.2) < a.2.1 then (nI (i + 2), wsOff (mOn f (i + 2) car tur a.2.2), mOn f (i + 2) car tur a.2.2)
  else (a.1, a.2.1, mOn f (i + 2) car tur a.2.2)
noncomputable def mAdv (f : AF) (car tur pre kn : Int32) (s : WS) : Nat → Int32 × Int32 × WS
  | 0 => ((-1), 0, s)
  | i + 1 => mAdS f car tur pre kn i (mAdv f car tur pre kn s i)
def mDgF (f : AF) (d : Int64) : Nat → Int64
  | 0 => d
  | i + 1 => mDgF f d i * 31 + (f i).toInt64
def mDg8 (cnt : Nat → Int32) : Nat → Int64
  | 0 => 1549
  | i + 1 => mDg8 cnt i * 31 + (cnt i).toInt64
def mDgT (cnt : Nat → Int32) (f th kp kk : AF) (kq : Nat) (wov : Int32) : Int64 := if wov ≤ 0 then mDgF kp (mDgF th (mDgF f (mDg8 cnt 8) 96) 6) kq else mDgF kk (mDgF kp (mDgF th (mDgF f (mDg8 cnt 8) 96) 6) kq) 96
def mSumF (f : AF) : Nat → Int32
  | 0 => 0
  | i + 1 => mSumF f i + f i
end SPECN
