/-! what the methods of Palette answer, and the pieces of the sorted row -/
section SPECB
def sShade (sh : AF) (bx c : Int32) : Int32 := if c < 0 then (-1) else if bx ≤ c then (-1) else sAt 6 sh c
def sDist (sh : AF) (bx c w : Int32) : Int32 := sAbs (w - sShade sh bx c)
def sNear (sh : AF) (bx w : Int32) : Nat → Int32 × Int32
  | 0 => (0, sDist sh bx 0 w)
  | i + 1 => if (sNear sh bx w i).2 ≤ sDist sh bx (nI (i + 1)) w then sNear sh bx w i else (nI (i + 1), sDist sh bx (nI (i + 1)) w)
def sTalX (f : AF) (y : Nat) (t : AF) : Nat → AF
  | 0 => t
  | x + 1 => sPut 256 (sTalX f y t x) (sGAt f (nI x) (nI y)) (sAt 256 (sTalX f y t x) (sGAt f (nI x) (nI y)) + 1)
def sTalY (f t : AF) : Nat → AF
  | 0 => t
  | y + 1 => sTalX f y (sTalY f t y) 12
def sTally (f t : AF) : AF := sTalY f (sFill 0 t 256) 8
def sSoN (s : Nat) (a : AF × Nat) : Nat → AF × Nat
  | 0 => a
  | k + 1 => (sPut 96 (sSoN s a k).1 (nI (sSoN s a k).2) (nI s), (sSoN s a k).2 + 1)
def sSoS (cn : Nat → Nat) (so : AF) : Nat → AF × Nat
  | 0 => (so, 0)
  | s + 1 => sSoN s (sSoS cn so s) (cn s)
def sSt (st : AF) (c : Int32) : Int32 := sAt 6 st c
def sEn (st : AF) (bx c : Int32) : Int32 := if bx ≤ c + 1 then 96 else sAt 6 st (c + 1)
def sSpr (so st : AF) (bx c : Int32) : Int32 := sAt 96 so (sEn st bx c - 1) - sAt 96 so (sSt st c)
def sWid (so st : AF) (bx : Int32) : Nat → Nat
  | 0 => 0
  | i + 1 => if sSpr so st bx (nI (i + 1)) ≤ sSpr so st bx (nI (sWid so st bx i)) then sWid so st bx i else i + 1
theorem sWid_le (so st : AF) (bx : Int32) : ∀ i, sWid so st bx i ≤ i
  | 0 => Nat.le_refl 0
  | i + 1 => by
    have h := sWid_le so st bx i
    rw [sWid]
    split
    · omega
    · omega
def sShift (st : AF) (b : Nat) : Nat → AF
  | 0 => st
  | t + 1 => sPut 6 (sShift st b t) (nI (b - t)) (sAt 6 (sShift st b t) (nI (b - t) - 1))
def sMid (st : AF) (b k : Nat) : Int32 := sSt st (nI k) + (sEn st (nI b) (nI k) - sSt st (nI k)) / 2
def sSplit (st : AF) (b k : Nat) : AF := sPut 6 (sShift st b (b - k - 1)) (nI k + 1) (sMid st b k)
def sSum (so : AF) (s : Nat) : Nat → Int32
  | 0 => 0
  | i + 1 => sSum so s i + sAt 96 so (nI (s + i))
def sFit (so : AF) : Nat → Nat → AF → AF × Nat
  | 0, q, st => (st, q)
  | n + 1, q, st => if ¬ sSpr so st (nI q) (nI (sWid so st (nI q) (q - 1))) = 0 then sFit so n (q + 1) (sSplit st q (sWid so st (nI q) (q - 1))) else (st, q)
/-- the pieces' ends, as numbers -/
def sE (st : AF) (q k : Nat) : Nat := if k < q then (sAt 6 st (nI k)).toNatClampNeg else 96
def sMns (so st : AF) (q : Nat) (sh : AF) : Nat → AF
  | 0 => sh
  | k + 1 => sPut 6 (sMns so st q sh k) (nI k) (sSum so (sE st q k) (sE st q (k + 1) - sE st q k) / nI (sE st q (k + 1) - sE st q k))
/-- q pieces, none empty, from 0 to 96 -/
def PT (st : AF) (q : Nat) : Prop := 1 ≤ q ∧ q ≤ 6 ∧ sE st q 0 = 0 ∧ (∀ k, k < q → sE st q k < sE st q (k + 1)) ∧ ∀ k, k < q → sAt 6 st (nI k) = nI (sE st q k)
theorem sAt_nI {n : Nat} {f : AF} {k : Nat} (h : k < n) (hn : n < 2147483648) : sAt n f (nI k) = f k := by
  have h0 : ¬ nI k < 0 := nI_pos (by omega)
  have h1 : ¬ nI n ≤ nI k := nle_nI h hn
  simp only [sAt, h0, h1, if_false]
  rw [cl_nI (by omega)]
theorem sAt_out {n : Nat} {f : AF} {k : Nat} (h : n ≤ k) (hk : k < 2147483648) : sAt n f (nI k) = 0 := by
  have h0 : ¬ nI k < 0 := nI_pos hk
  have h1 : nI n ≤ nI k := le_nI h hk
  simp only [sAt, h0, h1, if_false, if_true]
theorem sPut_nI {n : Nat} {f : AF} {k : Nat} {x : Int32} (h : k < n) (hn : n < 2147483648) : sPut n f (nI k) x = upd f k x := by
  have h0 : ¬ nI k < 0 := nI_pos (by omega)
  have h1 : ¬ nI n ≤ nI k := nle_nI h hn
  simp only [sPut, h0, h1, if_false]
  rw [cl_nI (by omega)]
theorem sPut_out {n : Nat} {f : AF} {k : Nat} {x : Int32} (h : n ≤ k) (hk : k < 2147483648) : sPut n f (nI k) x = f := by
  have h0 : ¬ nI k < 0 := nI_pos hk
  have h1 : nI n ≤ nI k := le_nI h hk
  simp only [sPut, h0, h1, if_false, if_true]
theorem PT.mono {st : AF} {q : Nat} (h : PT st q) {a b : Nat} (hab : a < b) (hb : b ≤ q) : sE st q a < sE st q b := by
  obtain ⟨-, -, -, h4, -⟩ := h
  induction b with
  | zero => omega
  | succ b ih =>
    by_cases e : a = b
    · subst e; exact h4 a (by omega)
    · exact Nat.lt_trans (ih (by omega) (by omega)) (h4 b (by omega))
theorem PT.top {st : AF} {q : Nat} : sE st q q = 96 := by simp [sE]
theorem PT.le {st : AF} {q : Nat} (h : PT st q) {a : Nat} (ha : a ≤ q) : sE st q a ≤ 96 := by
  by_cases e : a = q
  · subst e; rw [PT.top]; exact Nat.le_refl _
  · have := h.mono (a := a) (b := q) (by omega) (Nat.le_refl _)
    rw [PT.top] at this
    omega
theorem PT.st {st : AF} {q k : Nat} (h : PT st q) (hk : k < q) : sSt st (nI k) = nI (sE st q k) := h.2.2.2.2 k hk
theorem PT.en {st : AF} {q k : Nat} (h : PT st q) (hk : k < q) : sEn st (nI q) (nI k) = nI (sE st q (k + 1)) := by
  have hq := h.2.1
  unfold sEn
  rw [nI_1]
  by_cases e : k + 1 < q
  · rw [if_neg (nle_nI e (by omega))]
    exact h.2.2.2.2 (k + 1) e
  · rw [if_pos (le_nI (by omega) (by omega))]
    have : k + 1 = q := by omega
    rw [this, PT.top]
    rfl
theorem sShift_at (st : AF) (b : Nat) (hb : b ≤ 5) : ∀ t, t ≤ b → ∀ j, j < 6 → sShift st b t j = if b - t < j ∧ j ≤ b then st (j - 1) else st j
  | 0, _, j, _ => by rw [sShift, if_neg (by omega)]
  | t + 1, ht, j, hj => by
    have ih := sShift_at st b hb t (by omega)
    rw [sShift, sPut_nI (by omega) (by omega)]
    have e : nI (b - t) - 1 = nI (b - t - 1) := by
      have := nI_pred (b - t - 1)
      rw [show b - t - 1 + 1 = b - t by omega] at this
      exact this
    rw [e, sAt_nI (by omega) (by omega)]
    by_cases h : j = b - t
    · subst h
      rw [pk_us, ih _ (by omega), if_neg (by omega), if_pos (by omega)]
    · rw [pk_un h, ih j hj]
      by_cases h2 : b - t < j ∧ j ≤ b
      · rw [if_pos h2, if_pos (by omega)]
      · rw [if_neg h2, if_neg (by omega)]
theorem sMid_nI {st : AF} {q k : Nat} (h : PT st q) (hk : k < q) : sMid st q k = nI (sE st q k + (sE st q (k + 1) - sE st q k) / 2) := by
  have h1 := h.mono (a := k) (b := k + 1) (by omega) (by omega)
  have h2 := h.le (a := k + 1) (by omega)
  unfold sMid
  rw [h.st hk, h.en hk, pk_sub (Nat.le_of_lt h1), show (2 : Int32) = nI 2 from rfl, pk_div (by omega) (by omega) (by omega), nI_add]
/-- the ends behind a split -/
theorem sE_split {st : AF} {q k : Nat} (h : PT st q) (hq : q ≤ 5) (hk : k < q) : ∀ j, j ≤ q + 1 → sE (sSplit st q k) (q + 1) j = if j ≤ k then sE st q j else if j = k + 1 then sE st q k + (sE st q (k + 1) - sE st q k) / 2 else sE st q (j - 1) := by
  have h1 := h.mono (a := k) (b := k + 1) (by omega) (by omega)
  have h2 := h.le (a := k + 1) (by omega)
  intro j hj
  unfold sSplit
  rw [nI_1, sPut_nI (by omega) (by omega), sMid_nI h hk]
  unfold sE
  by_cases e0 : j = q + 1
  · subst e0
    rw [if_neg (by omega), if_neg (by omega)]
    by_cases e1 : q = k
    · omega
    · rw [if_neg (by omega)]
      rw [if_neg (by omega)]
  · rw [if_pos (by omega), sAt_nI (by omega) (by omega)]
    by_cases e1 : j ≤ k
    · rw [if_pos e1, pk_un (by omega), sShift_at st q hq _ (by omega) j (by omega), if_neg (by omega), if_pos (by omega), sAt_nI (by omega) (by omega)]
    · rw [if_neg e1]
      by_cases e2 : j = k + 1
      · subst e2
        rw [if_pos rfl, pk_us, cl_nI]
        have h3 := h.le (a := k) (by omega)
        unfold sE at h1 h2 h3
        omega
      · rw [if_neg e2, pk_un e2, sShift_at st q hq _ (by omega) j (by omega), if_pos (by omega), if_pos (by omega), sAt_nI (by omega) (by omega)]
theorem PT_split {st : AF} {q k : Nat} (h : PT st q) (hq : q ≤ 5) (hk : k < q) (h2 : 2 ≤ sE st q (k + 1) - sE st q k) : PT (sSplit st q k) (q + 1) := by
  have hE := sE_split h hq hk
  refine ⟨by omega, by omega, ?_, fun j hj => ?_, fun j hj => ?_⟩
  · rw [hE 0 (by omega), if_pos (by omega)]
    exact h.2.2.1
  · rw [hE j (by omega), hE (j + 1) (by omega)]
    by_cases e1 : j + 1 ≤ k
    · rw [if_pos (by omega), if_pos e1]
      exact h.2.2.2.1 j (by omega)
    · by_cases e2 : j = k
      · subst e2
        rw [if_pos (by omega), if_neg e1, if_pos rfl]
        omega
      · rw [if_neg (by omega), if_neg e1]
        by_cases e3 : j = k + 1
        · subst e3
          rw [if_pos rfl, if_neg (by omega)]
          show _ < sE st q (k + 1)
          omega
        · rw [if_neg e3, if_neg (by omega)]
          have := h.2.2.2.1 (j - 1) (by omega)
          rw [show j - 1 + 1 = j + 1 - 1 by omega] at this
          exact this
  · have e : sE (sSplit st q k) (q + 1) j = (sAt 6 (sSplit st q k) (nI j)).toNatClampNeg := by simp only [sE, hj, if_true]
    rw [e]
    have hle : (sAt 6 (sSplit st q k) (nI j)) = nI (if j ≤ k then sE st q j else if j = k + 1 then sE st q k + (sE st q (k + 1) - sE st q k) / 2 else sE st q (j - 1)) := by
      unfold sSplit
      rw [nI_1, sPut_nI (by omega) (by omega), sMid_nI h hk, sAt_nI (by omega) (by omega)]
      by_cases e1 : j ≤ k
      · rw [if_pos e1, pk_un (by omega), sShift_at st q hq _ (by omega) j (by omega), if_neg (by omega)]
        have := h.2.2.2.2 j (by omega)
        rw [sAt_nI (by omega) (by omega)] at this
        exact this
      · rw [if_neg e1]
        by_cases e2 : j = k + 1
        · subst e2
          rw [if_pos rfl, pk_us]
        · rw [if_neg e2, pk_un e2, sShift_at st q hq _ (by omega) j (by omega), if_pos (by omega)]
          have := h.2.2.2.2 (j - 1) (by omega)
          rw [sAt_nI (by omega) (by omega)] at this
          exact this
    have hb : (if j ≤ k then sE st q j else if j = k + 1 then sE st q k + (sE st q (k + 1) - sE st q k) / 2 else sE st q (j - 1)) < 2147483648 := by
      have a1 := h.le (a := j - 1) (by omega)
      have a2 := h.le (a := k) (by omega)
      have a3 := h.le (a := k + 1) (by omega)
      split
      · have := h.le (a := j) (by omega); omega
      · split <;> omega
    rw [hle, cl_nI hb]
/-- a piece that has different shades has two or more -/
theorem PT_two {so st : AF} {q k : Nat} (h : PT st q) (hk : k < q) (hs : ¬ sSpr so st (nI q) (nI k) = 0) : 2 ≤ sE st q (k + 1) - sE st q k := by
  have h1 := h.mono (a := k) (b := k + 1) (by omega) (by omega)
  rcases Nat.lt_or_ge (sE st q (k + 1) - sE st q k) 2 with hc | hc
  · exfalso
    apply hs
    unfold sSpr
    rw [h.st hk, h.en hk]
    have e : nI (sE st q (k + 1)) - 1 = nI (sE st q k) := by
      have := nI_pred (sE st q k)
      rw [show sE st q k + 1 = sE st q (k + 1) by omega] at this
      exact this
    rw [e]
    simp
  · exact hc
theorem PT_one (st : AF) : PT (sPut 6 st 0 0) 1 := by
  have e : sPut 6 st 0 0 = upd st 0 0 := sPut_nI (k := 0) (by omega) (by omega)
  rw [e]
  refine ⟨by omega, by omega, ?_, fun k hk => ?_, fun k hk => ?_⟩
  · simp only [sE, if_pos (Nat.zero_lt_one)]
    rw [sAt_nI (by omega) (by omega), pk_us]; rfl
  · obtain rfl : k = 0 := by omega
    simp only [sE, if_pos (Nat.zero_lt_one)]
    rw [sAt_nI (by omega) (by omega), pk_us, if_neg (by omega)]; decide
  · obtain rfl : k = 0 := by omega
    simp only [sE, if_pos (Nat.zero_lt_one)]
    rw [sAt_nI (by omega) (by omega), pk_us]; rfl
/-- how many cells of the rows ahead have the shade s -/
def sCnX (f : AF) (s y : Nat) : Nat → Nat
  | 0 => 0
  | x + 1 => sCnX f s y x + if sGAt f (nI x) (nI y) = nI s then 1 else 0
def sCnY (f : AF) (s : Nat) : Nat → Nat
  | 0 => 0
  | y + 1 => sCnY f s y + sCnX f s y 12
def sCn (f : AF) (s : Nat) : Nat := sCnY f s 8
theorem sPut_bump {n : Nat} (hn : n < 2147483648) (t : AF) (v : Int32) {s : Nat} (hs : s < n) {c : Nat} (h : sAt n t (nI s) = nI c) : sAt n (sPut n t v (sAt n t v + 1)) (nI s) = nI (c + if v = nI s then 1 else 0) := by
  rcases pk_ix v (n := n) hn with h1 | h1 | ⟨j, hj, rfl⟩
  · rw [if_neg (by rintro rfl; exact nI_pos (by omega) h1)]
    simp only [sPut, h1, if_true]
    exact h
  · have h0 : ¬ v < 0 := by
      intro h2
      have := Int32.lt_of_lt_of_le h2 (nI_pos' (n := n) hn)
      exact absurd (Int32.lt_of_lt_of_le this h1) (Int32.lt_irrefl)
    rw [if_neg (by rintro rfl; exact nle_nI hs hn h1)]
    simp only [sPut, h0, h1, if_true, if_false]
    exact h
  · rw [sPut_nI hj hn, sAt_nI hs hn, sAt_nI hj hn]
    rw [sAt_nI hs hn] at h
    by_cases e : j = s
    · subst e
      rw [if_pos rfl, pk_us, h, nI_1]
    · rw [pk_un (Ne.symm e), if_neg (fun z => e ((nI_eq (by omega) (by omega)).mp z)), h]
      rfl
theorem sTalX_cn (f : AF) (y : Nat) (t : AF) {s c : Nat} (hs : s < 256) (h : sAt 256 t (nI s) = nI c) : ∀ x, sAt 256 (sTalX f y t x) (nI s) = nI (c + sCnX f s y x)
  | 0 => h
  | x + 1 => by
    rw [sTalX, sPut_bump (by omega) _ _ hs (sTalX_cn f y t hs h x), sCnX, Nat.add_assoc]
theorem sTalY_cn (f t : AF) {s : Nat} (hs : s < 256) (h : sAt 256 t (nI s) = nI 0) : ∀ y, sAt 256 (sTalY f t y) (nI s) = nI (sCnY f s y)
  | 0 => h
  | y + 1 => by rw [sTalY, sTalX_cn f y _ hs (sTalY_cn f t hs h y) 12, sCnY]
theorem sFill_at (x : Int32) (f : AF) : ∀ n, n < 2147483648 → ∀ j, sFill x f n j = if j < n then x else f j
  | 0, _, j => by rw [sFill, if_neg (by omega)]
  | n + 1, hn, j => by
    rw [sFill, cl_nI (by omega)]
    by_cases e : j = n
    · subst e; rw [pk_us, if_pos (by omega)]
    · rw [pk_un e, sFill_at x f n (by omega) j]
      by_cases h : j < n
      · rw [if_pos h, if_pos (by omega)]
      · rw [if_neg h, if_neg (by omega)]
theorem sTally_cn (f t : AF) {s : Nat} (hs : s < 256) : sAt 256 (sTally f t) (nI s) = nI (sCn f s) := by
  refine sTalY_cn f _ hs ?_ 8
  rw [sAt_nI hs (by omega), sFill_at _ _ _ (by omega), if_pos hs]; rfl
theorem sCnX_le (f : AF) (s y : Nat) : ∀ x, sCnX f s y x ≤ x
  | 0 => Nat.le_refl 0
  | x + 1 => by
    have := sCnX_le f s y x
    rw [sCnX]; split <;> omega
theorem sCnY_le (f : AF) (s : Nat) : ∀ y, sCnY f s y ≤ y * 12
  | 0 => Nat.le_refl 0
  | y + 1 => by
    have := sCnY_le f s y
    have := sCnX_le f s y 12
    rw [sCnY]; omega
theorem sCn_le (f : AF) (s : Nat) : sCn f s ≤ 96 := sCnY_le f s 8
end SPECB
