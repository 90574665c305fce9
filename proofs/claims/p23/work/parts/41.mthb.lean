/-! both sides agree: what is carried, a cell, a row, a cloth -/
section MTHB
/-- row y of the grid is he, row y + 1 is be, below there is nothing -/
def CR (y : Nat) (fc he be : AF) : Prop := (∀ x, x < 12 → fc (12 * y + x) = he x) ∧ (y + 1 < 8 → ∀ x, x < 12 → fc (12 * (y + 1) + x) = be x) ∧ ∀ j, 12 * (y + 2) ≤ j → j < 96 → fc j = 0
theorem mIn_1' {x : Nat} (hx : x < 12) : mIn (nI x) 0 11 = 1 := mIn_nI (n := 11) (by omega) (by omega)
theorem mAdd_nI {r : AF} {a : Nat} {v : Int32} (ha : a < 12) : mAdd r (nI a) v = upd r a (r a + v) := by
  unfold mAdd
  rw [mIn_1' ha, if_neg (by decide), cl_nI (by omega)]
theorem sGAdd_nI {f : AF} {x y : Nat} {v : Int32} (hx : x < 12) (hy : y < 8) : sGAdd f (nI x) (nI y) v = upd f (12 * y + x) (f (12 * y + x) + v) := by
  unfold sGAdd
  rw [sGPut_nI hx hy, sGAt_nI hx hy]
/-- added at a place beside the grid: nothing -/
theorem sGAdd_x {f : AF} {xx y v : Int32} (h : sCell xx y = 0) : sGAdd f xx y v = f := by
  unfold sGAdd sGPut
  rw [if_pos h]
theorem add_out {xx : Int32} (h : ∀ a, a < 12 → xx ≠ nI a) (f r : AF) (y v : Int32) : sGAdd f xx y v = f ∧ mAdd r xx v = r := by
  rcases pk_ix xx (n := 12) (by omega) with h1 | h1 | ⟨a, ha, e⟩
  · refine ⟨sGAdd_x (by unfold sCell; rw [if_pos h1]), ?_⟩
    unfold mAdd mIn
    rw [if_pos h1, if_pos rfl]
  · refine ⟨sGAdd_x (by unfold sCell; split; rfl; rw [if_pos (show (12 : Int32) ≤ xx from h1)]), ?_⟩
    unfold mAdd mIn
    have h2 : (11 : Int32) < xx := by
      have h3 : (11 : Int32) < 12 := by decide
      exact Int32.lt_of_lt_of_le h3 h1
    rw [if_pos h2]
    split
    · rw [if_pos rfl]
    · rw [if_pos rfl]
  · exact absurd e (h a ha)
theorem add_he {y : Nat} (hy : y < 8) {fc he be : AF} (h : CR y fc he be) (xx v : Int32) : CR y (sGAdd fc xx (nI y) v) (mAdd he xx v) be := by
  by_cases hx : ∃ a, a < 12 ∧ xx = nI a
  · obtain ⟨a, ha, rfl⟩ := hx
    rw [sGAdd_nI ha hy, mAdd_nI ha]
    refine ⟨fun x hx => ?_, fun h8 x hx => ?_, fun j h1 h2 => ?_⟩
    · by_cases e : x = a
      · subst e; rw [pk_us, pk_us, h.1 x hx]
      · rw [pk_un (by omega), pk_un e]; exact h.1 x hx
    · rw [pk_un (by omega)]; exact h.2.1 h8 x hx
    · rw [pk_un (by omega)]; exact h.2.2 j h1 h2
  · obtain ⟨e1, e2⟩ := add_out (fun a ha e => hx ⟨a, ha, e⟩) fc he (nI y) v
    rw [e1, e2]; exact h
theorem add_be {y : Nat} (hy : y < 8) {fc he be : AF} (h : CR y fc he be) (xx v : Int32) : CR y (sGAdd fc xx (nI y + 1) v) he (mAdd be xx v) := by
  rw [nI_1]
  by_cases hx : ∃ a, a < 12 ∧ xx = nI a
  · obtain ⟨a, ha, rfl⟩ := hx
    by_cases h8 : y + 1 < 8
    · rw [sGAdd_nI ha h8, mAdd_nI ha]
      refine ⟨fun x hx => ?_, fun _ x hx => ?_, fun j h1 h2 => ?_⟩
      · rw [pk_un (by omega)]; exact h.1 x hx
      · by_cases e : x = a
        · subst e; rw [pk_us, pk_us, h.2.1 h8 x hx]
        · rw [pk_un (by omega), pk_un e]; exact h.2.1 h8 x hx
      · rw [pk_un (by omega)]; exact h.2.2 j h1 h2
    · have e8 : y + 1 = 8 := by omega
      rw [sGAdd_x (by rw [e8]; unfold sCell; split; rfl; split; rfl; split; rfl; rfl)]
      exact ⟨h.1, fun z => absurd z h8, h.2.2⟩
  · obtain ⟨e1, e2⟩ := add_out (fun a ha e => hx ⟨a, ha, e⟩) fc be (nI (y + 1)) v
    rw [e1, e2]; exact h
theorem car_tie {y : Nat} (hy : y < 8) {fc he be : AF} (h : CR y fc he be) {way : Int32} (hw : way = 0 ∨ way = 1 ∨ way = 2) (er x ah : Int32) : CR y (sCarry fc er x (nI y) ah way) (mCar he be x ah er way).1 (mCar he be x ah er way).2 := by
  rcases hw with rfl | rfl | rfl
  · show CR y (if ¬ (0 : Int32) = 2 then (if ¬ (0 : Int32) = 1 then fc else _) else _) _ _
    rw [if_pos (by decide), if_pos (by decide)]
    unfold mCar
    rw [if_neg (by decide)]
    exact h
  · show CR y (if ¬ (1 : Int32) = 2 then (if ¬ (1 : Int32) = 1 then fc else sGAdd fc (x + ah) (nI y) er) else _) _ _
    rw [if_pos (by decide), if_neg (by decide)]
    unfold mCar
    rw [if_pos (by decide), if_neg (by decide)]
    exact add_he hy h _ _
  · show CR y (if ¬ (2 : Int32) = 2 then _ else sCar2 (if ¬ (2 : Int32) = 1 then fc else _) er x (nI y) ah) _ _
    rw [if_neg (by decide), if_pos (by decide)]
    unfold mCar sCar2
    rw [if_pos (by decide), if_pos (by decide)]
    exact add_be hy (add_be hy (add_be hy (add_he hy h _ _) _ _) _ _) _ _
/-! a row's cells in their order -/
theorem rX_inj {back : Int32} {i j : Nat} (hi : i < 12) (hj : j < 12) (h : rX back i = rX back j) : i = j := by
  unfold rX at h
  split at h <;> omega
theorem sRX_nI {back : Int32} {i : Nat} (hi : i < 12) : sRX back i = nI (rX back i) := by
  unfold sRX rX
  split
  · rfl
  · show nI 11 - nI i = _
    rw [pk_sub (by omega)]
def dn (k : AF) (back : Int32) (y c : Nat) : Nat → Nat
  | 0 => 0
  | i + 1 => dn k back y c i + if k (12 * y + rX back i) = nI c then 1 else 0
theorem dn_upd (k : AF) (back : Int32) (y c : Nat) {n : Nat} (hn : n < 12) (v : Int32) : ∀ i, i ≤ n → dn (upd k (12 * y + rX back n) v) back y c i = dn k back y c i
  | 0, _ => rfl
  | i + 1, hi => by
    have hne : rX back i ≠ rX back n := fun e => by have := rX_inj (by omega) hn e; omega
    rw [dn, dn, dn_upd k back y c hn v i (by omega), pk_un (by omega)]
theorem dn_f (k : AF) (y c : Nat) : ∀ i, i ≤ 12 → cntP (isS k c) (12 * y) + dn k 0 y c i = cntP (isS k c) (12 * y + i)
  | 0, _ => rfl
  | i + 1, hi => by
    rw [dn, ← Nat.add_assoc, dn_f k y c i (by omega), ← Nat.add_assoc, cntP_1]
    have e : rX 0 i = i := by unfold rX; rw [if_pos rfl]
    rw [e]
    by_cases h : k (12 * y + i) = nI c
    · rw [if_pos h, if_pos (isS_iff.mpr h)]
    · rw [if_neg h, if_neg (fun z => h (isS_iff.mp z))]
theorem dn_12 (k : AF) (back : Int32) (y c : Nat) : dn k back y c 12 = dn k 0 y c 12 := by
  by_cases hb : back = 0
  · rw [hb]
  · simp only [dn, rX, if_neg hb, if_true, Nat.reduceSub]
    ac_rfl
theorem dn_end (k : AF) (back : Int32) (y c : Nat) : cntP (isS k c) (12 * y) + dn k back y c 12 = cntP (isS k c) (12 * (y + 1)) := by
  rw [dn_12, dn_f k y c 12 (Nat.le_refl _)]
  rfl
def IR (b y : Nat) (back : Int32) (i : Nat) (s : RS) (t : MS) : Prop :=
  (∀ j, j < 12 * y → s.1 j = t.1 j ∧ ∃ k, k < b ∧ t.1 j = nI k) ∧ (∀ i', i' < i → s.1 (12 * y + rX back i') = t.1 (12 * y + rX back i') ∧ ∃ k, k < b ∧ t.1 (12 * y + rX back i') = nI k) ∧ s.2.2.2 = t.2.1 ∧ (∀ c, c < 6 → s.2.2.1 c = nI (cntP (isS t.1 c) (12 * y) + dn t.1 back y c i)) ∧ CR y s.2.1 t.2.2.1 t.2.2.2
theorem cell_tie {sh pa f : AF} {b y : Nat} (hb1 : 1 ≤ b) (hb : b ≤ 6) (hy : y < 8) (hp : ∀ k, k < b → sh k = pa k) {way back : Int32} (hw : way = 0 ∨ way = 1 ∨ way = 2) {i : Nat} (hi : i < 12) {s : RS} {t : MS} (h : IR b y back i s t) :
    IR b y back (i + 1) (sCell1 sh b f way back (nI y) s (nI (rX back i))) (mCell1 pa b f way back y t (rX back i)) := by
  obtain ⟨h1, h2, h3, h4, h5⟩ := h
  have hX := rX_lt back hi
  have hN := near_tie hb hp (f (12 * y + rX back i) + t.2.2.1 (rX back i)) (b - 1) (by omega)
  have hK := mNear_le pa (f (12 * y + rX back i) + t.2.2.1 (rX back i)) (b - 1)
  have ef : sGAt f (nI (rX back i)) (nI y) = f (12 * y + rX back i) := sGAt_nI hX hy
  have ec : sGAt s.2.1 (nI (rX back i)) (nI y) = t.2.2.1 (rX back i) := by rw [sGAt_nI hX hy]; exact h5.1 _ hX
  unfold sCell1 mCell1
  rw [ef, ec, hN.1]
  generalize hKe : mNear pa (f (12 * y + rX back i) + t.2.2.1 (rX back i)) (b - 1) = K at hK ⊢
  have hKb : K < b := by omega
  rw [shade_nI hKb hb, hp K hKb, sGPut_nI hX hy]
  refine ⟨fun j hj => ?_, fun i' hi' => ?_, ?_, fun c hc => ?_, ?_⟩
  · show upd s.1 _ _ j = upd t.1 _ _ j ∧ ∃ k, k < b ∧ upd t.1 _ _ j = nI k
    rw [pk_un (by omega), pk_un (by omega)]
    exact h1 j hj
  · show upd s.1 _ _ _ = upd t.1 _ _ _ ∧ ∃ k, k < b ∧ upd t.1 _ _ _ = nI k
    by_cases e : i' = i
    · subst e
      rw [pk_us, pk_us]
      exact ⟨rfl, K, hKb, rfl⟩
    · have hne : rX back i' ≠ rX back i := fun z => e (rX_inj (by omega) hi z)
      rw [pk_un (by omega), pk_un (by omega)]
      exact h2 i' (by omega)
  · show s.2.2.2 + sAbs (pa K - _) = t.2.1 + sAbs (pa K - _)
    rw [h3]
  · show sPut 6 s.2.2.1 (nI K) (sAt 6 s.2.2.1 (nI K) + 1) c = nI (cntP (isS (upd t.1 (12 * y + rX back i) (nI K)) c) (12 * y) + dn (upd t.1 (12 * y + rX back i) (nI K)) back y c (i + 1))
    have hcg : cntP (isS (upd t.1 (12 * y + rX back i) (nI K)) c) (12 * y) = cntP (isS t.1 c) (12 * y) := cntP_congr _ (fun j hj => by unfold isS; rw [pk_un (by omega)])
    rw [hcg, sPut_nI (by omega) (by omega), sAt_nI (by omega) (by omega), dn, dn_upd t.1 back y c hi _ i (Nat.le_refl _), pk_us]
    by_cases e : c = K
    · subst e
      rw [pk_us, if_pos rfl, h4 c hc, nI_1, Nat.add_assoc]
    · rw [pk_un e, if_neg (fun z => e ((nI_eq (by omega) (by omega)).mp z).symm), h4 c hc]
      rfl
  · exact car_tie hy h5 hw _ _ _
theorem row_tie {sh pa f : AF} {b y : Nat} (hb1 : 1 ≤ b) (hb : b ≤ 6) (hy : y < 8) (hp : ∀ k, k < b → sh k = pa k) {way back : Int32} (hw : way = 0 ∨ way = 1 ∨ way = 2) {s : RS} {t : MS} (h : IR b y back 0 s t) : ∀ i, i ≤ 12 → IR b y back i (sRow sh b f way back (nI y) s i) (mRow pa b f way back y t i)
  | 0, _ => h
  | i + 1, hi => by
    rw [sRow, mRow, sRX_nI (by omega)]
    exact cell_tie hb1 hb hy hp hw (by omega) (row_tie hb1 hb hy hp hw h i (by omega))
/-! all rows -/
theorem mHB_at (a : AF × AF) : ∀ n j, (mHB a n).1 j = (if j < n then a.2 j else a.1 j) ∧ (mHB a n).2 j = (if j < n then 0 else a.2 j)
  | 0, j => ⟨by rw [if_neg (by omega)]; rfl, by rw [if_neg (by omega)]; rfl⟩
  | n + 1, j => by
    obtain ⟨h1, h2⟩ := mHB_at a n j
    obtain ⟨-, h3⟩ := mHB_at a n n
    rw [if_neg (by omega)] at h3
    show upd (mHB a n).1 n ((mHB a n).2 n) j = _ ∧ upd (mHB a n).2 n 0 j = _
    by_cases e : j = n
    · subst e
      rw [pk_us, pk_us, if_pos (by omega), if_pos (by omega), h3]
      exact ⟨rfl, rfl⟩
    · rw [pk_un e, pk_un e, h1, h2]
      by_cases e2 : j < n
      · rw [if_pos e2, if_pos e2, if_pos (by omega), if_pos (by omega)]; exact ⟨rfl, rfl⟩
      · rw [if_neg e2, if_neg e2, if_neg (by omega), if_neg (by omega)]; exact ⟨rfl, rfl⟩
def IV (b y : Nat) (s : RS) (t : MS) : Prop :=
  (∀ j, j < 12 * y → s.1 j = t.1 j ∧ ∃ k, k < b ∧ t.1 j = nI k) ∧ s.2.2.2 = t.2.1 ∧ (∀ c, c < 6 → s.2.2.1 c = nI (cntP (isS t.1 c) (12 * y))) ∧ (y < 8 → CR y s.2.1 (mNew t).2.2.1 (mNew t).2.2.2)
theorem IV_row {sh pa f : AF} {b y : Nat} (hb1 : 1 ≤ b) (hb : b ≤ 6) (hy : y < 8) (hp : ∀ k, k < b → sh k = pa k) {way back : Int32} (hw : way = 0 ∨ way = 1 ∨ way = 2) {s : RS} {t : MS} (h : IV b y s t) : IV b (y + 1) (sRow sh b f way back (nI y) s 12) (mRow pa b f way back y (mNew t) 12) := by
  obtain ⟨h1, h2, h3, h4⟩ := h
  have h0 : IR b y back 0 s (mNew t) := ⟨h1, fun i' hi' => absurd hi' (Nat.not_lt_zero _), h2, h3, h4 hy⟩
  obtain ⟨r1, r2, r3, r4, r5⟩ := row_tie hb1 hb hy hp hw (f := f) h0 12 (Nat.le_refl _)
  refine ⟨fun j hj => ?_, r3, fun c hc => ?_, fun h8 => ⟨fun x hx => ?_, fun h9 x hx => ?_, fun j ha hb9 => ?_⟩⟩
  · by_cases e : j < 12 * y
    · exact r1 j e
    · have e2 : ∃ i', i' < 12 ∧ 12 * y + rX back i' = j := by
        by_cases hbk : back = 0
        · refine ⟨j - 12 * y, by omega, ?_⟩
          unfold rX; rw [if_pos hbk]; omega
        · refine ⟨11 - (j - 12 * y), by omega, ?_⟩
          unfold rX; rw [if_neg hbk]; omega
      obtain ⟨i', hi', rfl⟩ := e2
      exact r2 i' hi'
  · rw [r4 c hc, dn_end]
  · have := (mHB_at ((mRow pa b f way back y (mNew t) 12).2.2.1, (mRow pa b f way back y (mNew t) 12).2.2.2) 12 x).1
    rw [if_pos hx] at this
    show _ = (mHB _ 12).1 x
    rw [this]
    exact r5.2.1 h8 x hx
  · have := (mHB_at ((mRow pa b f way back y (mNew t) 12).2.2.1, (mRow pa b f way back y (mNew t) 12).2.2.2) 12 x).2
    rw [if_pos hx] at this
    show _ = (mHB _ 12).2 x
    rw [this]
    exact r5.2.2 _ (by omega) (by omega)
  · exact r5.2.2 j (by omega) hb9
theorem mZer_at (be : AF) : ∀ n j, mZer be n j = if j < n then 0 else be j
  | 0, j => by rw [if_neg (by omega)]; rfl
  | n + 1, j => by
    rw [mZer]
    by_cases e : j = n
    · subst e; rw [pk_us, if_pos (by omega)]
    · rw [pk_un e, mZer_at be n j]
      by_cases e2 : j < n
      · rw [if_pos e2, if_pos (by omega)]
      · rw [if_neg e2, if_neg (by omega)]
theorem bk_eq (tur : Int32) (y : Nat) : sBk tur y = mBk tur y := rfl
theorem mk_tie {sh pa f : AF} {b : Nat} (hb1 : 1 ≤ b) (hb : b ≤ 6) (hp : ∀ k, k < b → sh k = pa k) {way : Int32} (hw : way = 0 ∨ way = 1 ∨ way = 2) (tur : Int32) (fw fc fu fr cl he be : AF) : ∀ y, y ≤ 8 → IV b y (sMk sh b f way tur fw fc fu fr y).1 (mWv pa b f way tur (cl, 0, he, mZer be 12) y)
  | 0, _ => by
    refine ⟨fun j hj => absurd hj (Nat.not_lt_zero _), rfl, fun c hc => ?_, fun _ => ⟨fun x hx => ?_, fun _ x hx => ?_, fun j _ hj => ?_⟩⟩
    · show sFill 0 fu 6 c = _
      rw [sFill_at _ _ _ (by omega), if_pos hc]
      rfl
    · show sFill 0 fc 96 (12 * 0 + x) = (mHB (he, mZer be 12) 12).1 x
      rw [sFill_at _ _ _ (by omega), if_pos (by omega), (mHB_at _ 12 x).1, if_pos hx]
      show 0 = mZer be 12 x
      rw [mZer_at, if_pos hx]
    · show sFill 0 fc 96 (12 * (0 + 1) + x) = (mHB (he, mZer be 12) 12).2 x
      rw [sFill_at _ _ _ (by omega), if_pos (by omega), (mHB_at _ 12 x).2, if_pos hx]
    · show sFill 0 fc 96 j = 0
      rw [sFill_at _ _ _ (by omega), if_pos hj]
  | y + 1, hy => by
    rw [sMk, mWv, ← bk_eq]
    exact IV_row hb1 hb (by omega) hp hw (mk_tie hb1 hb hp hw tur fw fc fu fr cl he be y (by omega))
end MTHB
