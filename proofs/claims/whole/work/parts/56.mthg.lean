/-! what the cases need of numbers and rows -/
section MTHG
theorem out_at {ol : Nat → Int64} {x : Int64} : vp_updL ol (0 : Int32).toNatClampNeg x 0 = x := by
  have h : (0 : Int32).toNatClampNeg = 0 := by decide
  rw [h]
  exact pk_uLs
theorem okF_upd {f : AF} (hf : okF f) (k : Nat) {v : Int32} (hv : ∃ w, w < 256 ∧ v = nI w) : okF (upd f k v) := by
  intro j hj
  show ∃ w, w < 256 ∧ (if j = k then v else f j) = nI w
  by_cases e : j = k
  · rw [if_pos e]
    exact hv
  · rw [if_neg e]
    exact hf j hj
theorem rng_sh {v : Int32} (h : ¬ v < 0 ∧ v ≤ 255) : ∃ w, w < 256 ∧ v = nI w := by
  obtain ⟨k, hk, e⟩ := rng_nI (n := 255) (by omega) h
  exact ⟨k, by omega, e⟩
theorem held_sh (v : Int32) : ∃ w, w < 256 ∧ sMax 0 (sMin 255 v) = nI w := by
  unfold sMin sMax
  by_cases h : v < 255
  · rw [if_pos h]
    by_cases h2 : 0 < v
    · rw [if_pos h2]
      refine rng_sh ⟨fun z => ?_, Int32.le_of_lt h⟩
      exact Int32.lt_irrefl (Int32.lt_trans h2 z)
    · rw [if_neg h2]
      exact ⟨0, by omega, rfl⟩
  · rw [if_neg h, if_pos (by decide)]
    exact ⟨255, by omega, rfl⟩
theorem okF_row {f : AF} (hf : okF f) (y : Nat) (a b : Int32) : ∀ i, okF (mRowF f y a b i)
  | 0 => hf
  | i + 1 => by
    rw [mRowF]
    exact okF_upd (okF_row hf y a b i) _ (held_sh _)
theorem okF_lk {f : AF} (hf : okF f) (y : Nat) {o : Nat} (ho : o < 8) : ∀ i, i ≤ 12 → okF (mLk f y o i).1
  | 0, _ => hf
  | i + 1, hi => by
    rw [mLk]
    exact okF_upd (okF_lk hf y ho i (by omega)) _ (okF_lk hf y ho i (by omega) _ (by omega))
theorem rng_26 {v : Int32} (h : ¬ v < 2 ∧ v ≤ 6) : ∃ m, 2 ≤ m ∧ m ≤ 6 ∧ v = nI m := by
  have h0 : ¬ v < 0 := fun z => h.1 (Int32.lt_trans z (by decide))
  obtain ⟨k, hk, e⟩ := rng_nI (n := 6) (by omega) ⟨h0, h.2⟩
  refine ⟨k, ?_, hk, e⟩
  rcases Nat.lt_or_ge k 2 with z | z
  · have h1 := h.1
    rw [e] at h1
    exact absurd (nI_lt z (by omega)) h1
  · exact z
theorem rng_02 {v : Int32} (h : ¬ v < 0 ∧ v ≤ 2) : v = 0 ∨ v = 1 ∨ v = 2 := by
  obtain ⟨k, hk, e⟩ := rng_nI (n := 2) (by omega) h
  rcases Nat.lt_or_ge k 1 with z | z
  · left
    have : k = 0 := by omega
    rw [e, this]; rfl
  · rcases Nat.lt_or_ge k 2 with z2 | z2
    · right; left
      have : k = 1 := by omega
      rw [e, this]; rfl
    · right; right
      have : k = 2 := by omega
      rw [e, this]; rfl
theorem KT_congr {fw fr k k' : AF} (h : KT fw fr k) (hk : ∀ j, j < 96 → k j = k' j) : KT fw fr k' := by
  refine ⟨fun j hj => (h.1 j hj).trans (hk j hj), fun y hy x hx => ?_⟩
  rw [h.2 y hy x hx, nr_congr x (fun z hz => hk (12 * y + z) (by omega))]
theorem cnt_congr {k k' : AF} (hk : ∀ j, j < 96 → k j = k' j) (c : Nat) : cntP (isS k c) 96 = cntP (isS k' c) 96 :=
  cntP_congr 96 (fun j hj => by unfold isS; rw [hk j hj])
theorem pal_told {f : AF} (hf : okF f) (so so' st sh pa : AF) {m c : Nat} (h2 : 2 ≤ m) (h6 : m ≤ 6) (hc : c < 6) : sShade (sMnsF f so st sh m) (nI (sFitF f so st m).2) (nI c) = if nI (mFit f so' m).2 ≤ nI c then (-1) else mPal f so' pa m c := by
  obtain ⟨e1, -⟩ := fitF_tie hf so so' st (m := m) (by omega) h6
  have hp := pal_tie hf so so' st sh pa (m := m) (by omega) h6
  have hq := mFit_m f so' (m := m) (by omega)
  rw [e1]
  unfold sShade
  rw [if_neg (nI_pos (by omega))]
  by_cases h : nI (mFit f so' m).2 ≤ nI c
  · rw [if_pos h, if_pos h]
  · rw [if_neg h, if_neg h, sAt_nI hc (by omega)]
    refine hp c ?_
    rcases Nat.lt_or_ge c (mFit f so' m).2 with z | z
    · exact z
    · exact absurd (nI_le z (by omega)) h
theorem thr_tie {th kfu ksh kk kp : AF} {kb c : Nat} {cl w : Int32} (hc : c < 6) (hb : kb ≤ 6) (hh : sHas cl = 0 ↔ cl ≤ 0) (hz : cl ≤ 0 → kb = 0) (hp : ∀ j, j < kb → ksh j = kp j) (hu : ¬ cl ≤ 0 → kfu c = nI (cntP (isS kk c) 96)) : sThr th kfu ksh kb cl (nI c) w = mThr th kk kp (nI kb) cl c w := by
  unfold sThr mThr
  by_cases h0 : w = 0
  · have n0 : ¬ ¬ w = 0 := fun z => z h0
    rw [if_neg n0, if_neg n0]
    exact sAt_nI hc (by omega)
  · rw [if_pos h0, if_pos h0]
    by_cases h1 : w = 1
    · have n1 : ¬ ¬ w = 1 := fun z => z h1
      rw [if_neg n1, if_neg n1]
      by_cases h : cl ≤ 0
      · rw [if_pos h, if_pos (hh.mpr h)]
      · rw [if_neg h, if_neg (fun z => h (hh.mp z)), sAt_nI hc (by omega), hu h, mCo_c]
    · rw [if_pos h1, if_pos h1]
      by_cases h : cl ≤ 0
      · have e : kb = 0 := hz h
        rw [if_pos (hh.mpr h), e, if_pos (nI_le (Nat.zero_le c) (by omega))]
      · rw [if_neg (fun z => h (hh.mp z))]
        unfold sShade
        rw [if_neg (nI_pos (by omega))]
        by_cases g : nI kb ≤ nI c
        · rw [if_pos g, if_pos g]
        · rw [if_neg g, if_neg g, sAt_nI hc (by omega)]
          refine hp c ?_
          rcases Nat.lt_or_ge c kb with z | z
          · exact z
          · exact absurd (nI_le z (by omega)) g
theorem cnt_tie {col car tur pre cl koff ko : Int32} {th kfw kfr kk : AF} (hh : sHas cl = 0 ↔ cl ≤ 0) (hz : cl ≤ 0 → ko = 0) (hK : ¬ cl ≤ 0 → KT kfw kfr kk ∧ koff = ko) : ∀ k, k < 8 → sCnt col car tur pre cl th kfw kfr koff k = mCnt col car tur pre cl ko th kk k
  | 0, _ => rfl
  | 1, _ => rfl
  | 2, _ => rfl
  | 3, _ => rfl
  | 4, _ => rfl
  | 5, _ => hold_tie th 6 (Nat.le_refl _)
  | 6, _ => by
    show (if sHas cl = 0 then 0 else koff) = ko
    by_cases h : cl ≤ 0
    · rw [if_pos (hh.mpr h), hz h]
    · rw [if_neg (fun z => h (hh.mp z)), (hK h).2]
  | 7, _ => by
    show (if sHas cl = 0 then 0 else sAK kfw kfr pre 8) = if cl ≤ 0 then 0 else mAK kk pre 8
    by_cases h : cl ≤ 0
    · rw [if_pos (hh.mpr h), if_pos h]
    · rw [if_neg (fun z => h (hh.mp z)), if_neg h, ak_tie (hK h).1 pre 8 (Nat.le_refl _)]
  | k + 8, h => absurd h (by omega)
theorem dgT_tie {c c' : Nat → Int32} {f th ksh kfw kp kk : AF} {cl : Int32} {kb : Nat} (hb : kb ≤ 6) (hc : ∀ j, j < 8 → c j = c' j) (hh : sHas cl = 0 ↔ cl ≤ 0) (hz : cl ≤ 0 → kb = 0) (hp : ∀ j, j < kb → ksh j = kp j) (hK : ¬ cl ≤ 0 → ∀ j, j < 96 → kfw j = kk j) : sDgB (sDgA c f th) cl ksh kfw kb = mDgT c' f th kp kk kb cl := by
  have eA : sDgA c f th = mDgF th (mDgF f (mDg8 c' 8) 96) 6 := by
    unfold sDgA
    rw [dg8_tie hc 8 (Nat.le_refl _), dig_tie (by omega) (fun j _ => rfl) _ 96 (Nat.le_refl _), dig_tie (by omega) (fun j _ => rfl) _ 6 (Nat.le_refl _)]
  unfold sDgB mDgT
  rw [eA]
  by_cases h : cl ≤ 0
  · rw [if_pos (hh.mpr h), if_pos h, hz h]
    rfl
  · rw [if_neg (fun z => h (hh.mp z)), if_neg h, dig_tie6 hb hp _ kb (Nat.le_refl _), dig_tie (by omega) (hK h) _ 96 (Nat.le_refl _)]
theorem wind_tie (th : AF) {c : Nat} (hc : c < 6) (n : Int32) : sWind th (nI c) n = upd th c (sMin 999 (th c + n)) := by
  unfold sWind
  rw [sPut_nI hc (by omega), sAt_nI hc (by omega)]
/-- at pc, the loop's number i, what holds said at j, with so much room used at most -/
def At (E : gE) (cL : ClassId) (X : gX) (b pc i j c s : Nat) : Prop := ∀ (a ka qa ra : Nat → Nat) (oa : Nat) (t : TS) (f : AF) (p : PS) (th : AF) (K Q : CS) (n : NS) (r : RW) (ol : Nat → Int64), Inv j t f K n r → ∀ cells slots, cells ≤ c → slots ≤ s → G E X cells slots pc [(0, .ref b), (1, .ref (a 0)), (2, .ref (ra 0)), (3, .ref oa), (4, .int (nI i))] [] (wAll E cL a ka qa ra oa t f p th K Q n r ol)
end MTHG
