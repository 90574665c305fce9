/-! the property: folds, kinds, what is advised, thread -/
section MWQ3
def dkF (f : AF) : Nat → Int32
  | 0 => 255
  | i + 1 => sMin (dkF f i) (f i)
def ltF (f : AF) : Nat → Int32
  | 0 => 0
  | i + 1 => sMax (ltF f i) (f i)
def arF (f : AF) : Nat → AF
  | 0 => fun _ => 0
  | i + 1 => upd (arF f i) (f i).toNatClampNeg 1
def kpF (a : AF) : Nat → Bool := fun v => !decide (a v = 0)
theorem kp_s (a : AF) (i : Nat) : nI (cntP (kpF a) i) + (if a i = 0 then 0 else 1) = nI (cntP (kpF a) (i + 1)) := by
  rw [cntP]
  by_cases h : a i = 0
  · rw [if_pos h, if_neg (by simp [kpF, h]), Int32.add_zero, Nat.add_zero]
  · rw [if_neg h, if_pos (by simp [kpF, h])]
    exact nI_1 _
theorem sMin_l (a b : Int32) : sMin a b ≤ a ∧ sMin a b ≤ b := by
  unfold sMin
  split
  · rename_i h; exact ⟨Int32.le_of_lt h, Int32.le_refl _⟩
  · rename_i h; exact ⟨Int32.le_refl _, Int32.not_lt.mp h⟩
theorem sMax_l (a b : Int32) : a ≤ sMax a b ∧ b ≤ sMax a b := by
  unfold sMax
  split
  · rename_i h; exact ⟨Int32.le_of_lt h, Int32.le_refl _⟩
  · rename_i h; exact ⟨Int32.le_refl _, Int32.not_lt.mp h⟩
theorem dk_le (f : AF) : ∀ n j, j < n → dkF f n ≤ f j
  | 0, j, h => absurd h (Nat.not_lt_zero j)
  | n + 1, j, h => by
    rw [dkF]
    by_cases e : j = n
    · rw [e]; exact (sMin_l _ _).2
    · exact Int32.le_trans (sMin_l _ _).1 (dk_le f n j (by omega))
theorem le_lt (f : AF) : ∀ n j, j < n → f j ≤ ltF f n
  | 0, j, h => absurd h (Nat.not_lt_zero j)
  | n + 1, j, h => by
    rw [ltF]
    by_cases e : j = n
    · rw [e]; exact (sMax_l _ _).2
    · exact Int32.le_trans (le_lt f n j (by omega)) (sMax_l _ _).1
theorem pp_lo {f : AF} (hf : okF f) {m : Nat} (h1 : 1 ≤ m) (h6 : m ≤ 6) {k : Nat} (hk : k < PQ f m) : dkF f 96 ≤ PP f m k ∧ PP f m k ≤ ltF f 96 := by
  obtain ⟨u, hu⟩ := srt_su hf
  obtain ⟨v, e, h2, h3⟩ := pp_u hf h1 h6 hu hk
  have hp := mFit_PA hf z0 h1 h6
  have hl := hp.2.2.2 k hk
  have hle : (mFit f z0 m).1 (k + 1) ≤ 96 := hp.le (Nat.succ_le_of_lt hk)
  obtain ⟨i, hi, ei⟩ := sh_of hf hu (i := (mFit f z0 m).1 k) (by omega)
  obtain ⟨j, hj, ej⟩ := sh_of hf hu (i := (mFit f z0 m).1 (k + 1) - 1) (by omega)
  have b1 := (hu.1 ((mFit f z0 m).1 (k + 1) - 1) (by omega)).1
  have d1 := dk_le f 96 i hi
  have d2 := le_lt f 96 j hj
  rw [ei] at d1
  rw [ej] at d2
  rw [e]
  exact ⟨Int32.le_trans d1 (le_nI h2 (by omega)), Int32.le_trans (le_nI h3 (by omega)) d2⟩
theorem pp_sort {f : AF} (hf : okF f) {m : Nat} (h1 : 1 ≤ m) (h6 : m ≤ 6) {k : Nat} (hk : k + 1 < PQ f m) : PP f m k ≤ PP f m (k + 1) := by
  obtain ⟨u, hu⟩ := srt_su hf
  obtain ⟨v, e, -, h3⟩ := pp_u hf h1 h6 hu (show k < PQ f m by omega)
  obtain ⟨w, e2, h4, h5⟩ := pp_u hf h1 h6 hu hk
  have hp := mFit_PA hf z0 h1 h6
  have hl := hp.2.2.2 k (by show k < PQ f m; omega)
  have hl2 := hp.2.2.2 (k + 1) hk
  have hle : (mFit f z0 m).1 (k + 1 + 1) ≤ 96 := hp.le (Nat.succ_le_of_lt hk)
  have o := hu.2 ((mFit f z0 m).1 (k + 1) - 1) ((mFit f z0 m).1 (k + 1)) (by omega) (by omega)
  have b1 := (hu.1 ((mFit f z0 m).1 (k + 1 + 1) - 1) (by omega)).1
  rw [e, e2]
  exact le_nI (by omega) (by omega)
theorem ar_at {f : AF} (hf : okF f) : ∀ i, i ≤ 96 → ∀ v, v < 256 → (¬ arF f i v = 0 ↔ ∃ j, j < i ∧ f j = nI v)
  | 0, _, v, _ => ⟨fun h => absurd rfl h, fun ⟨j, h, _⟩ => absurd h (Nat.not_lt_zero j)⟩
  | i + 1, hi, v, hv => by
    have ih := ar_at hf i (by omega) v hv
    obtain ⟨w, hw, e⟩ := hf i (by omega)
    rw [arF, e, nI_clamp (show w < 2 ^ 31 by omega)]
    by_cases z : v = w
    · subst z
      rw [pk_us]
      exact ⟨fun _ => ⟨i, by omega, e⟩, fun _ => by decide⟩
    · rw [pk_un z, ih]
      constructor
      · rintro ⟨j, h1, h2⟩; exact ⟨j, by omega, h2⟩
      · rintro ⟨j, h1, h2⟩
        by_cases q : j = i
        · rw [q, e] at h2
          exact absurd ((nI_eq (by omega) (by omega)).mp h2).symm z
        · exact ⟨j, by omega, h2⟩
theorem kinds_le {f : AF} (hf : okF f) {m : Nat} (h1 : 1 ≤ m) (h6 : m ≤ 6) (h : PQ f m < m) : cntP (kpF (arF f 96)) 256 ≤ PQ f m := by
  obtain ⟨u, hu⟩ := srt_su hf
  refine cnt_le_img (g := fun k => u ((mFit f z0 m).1 k)) (PQ f m) _ (fun v hv hp => ?_)
  have h2 : ¬ arF f 96 v = 0 := by simpa [kpF] using hp
  obtain ⟨j, hj, e⟩ := (ar_at hf 96 (Nat.le_refl _) v hv).mp h2
  obtain ⟨i, hi, e2⟩ := of_sh hf hu hj
  obtain ⟨k, hk, h3, h4⟩ := in_box (mFit_PA hf z0 h1 h6) hi
  refine ⟨k, hk, ?_⟩
  show v = u ((mFit f z0 m).1 k)
  rw [← box_1 hf h1 h6 h hu hk i h3 h4]
  have b := (hu.1 i hi).1
  exact (nI_eq (by omega) (by omega)).mp (e.symm.trans e2)
theorem many_ge {f : AF} (hf : okF f) {m : Nat} (h1 : 1 ≤ m) (h6 : m ≤ 6) : sMin (nI m) (nI (cntP (kpF (arF f 96)) 256)) ≤ nI (PQ f m) := by
  have hm := PQ_m f h1
  rcases Nat.lt_or_ge (PQ f m) m with h | h
  · exact Int32.le_trans (sMin_l _ _).2 (le_nI (kinds_le hf h1 h6 h) (by omega))
  · exact Int32.le_trans (sMin_l _ _).1 (le_nI h (by omega))
/-! what is advised -/
theorem on_w {f : AF} (hf : okF f) {m : Nat} (h2 : 2 ≤ m) (h6 : m ≤ 6) {car : Int32} (hw : car = 0 ∨ car = 1 ∨ car = 2) (tur pre : Int32) (w : WS) : wsOff (mOn f m car tur w) = OF f m car tur ∧ mAK (wsCl (mOn f m car tur w)) pre 8 = mAK (CL f m car tur) pre 8 := by
  have h := fun v => (would_tie hf h2 h6 hw tur pre s0 w v).symm.trans (would_tie hf h2 h6 hw tur pre s0 w0 v)
  have a1 := h 1
  have a2 := h 2
  unfold mWould at a1 a2
  rw [if_pos (by decide), if_neg (by decide), if_pos (by decide), if_neg (by decide)] at a1
  rw [if_pos (by decide), if_pos (by decide), if_pos (by decide), if_pos (by decide)] at a2
  exact ⟨a1, a2⟩
def AdI (f : AF) (car tur pre kn : Int32) (i : Nat) (b o : Int32) : Prop :=
  ((∀ n, 2 ≤ n → n < i + 2 → kn < mAK (CL f n car tur) pre 8) ∧ b = (-1)) ∨ ∃ q, 2 ≤ q ∧ q < i + 2 ∧ b = nI q ∧ o = OF f q car tur ∧ ¬ kn < mAK (CL f q car tur) pre 8 ∧ ∀ n, 2 ≤ n → n < i + 2 → ¬ kn < mAK (CL f n car tur) pre 8 → OF f q car tur ≤ OF f n car tur ∧ (n < q → ¬ OF f n car tur = OF f q car tur)
theorem adv_I {f : AF} (hf : okF f) {car : Int32} (hw : car = 0 ∨ car = 1 ∨ car = 2) (tur pre kn : Int32) : ∀ i, i ≤ 5 → AdI f car tur pre kn i (mAdv f car tur pre kn w0 i).1 (mAdv f car tur pre kn w0 i).2.1
  | 0, _ => Or.inl ⟨fun n h1 h2 => absurd h2 (by omega), rfl⟩
  | i + 1, hi => by
    have ih := adv_I hf hw tur pre kn i (by omega)
    rw [mAdv]
    generalize mAdv f car tur pre kn w0 i = a at ih ⊢
    obtain ⟨o1, o2⟩ := on_w hf (show 2 ≤ i + 2 by omega) (by omega) hw tur pre a.2.2
    unfold mAdS
    rw [o1, o2]
    by_cases hk : kn < mAK (CL f (i + 2) car tur) pre 8
    · rw [if_pos hk]
      rcases ih with ⟨h1, h2⟩ | ⟨q, h1, h2, h3, h4, h5, h6⟩
      · refine Or.inl ⟨fun n a1 a2 => ?_, h2⟩
        by_cases e : n = i + 2
        · rw [e]; exact hk
        · exact h1 n a1 (by omega)
      · refine Or.inr ⟨q, h1, by omega, h3, h4, h5, fun n a1 a2 a3 => ?_⟩
        by_cases e : n = i + 2
        · rw [e] at a3; exact absurd hk a3
        · exact h6 n a1 (by omega) a3
    · rw [if_neg hk]
      rcases ih with ⟨h1, h2⟩ | ⟨q, h1, h2, h3, h4, h5, h6⟩
      · rw [if_pos h2]
        refine Or.inr ⟨i + 2, by omega, by omega, rfl, rfl, hk, fun n a1 a2 a3 => ?_⟩
        by_cases e : n = i + 2
        · rw [e]; exact ⟨Int32.le_refl _, fun z => absurd z (by omega)⟩
        · exact absurd (h1 n a1 (by omega)) a3
      · have hne : ¬ a.1 = (-1) := by
          rw [h3]
          intro z
          have := nI_pos (n := q) (by omega)
          rw [z] at this
          exact this (by decide)
        rw [if_neg hne, h4]
        by_cases ho : OF f (i + 2) car tur < OF f q car tur
        · rw [if_pos ho]
          refine Or.inr ⟨i + 2, by omega, by omega, rfl, rfl, hk, fun n a1 a2 a3 => ?_⟩
          by_cases e : n = i + 2
          · rw [e]; exact ⟨Int32.le_refl _, fun z => absurd z (by omega)⟩
          · have := (h6 n a1 (by omega) a3).1
            have hlt := Int32.lt_of_lt_of_le ho this
            exact ⟨Int32.le_of_lt hlt, fun _ z => by rw [z] at hlt; exact Int32.lt_irrefl hlt⟩
        · rw [if_neg ho]
          refine Or.inr ⟨q, h1, by omega, h3, rfl, h5, fun n a1 a2 a3 => ?_⟩
          by_cases e : n = i + 2
          · rw [e]; exact ⟨Int32.not_lt.mp ho, fun z => absurd z (by omega)⟩
          · exact h6 n a1 (by omega) a3
/-! thread -/
def csF (k : AF) : Nat → Int32
  | 0 => 0
  | i + 1 => csF k i + mCo k (nI i) 96
theorem cs_6 {k : AF} {q : Nat} (hq : q ≤ 6) (h : ∀ j, j < 96 → ∃ v, v < q ∧ k j = nI v) : csF k 6 = 96 := by
  have h6 := cnt_6 (k := k) (fun j hj => by obtain ⟨v, h1, h2⟩ := h j hj; exact ⟨v, by omega, h2⟩)
  have e : csF k 6 = nI (cntP (isS k 0) 96 + cntP (isS k 1) 96 + cntP (isS k 2) 96 + cntP (isS k 3) 96 + cntP (isS k 4) 96 + cntP (isS k 5) 96) := by
    simp only [csF, mCo_c, Int32.zero_add, ← nI_add]
  rw [e, h6]
  rfl
theorem co_no {k : AF} {q c : Nat} (h : ∀ j, j < 96 → ∃ v, v < q ∧ k j = nI v) (hq : q ≤ 6) (hc : c < 6) (hp : ¬ mCo k (nI c) 96 ≤ 0) : c < q := by
  rcases Nat.lt_or_ge c q with z | z
  · exact z
  · exfalso
    apply hp
    rw [mCo_c]
    have : cntP (isS k c) 96 = 0 := by
      rcases Nat.eq_zero_or_pos (cntP (isS k c) 96) with w | w
      · exact w
      · obtain ⟨j, hj, e⟩ := (cnt_pos 96).mp w
        have e2 : k j = nI c := by simpa [isS] using e
        obtain ⟨v, hv, e3⟩ := h j hj
        rw [e2] at e3
        have := (nI_eq (by omega) (by omega)).mp e3
        omega
    rw [this]
    exact Int32.le_refl _
theorem tot_lt {th : AF} (h : okT th) : tot th < 6000 := by
  obtain ⟨v0, a0, e0⟩ := h 0 (by omega)
  obtain ⟨v1, a1, e1⟩ := h 1 (by omega)
  obtain ⟨v2, a2, e2⟩ := h 2 (by omega)
  obtain ⟨v3, a3, e3⟩ := h 3 (by omega)
  obtain ⟨v4, a4, e4⟩ := h 4 (by omega)
  obtain ⟨v5, a5, e5⟩ := h 5 (by omega)
  unfold tot
  rw [nI_vI (by omega) e0, nI_vI (by omega) e1, nI_vI (by omega) e2, nI_vI (by omega) e3, nI_vI (by omega) e4, nI_vI (by omega) e5]
  omega
theorem hold_le {th th' : AF} (h : okT th) (h' : okT th') (ht : tot th' ≤ tot th + 99) : mHold th' 6 ≤ mHold th 6 + 99 := by
  have a := tot_lt h
  rw [hold_tot h, hold_tot h', show nI (tot th) + 99 = nI (tot th + 99) from nI_add (tot th) 99]
  exact le_nI ht (by omega)
theorem hold_96 {th th' : AF} (h : okT th) (h' : okT th') (ht : tot th' + 96 = tot th) : mHold th' 6 = mHold th 6 - 96 := by
  rw [hold_tot h, hold_tot h', show nI (tot th) - 96 = nI (tot th - 96) from pk_sub (b := 96) (by omega)]
  congr 1
  omega
end MWQ3
