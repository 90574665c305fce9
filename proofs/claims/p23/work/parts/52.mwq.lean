/-! the property: palettes, boxes, what is off, runs -/
section MWQ
theorem cnt_pos {p : Nat → Bool} : ∀ n, 0 < cntP p n ↔ ∃ j, j < n ∧ p j = true
  | 0 => ⟨fun h => absurd h (Nat.lt_irrefl 0), fun ⟨j, h, _⟩ => absurd h (Nat.not_lt_zero j)⟩
  | n + 1 => by
    rw [cntP]
    have ih := cnt_pos (p := p) n
    constructor
    · intro h
      by_cases e : p n = true
      · exact ⟨n, by omega, e⟩
      · rw [if_neg e] at h
        obtain ⟨j, h1, h2⟩ := ih.mp (by omega)
        exact ⟨j, by omega, h2⟩
    · rintro ⟨j, h1, h2⟩
      by_cases e : j = n
      · subst e; rw [if_pos h2]; omega
      · have := ih.mpr ⟨j, by omega, h2⟩
        omega
theorem cnt_le_img {g : Nat → Nat} {n : Nat} : ∀ (q : Nat) (p : Nat → Bool), (∀ v, v < n → p v = true → ∃ k, k < q ∧ v = g k) → cntP p n ≤ q
  | 0, p, h => by
    rcases Nat.eq_zero_or_pos (cntP p n) with z | z
    · omega
    · obtain ⟨j, h1, h2⟩ := (cnt_pos n).mp z
      obtain ⟨k, hk, -⟩ := h j h1 h2
      omega
  | q + 1, p, h => by
    have h1 := cnt_le_img (g := g) q (fun v => p v && !decide (v = g q)) (fun v hv hp => by
      simp only [Bool.and_eq_true, Bool.not_eq_true', decide_eq_false_iff_not] at hp
      obtain ⟨k, hk, e⟩ := h v hv hp.1
      rcases Nat.lt_or_ge k q with z | z
      · exact ⟨k, z, e⟩
      · have e9 : k = q := by omega
        rw [e9] at e
        exact absurd e hp.2)
    have h2 : ∀ m, cntP p m ≤ cntP (fun v => p v && !decide (v = g q)) m + 1 ∧ (m ≤ g q → cntP p m ≤ cntP (fun v => p v && !decide (v = g q)) m) := fun m => by
      induction m with
      | zero => exact ⟨Nat.zero_le _, fun _ => Nat.le_refl _⟩
      | succ m ih =>
        rw [cntP, cntP]
        by_cases e : m = g q
        · have i2 := ih.2 (by omega)
          refine ⟨?_, fun z => by omega⟩
          split <;> split <;> omega
        · have : (p m && !decide (m = g q)) = p m := by simp [e]
          rw [this]
          refine ⟨?_, fun z => ?_⟩
          · have := ih.1; omega
          · have := ih.2 (by omega); omega
    have := (h2 n).1
    omega
/-! the boxes -/
theorem fit_stop {so : AF} : ∀ (n q : Nat) (e : Nat → Nat), (aFit so n q e).2 < q + n → aSpr so (aFit so n q e).1 (aWid so (aFit so n q e).1 ((aFit so n q e).2 - 1)) = 0 ∧ ∀ n', n ≤ n' → aFit so n' q e = aFit so n q e
  | 0, q, e, h => absurd h (by show ¬ q < q + 0; omega)
  | n + 1, q, e, h => by
    rw [aFit] at h ⊢
    by_cases z : aSpr so e (aWid so e (q - 1)) = 0
    · rw [if_neg (fun w => w z)] at h ⊢
      refine ⟨z, fun n' hn => ?_⟩
      obtain ⟨k, rfl⟩ : ∃ k, n' = k + 1 := ⟨n' - 1, by omega⟩
      rw [aFit, if_neg (fun w => w z)]
    · rw [if_pos z] at h ⊢
      obtain ⟨h1, h2⟩ := fit_stop (so := so) n (q + 1) (aSpl e (aWid so e (q - 1))) (by omega)
      refine ⟨h1, fun n' hn => ?_⟩
      obtain ⟨k, rfl⟩ : ∃ k, n' = k + 1 := ⟨n' - 1, by omega⟩
      rw [aFit, if_pos z]
      exact h2 k (by omega)
theorem aFit_s (so : AF) (n q : Nat) (e : Nat → Nat) : aFit so (n + 1) q e = if ¬ aSpr so e (aWid so e (q - 1)) = 0 then aFit so n (q + 1) (aSpl e (aWid so e (q - 1))) else (e, q) := rfl
theorem fit_mono {so : AF} : ∀ (n q : Nat) (e : Nat → Nat), (aFit so n q e).2 ≤ (aFit so (n + 1) q e).2
  | 0, q, e => (aFit_q so 1 q e).1
  | n + 1, q, e => by
    rw [aFit_s so n q e, aFit_s so (n + 1) q e]
    by_cases z : aSpr so e (aWid so e (q - 1)) = 0
    · rw [if_neg (fun w => w z), if_neg (fun w => w z)]
      exact Nat.le_refl _
    · rw [if_pos z, if_pos z]
      exact fit_mono n (q + 1) _
theorem PQ_stop {f : AF} {m : Nat} (h1 : 1 ≤ m) (h : PQ f m < m) : aSpr (mSrt f z0) (mFit f z0 m).1 (aWid (mSrt f z0) (mFit f z0 m).1 (PQ f m - 1)) = 0 ∧ ∀ m', m ≤ m' → PQ f m' = PQ f m := by
  obtain ⟨a, b⟩ := fit_stop (so := mSrt f z0) (m - 1) 1 aE0 (by show PQ f m < _; omega)
  exact ⟨a, fun m' hm => by show (aFit _ _ _ _).2 = (aFit _ _ _ _).2; rw [b (m' - 1) (by omega)]⟩
theorem PQ_mono (f : AF) {m : Nat} (h1 : 1 ≤ m) : PQ f m ≤ PQ f (m + 1) := by
  have := fit_mono (so := mSrt f z0) (m - 1) 1 aE0
  rw [show m - 1 + 1 = m + 1 - 1 by omega] at this
  exact this
theorem wid_max (so : AF) (e : Nat → Nat) : ∀ n k, k ≤ n → aSpr so e k ≤ aSpr so e (aWid so e n)
  | 0, k, h => by rw [show k = 0 by omega]; exact Int32.le_refl _
  | n + 1, k, h => by
    have ih := wid_max so e n
    rw [aWid]
    by_cases z : aSpr so e (n + 1) ≤ aSpr so e (aWid so e n)
    · rw [if_pos z]
      by_cases e2 : k = n + 1
      · rw [e2]; exact z
      · exact ih k (by omega)
    · rw [if_neg z]
      by_cases e2 : k = n + 1
      · rw [e2]; exact Int32.le_refl _
      · exact Int32.le_trans (ih k (by omega)) (Int32.le_of_lt (Int32.not_le.mp z))
/-- each box is of one shade -/
theorem box_1 {f : AF} (hf : okF f) {m : Nat} (h1 : 1 ≤ m) (h6 : m ≤ 6) (h : PQ f m < m) {u : Nat → Nat} (hu : SU (mSrt f z0) 96 u) {k : Nat} (hk : k < PQ f m) : ∀ i, (mFit f z0 m).1 k ≤ i → i < (mFit f z0 m).1 (k + 1) → u i = u ((mFit f z0 m).1 k) := by
  intro i hi1 hi2
  have hp := mFit_PA hf z0 h1 h6
  have h0 := wid_max (mSrt f z0) (mFit f z0 m).1 (PQ f m - 1) k (by omega)
  rw [(PQ_stop h1 h).1] at h0
  have hle : (mFit f z0 m).1 (k + 1) ≤ 96 := hp.le (Nat.succ_le_of_lt hk)
  have e1 := (hu.1 ((mFit f z0 m).1 (k + 1) - 1) (by omega)).2
  have e2 := (hu.1 ((mFit f z0 m).1 k) (by omega)).2
  have b1 := (hu.1 ((mFit f z0 m).1 (k + 1) - 1) (by omega)).1
  have o1 := hu.2 ((mFit f z0 m).1 k) i hi1 (by omega)
  have o2 := hu.2 i ((mFit f z0 m).1 (k + 1) - 1) (by omega) (by omega)
  unfold aSpr at h0
  rw [e1, e2, pk_sub (by omega)] at h0
  have := (nI_le0 (by omega)).mp h0
  omega
/-- the shades of the pattern are those that are sorted -/
theorem sh_of {f : AF} (hf : okF f) {u : Nat → Nat} (hu : SU (mSrt f z0) 96 u) {i : Nat} (hi : i < 96) : ∃ j, j < 96 ∧ f j = nI (u i) := by
  have hc : RW (fun y x => f (12 * y + x)) f := fun _ _ _ _ => rfl
  have h1 := (zSo_su (c := fun y x => f (12 * y + x)) (fun j hj => by rw [flat_f hc j hj]; exact hf j hj) 96 (Nat.le_refl _)).2 (u i)
  have h2 : 0 < cntP (isS (zSo (fun y x => f (12 * y + x)) 96) (u i)) 96 := (cnt_pos 96).mpr ⟨i, hi, by
    show decide (_ = _) = true
    rw [so_m hc hf z0 i hi, (hu.1 i hi).2]
    exact decide_eq_true rfl⟩
  rw [h1] at h2
  obtain ⟨j, hj, e⟩ := (cnt_pos 96).mp h2
  refine ⟨j, hj, ?_⟩
  have e2 : flat (fun y x => f (12 * y + x)) j = nI (u i) := by simpa [isS] using e
  rw [flat_f hc j hj] at e2
  exact e2
theorem of_sh {f : AF} (hf : okF f) {u : Nat → Nat} (hu : SU (mSrt f z0) 96 u) {j : Nat} (hj : j < 96) : ∃ i, i < 96 ∧ f j = nI (u i) := by
  have hc : RW (fun y x => f (12 * y + x)) f := fun _ _ _ _ => rfl
  obtain ⟨v, hv, ev⟩ := hf j hj
  have h1 := (zSo_su (c := fun y x => f (12 * y + x)) (fun j hj => by rw [flat_f hc j hj]; exact hf j hj) 96 (Nat.le_refl _)).2 v
  have h2 : 0 < cntP (isS (flat (fun y x => f (12 * y + x))) v) 96 := (cnt_pos 96).mpr ⟨j, hj, by
    show decide (_ = _) = true
    rw [flat_f hc j hj, ev]
    exact decide_eq_true rfl⟩
  rw [← h1] at h2
  obtain ⟨i, hi, e⟩ := (cnt_pos 96).mp h2
  refine ⟨i, hi, ?_⟩
  have e2 : zSo (fun y x => f (12 * y + x)) 96 i = nI v := by simpa [isS] using e
  rw [so_m hc hf z0 i hi, (hu.1 i hi).2] at e2
  rw [ev, e2]
theorem in_box {e : Nat → Nat} {q : Nat} (hp : PA e q) {i : Nat} (hi : i < 96) : ∃ k, k < q ∧ e k ≤ i ∧ i < e (k + 1) := by
  have : ∀ n, n ≤ q → i < e n → ∃ k, k < n ∧ e k ≤ i ∧ i < e (k + 1) := fun n => by
    induction n with
    | zero => intro _ h; rw [hp.2.1] at h; omega
    | succ n ih =>
      intro hn h
      by_cases z : e n ≤ i
      · exact ⟨n, by omega, z, h⟩
      · obtain ⟨k, h1, h2⟩ := ih (by omega) (by omega)
        exact ⟨k, by omega, h2⟩
  exact this q (Nat.le_refl _) (by rw [hp.2.2.1]; exact hi)
/-- fewer boxes than told: every shade has a colour of its own -/
theorem pal_all {f : AF} (hf : okF f) {m : Nat} (h1 : 1 ≤ m) (h6 : m ≤ 6) (h : PQ f m < m) : ∀ j, j < 96 → ∃ k, k < PQ f m ∧ PP f m k = f j := by
  intro j hj
  obtain ⟨u, hu⟩ := srt_su hf
  obtain ⟨i, hi, e⟩ := of_sh hf hu hj
  have hp := mFit_PA hf z0 h1 h6
  obtain ⟨k, hk, h2, h3⟩ := in_box hp hi
  refine ⟨k, hk, ?_⟩
  obtain ⟨v, e1, e2, e3⟩ := pp_u hf h1 h6 hu hk
  have b1 := box_1 hf h1 h6 h hu hk i h2 h3
  have b2 := box_1 hf h1 h6 h hu hk ((mFit f z0 m).1 (k + 1) - 1) (by omega) (by omega)
  rw [e1, e, b1]
  congr 1
  omega
end MWQ
