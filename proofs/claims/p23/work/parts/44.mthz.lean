/-! Sim and the others: the sorted row, the boxes, the palette, the nearest -/
section MTHZ
/-- the rows of a pattern -/
def RW (c : Nat → AF) (f : AF) : Prop := ∀ y, y < 8 → ∀ x, x < 12 → c y x = f (12 * y + x)
/-! the sorted row -/
theorem zSh_spec (s : Int32) : ∀ i (a : AF), (zSh s i a).2 ≤ i ∧ (∀ j, (zSh s i a).1 j = if (zSh s i a).2 < j ∧ j ≤ i then a (j - 1) else a j) ∧ (∀ j, (zSh s i a).2 ≤ j → j < i → s < a j) ∧ (0 < (zSh s i a).2 → ¬ s < a ((zSh s i a).2 - 1))
  | 0, a => ⟨Nat.le_refl _, fun j => by
      show a j = _
      rw [if_neg (by show ¬ (0 < j ∧ j ≤ 0); omega)], fun j _ h => absurd h (Nat.not_lt_zero j), fun h => absurd h (Nat.lt_irrefl 0)⟩
  | i + 1, a => by
    rw [zSh]
    by_cases h : s < a i
    · rw [if_pos h]
      obtain ⟨h1, h2, h3, h4⟩ := zSh_spec s i (upd a (i + 1) (a i))
      refine ⟨by omega, fun j => ?_, fun j hj hj2 => ?_, fun hp => ?_⟩
      · rw [h2 j]
        by_cases e : (zSh s i (upd a (i + 1) (a i))).2 < j ∧ j ≤ i
        · rw [if_pos e, if_pos ⟨e.1, by omega⟩, pk_un (by omega)]
        · rw [if_neg e]
          by_cases e2 : j = i + 1
          · subst e2
            rw [pk_us, if_pos ⟨by omega, Nat.le_refl _⟩, Nat.add_sub_cancel]
          · rw [pk_un e2, if_neg (by omega)]
      · by_cases e : j = i
        · subst e; exact h
        · have := h3 j hj (by omega)
          rw [pk_un (by omega)] at this
          exact this
      · have := h4 hp
        rw [pk_un (by omega)] at this
        exact this
    · rw [if_neg h]
      exact ⟨Nat.le_refl _, fun j => by
        show a j = _
        rw [if_neg (by show ¬ (i + 1 < j ∧ j ≤ i + 1); omega)], fun j h1 h2 => absurd (show i + 1 ≤ j from h1) (by omega), fun _ => by show ¬ s < a (i + 1 - 1); rw [Nat.add_sub_cancel]; exact h⟩
/-- one more among k -/
theorem cnt_ins {a b : AF} {s : Int32} {p : Nat} (v : Nat) (h1 : ∀ j, j < p → b j = a j) (h2 : b p = s) : ∀ n, p ≤ n → (∀ j, p < j → j ≤ n → b j = a (j - 1)) → cntP (isS b v) (n + 1) = cntP (isS a v) n + if s = nI v then 1 else 0
  | 0, hp, _ => by
    have : p = 0 := by omega
    subst this
    rw [cntP_1]
    show 0 + _ = 0 + _
    by_cases e : s = nI v
    · rw [if_pos e, if_pos (isS_iff.mpr (h2.trans e))]
    · rw [if_neg e, if_neg (fun z => e (h2.symm.trans (isS_iff.mp z)))]
  | n + 1, hp, h3 => by
    rw [cntP_1]
    by_cases e0 : p = n + 1
    · subst e0
      have hc : cntP (isS b v) (n + 1) = cntP (isS a v) (n + 1) := cntP_congr _ (fun j hj => by unfold isS; rw [h1 j hj])
      rw [hc]
      by_cases e : s = nI v
      · rw [if_pos e, if_pos (isS_iff.mpr (h2.trans e))]
      · rw [if_neg e, if_neg (fun z => e (h2.symm.trans (isS_iff.mp z)))]
    · rw [cnt_ins v h1 h2 n (by omega) (fun j q1 q2 => h3 j q1 (by omega)), cntP_1]
      have hb := h3 (n + 1) (by omega) (Nat.le_refl _)
      rw [Nat.add_sub_cancel] at hb
      by_cases e : a n = nI v
      · rw [if_pos (isS_iff.mpr (hb.trans e)), if_pos (isS_iff.mpr e)]
        omega
      · rw [if_neg (fun z => e (hb.symm.trans (isS_iff.mp z))), if_neg (fun z => e (isS_iff.mp z))]
        omega
/-- the flat row that is sorted -/
def flat (c : Nat → AF) : AF := fun j => c (j / 12) (j % 12)
/-- whole numbers u, in their order -/
def SU (so : AF) (n : Nat) (u : Nat → Nat) : Prop := (∀ j, j < n → u j < 256 ∧ so j = nI (u j)) ∧ ∀ i j, i ≤ j → j < n → u i ≤ u j
theorem zSo_su {c : Nat → AF} (hc : ∀ j, j < 96 → ∃ v, v < 256 ∧ flat c j = nI v) : ∀ k, k ≤ 96 → (∃ u, SU (zSo c k) k u) ∧ ∀ v, cntP (isS (zSo c k) v) k = cntP (isS (flat c) v) k
  | 0, _ => ⟨⟨fun _ => 0, fun j h => absurd h (Nat.not_lt_zero j), fun i j _ h => absurd h (Nat.not_lt_zero j)⟩, fun v => rfl⟩
  | k + 1, hk => by
    obtain ⟨⟨u, hu1, hu2⟩, hcnt⟩ := zSo_su hc k (by omega)
    obtain ⟨w, hw, ew⟩ := hc k (by omega)
    obtain ⟨p1, p2, p3, p4⟩ := zSh_spec (c (k / 12) (k % 12)) k (zSo c k)
    have ew : c (k / 12) (k % 12) = nI w := ew
    have eb : zSo c (k + 1) = upd (zSh (c (k / 12) (k % 12)) k (zSo c k)).1 (zSh (c (k / 12) (k % 12)) k (zSo c k)).2 (c (k / 12) (k % 12)) := rfl
    generalize hP : (zSh (c (k / 12) (k % 12)) k (zSo c k)).2 = p at p1 p2 p3 p4 eb
    generalize hA : (zSh (c (k / 12) (k % 12)) k (zSo c k)).1 = a at p2 eb
    rw [ew] at p3 p4 eb
    have b1 : ∀ j, j < p → zSo c (k + 1) j = zSo c k j := fun j hj => by rw [eb, pk_un (by omega), p2 j, if_neg (by omega)]
    have b2 : zSo c (k + 1) p = nI w := by rw [eb, pk_us]
    have b3 : ∀ j, p < j → j ≤ k → zSo c (k + 1) j = zSo c k (j - 1) := fun j h1 h2 => by rw [eb, pk_un (by omega), p2 j, if_pos ⟨h1, h2⟩]
    refine ⟨⟨fun j => if j < p then u j else if j = p then w else u (j - 1), fun j hj => ?_, fun i j hij hj => ?_⟩, fun v => ?_⟩
    · by_cases e1 : j < p
      · simp only [if_pos e1]
        rw [b1 j e1]
        exact hu1 j (by omega)
      · by_cases e2 : j = p
        · subst e2
          simp only [if_neg e1, if_true]
          exact ⟨hw, b2⟩
        · simp only [if_neg e1, if_neg e2]
          rw [b3 j (by omega) (by omega)]
          exact hu1 (j - 1) (by omega)
    · have lo : ∀ i, i < p → u i ≤ w := by
        intro i hi
        have h4 := p4 (by omega)
        have h5 := (hu1 (p - 1) (by omega))
        rw [h5.2] at h4
        have h6 : ¬ w < u (p - 1) := fun z => h4 ((nI_ltI (show w < 2 ^ 31 by omega) (show u (p - 1) < 2 ^ 31 by omega)).mpr z)
        have h7 := hu2 i (p - 1) (by omega) (by omega)
        omega
      have hi : ∀ i, p ≤ i → i < k → w ≤ u i := by
        intro i h1 h2
        have h4 := p3 i h1 h2
        have h5 := hu1 i h2
        rw [h5.2] at h4
        have h6 := (nI_ltI (show w < 2 ^ 31 by omega) (show u i < 2 ^ 31 by omega)).mp h4
        omega
      by_cases a1 : i < p
      · by_cases a2 : j < p
        · simp only [if_pos a1, if_pos a2]
          exact hu2 i j hij (by omega)
        · by_cases a3 : j = p
          · simp only [if_pos a1, if_neg a2, if_pos a3]
            exact lo i a1
          · simp only [if_pos a1, if_neg a2, if_neg a3]
            exact Nat.le_trans (lo i a1) (hi (j - 1) (by omega) (by omega))
      · by_cases a2 : i = p
        · by_cases a3 : j = p
          · have : i = j := by omega
            subst this
            exact Nat.le_refl _
          · simp only [if_neg a1, if_pos a2, if_neg (show ¬ j < p by omega), if_neg a3]
            exact hi (j - 1) (by omega) (by omega)
        · simp only [if_neg a1, if_neg a2, if_neg (show ¬ j < p by omega), if_neg (show ¬ j = p by omega)]
          exact hu2 (i - 1) (j - 1) (by omega) (by omega)
    · rw [cnt_ins v b1 b2 k p1 b3, hcnt v, cntP_1]
      by_cases e : nI w = nI v
      · rw [if_pos e, if_pos (isS_iff.mpr (show flat c k = nI v from ew.trans e))]
      · rw [if_neg e, if_neg (fun z => e ((show nI w = flat c k from ew.symm).trans (isS_iff.mp z)))]
theorem cntP_le_of {p : Nat → Bool} {j : Nat} : ∀ n, (∀ i, i < n → p i = true → i < j) → cntP p n ≤ j
  | 0, _ => Nat.zero_le _
  | n + 1, h => by
    rw [cntP_1]
    by_cases e : p n = true
    · have := h n (by omega) e
      have h2 := cntP_le p n
      rw [if_pos e]
      omega
    · rw [if_neg e]
      exact cntP_le_of n (fun i hi => h i (by omega))
theorem cntP_ge_of {p : Nat → Bool} {j : Nat} (h : ∀ i, i < j → p i = true) : ∀ n, j ≤ n → j ≤ cntP p n
  | 0, hn => by omega
  | n + 1, hn => by
    by_cases e : j = n + 1
    · rw [← e, cntP_all j h]
      exact Nat.le_refl _
    · rw [cntP_1]
      have := cntP_ge_of h n (by omega)
      omega
theorem inS_cnt {a f : AF} (h : ∀ v, cntP (isS a v) 96 = cntP (isS f v) 96) : ∀ v, v < 2147483648 → cntP (inS a v) 96 = cntP (inS f v) 96
  | 0, _ => rfl
  | v + 1, hv => by
    have dj : ∀ g : AF, ∀ j, ¬ (inS g v j = true ∧ isS g v j = true) := by
      rintro g j ⟨h1, h2⟩
      rw [inS_not g (by omega) (isS_iff.mp h2) v (Nat.le_refl v)] at h1
      cases h1
    show cntP (fun j => inS a v j || isS a v j) 96 = cntP (fun j => inS f v j || isS f v j) 96
    rw [cntP_or (dj a), cntP_or (dj f), inS_cnt h v (by omega), h v]
theorem inS_iff {a : AF} {u j : Nat} (hu : u < 2147483648) (h : a j = nI u) {v : Nat} (hv : v < 2147483648) : inS a v j = true ↔ u < v := by
  constructor
  · intro h1
    rcases Nat.lt_or_ge u v with h2 | h2
    · exact h2
    · rw [inS_not a hu h v h2] at h1
      cases h1
  · intro h1
    exact inS_yes h v h1
theorem mSrt_at {f so : AF} {j v : Nat} (h1 : cntP (inS f v) 96 ≤ j) (h2 : j < cntP (inS f (v + 1)) 96) : ∀ s, v + 1 ≤ s → s < 2147483648 → (mSoS f so s).1 j = nI v
  | 0, h, _ => by omega
  | s + 1, h, hs => by
    have e2 : (mSoS f so (s + 1)).1 j = _ := mSoX_at f s (mSoS f so s) 96 j
    have e3 := mSoS_2 f so s (by omega)
    rw [e2]
    by_cases e : s = v
    · subst e
      have e4 := mSoS_2 f so (s + 1) hs
      have e5 : (mSoS f so (s + 1)).2 = (mSoS f so s).2 + cntP (isS f s) 96 := mSoX_2 f s (mSoS f so s) 96
      rw [if_pos (by omega)]
    · have hlt : j < (mSoS f so s).2 := by
        rw [e3]
        have : cntP (inS f (v + 1)) 96 ≤ cntP (inS f s) 96 := by
          have mono : ∀ k, cntP (inS f (v + 1)) 96 ≤ cntP (inS f (v + 1 + k)) 96 := by
            intro k
            induction k with
            | zero => exact Nat.le_refl _
            | succ k ih =>
              refine Nat.le_trans ih ?_
              have : ∀ n, cntP (inS f (v + 1 + k)) n ≤ cntP (inS f (v + 1 + (k + 1))) n := by
                intro n
                induction n with
                | zero => exact Nat.le_refl _
                | succ n ihn =>
                  rw [cntP_1, cntP_1]
                  have : inS f (v + 1 + k) n = true → inS f (v + 1 + (k + 1)) n = true := fun z => by
                    show (inS f (v + 1 + k) n || isS f (v + 1 + k) n) = true
                    rw [z, Bool.true_or]
                  by_cases z : inS f (v + 1 + k) n = true
                  · rw [if_pos z, if_pos (this z)]; omega
                  · rw [if_neg z]; omega
              exact this 96
          have := mono (s - (v + 1))
          rw [show v + 1 + (s - (v + 1)) = s by omega] at this
          exact this
        omega
      rw [if_neg (by omega)]
      exact mSrt_at h1 h2 s (by omega) (by omega)
theorem flat_f {c : Nat → AF} {f : AF} (h : RW c f) : ∀ j, j < 96 → flat c j = f j := by
  intro j hj
  show c (j / 12) (j % 12) = _
  rw [h (j / 12) (by omega) (j % 12) (by omega)]
  congr 1
  omega
theorem so_su {c : Nat → AF} {f : AF} (h : RW c f) (hf : okF f) : ∃ u, SU (zSo c 96) 96 u := (zSo_su (c := c) (fun j hj => by rw [flat_f h j hj]; exact hf j hj) 96 (Nat.le_refl _)).1
theorem so_m {c : Nat → AF} {f : AF} (h : RW c f) (hf : okF f) (so : AF) : ∀ j, j < 96 → zSo c 96 j = mSrt f so j := by
  intro j hj
  obtain ⟨⟨u, hu1, hu2⟩, hcnt⟩ := zSo_su (c := c) (fun j hj => by rw [flat_f h j hj]; exact hf j hj) 96 (Nat.le_refl _)
  have hcf : ∀ v, cntP (isS (zSo c 96) v) 96 = cntP (isS f v) 96 := fun v => by
    rw [hcnt v]
    exact cntP_congr _ (fun i hi => by unfold isS; rw [flat_f h i hi])
  obtain ⟨g1, g2⟩ := hu1 j hj
  rw [g2]
  refine (mSrt_at (so := so) (v := u j) ?_ ?_ 256 (by omega) (by omega)).symm
  · rw [← inS_cnt hcf (u j) (by omega)]
    refine cntP_le_of 96 (fun i hi hz => ?_)
    have g3 := hu1 i hi
    have g4 := (inS_iff (show u i < 2147483648 by omega) g3.2 (show u j < 2147483648 by omega)).mp hz
    rcases Nat.lt_or_ge i j with z | z
    · exact z
    · have := hu2 j i z hi
      omega
  · rw [← inS_cnt hcf (u j + 1) (by omega)]
    refine cntP_ge_of (fun i hi => ?_) 96 (by omega)
    have g3 := hu1 i (by omega)
    refine (inS_iff (show u i < 2147483648 by omega) g3.2 (show u j + 1 < 2147483648 by omega)).mpr ?_
    have := hu2 i j (by omega) hj
    omega
/-! the boxes -/
theorem spr_nn {so : AF} {u : Nat → Nat} (hs : SU so 96 u) {e : Nat → Nat} {q k : Nat} (h : PA e q) (hk : k < q) : ∃ d, d < 256 ∧ aSpr so e k = nI d := by
  have h1 := h.2.2.2 k hk
  have h2 := PA.le h (a := k + 1) (by omega)
  have g1 := hs.1 (e (k + 1) - 1) (by omega)
  have g2 := hs.1 (e k) (by omega)
  have g3 := hs.2 (e k) (e (k + 1) - 1) (by omega) (by omega)
  refine ⟨u (e (k + 1) - 1) - u (e k), by omega, ?_⟩
  unfold aSpr
  rw [g1.2, g2.2, pk_sub g3]
theorem best_wid {so : AF} {u : Nat → Nat} (hs : SU so 96 u) {e : Nat → Nat} {q : Nat} (h : PA e q) : ∀ n, n < q → (zBest so e (n + 1)).2 = aSpr so e (aWid so e n) ∧ ((aSpr so e (aWid so e n) = 0 ∧ (zBest so e (n + 1)).1 = (-1)) ∨ (¬ aSpr so e (aWid so e n) = 0 ∧ (zBest so e (n + 1)).1 = nI (aWid so e n)))
  | 0, hn => by
    obtain ⟨d, hd, ed⟩ := spr_nn hs h hn
    have ez : zBest so e 1 = if aSpr so e 0 ≤ 0 then ((-1), 0) else (nI 0, aSpr so e 0) := rfl
    show (zBest so e 1).2 = aSpr so e 0 ∧ _
    rw [ez]
    by_cases c : aSpr so e 0 ≤ 0
    · have c0 : aSpr so e 0 = 0 := by
        rw [ed] at c ⊢
        rw [(nI_le0 (by omega)).mp c]
        rfl
      rw [if_pos c]
      exact ⟨c0.symm, Or.inl ⟨c0, rfl⟩⟩
    · rw [if_neg c]
      refine ⟨rfl, Or.inr ⟨fun z => c ?_, rfl⟩⟩
      have z : aSpr so e 0 = 0 := z
      rw [z]; exact Int32.le_refl _
  | n + 1, hn => by
    obtain ⟨i1, i2⟩ := best_wid hs h n (by omega)
    obtain ⟨d, hd, ed⟩ := spr_nn hs h hn
    have hw := aWid_le so e n
    obtain ⟨d2, hd2, ed2⟩ := spr_nn hs h (k := aWid so e n) (by omega)
    have ez : zBest so e (n + 1 + 1) = if aSpr so e (n + 1) ≤ (zBest so e (n + 1)).2 then zBest so e (n + 1) else (nI (n + 1), aSpr so e (n + 1)) := rfl
    have ew : aWid so e (n + 1) = if aSpr so e (n + 1) ≤ aSpr so e (aWid so e n) then aWid so e n else n + 1 := rfl
    rw [ez, ew, i1]
    by_cases c : aSpr so e (n + 1) ≤ aSpr so e (aWid so e n)
    · rw [if_pos c, if_pos c]
      exact ⟨i1, i2⟩
    · rw [if_neg c, if_neg c]
      refine ⟨rfl, Or.inr ⟨fun z => c ?_, rfl⟩⟩
      rw [z, ed2]
      exact nI_pos' (show d2 < 2 ^ 31 by omega)
theorem spr_c {so so' : AF} (hso : ∀ j, j < 96 → so j = so' j) {e : Nat → Nat} {q k : Nat} (h : PA e q) (hk : k < q) : aSpr so e k = aSpr so' e k := by
  have h1 := h.2.2.2 k hk
  have h2 := PA.le h (a := k + 1) (by omega)
  unfold aSpr
  rw [hso _ (by omega), hso _ (by omega)]
theorem wid_c {so so' : AF} (hso : ∀ j, j < 96 → so j = so' j) {e : Nat → Nat} {q : Nat} (h : PA e q) : ∀ n, n < q → aWid so e n = aWid so' e n
  | 0, _ => rfl
  | n + 1, hn => by
    have ih := wid_c hso h n (by omega)
    have hw := aWid_le so' e n
    rw [aWid, aWid, ih, spr_c hso h hn, spr_c hso h (show aWid so' e n < q by omega)]
theorem zfit_m {so so' : AF} {u : Nat → Nat} (hs : SU so 96 u) (hso : ∀ j, j < 96 → so j = so' j) : ∀ (n q : Nat) (e : Nat → Nat), PA e q → q + n ≤ 6 → zFit so n q e = aFit so' n q e ∧ PA (aFit so' n q e).1 (aFit so' n q e).2
  | 0, q, e, h, _ => ⟨rfl, h⟩
  | n + 1, q, e, h, hq => by
    have hq1 := h.1
    have hw := aWid_le so' e (q - 1)
    obtain ⟨-, b2⟩ := best_wid hs h (q - 1) (by omega)
    rw [show q - 1 + 1 = q by omega, wid_c hso h (q - 1) (by omega), spr_c hso h (show aWid so' e (q - 1) < q by omega)] at b2
    rw [aFit]
    rcases b2 with ⟨c1, c2⟩ | ⟨c1, c2⟩
    · rw [if_neg (fun z => z c1), zFit, c2, if_neg (by decide)]
      exact ⟨rfl, h⟩
    · rw [if_pos c1, zFit, c2, if_pos (nI_pos' (show aWid so' e (q - 1) < 2 ^ 31 by omega)), cl_nI (by omega)]
      exact zfit_m hs hso n (q + 1) _ (PA_spl h (by omega) (PA_two (so := so') h (by omega) c1)) (by omega)
/-! the palette -/
theorem mdX_at (a so : AF) (k s : Nat) : ∀ t j, zMdX a so k s t j = if j = k then a k + aSum so s t else a j
  | 0, j => by
    show a j = _
    by_cases e : j = k
    · rw [if_pos e, e]
      show a k = a k + 0
      exact (Int32.add_zero _).symm
    · rw [if_neg e]
  | t + 1, j => by
    show upd (zMdX a so k s t) k (zMdX a so k s t k + so (s + t)) j = _
    by_cases e : j = k
    · subst e
      rw [pk_us, if_pos rfl, mdX_at a so j s t j, if_pos rfl, aSum, Int32.add_assoc]
    · rw [pk_un e, mdX_at a so k s t j, if_neg e, if_neg e]
theorem md_at (so : AF) (e : Nat → Nat) : ∀ k j, zMd so e k j = if j < k then aMean so e j else 0
  | 0, j => by rw [if_neg (Nat.not_lt_zero j)]; rfl
  | k + 1, j => by
    show upd (zMdX (zMd so e k) so k (e k) (e (k + 1) - e k)) k (zMdX (zMd so e k) so k (e k) (e (k + 1) - e k) k / nI (e (k + 1) - e k)) j = _
    by_cases h : j = k
    · subst h
      rw [pk_us, if_pos (by omega), mdX_at, if_pos rfl, md_at so e j j, if_neg (Nat.lt_irrefl j), Int32.zero_add]
      rfl
    · rw [pk_un h, mdX_at, if_neg h, md_at so e k j]
      by_cases h2 : j < k
      · rw [if_pos h2, if_pos (by omega)]
      · rw [if_neg h2, if_neg (by omega)]
theorem sum_c {so so' : AF} (hso : ∀ j, j < 96 → so j = so' j) (s : Nat) : ∀ i, s + i ≤ 96 → aSum so s i = aSum so' s i
  | 0, _ => rfl
  | i + 1, h => by rw [aSum, aSum, sum_c hso s i (by omega), hso _ (by omega)]
theorem pal_at (so : AF) (e : Nat → Nat) (pa : AF) : ∀ k j, j < k → aPal so e pa k j = aMean so e j
  | k + 1, j, h => by
    show upd (aPal so e pa k) k (aMean so e k) j = _
    by_cases h2 : j = k
    · subst h2; rw [pk_us]
    · rw [pk_un h2]
      exact pal_at so e pa k j (by omega)
theorem zB_m' {c : Nat → AF} {f : AF} (h : RW c f) (hf : okF f) (so : AF) {m : Nat} (h1 : 1 ≤ m) (h6 : m ≤ 6) : zB c m = (mFit f so m).2 := by
  obtain ⟨u, hu⟩ := so_su h hf
  have := (zfit_m hu (so_m h hf so) (m - 1) 1 aE0 PA_0 (by omega)).1
  unfold zB mFit
  rw [this]
theorem mFit_PA {f : AF} (hf : okF f) (so : AF) {m : Nat} (h1 : 1 ≤ m) (h6 : m ≤ 6) : PA (mFit f so m).1 (mFit f so m).2 := by
  have h : RW (fun y x => f (12 * y + x)) f := fun _ _ _ _ => rfl
  obtain ⟨u, hu⟩ := so_su h hf
  exact (zfit_m hu (so_m h hf so) (m - 1) 1 aE0 PA_0 (by omega)).2
theorem zPal_m {c : Nat → AF} {f : AF} (h : RW c f) (hf : okF f) (so pa : AF) {m : Nat} (h1 : 1 ≤ m) (h6 : m ≤ 6) : ∀ j, j < (mFit f so m).2 → zPal c m j = mPal f so pa m j := by
  intro j hj
  obtain ⟨u, hu⟩ := so_su h hf
  obtain ⟨e1, e2⟩ := zfit_m hu (so_m h hf so) (m - 1) 1 aE0 PA_0 (by omega)
  have e1 : zFit (zSo c 96) (m - 1) 1 aE0 = mFit f so m := e1
  have e2 : PA (mFit f so m).1 (mFit f so m).2 := e2
  unfold zPal mPal
  rw [e1, md_at, if_pos hj, pal_at _ _ _ _ _ hj]
  have g1 := e2.2.2.2 j hj
  have g2 := PA.le e2 (a := j + 1) (by omega)
  unfold aMean
  rw [sum_c (so_m h hf so) _ _ (by omega)]
/-! the nearest -/
theorem mNear_min (pa : AF) (w : Int32) : ∀ i, (∀ c, c ≤ i → sAbs (w - pa (mNear pa w i)) ≤ sAbs (w - pa c)) ∧ ∀ c, c < mNear pa w i → sAbs (w - pa (mNear pa w i)) < sAbs (w - pa c)
  | 0 => ⟨fun c hc => by
      have : c = 0 := by omega
      subst this; exact Int32.le_refl _, fun c hc => absurd hc (Nat.not_lt_zero c)⟩
  | i + 1 => by
    obtain ⟨h1, h2⟩ := mNear_min pa w i
    have hl := mNear_le pa w i
    rw [mNear]
    by_cases e : sAbs (w - pa (mNear pa w i)) ≤ sAbs (w - pa (i + 1))
    · rw [if_pos e]
      refine ⟨fun c hc => ?_, h2⟩
      by_cases z : c = i + 1
      · rw [z]; exact e
      · exact h1 c (by omega)
    · rw [if_neg e]
      have e := Int32.not_le.mp e
      refine ⟨fun c hc => ?_, fun c hc => ?_⟩
      · by_cases z : c = i + 1
        · rw [z]; exact Int32.le_refl _
        · exact Int32.le_of_lt (Int32.lt_of_lt_of_le e (h1 c (by omega)))
      · exact Int32.lt_of_lt_of_le e (h1 c (by omega))
theorem zNear_inv (pa : AF) (w : Int32) {n : Nat} (hn : 0 < n) : ∀ t, t ≤ n → (∀ c, n - t ≤ c → c < n → sAbs (w - pa (zNear pa w n t)) ≤ sAbs (w - pa c)) ∧ sAbs (w - pa (zNear pa w n t)) ≤ sAbs (w - pa 0) ∧ (zNear pa w n t = 0 ∨ ∀ c, n - t ≤ c → c < zNear pa w n t → sAbs (w - pa (zNear pa w n t)) < sAbs (w - pa c))
  | 0, _ => ⟨fun c h1 h2 => absurd h1 (by omega), Int32.le_refl _, Or.inl rfl⟩
  | t + 1, ht => by
    obtain ⟨h1, h2, h3⟩ := zNear_inv pa w hn t (by omega)
    rw [zNear]
    by_cases e : sAbs (w - pa (n - t - 1)) ≤ sAbs (w - pa (zNear pa w n t))
    · rw [if_pos e]
      refine ⟨fun c c1 c2 => ?_, Int32.le_trans e h2, Or.inr (fun c c1 c2 => absurd c1 (by omega))⟩
      by_cases z : c = n - t - 1
      · rw [z]; exact Int32.le_refl _
      · exact Int32.le_trans e (h1 c (by omega) c2)
    · rw [if_neg e]
      have e := Int32.not_le.mp e
      refine ⟨fun c c1 c2 => ?_, h2, ?_⟩
      · by_cases z : c = n - t - 1
        · rw [z]; exact Int32.le_of_lt e
        · exact h1 c (by omega) c2
      · rcases h3 with h3 | h3
        · exact Or.inl h3
        · refine Or.inr (fun c c1 c2 => ?_)
          by_cases z : c = n - t - 1
          · rw [z]; exact e
          · exact h3 c (by omega) c2
theorem zNear_m {pa pa' : AF} {n : Nat} (hn : 0 < n) (hp : ∀ k, k < n → pa k = pa' k) (w : Int32) : zNear pa w n n = mNear pa' w (n - 1) := by
  obtain ⟨a1, a2, a3⟩ := zNear_inv pa w hn n (Nat.le_refl n)
  obtain ⟨b1, b2⟩ := mNear_min pa' w (n - 1)
  have l1 := zNear_lt pa w hn n
  have l2 := mNear_le pa' w (n - 1)
  generalize zNear pa w n n = Z at a1 a2 a3 l1 ⊢
  generalize mNear pa' w (n - 1) = M at b1 b2 l2 ⊢
  have e1 := a1 M (by omega) (by omega)
  have e2 := b1 Z (by omega)
  rw [hp Z l1, hp M (by omega)] at e1
  rcases Nat.lt_trichotomy Z M with h | h | h
  · exact absurd e1 (Int32.not_le.mpr (b2 Z h))
  · exact h
  · rcases a3 with a3 | a3
    · omega
    · have := a3 M (by omega) h
      rw [hp Z l1, hp M (by omega)] at this
      exact absurd e2 (Int32.not_le.mpr this)
end MTHZ
