/-! the property: weaving exactly, what is off, knots -/
section MWQ2
theorem abs_nI {a b : Nat} (ha : a < 256) (hb : b < 256) : ∃ d, d < 256 ∧ sAbs (nI a - nI b) = nI d ∧ (d = 0 → a = b) := by
  have e := pk_sub_toInt (a := a) (b := b) (by omega) (by omega)
  by_cases h : b ≤ a
  · refine ⟨a - b, by omega, ?_, fun z => by omega⟩
    rw [pk_sub h]
    unfold sAbs
    rw [if_pos (nI_pos' (by omega))]
  · refine ⟨b - a, by omega, ?_, fun z => by omega⟩
    unfold sAbs
    rw [if_neg (by rw [Int32.le_iff_toInt_le, e, Int32.toInt_zero]; omega)]
    apply Int32.toInt_inj.mp
    have e2 : (nI b - nI a).toInt = (b : Int) - a := pk_sub_toInt (by omega) (by omega)
    have e3 : (0 : Int32) - (nI a - nI b) = nI b - nI a := by
      rw [Int32.zero_sub, Int32.neg_sub]
    rw [e3, pk_sub (by omega)]
theorem near_eq {pal : AF} {b : Nat} (hb : 0 < b) (hp : ∀ k, k < b → ∃ v, v < 256 ∧ pal k = nI v) {w : Nat} (hw : w < 256) (h : ∃ k, k < b ∧ pal k = nI w) : pal (zNear pal (nI w) b b) = nI w := by
  obtain ⟨k, hk, e⟩ := h
  have h1 := (zNear_inv pal (nI w) hb b (Nat.le_refl _)).1 k (by omega) hk
  obtain ⟨v, hv, e2⟩ := hp _ (zNear_lt pal (nI w) hb b)
  rw [e, e2] at h1
  obtain ⟨d, hd, e3, e4⟩ := abs_nI hw hv
  rw [e3, Int32.sub_self] at h1
  have h2 : nI d ≤ 0 := h1
  rw [e2, ← e4 ((nI_le0 (by omega)).mp h2)]
theorem zAdd_0 (v : Nat → AF) (y x : Nat) : zAdd v y x 0 = v := by
  funext y' x'
  rw [zAdd_at]
  by_cases h : y' = y ∧ x' = x
  · rw [if_pos h, h.1, h.2, Int32.add_zero]
  · rw [if_neg h]
theorem zGive_0 (v : Nat → AF) (car : Int32) (y x f g : Nat) : zGive v car 0 y x f g = v := by
  have e1 : (0 : Int32) * 7 / 16 = 0 := by decide
  have e2 : (0 : Int32) * 3 / 16 = 0 := by decide
  have e3 : (0 : Int32) * 5 / 16 = 0 := by decide
  have e4 : (0 : Int32) - 0 - 0 - 0 = 0 := by decide
  unfold zGive
  rw [e1, e2, e3, e4, zAdd_0, zAdd_0, zAdd_0, zAdd_0]
  split
  · rfl
  · split <;> rfl
/-- every shade of the pattern is a colour's -/
def Cov (c : Nat → AF) (pal : AF) (b : Nat) : Prop := 0 < b ∧ b ≤ 6 ∧ (∀ k, k < b → ∃ v, v < 256 ∧ pal k = nI v) ∧ ∀ y, y < 8 → ∀ x, x < 12 → ∃ w, w < 256 ∧ c y x = nI w ∧ ∃ k, k < b ∧ pal k = nI w
theorem cell_0 {c : Nat → AF} {pal : AF} {b : Nat} (hc : Cov c pal b) {car : Int32} {y x : Nat} (hy : y < 8) (hx : x < 12) {f g : Nat} {s : ZS} (hs : s.2 y (x + 1) = c y x) : ∃ k, k < b ∧ pal k = c y x ∧ zCell1 pal b car y (x + 1) f g s = (va_up s.1 y (upd (s.1 y) x (nI k)), s.2) := by
  obtain ⟨h0, h6, hp, hq⟩ := hc
  obtain ⟨w, hw, e, hk⟩ := hq y hy x hx
  have hn := near_eq h0 hp hw hk
  refine ⟨zNear pal (nI w) b b, zNear_lt pal (nI w) h0 b, by rw [hn, e], ?_⟩
  unfold zCell1
  rw [hs, e, hn, Int32.sub_self, zGive_0, Nat.add_sub_cancel]
def Ex (c : Nat → AF) (pal : AF) (b : Nat) (d : Nat → AF) (y x : Nat) : Prop := ∃ k, k < b ∧ pal k = c y x ∧ d y x = nI k
theorem rowF_0 {c : Nat → AF} {pal : AF} {b : Nat} (hc : Cov c pal b) {car : Int32} {y : Nat} (hy : y < 8) {s : ZS} (hs : s.2 = zIni c 8) : ∀ i, i ≤ 12 → (zRowF pal b car y s i).2 = zIni c 8 ∧ (∀ x, x < i → Ex c pal b (zRowF pal b car y s i).1 y x) ∧ ∀ y', y' ≠ y → (zRowF pal b car y s i).1 y' = s.1 y'
  | 0, _ => ⟨hs, fun x h => absurd h (Nat.not_lt_zero x), fun _ _ => rfl⟩
  | i + 1, hi => by
    obtain ⟨h1, h2, h3⟩ := rowF_0 hc (car := car) hy hs i (by omega)
    obtain ⟨k, hk, e1, e2⟩ := cell_0 (s := zRowF pal b car y s i) hc (car := car) hy (show i < 12 by omega) (f := i + 2) (g := i) (by rw [h1]; exact zIni_at c 8 y i hy (by omega))
    have e3 : zRowF pal b car y s (i + 1) = (va_up (zRowF pal b car y s i).1 y (upd ((zRowF pal b car y s i).1 y) i (nI k)), (zRowF pal b car y s i).2) := e2
    rw [e3]
    refine ⟨h1, fun x hx => ?_, fun y' hy' => ?_⟩
    · unfold Ex
      show ∃ k', k' < b ∧ _ ∧ (va_up _ y _ y : AF) x = nI k'
      rw [va_up_self]
      by_cases e : x = i
      · subst e; rw [pk_us]; exact ⟨k, hk, e1, rfl⟩
      · rw [pk_un e]; exact h2 x (by omega)
    · show va_up _ y _ y' = _
      rw [va_up_ne _ _ hy']
      exact h3 y' hy'
theorem rowB_0 {c : Nat → AF} {pal : AF} {b : Nat} (hc : Cov c pal b) {car : Int32} {y : Nat} (hy : y < 8) {s : ZS} (hs : s.2 = zIni c 8) : ∀ i, i ≤ 12 → (zRowB pal b car y s i).2 = zIni c 8 ∧ (∀ x, 12 - i ≤ x → x < 12 → Ex c pal b (zRowB pal b car y s i).1 y x) ∧ ∀ y', y' ≠ y → (zRowB pal b car y s i).1 y' = s.1 y'
  | 0, _ => ⟨hs, fun x h h2 => absurd h (by omega), fun _ _ => rfl⟩
  | i + 1, hi => by
    obtain ⟨h1, h2, h3⟩ := rowB_0 hc (car := car) hy hs i (by omega)
    obtain ⟨k, hk, e1, e2⟩ := cell_0 (s := zRowB pal b car y s i) hc (car := car) hy (show 11 - i < 12 by omega) (f := 11 - i) (g := 13 - i) (by rw [h1]; exact zIni_at c 8 y (11 - i) hy (by omega))
    have e3 : zRowB pal b car y s (i + 1) = (va_up (zRowB pal b car y s i).1 y (upd ((zRowB pal b car y s i).1 y) (11 - i) (nI k)), (zRowB pal b car y s i).2) := by
      rw [← e2, show 11 - i + 1 = 12 - i by omega]
      rfl
    rw [e3]
    refine ⟨h1, fun x hx hx2 => ?_, fun y' hy' => ?_⟩
    · unfold Ex
      show ∃ k', k' < b ∧ _ ∧ (va_up _ y _ y : AF) x = nI k'
      rw [va_up_self]
      by_cases e : x = 11 - i
      · subst e; rw [pk_us]; exact ⟨k, hk, e1, rfl⟩
      · rw [pk_un e]; exact h2 x (by omega) hx2
    · show va_up _ y _ y' = _
      rw [va_up_ne _ _ hy']
      exact h3 y' hy'
theorem rows_0 {c : Nat → AF} {pal : AF} {b : Nat} (hc : Cov c pal b) (car tur : Int32) : ∀ y, y ≤ 8 → (zRows c pal b car tur y).2 = zIni c 8 ∧ ∀ y', y' < y → ∀ x, x < 12 → Ex c pal b (zRows c pal b car tur y).1 y' x
  | 0, _ => ⟨rfl, fun y' h => absurd h (Nat.not_lt_zero y')⟩
  | y + 1, hy => by
    obtain ⟨h1, h2⟩ := rows_0 hc car tur y (by omega)
    by_cases hk : sBk tur y = 0
    · rw [zRows_f hk]
      obtain ⟨g1, g2, g3⟩ := rowF_0 hc (car := car) (y := y) (by omega) h1 12 (Nat.le_refl _)
      refine ⟨g1, fun y' hy' x hx => ?_⟩
      by_cases e : y' = y
      · subst e; exact g2 x hx
      · unfold Ex; rw [g3 y' e]; exact h2 y' (by omega) x hx
    · rw [zRows_b hk]
      obtain ⟨g1, g2, g3⟩ := rowB_0 hc (car := car) (y := y) (by omega) h1 12 (Nat.le_refl _)
      refine ⟨g1, fun y' hy' x hx => ?_⟩
      by_cases e : y' = y
      · subst e; exact g2 x (by omega) hx
      · unfold Ex; rw [g3 y' e]; exact h2 y' (by omega) x hx
theorem offX_0 {c d : Nat → AF} {pal : AF} {b : Nat} (hb : b ≤ 6) {y : Nat} (h : ∀ x, x < 12 → Ex c pal b d y x) (a : Int32) : ∀ x, x ≤ 12 → zOffX c d pal y a x = a
  | 0, _ => rfl
  | x + 1, hx => by
    obtain ⟨k, hk, e1, e2⟩ := h x (by omega)
    rw [zOffX, offX_0 hb h a x (by omega), e2, nI_clamp (show k < 2 ^ 31 by omega), e1, Int32.sub_self, show sAbs 0 = 0 by decide, Int32.add_zero]
theorem off_0 {c d : Nat → AF} {pal : AF} {b : Nat} (hb : b ≤ 6) (h : ∀ y, y < 8 → ∀ x, x < 12 → Ex c pal b d y x) : ∀ y, y ≤ 8 → zOff c d pal y = 0
  | 0, _ => rfl
  | y + 1, hy => by
    rw [zOff, offX_0 hb (h y (by omega)) _ 12 (Nat.le_refl _), off_0 hb h y (by omega)]
theorem OF_0 {f : AF} (hf : okF f) {m : Nat} (h2 : 2 ≤ m) (h6 : m ≤ 6) {car : Int32} (hw : car = 0 ∨ car = 1 ∨ car = 2) (tur : Int32) (h : PQ f m < m) : OF f m car tur = 0 := by
  have hc : RW (fun y x => f (12 * y + x)) f := fun _ _ _ _ => rfl
  have h1 : 1 ≤ m := by omega
  have hq : PQ f m ≤ 6 := Nat.le_trans (PQ_m f h1) h6
  have hRW := zM_tie hc hf h2 h6 hw tur
  have hpl : ∀ j, j < PQ f m → zPal (fun y x => f (12 * y + x)) m j = PP f m j := zPal_m hc hf z0 z0 h1 h6
  have hzB : zB (fun y x => f (12 * y + x)) m = PQ f m := zB_m' hc hf z0 h1 h6
  rw [OF_S h1 h6, ← zOff_tie hc hRW (CL_in h1 h6 car tur) hq hpl 8 (Nat.le_refl _)]
  have hcov : Cov (fun y x => f (12 * y + x)) (zPal (fun y x => f (12 * y + x)) m) (zB (fun y x => f (12 * y + x)) m) := by
    rw [hzB]
    refine ⟨PQ_1 f m, hq, fun k hk => ?_, fun y hy x hx => ?_⟩
    · rw [hpl k hk]; exact pp_256 hf h1 h6 k hk
    · obtain ⟨w, hw1, e⟩ := hf (12 * y + x) (by omega)
      obtain ⟨k, hk, e2⟩ := pal_all hf h1 h6 h (12 * y + x) (by omega)
      exact ⟨w, hw1, e, k, hk, by rw [hpl k hk, e2, e]⟩
  exact off_0 (b := zB (fun y x => f (12 * y + x)) m) (by rw [hzB]; exact hq) (rows_0 hcov car tur 8 (Nat.le_refl _)).2 8 (Nat.le_refl _)
/-! off is never below 0 -/
theorem offX_nn {pa f k : AF} {q : Nat} (hq : q ≤ 6) (hp : ∀ j, j < q → ∃ v, v < 256 ∧ pa j = nI v) (hf : okF f) (hk : ∀ j, j < 96 → ∃ v, v < q ∧ k j = nI v) {y : Nat} (hy : y < 8) {s : Nat} (hs : s ≤ 256 * (12 * y)) : ∀ x, x ≤ 12 → ∃ t, t ≤ 256 * (12 * y + x) ∧ offX pa f k y (nI s) x = nI t
  | 0, _ => ⟨s, hs, rfl⟩
  | x + 1, hx => by
    obtain ⟨t, ht, e⟩ := offX_nn hq hp hf hk hy hs x (by omega)
    obtain ⟨v, hv, e1⟩ := hk (12 * y + x) (by omega)
    obtain ⟨a, ha, e2⟩ := hp v hv
    obtain ⟨b, hb, e3⟩ := hf (12 * y + x) (by omega)
    obtain ⟨d, hd, e4, -⟩ := abs_nI ha hb
    refine ⟨t + d, by omega, ?_⟩
    rw [offX, e, e1, nI_clamp (show v < 2 ^ 31 by omega), e2, e3, e4, nI_add]
theorem offS_nn {pa f k : AF} {q : Nat} (hq : q ≤ 6) (hp : ∀ j, j < q → ∃ v, v < 256 ∧ pa j = nI v) (hf : okF f) (hk : ∀ j, j < 96 → ∃ v, v < q ∧ k j = nI v) : ∀ y, y ≤ 8 → ∃ t, t ≤ 256 * (12 * y) ∧ offS pa f k y = nI t
  | 0, _ => ⟨0, Nat.le_refl _, rfl⟩
  | y + 1, hy => by
    obtain ⟨t, ht, e⟩ := offS_nn hq hp hf hk y (by omega)
    obtain ⟨t2, h2, e2⟩ := offX_nn hq hp hf hk (show y < 8 by omega) ht 12 (Nat.le_refl _)
    exact ⟨t2, by omega, by rw [offS, e, e2]⟩
theorem OF_nn {f : AF} (hf : okF f) {m : Nat} (h1 : 1 ≤ m) (h6 : m ≤ 6) (car tur : Int32) : ∃ t, t < 65536 ∧ OF f m car tur = nI t := by
  obtain ⟨t, h2, e⟩ := offS_nn (Nat.le_trans (PQ_m f h1) h6) (pp_256 hf h1 h6) hf (CL_in h1 h6 car tur) 8 (Nat.le_refl _)
  exact ⟨t, by omega, by rw [OF_S h1 h6]; exact e⟩
/-! knots -/
theorem rn_bd (k : AF) (y : Nat) : 1 ≤ mRn k y ∧ mRn k y ≤ 12 := by
  have h1 := (zRun_tie (g := fun x => k (12 * y + x)) (k := k) (y := y) (fun _ _ => rfl)).1
  have h2 := (zRun_nr (g := fun x => k (12 * y + x)) (k := k) (y := y) (fun _ _ => rfl) 11 (by omega)).1
  have h3 := (nr_bd k y 11).1
  have h4 : (zRun (fun x => k (12 * y + x)) 12).2 = 2 * (nr k y 11).1 + 2 := h2
  rw [h1] at h4
  omega
theorem kn_bd (k : AF) (pre : Int32) (y : Nat) : ∃ v, 1 ≤ v ∧ v ≤ 12 ∧ mKn k pre y = nI v := by
  have h := rn_bd k y
  unfold mKn
  split
  · exact ⟨_, h.1, h.2, rfl⟩
  · split
    · exact ⟨_, h.1, h.2, rfl⟩
    · exact ⟨1, by omega, by omega, rfl⟩
theorem ak_bd (k : AF) (pre : Int32) : ∀ y, ∃ v, y ≤ v ∧ v ≤ 12 * y ∧ mAK k pre y = nI v
  | 0 => ⟨0, by omega, by omega, rfl⟩
  | y + 1 => by
    obtain ⟨v, h1, h2, e⟩ := ak_bd k pre y
    obtain ⟨w, h3, h4, e2⟩ := kn_bd k pre y
    exact ⟨v + w, by omega, by omega, by rw [mAK, e, e2, nI_add]⟩
end MWQ2
