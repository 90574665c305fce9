/-! Sim and the others: a cloth, its off, its runs -/
section MTHY
/-- what is wanted is the pattern and what is carried -/
def WJ (f : AF) (v : Nat → AF) (fc : AF) : Prop := ∀ y, y < 8 → ∀ x, x < 12 → v y (x + 1) = f (12 * y + x) + fc (12 * y + x)
theorem zAdd_at (v : Nat → AF) (y x : Nat) (e : Int32) (y' x' : Nat) : zAdd v y x e y' x' = if y' = y ∧ x' = x then v y x + e else v y' x' := by
  unfold zAdd
  by_cases h1 : y' = y
  · subst h1
    rw [va_up_self]
    by_cases h2 : x' = x
    · subst h2; rw [pk_us, if_pos ⟨rfl, rfl⟩]
    · rw [pk_un h2, if_neg (fun z => h2 z.2)]
  · rw [va_up_ne _ _ h1, if_neg (fun z => h1 z.1)]
theorem sCell_y8 {xx : Int32} : sCell xx (nI 8) = 0 := by
  unfold sCell
  split
  · rfl
  · split
    · rfl
    · split
      · rfl
      · rfl
theorem sCell_m1 {y : Int32} : sCell (nI 0 - 1) y = 0 := by
  unfold sCell
  rw [if_pos (by decide)]
theorem sCell_12 {y : Int32} : sCell (nI 13 - 1) y = 0 := by
  unfold sCell
  rw [if_neg (by decide), if_pos (by decide)]
theorem wj_add {f : AF} {v : Nat → AF} {fc : AF} (h : WJ f v fc) {X y : Nat} (hX : X ≤ 13) (hy : y ≤ 8) (e : Int32) : WJ f (zAdd v y X e) (sGAdd fc (nI X - 1) (nI y) e) := by
  intro y' hy' x' hx'
  rw [zAdd_at]
  by_cases c1 : y = 8
  · subst c1
    rw [sGAdd_x sCell_y8, if_neg (by omega)]
    exact h y' hy' x' hx'
  · by_cases c2 : X = 0
    · subst c2
      rw [sGAdd_x sCell_m1, if_neg (by omega)]
      exact h y' hy' x' hx'
    · by_cases c3 : X = 13
      · subst c3
        rw [sGAdd_x sCell_12, if_neg (by omega)]
        exact h y' hy' x' hx'
      · have e1 : nI X - 1 = nI (X - 1) := pk_sub (b := 1) (by omega)
        rw [e1, sGAdd_nI (by omega) (by omega)]
        by_cases c4 : y' = y ∧ x' + 1 = X
        · obtain ⟨rfl, rfl⟩ := c4
          rw [if_pos ⟨rfl, rfl⟩, Nat.add_sub_cancel, pk_us, h y' hy' x' hx', Int32.add_assoc]
        · rw [if_neg c4, pk_un (by omega)]
          exact h y' hy' x' hx'
theorem wj_give {f : AF} {v : Nat → AF} {fc : AF} (h : WJ f v fc) {car : Int32} (hw : car = 0 ∨ car = 1 ∨ car = 2) {y X F G : Nat} (hy : y < 8) (hX : X ≤ 13) (hF : F ≤ 13) (hG : G ≤ 13) {x ah : Int32} (ex : x = nI X - 1) (ef : x + ah = nI F - 1) (eg : x - ah = nI G - 1) (er : Int32) : WJ f (zGive v car er y X F G) (sCarry fc er x (nI y) ah car) := by
  rcases hw with rfl | rfl | rfl
  · rw [zG0 (by decide) (by decide)]
    show WJ f v (if ¬ (0 : Int32) = 2 then (if ¬ (0 : Int32) = 1 then fc else _) else _)
    rw [if_pos (by decide), if_pos (by decide)]
    exact h
  · rw [zG1 rfl]
    show WJ f _ (if ¬ (1 : Int32) = 2 then (if ¬ (1 : Int32) = 1 then fc else sGAdd fc (x + ah) (nI y) er) else _)
    rw [if_pos (by decide), if_neg (by decide), ef]
    exact wj_add h hF (by omega) er
  · rw [zG2 (by decide) rfl]
    show WJ f _ (if ¬ (2 : Int32) = 2 then _ else sCar2 (if ¬ (2 : Int32) = 1 then fc else _) er x (nI y) ah)
    rw [if_neg (by decide), if_pos (by decide)]
    unfold sCar2
    rw [ef, eg, ex, nI_1]
    exact wj_add (wj_add (wj_add (wj_add h hF (by omega) _) hG (by omega) _) hX (by omega) _) hF (by omega) _
/-- a cell of Sim's and one of the class's -/
theorem zcell_tie {sh pal f : AF} {b y : Nat} (hb1 : 1 ≤ b) (hb : b ≤ 6) (hy : y < 8) (hp : ∀ k, k < b → sh k = pal k) {car : Int32} (hw : car = 0 ∨ car = 1 ∨ car = 2) {back : Int32} {x : Nat} (hx : x < 12) {F G : Nat} (hF : F ≤ 13) (hG : G ≤ 13) (ef : nI x + sAh back = nI F - 1) (eg : nI x - sAh back = nI G - 1) {s : ZS} {t : RS} (hJ : WJ f s.2 t.2.1) :
    WJ f (zCell1 pal b car y (x + 1) F G s).2 (sCell1 sh b f car back (nI y) t (nI x)).2.1 ∧ (zCell1 pal b car y (x + 1) F G s).1 y x = (sCell1 sh b f car back (nI y) t (nI x)).1 (12 * y + x) ∧ (∀ y' x', ¬ (y' = y ∧ x' = x) → (zCell1 pal b car y (x + 1) F G s).1 y' x' = s.1 y' x') ∧ ∀ j, j ≠ 12 * y + x → (sCell1 sh b f car back (nI y) t (nI x)).1 j = t.1 j := by
  have ew : s.2 y (x + 1) = f (12 * y + x) + t.2.1 (12 * y + x) := hJ y hy x hx
  have e1 : sGAt f (nI x) (nI y) = f (12 * y + x) := sGAt_nI hx hy
  have e2 : sGAt t.2.1 (nI x) (nI y) = t.2.1 (12 * y + x) := sGAt_nI hx hy
  have hN := (near_tie hb hp (f (12 * y + x) + t.2.1 (12 * y + x)) (b - 1) (by omega)).1
  have hz : zNear pal (f (12 * y + x) + t.2.1 (12 * y + x)) b b = mNear pal (f (12 * y + x) + t.2.1 (12 * y + x)) (b - 1) := zNear_m (by omega) (fun _ _ => rfl) _
  have hK := mNear_le pal (f (12 * y + x) + t.2.1 (12 * y + x)) (b - 1)
  unfold zCell1 sCell1
  rw [e1, e2, hN, ew, hz]
  generalize mNear pal (f (12 * y + x) + t.2.1 (12 * y + x)) (b - 1) = K at hK ⊢
  have hKb : K < b := by omega
  rw [shade_nI hKb hb, hp K hKb, sGPut_nI hx hy, Nat.add_sub_cancel]
  refine ⟨wj_give hJ hw hy (by omega) hF hG (nI_pred x).symm ef eg _, ?_, fun y' x' hn => ?_, fun j hj => pk_un hj⟩
  · show (va_up s.1 y (upd (s.1 y) x (nI K)) y : AF) x = upd t.1 (12 * y + x) (nI K) (12 * y + x)
    rw [va_up_self, pk_us, pk_us]
  · show (va_up s.1 y (upd (s.1 y) x (nI K)) y' : AF) x' = _
    by_cases h1 : y' = y
    · subst h1
      rw [va_up_self, pk_un (fun z => hn ⟨rfl, z⟩)]
    · rw [va_up_ne _ _ h1]
/-- the rows ahead are the same; of this row those that are done -/
def ZI (f : AF) (y : Nat) (D : Nat → Prop) (s : ZS) (t : RS) : Prop := WJ f s.2 t.2.1 ∧ (∀ y', y' < y → ∀ x, x < 12 → s.1 y' x = t.1 (12 * y' + x)) ∧ ∀ x, x < 12 → D x → s.1 y x = t.1 (12 * y + x)
theorem zrow_f {sh pal f : AF} {b y : Nat} (hb1 : 1 ≤ b) (hb : b ≤ 6) (hy : y < 8) (hp : ∀ k, k < b → sh k = pal k) {car : Int32} (hw : car = 0 ∨ car = 1 ∨ car = 2) {s : ZS} {t : RS} (h : ZI f y (fun _ => False) s t) : ∀ i, i ≤ 12 → ZI f y (fun x => x < i) (zRowF pal b car y s i) (sRow sh b f car 0 (nI y) t i)
  | 0, _ => ⟨h.1, h.2.1, fun x _ hx => absurd hx (Nat.not_lt_zero x)⟩
  | i + 1, hi => by
    obtain ⟨a1, a2, a3⟩ := zrow_f hb1 hb hy hp hw h i (by omega)
    obtain ⟨c1, c2, c3, c4⟩ := zcell_tie hb1 hb hy hp hw (back := 0) (x := i) (by omega) (F := i + 2) (G := i) (by omega) (by omega) ((nI_1 i).trans (nI_pred (i + 1)).symm) rfl a1
    have e : sRow sh b f car 0 (nI y) t (i + 1) = sCell1 sh b f car 0 (nI y) (sRow sh b f car 0 (nI y) t i) (nI i) := rfl
    rw [e]
    refine ⟨c1, fun y' hy' x hx => ?_, fun x hx hd => ?_⟩
    · show (zCell1 pal b car y (i + 1) (i + 2) i (zRowF pal b car y s i)).1 y' x = _
      rw [c3 y' x (by omega), c4 _ (by omega)]
      exact a2 y' hy' x hx
    · show (zCell1 pal b car y (i + 1) (i + 2) i (zRowF pal b car y s i)).1 y x = _
      by_cases z : x = i
      · rw [z]; exact c2
      · rw [c3 y x (fun q => z q.2), c4 _ (by omega)]
        exact a3 x hx (by omega)
theorem zrow_b {sh pal f : AF} {b y : Nat} (hb1 : 1 ≤ b) (hb : b ≤ 6) (hy : y < 8) (hp : ∀ k, k < b → sh k = pal k) {car : Int32} (hw : car = 0 ∨ car = 1 ∨ car = 2) {back : Int32} (hk : ¬ back = 0) {s : ZS} {t : RS} (h : ZI f y (fun _ => False) s t) : ∀ i, i ≤ 12 → ZI f y (fun x => 12 - i ≤ x) (zRowB pal b car y s i) (sRow sh b f car back (nI y) t i)
  | 0, _ => ⟨h.1, h.2.1, fun x hx hd => absurd hd (by omega)⟩
  | i + 1, hi => by
    obtain ⟨a1, a2, a3⟩ := zrow_b hb1 hb hy hp hw hk h i (by omega)
    have eA : sAh back = (-1) := by unfold sAh; rw [if_neg hk]
    have eX : sRX back i = nI (11 - i) := by
      rw [sRX_nI (by omega)]
      unfold rX
      rw [if_neg hk]
    obtain ⟨c1, c2, c3, c4⟩ := zcell_tie hb1 hb hy hp hw (back := back) (x := 11 - i) (by omega) (F := 11 - i) (G := 13 - i) (by omega) (by omega) (by rw [eA]; exact add_neg1 _) (by
      rw [eA, sub_neg1, nI_1, show 11 - i + 1 = 12 - i by omega]
      have := nI_pred (12 - i)
      rw [show 12 - i + 1 = 13 - i by omega] at this
      exact this.symm) a1
    have e : sRow sh b f car back (nI y) t (i + 1) = sCell1 sh b f car back (nI y) (sRow sh b f car back (nI y) t i) (sRX back i) := rfl
    have e2 : zRowB pal b car y s (i + 1) = zCell1 pal b car y (11 - i + 1) (11 - i) (13 - i) (zRowB pal b car y s i) := by
      rw [show 11 - i + 1 = 12 - i by omega]
      rfl
    rw [e, eX, e2]
    refine ⟨c1, fun y' hy' x hx => ?_, fun x hx hd => ?_⟩
    · rw [c3 y' x (by omega), c4 _ (by omega)]
      exact a2 y' hy' x hx
    · by_cases z : x = 11 - i
      · rw [z]; exact c2
      · rw [c3 y x (fun q => z q.2), c4 _ (by omega)]
        exact a3 x hx (by omega)
theorem zIniX_at (c : Nat → AF) (y : Nat) (v : Nat → AF) : ∀ n y' x, zIniX c y v n y' x = if y' = y ∧ 1 ≤ x ∧ x < n + 1 then c y (x - 1) else v y' x
  | 0, y', x => by rw [if_neg (by omega)]; rfl
  | n + 1, y', x => by
    have ih := zIniX_at c y v n
    show (va_up _ y _ y' : AF) x = _
    by_cases h1 : y' = y
    · subst h1
      rw [va_up_self]
      by_cases h2 : x = n + 1
      · subst h2
        rw [pk_us, if_pos ⟨rfl, by omega, by omega⟩, Nat.add_sub_cancel]
      · rw [pk_un h2, ih]
        by_cases h3 : 1 ≤ x ∧ x < n + 1
        · rw [if_pos ⟨rfl, h3⟩, if_pos ⟨rfl, h3.1, by omega⟩]
        · rw [if_neg (fun z => h3 z.2), if_neg (by omega)]
    · rw [va_up_ne _ _ h1, ih, if_neg (fun z => h1 z.1), if_neg (fun z => h1 z.1)]
theorem zIni_at (c : Nat → AF) : ∀ n y x, y < n → x < 12 → zIni c n y (x + 1) = c y x
  | n + 1, y, x, hy, hx => by
    show zIniX c n (zIni c n) 12 y (x + 1) = _
    rw [zIniX_at]
    by_cases h : y = n
    · subst h
      rw [if_pos ⟨rfl, by omega, by omega⟩, Nat.add_sub_cancel]
    · rw [if_neg (fun z => h z.1)]
      exact zIni_at c n y x (by omega) hx
theorem sMk_car0 (sh : AF) (b : Nat) (f : AF) (way tur : Int32) (fw fc fu fr : AF) : ∀ j, j < 96 → (sMk sh b f way tur fw fc fu fr 0).1.2.1 j = 0 := by
  intro j hj
  show sFill 0 fc 96 j = 0
  rw [sFill_at _ _ _ (by omega), if_pos hj]
theorem zrows_tie {c : Nat → AF} {sh pal f : AF} {b : Nat} (hc : RW c f) (hb1 : 1 ≤ b) (hb : b ≤ 6) (hp : ∀ k, k < b → sh k = pal k) {car : Int32} (hw : car = 0 ∨ car = 1 ∨ car = 2) (tur : Int32) (fw fc fu fr : AF) : ∀ y, y ≤ 8 → ZI f y (fun _ => False) (zRows c pal b car tur y) (sMk sh b f car tur fw fc fu fr y).1
  | 0, _ => by
    refine ⟨fun y hy x hx => ?_, fun y' hy' => absurd hy' (Nat.not_lt_zero y'), fun _ _ h => h.elim⟩
    show zIni c 8 y (x + 1) = _
    rw [zIni_at c 8 y x hy hx, sMk_car0 _ _ _ _ _ _ _ _ _ _ (by omega), Int32.add_zero]
    exact hc y hy x hx
  | y + 1, hy => by
    have ih := zrows_tie hc hb1 hb hp hw tur fw fc fu fr y (by omega)
    have e : (sMk sh b f car tur fw fc fu fr (y + 1)).1 = sRow sh b f car (sBk tur y) (nI y) (sMk sh b f car tur fw fc fu fr y).1 12 := rfl
    rw [e]
    by_cases hk : sBk tur y = 0
    · rw [zRows_f hk, hk]
      obtain ⟨a1, a2, a3⟩ := zrow_f hb1 hb (by omega) hp hw ih 12 (Nat.le_refl _)
      refine ⟨a1, fun y' hy' x hx => ?_, fun _ _ h => h.elim⟩
      by_cases z : y' = y
      · rw [z]; exact a3 x hx hx
      · exact a2 y' (by omega) x hx
    · rw [zRows_b hk]
      obtain ⟨a1, a2, a3⟩ := zrow_b hb1 hb (by omega) hp hw hk ih 12 (Nat.le_refl _)
      refine ⟨a1, fun y' hy' x hx => ?_, fun _ _ h => h.elim⟩
      by_cases z : y' = y
      · rw [z]; exact a3 x hx (by omega)
      · exact a2 y' (by omega) x hx
/-! what is woven, by the pattern alone -/
def z0 : AF := fun _ => 0
def w0 : WS := (z0, 0, z0, z0, 0, z0, z0)
def s0 : CS := (z0, z0, z0, z0, 0, z0, z0, z0, z0, 0)
def PQ (f : AF) (m : Nat) : Nat := (mFit f z0 m).2
def PP (f : AF) (m : Nat) : AF := mPal f z0 z0 m
def CL (f : AF) (m : Nat) (car tur : Int32) : AF := wsCl (mOn f m car tur w0)
def OF (f : AF) (m : Nat) (car tur : Int32) : Int32 := wsOff (mOn f m car tur w0)
/-- whatever lay there before -/
theorem PQ_so (f : AF) (hf : okF f) (so : AF) {m : Nat} (h1 : 1 ≤ m) (h6 : m ≤ 6) : (mFit f so m).2 = PQ f m := by
  have h : RW (fun y x => f (12 * y + x)) f := fun _ _ _ _ => rfl
  exact (zB_m' h hf so h1 h6).symm.trans (zB_m' h hf z0 h1 h6)
theorem mkS_tie {f : AF} (hf : okF f) {m : Nat} (h2 : 2 ≤ m) (h6 : m ≤ 6) {car : Int32} (hw : car = 0 ∨ car = 1 ∨ car = 2) (tur : Int32) (s : CS) :
    KT (csFw (sMakeS f m car tur s)) (csFr (sMakeS f m car tur s)) (CL f m car tur) ∧ csOff (sMakeS f m car tur s) = OF f m car tur ∧ (∀ c, c < 6 → csFu (sMakeS f m car tur s) c = nI (cntP (isS (CL f m car tur) c) 96)) ∧ csBx (sMakeS f m car tur s) = nI (PQ f m) ∧ ∀ j, j < PQ f m → (sMakeS f m car tur s).2.2.2.1 j = PP f m j := make_tie hf h2 h6 hw tur s w0
theorem zM_tie {c : Nat → AF} {f : AF} (hc : RW c f) (hf : okF f) {m : Nat} (h2 : 2 ≤ m) (h6 : m ≤ 6) {car : Int32} (hw : car = 0 ∨ car = 1 ∨ car = 2) (tur : Int32) : ∀ y, y < 8 → ∀ x, x < 12 → zM c m car tur y x = CL f m car tur (12 * y + x) := by
  intro y hy x hx
  obtain ⟨s, -⟩ : ∃ _s : CS, True := ⟨s0, trivial⟩
  obtain ⟨e1, hT⟩ := fitF_tie hf s.2.1 z0 s.2.2.1 (m := m) (by omega) h6
  have hpal := pal_tie hf s.2.1 z0 s.2.2.1 s.2.2.2.1 z0 (m := m) (by omega) h6
  have hq1 := mFit_1 f z0 m
  have hqm := mFit_m f z0 (m := m) (by omega)
  have hz := zPal_m hc hf z0 z0 (m := m) (by omega) h6
  have hB := zB_m' hc hf z0 (m := m) (by omega) h6
  have h := (zrows_tie (sh := sMnsF f s.2.1 s.2.2.1 s.2.2.2.1 m) (pal := zPal c m) hc (b := zB c m) (by omega) (by omega) (fun k hk => by rw [hB] at hk; rw [hpal k hk, hz k hk]) hw tur s.2.2.2.2.2.1 s.2.2.2.2.2.2.1 s.2.2.2.2.2.2.2.2.1 s.2.2.2.2.2.2.2.1 8 (Nat.le_refl _)).2.1 y hy x hx
  obtain ⟨⟨k1, -⟩, -⟩ := mkS_tie hf h2 h6 hw tur s
  have k1 := k1 (12 * y + x) (by omega)
  have eM : csFw (sMakeS f m car tur s) = (sMk (sMnsF f s.2.1 s.2.2.1 s.2.2.2.1 m) (zB c m) f car tur s.2.2.2.2.2.1 s.2.2.2.2.2.2.1 s.2.2.2.2.2.2.2.2.1 s.2.2.2.2.2.2.2.1 8).1.1 := by
    rw [hB, ← e1]
    rfl
  rw [← k1, eM]
  exact h
end MTHY
