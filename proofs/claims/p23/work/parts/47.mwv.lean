/-! what an act leaves: numbers -/
section MWV
theorem MWP.mem {E : gE} {x : Nat} {σ : SG} {ws : va_W} (h : MWP E x σ ws) : ∃ fs, (x, .inr (4, fs)) ∈ ws := by
  obtain ⟨f, th, m, car, tur, pre, n, k, kp, kq, ko⟩ := σ
  obtain ⟨A, J, I, kb, hp, -⟩ := h
  exact ⟨_, hp.mem_iff.mpr (List.mem_cons_self)⟩
/-- a number below n -/
def zBl (v : Int32) (n : Nat) : Nat := (v.toBitVec.toNat % 2 ^ 31) % n
theorem zBl_lt (v : Int32) {n : Nat} (h : 0 < n) : zBl v n < n := Nat.mod_lt _ h
theorem zBl_ex (v : Int32) {n : Nat} (h : 0 < n) : ∃ b, b < n ∧ nI (zBl v n) = nI b := ⟨_, zBl_lt v h, rfl⟩
theorem nI_vI {n : Nat} (h : n < 2147483648) {b : Int32} (e : b = nI n) : b.toNatClampNeg = n := by rw [e]; exact nI_clamp h
/-- rows and numbers -/
theorem RW.upd {c : Nat → AF} {f : AF} (h : RW c f) {q i : Nat} (hq : q < 8) (hi : i < 12) (v : Int32) : RW (va_up c q (upd (c q) i v)) (upd f (12 * q + i) v) := by
  intro y hy x hx
  show (va_up c q _ y : AF) x = _
  by_cases e : y = q
  · subst e
    rw [va_up_self]
    by_cases e2 : x = i
    · subst e2; rw [pk_us, pk_us]
    · rw [pk_un e2, pk_un (by omega)]
      exact h y hy x hx
  · rw [va_up_ne _ _ e, pk_un (by omega)]
    exact h y hy x hx
def zRw (c : Nat → AF) (q : Nat) (a w : Int32) : Nat → Nat → AF
  | 0 => c
  | i + 1 => va_up (zRw c q a w i) q (upd (zRw c q a w i q) i (sMax 0 (sMin 255 (a + w * nI i))))
theorem zRw_tie {c : Nat → AF} {f : AF} (h : RW c f) {q : Nat} (hq : q < 8) (a w : Int32) : ∀ i, i ≤ 12 → RW (zRw c q a w i) (mRowF f q a w i)
  | 0, _ => h
  | i + 1, hi => by
    rw [zRw, mRowF]
    exact (zRw_tie h hq a w i (by omega)).upd hq (by omega) _
def zLk (c : Nat → AF) (q o : Nat) : Nat → Int32
  | 0 => 0
  | i + 1 => zLk c q o i + if c q i = c o i then 0 else 1
theorem lk_at (f : AF) (q o : Nat) : ∀ i, i ≤ 12 → ∀ j, (mLk f q o i).1 j = if 12 * q ≤ j ∧ j < 12 * q + i then f (12 * o + (j - 12 * q)) else f j
  | 0, _, j => by rw [if_neg (by omega)]; rfl
  | i + 1, hi, j => by
    have ih := lk_at f q o i (by omega)
    show upd (mLk f q o i).1 (12 * q + i) ((mLk f q o i).1 (12 * o + i)) j = _
    by_cases e : j = 12 * q + i
    · subst e
      rw [pk_us, if_pos (by omega), show 12 * q + i - 12 * q = i by omega, ih]
      by_cases h : 12 * q ≤ 12 * o + i ∧ 12 * o + i < 12 * q + i
      · have ho : o < q ∨ o = q ∨ q < o := by omega
        rcases ho with h2 | h2 | h2
        · exact absurd h (by omega)
        · exact absurd h (by omega)
        · exact absurd h (by omega)
      · rw [if_neg h]
    · rw [pk_un e, ih]
      by_cases h : 12 * q ≤ j ∧ j < 12 * q + i
      · rw [if_pos h, if_pos (by omega)]
      · rw [if_neg h, if_neg (by omega)]
theorem zLk_tie {c : Nat → AF} {f : AF} (h : RW c f) {q o : Nat} (hq : q < 8) (ho : o < 8) : ∀ i, i ≤ 12 → zLk c q o i = (mLk f q o i).2
  | 0, _ => rfl
  | i + 1, hi => by
    rw [zLk, mLk, zLk_tie h hq ho i (by omega)]
    have e1 : (mLk f q o i).1 (12 * q + i) = c q i := by rw [lk_at f q o i (by omega), if_neg (by omega)]; exact (h q hq i (by omega)).symm
    have e2 : (mLk f q o i).1 (12 * o + i) = c o i := by rw [lk_at f q o i (by omega), if_neg (by omega)]; exact (h o ho i (by omega)).symm
    show _ = (mLk f q o i).2 + _
    rw [e1, e2]
    by_cases e : c q i = c o i
    · rw [if_pos e, if_neg (fun z => z e)]
    · rw [if_neg e, if_pos e]
theorem RW.lk {c : Nat → AF} {f : AF} (h : RW c f) {q o : Nat} (hq : q < 8) (ho : o < 8) : RW (va_up c q (c o)) (mLk f q o 12).1 := by
  intro y hy x hx
  rw [lk_at f q o 12 (Nat.le_refl _)]
  show (va_up c q _ y : AF) x = _
  by_cases e : y = q
  · subst e
    rw [va_up_self, if_pos (by omega), show 12 * y + x - 12 * y = x by omega]
    exact h o ho x hx
  · rw [va_up_ne _ _ e, if_neg (by omega)]
    exact h y hy x hx
theorem ok_upd {f : AF} (hf : okF f) (k : Nat) {v : Int32} (hv : ∃ w, w < 256 ∧ v = nI w) : okF (upd f k v) := by
  intro j hj
  show ∃ w, w < 256 ∧ (if j = k then v else f j) = nI w
  by_cases e : j = k
  · rw [if_pos e]; exact hv
  · rw [if_neg e]; exact hf j hj
theorem ok_held (v : Int32) : ∃ w, w < 256 ∧ sMax 0 (sMin 255 v) = nI w := by
  unfold sMin sMax
  by_cases h : v < 255
  · rw [if_pos h]
    by_cases h2 : 0 < v
    · rw [if_pos h2]
      obtain ⟨j, hj, rfl⟩ := nI_of (x := v) (fun z => Int32.lt_irrefl (Int32.lt_trans h2 z))
      exact ⟨j, by have := (nI_ltI (b := 255) hj (by omega)).mp h; omega, rfl⟩
    · rw [if_neg h2]
      exact ⟨0, by omega, rfl⟩
  · rw [if_neg h, if_pos (by decide)]
    exact ⟨255, by omega, rfl⟩
theorem ok_row {f : AF} (hf : okF f) (y : Nat) (a b : Int32) : ∀ i, okF (mRowF f y a b i)
  | 0 => hf
  | i + 1 => by
    rw [mRowF]
    exact ok_upd (ok_row hf y a b i) _ (ok_held _)
theorem ok_lk {f : AF} (hf : okF f) (y : Nat) {o : Nat} (ho : o < 8) : ∀ i, i ≤ 12 → okF (mLk f y o i).1
  | 0, _ => hf
  | i + 1, hi => by
    rw [mLk]
    exact ok_upd (ok_lk hf y ho i (by omega)) _ (ok_lk hf y ho i (by omega) _ (by omega))
theorem stp_ok {b a : Nat} (h : b ≤ 2 * a) (ha : a ≤ 60) : ¬ nI b - nI a < (-60) ∧ nI b - nI a ≤ 60 := by
  have e := pk_sub_toInt (a := b) (b := a) (by omega) (by omega)
  constructor
  · intro z
    rw [Int32.lt_iff_toInt_lt, e, show ((-60 : Int32)).toInt = -60 by decide] at z
    omega
  · rw [Int32.le_iff_toInt_le, e, show ((60 : Int32)).toInt = 60 by decide]
    omega
/-! thread -/
def tot (th : AF) : Nat := (th 0).toNatClampNeg + (th 1).toNatClampNeg + (th 2).toNatClampNeg + (th 3).toNatClampNeg + (th 4).toNatClampNeg + (th 5).toNatClampNeg
/-- all thread is below 1000 -/
def okT (th : AF) : Prop := ∀ c, c < 6 → ∃ v, v < 1000 ∧ th c = nI v
theorem hold_tot {th : AF} (h : okT th) : mHold th 6 = nI (tot th) := by
  obtain ⟨v0, a0, e0⟩ := h 0 (by omega)
  obtain ⟨v1, a1, e1⟩ := h 1 (by omega)
  obtain ⟨v2, a2, e2⟩ := h 2 (by omega)
  obtain ⟨v3, a3, e3⟩ := h 3 (by omega)
  obtain ⟨v4, a4, e4⟩ := h 4 (by omega)
  obtain ⟨v5, a5, e5⟩ := h 5 (by omega)
  unfold tot
  rw [nI_vI (by omega) e0, nI_vI (by omega) e1, nI_vI (by omega) e2, nI_vI (by omega) e3, nI_vI (by omega) e4, nI_vI (by omega) e5]
  simp only [mHold, e0, e1, e2, e3, e4, e5, Int32.zero_add, ← nI_add]
theorem sMin_nI {a b : Nat} (ha : a < 2147483648) (hb : b < 2147483648) : sMin (nI a) (nI b) = nI (min a b) := by
  unfold sMin
  by_cases h : b < a
  · rw [if_pos (nI_lt h ha), Nat.min_eq_right (by omega)]
  · rw [if_neg (nI_nlt (by omega) hb), Nat.min_eq_left (by omega)]
theorem wind_at {th : AF} (h : okT th) {c u : Nat} (hc : c < 6) (hu : u < 1000) : ∃ v w, th c = nI v ∧ v < 1000 ∧ sMin 999 (th c + nI u) = nI w ∧ w < 1000 ∧ w ≤ v + u := by
  obtain ⟨v, hv, e⟩ := h c hc
  refine ⟨v, min 999 (v + u), e, hv, ?_, by omega, by omega⟩
  rw [e, nI_add]
  exact sMin_nI (a := 999) (by omega) (by omega)
theorem okT.wind {th : AF} (h : okT th) {c u : Nat} (hc : c < 6) (hu : u < 1000) : okT (upd th c (sMin 999 (th c + nI u))) := by
  intro j hj
  by_cases e : j = c
  · subst e
    obtain ⟨v, w, -, -, h3, h4, -⟩ := wind_at h hj hu
    exact ⟨w, h4, by rw [pk_us]; exact h3⟩
  · rw [pk_un e]
    exact h j hj
theorem tot_upd {th : AF} {c u v w : Nat} (hc : c < 6) (e : th c = nI v) (hv : v < 1000) {x : Int32} (ex : x = nI w) (hw : w < 1000) (hu : w ≤ v + u) : tot (upd th c x) ≤ tot th + u := by
  have h1 := nI_vI (n := v) (by omega) e
  have h2 := nI_vI (n := w) (by omega) ex
  have h3 : ∀ j, (upd th c x j).toNatClampNeg = if j = c then w else (th j).toNatClampNeg := fun j => by
    by_cases q : j = c
    · subst q; rw [pk_us, if_pos rfl, h2]
    · rw [pk_un q, if_neg q]
  unfold tot
  rw [h3, h3, h3, h3, h3, h3]
  rcases (by omega : c = 0 ∨ c = 1 ∨ c = 2 ∨ c = 3 ∨ c = 4 ∨ c = 5) with rfl | rfl | rfl | rfl | rfl | rfl <;> simp <;> omega
theorem tot_wind {th : AF} (h : okT th) {c u : Nat} (hc : c < 6) (hu : u < 100) : tot (upd th c (sMin 999 (th c + nI u))) ≤ tot th + 99 := by
  obtain ⟨v, w, e, hv, h3, h4, h5⟩ := wind_at h hc (by omega : u < 1000)
  have := tot_upd hc e hv h3 h4 h5
  omega
/-- cells in the first q colours -/
theorem cnt_in {k : AF} : ∀ q, q < 2147483648 → cntP (inS k (q + 1)) 96 = cntP (inS k q) 96 + cntP (isS k q) 96 := by
  intro q hq
  show cntP (fun j => inS k q j || isS k q j) 96 = _
  rw [cntP_or]
  rintro j ⟨h1, h2⟩
  have h3 : k j = nI q := by simpa [isS] using h2
  rw [inS_not k (by omega) h3 q (Nat.le_refl q)] at h1
  cases h1
theorem cnt_6 {k : AF} (h : ∀ j, j < 96 → ∃ v, v < 6 ∧ k j = nI v) : cntP (isS k 0) 96 + cntP (isS k 1) 96 + cntP (isS k 2) 96 + cntP (isS k 3) 96 + cntP (isS k 4) 96 + cntP (isS k 5) 96 = 96 := by
  have h6 : cntP (inS k 6) 96 = 96 := cntP_all 96 (fun i hi => by obtain ⟨v, hv, e⟩ := h i hi; exact inS_yes e 6 hv)
  have h0 : cntP (inS k 0) 96 = 0 := by
    have : ∀ n, cntP (inS k 0) n = 0 := fun n => by
      induction n with
      | zero => rfl
      | succ n ih => rw [cntP, ih]; rfl
    exact this 96
  rw [cnt_in 5 (by omega), cnt_in 4 (by omega), cnt_in 3 (by omega), cnt_in 2 (by omega), cnt_in 1 (by omega), cnt_in 0 (by omega), h0] at h6
  omega
theorem mTk_at (k th : AF) : ∀ n c, mTk k th n c = if c < n then th c - mCo k (nI c) 96 else th c
  | 0, c => by rw [if_neg (by omega)]; rfl
  | n + 1, c => by
    rw [mTk]
    by_cases e : c = n
    · subst e
      rw [pk_us, if_pos (by omega), mTk_at k th c c, if_neg (by omega)]
    · rw [pk_un e, mTk_at k th n c]
      by_cases h : c < n
      · rw [if_pos h, if_pos (by omega)]
      · rw [if_neg h, if_neg (by omega)]
theorem tk_at {k th : AF} (h : okT th) (hs : ∀ c, c < 6 → mCo k (nI c) 96 ≤ th c) {c : Nat} (hc : c < 6) : ∃ v, th c = nI v ∧ v < 1000 ∧ cntP (isS k c) 96 ≤ v ∧ mTk k th 6 c = nI (v - cntP (isS k c) 96) := by
  obtain ⟨v, hv, e⟩ := h c hc
  have h1 := hs c hc
  rw [mCo_c, e] at h1
  have h2 := cntP_le (isS k c) 96
  have h3 : cntP (isS k c) 96 ≤ v := by
    rcases Nat.lt_or_ge v (cntP (isS k c) 96) with z | z
    · exact absurd h1 (nle_nI z (by omega))
    · exact z
  exact ⟨v, e, hv, h3, by rw [mTk_at, if_pos hc, mCo_c, e, pk_sub h3]⟩
theorem okT.take {k th : AF} (h : okT th) (hs : ∀ c, c < 6 → mCo k (nI c) 96 ≤ th c) : okT (mTk k th 6) := by
  intro c hc
  obtain ⟨v, -, h2, -, h4⟩ := tk_at h hs hc
  exact ⟨_, by omega, h4⟩
theorem tot_take {k th : AF} (h : okT th) (hs : ∀ c, c < 6 → mCo k (nI c) 96 ≤ th c) (hk : ∀ j, j < 96 → ∃ v, v < 6 ∧ k j = nI v) : tot (mTk k th 6) + 96 = tot th := by
  have h6 := cnt_6 hk
  obtain ⟨v0, a0, b0, c0, d0⟩ := tk_at h hs (c := 0) (by omega)
  obtain ⟨v1, a1, b1, c1, d1⟩ := tk_at h hs (c := 1) (by omega)
  obtain ⟨v2, a2, b2, c2, d2⟩ := tk_at h hs (c := 2) (by omega)
  obtain ⟨v3, a3, b3, c3, d3⟩ := tk_at h hs (c := 3) (by omega)
  obtain ⟨v4, a4, b4, c4, d4⟩ := tk_at h hs (c := 4) (by omega)
  obtain ⟨v5, a5, b5, c5, d5⟩ := tk_at h hs (c := 5) (by omega)
  unfold tot
  rw [nI_vI (by omega) a0, nI_vI (by omega) a1, nI_vI (by omega) a2, nI_vI (by omega) a3, nI_vI (by omega) a4, nI_vI (by omega) a5, nI_vI (by omega) d0, nI_vI (by omega) d1, nI_vI (by omega) d2, nI_vI (by omega) d3, nI_vI (by omega) d4, nI_vI (by omega) d5]
  omega
/-! shades of a palette -/
def uS (u : Nat → Nat) (s : Nat) : Nat → Nat
  | 0 => 0
  | i + 1 => uS u s i + u (s + i)
theorem aSum_u {so : AF} {u : Nat → Nat} (h : SU so 96 u) (s : Nat) : ∀ i, s + i ≤ 96 → aSum so s i = nI (uS u s i)
  | 0, _ => rfl
  | i + 1, hi => by
    rw [aSum, uS, aSum_u h s i (by omega), (h.1 (s + i) (by omega)).2, ← nI_add]
theorem uS_ge {so : AF} {u : Nat → Nat} (h : SU so 96 u) (s : Nat) : ∀ i, s + i ≤ 96 → u s * i ≤ uS u s i
  | 0, _ => Nat.zero_le _
  | i + 1, hi => by
    have := uS_ge h s i (by omega)
    have h2 := h.2 s (s + i) (by omega) (by omega)
    rw [uS, Nat.mul_succ]
    omega
theorem uS_le {so : AF} {u : Nat → Nat} (h : SU so 96 u) (s t : Nat) (ht : t < 96) : ∀ i, s + i ≤ t + 1 → uS u s i ≤ u t * i
  | 0, _ => Nat.zero_le _
  | i + 1, hi => by
    have := uS_le h s t ht i (by omega)
    have h2 := h.2 (s + i) t (by omega) ht
    rw [uS, Nat.mul_succ]
    omega
theorem mean_u {so : AF} {u : Nat → Nat} (h : SU so 96 u) {e : Nat → Nat} {q k : Nat} (hp : PA e q) (hk : k < q) : ∃ v, aMean so e k = nI v ∧ u (e k) ≤ v ∧ v ≤ u (e (k + 1) - 1) := by
  have h1 := hp.2.2.2 k hk
  have h2 : e (k + 1) ≤ 96 := by
    rcases Nat.lt_or_ge (k + 1) q with z | z
    · have := hp.mono z (Nat.le_refl q)
      rw [hp.2.2.1] at this
      omega
    · have e9 : k + 1 = q := by omega
      rw [e9, hp.2.2.1]
      exact Nat.le_refl _
  have hs := uS_ge h (e k) (e (k + 1) - e k) (by omega)
  have hl := uS_le h (e k) (e (k + 1) - 1) (by omega) (e (k + 1) - e k) (by omega)
  have hu := (h.1 (e (k + 1) - 1) (by omega)).1
  have hb : u (e (k + 1) - 1) * (e (k + 1) - e k) ≤ 256 * 96 := Nat.mul_le_mul (by omega) (by omega)
  refine ⟨uS u (e k) (e (k + 1) - e k) / (e (k + 1) - e k), ?_, ?_, ?_⟩
  · unfold aMean
    rw [aSum_u h _ _ (by omega), pk_div (by omega) (by omega) (by omega)]
  · rw [Nat.le_div_iff_mul_le (by omega)]
    exact hs
  · exact Nat.div_le_of_le_mul (by rw [Nat.mul_comm]; exact hl)
theorem srt_su {f : AF} (hf : okF f) : ∃ u, SU (mSrt f z0) 96 u := by
  have hc : RW (fun y x => f (12 * y + x)) f := fun _ _ _ _ => rfl
  obtain ⟨u, h1, h2⟩ := so_su hc hf
  exact ⟨u, fun j hj => by rw [← so_m hc hf z0 j hj]; exact h1 j hj, h2⟩
theorem pp_u {f : AF} (hf : okF f) {m : Nat} (h1 : 1 ≤ m) (h6 : m ≤ 6) {u : Nat → Nat} (hu : SU (mSrt f z0) 96 u) {k : Nat} (hk : k < PQ f m) : ∃ v, PP f m k = nI v ∧ u ((mFit f z0 m).1 k) ≤ v ∧ v ≤ u ((mFit f z0 m).1 (k + 1) - 1) := by
  obtain ⟨v, e1, e2, e3⟩ := mean_u hu (mFit_PA hf z0 h1 h6) hk
  exact ⟨v, (pal_at (mSrt f z0) (mFit f z0 m).1 z0 (mFit f z0 m).2 k hk).trans e1, e2, e3⟩
theorem pp_256 {f : AF} (hf : okF f) {m : Nat} (h1 : 1 ≤ m) (h6 : m ≤ 6) : ∀ k, k < PQ f m → ∃ v, v < 256 ∧ PP f m k = nI v := by
  intro k hk
  obtain ⟨u, hu⟩ := srt_su hf
  obtain ⟨v, e1, -, e3⟩ := pp_u hf h1 h6 hu hk
  have hp := mFit_PA hf z0 h1 h6
  have h2 := hp.2.2.2 k hk
  have h3 : (mFit f z0 m).1 (k + 1) ≤ 96 := hp.le (Nat.succ_le_of_lt hk)
  have := (hu.1 ((mFit f z0 m).1 (k + 1) - 1) (by omega)).1
  exact ⟨v, by omega, e1⟩
theorem PQ_1 (f : AF) (m : Nat) : 1 ≤ PQ f m := (aFit_q _ _ _ _).1
theorem PQ_m (f : AF) {m : Nat} (h : 1 ≤ m) : PQ f m ≤ m := by
  have := (aFit_q (mSrt f z0) (m - 1) 1 aE0).2
  show (aFit (mSrt f z0) (m - 1) 1 aE0).2 ≤ m
  omega
/-! the Sim and the class after an act -/
def KP (E : gE) (kpa kka n : Nat) (k kp : AF) (kq : Nat) (ko ko' : Int32) (rs : va_W) : Prop :=
  (n = 0 ∧ ko' = 0 ∧ rs = [(kpa, .inl (E.2.2, 0, .inl (fun _ => 0))), (kka, qF E 0 (fun _ => none))]) ∨ (0 < n ∧ ko' = ko ∧ ∃ (pl : AF) (r2 : Nat → Nat) (d : Nat → AF), rs = [(kpa, .inl (E.2.2, kq, .inl pl)), (kka, qE E 8 r2)] ++ (gW E r2 (fun _ => 12) d 8 ++ []) ∧ (∀ j, j < kq → pl j = kp j) ∧ RW d k)
def SWP (E : gE) (y : Nat) (σ : SG) (ws : va_W) : Prop := match σ with
  | (f, th, m, car, tur, pre, n, k, kp, kq, ko) => ∃ (pa sa kpa kka : Nat) (r : Nat → Nat) (c : Nat → AF) (ko' : Int32) (rs : va_W), ws = [(y, .inr (5, [.ref pa, .int (nI m), .int car, .int tur, .int pre, .ref sa, .int (nI n), .ref kpa, .ref kka, .int ko'])), (pa, qE E 8 r), (sa, .inl (E.2.2, 6, .inl th))] ++ (gW E r (fun _ => 12) c 8 ++ rs) ∧ RW c f ∧ KP E kpa kka n k kp kq ko ko' rs
def RelA (σ σ' : SG) : Prop := match σ, σ' with
  | (_, th, _, _, _, _, n, _), (_, th', _, _, _, _, n', _) => (n' = n ∧ tot th' ≤ tot th + 99) ∨ (n' = n + 1 ∧ tot th' + 96 = tot th)
def ActPo (E : gE) (x y N : Nat) (σ : SG) : Option Value → va_W → Prop := fun o V => o = some (.int 1) ∧ ∃ σ' ws wm, V = ws ++ wm ∧ SWP E y σ' ws ∧ MWP E x σ' wm ∧ OkS (N + 1) σ' ∧ RelA σ σ'
theorem act_end {E : gE} {x y N pa sa kpa kka : Nat} {r : Nat → Nat} {c : Nat → AF} {f th : AF} {m : Nat} {car tur pre : Int32} {n : Nat} {k kp : AF} {kq : Nat} {ko ko' : Int32} {rs wm : va_W} {σ : SG} (hm : MWP E x (f, th, m, car, tur, pre, n, k, kp, kq, ko) wm) (hc : RW c f) (hkp : KP E kpa kka n k kp kq ko ko' rs) (hok : OkS (N + 1) (f, th, m, car, tur, pre, n, k, kp, kq, ko)) (hr : RelA σ (f, th, m, car, tur, pre, n, k, kp, kq, ko)) : ActPo E x y N σ (some (.int 1)) ([(y, .inr (5, [.ref pa, .int (nI m), .int car, .int tur, .int pre, .ref sa, .int (nI n), .ref kpa, .ref kka, .int ko'])), (pa, qE E 8 r), (sa, .inl (E.2.2, 6, .inl th))] ++ (gW E r (fun _ => 12) c 8 ++ (rs ++ wm))) :=
  ⟨rfl, (f, th, m, car, tur, pre, n, k, kp, kq, ko), _, wm, by rw [← List.append_assoc (gW E r (fun _ => 12) c 8) rs wm, ← List.append_assoc], ⟨pa, sa, kpa, kka, r, c, ko', rs, rfl, hc, hkp⟩, hm, hok, hr⟩
/-- a row in place of another -/
theorem rowq_perm {E : gE} {r n : Nat → Nat} {c : Nat → AF} {h y q : Nat} {g : AF} (hy : y < h) : ((q, .inl (E.2.2, n y, .inl g)) :: gW E r n c h).Perm (gW E (va_up r y q) n (va_up c y g) h ++ [(r y, .inl (E.2.2, n y, .inl (c y)))]) := by
  have h1 := gW_perm (E := E) (r := r) (n := n) (c := c) hy
  have h2 := gW_perm (E := E) (r := va_up r y q) (n := n) (c := va_up c y g) hy
  rw [va_up_self, va_up_self] at h2
  have h3 : (gW E (va_up r y q) n (va_up c y g) h).eraseIdx y = (gW E r n c h).eraseIdx y := by
    apply List.ext_getElem?
    intro j
    rw [List.getElem?_eraseIdx, List.getElem?_eraseIdx]
    have e : ∀ i, i ≠ y → (gW E (va_up r y q) n (va_up c y g) h)[i]? = (gW E r n c h)[i]? := fun i hi => by
      by_cases hh : i < h
      · rw [gW_at hh, gW_at hh, va_up_ne _ _ hi, va_up_ne _ _ hi]
      · rw [List.getElem?_eq_none (by rw [gW_len]; omega), List.getElem?_eq_none (by rw [gW_len]; omega)]
    split
    · exact e j (by omega)
    · exact e (j + 1) (by omega)
  rw [h3] at h2
  refine (List.Perm.cons _ h1).trans ?_
  refine List.Perm.trans ?_ (List.perm_append_comm (l₁ := [_])).symm.symm
  refine List.Perm.trans (List.Perm.swap _ _ _) ?_
  exact List.Perm.cons _ h2.symm
theorem gW_in {E : gE} {A B : va_W} {r n : Nat → Nat} {c : Nat → AF} {h y : Nat} (hy : y < h) : (A ++ (gW E r n c h ++ B))[A.length + y]? = some (r y, .inl (E.2.2, n y, .inl (c y))) := by
  rw [List.getElem?_append_right (by omega), Nat.add_sub_cancel_left, List.getElem?_append_left (by rw [gW_len]; exact hy), gW_at hy]
end MWV
