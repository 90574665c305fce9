/-! the tests of arguments agree; a mean equals itself -/
section MTHE
theorem mIn_iff {v lo hi : Int32} : mIn v lo hi = 0 ↔ ¬ (¬ v < lo ∧ v ≤ hi) := by
  unfold mIn
  by_cases h1 : v < lo
  · rw [if_pos h1]
    exact ⟨fun _ z => z.1 h1, fun _ => rfl⟩
  · rw [if_neg h1]
    by_cases h2 : hi < v
    · rw [if_pos h2]
      exact ⟨fun _ z => absurd h2 (Int32.not_lt.mpr z.2), fun _ => rfl⟩
    · rw [if_neg h2]
      exact ⟨fun z => absurd z (by decide), fun z => absurd ⟨h1, Int32.not_lt.mp h2⟩ z⟩
theorem mIn_no {v lo hi : Int32} : ¬ mIn v lo hi = 0 ↔ (¬ v < lo ∧ v ≤ hi) := by
  rw [mIn_iff]
  exact Classical.not_not
theorem rng_nI {v : Int32} {n : Nat} (hn : n < 2147483647) (h : ¬ v < 0 ∧ v ≤ nI n) : ∃ k, k ≤ n ∧ v = nI k := by
  rcases pk_ix v (n := n + 1) (by omega) with h1 | h1 | ⟨j, hj, rfl⟩
  · exact absurd h1 h.1
  · have h2 : nI (n + 1) ≤ nI n := by
      have h3 := h.2
      exact Int32.le_trans h1 h3
    exact absurd h2 (nI_ge (by omega) (by omega))
  · exact ⟨j, by omega, rfl⟩
theorem cell_iff {a b : Int32} : sCell a b = 0 ↔ (mIn a 0 11 = 0 ∨ mIn b 0 7 = 0) := by
  constructor
  · intro h
    refine Classical.byContradiction (fun z => ?_)
    have h1 : ¬ mIn a 0 11 = 0 := fun q => z (Or.inl q)
    have h2 : ¬ mIn b 0 7 = 0 := fun q => z (Or.inr q)
    obtain ⟨i, hi, rfl⟩ := rng_nI (n := 11) (by omega) (mIn_no.mp h1)
    obtain ⟨j, hj, rfl⟩ := rng_nI (n := 7) (by omega) (mIn_no.mp h2)
    rw [gCell_nI (by omega) (by omega)] at h
    exact absurd h (by decide)
  · intro h
    refine Classical.byContradiction (fun z => ?_)
    obtain ⟨i, j, hi, hj, rfl, rfl⟩ := sCell_1 z
    rcases h with h | h
    · have e : mIn (nI i) 0 11 = 1 := mIn_nI (n := 11) (by omega) (by omega)
      rw [e] at h
      exact absurd h (by decide)
    · have e : mIn (nI j) 0 7 = 1 := mIn_nI (n := 7) (by omega) (by omega)
      rw [e] at h
      exact absurd h (by decide)
theorem ord_self {d : FP.Core.Datum} (h : d ≠ .nan) : FP.Core.order d d = some .eq := by
  have hc : ∀ z : Int, compare z z = .eq := fun z => by
    show compareOfLessAndEq z z = .eq
    unfold compareOfLessAndEq
    rw [if_neg (Int.lt_irrefl _), if_pos rfl]
  cases d with
  | nan => exact absurd rfl h
  | inf s => exact congrArg some (hc _)
  | fin s c q => exact congrArg some (hc _)
theorem sMean_form (s : Int32) : ∃ (b : Bool) (e : Nat), sMean s = UInt64.ofNat (b.toNat * 9223372036854775808 + e) ∧ e ≤ 9218868437227405312 := by
  have h0 : sMean s = UInt64.ofNat (FP.Core.encode FP.Core.b64 (FP.Core.quotient FP.Core.b64 (FP.Core.decode FP.Core.b64 (UInt64.ofNat (FP.Core.encode FP.Core.b64 (FP.Core.roundRatio FP.Core.b64 (decide (s.toInt < 0)) s.toInt.natAbs 1 0))).toNat) (FP.Core.decode FP.Core.b64 (4636455816377925632 : UInt64).toNat))) := rfl
  have h96 : FP.Core.decode FP.Core.b64 (4636455816377925632 : UInt64).toNat = .fin false 6755399441055744 (-46) := by decide +kernel
  rw [h96] at h0
  obtain ⟨b, e, h1, h2⟩ := dn_enc (dn_rr (decide (s.toInt < 0)) s.toInt.natAbs 1 0)
  rw [h1, dn_nat b e h2] at h0
  obtain ⟨b2, e2, h3, h4⟩ := dn_enc (dn_quot (dn_dec b e h2) false (-46) (d := 6755399441055744) (by decide))
  rw [h3] at h0
  exact ⟨b2, e2, h0, h4⟩
theorem mean_self (s : Int32) : Op.cmpValue (FP.dcmp (sMean s) (sMean s)) .l = 0 := by
  obtain ⟨b, e, h1, h2⟩ := sMean_form s
  have h3 : FP.dcmp (sMean s) (sMean s) = some .eq := by
    show FP.Core.order (FP.Core.decode FP.Core.b64 (sMean s).toNat) (FP.Core.decode FP.Core.b64 (sMean s).toNat) = _
    rw [h1, dn_nat b e h2]
    exact ord_self (dn_dec b e h2)
  rw [h3]
  rfl
end MTHE
