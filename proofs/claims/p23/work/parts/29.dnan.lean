/-! a quotient by 96 of a whole number is a number -/
section PDNAN

theorem dn_t : FP.Core.Fmt.tails FP.Core.b64 = 4503599627370496 := by decide +kernel
theorem dn_x : FP.Core.Fmt.exps FP.Core.b64 = 2048 := by decide +kernel
theorem dn_m : FP.Core.Fmt.qmin FP.Core.b64 = -1074 := by decide +kernel
theorem dn_M : FP.Core.Fmt.qmax FP.Core.b64 = 971 := by decide +kernel
theorem dn_p : 2 ^ FP.Core.b64.p = 9007199254740992 := by decide +kernel
def dnG : FP.Core.Datum → Prop
  | .nan => False
  | .inf _ => True
  | .fin _ c q => c < 9007199254740992 ∧ q ≤ 971
theorem dn_bl (b : Bool) : b.toNat ≤ 1 := by cases b <;> decide
theorem dn_enc {d : FP.Core.Datum} (h : dnG d) : ∃ (b : Bool) (e : Nat), FP.Core.encode FP.Core.b64 d = b.toNat * 9223372036854775808 + e ∧ e ≤ 9218868437227405312 := by
  cases d with
  | nan => exact h.elim
  | inf s =>
    refine ⟨s, 9218868437227405312, ?_, Nat.le_refl _⟩
    unfold FP.Core.encode FP.Core.assemble
    simp only [dn_t, dn_x]
    omega
  | fin s c q =>
    obtain ⟨h1, h2⟩ := h
    unfold FP.Core.encode FP.Core.assemble
    simp only [dn_t, dn_x, dn_m]
    split
    · exact ⟨s, c, by omega, by omega⟩
    · exact ⟨s, ((q - (-1074)).toNat + 1) * 4503599627370496 + (c - 4503599627370496), by omega, by omega⟩
theorem dn_nat (b : Bool) (e : Nat) (h : e ≤ 9218868437227405312) : (UInt64.ofNat (b.toNat * 9223372036854775808 + e)).toNat = b.toNat * 9223372036854775808 + e := by
  have hb := dn_bl b
  rw [UInt64.toNat_ofNat']
  omega
theorem dn_vf (b : Bool) (e : Nat) (h : e ≤ 9218868437227405312) : vf_n64 (UInt64.ofNat (b.toNat * 9223372036854775808 + e)) := by
  unfold vf_n64
  have hb := dn_bl b
  rw [UInt64.le_iff_toNat_le, UInt64.toNat_and, dn_nat b e h]
  have h2 : (0x7fffffffffffffff : UInt64).toNat = 2 ^ 63 - 1 := by decide
  have h3 : (0x7ff0000000000000 : UInt64).toNat = 9218868437227405312 := by decide
  rw [h2, h3, Nat.and_two_pow_sub_one_eq_mod]
  omega
theorem dn_dec (b : Bool) (e : Nat) (h : e ≤ 9218868437227405312) : FP.Core.decode FP.Core.b64 (b.toNat * 9223372036854775808 + e) ≠ .nan := by
  have hb := dn_bl b
  unfold FP.Core.decode FP.Core.fieldE FP.Core.fieldT
  simp only [dn_t, dn_x]
  split
  · rename_i h1
    split
    · exact fun q => nomatch q
    · rename_i h2
      exfalso
      omega
  · split <;> exact fun q => nomatch q
theorem dn_b (s : Bool) {c : Nat} (q : Int) (h : c < 9007199254740992) : dnG (FP.Core.bound FP.Core.b64 s c q) := by
  unfold FP.Core.bound
  rw [dn_M]
  split
  · rename_i h1
    exact ⟨h, h1⟩
  · exact True.intro
theorem dn_rr (s : Bool) (num den : Nat) (e : Int) : dnG (FP.Core.roundRatio FP.Core.b64 s num den e) := by
  unfold FP.Core.roundRatio
  split
  · rw [dn_m]
    exact ⟨by decide, by decide⟩
  · unfold FP.Core.roundAt FP.Core.settle
    rw [dn_p]
    split
    · rename_i h1
      exact dn_b _ _ h1
    · exact dn_b _ _ (by rw [dn_t]; decide)
theorem dn_quot {x : FP.Core.Datum} (h : x ≠ .nan) (t : Bool) {d : Nat} (r : Int) (hd : ¬ d = 0) : dnG (FP.Core.quotient FP.Core.b64 x (.fin t d r)) := by
  cases x with
  | nan => exact absurd rfl h
  | inf s => exact True.intro
  | fin s c q =>
    show dnG (if d = 0 then _ else FP.Core.roundRatio FP.Core.b64 (s != t) c d (q - r))
    rw [if_neg hd]
    exact dn_rr _ _ _ _
theorem sMean_n (s : Int32) : vf_n64 (sMean s) := by
  show vf_n64 (UInt64.ofNat (FP.Core.encode FP.Core.b64 (FP.Core.quotient FP.Core.b64 (FP.Core.decode FP.Core.b64 (UInt64.ofNat (FP.Core.encode FP.Core.b64 (FP.Core.roundRatio FP.Core.b64 (decide (s.toInt < 0)) s.toInt.natAbs 1 0))).toNat) (FP.Core.decode FP.Core.b64 (4636455816377925632 : UInt64).toNat))))
  have h96 : FP.Core.decode FP.Core.b64 (4636455816377925632 : UInt64).toNat = .fin false 6755399441055744 (-46) := by decide +kernel
  rw [h96]
  obtain ⟨b, e, h1, h2⟩ := dn_enc (dn_rr (decide (s.toInt < 0)) s.toInt.natAbs 1 0)
  rw [h1, dn_nat b e h2]
  obtain ⟨b2, e2, h3, h4⟩ := dn_enc (dn_quot (dn_dec b e h2) false (-46) (d := 6755399441055744) (by decide))
  rw [h3]
  exact dn_vf b2 e2 h4
end PDNAN
