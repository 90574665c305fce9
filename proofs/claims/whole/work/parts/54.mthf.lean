/-! the world of the law's body and what holds between its two halves -/
section MTHF
/-- a cloth's thirteen cells at a 0 .. a 12: c d d1 d2 d3 d4 w wa ca cb r ra u -/
def wCl (E : gE) (a : Nat → Nat) (s : CS) : va_W := [(a 0, .inr (0, [.ref (a 1), .ref (a 6), .ref (a 8), .ref (a 10), .ref (a 12), .int s.2.2.2.2.2.2.2.2.2])), (a 1, .inr (2, [.ref (a 2), .ref (a 3), .ref (a 4), .ref (a 5), .int s.2.2.2.2.1])), (a 2, .inl (E.2.2, 256, .inl s.1)), (a 3, .inl (E.2.2, 96, .inl s.2.1)), (a 4, .inl (E.2.2, 6, .inl s.2.2.1)), (a 5, .inl (E.2.2, 6, .inl s.2.2.2.1)), (a 6, .inr (1, [.ref (a 7)])), (a 7, .inl (E.2.2, 96, .inl s.2.2.2.2.2.1)), (a 8, .inr (1, [.ref (a 9)])), (a 9, .inl (E.2.2, 96, .inl s.2.2.2.2.2.2.1)), (a 10, .inr (1, [.ref (a 11)])), (a 11, .inl (E.2.2, 96, .inl s.2.2.2.2.2.2.2.1)), (a 12, .inl (E.2.2, 6, .inl s.2.2.2.2.2.2.2.2.1))]
/-- colours, carry, turning, pressing, cloths -/
abbrev TS : Type := Int32 × Int32 × Int32 × Int32 × Int32
/-- present palette: tally, sorted, starts, shades, boxes -/
abbrev PS : Type := AF × AF × AF × AF × Int32
/-- the class's ten first cells at a 0 .. a 9: x g ga p p1 p2 p3 p4 s sa -/
def wTp (E : gE) (a : Nat → Nat) (kc qc : Nat) (t : TS) (f : AF) (p : PS) (th : AF) : va_W := [(a 0, .inr (4, [.ref (a 1), .ref (a 3), .ref (a 8), .ref kc, .ref qc, .int t.1, .int t.2.1, .int t.2.2.1, .int t.2.2.2.1, .int t.2.2.2.2])), (a 1, .inr (1, [.ref (a 2)])), (a 2, .inl (E.2.2, 96, .inl f)), (a 3, .inr (2, [.ref (a 4), .ref (a 5), .ref (a 6), .ref (a 7), .int p.2.2.2.2])), (a 4, .inl (E.2.2, 256, .inl p.1)), (a 5, .inl (E.2.2, 96, .inl p.2.1)), (a 6, .inl (E.2.2, 6, .inl p.2.2.1)), (a 7, .inl (E.2.2, 6, .inl p.2.2.2.1)), (a 8, .inr (3, [.ref (a 9)])), (a 9, .inl (E.2.2, 6, .inl th))]
/-- the reference: thrown, many, off; kept many, kept off -/
abbrev NS : Type := Int32 × Int32 × Int32 × Int32 × Int32
/-- its rows: palette, sorted, cloth, here, below, kept palette, kept -/
abbrev RW : Type := AF × AF × AF × AF × AF × AF × AF
/-- the reference's ten cells at a 0 .. a 9 -/
def wMo (E : gE) (a : Nat → Nat) (t : TS) (n : NS) (f th : AF) (r : RW) : va_W := [(a 0, .inr (5, [.int n.1, .ref (a 1), .int t.1, .int t.2.1, .int t.2.2.1, .int t.2.2.2.1, .ref (a 2), .int n.2.1, .ref (a 3), .ref (a 4), .ref (a 5), .int n.2.2.1, .ref (a 6), .ref (a 7), .int t.2.2.2.2, .int n.2.2.2.1, .int n.2.2.2.2, .ref (a 8), .ref (a 9)])), (a 1, .inl (E.2.2, 96, .inl f)), (a 2, .inl (E.2.2, 6, .inl th)), (a 3, .inl (E.2.2, 6, .inl r.1)), (a 4, .inl (E.2.2, 96, .inl r.2.1)), (a 5, .inl (E.2.2, 96, .inl r.2.2.1)), (a 6, .inl (E.2.2, 12, .inl r.2.2.2.1)), (a 7, .inl (E.2.2, 12, .inl r.2.2.2.2.1)), (a 8, .inl (E.2.2, 6, .inl r.2.2.2.2.2.1)), (a 9, .inl (E.2.2, 96, .inl r.2.2.2.2.2.2))]
/-- the whole world: 10 + 13 (kept) + 13 (trial) + 10 + 1 cells -/
def wAll (E : gE) (cL : ClassId) (a ka qa ra : Nat → Nat) (oa : Nat) (t : TS) (f : AF) (p : PS) (th : AF) (K Q : CS) (n : NS) (r : RW) (ol : Nat → Int64) : va_W :=
  wTp E a (ka 0) (qa 0) t f p th ++ wCl E ka K ++ wCl E qa Q ++ wMo E ra t n f th r ++ [(oa, .inl (cL, 1, .inr (.inl ol)))]
/-- what holds between the calls: settings in their bounds, the pattern's numbers, as many cloths as calls at most; the kept cloths alike -/
def okT (i : Nat) (t : TS) : Prop := (∃ m, 2 ≤ m ∧ m ≤ 6 ∧ t.1 = nI m) ∧ (t.2.1 = 0 ∨ t.2.1 = 1 ∨ t.2.1 = 2) ∧ (t.2.2.1 = 0 ∨ t.2.2.1 = 1) ∧ (t.2.2.2.1 = 0 ∨ t.2.2.2.1 = 1) ∧ ∃ n, n ≤ i ∧ t.2.2.2.2 = nI n
def okK (t : TS) (K : CS) (n : NS) (r : RW) : Prop := (∃ kb, kb ≤ 6 ∧ K.2.2.2.2.1 = nI kb ∧ n.2.2.2.1 = nI kb ∧ (∀ j, j < kb → K.2.2.2.1 j = r.2.2.2.2.2.1 j) ∧ (t.2.2.2.2 = 0 → kb = 0)) ∧ (t.2.2.2.2 = 0 → n.2.2.2.2 = 0) ∧ (¬ t.2.2.2.2 = 0 → KT (csFw K) (csFr K) r.2.2.2.2.2.2 ∧ csOff K = n.2.2.2.2 ∧ ∀ c, c < 6 → csFu K c = nI (cntP (isS r.2.2.2.2.2.2 c) 96))
def Inv (i : Nat) (t : TS) (f : AF) (K : CS) (n : NS) (r : RW) : Prop := okT i t ∧ okF f ∧ okK t K n r
theorem Inv.up {i j : Nat} {t : TS} {f : AF} {K : CS} {n : NS} {r : RW} (h : Inv i t f K n r) (hij : i ≤ j) : Inv j t f K n r := by
  obtain ⟨⟨h1, h2, h3, h4, m, h5, h6⟩, h7, h8⟩ := h
  exact ⟨⟨h1, h2, h3, h4, m, Nat.le_trans h5 hij, h6⟩, h7, h8⟩
/-- none is kept at the start -/
theorem Inv.zero (f : AF) (hf : okF f) (K : CS) (n : NS) (r : RW) (hb : K.2.2.2.2.1 = 0) (hk : n.2.2.2.1 = 0) (ho : n.2.2.2.2 = 0) : Inv 0 (3, 2, 0, 0, 0) f K n r :=
  ⟨⟨⟨3, by omega, by omega, rfl⟩, Or.inr (Or.inr rfl), Or.inl rfl, Or.inl rfl, 0, Nat.le_refl _, rfl⟩, hf, ⟨0, by omega, hb, hk, fun j hj => absurd hj (Nat.not_lt_zero _), fun _ => rfl⟩, fun _ => ho, fun h => absurd rfl h⟩
/-- whether there is a cloth, on both sides -/
theorem has_tie {i : Nat} (hi : i < 2147483648) {t : TS} (h : okT i t) : (sHas t.2.2.2.2 = 0 ↔ t.2.2.2.2 ≤ 0) ∧ (t.2.2.2.2 ≤ 0 ↔ t.2.2.2.2 = 0) := by
  obtain ⟨-, -, -, -, n, hn, e⟩ := h
  rw [e]
  have h1 : nI n ≤ 0 ↔ nI n = 0 := by
    constructor
    · intro z
      have h2 : n ≤ 0 := (nI_leI (b := 0) (by omega) (by omega)).mp z
      have h3 : n = 0 := by omega
      rw [h3]; rfl
    · intro z
      rw [z]
      exact Int32.le_refl 0
  refine ⟨?_, h1⟩
  unfold sHas
  by_cases c : nI n ≤ 0
  · rw [if_pos c]
    exact ⟨fun _ => c, fun _ => rfl⟩
  · rw [if_neg c]
    exact ⟨fun z => absurd z (by decide), fun z => absurd z c⟩
end MTHF
