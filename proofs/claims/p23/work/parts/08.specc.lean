/-! what the methods of Cloth answer -/
section SPECC
theorem sFit_q (so : AF) : ∀ (n q : Nat) (st : AF), q ≤ (sFit so n q st).2 ∧ (sFit so n q st).2 ≤ q + n
  | 0, q, st => ⟨Nat.le_refl _, Nat.le_refl _⟩
  | n + 1, q, st => by
    rw [sFit]
    split
    · have := sFit_q so n (q + 1) (sSplit st q (sWid so st (nI q) (q - 1)))
      omega
    · exact ⟨Nat.le_refl _, by omega⟩
theorem sFitF_1 (f so st : AF) (m : Nat) : 1 ≤ (sFitF f so st m).2 := (sFit_q _ _ _ _).1
theorem sFitF_m (f so st : AF) {m : Nat} (h : 1 ≤ m) : (sFitF f so st m).2 ≤ m := by
  have := (sFit_q (sSorted f so) (m - 1) 1 (sPut 6 st 0 0)).2
  unfold sFitF
  omega
def sCar2 (f : AF) (er x y ah : Int32) : AF := sGAdd (sGAdd (sGAdd (sGAdd f (x + ah) y (er * 7 / 16)) (x - ah) (y + 1) (er * 3 / 16)) x (y + 1) (er * 5 / 16)) (x + ah) (y + 1) (er - er * 7 / 16 - er * 3 / 16 - er * 5 / 16)
def sCar1 (f : AF) (er x y ah way : Int32) : AF := if ¬ way = 1 then f else sGAdd f (x + ah) y er
def sCarry (f : AF) (er x y ah way : Int32) : AF := if ¬ way = 2 then sCar1 f er x y ah way else sCar2 (sCar1 f er x y ah way) er x y ah
def sRX (back : Int32) (i : Nat) : Int32 := if back = 0 then nI i else 11 - nI i
def sAh (back : Int32) : Int32 := if back = 0 then 1 else (-1)
abbrev RS : Type := AF × AF × AF × Int32
/-- one cell woven: woven, carried, used, off -/
def sCell1 (sh : AF) (b : Nat) (f : AF) (way back y : Int32) (s : RS) (x : Int32) : RS :=
  (sGPut s.1 x y (sNear sh (nI b) (sGAt f x y + sGAt s.2.1 x y) (b - 1)).1,
   sCarry s.2.1 (sGAt f x y + sGAt s.2.1 x y - sShade sh (nI b) (sNear sh (nI b) (sGAt f x y + sGAt s.2.1 x y) (b - 1)).1) x y (sAh back) way,
   sPut 6 s.2.2.1 (sNear sh (nI b) (sGAt f x y + sGAt s.2.1 x y) (b - 1)).1 (sAt 6 s.2.2.1 (sNear sh (nI b) (sGAt f x y + sGAt s.2.1 x y) (b - 1)).1 + 1),
   s.2.2.2 + sAbs (sShade sh (nI b) (sNear sh (nI b) (sGAt f x y + sGAt s.2.1 x y) (b - 1)).1 - sGAt f x y))
def sRow (sh : AF) (b : Nat) (f : AF) (way back y : Int32) (s : RS) : Nat → RS
  | 0 => s
  | i + 1 => sCell1 sh b f way back y (sRow sh b f way back y s i) (sRX back i)
def sGo (fw : AF) (y len : Int32) (x : Int32) : Int32 := if ¬ sGAt fw x y = sGAt fw (x - 1) y then 0 else if 9 ≤ len then 0 else 1
def sLen (go len : Int32) : Int32 := if go = 0 then 1 else len + 1
def sNum (go num : Int32) : Int32 := if go = 0 then num + 1 else num
/-- number, length, the numbers -/
def sNR (fw : AF) (y : Int32) (fr : AF) : Nat → Int32 × Int32 × AF
  | 0 => (0, 1, sGPut fr 0 y 0)
  | i + 1 => (sNum (sGo fw y (sNR fw y fr i).2.1 (nI (i + 1))) (sNR fw y fr i).1, sLen (sGo fw y (sNR fw y fr i).2.1 (nI (i + 1))) (sNR fw y fr i).2.1, sGPut (sNR fw y fr i).2.2 (nI (i + 1)) y (sNum (sGo fw y (sNR fw y fr i).2.1 (nI (i + 1))) (sNR fw y fr i).1))
/-- 1 where p holds, else 0 -/
noncomputable def pIf (p : Prop) : Int32 := @ite Int32 p (Classical.propDecidable p) 1 0
theorem pIf_pos {p : Prop} (h : p) : pIf p = 1 := by
  unfold pIf
  exact @if_pos p (Classical.propDecidable p) h Int32 1 0
theorem pIf_neg {p : Prop} (h : ¬ p) : pIf p = 0 := by
  unfold pIf
  exact @if_neg p (Classical.propDecidable p) h Int32 1 0
theorem pIf_iff {p q : Prop} (h : p ↔ q) : pIf p = pIf q := by rw [propext h]
noncomputable def sAsAb (fw : AF) (y : Int32) : Int32 := if 0 < y then pIf (∀ x, x < 12 → sGAt fw (nI x) y = sGAt fw (nI x) (y - 1)) else 0
def sRn (fr : AF) (y : Int32) : Int32 := sGAt fr 11 y + 1
def sCoR (fr fw : AF) (y pl : Int32) : Nat → Nat → Int32
  | 0, _ => (-1)
  | n + 1, i => if ¬ sGAt fr (nI i) y = pl then sCoR fr fw y pl n (i + 1) else sGAt fw (nI i) y
def sLoR (fr : AF) (y pl : Int32) : Nat → Int32
  | 0 => 0
  | i + 1 => if ¬ sGAt fr (nI i) y = pl then sLoR fr y pl i else sLoR fr y pl i + 1
noncomputable def sKn (fw fr : AF) (y pr : Int32) : Int32 := if pr = 0 then sRn fr y else if sAsAb fw y = 0 then sRn fr y else 1
noncomputable def sAK (fw fr : AF) (pr : Int32) : Nat → Int32
  | 0 => 0
  | y + 1 => sAK fw fr pr y + sKn fw fr (nI y) pr
def sBk (tur : Int32) (y : Nat) : Int32 := if tur = 0 then 0 else if ¬ nI (y % 2) = 1 then 0 else 1
/-- all rows: woven, carried, used, off; the runs -/
def sMk (sh : AF) (b : Nat) (f : AF) (way tur : Int32) (fw fc fu fr : AF) : Nat → RS × AF
  | 0 => ((fw, sFill 0 fc 96, sFill 0 fu 6, 0), fr)
  | y + 1 => (sRow sh b f way (sBk tur y) (nI y) (sMk sh b f way tur fw fc fu fr y).1 12, (sNR (sRow sh b f way (sBk tur y) (nI y) (sMk sh b f way tur fw fc fu fr y).1 12).1 (nI y) (sMk sh b f way tur fw fc fu fr y).2 11).2.2)
def sMake (f : AF) (m : Nat) (way tur : Int32) (so st sh fw fc fu fr : AF) : RS × AF := sMk (sMnsF f so st sh m) (sFitF f so st m).2 f way tur fw fc fu fr 8
end SPECC
