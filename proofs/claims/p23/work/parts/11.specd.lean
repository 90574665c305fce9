/-! what the methods of Spools and TapestryRuns answer -/
section SPECD
def sHeld (v : Int32) : Int32 := sMax 0 (sMin 255 v)
def sHold (th : AF) : Nat → Int32
  | 0 => 0
  | i + 1 => sHold th i + sAt 6 th (nI i)
def sWind (th : AF) (c n : Int32) : AF := sPut 6 th c (sMin 999 (sAt 6 th c + n))
noncomputable def sSuf (fu th : AF) : Int32 := pIf (∀ c, c < 6 → sAt 6 fu (nI c) ≤ sAt 6 th (nI c))
def sTake (fu th : AF) : Nat → AF
  | 0 => th
  | i + 1 => sPut 6 (sTake fu th i) (nI i) (sAt 6 (sTake fu th i) (nI i) - sAt 6 fu (nI i))
def sHas (cl : Int32) : Int32 := if cl ≤ 0 then 0 else 1
def sRowF (f : AF) (y a b : Int32) : Nat → AF
  | 0 => f
  | i + 1 => sGPut (sRowF f y a b i) (nI i) y (sHeld (a + b * nI i))
def sLike (f : AF) (y o : Int32) : Nat → AF × Int32
  | 0 => (f, 0)
  | i + 1 => (sGPut (sLike f y o i).1 (nI i) y (sGAt (sLike f y o i).1 (nI i) o), if sGAt (sLike f y o i).1 (nI i) y = sGAt (sLike f y o i).1 (nI i) o then (sLike f y o i).2 else (sLike f y o i).2 + 1)
def sBit (b : Int32) : Int32 := if b = 0 then 0 else 1
noncomputable def sCnt (col car tur pre cl : Int32) (th kfw kfr : AF) (koff : Int32) : Nat → Int32
  | 0 => col
  | 1 => car
  | 2 => sBit tur
  | 3 => sBit pre
  | 4 => cl
  | 5 => sHold th 6
  | 6 => if sHas cl = 0 then 0 else koff
  | _ => if sHas cl = 0 then 0 else sAK kfw kfr pre 8
def sDg8 (cnt : Nat → Int32) : Nat → Int64
  | 0 => 1549
  | i + 1 => sDg8 cnt i * 31 + (cnt i).toInt64
def sDgA (cnt : Nat → Int32) (f th : AF) : Int64 := sDig 6 th (sDig 96 f (sDg8 cnt 8) 96) 6
def sDgB (d : Int64) (cl : Int32) (ksh kfw : AF) (kb : Nat) : Int64 := if sHas cl = 0 then d else sDig 96 kfw (sDig 6 ksh d kb) 96
def sThr (th kfu ksh : AF) (kb : Nat) (cl c w : Int32) : Int32 := if ¬ w = 0 then (if ¬ w = 1 then (if sHas cl = 0 then (-1) else sShade ksh (nI kb) c) else (if sHas cl = 0 then 0 else sAt 6 kfu c)) else sAt 6 th c
def sRun (kfr kfw : AF) (y pl w : Int32) : Int32 := if ¬ w = 0 then sLoR kfr y pl 12 else sCoR kfr kfw y pl 12 0
/-- a cloth's rows: t so st sh boxes woven carried runs used off -/
abbrev CS : Type := AF × AF × AF × AF × Int32 × AF × AF × AF × AF × Int32
def sMakeS (f : AF) (m : Nat) (way tur : Int32) (s : CS) : CS :=
  (sTally f s.1, sSorted f s.2.1, (sFitF f s.2.1 s.2.2.1 m).1, sMnsF f s.2.1 s.2.2.1 s.2.2.2.1 m, nI (sFitF f s.2.1 s.2.2.1 m).2,
   (sMake f m way tur s.2.1 s.2.2.1 s.2.2.2.1 s.2.2.2.2.2.1 s.2.2.2.2.2.2.1 s.2.2.2.2.2.2.2.2.1 s.2.2.2.2.2.2.2.1).1.1,
   (sMake f m way tur s.2.1 s.2.2.1 s.2.2.2.1 s.2.2.2.2.2.1 s.2.2.2.2.2.2.1 s.2.2.2.2.2.2.2.2.1 s.2.2.2.2.2.2.2.1).1.2.1,
   (sMake f m way tur s.2.1 s.2.2.1 s.2.2.2.1 s.2.2.2.2.2.1 s.2.2.2.2.2.2.1 s.2.2.2.2.2.2.2.2.1 s.2.2.2.2.2.2.2.1).2,
   (sMake f m way tur s.2.1 s.2.2.1 s.2.2.2.1 s.2.2.2.2.2.1 s.2.2.2.2.2.2.1 s.2.2.2.2.2.2.2.2.1 s.2.2.2.2.2.2.2.1).1.2.2.1,
   (sMake f m way tur s.2.1 s.2.2.1 s.2.2.2.1 s.2.2.2.2.2.1 s.2.2.2.2.2.2.1 s.2.2.2.2.2.2.2.2.1 s.2.2.2.2.2.2.2.1).1.2.2.2)
abbrev csFw (s : CS) : AF := s.2.2.2.2.2.1
abbrev csFr (s : CS) : AF := s.2.2.2.2.2.2.2.1
abbrev csFu (s : CS) : AF := s.2.2.2.2.2.2.2.2.1
abbrev csOff (s : CS) : Int32 := s.2.2.2.2.2.2.2.2.2
abbrev csBx (s : CS) : Int32 := s.2.2.2.2.1
noncomputable def sWould (s : CS) (pre w : Int32) : Int32 := if ¬ w = 0 then (if ¬ w = 1 then sAK (csFw s) (csFr s) pre 8 else csOff s) else csBx s
/-- advised, least off, the trial cloth -/
noncomputable def sAdS (f : AF) (way tur pre kn : Int32) (i : Nat) (a : Int32 × Int32 × CS) : Int32 × Int32 × CS :=
  if (if kn < sAK (csFw (sMakeS f (i + 2) way tur a.2.2)) (csFr (sMakeS f (i + 2) way tur a.2.2)) pre 8 then (0 : Int32) else 1) = 0
  then (a.1, a.2.1, sMakeS f (i + 2) way tur a.2.2)
  else if a.1 < 0 then (nI (i + 2), csOff (sMakeS f (i + 2) way tur a.2.2), sMakeS f (i + 2) way tur a.2.2)
  else if a.2.1 ≤ csOff (sMakeS f (i + 2) way tur a.2.2) then (a.1, a.2.1, sMakeS f (i + 2) way tur a.2.2)
  else (nI (i + 2), csOff (sMakeS f (i + 2) way tur a.2.2), sMakeS f (i + 2) way tur a.2.2)
noncomputable def sAdv (f : AF) (way tur pre kn : Int32) (s : CS) : Nat → Int32 × Int32 × CS
  | 0 => ((-1), 0, s)
  | i + 1 => sAdS f way tur pre kn i (sAdv f way tur pre kn s i)
end SPECD
