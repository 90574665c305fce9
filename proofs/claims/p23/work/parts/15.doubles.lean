/-! rows of doubles -/
section GBASE3
section ROWS3
variable {E : gE} {X : gX} {cc : ByteArray} {own : String} {Ts : List Cond} {ret : Option FieldType} {rm : Room} {n0 : Nat} {cells slots pc : Nat} {L L' : List (Nat × Value)} {st : List Value} {ws ws' : va_W}
theorem g_ldc2d (F : gF E X cc own Ts ret rm n0) {index : Nat} {v : UInt64} (hdg : decode cc pc = .ok (.ldc2_w index, 3)) (hc : Cond.constantDouble own index v ∈ Ts) (k : G E X cells slots (pc + 3) L (.double v :: st) ws) : G E X cells slots pc L st ws := by
  obtain ⟨p, e, R, s, m, args, below, meth, c, Q, A, nL⟩ := X
  obtain ⟨⟨hx, hb, hml, hown, hts⟩, hr, hlk, hK, hA, hR, hn0, hT⟩ := F
  intro H locs ls hP hD hS hl
  exact lv_ldc2d hx hb hown (hts _ hc) hdg (k H locs ls hP hD hS hl)
theorem g_ddiv (F : gF E X cc own Ts ret rm n0) {x y : UInt64} (hdg : decode cc pc = .ok (.ddiv, 1)) (hne : vf_n64 (FP.ddiv x y)) (k : G E X cells slots (pc + 1) L (.double (FP.ddiv x y) :: st) ws) : G E X cells slots pc L (.double y :: .double x :: st) ws := by
  obtain ⟨p, e, R, s, m, args, below, meth, c, Q, A, nL⟩ := X
  obtain ⟨⟨hx, hb, hml, hown, hts⟩, hr, hlk, hK, hA, hR, hn0, hT⟩ := F
  intro H locs ls hP hD hS hl
  exact lv_ddiv hx hb hdg hne (k H locs ls hP hD hS hl)
theorem g_dret (F : gF E X cc own Ts (some .double) rm n0) {v r : UInt64} {W' : va_W} (hQ : gEnd E X (some (.double r)) W' cells slots) (hdg : decode cc pc = .ok (.dreturn, 1)) (hv : v = r) (hw : ws = W') : G E X cells slots pc L [.double v] ws := by
  obtain ⟨p, e, R, s, m, args, below, meth, c, Q, A, nL⟩ := X
  obtain ⟨⟨hx, hb, hml, hown, hts⟩, hr, hlk, hK, hA, hR, hn0, hT⟩ := F
  subst hv; subst hw
  intro H locs ls hP hD hS hl
  have hQ : Q = _ := hQ
  subst hQ
  exact W.dret hx hb hr (fun t ht hW => ⟨⟨rfl, by rw [ht]; exact hP⟩, hS.F ht⟩) hS.2.2 hdg hlk
end ROWS3
def sSumR (f : AF) (y : Int32) (a : Int32) : Nat → Int32
  | 0 => a
  | i + 1 => sSumR f y a i + sGAt f (nI i) y
def sSumA (f : AF) : Nat → Int32
  | 0 => 0
  | j + 1 => sSumR f (nI j) (sSumA f j) 12
def sMean (s : Int32) : UInt64 := FP.ddiv (FP.i2d s) 4636455816377925632
end GBASE3
