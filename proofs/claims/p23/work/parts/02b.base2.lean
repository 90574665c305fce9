/-! more rows of the G layer -/
section GBASE2
section ROWS2
variable {E : gE} {X : gX} {cc : ByteArray} {own : String} {Ts : List Cond} {ret : Option FieldType} {rm : Room} {n0 : Nat} {cells slots pc : Nat} {L L' : List (Nat × Value)} {st : List Value} {ws ws' : va_W}
theorem g_ialdN (F : gF E X cc own Ts ret rm n0) {a n : Nat} {f : Nat → Int32} {k : Nat} (hdg : decode cc pc = .ok (.iaload, 1)) (q0 : Nat) (ha : ws[q0]? = some (a, .inl (E.2.2, n, .inl f))) (hk : k < n) (hn : n < 2147483648) (kk : G E X cells slots (pc + 1) L (.int (f k) :: st) ws) : G E X cells slots pc L (.int (nI k) :: .ref a :: st) ws := by
  refine g_iald F hdg q0 ha (vp_in_nI hk hn) ?_
  rw [nI_clamp (show k < 2 ^ 31 by omega)]
  exact kk
theorem g_iastN (F : gF E X cc own Ts ret rm n0) {a n : Nat} {f : Nat → Int32} {k : Nat} {x : Int32} (hdg : decode cc pc = .ok (.iastore, 1)) (q0 : Nat) (ha : ws[q0]? = some (a, .inl (E.2.2, n, .inl f))) (hk : k < n) (hn : n < 2147483648) (hw : ws.set q0 (a, .inl (E.2.2, n, .inl (upd f k x))) = ws') (kk : G E X cells slots (pc + 1) L st ws') : G E X cells slots pc L (.int x :: .int (nI k) :: .ref a :: st) ws :=
  g_iast F hdg q0 ha (vp_in_nI hk hn) (by rw [nI_clamp (show k < 2 ^ 31 by omega)]; exact hw) kk
theorem g_newa (F : gF E X cc own Ts ret rm n0) {n : Int32} {N' : Nat} (hdg : decode cc pc = .ok (.newarray .int, 2)) (h : Cond.arrayClass .int ∈ Ts) (hn : ¬ n < 0) (hN : n.toNatClampNeg = N') (hbytes : N' * 4 ≤ 536870912) (hcells : cells + 1 ≤ rm.cells) (hslots : slots + N' ≤ rm.slots) (kk : ∀ q : Nat, G E X (cells + 1) (slots + N') (pc + 2) L (.ref q :: st) (ws ++ [(q, .inl (E.2.2, N', .inl (fun _ => 0)))])) : G E X cells slots pc L (.int n :: st) ws := by
  obtain ⟨p, e, R, s, m, args, below, meth, c, Q, A, nL⟩ := X
  obtain ⟨⟨hx, hb, hml, hown, hts⟩, hr, hlk, hK, hA, hR, hn0, hT⟩ := F
  subst hR
  intro H locs ls hP hD hS hl
  refine va_newa (atype := .int) (ty := .int) (a0 := (N', .inl (fun _ => 0))) hx hb (hts _ h) rfl hK.1 hP hD hS hA (fun cA => rfl) hn hN hbytes hcells hslots hdg (fun q cA H1 hK1 hP1 hD1 hS1 => ?_)
  have e1 : s.vm.findClass ("[" ++ FieldType.int.toString) = some E.2.2 := (hK1.2 0 (E.2.2, .int) rfl).2
  have e2 : s.vm.findClass ("[" ++ FieldType.int.toString) = some cA := (hK1.2 3 (cA, .int) rfl).2
  have e3 : cA = E.2.2 := Option.some.inj (e2.symm.trans e1)
  subst e3
  exact kk q H1 locs ls hP1 hD1 hS1 hl
theorem g_copyi (F : gF E X cc own Ts ret rm n0) {index a a0 n0' n1 : Nat} {f g : Nat → Int32} {n : Nat} (hdg : decode cc pc = .ok (.invokestatic index, 3)) (h1 : Cond.methodLink own index arraycopyName ∈ Ts) (h2 : Cond.native arraycopyName ∈ Ts) (h3 : Cond.static arraycopyName ∈ Ts) (h4 : Cond.initialized "java/lang/System" ∈ Ts) (q0 q1 : Nat) (ha0 : ws[q0]? = some (a0, .inl (E.2.2, n0', .inl f))) (ha1 : ws[q1]? = some (a, .inl (E.2.2, n1, .inl g))) (hn : n < 2147483648) (h5 : n ≤ n0') (h6 : n ≤ n1) (hf : 1 ≤ rm.frames) (hlo : (st.map fun v => v.category).sum + (nativeFrameWords "java/lang/System" "arraycopy" 5 + 11) ≤ rm.locals) (hw : ws.set q1 (a, .inl (E.2.2, n1, .inl (va_cpy f g 0 0 n))) = ws') (kk : G E X cells slots (pc + 3) L st ws') : G E X cells slots pc L (.int (nI n) :: .int 0 :: .ref a :: .int 0 :: .ref a0 :: st) ws := by
  subst hw
  obtain ⟨p, e, R, s, m, args, below, meth, c, Q, A, nL⟩ := X
  obtain ⟨⟨hx, hb, hml, hown, hts⟩, hr, hlk, hK, hA, hR, hn0, hT⟩ := F
  subst hR
  intro H locs ls hP hD hS hl
  have e0 : (0 : Int32).toNatClampNeg = 0 := sb_cl0
  have en : (nI n).toNatClampNeg = n := nI_clamp (show n < 2 ^ 31 by omega)
  refine va_copyi hx hb (hml.trans hl.1.symm) hown (hts _ h1) (hts _ h2) (hts _ h3) (hts _ h4) hK.1 hP hD hS q0 q1 0 0 ha0 ha1 rfl rfl rfl (by decide) (by decide) (nI_pos (show n < 2 ^ 31 by omega)) (by rw [e0, en]; omega) (by rw [e0, en]; omega) (fun _ _ => rfl) hf hlo hdg (fun H1 locs1 hP1 hD1 hS1 => ?_)
  rw [e0, en] at hP1 hD1
  exact kk H1 locs1 ls hP1 hD1 hS1 hl
end ROWS2
end GBASE2
