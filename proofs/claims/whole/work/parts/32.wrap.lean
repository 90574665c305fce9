/-! methods with a table of their own -/
section GWRAP
abbrev xIO : String := "java/lang/IndexOutOfBoundsException"
abbrev xIA : String := "java/lang/IllegalArgumentException"
abbrev xIS : String := "java/lang/IllegalStateException"
def gNcL : List (String × String) := [(xIA, xIO), (xIS, xIO), (xIO, xIA)]
/-- what the tables say, of throws, of rows of longs, of what isn't caught -/
def gWT (E : gE) (cL : ClassId) (U : State) : Prop := gTD E U ∧ va_K E.2.1 vwCl [(cL, .long)] U ∧ ∀ q ∈ gNcL, va_Nc q.1 q.2 U
theorem gWT.same {E : gE} {cL : ClassId} {u U : State} (h : u.vm = U.vm) (k : gWT E cL u) : gWT E cL U := ⟨gTD.same h k.1, va_K.moved (by rw [h]; exact Vm.Alike.refl _) k.2.1, fun q hq => va_Nc.moved (by rw [h]; exact Vm.Alike.refl _) (k.2.2 q hq)⟩
theorem gWT.warm {E : gE} {cL : ClassId} {s U : State} (hW : s.WarmedH U.vm) (k : gWT E cL s) : gWT E cL U := ⟨gTD.warm hW k.1, va_K.moved hW.alike k.2.1, fun q hq => va_Nc.moved hW.alike (k.2.2 q hq)⟩
def gPreW (E : gE) (cL : ClassId) (sz : Nat) (av : List Value) (W : va_W) : Array Value → State → Prop := va_Pc av (fun U => (U.heap.size = sz ∧ va_P E.2.1 vwCl W U.heap ∧ gK E U ∧ va_D (fun _ => True) W) ∧ gWT E cL U ∧ gZ (va_A W sz) U U.heap)
theorem gPreW.blind {E : gE} {cL : ClassId} {sz : Nat} {av : List Value} {W : va_W} : FrameBlind (gPreW E cL sz av W) := fun _ _ _ _ ⟨q0, ⟨q1, q2, q3, q4⟩, q5, q6⟩ => ⟨q0, ⟨q1, q2, gK.same rfl q3, q4⟩, gWT.same rfl q5, ⟨vx_Zq.moved (Vm.Alike.refl _) q6.1, vx_Zq.moved (Vm.Alike.refl _) q6.2⟩⟩
def gNoX : String → State → State → Prop := fun _ _ _ => False
def gW (E : gE) (X : gX) (cc : ByteArray) (own : String) (Ts : List Cond) (ret : Option FieldType) (rm : Room) (n0 : Nat) (hh : List (Nat × Nat × Nat × Nat)) : Prop := match X with
  | (p, _, R, s, m, args, _, meth, c, _, A, nL) => (CallFix p m c cc nL s args Ts own) ∧ meth.sig.returnType = ret ∧ meth.locks = false ∧ gK E s ∧ (∀ q, s.heap.size ≤ q → A q) ∧ R = rm ∧ nL = n0 ∧ c.exceptionTable.toList = tableOf hh
def gTW (E : gE) (cL : ClassId) (X : gX) : Prop := match X with
  | (_, _, _, s, _, _, _, _, _, _, A, _) => gWT E cL s ∧ gZ A s s.heap
def gEndW (E : gE) (X : gX) (ov : Option Value) (W' : va_W) (mc ms : Nat) : Prop := match X with
  | (_, _, _, s, _, args, below, _, _, Q, A, _) => Q = vx_MQ below (gPost E ov W' A) gNoX args s mc ms A
/-- A CONTRACT: y, which may catch, answers ov and leaves W' -/
def CtW (E : gE) (cL : ClassId) (y : MethodName) (wds : List Cond) (rm : Room) (av : List Value) (W : va_W) (ov : Option Value) (W' : va_W) : Prop :=
  W'.map Prod.fst = W.map Prod.fst ∧ ∀ sz, vx_Met E.1 y wds rm (gPreW E cL sz av W) (gPost E ov W' (va_A W sz)) gNoX rm.cells rm.slots (va_A W sz)
theorem CtW.of {E : gE} {cL : ClassId} {y : MethodName} {wds : List Cond} {rm : Room} {av : List Value} {W : va_W} {ov : Option Value} {W' : va_W} {cc : ByteArray} {maxL : Nat} {ret : Option FieldType} {hh : List (Nat × Nat × Nat × Nat)} {wds' : List Cond} {own : String} {L : List (Nat × Value)} (hy : plainName y.cls = true) (hw : wds = .codeWith y cc maxL ret hh :: wds') (ho : y.cls = own) (ha : W'.map Prod.fst = W.map Prod.fst) (hlen : (lg_sl av).length ≤ maxL) (hL : lv_args 0 av = L)
    (body : ∀ X : gX, gW E X cc own wds ret rm maxL hh → gTW E cL X → gEndW E X ov W' rm.cells rm.slots → G E X 0 0 0 L [] W) : CtW E cL y wds rm av W ov W' := by
  refine ⟨ha, fun sz => ?_⟩
  refine vx_ofWH (cc := cc) (maxL := maxL) (ret := ret) (hh := hh) hy hw ?_
  intro p e s m args below meth c s₁ B hml hv
  obtain ⟨rfl, ⟨rfl, hP, hK, hD0⟩, hTT, hZ⟩ := hv
  have hT : c.exceptionTable.toList = tableOf hh := vx_table (x := y) B (atoms_spec (ws := wds) B.pre (.codeWith y cc maxL ret hh) (by rw [hw]; exact List.mem_cons_self))
  have hg := body (p, e, rm, s, m, av.toArray, below, meth, c, vx_MQ below (gPost E ov W' (va_A W s.heap.size)) gNoX av.toArray s rm.cells rm.slots (va_A W s.heap.size), va_A W s.heap.size, maxL)
    ⟨⟨B.exec, B.bytes, hml, by rw [← ho]; exact findClass_of_methodNamed B.named, atoms_spec (ws := wds) B.pre⟩, B.returns, B.notSynchronized, hK, fun q h => Or.inr h, rfl, rfl, hT⟩ ⟨hTT, hZ⟩ rfl
  have hl := lv_entry av (n := maxL) hlen
  rw [hL] at hl
  rw [lg_entry_eq]
  exact hg s.heap [] _ hP hD0.self va_S.rf hl
section WROWS
variable {E : gE} {cL : ClassId} {X : gX} {cc : ByteArray} {own : String} {Ts : List Cond} {ret : Option FieldType} {rm : Room} {n0 : Nat} {hh : List (Nat × Nat × Nat × Nat)} {cells slots pc : Nat} {L L' : List (Nat × Value)} {st : List Value} {ws ws' : va_W} {ex : String} {mc ms : Nat}
theorem h_iconst (F : gW E X cc own Ts ret rm n0 hh) {n : Int} {v : Int32} (hdg : decode cc pc = .ok (.iconst n, 1)) (hv : Int32.ofInt n = v) (k : G E X cells slots (pc + 1) L (.int v :: st) ws) : G E X cells slots pc L (st) ws := by
  obtain ⟨p, e, R, s, m, args, below, meth, c, Q, A, nL⟩ := X
  obtain ⟨⟨hx, hb, hml, hown, hts⟩, hr, hlk, hK, hA, hR, hn0, hT⟩ := F
  intro H locs ls hP hD hS hl
  exact lv_iconst hx hb hdg hv (k H locs ls hP hD hS hl)
theorem h_iload_n (F : gW E X cc own Ts ret rm n0 hh) {k : Fin 4} {i : Nat} {x : Int32} (hdg : decode cc pc = .ok (.iload_n k, 1)) (hi : (k : Nat) = i) (j : Nat) (hj : L[j]? = some (i, .int x)) (k : G E X cells slots (pc + 1) L (.int x :: st) ws) : G E X cells slots pc L (st) ws := by
  obtain ⟨p, e, R, s, m, args, below, meth, c, Q, A, nL⟩ := X
  obtain ⟨⟨hx, hb, hml, hown, hts⟩, hr, hlk, hK, hA, hR, hn0, hT⟩ := F
  intro H locs ls hP hD hS hl
  exact lv_iload_n hx hb hdg hi (lv_at hl j hj) (k H locs ls hP hD hS hl)
theorem h_iload (F : gW E X cc own Ts ret rm n0 hh) {i : Nat} {x : Int32} (hdg : decode cc pc = .ok (.iload i, 2)) (j : Nat) (hj : L[j]? = some (i, .int x)) (k : G E X cells slots (pc + 2) L (.int x :: st) ws) : G E X cells slots pc L (st) ws := by
  obtain ⟨p, e, R, s, m, args, below, meth, c, Q, A, nL⟩ := X
  obtain ⟨⟨hx, hb, hml, hown, hts⟩, hr, hlk, hK, hA, hR, hn0, hT⟩ := F
  intro H locs ls hP hD hS hl
  exact lv_iload hx hb hdg (lv_at hl j hj) (k H locs ls hP hD hS hl)
theorem h_aload_n (F : gW E X cc own Ts ret rm n0 hh) {k : Fin 4} {i : Nat} {x : Nat} (hdg : decode cc pc = .ok (.aload_n k, 1)) (hi : (k : Nat) = i) (j : Nat) (hj : L[j]? = some (i, .ref x)) (k : G E X cells slots (pc + 1) L (.ref x :: st) ws) : G E X cells slots pc L (st) ws := by
  obtain ⟨p, e, R, s, m, args, below, meth, c, Q, A, nL⟩ := X
  obtain ⟨⟨hx, hb, hml, hown, hts⟩, hr, hlk, hK, hA, hR, hn0, hT⟩ := F
  intro H locs ls hP hD hS hl
  exact lv_aload_n hx hb hdg hi (lv_at hl j hj) (k H locs ls hP hD hS hl)
theorem h_aload (F : gW E X cc own Ts ret rm n0 hh) {i : Nat} {x : Nat} (hdg : decode cc pc = .ok (.aload i, 2)) (j : Nat) (hj : L[j]? = some (i, .ref x)) (k : G E X cells slots (pc + 2) L (.ref x :: st) ws) : G E X cells slots pc L (st) ws := by
  obtain ⟨p, e, R, s, m, args, below, meth, c, Q, A, nL⟩ := X
  obtain ⟨⟨hx, hb, hml, hown, hts⟩, hr, hlk, hK, hA, hR, hn0, hT⟩ := F
  intro H locs ls hP hD hS hl
  exact lv_aload hx hb hdg (lv_at hl j hj) (k H locs ls hP hD hS hl)
theorem h_astore (F : gW E X cc own Ts ret rm n0 hh) {i : Nat} {x : Nat} (hdg : decode cc pc = .ok (.astore i, 2)) (hn : i < n0) (is : List Nat) (hl2 : lv_pick ((i, .ref x) :: L.filter (fun q => !(q.1 == i) && !(q.1 + 1 == i && q.2.category == 2))) is = L') (k : G E X cells slots (pc + 2) L' st ws) : G E X cells slots pc L (.ref x :: st) ws := by
  obtain ⟨p, e, R, s, m, args, below, meth, c, Q, A, nL⟩ := X
  obtain ⟨⟨hx, hb, hml, hown, hts⟩, hr, hlk, hK, hA, hR, hn0, hT⟩ := F
  intro H locs ls hP hD hS hl
  exact lv_astore hx hb hdg hl (by rw [hn0]; exact hn) rfl (fun ls2 hl3 => k H locs ls2 hP hD hS (lv_sub hl3 is hl2))
theorem h_astore_n (F : gW E X cc own Ts ret rm n0 hh) {k : Fin 4} {i : Nat} {x : Nat} (hdg : decode cc pc = .ok (.astore_n k, 1)) (hi : (k : Nat) = i) (hn : i < n0) (is : List Nat) (hl2 : lv_pick ((i, .ref x) :: L.filter (fun q => !(q.1 == i) && !(q.1 + 1 == i && q.2.category == 2))) is = L') (k : G E X cells slots (pc + 1) L' st ws) : G E X cells slots pc L (.ref x :: st) ws := by
  obtain ⟨p, e, R, s, m, args, below, meth, c, Q, A, nL⟩ := X
  obtain ⟨⟨hx, hb, hml, hown, hts⟩, hr, hlk, hK, hA, hR, hn0, hT⟩ := F
  intro H locs ls hP hD hS hl
  exact lv_astore_n hx hb hdg hi hl (by rw [hn0]; exact hn) rfl (fun ls2 hl3 => k H locs ls2 hP hD hS (lv_sub hl3 is hl2))
theorem h_i2l (F : gW E X cc own Ts ret rm n0 hh) {x : Int32} {v : Int64} (hdg : decode cc pc = .ok (.i2l, 1)) (hv : x.toInt64 = v) (k : G E X cells slots (pc + 1) L (.long v :: st) ws) : G E X cells slots pc L (.int x :: st) ws := by
  obtain ⟨p, e, R, s, m, args, below, meth, c, Q, A, nL⟩ := X
  obtain ⟨⟨hx, hb, hml, hown, hts⟩, hr, hlk, hK, hA, hR, hn0, hT⟩ := F
  intro H locs ls hP hD hS hl
  exact lv_i2l hx hb hdg hv (k H locs ls hP hD hS hl)
theorem h_goto (F : gW E X cc own Ts ret rm n0 hh) {off : Int} {tgt : Nat} (hdg : decode cc pc = .ok (.goto off, 3)) (ht : (pc : Int) + off = (tgt : Int)) (k : G E X cells slots tgt L st ws) : G E X cells slots pc L st ws := by
  obtain ⟨p, e, R, s, m, args, below, meth, c, Q, A, nL⟩ := X
  obtain ⟨⟨hx, hb, hml, hown, hts⟩, hr, hlk, hK, hA, hR, hn0, hT⟩ := F
  intro H locs ls hP hD hS hl
  exact lv_goto hx hb hdg ht (k H locs ls hP hD hS hl)
theorem h_callV (F : gW E X cc own Ts ret rm n0 hh) {y : MethodName} {wds wds' : List Cond} {rmY : Room} {As : List Value} {b : Nat} {W W' : va_W} {ov : Option Value} {bytes : ByteArray} {maxL index ci : Nat} {rety : Option FieldType} {fs : List Value} {C : String} {T : u_T} {N : Nat} {rest : List Value}
    (hdg : decode cc pc = .ok (.invokevirtual index, 3)) (hM : Ct E y wds rmY (.ref b :: As) W ov W') (hw : wds = .code y bytes maxL rety :: wds') (hG : GoodIn Ts (wsV own index C y wds)) (q0 : Nat) (he : ws[q0]? = some (b, .inr (ci, fs))) (hc : vwCl[ci]? = some (C, T, N))
    (hd : y.cls = C ∧ y.cls ≠ "java/lang/invoke/MethodHandle" ∧ y.cls ≠ "java/lang/invoke/VarHandle" ∧ (parseMethodDescriptor y.desc).map (fun d => d.parameters.length) = some As.length) (hRm : gRm rm rmY maxL) (isC : List Nat) (hC : isC.map (fun i => ws[i]?) = W.map some) (hn : va_nd isC = true) (hset : wput ws isC W' = ws') (hst : st = As.reverse ++ .ref b :: rest) (hroom : (rest.map fun v => v.category).sum ≤ 8) (hcs : cells + rmY.cells ≤ rm.cells ∧ slots + rmY.slots ≤ rm.slots)
    (kk : G E X (cells + rmY.cells) (slots + rmY.slots) (pc + 3) L (ov.toList ++ rest) ws') : G E X cells slots pc L st ws := by
  obtain ⟨p, e, R, s, m, args, below, meth, c, Q, A, nL⟩ := X
  obtain ⟨⟨hx, hb, hml, hown, hts⟩, hr, hlk, hK, hA, hR, hn0, hT⟩ := F
  subst hR; subst hst
  intro H locs ls hP hD hS hl
  refine g_back hA hM.1 hP hD hS hl hC hn hset (va_runV (As := As) (rest := rest) ⟨hx, hb, hml, hown, hts⟩ (hM.2 H.size) (cwV As.length hts hG hw rfl rfl hd hRm) ⟨gPre.blind, va_recv hK.1 hP (ci := ci) (q0 := q0) hc he, fun U hU hW => ⟨rfl, by rw [hU], by rw [hU]; exact hP.sub isC (by
    have h1 : isC.filterMap (fun i => ws[i]?) = (isC.map (fun i => ws[i]?)).filterMap id := by rw [List.filterMap_map]; rfl
    rw [h1, hC, List.filterMap_map]; exact List.filterMap_some), gK.warm hW hK, (hD.sub isC hn hC).weaken (fun _ _ _ _ => trivial)⟩⟩ rfl rfl hl.1 rfl (lv_room hroom) hdg hcs) kk

theorem h_last (F : gW E X cc own Ts ret rm n0 hh) (Z : gTW E cL X) {a n : Nat} {f : Nat → Int64} {i : Int32} {x : Int64} (hdg : decode cc pc = .ok (.lastore, 1)) (q0 : Nat) (ha : ws[q0]? = some (a, .inl (cL, n, .inr (.inl f)))) (hin : vp_in i n) (hw : ws.set q0 (a, .inl (cL, n, .inr (.inl (vp_updL f i.toNatClampNeg x)))) = ws') (kk : G E X cells slots (pc + 1) L st ws') : G E X cells slots pc L (.long x :: .int i :: .ref a :: st) ws := by
  subst hw
  obtain ⟨p, e, R, s, m, args, below, meth, c, Q, A, nL⟩ := X
  obtain ⟨⟨hx, hb, hml, hown, hts⟩, hr, hlk, hK, hA, hR, hn0, hT⟩ := F
  intro H locs ls hP hD hS hl
  exact va_last hx hb Z.1.2.1 hP hD hS q0 0 ha rfl hin hdg (fun H1 locs1 hP1 hD1 hS1 => kk H1 locs1 ls hP1 hD1 hS1 hl)
theorem h_iret (F : gW E X cc own Ts (some .int) rm n0 hh) {v r : Int32} {W' : va_W} (hQ : gEndW E X (some (.int r)) W' cells slots) (hdg : decode cc pc = .ok (.ireturn, 1)) (hv : v = r) (hw : ws = W') : G E X cells slots pc L [.int v] ws := by
  obtain ⟨p, e, R, s, m, args, below, meth, c, Q, A, nL⟩ := X
  obtain ⟨⟨hx, hb, hml, hown, hts⟩, hr, hlk, hK, hA, hR, hn0, hT⟩ := F
  subst hv; subst hw
  intro H locs ls hP hD hS hl
  have hQ : Q = _ := hQ
  subst hQ
  exact vx_ret (W.iret hx hb hr (fun t ht hW => ⟨⟨rfl, by rw [ht]; exact hP⟩, hS.F ht⟩) hS.2.2 hdg hlk)
/-- a call that throws, caught here by the row x of the table -/
theorem h_xcatch (F : gW E X cc own Ts ret rm n0 hh) (Z : gTW E cL X) {y : MethodName} {wds wds' : List Cond} {rmY : Room} {As : List Value} {b : Nat} {W W' : va_W} {bytes : ByteArray} {maxL index ci : Nat} {rety : Option FieldType} {fs : List Value} {C : String} {T : u_T} {N : Nat} {rest : List Value}
    (hdg : decode cc pc = .ok (.invokevirtual index, 3)) (hM : CtX E y wds rmY (.ref b :: As) W ex W') (hw : wds = .code y bytes maxL rety :: wds') (hG : GoodIn Ts (wsV own index C y wds)) (q0 : Nat) (he : ws[q0]? = some (b, .inr (ci, fs))) (hc : vwCl[ci]? = some (C, T, N))
    (hd : y.cls = C ∧ y.cls ≠ "java/lang/invoke/MethodHandle" ∧ y.cls ≠ "java/lang/invoke/VarHandle" ∧ (parseMethodDescriptor y.desc).map (fun d => d.parameters.length) = some As.length) (hst : st = As.reverse ++ .ref b :: rest) (hRm : gRm rm rmY maxL) (isC : List Nat) (hC : isC.map (fun i => ws[i]?) = W.map some) (hn : va_nd isC = true) (hset : wput ws isC W' = ws') (hroom : (rest.map fun v => v.category).sum ≤ 8) (hcs : cells + rmY.cells ≤ rm.cells ∧ slots + rmY.slots ≤ rm.slots)
    (pre suf : List (Nat × Nat × Nat × Nat)) (x : Nat × Nat × Nat × Nat) (hsp : hh = pre ++ x :: suf) (hpass : ∀ z ∈ pre, z.2.2.2 ≠ 0 ∧ ∃ nm, Cond.classLink own z.2.2.2 nm ∈ Ts ∧ (ex, nm) ∈ gNcL) (hcov : covers ⟨x.1, x.2.1, x.2.2.1, x.2.2.2⟩ pc = true) (h0 : x.2.2.2 ≠ 0) (hlink : Cond.classLink own x.2.2.2 ex ∈ Ts) (hex : ex ∈ gExc)
    (kk : ∀ q : Nat, G E X (cells + rmY.cells) (slots + rmY.slots) x.2.2.1 L [.ref q] ws') : G E X cells slots pc L st ws := by
  obtain ⟨p, e, R, s, m, args, below, meth, c, Q, A, nL⟩ := X
  obtain ⟨⟨hx, hb, hml, hown, hts⟩, hr, hlk, hK, hA, hR, hn0, hT⟩ := F
  subst hR; subst hst
  intro H locs ls hP hD hS hl
  have hr2 := vx_runV (e := e) (As := As) (rest := rest) (cells := cells) (slots := slots) (locs := locs) (below := below) (meth := meth) (g := F0 m pc ls (As.reverse ++ .ref b :: rest)) ⟨hx, hb, hml, hown, hts⟩ (hM.2 H.size) (cwV As.length hts hG hw rfl rfl hd hRm) ⟨gPreT.blind, va_recv hK.1 hP (ci := ci) (q0 := q0) hc he, fun U hU hW => ⟨rfl, ⟨by rw [hU], by rw [hU]; exact hP.sub isC (by
    have h1 : isC.filterMap (fun i => ws[i]?) = (isC.map (fun i => ws[i]?)).filterMap id := by rw [List.filterMap_map]; rfl
    rw [h1, hC, List.filterMap_map]; exact List.filterMap_some), gK.warm hW hK, (hD.sub isC hn hC).weaken (fun _ _ _ _ => trivial)⟩, gTD.warm hW Z.1.1, gZ.at hU hW hS (va_free (wc := W) hD hS hA isC hC) Z.2⟩⟩ rfl rfl hl.1 rfl (lv_room hroom) hdg hcs
  intro T0 hT0 X0
  rcases hr2 T0 hT0 X0 with ⟨v, st₀, t, T', Lc, h1, X', hL, e1, e2, hf, stp⟩ | ⟨q9, st₀, t, T', Lc, E9, ce, h1, X', hL, e1, e2, ⟨rfl, hP1, hz, hk⟩, hce, hcv, hcl, stp⟩
  · exact hf.elim
  · rw [h1] at hz hk
    have hFc := va_free (wc := W) hD hS hA isC hC
    obtain ⟨hP2, hD2⟩ := wput_ok hP hD hn hC hM.1 hk hP1
    rw [hset] at hP2 hD2
    rw [← e1] at hP2
    have hS2 : va_S A s.heap T'.heap (locs ++ Lc) := ⟨Nat.le_trans hS.1 (by rw [e1]; exact hz), fun q h1 h2 => by rw [e1, hk q (Nat.lt_of_lt_of_le h1 hS.1) (fun z => h2 (hFc q z))]; exact hS.2.1 q h1 h2, fun q hq => by
        rcases List.mem_append.mp hq with h | h
        · exact hS.2.2 q h
        · exact hFc _ (hL q h)⟩
    obtain ⟨t2, a1, b1⟩ := vx_catch (E := E9) (name := E9) (pc := pc) (ls := ls) (rest := rest) (H := T'.heap) hown (pre.map fun q => ⟨q.1, q.2.1, q.2.2.1, q.2.2.2⟩) ⟨x.1, x.2.1, x.2.2.1, x.2.2.2⟩ (suf.map fun q => ⟨q.1, q.2.1, q.2.2.1, q.2.2.2⟩) (by rw [hT, hsp]; simp [tableOf]) (fun z hz => by
        obtain ⟨z0, hz0, rfl⟩ := List.mem_map.mp hz
        obtain ⟨h2, nm, h3, h4⟩ := hpass z0 hz0
        exact Or.inr ⟨h2, nm, hts _ h3, Z.1.2.2 _ h4⟩) hcov h0 (hts _ hlink) (va_Nw.use rfl (Z.1.1.1.2.2 _ hex)) (by rw [e1]; exact hce) hcv hcl (kk q9 T'.heap (locs ++ Lc) ls hP2 hD2 hS2 hl) T' rfl X'
    exact ⟨t2, stp.trans a1, b1⟩
end WROWS
end GWRAP
