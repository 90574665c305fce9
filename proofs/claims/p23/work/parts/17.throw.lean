/-! methods that throw: the world at the throw, the class by its name -/
section GTHROW
theorem gZ.at {A B : Nat → Prop} {s U : State} {H : Heap} {locs : List Loc} (hU : U.heap = H) (hW : s.WarmedH U.vm) (hS : va_S A s.heap H locs) (hB : ∀ q, B q → A q) (h : gZ A s s.heap) : gZ B U U.heap := by
  rw [hU]
  exact ⟨((vx_Zq.moved hW.alike h.1).kept hS.2.1).narrow hB, ((vx_Zq.moved hW.alike h.2).kept hS.2.1).narrow hB⟩
/-- .. and the constructors that a throw runs through are declared -/
def gDec : List MethodName := [Bundle.initS "java/lang/RuntimeException", Bundle.initS "java/lang/Exception", Bundle.initS Bundle.tN]
def gTD (E : gE) (U : State) : Prop := gT E U ∧ ∀ y ∈ gDec, va_Nw (.declares y) U
theorem gTD.same {E : gE} {u U : State} (h : u.vm = U.vm) (k : gTD E u) : gTD E U := ⟨gT.same h k.1, fun y hy => va_Nw.same rfl h (k.2 y hy)⟩
theorem gTD.warm {E : gE} {s U : State} (hW : s.WarmedH U.vm) (k : gTD E s) : gTD E U := ⟨gT.warm hW k.1, fun y hy => va_Nw.warmD hW (k.2 y hy)⟩
def gPreT (E : gE) (sz : Nat) (av : List Value) (W : va_W) : Array Value → State → Prop := va_Pc av (fun U => (U.heap.size = sz ∧ va_P E.2.1 vwCl W U.heap ∧ gK E U ∧ va_D (fun _ => True) W) ∧ gTD E U ∧ gZ (va_A W sz) U U.heap)
def gXC (E : gE) (ex : String) (W' : va_W) (A : Nat → Prop) : String → State → State → Prop := fun x st t => x = ex ∧ va_P E.2.1 vwCl W' t.heap ∧ va_F A st t
def gNo : Array Value → State → Outcome → State → Prop := fun _ _ _ _ => False
def gEndX (E : gE) (X : gX) (ex : String) (W' : va_W) (mc ms : Nat) : Prop := match X with
  | (_, _, _, s, _, args, below, _, _, Q, A, _) => Q = vx_MQ below gNo (gXC E ex W' A) args s mc ms A
def gTZ (E : gE) (X : gX) : Prop := match X with
  | (_, _, _, s, _, _, _, _, c, _, A, _) => gTD E s ∧ gZ A s s.heap ∧ ∀ x ∈ c.exceptionTable.toList, False
/-- A CONTRACT: called with av in the world W, y throws an ex and leaves W' (the same places) -/
def CtX (E : gE) (y : MethodName) (wds : List Cond) (rm : Room) (av : List Value) (W : va_W) (ex : String) (W' : va_W) : Prop :=
  W'.map Prod.fst = W.map Prod.fst ∧ ∀ sz, vx_Met E.1 y wds rm (gPreT E sz av W) gNo (gXC E ex W' (va_A W sz)) rm.cells rm.slots (va_A W sz)
theorem gPreT.blind {E : gE} {sz : Nat} {av : List Value} {W : va_W} : FrameBlind (gPreT E sz av W) := fun _ _ _ _ ⟨q0, ⟨q1, q2, q3, q4⟩, q5, q6⟩ => ⟨q0, ⟨q1, q2, gK.same rfl q3, q4⟩, gTD.same rfl q5, ⟨vx_Zq.moved (Vm.Alike.refl _) q6.1, vx_Zq.moved (Vm.Alike.refl _) q6.2⟩⟩
theorem CtX.of {E : gE} {y : MethodName} {wds : List Cond} {rm : Room} {av : List Value} {W : va_W} {ex : String} {W' : va_W} {cc : ByteArray} {maxL : Nat} {ret : Option FieldType} {wds' : List Cond} {own : String} {L : List (Nat × Value)} (hy : plainName y.cls = true) (hw : wds = .code y cc maxL ret :: wds') (ho : y.cls = own) (ha : W'.map Prod.fst = W.map Prod.fst) (hlen : (lg_sl av).length ≤ maxL) (hL : lv_args 0 av = L)
    (body : ∀ X : gX, gF E X cc own wds ret rm maxL → gTZ E X → gEndX E X ex W' rm.cells rm.slots → G E X 0 0 0 L [] W) : CtX E y wds rm av W ex W' := by
  refine ⟨ha, fun sz => ?_⟩
  refine vx_ofW (cc := cc) (maxL := maxL) (ret := ret) hy hw ?_
  intro p e s m args below meth c s₁ B hml hT hv
  obtain ⟨rfl, ⟨rfl, hP, hK, hD0⟩, hTT, hZ⟩ := hv
  have hg := body (p, e, rm, s, m, av.toArray, below, meth, c, vx_MQ below gNo (gXC E ex W' (va_A W s.heap.size)) av.toArray s rm.cells rm.slots (va_A W s.heap.size), va_A W s.heap.size, maxL)
    ⟨⟨B.exec, B.bytes, hml, by rw [← ho]; exact findClass_of_methodNamed B.named, atoms_spec (ws := wds) B.pre⟩, B.returns, B.notSynchronized, hK, fun q h => Or.inr h, rfl, rfl, trivial⟩ ⟨hTT, hZ, hT⟩ rfl
  have hl := lv_entry av (n := maxL) hlen
  rw [hL] at hl
  rw [lg_entry_eq]
  exact hg s.heap [] _ hP hD0.self va_S.rf hl
section XCALLS
variable {E : gE} {X : gX} {cc : ByteArray} {own : String} {Ts : List Cond} {ret : Option FieldType} {rm : Room} {n0 : Nat} {cells slots pc : Nat} {L : List (Nat × Value)} {st : List Value} {ws ws' : va_W} {ex : String} {mc ms : Nat}
theorem g_backX {rmY : Room} {V V' : va_W} {p : Program} {e : Env} {R : Room} {s : State} {m : MethodId} {args : Array Value} {below : List Frame} {meth : Method} {c : Code} {Q : State → Prop} {A : Nat → Prop} {H : Heap} {locs : List Loc} {ls : Array Slot} {rest st0 : List Value} {isC : List Nat} {a : Array Value}
    (hlk : meth.locks = false) (hT : ∀ x ∈ c.exceptionTable.toList, False) (hA : ∀ q, s.heap.size ≤ q → A q) (ha : V'.map Prod.fst = V.map Prod.fst) (hP : va_P E.2.1 vwCl ws H) (hD : va_D A ws) (hS : va_S A s.heap H locs) (hC : isC.map (fun i => ws[i]?) = V.map some) (hn : va_nd isC = true) (hset : wput ws isC V' = ws')
    (hr : vx_Run p E.1 e R s m args below meth c H locs cells slots rmY.cells rmY.slots (F0 m pc ls st0) rest (gNo a) (gXC E ex V' (va_A V H.size)) (va_A V H.size))
    (hQ : Q = vx_MQ below gNo (gXC E ex ws' A) args s mc ms A) (hcm : cells + rmY.cells ≤ mc ∧ slots + rmY.slots ≤ ms) : W p E.1 e R s m args below meth c H locs cells slots Q (F0 m pc ls st0) := by
  intro T hT0 X
  subst hQ
  rcases hr T hT0 X with ⟨v, st₀, t, T', Lc, h0, X', hL, e1, e2, hf, stp⟩ | ⟨q9, st₀, t, T', Lc, E9, ce, h0, X', hL, e1, e2, ⟨rfl, hP1, hz, hk⟩, hce, hcv, hcl, stp⟩
  · exact hf.elim
  · rw [h0] at hz hk
    have hFc := va_free (wc := V) hD hS hA isC hC
    obtain ⟨hP2, hD2⟩ := wput_ok hP hD hn hC ha hk hP1
    rw [hset] at hP2 hD2
    rw [← e1] at hP2
    have hS2 : va_S A s.heap T'.heap (locs ++ Lc) := ⟨Nat.le_trans hS.1 (by rw [e1]; exact hz), fun q h1 h2 => by rw [e1, hk q (Nat.lt_of_lt_of_le h1 hS.1) (fun z => h2 (hFc q z))]; exact hS.2.1 q h1 h2, fun q hq => by
        rcases List.mem_append.mp hq with h | h
        · exact hS.2.2 q h
        · exact hFc _ (hL q h)⟩
    obtain ⟨t2, a1, b1⟩ := vx_out (p := p) (l := E.1) (e := e) (R := R) (m := m) (pc := pc) (ls := ls) (rest := rest) (Qc := gNo) (XC := gXC E E9 ws' A) (free := A) (mc := mc) (ms := ms) (H := T'.heap) (fun x hx => (hT x hx).elim) hlk (by rw [e1]; exact hce) hcv hcl (fun t ht hW => ⟨rfl, by rw [ht]; exact hP2, hS2.F ht⟩) hS2.2.2 hcm.1 hcm.2 T' rfl X'
    exact ⟨t2, stp.trans a1, b1⟩
theorem g_xcallV (F : gF E X cc own Ts ret rm n0) (Z : gTZ E X) {y : MethodName} {wds wds' : List Cond} {rmY : Room} {As : List Value} {b : Nat} {W W' : va_W} {bytes : ByteArray} {maxL index ci : Nat} {rety : Option FieldType} {fs : List Value} {C : String} {T : u_T} {N : Nat} {rest : List Value}
    (hdg : decode cc pc = .ok (.invokevirtual index, 3)) (hM : CtX E y wds rmY (.ref b :: As) W ex W') (hw : wds = .code y bytes maxL rety :: wds') (hG : GoodIn Ts (wsV own index C y wds)) (q0 : Nat) (he : ws[q0]? = some (b, .inr (ci, fs))) (hc : vwCl[ci]? = some (C, T, N))
    (hd : y.cls = C ∧ y.cls ≠ "java/lang/invoke/MethodHandle" ∧ y.cls ≠ "java/lang/invoke/VarHandle" ∧ (parseMethodDescriptor y.desc).map (fun d => d.parameters.length) = some As.length) (hst : st = As.reverse ++ .ref b :: rest) (hRm : gRm rm rmY maxL) (isC : List Nat) (hC : isC.map (fun i => ws[i]?) = W.map some) (hn : va_nd isC = true) (hset : wput ws isC W' = ws') (hroom : (rest.map fun v => v.category).sum ≤ 8) (hcs : cells + rmY.cells ≤ rm.cells ∧ slots + rmY.slots ≤ rm.slots) (hQ : gEndX E X ex ws' mc ms) (hcm : cells + rmY.cells ≤ mc ∧ slots + rmY.slots ≤ ms) : G E X cells slots pc L st ws := by
  obtain ⟨p, e, R, s, m, args, below, meth, c, Q, A, nL⟩ := X
  obtain ⟨⟨hx, hb, hml, hown, hts⟩, hr, hlk, hK, hA, hR, hn0, hT⟩ := F
  subst hR; subst hst
  intro H locs ls hP hD hS hl
  exact g_backX hlk Z.2.2 hA hM.1 hP hD hS hC hn hset (vx_runV (As := As) (rest := rest) ⟨hx, hb, hml, hown, hts⟩ (hM.2 H.size) (cwV As.length hts hG hw rfl rfl hd hRm) ⟨gPreT.blind, va_recv hK.1 hP (ci := ci) (q0 := q0) hc he, fun U hU hW => ⟨rfl, ⟨by rw [hU], by rw [hU]; exact hP.sub isC (by
    have h1 : isC.filterMap (fun i => ws[i]?) = (isC.map (fun i => ws[i]?)).filterMap id := by rw [List.filterMap_map]; rfl
    rw [h1, hC, List.filterMap_map]; exact List.filterMap_some), gK.warm hW hK, (hD.sub isC hn hC).weaken (fun _ _ _ _ => trivial)⟩, gTD.warm hW Z.1, gZ.at hU hW hS (va_free (wc := W) hD hS hA isC hC) Z.2.1⟩⟩ rfl rfl hl.1 rfl (lv_room hroom) hdg hcs) hQ hcm
theorem g_xcallS (F : gF E X cc own Ts ret rm n0) (Z : gTZ E X) {y : MethodName} {wds wds' : List Cond} {rmY : Room} {As : List Value} {W W' : va_W} {bytes : ByteArray} {maxL index : Nat} {rety : Option FieldType} {rest : List Value}
    (hdg : decode cc pc = .ok (.invokestatic index, 3)) (hM : CtX E y wds rmY As W ex W') (hw : wds = .code y bytes maxL rety :: wds') (hG : GoodIn Ts (va_wsS own index y wds))
    (hd : y.cls ≠ "java/lang/invoke/MethodHandle" ∧ y.cls ≠ "java/lang/invoke/VarHandle" ∧ (parseMethodDescriptor y.desc).map (fun d => d.parameters.length) = some As.length) (hst : st = As.reverse ++ rest) (hRm : gRm rm rmY maxL) (isC : List Nat) (hC : isC.map (fun i => ws[i]?) = W.map some) (hn : va_nd isC = true) (hset : wput ws isC W' = ws') (hroom : (rest.map fun v => v.category).sum ≤ 8) (hcs : cells + rmY.cells ≤ rm.cells ∧ slots + rmY.slots ≤ rm.slots) (hQ : gEndX E X ex ws' mc ms) (hcm : cells + rmY.cells ≤ mc ∧ slots + rmY.slots ≤ ms) : G E X cells slots pc L st ws := by
  obtain ⟨p, e, R, s, m, args, below, meth, c, Q, A, nL⟩ := X
  obtain ⟨⟨hx, hb, hml, hown, hts⟩, hr, hlk, hK, hA, hR, hn0, hT⟩ := F
  subst hR; subst hst
  intro H locs ls hP hD hS hl
  exact g_backX hlk Z.2.2 hA hM.1 hP hD hS hC hn hset (vx_runS (As := As) (rest := rest) ⟨hx, hb, hml, hown, hts⟩ (hM.2 H.size) (va_cwS As.length hts hG hw rfl rfl hd hRm) ⟨gPreT.blind, fun U hU hW => ⟨rfl, ⟨by rw [hU], by rw [hU]; exact hP.sub isC (by
    have h1 : isC.filterMap (fun i => ws[i]?) = (isC.map (fun i => ws[i]?)).filterMap id := by rw [List.filterMap_map]; rfl
    rw [h1, hC, List.filterMap_map]; exact List.filterMap_some), gK.warm hW hK, (hD.sub isC hn hC).weaken (fun _ _ _ _ => trivial)⟩, gTD.warm hW Z.1, gZ.at hU hW hS (va_free (wc := W) hD hS hA isC hC) Z.2.1⟩⟩ rfl rfl hl.1 rfl (lv_room hroom) hdg hcs) hQ hcm
/-- what is asked of the words of a throw -/
def gTw (own : String) (ik ic : Nat) (ex : String) (Ts : List Cond) : Prop := Bundle.fit ex = true ∧ (∀ n ∈ ["java/lang/RuntimeException", "java/lang/Exception"], Bundle.fit n = true) ∧ Cond.classLink own ik ex ∈ Ts ∧ Cond.initialized ex ∈ Ts ∧ (∀ w ∈ (vx_atS own ic ex ["java/lang/RuntimeException", "java/lang/Exception"]).filter goodWord, w ∈ Ts) ∧ (∀ w ∈ (vx_atS own ic ex ["java/lang/RuntimeException", "java/lang/Exception"]).filter (fun w => !goodWord w), w ∈ Cond.castable ex ex :: gDec.map Cond.declares) ∧ (∀ w ∈ Cond.classLink own ik ex :: Cond.initialized ex :: vx_atS own ic ex ["java/lang/RuntimeException", "java/lang/Exception"], vx_ot w = true)
theorem g_throw (F : gF E X cc RX4 Ts ret rm n0) (Z : gTZ E X) {ik is ic : Nat} {text : String} (d0 : decode cc pc = .ok (.new ik, 3)) (d3 : decode cc (pc + 3) = .ok (.dup, 1)) (d4 : decode cc (pc + 4) = .ok (.ldc is, 2)) (d6 : decode cc (pc + 6) = .ok (.invokespecial ic, 3)) (d9 : decode cc (pc + 9) = .ok (.athrow, 1))
    (hw : gTw RX4 ik ic ex Ts) (hs : (is, text) ∈ gStr) (he : ex ∈ gExc) (hfr : 5 < rm.frames) (hlo : (st.map fun v => v.category).sum + 82 ≤ rm.locals) (hcs : cells + 1 ≤ rm.cells ∧ slots + 6 ≤ rm.slots) (hQ : gEndX E X ex ws mc ms) (hcm : cells + 1 ≤ mc ∧ slots + 6 ≤ ms) : G E X cells slots pc L st ws := by
  obtain ⟨p, e, R, s, m, args, below, meth, c, Q, A, nL⟩ := X
  obtain ⟨⟨hx, hb, hml, hown, hts⟩, hr, hlk, hK, hA, hR, hn0, hT⟩ := F
  subst hR
  intro H locs ls hP hD hS hl
  have hQ : Q = _ := hQ
  subst hQ
  obtain ⟨sa, hsa⟩ := Z.1.1.2.1 _ hs
  obtain ⟨w1, w2, w3, w4, w5, w6, w7⟩ := hw
  refine vx_throwS (names := ["java/lang/RuntimeException", "java/lang/Exception"]) hx hb Z.1.1.1 hown w1 w2 (hts _ w3) (hts _ w4) hsa (vx_hat (fun w h => hts _ (w5 w h)) w6 (vx_c (va_Nw.use rfl (Z.1.1.2.2 _ he)) (fun w h => by obtain ⟨y, hy, rfl⟩ := List.mem_map.mp h; exact va_Nw.use rfl (Z.1.2 y hy)))) w7 Z.2.1.1 Z.2.1.2 hS (hl.1.trans hml.symm) d0 d3 d4 d6 d9 (fun x hx => (Z.2.2 x hx).elim) hfr hlo hcs.1 hcs.2 hlk (fun t hW hz hk => ⟨rfl, hP.kept (fun k q hq => hk q.1 (vx_lt hP hq)), Nat.le_trans hS.1 hz, fun q h1 h2 => (hk q (Nat.lt_of_lt_of_le h1 hS.1)).trans (hS.2.1 q h1 h2)⟩) hS.2.2 hcm.1 hcm.2
end XCALLS
end GTHROW
