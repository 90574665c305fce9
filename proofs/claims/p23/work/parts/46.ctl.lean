/-! the law's own methods: the script, what throws is caught -/
section GCTL
def gNoX : String → State → State → Prop := fun _ _ _ => False
theorem Met.of_vx {l : Launch} {y : MethodName} {ws : List Cond} {rm : Room} {P : Array Value → State → Prop} {Q : Array Value → State → Outcome → State → Prop} {mc ms : Nat} {free : Addr → Prop} (h : vx_Met l y ws rm P Q gNoX mc ms free) : Met l y ws rm P Q mc ms free := by
  intro p e ha hc hk s m args below hfr happ hP hK
  obtain ⟨n, o, h1, h2, h3, hQ⟩ := h p e ha hc hk s m args below hfr happ hP hK
  refine ⟨n, o, h1, h2, h3, ?_⟩
  rcases hQ with hQ | ⟨q, ho, E9, ce, L, g1, -⟩
  · exact hQ
  · exact g1.elim
/-- launches as told, the statics of throws, the script: n ints xs at b -/
def gLX (E : gE) (X : gX) (b n : Nat) (xs : Nat → Int32) : Prop := match X with
  | (_, _, _, s, _, _, _, _, _, _, A, _) => gTD E s ∧ gZ A s s.heap ∧ va_X b n xs s s.heap ∧ b < s.heap.size ∧ ¬ A b
def gPreL (E : gE) (b n : Nat) (xs : Nat → Int32) (sz : Nat) (av : List Value) (W : va_W) : Array Value → State → Prop := va_Pc av (fun U => (U.heap.size = sz ∧ va_P E.2.1 vwCl W U.heap ∧ gK E U ∧ va_D (fun _ => True) W) ∧ gTD E U ∧ gZ (va_A W sz) U U.heap ∧ va_X b n xs U U.heap ∧ b < sz ∧ ¬ va_A W sz b)
theorem gPreL.blind {E : gE} {b n : Nat} {xs : Nat → Int32} {sz : Nat} {av : List Value} {W : va_W} : FrameBlind (gPreL E b n xs sz av W) := fun _ _ _ _ ⟨q0, ⟨q1, q2, q3, q4⟩, q5, q6, q7, q8⟩ => ⟨q0, ⟨q1, q2, gK.same rfl q3, q4⟩, gTD.same rfl q5, ⟨vx_Zq.moved (Vm.Alike.refl _) q6.1, vx_Zq.moved (Vm.Alike.refl _) q6.2⟩, va_X.moved (Vm.Alike.refl _) q7, q8⟩
def CtL (E : gE) (b n : Nat) (xs : Nat → Int32) (y : MethodName) (wds : List Cond) (rm : Room) (av : List Value) (W : va_W) (Po : Option Value → va_W → Prop) : Prop :=
  ∀ sz, Met E.1 y wds rm (gPreL E b n xs sz av W) (gPostP E Po (va_A W sz)) rm.cells rm.slots (va_A W sz)
theorem wA_perm {ws W : va_W} (hp : ws.Perm W) {sz q : Nat} : va_A W sz q ↔ va_A ws sz q := by
  rw [wA_mem, wA_mem]
  constructor
  · rintro (⟨x, hx, e⟩ | h)
    · exact Or.inl ⟨x, hp.mem_iff.mpr hx, e⟩
    · exact Or.inr h
  · rintro (⟨x, hx, e⟩ | h)
    · exact Or.inl ⟨x, hp.mem_iff.mp hx, e⟩
    · exact Or.inr h
theorem CtL.perm {E : gE} {b n : Nat} {xs : Nat → Int32} {y : MethodName} {wds : List Cond} {rm : Room} {av : List Value} {ws W : va_W} {Po : Option Value → va_W → Prop} (hp : ws.Perm W) (h : CtL E b n xs y wds rm av W Po) : CtL E b n xs y wds rm av ws Po := by
  intro sz
  exact (h sz).imp (fun a s ⟨q0, ⟨q1, q2, q3, q4⟩, q5, q6, q7, q8, q9⟩ => ⟨q0, ⟨q1, wP_perm hp q2, q3, wD_perm hp q4⟩, q5, ⟨q6.1.narrow (fun q z => (wA_perm hp).mp z), q6.2.narrow (fun q z => (wA_perm hp).mp z)⟩, q7, q8, fun z => q9 ((wA_perm hp).mp z)⟩) (fun a s o t _ ⟨⟨ov, V, h1, h2, h3, h4⟩, h5⟩ => ⟨⟨ov, V, h1, h2, h3, h4.weaken (fun _ q _ z => (wA_perm hp).mp z)⟩, h5.1, fun q hq hz => h5.2 q hq (fun z => hz ((wA_perm hp).mp z))⟩) (fun q z => (wA_perm hp).mp z)
theorem CtL.weaken {E : gE} {b n : Nat} {xs : Nat → Int32} {y : MethodName} {wds : List Cond} {rm : Room} {av : List Value} {W : va_W} {Po Po' : Option Value → va_W → Prop} (h : CtL E b n xs y wds rm av W Po) (hp : ∀ ov V, Po ov V → Po' ov V) : CtL E b n xs y wds rm av W Po' := fun sz =>
  (h sz).imp (fun _ _ q => q) (fun _ _ _ _ _ ⟨⟨ov, V, h1, h2⟩, h3⟩ => ⟨⟨ov, V, hp ov V h1, h2⟩, h3⟩) (fun _ q => q)
theorem CtL.of {E : gE} {b n : Nat} {xs : Nat → Int32} {y : MethodName} {wds : List Cond} {rm : Room} {av : List Value} {W : va_W} {Po : Option Value → va_W → Prop} {cc : ByteArray} {maxL : Nat} {ret : Option FieldType} {wds' : List Cond} {own : String} {L : List (Nat × Value)} (hy : plainName y.cls = true) (hw : wds = .code y cc maxL ret :: wds') (ho : y.cls = own) (hlen : (lg_sl av).length ≤ maxL) (hL : lv_args 0 av = L)
    (body : ∀ X : gX, gF E X cc own wds ret rm maxL → gLX E X b n xs → gEndP E X Po rm.cells rm.slots → G E X 0 0 0 L [] W) : CtL E b n xs y wds rm av W Po := by
  intro sz
  refine Met.ofW (cc := cc) (maxL := maxL) (ret := ret) hy hw ?_
  intro p e s m args below meth c s₁ B hml hv
  obtain ⟨rfl, ⟨rfl, hP, hK, hD0⟩, hTT, hZ, hX⟩ := hv
  have hg := body (p, e, rm, s, m, av.toArray, below, meth, c, MQ below (gPostP E Po (va_A W s.heap.size)) av.toArray s rm.cells rm.slots (va_A W s.heap.size), va_A W s.heap.size, maxL)
    ⟨⟨B.exec, B.bytes, hml, by rw [← ho]; exact findClass_of_methodNamed B.named, atoms_spec (ws := wds) B.pre⟩, B.returns, B.notSynchronized, hK, fun q h => Or.inr h, rfl, rfl, trivial⟩ ⟨hTT, hZ, hX⟩ rfl
  have hl := lv_entry av (n := maxL) hlen
  rw [hL] at hl
  rw [lg_entry_eq]
  exact hg s.heap [] _ hP hD0.self va_S.rf hl
/-- .. with a table of its own -/
def gTab (X : gX) (hh : List (Nat × Nat × Nat × Nat)) : Prop := match X with
  | (_, _, _, _, _, _, _, _, c, _, _, _) => c.exceptionTable.toList = tableOf hh
def gEndL (E : gE) (X : gX) (Po : Option Value → va_W → Prop) (mc ms : Nat) : Prop := match X with
  | (_, _, _, s, _, args, below, _, _, Q, A, _) => Q = vx_MQ below (gPostP E Po A) gNoX args s mc ms A
theorem CtL.ofW {E : gE} {b n : Nat} {xs : Nat → Int32} {y : MethodName} {wds : List Cond} {rm : Room} {av : List Value} {W : va_W} {Po : Option Value → va_W → Prop} {cc : ByteArray} {maxL : Nat} {ret : Option FieldType} {hh : List (Nat × Nat × Nat × Nat)} {wds' : List Cond} {own : String} {L : List (Nat × Value)} (hy : plainName y.cls = true) (hw : wds = .codeWith y cc maxL ret hh :: wds') (ho : y.cls = own) (hlen : (lg_sl av).length ≤ maxL) (hL : lv_args 0 av = L)
    (body : ∀ X : gX, gF E X cc own wds ret rm maxL → gLX E X b n xs → gTab X hh → gEndL E X Po rm.cells rm.slots → G E X 0 0 0 L [] W) : CtL E b n xs y wds rm av W Po := by
  intro sz
  refine Met.of_vx ?_
  refine vx_ofWH (cc := cc) (maxL := maxL) (ret := ret) (hh := hh) hy hw ?_
  intro p e s m args below meth c s₁ B hml hv
  obtain ⟨rfl, ⟨rfl, hP, hK, hD0⟩, hTT, hZ, hX⟩ := hv
  have hT : c.exceptionTable.toList = tableOf hh := vx_table (x := y) B (atoms_spec (ws := wds) B.pre (.codeWith y cc maxL ret hh) (by rw [hw]; exact List.mem_cons_self))
  have hg := body (p, e, rm, s, m, av.toArray, below, meth, c, vx_MQ below (gPostP E Po (va_A W s.heap.size)) gNoX av.toArray s rm.cells rm.slots (va_A W s.heap.size), va_A W s.heap.size, maxL)
    ⟨⟨B.exec, B.bytes, hml, by rw [← ho]; exact findClass_of_methodNamed B.named, atoms_spec (ws := wds) B.pre⟩, B.returns, B.notSynchronized, hK, fun q h => Or.inr h, rfl, rfl, trivial⟩ ⟨hTT, hZ, hX⟩ hT rfl
  have hl := lv_entry av (n := maxL) hlen
  rw [hL] at hl
  rw [lg_entry_eq]
  exact hg s.heap [] _ hP hD0.self va_S.rf hl
section LROWS
variable {E : gE} {X : gX} {cc : ByteArray} {own : String} {Ts : List Cond} {ret : Option FieldType} {rm : Room} {n0 : Nat} {cells slots pc : Nat} {L L' : List (Nat × Value)} {st : List Value} {ws ws' : va_W} {bS nS : Nat} {xs : Nat → Int32}
theorem g_sld (F : gF E X cc own Ts ret rm n0) (S : gLX E X bS nS xs) {i : Int32} (hdg : decode cc pc = .ok (.iaload, 1)) (hin : vp_in i nS) (kk : G E X cells slots (pc + 1) L (.int (xs i.toNatClampNeg) :: st) ws) : G E X cells slots pc L (.int i :: .ref bS :: st) ws := by
  obtain ⟨p, e, R, s, m, args, below, meth, c, Q, A, nL⟩ := X
  obtain ⟨⟨hx, hb, hml, hown, hts⟩, hr, hlk, hK, hA, hR, hn0, hT⟩ := F
  intro H locs ls hP hD hS hl
  exact va_sld hx hb S.2.2.1 S.2.2.2.1 S.2.2.2.2 hS hin hdg (kk H locs ls hP hD hS hl)
theorem g_slen (F : gF E X cc own Ts ret rm n0) (S : gLX E X bS nS xs) (hdg : decode cc pc = .ok (.arraylength, 1)) (kk : G E X cells slots (pc + 1) L (.int (nI nS) :: st) ws) : G E X cells slots pc L (.ref bS :: st) ws := by
  obtain ⟨p, e, R, s, m, args, below, meth, c, Q, A, nL⟩ := X
  obtain ⟨⟨hx, hb, hml, hown, hts⟩, hr, hlk, hK, hA, hR, hn0, hT⟩ := F
  intro H locs ls hP hD hS hl
  exact va_slen hx hb S.2.2.1 S.2.2.2.1 S.2.2.2.2 hS hdg (kk H locs ls hP hD hS hl)
theorem gPreL.at {A : Nat → Prop} {s U : State} {H : Heap} {locs : List Loc} {W R : va_W} {As : List Value} (hU : U.heap = H) (hW : s.WarmedH U.vm) (hS : va_S A s.heap H locs) (hA : ∀ q, s.heap.size ≤ q → A q) (hP : va_P E.2.1 vwCl (W ++ R) H) (hD : va_D A (W ++ R)) (hK : gK E s) (S : gTD E s ∧ gZ A s s.heap ∧ va_X bS nS xs s s.heap ∧ bS < s.heap.size ∧ ¬ A bS) : gPreL E bS nS xs H.size As W As.toArray U := by
  have hB : ∀ q, va_A W H.size q → A q := wFree hD (fun q hq => hA q (Nat.le_trans hS.1 hq))
  refine ⟨rfl, ⟨by rw [hU], by rw [hU]; exact wP_left hP, gK.warm hW hK, (wD_left hD).weaken (fun _ _ _ _ => trivial)⟩, gTD.warm hW S.1, gZ.at hU hW hS hB S.2.1, ?_, Nat.lt_of_lt_of_le S.2.2.2.1 hS.1, fun z => S.2.2.2.2 (hB _ z)⟩
  rw [hU]
  exact va_X.moved hW.alike (S.2.2.1.kept (hS.2.1 _ S.2.2.2.1 S.2.2.2.2))
/-- static calls of the law's own methods -/
theorem g_callSL (F : gF E X cc own Ts ret rm n0) (S : gLX E X bS nS xs) {y : MethodName} {wds wds' : List Cond} {rmY : Room} {As : List Value} {W R : va_W} {Po : Option Value → va_W → Prop} {bytes : ByteArray} {maxL index : Nat} {rety : Option FieldType} {rest : List Value}
    (hdg : decode cc pc = .ok (.invokestatic index, 3)) (hM : CtL E bS nS xs y wds rmY As W Po) (hw : wds = .code y bytes maxL rety :: wds') (hG : GoodIn Ts (va_wsS own index y wds))
    (hd : y.cls ≠ "java/lang/invoke/MethodHandle" ∧ y.cls ≠ "java/lang/invoke/VarHandle" ∧ (parseMethodDescriptor y.desc).map (fun d => d.parameters.length) = some As.length) (hRm : gRm rm rmY maxL) (hp : ws.Perm (W ++ R)) (hst : st = As.reverse ++ rest) (hroom : (rest.map fun v => v.category).sum ≤ 8) (hcs : cells + rmY.cells ≤ rm.cells ∧ slots + rmY.slots ≤ rm.slots)
    (kk : ∀ ov V', Po ov V' → G E X (cells + rmY.cells) (slots + rmY.slots) (pc + 3) L (ov.toList ++ rest) (V' ++ R)) : G E X cells slots pc L st ws := by
  obtain ⟨p, e, R, s, m, args, below, meth, c, Q, A, nL⟩ := X
  obtain ⟨⟨hx, hb, hml, hown, hts⟩, hr, hlk, hK, hA, hR, hn0, hT⟩ := F
  subst hR; subst hst
  intro H locs ls hP0 hD0 hS hl
  have hP := wP_perm hp hP0
  have hD := wD_perm hp hD0
  exact g_backP hA hP hD hS hl (va_runS (As := As) (rest := rest) ⟨hx, hb, hml, hown, hts⟩ (hM H.size) (va_cwS As.length hts hG hw rfl rfl hd hRm) ⟨gPreL.blind, fun U hU hW => gPreL.at hU hW hS hA hP hD hK S⟩ rfl rfl hl.1 rfl (lv_room hroom) hdg hcs) kk
theorem g_callSLW (F : gF E X cc own Ts ret rm n0) (S : gLX E X bS nS xs) {y : MethodName} {wds wds' : List Cond} {rmY : Room} {As : List Value} {W R : va_W} {Po : Option Value → va_W → Prop} {bytes : ByteArray} {maxL index : Nat} {rety : Option FieldType} {hhY : List (Nat × Nat × Nat × Nat)} {rest : List Value}
    (hdg : decode cc pc = .ok (.invokestatic index, 3)) (hM : CtL E bS nS xs y wds rmY As W Po) (hw : wds = .codeWith y bytes maxL rety hhY :: wds') (hG : GoodIn Ts (va_wsS own index y wds))
    (hd : y.cls ≠ "java/lang/invoke/MethodHandle" ∧ y.cls ≠ "java/lang/invoke/VarHandle" ∧ (parseMethodDescriptor y.desc).map (fun d => d.parameters.length) = some As.length) (hRm : gRm rm rmY maxL) (hp : ws.Perm (W ++ R)) (hst : st = As.reverse ++ rest) (hroom : (rest.map fun v => v.category).sum ≤ 8) (hcs : cells + rmY.cells ≤ rm.cells ∧ slots + rmY.slots ≤ rm.slots)
    (kk : ∀ ov V', Po ov V' → G E X (cells + rmY.cells) (slots + rmY.slots) (pc + 3) L (ov.toList ++ rest) (V' ++ R)) : G E X cells slots pc L st ws := by
  obtain ⟨p, e, R, s, m, args, below, meth, c, Q, A, nL⟩ := X
  obtain ⟨⟨hx, hb, hml, hown, hts⟩, hr, hlk, hK, hA, hR, hn0, hT⟩ := F
  subst hR; subst hst
  intro H locs ls hP0 hD0 hS hl
  have hP := wP_perm hp hP0
  have hD := wD_perm hp hD0
  exact g_backP hA hP hD hS hl (vx_runSW (As := As) (rest := rest) ⟨hx, hb, hml, hown, hts⟩ (hM H.size) (vx_cwSW As.length hts hG hw rfl rfl hd hRm) ⟨gPreL.blind, fun U hU hW => gPreL.at hU hW hS hA hP hD hK S⟩ rfl rfl hl.1 rfl (lv_room hroom) hdg hcs) kk
/-- a call on a thing whose world stands at the end -/
theorem g_callM (F : gF E X cc own Ts ret rm n0) {y : MethodName} {wds wds' : List Cond} {rmY : Room} {As : List Value} {b : Nat} {wm B : va_W} {Po : Option Value → va_W → Prop} {bytes : ByteArray} {maxL index ci : Nat} {rety : Option FieldType} {fs : List Value} {C : String} {T : u_T} {N : Nat} {rest : List Value}
    (hdg : decode cc pc = .ok (.invokevirtual index, 3)) (hM : CtP E y wds rmY (.ref b :: As) wm Po) (hw : wds = .code y bytes maxL rety :: wds') (hG : GoodIn Ts (wsV own index C y wds)) (he : (b, .inr (ci, fs)) ∈ wm) (hc : vwCl[ci]? = some (C, T, N))
    (hd : y.cls = C ∧ y.cls ≠ "java/lang/invoke/MethodHandle" ∧ y.cls ≠ "java/lang/invoke/VarHandle" ∧ (parseMethodDescriptor y.desc).map (fun d => d.parameters.length) = some As.length) (hRm : gRm rm rmY maxL) (hB : ws = B ++ wm) (hst : st = As.reverse ++ .ref b :: rest) (hroom : (rest.map fun v => v.category).sum ≤ 8) (hcs : cells + rmY.cells ≤ rm.cells ∧ slots + rmY.slots ≤ rm.slots)
    (kk : ∀ ov V', Po ov V' → G E X (cells + rmY.cells) (slots + rmY.slots) (pc + 3) L (ov.toList ++ rest) (B ++ V')) : G E X cells slots pc L st ws := by
  subst hB
  exact g_callVP F hdg hM hw hG (List.mem_append_right _ he) hc hd hRm List.perm_append_comm hst hroom hcs (fun ov V' h => g_perm List.perm_append_comm (kk ov V' h))
/-- a call on it that throws, caught here -/
theorem g_xcatchM (F : gF E X cc own Ts ret rm n0) (S : gLX E X bS nS xs) {hh : List (Nat × Nat × Nat × Nat)} (T9 : gTab X hh) {ex : String} {y : MethodName} {wds wds' : List Cond} {rmY : Room} {As : List Value} {b : Nat} {wm B : va_W} {Po : va_W → Prop} {bytes : ByteArray} {maxL index ci : Nat} {rety : Option FieldType} {fs : List Value} {C : String} {T : u_T} {N : Nat} {rest : List Value}
    (hdg : decode cc pc = .ok (.invokevirtual index, 3)) (hM : CtXP E y wds rmY (.ref b :: As) wm ex Po) (hw : wds = .code y bytes maxL rety :: wds') (hG : GoodIn Ts (wsV own index C y wds)) (he : (b, .inr (ci, fs)) ∈ wm) (hc : vwCl[ci]? = some (C, T, N))
    (hd : y.cls = C ∧ y.cls ≠ "java/lang/invoke/MethodHandle" ∧ y.cls ≠ "java/lang/invoke/VarHandle" ∧ (parseMethodDescriptor y.desc).map (fun d => d.parameters.length) = some As.length) (hst : st = As.reverse ++ .ref b :: rest) (hRm : gRm rm rmY maxL) (hB : ws = B ++ wm) (hroom : (rest.map fun v => v.category).sum ≤ 8) (hcs : cells + rmY.cells ≤ rm.cells ∧ slots + rmY.slots ≤ rm.slots)
    (x : Nat × Nat × Nat × Nat) (hsp : hh = [x]) (hcov : covers ⟨x.1, x.2.1, x.2.2.1, x.2.2.2⟩ pc = true) (h0 : x.2.2.2 ≠ 0) (hlink : Cond.classLink own x.2.2.2 ex ∈ Ts) (hex : ex ∈ gExc)
    (kk : ∀ (q : Nat) (V' : va_W), Po V' → G E X (cells + rmY.cells) (slots + rmY.slots) x.2.2.1 L [.ref q] (B ++ V')) : G E X cells slots pc L st ws := by
  subst hB
  obtain ⟨p, e, R, s, m, args, below, meth, c, Q, A, nL⟩ := X
  obtain ⟨⟨hx, hb, hml, hown, hts⟩, hr, hlk, hK, hA, hR, hn0, hT⟩ := F
  subst hR; subst hst
  intro H locs ls hP0 hD0 hS hl
  have hP := wP_perm (List.perm_append_comm (l₁ := B) (l₂ := wm)) hP0
  have hD := wD_perm (List.perm_append_comm (l₁ := B) (l₂ := wm)) hD0
  obtain ⟨q0, hq0⟩ := List.getElem?_of_mem (List.mem_append_left B he)
  have hB : ∀ q, va_A wm H.size q → A q := wFree hD (fun q hq => hA q (Nat.le_trans hS.1 hq))
  have hr2 := vx_runV (e := e) (As := As) (rest := rest) (cells := cells) (slots := slots) (locs := locs) (below := below) (meth := meth) (g := F0 m pc ls (As.reverse ++ .ref b :: rest)) ⟨hx, hb, hml, hown, hts⟩ (hM H.size) (cwV As.length hts hG hw rfl rfl hd hRm) ⟨gPreT.blind, va_recv hK.1 hP (ci := ci) (q0 := q0) hc hq0, fun U hU hW => ⟨rfl, ⟨by rw [hU], by rw [hU]; exact wP_left hP, gK.warm hW hK, (wD_left hD).weaken (fun _ _ _ _ => trivial)⟩, gTD.warm hW S.1, gZ.at hU hW hS hB S.2.1⟩⟩ rfl rfl hl.1 rfl (lv_room hroom) hdg hcs
  intro T0 hT0 X0
  rcases hr2 T0 hT0 X0 with ⟨v, st₀, t, T', Lc, h1, X', hL, e1, e2, hf, stp⟩ | ⟨q9, st₀, t, T', Lc, E9, ce, h1, X', hL, e1, e2, ⟨rfl, ⟨V', hPo, hP1, hD1⟩, hz, hk⟩, hce, hcv, hcl, stp⟩
  · exact hf.elim
  · rw [h1] at hz hk
    obtain ⟨hP2, hD2⟩ := wJoin hP hD hB hk hP1 hD1
    have hP2 := wP_perm (List.perm_append_comm (l₁ := V') (l₂ := B)) hP2
    have hD2 := wD_perm (List.perm_append_comm (l₁ := V') (l₂ := B)) hD2
    rw [← e1] at hP2
    have hS2 : va_S A s.heap T'.heap (locs ++ Lc) := ⟨Nat.le_trans hS.1 (by rw [e1]; exact hz), fun q h1 h2 => by rw [e1, hk q (Nat.lt_of_lt_of_le h1 hS.1) (fun z => h2 (hB q z))]; exact hS.2.1 q h1 h2, fun q hq => by
        rcases List.mem_append.mp hq with h | h
        · exact hS.2.2 q h
        · exact hB _ (hL q h)⟩
    have T9 : c.exceptionTable.toList = tableOf hh := T9
    obtain ⟨t2, a1, b1⟩ := vx_catch (E := E9) (name := E9) (pc := pc) (ls := ls) (rest := rest) (H := T'.heap) hown [] ⟨x.1, x.2.1, x.2.2.1, x.2.2.2⟩ [] (by rw [T9, hsp]; rfl) (fun z hz => nomatch hz) hcov h0 (hts _ hlink) (va_Nw.use rfl (S.1.1.2.2 _ hex)) (by rw [e1]; exact hce) hcv hcl (kk q9 V' hPo T'.heap (locs ++ Lc) ls hP2 hD2 hS2 hl) T' rfl X'
    exact ⟨t2, stp.trans a1, b1⟩
theorem g_zretL (F : gF E X cc own Ts (some .boolean) rm n0) {v : Int32} {Po : Option Value → va_W → Prop} (hQ : gEndL E X Po cells slots) (hdg : decode cc pc = .ok (.ireturn, 1)) (hz : v = 0 ∨ v = 1) (hv : Po (some (.int v)) ws) : G E X cells slots pc L [.int v] ws := by
  obtain ⟨p, e, R, s, m, args, below, meth, c, Q, A, nL⟩ := X
  obtain ⟨⟨hx, hb, hml, hown, hts⟩, hr, hlk, hK, hA, hR, hn0, hT⟩ := F
  intro H locs ls hP hD hS hl
  have hQ : Q = _ := hQ
  subst hQ
  exact vx_ret (W.zret hx hb hr (by rcases hz with rfl | rfl <;> rfl) (fun t ht hW => ⟨⟨_, ws, hv, rfl, by rw [ht]; exact hP, hD⟩, hS.F ht⟩) hS.2.2 hdg hlk)
end LROWS
end GCTL
