/-! constructors: they add things to the world -/
section GCTOR
def gIn (X : gX) : Prop := match X with
  | (_, _, _, _, _, _, _, meth, _, _, _, _) => meth.name = "<init>"
def gPostI (E : gE) (N : (Nat → Nat) → va_W) (A : Nat → Prop) : Array Value → State → Outcome → State → Prop := fun _ st oc t => (oc = .returned none ∧ ∃ a : Nat → Nat, va_P E.2.1 vwCl (N a) t.heap ∧ va_D A (N a)) ∧ va_F A st t
def gEndI (E : gE) (X : gX) (N : (Nat → Nat) → va_W) (mc ms : Nat) : Prop := match X with
  | (_, _, _, s, _, args, below, _, _, Q, A, _) => Q = MQ below (gPostI E N A) args s mc ms A
/-- A CONTRACT: y, called on the fresh thing b, leaves b and the things at a -/
def CtI (E : gE) (y : MethodName) (wds : List Cond) (rm : Room) (b : Nat) (e0 : va_E) (N : (Nat → Nat) → va_W) : Prop :=
  ∀ sz, Met E.1 y wds rm (gPre E sz [.ref b] [(b, e0)]) (gPostI E N (va_A [(b, e0)] sz)) rm.cells rm.slots (va_A [(b, e0)] sz)
theorem CtI.of {E : gE} {y : MethodName} {wds : List Cond} {rm : Room} {b : Nat} {e0 : va_E} {N : (Nat → Nat) → va_W} {cc : ByteArray} {maxL : Nat} {wds' : List Cond} {own : String} (hy : plainName y.cls = true) (hw : wds = .code y cc maxL none :: wds') (ho : y.cls = own) (hyn : y.name = "<init>") (hlen : 1 ≤ maxL)
    (body : ∀ X : gX, gF E X cc own wds none rm maxL → gIn X → gEndI E X N rm.cells rm.slots → G E X 0 0 0 [(0, .ref b)] [] [(b, e0)]) : CtI E y wds rm b e0 N := by
  intro sz
  refine Met.ofW (cc := cc) (maxL := maxL) (ret := none) hy hw ?_
  intro p e s m args below meth c s₁ B hml hv
  obtain ⟨rfl, rfl, hP, hK, hD0⟩ := hv
  have hg := body (p, e, rm, s, m, [Value.ref b].toArray, below, meth, c, MQ below (gPostI E N (va_A [(b, e0)] s.heap.size)) [Value.ref b].toArray s rm.cells rm.slots (va_A [(b, e0)] s.heap.size), va_A [(b, e0)] s.heap.size, maxL)
    ⟨⟨B.exec, B.bytes, hml, by rw [← ho]; exact findClass_of_methodNamed B.named, atoms_spec (ws := wds) B.pre⟩, B.returns, B.notSynchronized, hK, fun q h => Or.inr h, rfl, rfl, trivial⟩ ((name_of_methodNamed B.named B.method).1.trans hyn) rfl
  have hl := lv_entry [.ref b] (n := maxL) hlen
  rw [lg_entry_eq]
  exact hg s.heap [] _ hP hD0.self va_S.rf hl
section CROWS
variable {E : gE} {X : gX} {cc : ByteArray} {own : String} {Ts : List Cond} {ret : Option FieldType} {rm : Room} {n0 : Nat} {cells slots pc : Nat} {L : List (Nat × Value)} {st : List Value} {ws ws' : va_W}
theorem g_new (F : gF E X cc own Ts ret rm n0) {index ci N : Nat} {C : String} {T : u_T} {fs : List Value} (hdg : decode cc pc = .ok (.new index, 3)) (hin : ∀ w ∈ u_ws C T N, w ∈ Ts) (ty : Nat → FieldType) (hty : ∀ k, k < N → parseFieldDescriptor (T k).2.2.1 = some (ty k)) (hcl : Cond.classLink own index C ∈ Ts) (hinst : Cond.instantiable C N ∈ Ts) (hini : Cond.initialized C ∈ Ts) (hc : vwCl[ci]? = some (C, T, N)) (hfs : ∀ j, j < N → defaultValue (ty j) = vp_V fs j) (hcells : cells + 1 ≤ rm.cells) (hslots : slots + N ≤ rm.slots)
    (kk : ∀ q : Nat, G E X (cells + 1) (slots + N) (pc + 3) L (.ref q :: st) (ws ++ [(q, .inr (ci, fs))])) : G E X cells slots pc L st ws := by
  obtain ⟨p, e, R, s, m, args, below, meth, c, Q, A, nL⟩ := X
  obtain ⟨⟨hx, hb, hml, hown, hts⟩, hr, hlk, hK, hA, hR, hn0, hT⟩ := F
  subst hR
  intro H locs ls hP hD hS hl
  exact va_new hx hb hts hin ty hty hown (hts _ hcl) (hts _ hinst) (hts _ hini) hK.1 hP hD hS hA hc hfs hcells hslots hdg (fun q H1 hP1 hD1 hS1 => kk q H1 locs ls hP1 hD1 hS1 hl)
theorem g_objinit (F : gF E X cc own Ts ret rm n0) {index a : Nat} (hdg : decode cc pc = .ok (.invokespecial index, 3)) (h1 : Cond.methodLink own index objectInit ∈ Ts) (h2 : Cond.instanceMethod objectInit ∈ Ts) (h3 : Cond.code objectInit ⟨#[0xb1]⟩ 1 none ∈ Ts) (hfr : 1 ≤ rm.frames) (hlo : 12 ≤ rm.locals) (kk : G E X cells slots (pc + 3) L [] ws) : G E X cells slots pc L [.ref a] ws := by
  obtain ⟨p, e, R, s, m, args, below, meth, c, Q, A, nL⟩ := X
  obtain ⟨⟨hx, hb, hml, hown, hts⟩, hr, hlk, hK, hA, hR, hn0, hT⟩ := F
  subst hR
  intro H locs ls hP hD hS hl
  refine W.objInit hx hb hown (hts _ h1) (hts _ h2) (hts _ h3) rfl (by rw [hml]; exact hl.1) rfl hdg hfr (Nat.le_trans (Nat.le_of_ble_eq_true rfl) hlo) ?_
  exact kk H locs ls hP hD hS hl
theorem g_putF (F : gF E X cc own Ts ret rm n0) (hI : gIn X) {a : Nat} {C : String} {T : u_T} {N ci index : Nat} {fs : List Value} {v : Value} (hdg : decode cc pc = .ok (.putfield index, 3)) (q0 : Nat) (he : ws[q0]? = some (a, .inr (ci, fs))) (hc : vwCl[ci]? = some (C, T, N)) (hin : ∀ w ∈ u_ws C T N, w ∈ Ts) (ty0 : Nat → FieldType) (hty : ∀ k, k < N → parseFieldDescriptor (T k).2.2.1 = some (ty0 k)) (hnm : ∀ a, a < N → ∀ b, b < N → a ≠ b → (T a).2.1 ≠ (T b).2.1) (k : Nat) (hk : k < N) (hfin : (T k).2.2.2 = true) (hdecl : (T k).1 = own) (hn : narrow (ty0 k) v = v) (hfit : fits (ty0 k) v = true) (hlen : k < fs.length) (hlink : Cond.fieldLink own index (T k).1 (T k).2.1 (T k).2.2.1 ∈ Ts) (hw : ws.set q0 (a, .inr (ci, fs.set k v)) = ws') (kk : G E X cells slots (pc + 3) L st ws') : G E X cells slots pc L (v :: .ref a :: st) ws := by
  subst hw
  obtain ⟨p, e, R, s, m, args, below, meth, c, Q, A, nL⟩ := X
  obtain ⟨⟨hx, hb, hml, hown, hts⟩, hr, hlk, hK, hA, hR, hn0, hT⟩ := F
  intro H locs ls hP hD hS hl
  exact va_putF hx hb hts hin ty0 hty hnm hown hK.1 hP hD hS q0 he hc k hk (hts _ hlink) (fun _ h9 => h9) hfin hI hdecl (hty k hk) hn hfit hlen hdg (fun H1 locs1 hP1 hD1 hS1 => kk H1 locs1 ls hP1 hD1 hS1 hl)
theorem g_backI {rmY : Room} {b q0 : Nat} {e0 : va_E} {wsR : va_W} {isR : List Nat} {N : (Nat → Nat) → va_W} {p : Program} {e : Env} {R : Room} {s : State} {m : MethodId} {args : Array Value} {below : List Frame} {meth : Method} {c : Code} {Q : State → Prop} {A : Nat → Prop} {nL : Nat} {H : Heap} {locs : List Loc} {ls : Array Slot} {rest st0 : List Value} {a : Array Value}
    (hA : ∀ q, s.heap.size ≤ q → A q) (hP : va_P E.2.1 vwCl ws H) (hD : va_D A ws) (hS : va_S A s.heap H locs) (hl : lv_has ls nL L) (hC : (q0 :: isR).map (fun i => ws[i]?) = ((b, e0) :: wsR).map some) (hn : va_nd (q0 :: isR) = true)
    (hr : va_Run p E.1 e R s m args below meth c H locs cells slots rmY.cells rmY.slots (F0 m pc ls st0) rest (gPostI E N (va_A [(b, e0)] H.size) a) (va_A [(b, e0)] H.size))
    (kk : ∀ n : Nat → Nat, G E (p, e, R, s, m, args, below, meth, c, Q, A, nL) (cells + rmY.cells) (slots + rmY.slots) (pc + 3) L rest (wsR ++ N n)) : W p E.1 e R s m args below meth c H locs cells slots Q (F0 m pc ls st0) := by
  intro T hT X
  obtain ⟨v, st₀, t, T', Lc, h0, X', hL, e1, -, ⟨⟨hv, n, hP1, hD1⟩, hz, hk⟩, stp⟩ := hr T hT X
  cases hv
  rw [h0] at hz hk
  have hq0 : [q0].map (fun i => ws[i]?) = [(b, e0)].map some := by
    simp only [List.map_cons, List.map_nil, List.cons.injEq] at hC ⊢
    exact ⟨hC.1, trivial⟩
  have hFc := va_free (wc := [(b, e0)]) hD hS hA [q0] hq0
  have hPR : va_P E.2.1 vwCl ((b, e0) :: wsR) H := hP.sub (q0 :: isR) (by
    have h1 : (q0 :: isR).filterMap (fun i => ws[i]?) = ((q0 :: isR).map (fun i => ws[i]?)).filterMap id := by rw [List.filterMap_map]; rfl
    rw [h1, hC, List.filterMap_map]; exact List.filterMap_some)
  have hDR : va_D A ((b, e0) :: wsR) := hD.sub (q0 :: isR) hn hC
  have hnot : ∀ (k : Nat) (x : Nat × va_E), wsR[k]? = some x → ¬ va_A [(b, e0)] H.size x.1 := by
    intro k x hx hz2
    have hx1 : ((b, e0) :: wsR)[k + 1]? = some x := by rw [List.getElem?_cons_succ]; exact hx
    rcases hz2 with ⟨j, e2, hj⟩ | hj
    · have hj2 : ((b, e0) :: wsR)[0]? = some (b, e0) := rfl
      have hb2 : x.1 = b := by
        cases j with
        | zero => simp only [List.getElem?_cons_zero, Option.some.injEq, Prod.mk.injEq] at hj; exact hj.1.symm
        | succ j => simp at hj
      have := hDR.1 0 (k + 1) (b, e0) x hj2 hx1 hb2.symm
      omega
    · have := (hPR (k + 1) x hx1).lt
      omega
  have hPk : va_P E.2.1 vwCl wsR T'.heap := by
    rw [e1]
    refine va_P.kept (H := H) (fun k x hx => hPR (k + 1) x (by rw [List.getElem?_cons_succ]; exact hx)) (fun k x hx => ?_)
    exact hk x.1 (hPR (k + 1) x (by rw [List.getElem?_cons_succ]; exact hx)).lt (hnot k x hx)
  have hP2 : va_P E.2.1 vwCl (wsR ++ N n) T'.heap := va_P.app hPk (by rw [e1]; exact hP1)
  have hD2 : va_D A (wsR ++ N n) := by
    refine va_D.app ⟨fun i j x y hi hj hxy => ?_, fun k x hx => ?_⟩ (hD1.weaken (fun _ q _ h => hFc q.1 h)) (fun i j x y hi hj hxy => ?_)
    · have := hDR.1 (i + 1) (j + 1) x y (by rw [List.getElem?_cons_succ]; exact hi) (by rw [List.getElem?_cons_succ]; exact hj) hxy
      omega
    · exact hDR.2 (k + 1) x (by rw [List.getElem?_cons_succ]; exact hx)
    · exact hnot i x hi (by rw [hxy]; exact hD1.2 j y hj)
  have hS2 : va_S A s.heap T'.heap (locs ++ Lc) := ⟨Nat.le_trans hS.1 (by rw [e1]; exact hz), fun q h1 h2 => by rw [e1, hk q (Nat.lt_of_lt_of_le h1 hS.1) (fun z => h2 (hFc q z))]; exact hS.2.1 q h1 h2, fun q hq => by
      rcases List.mem_append.mp hq with h | h
      · exact hS.2.2 q h
      · exact hFc _ (hL q h)⟩
  obtain ⟨t2, a1, b1⟩ := kk n T'.heap (locs ++ Lc) ls hP2 hD2 hS2 hl T' rfl X'
  exact ⟨t2, stp t2 a1, b1⟩
theorem g_callI (F : gF E X cc own Ts ret rm n0) {y : MethodName} {wds wds' : List Cond} {rmY : Room} {b q0 : Nat} {e0 : va_E} {wsR : va_W} {isR : List Nat} {N : (Nat → Nat) → va_W} {bytes : ByteArray} {maxL index : Nat} {rest : List Value}
    (hdg : decode cc pc = .ok (.invokespecial index, 3)) (hM : CtI E y wds rmY b e0 N) (hw : wds = .code y bytes maxL none :: wds') (hG : GoodIn Ts wds) (h2 : Cond.initialized y.cls ∈ Ts) (hinst : Cond.instanceMethod y ∈ Ts) (hlink : Cond.methodLink own index y ∈ Ts) (hyn : y.name = "<init>")
    (hd : y.cls ≠ "java/lang/invoke/MethodHandle" ∧ y.cls ≠ "java/lang/invoke/VarHandle" ∧ (parseMethodDescriptor y.desc).map (fun d => d.parameters.length) = some 0) (hRm : gRm rm rmY maxL) (hC : (q0 :: isR).map (fun i => ws[i]?) = ((b, e0) :: wsR).map some) (hn : va_nd (q0 :: isR) = true) (hst : st = .ref b :: rest) (hroom : (rest.map fun v => v.category).sum ≤ 8) (hcs : cells + rmY.cells ≤ rm.cells ∧ slots + rmY.slots ≤ rm.slots)
    (kk : ∀ n : Nat → Nat, G E X (cells + rmY.cells) (slots + rmY.slots) (pc + 3) L rest (wsR ++ N n)) : G E X cells slots pc L st ws := by
  obtain ⟨p, e, R, s, m, args, below, meth, c, Q, A, nL⟩ := X
  obtain ⟨⟨hx, hb, hml, hown, hts⟩, hr, hlk, hK, hA, hR, hn0, hT⟩ := F
  subst hR; subst hst
  intro H locs ls hP hD hS hl
  have hq0 : [q0].map (fun i => ws[i]?) = [(b, e0)].map some := by
    simp only [List.map_cons, List.map_nil, List.cons.injEq] at hC ⊢
    exact ⟨hC.1, trivial⟩
  have hP0 : va_P E.2.1 vwCl [(b, e0)] H := hP.sub [q0] (by
    have h1 : [q0].filterMap (fun i => ws[i]?) = ([q0].map (fun i => ws[i]?)).filterMap id := by rw [List.filterMap_map]; rfl
    rw [h1, hq0, List.filterMap_map]; exact List.filterMap_some)
  have hD0 : va_D (fun _ => True) [(b, e0)] := (hD.sub [q0] (by rfl) hq0).weaken (fun _ _ _ _ => trivial)
  exact g_backI hA hP hD hS hl hC hn (va_runI (As := []) (rest := rest) ⟨hx, hb, hml, hown, hts⟩ (hM H.size) (cwI 0 hts hG hw rfl rfl (hts _ h2) (hts _ hlink) (hts _ hinst) hyn hd hRm) ⟨gPre.blind, fun U hU hW => ⟨rfl, by rw [hU], by rw [hU]; exact hP0, gK.warm hW hK, hD0⟩⟩ rfl rfl hl.1 rfl (lv_room hroom) hdg hcs) kk
theorem g_callIN (F : gF E X cc own Ts ret rm n0) {y : MethodName} {wds wds' : List Cond} {rmY : Room} {b q0 : Nat} {e0 : va_E} {wsR : va_W} {isR : List Nat} {N : (Nat → Nat) → va_W} {bytes : ByteArray} {maxL index : Nat} {rest : List Value}
    (hdg : decode cc pc = .ok (.invokespecial index, 3)) (hM : CtI E y wds rmY b e0 N) (hw : wds = .code y bytes maxL none :: wds') (hG : GoodIn Ts wds) (h2 : Cond.initialized y.cls ∈ Ts) (hinst : Cond.instanceMethod y ∈ Ts) (hlink : (own, index, y) ∈ gNq) (hyn : y.name = "<init>")
    (hd : y.cls ≠ "java/lang/invoke/MethodHandle" ∧ y.cls ≠ "java/lang/invoke/VarHandle" ∧ (parseMethodDescriptor y.desc).map (fun d => d.parameters.length) = some 0) (hRm : gRm rm rmY maxL) (hC : (q0 :: isR).map (fun i => ws[i]?) = ((b, e0) :: wsR).map some) (hn : va_nd (q0 :: isR) = true) (hst : st = .ref b :: rest) (hroom : (rest.map fun v => v.category).sum ≤ 8) (hcs : cells + rmY.cells ≤ rm.cells ∧ slots + rmY.slots ≤ rm.slots)
    (kk : ∀ n : Nat → Nat, G E X (cells + rmY.cells) (slots + rmY.slots) (pc + 3) L rest (wsR ++ N n)) : G E X cells slots pc L st ws := by
  obtain ⟨p, e, R, s, m, args, below, meth, c, Q, A, nL⟩ := X
  obtain ⟨⟨hx, hb, hml, hown, hts⟩, hr, hlk, hK, hA, hR, hn0, hT⟩ := F
  subst hR; subst hst
  intro H locs ls hP hD hS hl
  have hq0 : [q0].map (fun i => ws[i]?) = [(b, e0)].map some := by
    simp only [List.map_cons, List.map_nil, List.cons.injEq] at hC ⊢
    exact ⟨hC.1, trivial⟩
  have hP0 : va_P E.2.1 vwCl [(b, e0)] H := hP.sub [q0] (by
    have h1 : [q0].filterMap (fun i => ws[i]?) = ([q0].map (fun i => ws[i]?)).filterMap id := by rw [List.filterMap_map]; rfl
    rw [h1, hq0, List.filterMap_map]; exact List.filterMap_some)
  have hD0 : va_D (fun _ => True) [(b, e0)] := (hD.sub [q0] (by rfl) hq0).weaken (fun _ _ _ _ => trivial)
  exact g_backI hA hP hD hS hl hC hn (va_runIN (As := []) (rest := rest) ⟨hx, hb, hml, hown, hts⟩ (hM H.size) (⟨va_cnB 0 hts hG hw rfl rfl (hK.2.1 _ hlink) (hts _ h2) hd hRm, hyn, hts _ hinst⟩) ⟨gPre.blind, fun U hU hW => ⟨rfl, by rw [hU], by rw [hU]; exact hP0, gK.warm hW hK, hD0⟩⟩ rfl rfl hl.1 rfl (lv_room hroom) hdg hcs) kk
theorem g_vretI (F : gF E X cc own Ts none rm n0) {N : (Nat → Nat) → va_W} (hQ : gEndI E X N cells slots) (hdg : decode cc pc = .ok (.return_, 1)) (a : Nat → Nat) (hw : ws = N a) : G E X cells slots pc L [] ws := by
  obtain ⟨p, e, R, s, m, args, below, meth, c, Q, A, nL⟩ := X
  obtain ⟨⟨hx, hb, hml, hown, hts⟩, hr, hlk, hK, hA, hR, hn0, hT⟩ := F
  subst hw
  intro H locs ls hP hD hS hl
  have hQ : Q = _ := hQ
  subst hQ
  exact W.vret hx hb hr (fun t ht hW => ⟨⟨rfl, a, by rw [ht]; exact hP, hD⟩, hS.F ht⟩) hS.2.2 hdg hlk
end CROWS
end GCTOR
