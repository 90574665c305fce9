/-! THE G LAYER: a walk from world to world; locals, stack and cells as lists; heap and places inside. -/
section GBASE
/-- launch, layout, the number of int rows' class -/
abbrev gE : Type := Launch × va_G × ClassId
/-- the fixed things of a body; its end; the cells that may change; how many places of locals -/
abbrev gX : Type := Program × Env × Room × State × MethodId × Array Value × List Frame × Method × Code × (State → Prop) × (Nat → Prop) × Nat
def gNq : List (String × Nat × MethodName) := [(RX4, 9, yX1_init), (RX4, 18, yX2_init), (RX3, 15, yX4_fillNumbers), (RX4, 32, yX0_init), (RX0, 11, yX2_init), (RX0, 20, yX1_init), (RX1, 35, yX4_fillNumbers), (RX1, 15, yX4_isCell), (RX1, 19, yX4_numberAt), (RX2, 74, yX4_fillNumbers), (RX2, 54, yX4_numberAt), (RX2, 35, yX4_putNumber), (RX3, 19, yX4_numberAt), (RX0, 70, yX4_numberAt), (RX0, 47, yX4_fillNumbers), (RX1, 23, yX4_putNumber), (RX0, 97, yX4_putNumber), (RX1, 39, yX4_digested), (RX3, 42, yX4_digested), (RX2, 62, yX4_digested), (RX3, 33, yX4_putNumber)]
def gStr : List (Nat × String) := [(203, "no such cell"), (213, "a number beyond its bounds"), (206, "no such number"), (195, "a spool has not thread enough"), (186, "no cloth is kept")]
def gExc : List String := ["java/lang/IndexOutOfBoundsException", "java/lang/IllegalArgumentException", "java/lang/IllegalStateException"]
/-- what the tables say, carried along: classes and the int rows' class; links of nest mates -/
def gK (E : gE) (U : State) : Prop := va_K E.2.1 vwCl [(E.2.2, .int), (E.2.1.1 100, .array .int), (E.2.1.1 101, .boolean)] U ∧ (∀ q ∈ gNq, va_Nw (.methodLinkNest q.1 q.2.1 q.2.2 "TapestryRuns") U) ∧ va_AOA .int U ∧ va_Nw (.castable "[I" "java/lang/Cloneable") U
theorem gK.same {E : gE} {u U : State} (h : u.vm = U.vm) (k : gK E u) : gK E U := ⟨va_K.moved (by rw [h]; exact Vm.Alike.refl _) k.1, fun q hq => va_Nw.same rfl h (k.2.1 q hq), va_AOA.moved (by rw [h]; exact Vm.Alike.refl _) k.2.2.1, va_Nw.same rfl h k.2.2.2⟩
theorem gK.warm {E : gE} {s U : State} (hW : s.WarmedH U.vm) (k : gK E s) : gK E U := ⟨va_K.moved hW.alike k.1, fun q hq => va_Nw.warmM hW (k.2.1 q hq), va_AOA.moved hW.alike k.2.2.1, va_Nw.warmC hW k.2.2.2⟩
/-- .. and for methods that throw: texts, and that a class casts to itself -/
def gT (E : gE) (U : State) : Prop := E.1.stackTraces = false ∧ (∀ q ∈ gStr, ∃ a, vk_R RX4 q.1 q.2 a U) ∧ ∀ x ∈ gExc, va_Nw (.castable x x) U
theorem gT.same {E : gE} {u U : State} (h : u.vm = U.vm) (k : gT E u) : gT E U := ⟨k.1, fun q hq => by obtain ⟨a, ha⟩ := k.2.1 q hq; exact ⟨a, vk_R.same h.symm ha⟩, fun x hx => va_Nw.same rfl h (k.2.2 x hx)⟩
theorem gT.warm {E : gE} {s U : State} (hW : s.WarmedH U.vm) (k : gT E s) : gT E U := ⟨k.1, fun q hq => by obtain ⟨a, ha⟩ := k.2.1 q hq; exact ⟨a, vk_R.warm hW ha⟩, fun x hx => by
  have h1 : (Cond.castable x x).before #[] (s.setVm U.vm) = true := Cond.before_shiftedFace (State.Shifted.of_warmed hW) _ rfl (k.2.2 x hx)
  exact va_tabs (A := #[]) (u := s.setVm U.vm) rfl rfl h1⟩
/-- the two statics of Throwable, out of the cells that may change -/
def gZ (A : Nat → Prop) (U : State) (H : Heap) : Prop := vx_Zq Bundle.tN "UNASSIGNED_STACK" Bundle.steD A U H ∧ vx_Zq Bundle.tN "SUPPRESSED_SENTINEL" Bundle.listD A U H
/-- the facts of a body -/
def gF (E : gE) (X : gX) (cc : ByteArray) (own : String) (Ts : List Cond) (ret : Option FieldType) (rm : Room) (n0 : Nat) : Prop := match X with
  | (p, _, R, s, m, args, _, meth, c, _, A, nL) => (CallFix p m c cc nL s args Ts own) ∧ meth.sig.returnType = ret ∧ meth.locks = false ∧ gK E s ∧ (∀ q, s.heap.size ≤ q → A q) ∧ R = rm ∧ nL = n0 ∧ True
/-- from pc, with the locals L, the stack st, the world ws, the walk comes to its end -/
def G (E : gE) (X : gX) (cells slots pc : Nat) (L : List (Nat × Value)) (st : List Value) (ws : va_W) : Prop := match X with
  | (p, e, R, s, m, args, below, meth, c, Q, A, nL) => ∀ (H : Heap) (locs : List Loc) (ls : Array Slot), va_P E.2.1 vwCl ws H → va_D A ws → va_S A s.heap H locs → lv_has ls nL L → W p E.1 e R s m args below meth c H locs cells slots Q (F0 m pc ls st)
def sAbs (x : Int32) : Int32 := if 0 ≤ x then x else 0 - x
def sMax (x y : Int32) : Int32 := if x < y then y else x
def sMin (x y : Int32) : Int32 := if y < x then y else x
section ROWS
variable {E : gE} {X : gX} {cc : ByteArray} {own : String} {Ts : List Cond} {ret : Option FieldType} {rm : Room} {n0 : Nat} {cells slots pc : Nat} {L L' : List (Nat × Value)} {st : List Value} {ws ws' : va_W}
theorem g_pc {pc' : Nat} (h : pc = pc') (k : G E X cells slots pc' L st ws) : G E X cells slots pc L st ws := h ▸ k
theorem g_ws (h : ws = ws') (k : G E X cells slots pc L st ws') : G E X cells slots pc L st ws := h ▸ k
theorem g_cs {cells' slots' : Nat} (hc : cells ≤ cells') (hs : slots ≤ slots') (k : G E X cells' slots' pc L st ws) : G E X cells slots pc L st ws := by
  obtain ⟨p, e, R, s, m, args, below, meth, c, Q, A, nL⟩ := X
  intro H locs ls hP hD hS hl
  exact W.widen hc hs (k H locs ls hP hD hS hl)
/-- fewer locals, in any order -/
theorem g_lv (is : List Nat) (h : lv_pick L is = L') (k : G E X cells slots pc L' st ws) : G E X cells slots pc L st ws := by
  obtain ⟨p, e, R, s, m, args, below, meth, c, Q, A, nL⟩ := X
  intro H locs ls hP hD hS hl
  exact k H locs ls hP hD hS (lv_sub hl is h)
/-- fewer cells, in any order -/
theorem g_sub (is : List Nat) (hn : va_nd is = true) (h : is.map (fun i => ws[i]?) = ws'.map some) (k : G E X cells slots pc L st ws') : G E X cells slots pc L st ws := by
  obtain ⟨p, e, R, s, m, args, below, meth, c, Q, A, nL⟩ := X
  intro H locs ls hP hD hS hl
  refine k H locs ls (hP.sub is ?_) (hD.sub is hn h) hS hl
  have h1 : is.filterMap (fun i => ws[i]?) = (is.map (fun i => ws[i]?)).filterMap id := by rw [List.filterMap_map]; rfl
  rw [h1, h, List.filterMap_map]
  exact List.filterMap_some
/-- a top of the stack gets a name -/
theorem g_topi {x : Int32} (k : ∀ y : Int32, y = x → G E X cells slots pc L (.int y :: st) ws) : G E X cells slots pc L (.int x :: st) ws := k x rfl
theorem g_topr {x y : Int32} (h : x = y) (k : G E X cells slots pc L (.int y :: st) ws) : G E X cells slots pc L (.int x :: st) ws := h ▸ k
theorem g_topl {x y : Int64} (h : x = y) (k : G E X cells slots pc L (.long y :: st) ws) : G E X cells slots pc L (.long x :: st) ws := h ▸ k
theorem g_iconst (F : gF E X cc own Ts ret rm n0) {n : Int} {v : Int32} (hdg : decode cc pc = .ok (.iconst n, 1)) (hv : Int32.ofInt n = v) (k : G E X cells slots (pc + 1) L (.int v :: st) ws) : G E X cells slots pc L (st) ws := by
  obtain ⟨p, e, R, s, m, args, below, meth, c, Q, A, nL⟩ := X
  obtain ⟨⟨hx, hb, hml, hown, hts⟩, hr, hlk, hK, hA, hR, hn0, hT⟩ := F
  intro H locs ls hP hD hS hl
  exact lv_iconst hx hb hdg hv (k H locs ls hP hD hS hl)
theorem g_bipush (F : gF E X cc own Ts ret rm n0) {n : Int} {v : Int32} (hdg : decode cc pc = .ok (.bipush n, 2)) (hv : (Int8.ofInt n).toInt32 = v) (k : G E X cells slots (pc + 2) L (.int v :: st) ws) : G E X cells slots pc L (st) ws := by
  obtain ⟨p, e, R, s, m, args, below, meth, c, Q, A, nL⟩ := X
  obtain ⟨⟨hx, hb, hml, hown, hts⟩, hr, hlk, hK, hA, hR, hn0, hT⟩ := F
  intro H locs ls hP hD hS hl
  exact lv_bipush hx hb hdg hv (k H locs ls hP hD hS hl)
theorem g_sipush (F : gF E X cc own Ts ret rm n0) {n : Int} {v : Int32} (hdg : decode cc pc = .ok (.sipush n, 3)) (hv : (Int16.ofInt n).toInt32 = v) (k : G E X cells slots (pc + 3) L (.int v :: st) ws) : G E X cells slots pc L (st) ws := by
  obtain ⟨p, e, R, s, m, args, below, meth, c, Q, A, nL⟩ := X
  obtain ⟨⟨hx, hb, hml, hown, hts⟩, hr, hlk, hK, hA, hR, hn0, hT⟩ := F
  intro H locs ls hP hD hS hl
  exact lv_sipush hx hb hdg hv (k H locs ls hP hD hS hl)
theorem g_ldc2l (F : gF E X cc own Ts ret rm n0) {index : Nat} {v : Int64} (hdg : decode cc pc = .ok (.ldc2_w index, 3)) (hc : Cond.constantLong own index v ∈ Ts) (k : G E X cells slots (pc + 3) L (.long v :: st) ws) : G E X cells slots pc L (st) ws := by
  obtain ⟨p, e, R, s, m, args, below, meth, c, Q, A, nL⟩ := X
  obtain ⟨⟨hx, hb, hml, hown, hts⟩, hr, hlk, hK, hA, hR, hn0, hT⟩ := F
  intro H locs ls hP hD hS hl
  exact lv_ldc2 hx hb hown (hts _ hc) hdg (k H locs ls hP hD hS hl)
theorem g_iload_n (F : gF E X cc own Ts ret rm n0) {k : Fin 4} {i : Nat} {x : Int32} (hdg : decode cc pc = .ok (.iload_n k, 1)) (hi : (k : Nat) = i) (j : Nat) (hj : L[j]? = some (i, .int x)) (k : G E X cells slots (pc + 1) L (.int x :: st) ws) : G E X cells slots pc L (st) ws := by
  obtain ⟨p, e, R, s, m, args, below, meth, c, Q, A, nL⟩ := X
  obtain ⟨⟨hx, hb, hml, hown, hts⟩, hr, hlk, hK, hA, hR, hn0, hT⟩ := F
  intro H locs ls hP hD hS hl
  exact lv_iload_n hx hb hdg hi (lv_at hl j hj) (k H locs ls hP hD hS hl)
theorem g_iload (F : gF E X cc own Ts ret rm n0) {i : Nat} {x : Int32} (hdg : decode cc pc = .ok (.iload i, 2)) (j : Nat) (hj : L[j]? = some (i, .int x)) (k : G E X cells slots (pc + 2) L (.int x :: st) ws) : G E X cells slots pc L (st) ws := by
  obtain ⟨p, e, R, s, m, args, below, meth, c, Q, A, nL⟩ := X
  obtain ⟨⟨hx, hb, hml, hown, hts⟩, hr, hlk, hK, hA, hR, hn0, hT⟩ := F
  intro H locs ls hP hD hS hl
  exact lv_iload hx hb hdg (lv_at hl j hj) (k H locs ls hP hD hS hl)
theorem g_aload_n (F : gF E X cc own Ts ret rm n0) {k : Fin 4} {i : Nat} {x : Nat} (hdg : decode cc pc = .ok (.aload_n k, 1)) (hi : (k : Nat) = i) (j : Nat) (hj : L[j]? = some (i, .ref x)) (k : G E X cells slots (pc + 1) L (.ref x :: st) ws) : G E X cells slots pc L (st) ws := by
  obtain ⟨p, e, R, s, m, args, below, meth, c, Q, A, nL⟩ := X
  obtain ⟨⟨hx, hb, hml, hown, hts⟩, hr, hlk, hK, hA, hR, hn0, hT⟩ := F
  intro H locs ls hP hD hS hl
  exact lv_aload_n hx hb hdg hi (lv_at hl j hj) (k H locs ls hP hD hS hl)
theorem g_aload (F : gF E X cc own Ts ret rm n0) {i : Nat} {x : Nat} (hdg : decode cc pc = .ok (.aload i, 2)) (j : Nat) (hj : L[j]? = some (i, .ref x)) (k : G E X cells slots (pc + 2) L (.ref x :: st) ws) : G E X cells slots pc L (st) ws := by
  obtain ⟨p, e, R, s, m, args, below, meth, c, Q, A, nL⟩ := X
  obtain ⟨⟨hx, hb, hml, hown, hts⟩, hr, hlk, hK, hA, hR, hn0, hT⟩ := F
  intro H locs ls hP hD hS hl
  exact lv_aload hx hb hdg (lv_at hl j hj) (k H locs ls hP hD hS hl)
theorem g_lload_n (F : gF E X cc own Ts ret rm n0) {k : Fin 4} {i : Nat} {x : Int64} (hdg : decode cc pc = .ok (.lload_n k, 1)) (hi : (k : Nat) = i) (j : Nat) (hj : L[j]? = some (i, .long x)) (k : G E X cells slots (pc + 1) L (.long x :: st) ws) : G E X cells slots pc L (st) ws := by
  obtain ⟨p, e, R, s, m, args, below, meth, c, Q, A, nL⟩ := X
  obtain ⟨⟨hx, hb, hml, hown, hts⟩, hr, hlk, hK, hA, hR, hn0, hT⟩ := F
  intro H locs ls hP hD hS hl
  exact lv_lload_n hx hb hdg hi (lv_at hl j hj) (k H locs ls hP hD hS hl)
theorem g_lload (F : gF E X cc own Ts ret rm n0) {i : Nat} {x : Int64} (hdg : decode cc pc = .ok (.lload i, 2)) (j : Nat) (hj : L[j]? = some (i, .long x)) (k : G E X cells slots (pc + 2) L (.long x :: st) ws) : G E X cells slots pc L (st) ws := by
  obtain ⟨p, e, R, s, m, args, below, meth, c, Q, A, nL⟩ := X
  obtain ⟨⟨hx, hb, hml, hown, hts⟩, hr, hlk, hK, hA, hR, hn0, hT⟩ := F
  intro H locs ls hP hD hS hl
  exact lv_lload hx hb hdg (lv_at hl j hj) (k H locs ls hP hD hS hl)
theorem g_dload_n (F : gF E X cc own Ts ret rm n0) {k : Fin 4} {i : Nat} {x : UInt64} (hdg : decode cc pc = .ok (.dload_n k, 1)) (hi : (k : Nat) = i) (j : Nat) (hj : L[j]? = some (i, .double x)) (k : G E X cells slots (pc + 1) L (.double x :: st) ws) : G E X cells slots pc L (st) ws := by
  obtain ⟨p, e, R, s, m, args, below, meth, c, Q, A, nL⟩ := X
  obtain ⟨⟨hx, hb, hml, hown, hts⟩, hr, hlk, hK, hA, hR, hn0, hT⟩ := F
  intro H locs ls hP hD hS hl
  exact lv_dload_n hx hb hdg hi (lv_at hl j hj) (k H locs ls hP hD hS hl)
theorem g_dload (F : gF E X cc own Ts ret rm n0) {i : Nat} {x : UInt64} (hdg : decode cc pc = .ok (.dload i, 2)) (j : Nat) (hj : L[j]? = some (i, .double x)) (k : G E X cells slots (pc + 2) L (.double x :: st) ws) : G E X cells slots pc L (st) ws := by
  obtain ⟨p, e, R, s, m, args, below, meth, c, Q, A, nL⟩ := X
  obtain ⟨⟨hx, hb, hml, hown, hts⟩, hr, hlk, hK, hA, hR, hn0, hT⟩ := F
  intro H locs ls hP hD hS hl
  exact lv_dload hx hb hdg (lv_at hl j hj) (k H locs ls hP hD hS hl)
theorem g_istore_n (F : gF E X cc own Ts ret rm n0) {k : Fin 4} {i : Nat} {x : Int32} (hdg : decode cc pc = .ok (.istore_n k, 1)) (hi : (k : Nat) = i) (hn : i < n0) (is : List Nat) (hl2 : lv_pick ((i, .int x) :: L.filter (fun q => !(q.1 == i) && !(q.1 + 1 == i && q.2.category == 2))) is = L') (k : G E X cells slots (pc + 1) L' st ws) : G E X cells slots pc L (.int x :: st) ws := by
  obtain ⟨p, e, R, s, m, args, below, meth, c, Q, A, nL⟩ := X
  obtain ⟨⟨hx, hb, hml, hown, hts⟩, hr, hlk, hK, hA, hR, hn0, hT⟩ := F
  intro H locs ls hP hD hS hl
  exact lv_istore_n hx hb hdg hi hl (by rw [hn0]; exact hn) rfl (fun ls2 hl3 => k H locs ls2 hP hD hS (lv_sub hl3 is hl2))
theorem g_istore (F : gF E X cc own Ts ret rm n0) {i : Nat} {x : Int32} (hdg : decode cc pc = .ok (.istore i, 2)) (hn : i < n0) (is : List Nat) (hl2 : lv_pick ((i, .int x) :: L.filter (fun q => !(q.1 == i) && !(q.1 + 1 == i && q.2.category == 2))) is = L') (k : G E X cells slots (pc + 2) L' st ws) : G E X cells slots pc L (.int x :: st) ws := by
  obtain ⟨p, e, R, s, m, args, below, meth, c, Q, A, nL⟩ := X
  obtain ⟨⟨hx, hb, hml, hown, hts⟩, hr, hlk, hK, hA, hR, hn0, hT⟩ := F
  intro H locs ls hP hD hS hl
  exact lv_istore hx hb hdg hl (by rw [hn0]; exact hn) rfl (fun ls2 hl3 => k H locs ls2 hP hD hS (lv_sub hl3 is hl2))
theorem g_astore_n (F : gF E X cc own Ts ret rm n0) {k : Fin 4} {i : Nat} {x : Nat} (hdg : decode cc pc = .ok (.astore_n k, 1)) (hi : (k : Nat) = i) (hn : i < n0) (is : List Nat) (hl2 : lv_pick ((i, .ref x) :: L.filter (fun q => !(q.1 == i) && !(q.1 + 1 == i && q.2.category == 2))) is = L') (k : G E X cells slots (pc + 1) L' st ws) : G E X cells slots pc L (.ref x :: st) ws := by
  obtain ⟨p, e, R, s, m, args, below, meth, c, Q, A, nL⟩ := X
  obtain ⟨⟨hx, hb, hml, hown, hts⟩, hr, hlk, hK, hA, hR, hn0, hT⟩ := F
  intro H locs ls hP hD hS hl
  exact lv_astore_n hx hb hdg hi hl (by rw [hn0]; exact hn) rfl (fun ls2 hl3 => k H locs ls2 hP hD hS (lv_sub hl3 is hl2))
theorem g_astore (F : gF E X cc own Ts ret rm n0) {i : Nat} {x : Nat} (hdg : decode cc pc = .ok (.astore i, 2)) (hn : i < n0) (is : List Nat) (hl2 : lv_pick ((i, .ref x) :: L.filter (fun q => !(q.1 == i) && !(q.1 + 1 == i && q.2.category == 2))) is = L') (k : G E X cells slots (pc + 2) L' st ws) : G E X cells slots pc L (.ref x :: st) ws := by
  obtain ⟨p, e, R, s, m, args, below, meth, c, Q, A, nL⟩ := X
  obtain ⟨⟨hx, hb, hml, hown, hts⟩, hr, hlk, hK, hA, hR, hn0, hT⟩ := F
  intro H locs ls hP hD hS hl
  exact lv_astore hx hb hdg hl (by rw [hn0]; exact hn) rfl (fun ls2 hl3 => k H locs ls2 hP hD hS (lv_sub hl3 is hl2))
theorem g_lstore_n (F : gF E X cc own Ts ret rm n0) {k : Fin 4} {i : Nat} {x : Int64} (hdg : decode cc pc = .ok (.lstore_n k, 1)) (hi : (k : Nat) = i) (hn : i + 1 < n0) (is : List Nat) (hl2 : lv_pick ((i, .long x) :: L.filter (fun q => !(q.1 == i) && (!(q.1 == i + 1) && !(q.1 + 1 == i && q.2.category == 2)))) is = L') (k : G E X cells slots (pc + 1) L' st ws) : G E X cells slots pc L (.long x :: st) ws := by
  obtain ⟨p, e, R, s, m, args, below, meth, c, Q, A, nL⟩ := X
  obtain ⟨⟨hx, hb, hml, hown, hts⟩, hr, hlk, hK, hA, hR, hn0, hT⟩ := F
  intro H locs ls hP hD hS hl
  exact lv_lstore_n hx hb hdg hi hl (by rw [hn0]; exact hn) rfl (fun ls2 hl3 => k H locs ls2 hP hD hS (lv_sub hl3 is hl2))
theorem g_lstore (F : gF E X cc own Ts ret rm n0) {i : Nat} {x : Int64} (hdg : decode cc pc = .ok (.lstore i, 2)) (hn : i + 1 < n0) (is : List Nat) (hl2 : lv_pick ((i, .long x) :: L.filter (fun q => !(q.1 == i) && (!(q.1 == i + 1) && !(q.1 + 1 == i && q.2.category == 2)))) is = L') (k : G E X cells slots (pc + 2) L' st ws) : G E X cells slots pc L (.long x :: st) ws := by
  obtain ⟨p, e, R, s, m, args, below, meth, c, Q, A, nL⟩ := X
  obtain ⟨⟨hx, hb, hml, hown, hts⟩, hr, hlk, hK, hA, hR, hn0, hT⟩ := F
  intro H locs ls hP hD hS hl
  exact lv_lstore hx hb hdg hl (by rw [hn0]; exact hn) rfl (fun ls2 hl3 => k H locs ls2 hP hD hS (lv_sub hl3 is hl2))
theorem g_dstore_n (F : gF E X cc own Ts ret rm n0) {k : Fin 4} {i : Nat} {x : UInt64} (hdg : decode cc pc = .ok (.dstore_n k, 1)) (hi : (k : Nat) = i) (hn : i + 1 < n0) (is : List Nat) (hl2 : lv_pick ((i, .double x) :: L.filter (fun q => !(q.1 == i) && (!(q.1 == i + 1) && !(q.1 + 1 == i && q.2.category == 2)))) is = L') (k : G E X cells slots (pc + 1) L' st ws) : G E X cells slots pc L (.double x :: st) ws := by
  obtain ⟨p, e, R, s, m, args, below, meth, c, Q, A, nL⟩ := X
  obtain ⟨⟨hx, hb, hml, hown, hts⟩, hr, hlk, hK, hA, hR, hn0, hT⟩ := F
  intro H locs ls hP hD hS hl
  exact lv_dstore_n hx hb hdg hi hl (by rw [hn0]; exact hn) rfl (fun ls2 hl3 => k H locs ls2 hP hD hS (lv_sub hl3 is hl2))
theorem g_dstore (F : gF E X cc own Ts ret rm n0) {i : Nat} {x : UInt64} (hdg : decode cc pc = .ok (.dstore i, 2)) (hn : i + 1 < n0) (is : List Nat) (hl2 : lv_pick ((i, .double x) :: L.filter (fun q => !(q.1 == i) && (!(q.1 == i + 1) && !(q.1 + 1 == i && q.2.category == 2)))) is = L') (k : G E X cells slots (pc + 2) L' st ws) : G E X cells slots pc L (.double x :: st) ws := by
  obtain ⟨p, e, R, s, m, args, below, meth, c, Q, A, nL⟩ := X
  obtain ⟨⟨hx, hb, hml, hown, hts⟩, hr, hlk, hK, hA, hR, hn0, hT⟩ := F
  intro H locs ls hP hD hS hl
  exact lv_dstore hx hb hdg hl (by rw [hn0]; exact hn) rfl (fun ls2 hl3 => k H locs ls2 hP hD hS (lv_sub hl3 is hl2))
theorem g_iinc (F : gF E X cc own Ts ret rm n0) {i : Nat} {n : Int} {x v : Int32} (hdg : decode cc pc = .ok (.iinc i n, 3)) (j : Nat) (hj : L[j]? = some (i, .int x)) (hv : x + Int32.ofInt n = v) (hn : i < n0) (is : List Nat) (hl2 : lv_pick ((i, .int v) :: L.filter (fun q => !(q.1 == i) && !(q.1 + 1 == i && q.2.category == 2))) is = L') (k : G E X cells slots (pc + 3) L' st ws) : G E X cells slots pc L st ws := by
  obtain ⟨p, e, R, s, m, args, below, meth, c, Q, A, nL⟩ := X
  obtain ⟨⟨hx, hb, hml, hown, hts⟩, hr, hlk, hK, hA, hR, hn0, hT⟩ := F
  intro H locs ls hP hD hS hl
  exact lv_iinc hx hb hdg hl hj hv (by rw [hn0]; exact hn) rfl (fun ls2 hl3 => k H locs ls2 hP hD hS (lv_sub hl3 is hl2))
theorem g_iadd (F : gF E X cc own Ts ret rm n0) {x y : Int32} (hdg : decode cc pc = .ok (.iadd, 1))  (k : G E X cells slots (pc + 1) L (.int (x + y) :: st) ws) : G E X cells slots pc L (.int y :: .int x :: st) ws := by
  obtain ⟨p, e, R, s, m, args, below, meth, c, Q, A, nL⟩ := X
  obtain ⟨⟨hx, hb, hml, hown, hts⟩, hr, hlk, hK, hA, hR, hn0, hT⟩ := F
  intro H locs ls hP hD hS hl
  exact lv_iadd hx hb hdg (k H locs ls hP hD hS hl)
theorem g_isub (F : gF E X cc own Ts ret rm n0) {x y : Int32} (hdg : decode cc pc = .ok (.isub, 1))  (k : G E X cells slots (pc + 1) L (.int (x - y) :: st) ws) : G E X cells slots pc L (.int y :: .int x :: st) ws := by
  obtain ⟨p, e, R, s, m, args, below, meth, c, Q, A, nL⟩ := X
  obtain ⟨⟨hx, hb, hml, hown, hts⟩, hr, hlk, hK, hA, hR, hn0, hT⟩ := F
  intro H locs ls hP hD hS hl
  exact lv_isub hx hb hdg (k H locs ls hP hD hS hl)
theorem g_imul (F : gF E X cc own Ts ret rm n0) {x y : Int32} (hdg : decode cc pc = .ok (.imul, 1))  (k : G E X cells slots (pc + 1) L (.int (x * y) :: st) ws) : G E X cells slots pc L (.int y :: .int x :: st) ws := by
  obtain ⟨p, e, R, s, m, args, below, meth, c, Q, A, nL⟩ := X
  obtain ⟨⟨hx, hb, hml, hown, hts⟩, hr, hlk, hK, hA, hR, hn0, hT⟩ := F
  intro H locs ls hP hD hS hl
  exact lv_imul hx hb hdg (k H locs ls hP hD hS hl)
theorem g_iand (F : gF E X cc own Ts ret rm n0) {x y : Int32} (hdg : decode cc pc = .ok (.iand, 1))  (k : G E X cells slots (pc + 1) L (.int (x &&& y) :: st) ws) : G E X cells slots pc L (.int y :: .int x :: st) ws := by
  obtain ⟨p, e, R, s, m, args, below, meth, c, Q, A, nL⟩ := X
  obtain ⟨⟨hx, hb, hml, hown, hts⟩, hr, hlk, hK, hA, hR, hn0, hT⟩ := F
  intro H locs ls hP hD hS hl
  exact lv_iand hx hb hdg (k H locs ls hP hD hS hl)
theorem g_ladd (F : gF E X cc own Ts ret rm n0) {x y : Int64} (hdg : decode cc pc = .ok (.ladd, 1))  (k : G E X cells slots (pc + 1) L (.long (x + y) :: st) ws) : G E X cells slots pc L (.long y :: .long x :: st) ws := by
  obtain ⟨p, e, R, s, m, args, below, meth, c, Q, A, nL⟩ := X
  obtain ⟨⟨hx, hb, hml, hown, hts⟩, hr, hlk, hK, hA, hR, hn0, hT⟩ := F
  intro H locs ls hP hD hS hl
  exact lv_ladd hx hb hdg (k H locs ls hP hD hS hl)
theorem g_lmul (F : gF E X cc own Ts ret rm n0) {x y : Int64} (hdg : decode cc pc = .ok (.lmul, 1))  (k : G E X cells slots (pc + 1) L (.long (x * y) :: st) ws) : G E X cells slots pc L (.long y :: .long x :: st) ws := by
  obtain ⟨p, e, R, s, m, args, below, meth, c, Q, A, nL⟩ := X
  obtain ⟨⟨hx, hb, hml, hown, hts⟩, hr, hlk, hK, hA, hR, hn0, hT⟩ := F
  intro H locs ls hP hD hS hl
  exact lv_lmul hx hb hdg (k H locs ls hP hD hS hl)
theorem g_lsub (F : gF E X cc own Ts ret rm n0) {x y : Int64} (hdg : decode cc pc = .ok (.lsub, 1))  (k : G E X cells slots (pc + 1) L (.long (x - y) :: st) ws) : G E X cells slots pc L (.long y :: .long x :: st) ws := by
  obtain ⟨p, e, R, s, m, args, below, meth, c, Q, A, nL⟩ := X
  obtain ⟨⟨hx, hb, hml, hown, hts⟩, hr, hlk, hK, hA, hR, hn0, hT⟩ := F
  intro H locs ls hP hD hS hl
  exact lv_lsub hx hb hdg (k H locs ls hP hD hS hl)
theorem g_idiv (F : gF E X cc own Ts ret rm n0) {x y : Int32} (hdg : decode cc pc = .ok (.idiv, 1)) (hne : ¬ y = 0) (k : G E X cells slots (pc + 1) L (.int (x / y) :: st) ws) : G E X cells slots pc L (.int y :: .int x :: st) ws := by
  obtain ⟨p, e, R, s, m, args, below, meth, c, Q, A, nL⟩ := X
  obtain ⟨⟨hx, hb, hml, hown, hts⟩, hr, hlk, hK, hA, hR, hn0, hT⟩ := F
  intro H locs ls hP hD hS hl
  exact lv_idiv hx hb hdg hne (k H locs ls hP hD hS hl)
theorem g_irem (F : gF E X cc own Ts ret rm n0) {x y v : Int32} (hdg : decode cc pc = .ok (.irem, 1)) (hne : ¬ y = 0) (hv : v = x - x / y * y) (k : G E X cells slots (pc + 1) L (.int v :: st) ws) : G E X cells slots pc L (.int y :: .int x :: st) ws := by
  subst hv
  obtain ⟨p, e, R, s, m, args, below, meth, c, Q, A, nL⟩ := X
  obtain ⟨⟨hx, hb, hml, hown, hts⟩, hr, hlk, hK, hA, hR, hn0, hT⟩ := F
  intro H locs ls hP hD hS hl
  exact lv_irem hx hb hdg hne (k H locs ls hP hD hS hl)
theorem g_ineg (F : gF E X cc own Ts ret rm n0) {x : Int32} (hdg : decode cc pc = .ok (.ineg, 1))  (k : G E X cells slots (pc + 1) L (.int (-x) :: st) ws) : G E X cells slots pc L (.int x :: st) ws := by
  obtain ⟨p, e, R, s, m, args, below, meth, c, Q, A, nL⟩ := X
  obtain ⟨⟨hx, hb, hml, hown, hts⟩, hr, hlk, hK, hA, hR, hn0, hT⟩ := F
  intro H locs ls hP hD hS hl
  exact lv_ineg hx hb hdg (k H locs ls hP hD hS hl)
theorem g_i2l (F : gF E X cc own Ts ret rm n0) {x : Int32} {v : Int64} (hdg : decode cc pc = .ok (.i2l, 1)) (hv : x.toInt64 = v) (k : G E X cells slots (pc + 1) L (.long v :: st) ws) : G E X cells slots pc L (.int x :: st) ws := by
  obtain ⟨p, e, R, s, m, args, below, meth, c, Q, A, nL⟩ := X
  obtain ⟨⟨hx, hb, hml, hown, hts⟩, hr, hlk, hK, hA, hR, hn0, hT⟩ := F
  intro H locs ls hP hD hS hl
  exact lv_i2l hx hb hdg hv (k H locs ls hP hD hS hl)
theorem g_i2d (F : gF E X cc own Ts ret rm n0) {x : Int32} (hdg : decode cc pc = .ok (.i2d, 1))  (k : G E X cells slots (pc + 1) L (.double (FP.i2d x) :: st) ws) : G E X cells slots pc L (.int x :: st) ws := by
  obtain ⟨p, e, R, s, m, args, below, meth, c, Q, A, nL⟩ := X
  obtain ⟨⟨hx, hb, hml, hown, hts⟩, hr, hlk, hK, hA, hR, hn0, hT⟩ := F
  intro H locs ls hP hD hS hl
  exact lv_i2d hx hb hdg (k H locs ls hP hD hS hl)
theorem g_lcmp (F : gF E X cc own Ts ret rm n0) {x y : Int64} (hdg : decode cc pc = .ok (.lcmp, 1))  (k : G E X cells slots (pc + 1) L (.int (lg_cmp x y) :: st) ws) : G E X cells slots pc L (.long y :: .long x :: st) ws := by
  obtain ⟨p, e, R, s, m, args, below, meth, c, Q, A, nL⟩ := X
  obtain ⟨⟨hx, hb, hml, hown, hts⟩, hr, hlk, hK, hA, hR, hn0, hT⟩ := F
  intro H locs ls hP hD hS hl
  exact W.lcmp hx hb hdg (k H locs ls hP hD hS hl)
theorem g_dup (F : gF E X cc own Ts ret rm n0) {va : Value} (hdg : decode cc pc = .ok (.dup, 1)) (hva : va.category = 1) (k : G E X cells slots (pc + 1) L (va :: va :: st) ws) : G E X cells slots pc L (va :: st) ws := by
  obtain ⟨p, e, R, s, m, args, below, meth, c, Q, A, nL⟩ := X
  obtain ⟨⟨hx, hb, hml, hown, hts⟩, hr, hlk, hK, hA, hR, hn0, hT⟩ := F
  intro H locs ls hP hD hS hl
  exact lv_dup hx hb hdg hva (k H locs ls hP hD hS hl)
theorem g_dup2 (F : gF E X cc own Ts ret rm n0) {va vb : Value} (hdg : decode cc pc = .ok (.dup2, 1)) (hva : va.category = 1) (hvb : vb.category = 1) (k : G E X cells slots (pc + 1) L (va :: vb :: va :: vb :: st) ws) : G E X cells slots pc L (va :: vb :: st) ws := by
  obtain ⟨p, e, R, s, m, args, below, meth, c, Q, A, nL⟩ := X
  obtain ⟨⟨hx, hb, hml, hown, hts⟩, hr, hlk, hK, hA, hR, hn0, hT⟩ := F
  intro H locs ls hP hD hS hl
  exact lv_dup2_11 hx hb hdg hva hvb (k H locs ls hP hD hS hl)
theorem g_if_eq (F : gF E X cc own Ts ret rm n0) {x : Int32} {off : Int} {tgt : Nat} (hdg : decode cc pc = .ok (.ifCond .eq off, 3)) (ht : (pc : Int) + off = (tgt : Int)) (kt : x = 0 → G E X cells slots tgt L st ws) (kf : ¬ (x = 0) → G E X cells slots (pc + 3) L st ws) : G E X cells slots pc L (.int x :: st) ws := by
  obtain ⟨p, e, R, s, m, args, below, meth, c, Q, A, nL⟩ := X
  obtain ⟨⟨hx, hb, hml, hown, hts⟩, hr, hlk, hK, hA, hR, hn0, hT⟩ := F
  intro H locs ls hP hD hS hl
  exact lv_if_eq hx hb hdg ht (fun h => kt (by first | exact h | simpa using h) H locs ls hP hD hS hl) (fun h => kf (by first | exact h | simpa using h) H locs ls hP hD hS hl)
theorem g_if_eq_t (F : gF E X cc own Ts ret rm n0) {x : Int32} {off : Int} {tgt : Nat} (hdg : decode cc pc = .ok (.ifCond .eq off, 3)) (ht : (pc : Int) + off = (tgt : Int)) (h : x = 0) (kt : G E X cells slots tgt L st ws) : G E X cells slots pc L (.int x :: st) ws := g_if_eq F hdg ht (fun _ => kt) (fun q => absurd h q)
theorem g_if_eq_f (F : gF E X cc own Ts ret rm n0) {x : Int32} {off : Int} {tgt : Nat} (hdg : decode cc pc = .ok (.ifCond .eq off, 3)) (ht : (pc : Int) + off = (tgt : Int)) (h : ¬ (x = 0)) (kf : G E X cells slots (pc + 3) L st ws) : G E X cells slots pc L (.int x :: st) ws := g_if_eq F hdg ht (fun q => absurd q h) (fun _ => kf)
theorem g_icmp_eq (F : gF E X cc own Ts ret rm n0) {x y : Int32} {off : Int} {tgt : Nat} (hdg : decode cc pc = .ok (.if_icmp .eq off, 3)) (ht : (pc : Int) + off = (tgt : Int)) (kt : x = y → G E X cells slots tgt L st ws) (kf : ¬ (x = y) → G E X cells slots (pc + 3) L st ws) : G E X cells slots pc L (.int y :: .int x :: st) ws := by
  obtain ⟨p, e, R, s, m, args, below, meth, c, Q, A, nL⟩ := X
  obtain ⟨⟨hx, hb, hml, hown, hts⟩, hr, hlk, hK, hA, hR, hn0, hT⟩ := F
  intro H locs ls hP hD hS hl
  exact lv_icmp_eq hx hb hdg ht (fun h => kt (by first | exact h | simpa using h) H locs ls hP hD hS hl) (fun h => kf (by first | exact h | simpa using h) H locs ls hP hD hS hl)
theorem g_icmp_eq_t (F : gF E X cc own Ts ret rm n0) {x y : Int32} {off : Int} {tgt : Nat} (hdg : decode cc pc = .ok (.if_icmp .eq off, 3)) (ht : (pc : Int) + off = (tgt : Int)) (h : x = y) (kt : G E X cells slots tgt L st ws) : G E X cells slots pc L (.int y :: .int x :: st) ws := g_icmp_eq F hdg ht (fun _ => kt) (fun q => absurd h q)
theorem g_icmp_eq_f (F : gF E X cc own Ts ret rm n0) {x y : Int32} {off : Int} {tgt : Nat} (hdg : decode cc pc = .ok (.if_icmp .eq off, 3)) (ht : (pc : Int) + off = (tgt : Int)) (h : ¬ (x = y)) (kf : G E X cells slots (pc + 3) L st ws) : G E X cells slots pc L (.int y :: .int x :: st) ws := g_icmp_eq F hdg ht (fun q => absurd q h) (fun _ => kf)
theorem g_if_ne (F : gF E X cc own Ts ret rm n0) {x : Int32} {off : Int} {tgt : Nat} (hdg : decode cc pc = .ok (.ifCond .ne off, 3)) (ht : (pc : Int) + off = (tgt : Int)) (kt : ¬ x = 0 → G E X cells slots tgt L st ws) (kf : ¬ (¬ x = 0) → G E X cells slots (pc + 3) L st ws) : G E X cells slots pc L (.int x :: st) ws := by
  obtain ⟨p, e, R, s, m, args, below, meth, c, Q, A, nL⟩ := X
  obtain ⟨⟨hx, hb, hml, hown, hts⟩, hr, hlk, hK, hA, hR, hn0, hT⟩ := F
  intro H locs ls hP hD hS hl
  exact lv_if_ne hx hb hdg ht (fun h => kt (by first | exact h | simpa using h) H locs ls hP hD hS hl) (fun h => kf (by first | exact h | simpa using h) H locs ls hP hD hS hl)
theorem g_if_ne_t (F : gF E X cc own Ts ret rm n0) {x : Int32} {off : Int} {tgt : Nat} (hdg : decode cc pc = .ok (.ifCond .ne off, 3)) (ht : (pc : Int) + off = (tgt : Int)) (h : ¬ x = 0) (kt : G E X cells slots tgt L st ws) : G E X cells slots pc L (.int x :: st) ws := g_if_ne F hdg ht (fun _ => kt) (fun q => absurd h q)
theorem g_if_ne_f (F : gF E X cc own Ts ret rm n0) {x : Int32} {off : Int} {tgt : Nat} (hdg : decode cc pc = .ok (.ifCond .ne off, 3)) (ht : (pc : Int) + off = (tgt : Int)) (h : ¬ (¬ x = 0)) (kf : G E X cells slots (pc + 3) L st ws) : G E X cells slots pc L (.int x :: st) ws := g_if_ne F hdg ht (fun q => absurd q h) (fun _ => kf)
theorem g_icmp_ne (F : gF E X cc own Ts ret rm n0) {x y : Int32} {off : Int} {tgt : Nat} (hdg : decode cc pc = .ok (.if_icmp .ne off, 3)) (ht : (pc : Int) + off = (tgt : Int)) (kt : ¬ x = y → G E X cells slots tgt L st ws) (kf : ¬ (¬ x = y) → G E X cells slots (pc + 3) L st ws) : G E X cells slots pc L (.int y :: .int x :: st) ws := by
  obtain ⟨p, e, R, s, m, args, below, meth, c, Q, A, nL⟩ := X
  obtain ⟨⟨hx, hb, hml, hown, hts⟩, hr, hlk, hK, hA, hR, hn0, hT⟩ := F
  intro H locs ls hP hD hS hl
  exact lv_icmp_ne hx hb hdg ht (fun h => kt (by first | exact h | simpa using h) H locs ls hP hD hS hl) (fun h => kf (by first | exact h | simpa using h) H locs ls hP hD hS hl)
theorem g_icmp_ne_t (F : gF E X cc own Ts ret rm n0) {x y : Int32} {off : Int} {tgt : Nat} (hdg : decode cc pc = .ok (.if_icmp .ne off, 3)) (ht : (pc : Int) + off = (tgt : Int)) (h : ¬ x = y) (kt : G E X cells slots tgt L st ws) : G E X cells slots pc L (.int y :: .int x :: st) ws := g_icmp_ne F hdg ht (fun _ => kt) (fun q => absurd h q)
theorem g_icmp_ne_f (F : gF E X cc own Ts ret rm n0) {x y : Int32} {off : Int} {tgt : Nat} (hdg : decode cc pc = .ok (.if_icmp .ne off, 3)) (ht : (pc : Int) + off = (tgt : Int)) (h : ¬ (¬ x = y)) (kf : G E X cells slots (pc + 3) L st ws) : G E X cells slots pc L (.int y :: .int x :: st) ws := g_icmp_ne F hdg ht (fun q => absurd q h) (fun _ => kf)
theorem g_if_lt (F : gF E X cc own Ts ret rm n0) {x : Int32} {off : Int} {tgt : Nat} (hdg : decode cc pc = .ok (.ifCond .lt off, 3)) (ht : (pc : Int) + off = (tgt : Int)) (kt : x < 0 → G E X cells slots tgt L st ws) (kf : ¬ (x < 0) → G E X cells slots (pc + 3) L st ws) : G E X cells slots pc L (.int x :: st) ws := by
  obtain ⟨p, e, R, s, m, args, below, meth, c, Q, A, nL⟩ := X
  obtain ⟨⟨hx, hb, hml, hown, hts⟩, hr, hlk, hK, hA, hR, hn0, hT⟩ := F
  intro H locs ls hP hD hS hl
  exact lv_if_lt hx hb hdg ht (fun h => kt (by first | exact h | simpa using h) H locs ls hP hD hS hl) (fun h => kf (by first | exact h | simpa using h) H locs ls hP hD hS hl)
theorem g_if_lt_t (F : gF E X cc own Ts ret rm n0) {x : Int32} {off : Int} {tgt : Nat} (hdg : decode cc pc = .ok (.ifCond .lt off, 3)) (ht : (pc : Int) + off = (tgt : Int)) (h : x < 0) (kt : G E X cells slots tgt L st ws) : G E X cells slots pc L (.int x :: st) ws := g_if_lt F hdg ht (fun _ => kt) (fun q => absurd h q)
theorem g_if_lt_f (F : gF E X cc own Ts ret rm n0) {x : Int32} {off : Int} {tgt : Nat} (hdg : decode cc pc = .ok (.ifCond .lt off, 3)) (ht : (pc : Int) + off = (tgt : Int)) (h : ¬ (x < 0)) (kf : G E X cells slots (pc + 3) L st ws) : G E X cells slots pc L (.int x :: st) ws := g_if_lt F hdg ht (fun q => absurd q h) (fun _ => kf)
theorem g_icmp_lt (F : gF E X cc own Ts ret rm n0) {x y : Int32} {off : Int} {tgt : Nat} (hdg : decode cc pc = .ok (.if_icmp .lt off, 3)) (ht : (pc : Int) + off = (tgt : Int)) (kt : x < y → G E X cells slots tgt L st ws) (kf : ¬ (x < y) → G E X cells slots (pc + 3) L st ws) : G E X cells slots pc L (.int y :: .int x :: st) ws := by
  obtain ⟨p, e, R, s, m, args, below, meth, c, Q, A, nL⟩ := X
  obtain ⟨⟨hx, hb, hml, hown, hts⟩, hr, hlk, hK, hA, hR, hn0, hT⟩ := F
  intro H locs ls hP hD hS hl
  exact lv_icmp_lt hx hb hdg ht (fun h => kt (by first | exact h | simpa using h) H locs ls hP hD hS hl) (fun h => kf (by first | exact h | simpa using h) H locs ls hP hD hS hl)
theorem g_icmp_lt_t (F : gF E X cc own Ts ret rm n0) {x y : Int32} {off : Int} {tgt : Nat} (hdg : decode cc pc = .ok (.if_icmp .lt off, 3)) (ht : (pc : Int) + off = (tgt : Int)) (h : x < y) (kt : G E X cells slots tgt L st ws) : G E X cells slots pc L (.int y :: .int x :: st) ws := g_icmp_lt F hdg ht (fun _ => kt) (fun q => absurd h q)
theorem g_icmp_lt_f (F : gF E X cc own Ts ret rm n0) {x y : Int32} {off : Int} {tgt : Nat} (hdg : decode cc pc = .ok (.if_icmp .lt off, 3)) (ht : (pc : Int) + off = (tgt : Int)) (h : ¬ (x < y)) (kf : G E X cells slots (pc + 3) L st ws) : G E X cells slots pc L (.int y :: .int x :: st) ws := g_icmp_lt F hdg ht (fun q => absurd q h) (fun _ => kf)
theorem g_if_ge (F : gF E X cc own Ts ret rm n0) {x : Int32} {off : Int} {tgt : Nat} (hdg : decode cc pc = .ok (.ifCond .ge off, 3)) (ht : (pc : Int) + off = (tgt : Int)) (kt : 0 ≤ x → G E X cells slots tgt L st ws) (kf : ¬ (0 ≤ x) → G E X cells slots (pc + 3) L st ws) : G E X cells slots pc L (.int x :: st) ws := by
  obtain ⟨p, e, R, s, m, args, below, meth, c, Q, A, nL⟩ := X
  obtain ⟨⟨hx, hb, hml, hown, hts⟩, hr, hlk, hK, hA, hR, hn0, hT⟩ := F
  intro H locs ls hP hD hS hl
  exact lv_if_ge hx hb hdg ht (fun h => kt (by first | exact h | simpa using h) H locs ls hP hD hS hl) (fun h => kf (by first | exact h | simpa using h) H locs ls hP hD hS hl)
theorem g_if_ge_t (F : gF E X cc own Ts ret rm n0) {x : Int32} {off : Int} {tgt : Nat} (hdg : decode cc pc = .ok (.ifCond .ge off, 3)) (ht : (pc : Int) + off = (tgt : Int)) (h : 0 ≤ x) (kt : G E X cells slots tgt L st ws) : G E X cells slots pc L (.int x :: st) ws := g_if_ge F hdg ht (fun _ => kt) (fun q => absurd h q)
theorem g_if_ge_f (F : gF E X cc own Ts ret rm n0) {x : Int32} {off : Int} {tgt : Nat} (hdg : decode cc pc = .ok (.ifCond .ge off, 3)) (ht : (pc : Int) + off = (tgt : Int)) (h : ¬ (0 ≤ x)) (kf : G E X cells slots (pc + 3) L st ws) : G E X cells slots pc L (.int x :: st) ws := g_if_ge F hdg ht (fun q => absurd q h) (fun _ => kf)
theorem g_icmp_ge (F : gF E X cc own Ts ret rm n0) {x y : Int32} {off : Int} {tgt : Nat} (hdg : decode cc pc = .ok (.if_icmp .ge off, 3)) (ht : (pc : Int) + off = (tgt : Int)) (kt : y ≤ x → G E X cells slots tgt L st ws) (kf : ¬ (y ≤ x) → G E X cells slots (pc + 3) L st ws) : G E X cells slots pc L (.int y :: .int x :: st) ws := by
  obtain ⟨p, e, R, s, m, args, below, meth, c, Q, A, nL⟩ := X
  obtain ⟨⟨hx, hb, hml, hown, hts⟩, hr, hlk, hK, hA, hR, hn0, hT⟩ := F
  intro H locs ls hP hD hS hl
  exact lv_icmp_ge hx hb hdg ht (fun h => kt (by first | exact h | simpa using h) H locs ls hP hD hS hl) (fun h => kf (by first | exact h | simpa using h) H locs ls hP hD hS hl)
theorem g_icmp_ge_t (F : gF E X cc own Ts ret rm n0) {x y : Int32} {off : Int} {tgt : Nat} (hdg : decode cc pc = .ok (.if_icmp .ge off, 3)) (ht : (pc : Int) + off = (tgt : Int)) (h : y ≤ x) (kt : G E X cells slots tgt L st ws) : G E X cells slots pc L (.int y :: .int x :: st) ws := g_icmp_ge F hdg ht (fun _ => kt) (fun q => absurd h q)
theorem g_icmp_ge_f (F : gF E X cc own Ts ret rm n0) {x y : Int32} {off : Int} {tgt : Nat} (hdg : decode cc pc = .ok (.if_icmp .ge off, 3)) (ht : (pc : Int) + off = (tgt : Int)) (h : ¬ (y ≤ x)) (kf : G E X cells slots (pc + 3) L st ws) : G E X cells slots pc L (.int y :: .int x :: st) ws := g_icmp_ge F hdg ht (fun q => absurd q h) (fun _ => kf)
theorem g_if_gt (F : gF E X cc own Ts ret rm n0) {x : Int32} {off : Int} {tgt : Nat} (hdg : decode cc pc = .ok (.ifCond .gt off, 3)) (ht : (pc : Int) + off = (tgt : Int)) (kt : 0 < x → G E X cells slots tgt L st ws) (kf : ¬ (0 < x) → G E X cells slots (pc + 3) L st ws) : G E X cells slots pc L (.int x :: st) ws := by
  obtain ⟨p, e, R, s, m, args, below, meth, c, Q, A, nL⟩ := X
  obtain ⟨⟨hx, hb, hml, hown, hts⟩, hr, hlk, hK, hA, hR, hn0, hT⟩ := F
  intro H locs ls hP hD hS hl
  exact lv_if_gt hx hb hdg ht (fun h => kt (by first | exact h | simpa using h) H locs ls hP hD hS hl) (fun h => kf (by first | exact h | simpa using h) H locs ls hP hD hS hl)
theorem g_if_gt_t (F : gF E X cc own Ts ret rm n0) {x : Int32} {off : Int} {tgt : Nat} (hdg : decode cc pc = .ok (.ifCond .gt off, 3)) (ht : (pc : Int) + off = (tgt : Int)) (h : 0 < x) (kt : G E X cells slots tgt L st ws) : G E X cells slots pc L (.int x :: st) ws := g_if_gt F hdg ht (fun _ => kt) (fun q => absurd h q)
theorem g_if_gt_f (F : gF E X cc own Ts ret rm n0) {x : Int32} {off : Int} {tgt : Nat} (hdg : decode cc pc = .ok (.ifCond .gt off, 3)) (ht : (pc : Int) + off = (tgt : Int)) (h : ¬ (0 < x)) (kf : G E X cells slots (pc + 3) L st ws) : G E X cells slots pc L (.int x :: st) ws := g_if_gt F hdg ht (fun q => absurd q h) (fun _ => kf)
theorem g_icmp_gt (F : gF E X cc own Ts ret rm n0) {x y : Int32} {off : Int} {tgt : Nat} (hdg : decode cc pc = .ok (.if_icmp .gt off, 3)) (ht : (pc : Int) + off = (tgt : Int)) (kt : y < x → G E X cells slots tgt L st ws) (kf : ¬ (y < x) → G E X cells slots (pc + 3) L st ws) : G E X cells slots pc L (.int y :: .int x :: st) ws := by
  obtain ⟨p, e, R, s, m, args, below, meth, c, Q, A, nL⟩ := X
  obtain ⟨⟨hx, hb, hml, hown, hts⟩, hr, hlk, hK, hA, hR, hn0, hT⟩ := F
  intro H locs ls hP hD hS hl
  exact lv_icmp_gt hx hb hdg ht (fun h => kt (by first | exact h | simpa using h) H locs ls hP hD hS hl) (fun h => kf (by first | exact h | simpa using h) H locs ls hP hD hS hl)
theorem g_icmp_gt_t (F : gF E X cc own Ts ret rm n0) {x y : Int32} {off : Int} {tgt : Nat} (hdg : decode cc pc = .ok (.if_icmp .gt off, 3)) (ht : (pc : Int) + off = (tgt : Int)) (h : y < x) (kt : G E X cells slots tgt L st ws) : G E X cells slots pc L (.int y :: .int x :: st) ws := g_icmp_gt F hdg ht (fun _ => kt) (fun q => absurd h q)
theorem g_icmp_gt_f (F : gF E X cc own Ts ret rm n0) {x y : Int32} {off : Int} {tgt : Nat} (hdg : decode cc pc = .ok (.if_icmp .gt off, 3)) (ht : (pc : Int) + off = (tgt : Int)) (h : ¬ (y < x)) (kf : G E X cells slots (pc + 3) L st ws) : G E X cells slots pc L (.int y :: .int x :: st) ws := g_icmp_gt F hdg ht (fun q => absurd q h) (fun _ => kf)
theorem g_if_le (F : gF E X cc own Ts ret rm n0) {x : Int32} {off : Int} {tgt : Nat} (hdg : decode cc pc = .ok (.ifCond .le off, 3)) (ht : (pc : Int) + off = (tgt : Int)) (kt : x ≤ 0 → G E X cells slots tgt L st ws) (kf : ¬ (x ≤ 0) → G E X cells slots (pc + 3) L st ws) : G E X cells slots pc L (.int x :: st) ws := by
  obtain ⟨p, e, R, s, m, args, below, meth, c, Q, A, nL⟩ := X
  obtain ⟨⟨hx, hb, hml, hown, hts⟩, hr, hlk, hK, hA, hR, hn0, hT⟩ := F
  intro H locs ls hP hD hS hl
  exact lv_if_le hx hb hdg ht (fun h => kt (by first | exact h | simpa using h) H locs ls hP hD hS hl) (fun h => kf (by first | exact h | simpa using h) H locs ls hP hD hS hl)
theorem g_if_le_t (F : gF E X cc own Ts ret rm n0) {x : Int32} {off : Int} {tgt : Nat} (hdg : decode cc pc = .ok (.ifCond .le off, 3)) (ht : (pc : Int) + off = (tgt : Int)) (h : x ≤ 0) (kt : G E X cells slots tgt L st ws) : G E X cells slots pc L (.int x :: st) ws := g_if_le F hdg ht (fun _ => kt) (fun q => absurd h q)
theorem g_if_le_f (F : gF E X cc own Ts ret rm n0) {x : Int32} {off : Int} {tgt : Nat} (hdg : decode cc pc = .ok (.ifCond .le off, 3)) (ht : (pc : Int) + off = (tgt : Int)) (h : ¬ (x ≤ 0)) (kf : G E X cells slots (pc + 3) L st ws) : G E X cells slots pc L (.int x :: st) ws := g_if_le F hdg ht (fun q => absurd q h) (fun _ => kf)
theorem g_icmp_le (F : gF E X cc own Ts ret rm n0) {x y : Int32} {off : Int} {tgt : Nat} (hdg : decode cc pc = .ok (.if_icmp .le off, 3)) (ht : (pc : Int) + off = (tgt : Int)) (kt : x ≤ y → G E X cells slots tgt L st ws) (kf : ¬ (x ≤ y) → G E X cells slots (pc + 3) L st ws) : G E X cells slots pc L (.int y :: .int x :: st) ws := by
  obtain ⟨p, e, R, s, m, args, below, meth, c, Q, A, nL⟩ := X
  obtain ⟨⟨hx, hb, hml, hown, hts⟩, hr, hlk, hK, hA, hR, hn0, hT⟩ := F
  intro H locs ls hP hD hS hl
  exact lv_icmp_le hx hb hdg ht (fun h => kt (by first | exact h | simpa using h) H locs ls hP hD hS hl) (fun h => kf (by first | exact h | simpa using h) H locs ls hP hD hS hl)
theorem g_icmp_le_t (F : gF E X cc own Ts ret rm n0) {x y : Int32} {off : Int} {tgt : Nat} (hdg : decode cc pc = .ok (.if_icmp .le off, 3)) (ht : (pc : Int) + off = (tgt : Int)) (h : x ≤ y) (kt : G E X cells slots tgt L st ws) : G E X cells slots pc L (.int y :: .int x :: st) ws := g_icmp_le F hdg ht (fun _ => kt) (fun q => absurd h q)
theorem g_icmp_le_f (F : gF E X cc own Ts ret rm n0) {x y : Int32} {off : Int} {tgt : Nat} (hdg : decode cc pc = .ok (.if_icmp .le off, 3)) (ht : (pc : Int) + off = (tgt : Int)) (h : ¬ (x ≤ y)) (kf : G E X cells slots (pc + 3) L st ws) : G E X cells slots pc L (.int y :: .int x :: st) ws := g_icmp_le F hdg ht (fun q => absurd q h) (fun _ => kf)
theorem g_goto (F : gF E X cc own Ts ret rm n0) {off : Int} {tgt : Nat} (hdg : decode cc pc = .ok (.goto off, 3)) (ht : (pc : Int) + off = (tgt : Int)) (k : G E X cells slots tgt L st ws) : G E X cells slots pc L st ws := by
  obtain ⟨p, e, R, s, m, args, below, meth, c, Q, A, nL⟩ := X
  obtain ⟨⟨hx, hb, hml, hown, hts⟩, hr, hlk, hK, hA, hR, hn0, hT⟩ := F
  intro H locs ls hP hD hS hl
  exact lv_goto hx hb hdg ht (k H locs ls hP hD hS hl)
theorem gsub {big l : List Cond} (is : List Nat) (h : is.map (fun i => big[i]?) = l.map some) : ∀ w ∈ l, w ∈ big := by
  intro w hw
  have h1 : some w ∈ is.map (fun i => big[i]?) := by rw [h]; exact List.mem_map_of_mem hw
  obtain ⟨i, -, hi⟩ := List.mem_map.mp h1
  exact List.mem_of_getElem? hi
theorem g_get (F : gF E X cc own Ts ret rm n0) {a : Nat} {C : String} {T : u_T} {N ci index : Nat} {fs : List Value} {v : Value} (hdg : decode cc pc = .ok (.getfield index, 3)) (q0 : Nat) (he : ws[q0]? = some (a, .inr (ci, fs))) (hc : vwCl[ci]? = some (C, T, N)) (hin : ∀ w ∈ u_ws C T N, w ∈ Ts) (k : Nat) (hk : k < N) (hv : fs[k]? = some v) (hlink : Cond.fieldLink own index (T k).1 (T k).2.1 (T k).2.2.1 ∈ Ts) (kk : G E X cells slots (pc + 3) L (v :: st) ws) : G E X cells slots pc L (.ref a :: st) ws := by
  obtain ⟨p, e, R, s, m, args, below, meth, c, Q, A, nL⟩ := X
  obtain ⟨⟨hx, hb, hml, hown, hts⟩, hr, hlk, hK, hA, hR, hn0, hT⟩ := F
  intro H locs ls hP hD hS hl
  exact va_get hx hb hts hin hown hK.1 hP q0 he hc k hk (hts _ hlink) (fun _ h9 => h9) hv hdg (kk H locs ls hP hD hS hl)
theorem g_put (F : gF E X cc own Ts ret rm n0) {a : Nat} {C : String} {T : u_T} {N ci index : Nat} {fs : List Value} {v : Value} (hdg : decode cc pc = .ok (.putfield index, 3)) (q0 : Nat) (he : ws[q0]? = some (a, .inr (ci, fs))) (hc : vwCl[ci]? = some (C, T, N)) (hin : ∀ w ∈ u_ws C T N, w ∈ Ts) (ty0 : Nat → FieldType) (hty : ∀ k, k < N → parseFieldDescriptor (T k).2.2.1 = some (ty0 k)) (hnm : ∀ a, a < N → ∀ b, b < N → a ≠ b → (T a).2.1 ≠ (T b).2.1) (k : Nat) (hk : k < N) (hfin : (T k).2.2.2 = false) (hn : narrow (ty0 k) v = v) (hfit : fits (ty0 k) v = true) (hlen : k < fs.length) (hlink : Cond.fieldLink own index (T k).1 (T k).2.1 (T k).2.2.1 ∈ Ts) (hw : ws.set q0 (a, .inr (ci, fs.set k v)) = ws') (kk : G E X cells slots (pc + 3) L st ws') : G E X cells slots pc L (v :: .ref a :: st) ws := by
  subst hw
  obtain ⟨p, e, R, s, m, args, below, meth, c, Q, A, nL⟩ := X
  obtain ⟨⟨hx, hb, hml, hown, hts⟩, hr, hlk, hK, hA, hR, hn0, hT⟩ := F
  intro H locs ls hP hD hS hl
  exact va_put hx hb hts hin ty0 hty hnm hown hK.1 hP hD hS q0 he hc k hk (hts _ hlink) (fun _ h9 => h9) hfin (hty k hk) hn hfit hlen hdg (fun H1 locs1 hP1 hD1 hS1 => kk H1 locs1 ls hP1 hD1 hS1 hl)
theorem g_iald (F : gF E X cc own Ts ret rm n0) {a n : Nat} {f : Nat → Int32} {i : Int32} (hdg : decode cc pc = .ok (.iaload, 1)) (q0 : Nat) (ha : ws[q0]? = some (a, .inl (E.2.2, n, .inl f))) (hin : vp_in i n) (kk : G E X cells slots (pc + 1) L (.int (f i.toNatClampNeg) :: st) ws) : G E X cells slots pc L (.int i :: .ref a :: st) ws := by
  obtain ⟨p, e, R, s, m, args, below, meth, c, Q, A, nL⟩ := X
  obtain ⟨⟨hx, hb, hml, hown, hts⟩, hr, hlk, hK, hA, hR, hn0, hT⟩ := F
  intro H locs ls hP hD hS hl
  exact va_iald hx hb hK.1 hP q0 0 ha rfl hin hdg (kk H locs ls hP hD hS hl)
theorem g_iast (F : gF E X cc own Ts ret rm n0) {a n : Nat} {f : Nat → Int32} {i x : Int32} (hdg : decode cc pc = .ok (.iastore, 1)) (q0 : Nat) (ha : ws[q0]? = some (a, .inl (E.2.2, n, .inl f))) (hin : vp_in i n) (hw : ws.set q0 (a, .inl (E.2.2, n, .inl (upd f i.toNatClampNeg x))) = ws') (kk : G E X cells slots (pc + 1) L st ws') : G E X cells slots pc L (.int x :: .int i :: .ref a :: st) ws := by
  subst hw
  obtain ⟨p, e, R, s, m, args, below, meth, c, Q, A, nL⟩ := X
  obtain ⟨⟨hx, hb, hml, hown, hts⟩, hr, hlk, hK, hA, hR, hn0, hT⟩ := F
  intro H locs ls hP hD hS hl
  exact va_iast hx hb hK.1 hP hD hS q0 0 ha rfl hin hdg (fun H1 locs1 hP1 hD1 hS1 => kk H1 locs1 ls hP1 hD1 hS1 hl)
theorem g_alen (F : gF E X cc own Ts ret rm n0) {a n : Nat} {f : Nat → Int32} {v : Int32} (hdg : decode cc pc = .ok (.arraylength, 1)) (q0 : Nat) (ha : ws[q0]? = some (a, .inl (E.2.2, n, .inl f))) (hv : Int32.ofNat n = v) (kk : G E X cells slots (pc + 1) L (.int v :: st) ws) : G E X cells slots pc L (.ref a :: st) ws := by
  obtain ⟨p, e, R, s, m, args, below, meth, c, Q, A, nL⟩ := X
  obtain ⟨⟨hx, hb, hml, hown, hts⟩, hr, hlk, hK, hA, hR, hn0, hT⟩ := F
  intro H locs ls hP hD hS hl
  exact va_alen hx hb hK.1 hP q0 0 ha rfl hv hdg (kk H locs ls hP hD hS hl)
theorem g_max (F : gF E X cc own Ts ret rm n0) {index : Nat} {x y : Int32} (hdg : decode cc pc = .ok (.invokestatic index, 3)) (h1 : Cond.methodLink own index Lib.Math.max.name ∈ Ts) (h2 : Cond.static Lib.Math.max.name ∈ Ts) (h3 : Cond.initialized "java/lang/Math" ∈ Ts) (h4 : Cond.code Lib.Math.max.name Lib.Math.max.code 2 (some .int) ∈ Ts) (hf : 1 ≤ rm.frames) (hlo : (st.map fun v => v.category).sum + 13 ≤ rm.locals) (hc : cells ≤ rm.cells) (hs : slots ≤ rm.slots) (kk : G E X cells slots (pc + 3) L (.int (sMax x y) :: st) ws) : G E X cells slots pc L (.int y :: .int x :: st) ws := by
  obtain ⟨p, e, R, s, m, args, below, meth, c, Q, A, nL⟩ := X
  obtain ⟨⟨hx, hb, hml, hown, hts⟩, hr, hlk, hK, hA, hR, hn0, hT⟩ := F
  subst hR
  intro H locs ls hP hD hS hl
  exact va_mmax hx hb (hml.trans hl.1.symm) hown (hts _ h1) (hts _ h2) (hts _ h3) (hts _ h4) hf hlo hc hs hdg (kk H locs ls hP hD hS hl)
theorem g_min (F : gF E X cc own Ts ret rm n0) {index : Nat} {x y : Int32} (hdg : decode cc pc = .ok (.invokestatic index, 3)) (h1 : Cond.methodLink own index Lib.Math.min.name ∈ Ts) (h2 : Cond.static Lib.Math.min.name ∈ Ts) (h3 : Cond.initialized "java/lang/Math" ∈ Ts) (h4 : Cond.code Lib.Math.min.name Lib.Math.min.code 2 (some .int) ∈ Ts) (hf : 1 ≤ rm.frames) (hlo : (st.map fun v => v.category).sum + 13 ≤ rm.locals) (hc : cells ≤ rm.cells) (hs : slots ≤ rm.slots) (kk : G E X cells slots (pc + 3) L (.int (sMin x y) :: st) ws) : G E X cells slots pc L (.int y :: .int x :: st) ws := by
  obtain ⟨p, e, R, s, m, args, below, meth, c, Q, A, nL⟩ := X
  obtain ⟨⟨hx, hb, hml, hown, hts⟩, hr, hlk, hK, hA, hR, hn0, hT⟩ := F
  subst hR
  intro H locs ls hP hD hS hl
  exact va_mmin hx hb (hml.trans hl.1.symm) hown (hts _ h1) (hts _ h2) (hts _ h3) (hts _ h4) hf hlo hc hs hdg (kk H locs ls hP hD hS hl)
theorem g_abs (F : gF E X cc own Ts ret rm n0) {index : Nat} {x : Int32} (hdg : decode cc pc = .ok (.invokestatic index, 3)) (h1 : Cond.methodLink own index Lib.Math.abs.name ∈ Ts) (h2 : Cond.static Lib.Math.abs.name ∈ Ts) (h3 : Cond.initialized "java/lang/Math" ∈ Ts) (h4 : Cond.code Lib.Math.abs.name Lib.Math.abs.code 1 (some .int) ∈ Ts) (hf : 1 ≤ rm.frames) (hlo : (st.map fun v => v.category).sum + 13 ≤ rm.locals) (hc : cells ≤ rm.cells) (hs : slots ≤ rm.slots) (kk : G E X cells slots (pc + 3) L (.int (sAbs x) :: st) ws) : G E X cells slots pc L (.int x :: st) ws := by
  obtain ⟨p, e, R, s, m, args, below, meth, c, Q, A, nL⟩ := X
  obtain ⟨⟨hx, hb, hml, hown, hts⟩, hr, hlk, hK, hA, hR, hn0, hT⟩ := F
  subst hR
  intro H locs ls hP hD hS hl
  exact va_mabs hx hb (hml.trans hl.1.symm) hown (hts _ h1) (hts _ h2) (hts _ h3) (hts _ h4) hf hlo hc hs hdg (kk H locs ls hP hD hS hl)
theorem g_swIn (F : gF E X cc own Ts ret rm n0) {dflt lo hi : Int} {offs : Array Int} {len : Nat} {x : Int32} {off : Int} {tgt : Nat} (hdg : decode cc pc = .ok (.tableswitch dflt lo hi offs, len)) (h1 : ¬ x.toInt < lo) (h2 : ¬ hi < x.toInt) (ho : offs[(x.toInt - lo).toNat]? = some off) (ht : (pc : Int) + off = (tgt : Int)) (kk : G E X cells slots tgt L st ws) : G E X cells slots pc L (.int x :: st) ws := by
  obtain ⟨p, e, R, s, m, args, below, meth, c, Q, A, nL⟩ := X
  obtain ⟨⟨hx, hb, hml, hown, hts⟩, hr, hlk, hK, hA, hR, hn0, hT⟩ := F
  intro H locs ls hP hD hS hl
  exact lv_tableIn hx hb hdg h1 h2 ho ht (kk H locs ls hP hD hS hl)
theorem g_swOut (F : gF E X cc own Ts ret rm n0) {dflt lo hi : Int} {offs : Array Int} {len : Nat} {x : Int32} {tgt : Nat} (hdg : decode cc pc = .ok (.tableswitch dflt lo hi offs, len)) (h : x.toInt < lo ∨ hi < x.toInt) (ht : (pc : Int) + dflt = (tgt : Int)) (kk : G E X cells slots tgt L st ws) : G E X cells slots pc L (.int x :: st) ws := by
  obtain ⟨p, e, R, s, m, args, below, meth, c, Q, A, nL⟩ := X
  obtain ⟨⟨hx, hb, hml, hown, hts⟩, hr, hlk, hK, hA, hR, hn0, hT⟩ := F
  intro H locs ls hP hD hS hl
  exact lv_tableOut hx hb hdg h ht (kk H locs ls hP hD hS hl)
end ROWS
/-- cells put at places -/
def wput : va_W → List Nat → va_W → va_W
  | ws, i :: is, e :: es => wput (ws.set i e) is es
  | ws, [], _ => ws
  | ws, _ :: _, [] => ws
theorem wput_at : ∀ (is : List Nat) (ws es : va_W) (k : Nat) (q : Nat × va_E), va_nd is = true → (wput ws is es)[k]? = some q → (ws[k]? = some q ∧ (k ∉ is ∨ es.length < is.length)) ∨ ∃ j : Nat, is[j]? = some k ∧ es[j]? = some q
  | [], ws, es, k, q, _, h => Or.inl ⟨by cases es <;> exact h, Or.inl (List.not_mem_nil)⟩
  | i :: is, ws, [], k, q, _, h => Or.inl ⟨h, Or.inr (Nat.zero_lt_succ _)⟩
  | i :: is, ws, e :: es, k, q, hn, h => by
    simp only [va_nd, Bool.and_eq_true, decide_eq_true_eq] at hn
    rcases wput_at is (ws.set i e) es k q hn.2 h with ⟨h1, h2⟩ | ⟨j, h1, h2⟩
    · by_cases hk : k = i
      · subst hk
        by_cases hlt : k < ws.length
        · rw [List.getElem?_set_self hlt] at h1
          cases h1
          exact Or.inr ⟨0, rfl, rfl⟩
        · rw [List.getElem?_eq_none (by rw [List.length_set]; omega)] at h1
          cases h1
      · rw [List.getElem?_set_ne (Ne.symm hk)] at h1
        refine Or.inl ⟨h1, ?_⟩
        rcases h2 with h2 | h2
        · exact Or.inl (fun z => (List.mem_cons.mp z).elim hk h2)
        · exact Or.inr (Nat.succ_lt_succ h2)
    · exact Or.inr ⟨j + 1, h1, h2⟩
theorem wput_self : ∀ (is : List Nat) (ws W : va_W), is.map (fun i => ws[i]?) = W.map some → wput ws is W = ws
  | [], ws, W, _ => by cases W <;> rfl
  | i :: is, ws, [], h => rfl
  | i :: is, ws, e :: W, h => by
    simp only [List.map_cons, List.cons.injEq] at h
    have hs : ws.set i e = ws := by
      obtain ⟨hl, he⟩ := List.getElem?_eq_some_iff.mp h.1
      rw [← he]
      exact List.set_getElem_self hl
    show wput (ws.set i e) is W = ws
    rw [hs]
    exact wput_self is ws W h.2
theorem w_pick {ws W : va_W} {is : List Nat} (hC : is.map (fun i => ws[i]?) = W.map some) {j : Nat} {q : Nat × va_E} (h : W[j]? = some q) : ∃ i, is[j]? = some i ∧ ws[i]? = some q := by
  have h1 : (is.map (fun i => ws[i]?))[j]? = some (some q) := by rw [hC, List.getElem?_map, h]; rfl
  rw [List.getElem?_map] at h1
  cases hi : is[j]? with
  | none => rw [hi] at h1; cases h1
  | some i => rw [hi] at h1; exact ⟨i, rfl, Option.some.inj h1⟩
theorem w_fst {W W' : va_W} (ha : W'.map Prod.fst = W.map Prod.fst) {j : Nat} {q : Nat × va_E} (h : W'[j]? = some q) : ∃ q0, W[j]? = some q0 ∧ q0.1 = q.1 := by
  have h1 : (W'.map Prod.fst)[j]? = some q.1 := by rw [List.getElem?_map, h]; rfl
  rw [ha, List.getElem?_map] at h1
  cases hj : W[j]? with
  | none => rw [hj] at h1; cases h1
  | some q0 => rw [hj] at h1; exact ⟨q0, rfl, Option.some.inj h1⟩
theorem wput_ok {A : Nat → Prop} {D : va_G} {cl : List vw_C} {ws W W' : va_W} {H H1 : Heap} {is : List Nat} (hP : va_P D cl ws H) (hD : va_D A ws) (hn : va_nd is = true) (hC : is.map (fun i => ws[i]?) = W.map some) (ha : W'.map Prod.fst = W.map Prod.fst)
    (hk : ∀ q : Nat, q < H.size → ¬ va_A W H.size q → H1[q]? = H[q]?) (hP1 : va_P D cl W' H1) : va_P D cl (wput ws is W') H1 ∧ va_D A (wput ws is W') := by
  have hlen : W'.length = is.length := by
    have h1 := congrArg List.length ha
    have h2 := congrArg List.length hC
    simp only [List.length_map] at h1 h2
    omega
  refine ⟨fun k q hq => ?_, ?_⟩
  · rcases wput_at is ws W' k q hn hq with ⟨h1, h2⟩ | ⟨j, h1, h2⟩
    · have h2 : k ∉ is := h2.elim id (fun h => absurd h (by omega))
      have hlt := (hP k q h1).lt
      refine (hP k q h1).kept (hk q.1 hlt ?_)
      rintro (⟨j, e, hj⟩ | hge)
      · obtain ⟨i, hi, hw⟩ := w_pick hC hj
        have hki := hD.1 k i q (q.1, e) h1 hw rfl
        rw [hki] at h2
        exact h2 (List.mem_of_getElem? hi)
      · omega
    · exact hP1 j q h2
  · have key : ∀ (k : Nat) (q : Nat × va_E), (wput ws is W')[k]? = some q → ∃ q0, ws[k]? = some q0 ∧ q0.1 = q.1 := by
      intro k q hq
      rcases wput_at is ws W' k q hn hq with ⟨h1, -⟩ | ⟨j, h1, h2⟩
      · exact ⟨q, h1, rfl⟩
      · obtain ⟨q0, h3, h4⟩ := w_fst ha h2
        obtain ⟨i, h5, h6⟩ := w_pick hC h3
        rw [h1] at h5
        cases h5
        exact ⟨q0, h6, h4⟩
    refine ⟨fun i j x y hi hj hxy => ?_, fun k q hk => ?_⟩
    · obtain ⟨x0, h1, h2⟩ := key i x hi
      obtain ⟨y0, h3, h4⟩ := key j y hj
      exact hD.1 i j x0 y0 h1 h3 (h2.trans (hxy.trans h4.symm))
    · obtain ⟨q0, h1, h2⟩ := key k q hk
      rw [← h2]
      exact hD.2 k q0 h1
def gPre (E : gE) (sz : Nat) (av : List Value) (W : va_W) : Array Value → State → Prop := va_Pc av (fun U => U.heap.size = sz ∧ va_P E.2.1 vwCl W U.heap ∧ gK E U ∧ va_D (fun _ => True) W)
def gPost (E : gE) (ov : Option Value) (W' : va_W) (A : Nat → Prop) : Array Value → State → Outcome → State → Prop := fun _ st oc t => (oc = .returned ov ∧ va_P E.2.1 vwCl W' t.heap) ∧ va_F A st t
/-- what the body owes at its end -/
def gEnd (E : gE) (X : gX) (ov : Option Value) (W' : va_W) (mc ms : Nat) : Prop := match X with
  | (_, _, _, s, _, args, below, _, _, Q, A, _) => Q = MQ below (gPost E ov W' A) args s mc ms A
/-- A CONTRACT: called with av in the world W, y answers ov and leaves W' (the same places) -/
def Ct (E : gE) (y : MethodName) (wds : List Cond) (rm : Room) (av : List Value) (W : va_W) (ov : Option Value) (W' : va_W) : Prop :=
  W'.map Prod.fst = W.map Prod.fst ∧ ∀ sz, Met E.1 y wds rm (gPre E sz av W) (gPost E ov W' (va_A W sz)) rm.cells rm.slots (va_A W sz)
theorem gPre.blind {E : gE} {sz : Nat} {av : List Value} {W : va_W} : FrameBlind (gPre E sz av W) := fun _ _ _ _ ⟨q0, q1, q2, q3, q4⟩ => ⟨q0, q1, q2, gK.same rfl q3, q4⟩
theorem Ct.of {E : gE} {y : MethodName} {wds : List Cond} {rm : Room} {av : List Value} {W : va_W} {ov : Option Value} {W' : va_W} {cc : ByteArray} {maxL : Nat} {ret : Option FieldType} {wds' : List Cond} {own : String} {L : List (Nat × Value)} (hy : plainName y.cls = true) (hw : wds = .code y cc maxL ret :: wds') (ho : y.cls = own) (ha : W'.map Prod.fst = W.map Prod.fst) (hlen : (lg_sl av).length ≤ maxL) (hL : lv_args 0 av = L)
    (body : ∀ X : gX, gF E X cc own wds ret rm maxL → gEnd E X ov W' rm.cells rm.slots → G E X 0 0 0 L [] W) : Ct E y wds rm av W ov W' := by
  refine ⟨ha, fun sz => ?_⟩
  refine Met.ofW (cc := cc) (maxL := maxL) (ret := ret) hy hw ?_
  intro p e s m args below meth c s₁ B hml hv
  obtain ⟨rfl, rfl, hP, hK, hD0⟩ := hv
  have hg := body (p, e, rm, s, m, av.toArray, below, meth, c, MQ below (gPost E ov W' (va_A W s.heap.size)) av.toArray s rm.cells rm.slots (va_A W s.heap.size), va_A W s.heap.size, maxL)
    ⟨⟨B.exec, B.bytes, hml, by rw [← ho]; exact findClass_of_methodNamed B.named, atoms_spec (ws := wds) B.pre⟩, B.returns, B.notSynchronized, hK, fun q h => Or.inr h, rfl, rfl, trivial⟩ rfl
  have hl := lv_entry av (n := maxL) hlen
  rw [hL] at hl
  rw [lg_entry_eq]
  exact hg s.heap [] _ hP hD0.self va_S.rf hl
section CALLS
variable {E : gE} {X : gX} {cc : ByteArray} {own : String} {Ts : List Cond} {ret : Option FieldType} {rm : Room} {n0 : Nat} {cells slots pc : Nat} {L L' : List (Nat × Value)} {st : List Value} {ws ws' : va_W}
theorem g_back {rmY : Room} {V V' : va_W} {ov : Option Value} {p : Program} {e : Env} {R : Room} {s : State} {m : MethodId} {args : Array Value} {below : List Frame} {meth : Method} {c : Code} {Q : State → Prop} {A : Nat → Prop} {nL : Nat} {H : Heap} {locs : List Loc} {ls : Array Slot} {rest st0 : List Value} {isC : List Nat} {a : Array Value}
    (hA : ∀ q, s.heap.size ≤ q → A q) (ha : V'.map Prod.fst = V.map Prod.fst) (hP : va_P E.2.1 vwCl ws H) (hD : va_D A ws) (hS : va_S A s.heap H locs) (hl : lv_has ls nL L) (hC : isC.map (fun i => ws[i]?) = V.map some) (hn : va_nd isC = true) (hset : wput ws isC V' = ws')
    (hr : va_Run p E.1 e R s m args below meth c H locs cells slots rmY.cells rmY.slots (F0 m pc ls st0) rest (gPost E ov V' (va_A V H.size) a) (va_A V H.size))
    (kk : G E (p, e, R, s, m, args, below, meth, c, Q, A, nL) (cells + rmY.cells) (slots + rmY.slots) (pc + 3) L (ov.toList ++ rest) ws') : W p E.1 e R s m args below meth c H locs cells slots Q (F0 m pc ls st0) := by
  intro T hT X
  obtain ⟨v, st₀, t, T', Lc, h0, X', hL, e1, -, ⟨⟨hv, hP1⟩, hz, hk⟩, stp⟩ := hr T hT X
  cases hv
  rw [h0] at hz hk
  have hFc := va_free (wc := V) hD hS hA isC hC
  obtain ⟨hP2, hD2⟩ := wput_ok hP hD hn hC ha hk hP1
  rw [hset] at hP2 hD2
  rw [← e1] at hP2
  have hS2 : va_S A s.heap T'.heap (locs ++ Lc) := ⟨Nat.le_trans hS.1 (by rw [e1]; exact hz), fun q h1 h2 => by rw [e1, hk q (Nat.lt_of_lt_of_le h1 hS.1) (fun z => h2 (hFc q z))]; exact hS.2.1 q h1 h2, fun q hq => by
      rcases List.mem_append.mp hq with h | h
      · exact hS.2.2 q h
      · exact hFc _ (hL q h)⟩
  obtain ⟨t2, a1, b1⟩ := kk T'.heap (locs ++ Lc) ls hP2 hD2 hS2 hl T' rfl X'
  exact ⟨t2, stp t2 a1, b1⟩
/-- what a call asks of numbers and names -/
abbrev gRm (rm rmY : Room) (maxL : Nat) : Prop := rmY.frames + 1 ≤ rm.frames ∧ 8 + (maxL + 11) + rmY.locals ≤ rm.locals
theorem g_callV (F : gF E X cc own Ts ret rm n0) {y : MethodName} {wds wds' : List Cond} {rmY : Room} {As : List Value} {b : Nat} {W W' : va_W} {ov : Option Value} {bytes : ByteArray} {maxL index ci : Nat} {rety : Option FieldType} {fs : List Value} {C : String} {T : u_T} {N : Nat} {rest : List Value}
    (hdg : decode cc pc = .ok (.invokevirtual index, 3)) (hM : Ct E y wds rmY (.ref b :: As) W ov W') (hw : wds = .code y bytes maxL rety :: wds') (hG : GoodIn Ts (wsV own index C y wds)) (q0 : Nat) (he : ws[q0]? = some (b, .inr (ci, fs))) (hc : vwCl[ci]? = some (C, T, N))
    (hd : y.cls = C ∧ y.cls ≠ "java/lang/invoke/MethodHandle" ∧ y.cls ≠ "java/lang/invoke/VarHandle" ∧ (parseMethodDescriptor y.desc).map (fun d => d.parameters.length) = some As.length) (hRm : gRm rm rmY maxL) (isC : List Nat) (hC : isC.map (fun i => ws[i]?) = W.map some) (hn : va_nd isC = true) (hset : wput ws isC W' = ws') (hst : st = As.reverse ++ .ref b :: rest) (hroom : (rest.map fun v => v.category).sum ≤ 8) (hcs : cells + rmY.cells ≤ rm.cells ∧ slots + rmY.slots ≤ rm.slots)
    (kk : G E X (cells + rmY.cells) (slots + rmY.slots) (pc + 3) L (ov.toList ++ rest) ws') : G E X cells slots pc L st ws := by
  obtain ⟨p, e, R, s, m, args, below, meth, c, Q, A, nL⟩ := X
  obtain ⟨⟨hx, hb, hml, hown, hts⟩, hr, hlk, hK, hA, hR, hn0, hT⟩ := F
  subst hR; subst hst
  intro H locs ls hP hD hS hl
  refine g_back hA hM.1 hP hD hS hl hC hn hset (va_runV (As := As) (rest := rest) ⟨hx, hb, hml, hown, hts⟩ (hM.2 H.size) (cwV As.length hts hG hw rfl rfl hd hRm) ⟨gPre.blind, va_recv hK.1 hP (ci := ci) (q0 := q0) hc he, fun U hU hW => ⟨rfl, by rw [hU], by rw [hU]; exact hP.sub isC (by
    have h1 : isC.filterMap (fun i => ws[i]?) = (isC.map (fun i => ws[i]?)).filterMap id := by rw [List.filterMap_map]; rfl
    rw [h1, hC, List.filterMap_map]; exact List.filterMap_some), gK.warm hW hK, (hD.sub isC hn hC).weaken (fun _ _ _ _ => trivial)⟩⟩ rfl rfl hl.1 rfl (lv_room hroom) hdg hcs) kk
/-- a static method of the own class -/
theorem g_callS (F : gF E X cc own Ts ret rm n0) {y : MethodName} {wds wds' : List Cond} {rmY : Room} {As : List Value} {W W' : va_W} {ov : Option Value} {bytes : ByteArray} {maxL index : Nat} {rety : Option FieldType} {rest : List Value}
    (hdg : decode cc pc = .ok (.invokestatic index, 3)) (hM : Ct E y wds rmY As W ov W') (hw : wds = .code y bytes maxL rety :: wds') (hG : GoodIn Ts (va_wsS own index y wds))
    (hd : y.cls ≠ "java/lang/invoke/MethodHandle" ∧ y.cls ≠ "java/lang/invoke/VarHandle" ∧ (parseMethodDescriptor y.desc).map (fun d => d.parameters.length) = some As.length) (hRm : gRm rm rmY maxL) (isC : List Nat) (hC : isC.map (fun i => ws[i]?) = W.map some) (hn : va_nd isC = true) (hset : wput ws isC W' = ws') (hst : st = As.reverse ++ rest) (hroom : (rest.map fun v => v.category).sum ≤ 8) (hcs : cells + rmY.cells ≤ rm.cells ∧ slots + rmY.slots ≤ rm.slots)
    (kk : G E X (cells + rmY.cells) (slots + rmY.slots) (pc + 3) L (ov.toList ++ rest) ws') : G E X cells slots pc L st ws := by
  obtain ⟨p, e, R, s, m, args, below, meth, c, Q, A, nL⟩ := X
  obtain ⟨⟨hx, hb, hml, hown, hts⟩, hr, hlk, hK, hA, hR, hn0, hT⟩ := F
  subst hR; subst hst
  intro H locs ls hP hD hS hl
  exact g_back hA hM.1 hP hD hS hl hC hn hset (va_runS (As := As) (rest := rest) ⟨hx, hb, hml, hown, hts⟩ (hM.2 H.size) (va_cwS As.length hts hG hw rfl rfl hd hRm) ⟨gPre.blind, fun U hU hW => ⟨rfl, by rw [hU], by rw [hU]; exact hP.sub isC (by
    have h1 : isC.filterMap (fun i => ws[i]?) = (isC.map (fun i => ws[i]?)).filterMap id := by rw [List.filterMap_map]; rfl
    rw [h1, hC, List.filterMap_map]; exact List.filterMap_some), gK.warm hW hK, (hD.sub isC hn hC).weaken (fun _ _ _ _ => trivial)⟩⟩ rfl rfl hl.1 rfl (lv_room hroom) hdg hcs) kk
/-- a static method of a nest mate -/
theorem g_callSN (F : gF E X cc own Ts ret rm n0) {y : MethodName} {wds wds' : List Cond} {rmY : Room} {As : List Value} {W W' : va_W} {ov : Option Value} {bytes : ByteArray} {maxL index : Nat} {rety : Option FieldType} {rest : List Value}
    (hdg : decode cc pc = .ok (.invokestatic index, 3)) (hM : Ct E y wds rmY As W ov W') (hw : wds = .code y bytes maxL rety :: wds') (hG : GoodIn Ts wds) (h1 : Cond.static y ∈ Ts) (h2 : Cond.initialized y.cls ∈ Ts) (hq : (own, index, y) ∈ gNq)
    (hd : y.cls ≠ "java/lang/invoke/MethodHandle" ∧ y.cls ≠ "java/lang/invoke/VarHandle" ∧ (parseMethodDescriptor y.desc).map (fun d => d.parameters.length) = some As.length) (hRm : gRm rm rmY maxL) (isC : List Nat) (hC : isC.map (fun i => ws[i]?) = W.map some) (hn : va_nd isC = true) (hset : wput ws isC W' = ws') (hst : st = As.reverse ++ rest) (hroom : (rest.map fun v => v.category).sum ≤ 8) (hcs : cells + rmY.cells ≤ rm.cells ∧ slots + rmY.slots ≤ rm.slots)
    (kk : G E X (cells + rmY.cells) (slots + rmY.slots) (pc + 3) L (ov.toList ++ rest) ws') : G E X cells slots pc L st ws := by
  obtain ⟨p, e, R, s, m, args, below, meth, c, Q, A, nL⟩ := X
  obtain ⟨⟨hx, hb, hml, hown, hts⟩, hr, hlk, hK, hA, hR, hn0, hT⟩ := F
  subst hR; subst hst
  intro H locs ls hP hD hS hl
  exact g_back hA hM.1 hP hD hS hl hC hn hset (va_runSN (As := As) (rest := rest) ⟨hx, hb, hml, hown, hts⟩ (hM.2 H.size) ⟨va_cnB As.length hts hG hw rfl rfl (hK.2.1 _ hq) (hts _ h2) hd hRm, hts _ h1, trivial⟩ ⟨gPre.blind, fun U hU hW => ⟨rfl, by rw [hU], by rw [hU]; exact hP.sub isC (by
    have h1 : isC.filterMap (fun i => ws[i]?) = (isC.map (fun i => ws[i]?)).filterMap id := by rw [List.filterMap_map]; rfl
    rw [h1, hC, List.filterMap_map]; exact List.filterMap_some), gK.warm hW hK, (hD.sub isC hn hC).weaken (fun _ _ _ _ => trivial)⟩⟩ rfl rfl hl.1 rfl (lv_room hroom) hdg hcs) kk
/-- the ends -/
theorem g_iret (F : gF E X cc own Ts (some .int) rm n0) {v r : Int32} {W' : va_W} (hQ : gEnd E X (some (.int r)) W' cells slots) (hdg : decode cc pc = .ok (.ireturn, 1)) (hv : v = r) (hw : ws = W') : G E X cells slots pc L [.int v] ws := by
  obtain ⟨p, e, R, s, m, args, below, meth, c, Q, A, nL⟩ := X
  obtain ⟨⟨hx, hb, hml, hown, hts⟩, hr, hlk, hK, hA, hR, hn0, hT⟩ := F
  subst hv; subst hw
  intro H locs ls hP hD hS hl
  have hQ : Q = _ := hQ
  subst hQ
  exact W.iret hx hb hr (fun t ht hW => ⟨⟨rfl, by rw [ht]; exact hP⟩, hS.F ht⟩) hS.2.2 hdg hlk
theorem g_zret (F : gF E X cc own Ts (some .boolean) rm n0) {v r : Int32} {W' : va_W} (hQ : gEnd E X (some (.int r)) W' cells slots) (hdg : decode cc pc = .ok (.ireturn, 1)) (hz : v = 0 ∨ v = 1) (hv : v = r) (hw : ws = W') : G E X cells slots pc L [.int v] ws := by
  obtain ⟨p, e, R, s, m, args, below, meth, c, Q, A, nL⟩ := X
  obtain ⟨⟨hx, hb, hml, hown, hts⟩, hr, hlk, hK, hA, hR, hn0, hT⟩ := F
  subst hv; subst hw
  intro H locs ls hP hD hS hl
  have hQ : Q = _ := hQ
  subst hQ
  exact W.zret hx hb hr (by rcases hz with rfl | rfl <;> rfl) (fun t ht hW => ⟨⟨rfl, by rw [ht]; exact hP⟩, hS.F ht⟩) hS.2.2 hdg hlk
theorem g_lret (F : gF E X cc own Ts (some .long) rm n0) {v r : Int64} {W' : va_W} (hQ : gEnd E X (some (.long r)) W' cells slots) (hdg : decode cc pc = .ok (.lreturn, 1)) (hv : v = r) (hw : ws = W') : G E X cells slots pc L [.long v] ws := by
  obtain ⟨p, e, R, s, m, args, below, meth, c, Q, A, nL⟩ := X
  obtain ⟨⟨hx, hb, hml, hown, hts⟩, hr, hlk, hK, hA, hR, hn0, hT⟩ := F
  subst hv; subst hw
  intro H locs ls hP hD hS hl
  have hQ : Q = _ := hQ
  subst hQ
  exact W.lret hx hb hr (fun t ht hW => ⟨⟨rfl, by rw [ht]; exact hP⟩, hS.F ht⟩) hS.2.2 hdg hlk
theorem g_vret (F : gF E X cc own Ts none rm n0) {W' : va_W} (hQ : gEnd E X none W' cells slots) (hdg : decode cc pc = .ok (.return_, 1)) (hw : ws = W') : G E X cells slots pc L [] ws := by
  obtain ⟨p, e, R, s, m, args, below, meth, c, Q, A, nL⟩ := X
  obtain ⟨⟨hx, hb, hml, hown, hts⟩, hr, hlk, hK, hA, hR, hn0, hT⟩ := F
  subst hw
  intro H locs ls hP hD hS hl
  have hQ : Q = _ := hQ
  subst hQ
  exact W.vret hx hb hr (fun t ht hW => ⟨⟨rfl, by rw [ht]; exact hP⟩, hS.F ht⟩) hS.2.2 hdg hlk
end CALLS
end GBASE
